/-! the class's forecasts over the heap (layout 343): written by wip/px/gen_h8.py -/
set_option maxRecDepth 100000 in
theorem xbF0_M : j_meth jP 142 = some (yX9_cost, cX9_cost, 3, (some .int), 2, false, 9) := rfl
set_option maxRecDepth 100000 in
theorem xbF0_0 : j_code jP 142 0 = some (.iload_n 2) := rfl
set_option maxRecDepth 100000 in
theorem xbF0_1 : j_code jP 142 1 = some (.iconst 1) := rfl
set_option maxRecDepth 100000 in
theorem xbF0_2 : j_code jP 142 2 = some (.bipush 99) := rfl
set_option maxRecDepth 100000 in
theorem xbF0_4 : j_code jP 142 4 = some (.invokestatic 138) := rfl
set_option maxRecDepth 100000 in
theorem xbF0_7 : j_code jP 142 7 = some (.ifCond .ne 9) := rfl
set_option maxRecDepth 100000 in
theorem xbF0_10 : j_code jP 142 10 = some (.aload_n 0) := rfl
set_option maxRecDepth 100000 in
theorem xbF0_11 : j_code jP 142 11 = some (.iconst 1) := rfl
set_option maxRecDepth 100000 in
theorem xbF0_12 : j_code jP 142 12 = some (.invokevirtual 84) := rfl
set_option maxRecDepth 100000 in
theorem xbF0_15 : j_code jP 142 15 = some (.ireturn) := rfl
set_option maxRecDepth 100000 in
theorem xbF0_16 : j_code jP 142 16 = some (.aload_n 0) := rfl
set_option maxRecDepth 100000 in
theorem xbF0_17 : j_code jP 142 17 = some (.iload_n 1) := rfl
set_option maxRecDepth 100000 in
theorem xbF0_18 : j_code jP 142 18 = some (.invokevirtual 184) := rfl
set_option maxRecDepth 100000 in
theorem xbF0_21 : j_code jP 142 21 = some (.ifCond .ne 9) := rfl
set_option maxRecDepth 100000 in
theorem xbF0_24 : j_code jP 142 24 = some (.aload_n 0) := rfl
set_option maxRecDepth 100000 in
theorem xbF0_25 : j_code jP 142 25 = some (.iconst 2) := rfl
set_option maxRecDepth 100000 in
theorem xbF0_26 : j_code jP 142 26 = some (.invokevirtual 84) := rfl
set_option maxRecDepth 100000 in
theorem xbF0_29 : j_code jP 142 29 = some (.ireturn) := rfl
set_option maxRecDepth 100000 in
theorem xbF0_30 : j_code jP 142 30 = some (.aload_n 0) := rfl
set_option maxRecDepth 100000 in
theorem xbF0_31 : j_code jP 142 31 = some (.getfield 30) := rfl
set_option maxRecDepth 100000 in
theorem xbF0_34 : j_code jP 142 34 = some (.getfield 205) := rfl
set_option maxRecDepth 100000 in
theorem xbF0_37 : j_code jP 142 37 = some (.iload_n 1) := rfl
set_option maxRecDepth 100000 in
theorem xbF0_38 : j_code jP 142 38 = some (.iaload) := rfl
set_option maxRecDepth 100000 in
theorem xbF0_39 : j_code jP 142 39 = some (.iconst 3) := rfl
set_option maxRecDepth 100000 in
theorem xbF0_40 : j_code jP 142 40 = some (.if_icmp .ne 9) := rfl
set_option maxRecDepth 100000 in
theorem xbF0_43 : j_code jP 142 43 = some (.aload_n 0) := rfl
set_option maxRecDepth 100000 in
theorem xbF0_44 : j_code jP 142 44 = some (.iconst 4) := rfl
set_option maxRecDepth 100000 in
theorem xbF0_45 : j_code jP 142 45 = some (.invokevirtual 84) := rfl
set_option maxRecDepth 100000 in
theorem xbF0_48 : j_code jP 142 48 = some (.ireturn) := rfl
set_option maxRecDepth 100000 in
theorem xbF0_49 : j_code jP 142 49 = some (.aload_n 0) := rfl
set_option maxRecDepth 100000 in
theorem xbF0_50 : j_code jP 142 50 = some (.aload_n 0) := rfl
set_option maxRecDepth 100000 in
theorem xbF0_51 : j_code jP 142 51 = some (.getfield 44) := rfl
set_option maxRecDepth 100000 in
theorem xbF0_54 : j_code jP 142 54 = some (.aload_n 0) := rfl
set_option maxRecDepth 100000 in
theorem xbF0_55 : j_code jP 142 55 = some (.getfield 30) := rfl
set_option maxRecDepth 100000 in
theorem xbF0_58 : j_code jP 142 58 = some (.iload_n 1) := rfl
set_option maxRecDepth 100000 in
theorem xbF0_59 : j_code jP 142 59 = some (.iload_n 2) := rfl
set_option maxRecDepth 100000 in
theorem xbF0_60 : j_code jP 142 60 = some (.invokevirtual 338) := rfl
set_option maxRecDepth 100000 in
theorem xbF0_63 : j_code jP 142 63 = some (.aload_n 0) := rfl
set_option maxRecDepth 100000 in
theorem xbF0_64 : j_code jP 142 64 = some (.getfield 44) := rfl
set_option maxRecDepth 100000 in
theorem xbF0_67 : j_code jP 142 67 = some (.aload_n 0) := rfl
set_option maxRecDepth 100000 in
theorem xbF0_68 : j_code jP 142 68 = some (.getfield 30) := rfl
set_option maxRecDepth 100000 in
theorem xbF0_71 : j_code jP 142 71 = some (.invokevirtual 342) := rfl
set_option maxRecDepth 100000 in
theorem xbF0_74 : j_code jP 142 74 = some (.isub) := rfl
set_option maxRecDepth 100000 in
theorem xbF0_75 : j_code jP 142 75 = some (.invokevirtual 104) := rfl
set_option maxRecDepth 100000 in
theorem xbF0_78 : j_code jP 142 78 = some (.ireturn) := rfl
set_option maxRecDepth 1000000 in
theorem hq_cost_B {g0 : J_H} {n S m d : Nat} {w : List Int32} {sst th sst' : Int32} (R : hX 343 327 n S w sst g0) (Q : hT9 282 0 g0) (C281 : g0[281]? = some (.inl (1, [.ref 282, .ref 307, .ref 323, .ref 324]))) (hm : gN w 201 = nI m) (hm9 : m < 2 ^ 29) (x1 : Int32) (x2 : Int32) : j_V jP d 142 0 (lv_args 0 [.ref 0, .int x1, .int x2]) [] g0 (fun rv h' => fqP 343 327 n S w (m_qcost n th sst' w x1 x2) rv g0 h') := by
  have R0 := R
  have C0 := R.1
  have P : hF 343 n S w g0 := ⟨R.2.1, R.2.2, Q, C281⟩
  have hb : m + 300 < 2 ^ 30 := by omega
  refine hX.opn R (fun mi shu bus lks rl pev rk sta ph sp ce du he ri us cm lf lkd row sea pms pmm pmt pst pwa prs prr pfa CS hl4 V cel run tra len siz frm tto lst slo wei fit way rid lon CL Y T hlY => ?_)
  have h5 := V.1.n5
  by_cases m1 : m_isFrom x2 1 99 = 0
  · have c1 : (x_isWithin x2 1 99) = 0 := m1
    rw [show m_qcost n th sst' w x1 x2 = (-1, 0, 1) by unfold m_qcost; rw [if_pos m1]; rfl]
    have FA : ∀ x, (x < 282 ∨ 324 < x) → g0[x]? = g0[x]? := fun x _ => rfl
    have TA := P.2.2.1
    have K9 : kA g0 [(0, .inl (9, [.ref 1, .ref 3, .ref 4, .ref 29, .ref 281, .ref 325, .ref 343, .ref 327, .int sst])), (4, .inl (7, [.ref 343, .int mi, .int shu, .int bus, .ref 5, .ref 6, .ref 7, .ref 8, .ref 9, .ref 10, .ref 11, .ref 12, .ref 13, .ref 14, .ref 15, .int lks, .ref 16, .ref 17, .ref 20])), (5, .inr (.inl (0, rk))), (7, .inr (.inl (0, ph))), (281, .inl (1, [.ref 282, .ref 307, .ref 323, .ref 324])), (343, .inl (2, [.int (nI S), .ref 344, .ref 345, .ref 346, .ref 347, .int (nI n), .ref 348, .ref 349, .ref 350, .ref 351, .ref 352, .ref 353, .ref 354, .int cel, .ref 355, .ref 356, .ref 357, .ref 358])), (346, .inr (.inl (0, tra))), (351, .inr (.inl (0, tto)))] := ⟨(FA 0 (by decide)).trans C0, (FA 4 (by decide)).trans CS.1, (FA 5 (by decide)).trans CS.2.1, (FA 7 (by decide)).trans CS.2.2.2.1, P.2.2.2, (FA 343 (by decide)).trans CL.1, (FA 346 (by decide)).trans CL.2.2.1, (FA 351 (by decide)).trans CL.2.2.2.2.2.2.1, trivial⟩
    have K : KN g0 [(0, .inl (9, [.ref 1, .ref 3, .ref 4, .ref 29, .ref 281, .ref 325, .ref 343, .ref 327, .int sst])), (4, .inl (7, [.ref 343, .int mi, .int shu, .int bus, .ref 5, .ref 6, .ref 7, .ref 8, .ref 9, .ref 10, .ref 11, .ref 12, .ref 13, .ref 14, .ref 15, .int lks, .ref 16, .ref 17, .ref 20])), (5, .inr (.inl (0, rk))), (7, .inr (.inl (0, ph))), (281, .inl (1, [.ref 282, .ref 307, .ref 323, .ref 324])), (343, .inl (2, [.int (nI S), .ref 344, .ref 345, .ref 346, .ref 347, .int (nI n), .ref 348, .ref 349, .ref 350, .ref 351, .ref 352, .ref 353, .ref 354, .int cel, .ref 355, .ref 356, .ref 357, .ref 358])), (346, .inr (.inl (0, tra))), (351, .inr (.inl (0, tto)))] g0 := K9.K
    show j_V jP d 142 0 [(0, .ref 0), (1, .int x1), (2, .int x2)] [] g0 _
    obtain ⟨lv, elv, L⟩ : ∃ lv, lv = [(0, .ref 0), (1, .int x1), (2, .int x2)] ∧ LK lv [(0, .ref 0), (1, .int x1), (2, .int x2)] := ⟨_, rfl, LK.rf⟩
    rw [← elv]
    clear elv
    refine j_V.ldL xbF0_M xbF0_0 rfl (i := 2) (kd := 0) (v := .int x2) (pcJ := 1) rfl L rfl rfl rfl ?_
    refine j_V.one xbF0_M xbF0_1 (by decide) (pcJ := 2) (stJ := [.int 1, .int x2]) rfl ?_
    refine j_V.one xbF0_M xbF0_2 (by decide) (pcJ := 4) (stJ := [.int 99, .int 1, .int x2]) rfl ?_
    refine j_V.cl xbF0_M xbF0_4 rfl (md := 2) (mj := 162) rfl (by decide) xbwisWi_M (As := [.int x2, .int 1, .int 99]) (rest := []) (jk_spl2 rfl rfl (Nat.le_of_ble_eq_true rfl) (Nat.le_of_ble_eq_true rfl)) (fun d => xbwisWi_ok (K.fi [] rfl rfl)) ?_
    rintro r hz ⟨rfl, ez⟩
    rw [ez]
    clear ez
    show j_V jP _ 142 7 lv [.int (x_isWithin x2 1 99)] g0 _
    refine j_V.ifc xbF0_M xbF0_7 (t := 16) rfl (fun c7_0 => ?_) (fun c7_0 => ?_)
    · replace c7_0 : ¬ ((x_isWithin x2 1 99) = 0) := jd_ne c7_0
      exact absurd c1 c7_0
    · replace c7_0 : (x_isWithin x2 1 99) = 0 := jd_nen c7_0
      refine j_V.ldL xbF0_M xbF0_10 rfl (i := 0) (kd := 2) (v := .ref 0) (pcJ := 11) rfl L rfl rfl rfl ?_
      refine j_V.one xbF0_M xbF0_11 (by decide) (pcJ := 12) (stJ := [.int 1, .ref 0]) rfl ?_
      refine j_V.cl xbF0_M xbF0_12 rfl (md := 3) (mj := 161) rfl (by decide) xb50_M (As := [.ref 0, .int 1]) (rest := []) (jk_spl3 (K.at rfl) rfl rfl rfl (Nat.le_of_ble_eq_true rfl) (Nat.le_of_ble_eq_true rfl)) (fun d => xb50_ok (K.fi [0] rfl rfl)) ?_
      rintro r h9 ⟨rfl, K9⟩
      have K : KN h9 [(0, .inl (9, [.ref 1, .ref 3, .ref 4, .ref 29, .ref 281, .ref 325, .ref 343, .ref 327, .int ((x_qrefuse sst 1).2)])), (4, .inl (7, [.ref 343, .int mi, .int shu, .int bus, .ref 5, .ref 6, .ref 7, .ref 8, .ref 9, .ref 10, .ref 11, .ref 12, .ref 13, .ref 14, .ref 15, .int lks, .ref 16, .ref 17, .ref 20])), (5, .inr (.inl (0, rk))), (7, .inr (.inl (0, ph))), (281, .inl (1, [.ref 282, .ref 307, .ref 323, .ref 324])), (343, .inl (2, [.int (nI S), .ref 344, .ref 345, .ref 346, .ref 347, .int (nI n), .ref 348, .ref 349, .ref 350, .ref 351, .ref 352, .ref 353, .ref 354, .int cel, .ref 355, .ref 356, .ref 357, .ref 358])), (346, .inr (.inl (0, tra))), (351, .inr (.inl (0, tto)))] g0 := K.mg K9 rfl rfl
      clear K9
      show j_V jP _ 142 15 lv [.int ((x_qrefuse sst 1).1)] h9 _
      refine j_V.ri xbF0_M xbF0_15 ?_
      exact fqP.yes R0 FA TA (fun x g => KN.off K9 K (lkn (fun z => g z.symm) (lke (lke (lke (lke (lke (lke (lke rfl))))))))) (K.at rfl)
  have c1 : ¬ ((x_isWithin x2 1 99) = 0) := m1
  by_cases m2 : m_isTrain w x1 = 0
  · have c2 : (x_isTrain (nI n) x1) = 0 := (g_train V.1.g x1).trans m2
    rw [show m_qcost n th sst' w x1 x2 = (-1, 0, 2) by unfold m_qcost; rw [if_neg m1, if_pos m2]; rfl]
    have FA : ∀ x, (x < 282 ∨ 324 < x) → g0[x]? = g0[x]? := fun x _ => rfl
    have TA := P.2.2.1
    have K9 : kA g0 [(0, .inl (9, [.ref 1, .ref 3, .ref 4, .ref 29, .ref 281, .ref 325, .ref 343, .ref 327, .int sst])), (4, .inl (7, [.ref 343, .int mi, .int shu, .int bus, .ref 5, .ref 6, .ref 7, .ref 8, .ref 9, .ref 10, .ref 11, .ref 12, .ref 13, .ref 14, .ref 15, .int lks, .ref 16, .ref 17, .ref 20])), (5, .inr (.inl (0, rk))), (7, .inr (.inl (0, ph))), (281, .inl (1, [.ref 282, .ref 307, .ref 323, .ref 324])), (343, .inl (2, [.int (nI S), .ref 344, .ref 345, .ref 346, .ref 347, .int (nI n), .ref 348, .ref 349, .ref 350, .ref 351, .ref 352, .ref 353, .ref 354, .int cel, .ref 355, .ref 356, .ref 357, .ref 358])), (346, .inr (.inl (0, tra))), (351, .inr (.inl (0, tto)))] := ⟨(FA 0 (by decide)).trans C0, (FA 4 (by decide)).trans CS.1, (FA 5 (by decide)).trans CS.2.1, (FA 7 (by decide)).trans CS.2.2.2.1, P.2.2.2, (FA 343 (by decide)).trans CL.1, (FA 346 (by decide)).trans CL.2.2.1, (FA 351 (by decide)).trans CL.2.2.2.2.2.2.1, trivial⟩
    have K : KN g0 [(0, .inl (9, [.ref 1, .ref 3, .ref 4, .ref 29, .ref 281, .ref 325, .ref 343, .ref 327, .int sst])), (4, .inl (7, [.ref 343, .int mi, .int shu, .int bus, .ref 5, .ref 6, .ref 7, .ref 8, .ref 9, .ref 10, .ref 11, .ref 12, .ref 13, .ref 14, .ref 15, .int lks, .ref 16, .ref 17, .ref 20])), (5, .inr (.inl (0, rk))), (7, .inr (.inl (0, ph))), (281, .inl (1, [.ref 282, .ref 307, .ref 323, .ref 324])), (343, .inl (2, [.int (nI S), .ref 344, .ref 345, .ref 346, .ref 347, .int (nI n), .ref 348, .ref 349, .ref 350, .ref 351, .ref 352, .ref 353, .ref 354, .int cel, .ref 355, .ref 356, .ref 357, .ref 358])), (346, .inr (.inl (0, tra))), (351, .inr (.inl (0, tto)))] g0 := K9.K
    show j_V jP d 142 0 [(0, .ref 0), (1, .int x1), (2, .int x2)] [] g0 _
    obtain ⟨lv, elv, L⟩ : ∃ lv, lv = [(0, .ref 0), (1, .int x1), (2, .int x2)] ∧ LK lv [(0, .ref 0), (1, .int x1), (2, .int x2)] := ⟨_, rfl, LK.rf⟩
    rw [← elv]
    clear elv
    refine j_V.ldL xbF0_M xbF0_0 rfl (i := 2) (kd := 0) (v := .int x2) (pcJ := 1) rfl L rfl rfl rfl ?_
    refine j_V.one xbF0_M xbF0_1 (by decide) (pcJ := 2) (stJ := [.int 1, .int x2]) rfl ?_
    refine j_V.one xbF0_M xbF0_2 (by decide) (pcJ := 4) (stJ := [.int 99, .int 1, .int x2]) rfl ?_
    refine j_V.cl xbF0_M xbF0_4 rfl (md := 2) (mj := 162) rfl (by decide) xbwisWi_M (As := [.int x2, .int 1, .int 99]) (rest := []) (jk_spl2 rfl rfl (Nat.le_of_ble_eq_true rfl) (Nat.le_of_ble_eq_true rfl)) (fun d => xbwisWi_ok (K.fi [] rfl rfl)) ?_
    rintro r hz ⟨rfl, ez⟩
    rw [ez]
    clear ez
    show j_V jP _ 142 7 lv [.int (x_isWithin x2 1 99)] g0 _
    refine j_V.ifc xbF0_M xbF0_7 (t := 16) rfl (fun c7_0 => ?_) (fun c7_0 => ?_)
    · replace c7_0 : ¬ ((x_isWithin x2 1 99) = 0) := jd_ne c7_0
      refine j_V.ldL xbF0_M xbF0_16 rfl (i := 0) (kd := 2) (v := .ref 0) (pcJ := 17) rfl L rfl rfl rfl ?_
      refine j_V.ldL xbF0_M xbF0_17 rfl (i := 1) (kd := 0) (v := .int x1) (pcJ := 18) rfl L rfl rfl rfl ?_
      refine j_V.cl xbF0_M xbF0_18 rfl (md := 3) (mj := 165) rfl (by decide) xb47_M (As := [.ref 0, .int x1]) (rest := []) (jk_spl3 (K.at rfl) rfl rfl rfl (Nat.le_of_ble_eq_true rfl) (Nat.le_of_ble_eq_true rfl)) (fun d => xb47_ok (K.fi [0, 343] rfl rfl)) ?_
      rintro r hz ⟨rfl, ez⟩
      rw [ez]
      clear ez
      show j_V jP _ 142 21 lv [.int (x_isTrain (nI n) x1)] g0 _
      refine j_V.ifc xbF0_M xbF0_21 (t := 30) rfl (fun c21_0 => ?_) (fun c21_0 => ?_)
      · replace c21_0 : ¬ ((x_isTrain (nI n) x1) = 0) := jd_ne c21_0
        exact absurd c2 c21_0
      · replace c21_0 : (x_isTrain (nI n) x1) = 0 := jd_nen c21_0
        refine j_V.ldL xbF0_M xbF0_24 rfl (i := 0) (kd := 2) (v := .ref 0) (pcJ := 25) rfl L rfl rfl rfl ?_
        refine j_V.one xbF0_M xbF0_25 (by decide) (pcJ := 26) (stJ := [.int 2, .ref 0]) rfl ?_
        refine j_V.cl xbF0_M xbF0_26 rfl (md := 3) (mj := 161) rfl (by decide) xb50_M (As := [.ref 0, .int 2]) (rest := []) (jk_spl3 (K.at rfl) rfl rfl rfl (Nat.le_of_ble_eq_true rfl) (Nat.le_of_ble_eq_true rfl)) (fun d => xb50_ok (K.fi [0] rfl rfl)) ?_
        rintro r h9 ⟨rfl, K9⟩
        have K : KN h9 [(0, .inl (9, [.ref 1, .ref 3, .ref 4, .ref 29, .ref 281, .ref 325, .ref 343, .ref 327, .int ((x_qrefuse sst 2).2)])), (4, .inl (7, [.ref 343, .int mi, .int shu, .int bus, .ref 5, .ref 6, .ref 7, .ref 8, .ref 9, .ref 10, .ref 11, .ref 12, .ref 13, .ref 14, .ref 15, .int lks, .ref 16, .ref 17, .ref 20])), (5, .inr (.inl (0, rk))), (7, .inr (.inl (0, ph))), (281, .inl (1, [.ref 282, .ref 307, .ref 323, .ref 324])), (343, .inl (2, [.int (nI S), .ref 344, .ref 345, .ref 346, .ref 347, .int (nI n), .ref 348, .ref 349, .ref 350, .ref 351, .ref 352, .ref 353, .ref 354, .int cel, .ref 355, .ref 356, .ref 357, .ref 358])), (346, .inr (.inl (0, tra))), (351, .inr (.inl (0, tto)))] g0 := K.mg K9 rfl rfl
        clear K9
        show j_V jP _ 142 29 lv [.int ((x_qrefuse sst 2).1)] h9 _
        refine j_V.ri xbF0_M xbF0_29 ?_
        exact fqP.yes R0 FA TA (fun x g => KN.off K9 K (lkn (fun z => g z.symm) (lke (lke (lke (lke (lke (lke (lke rfl))))))))) (K.at rfl)
    · replace c7_0 : (x_isWithin x2 1 99) = 0 := jd_nen c7_0
      exact absurd c7_0 c1
  have c2 : ¬ ((x_isTrain (nI n) x1) = 0) := fun z => m2 ((g_train V.1.g x1).symm.trans z)
  obtain ⟨t, ht, rfl⟩ := (isTrain_n V.1.g).mp m2
  have e6 : gA ph (nI t) = m_of w (nI t) 6 := by rw [gA_n (by omega), V.2.1.1.pph ht, m_of6 (by omega)]
  by_cases m3 : m_of w (nI t) 6 = 3
  · have c3 : (gA ph (nI t)) = 3 := e6.trans m3
    rw [show m_qcost n th sst' w (nI t) x2 = (-1, 0, 4) by unfold m_qcost; rw [if_neg m1, if_neg m2, if_pos m3]; rfl]
    have FA : ∀ x, (x < 282 ∨ 324 < x) → g0[x]? = g0[x]? := fun x _ => rfl
    have TA := P.2.2.1
    have K9 : kA g0 [(0, .inl (9, [.ref 1, .ref 3, .ref 4, .ref 29, .ref 281, .ref 325, .ref 343, .ref 327, .int sst])), (4, .inl (7, [.ref 343, .int mi, .int shu, .int bus, .ref 5, .ref 6, .ref 7, .ref 8, .ref 9, .ref 10, .ref 11, .ref 12, .ref 13, .ref 14, .ref 15, .int lks, .ref 16, .ref 17, .ref 20])), (5, .inr (.inl (0, rk))), (7, .inr (.inl (0, ph))), (281, .inl (1, [.ref 282, .ref 307, .ref 323, .ref 324])), (343, .inl (2, [.int (nI S), .ref 344, .ref 345, .ref 346, .ref 347, .int (nI n), .ref 348, .ref 349, .ref 350, .ref 351, .ref 352, .ref 353, .ref 354, .int cel, .ref 355, .ref 356, .ref 357, .ref 358])), (346, .inr (.inl (0, tra))), (351, .inr (.inl (0, tto)))] := ⟨(FA 0 (by decide)).trans C0, (FA 4 (by decide)).trans CS.1, (FA 5 (by decide)).trans CS.2.1, (FA 7 (by decide)).trans CS.2.2.2.1, P.2.2.2, (FA 343 (by decide)).trans CL.1, (FA 346 (by decide)).trans CL.2.2.1, (FA 351 (by decide)).trans CL.2.2.2.2.2.2.1, trivial⟩
    have K : KN g0 [(0, .inl (9, [.ref 1, .ref 3, .ref 4, .ref 29, .ref 281, .ref 325, .ref 343, .ref 327, .int sst])), (4, .inl (7, [.ref 343, .int mi, .int shu, .int bus, .ref 5, .ref 6, .ref 7, .ref 8, .ref 9, .ref 10, .ref 11, .ref 12, .ref 13, .ref 14, .ref 15, .int lks, .ref 16, .ref 17, .ref 20])), (5, .inr (.inl (0, rk))), (7, .inr (.inl (0, ph))), (281, .inl (1, [.ref 282, .ref 307, .ref 323, .ref 324])), (343, .inl (2, [.int (nI S), .ref 344, .ref 345, .ref 346, .ref 347, .int (nI n), .ref 348, .ref 349, .ref 350, .ref 351, .ref 352, .ref 353, .ref 354, .int cel, .ref 355, .ref 356, .ref 357, .ref 358])), (346, .inr (.inl (0, tra))), (351, .inr (.inl (0, tto)))] g0 := K9.K
    show j_V jP d 142 0 [(0, .ref 0), (1, .int (nI t)), (2, .int x2)] [] g0 _
    obtain ⟨lv, elv, L⟩ : ∃ lv, lv = [(0, .ref 0), (1, .int (nI t)), (2, .int x2)] ∧ LK lv [(0, .ref 0), (1, .int (nI t)), (2, .int x2)] := ⟨_, rfl, LK.rf⟩
    rw [← elv]
    clear elv
    refine j_V.ldL xbF0_M xbF0_0 rfl (i := 2) (kd := 0) (v := .int x2) (pcJ := 1) rfl L rfl rfl rfl ?_
    refine j_V.one xbF0_M xbF0_1 (by decide) (pcJ := 2) (stJ := [.int 1, .int x2]) rfl ?_
    refine j_V.one xbF0_M xbF0_2 (by decide) (pcJ := 4) (stJ := [.int 99, .int 1, .int x2]) rfl ?_
    refine j_V.cl xbF0_M xbF0_4 rfl (md := 2) (mj := 162) rfl (by decide) xbwisWi_M (As := [.int x2, .int 1, .int 99]) (rest := []) (jk_spl2 rfl rfl (Nat.le_of_ble_eq_true rfl) (Nat.le_of_ble_eq_true rfl)) (fun d => xbwisWi_ok (K.fi [] rfl rfl)) ?_
    rintro r hz ⟨rfl, ez⟩
    rw [ez]
    clear ez
    show j_V jP _ 142 7 lv [.int (x_isWithin x2 1 99)] g0 _
    refine j_V.ifc xbF0_M xbF0_7 (t := 16) rfl (fun c7_0 => ?_) (fun c7_0 => ?_)
    · replace c7_0 : ¬ ((x_isWithin x2 1 99) = 0) := jd_ne c7_0
      refine j_V.ldL xbF0_M xbF0_16 rfl (i := 0) (kd := 2) (v := .ref 0) (pcJ := 17) rfl L rfl rfl rfl ?_
      refine j_V.ldL xbF0_M xbF0_17 rfl (i := 1) (kd := 0) (v := .int (nI t)) (pcJ := 18) rfl L rfl rfl rfl ?_
      refine j_V.cl xbF0_M xbF0_18 rfl (md := 3) (mj := 165) rfl (by decide) xb47_M (As := [.ref 0, .int (nI t)]) (rest := []) (jk_spl3 (K.at rfl) rfl rfl rfl (Nat.le_of_ble_eq_true rfl) (Nat.le_of_ble_eq_true rfl)) (fun d => xb47_ok (K.fi [0, 343] rfl rfl)) ?_
      rintro r hz ⟨rfl, ez⟩
      rw [ez]
      clear ez
      show j_V jP _ 142 21 lv [.int (x_isTrain (nI n) (nI t))] g0 _
      refine j_V.ifc xbF0_M xbF0_21 (t := 30) rfl (fun c21_0 => ?_) (fun c21_0 => ?_)
      · replace c21_0 : ¬ ((x_isTrain (nI n) (nI t)) = 0) := jd_ne c21_0
        refine j_V.ldL xbF0_M xbF0_30 rfl (i := 0) (kd := 2) (v := .ref 0) (pcJ := 31) rfl L rfl rfl rfl ?_
        refine j_V.getK xbF0_M xbF0_31 (ci := 9) (j := 2) rfl K rfl rfl ?_
        refine j_V.getK xbF0_M xbF0_34 (ci := 7) (j := 6) rfl K rfl rfl ?_
        refine j_V.ldL xbF0_M xbF0_37 rfl (i := 1) (kd := 0) (v := .int (nI t)) (pcJ := 38) rfl L rfl rfl rfl ?_
        refine j_V.iaA xbF0_M xbF0_38 K rfl ?_
        refine j_V.one xbF0_M xbF0_39 (by decide) (pcJ := 40) (stJ := [.int 3, .int (gA ph (nI t))]) rfl ?_
        refine j_V.icmp xbF0_M xbF0_40 (t := 49) rfl (fun c40_0 => ?_) (fun c40_0 => ?_)
        · replace c40_0 : ¬ ((gA ph (nI t)) = 3) := jd_ne c40_0
          exact absurd c3 c40_0
        · replace c40_0 : (gA ph (nI t)) = 3 := jd_nen c40_0
          refine j_V.ldL xbF0_M xbF0_43 rfl (i := 0) (kd := 2) (v := .ref 0) (pcJ := 44) rfl L rfl rfl rfl ?_
          refine j_V.one xbF0_M xbF0_44 (by decide) (pcJ := 45) (stJ := [.int 4, .ref 0]) rfl ?_
          refine j_V.cl xbF0_M xbF0_45 rfl (md := 3) (mj := 161) rfl (by decide) xb50_M (As := [.ref 0, .int 4]) (rest := []) (jk_spl3 (K.at rfl) rfl rfl rfl (Nat.le_of_ble_eq_true rfl) (Nat.le_of_ble_eq_true rfl)) (fun d => xb50_ok (K.fi [0] rfl rfl)) ?_
          rintro r h9 ⟨rfl, K9⟩
          have K : KN h9 [(0, .inl (9, [.ref 1, .ref 3, .ref 4, .ref 29, .ref 281, .ref 325, .ref 343, .ref 327, .int ((x_qrefuse sst 4).2)])), (4, .inl (7, [.ref 343, .int mi, .int shu, .int bus, .ref 5, .ref 6, .ref 7, .ref 8, .ref 9, .ref 10, .ref 11, .ref 12, .ref 13, .ref 14, .ref 15, .int lks, .ref 16, .ref 17, .ref 20])), (5, .inr (.inl (0, rk))), (7, .inr (.inl (0, ph))), (281, .inl (1, [.ref 282, .ref 307, .ref 323, .ref 324])), (343, .inl (2, [.int (nI S), .ref 344, .ref 345, .ref 346, .ref 347, .int (nI n), .ref 348, .ref 349, .ref 350, .ref 351, .ref 352, .ref 353, .ref 354, .int cel, .ref 355, .ref 356, .ref 357, .ref 358])), (346, .inr (.inl (0, tra))), (351, .inr (.inl (0, tto)))] g0 := K.mg K9 rfl rfl
          clear K9
          show j_V jP _ 142 48 lv [.int ((x_qrefuse sst 4).1)] h9 _
          refine j_V.ri xbF0_M xbF0_48 ?_
          exact fqP.yes R0 FA TA (fun x g => KN.off K9 K (lkn (fun z => g z.symm) (lke (lke (lke (lke (lke (lke (lke rfl))))))))) (K.at rfl)
      · replace c21_0 : (x_isTrain (nI n) (nI t)) = 0 := jd_nen c21_0
        exact absurd c21_0 c2
    · replace c7_0 : (x_isWithin x2 1 99) = 0 := jd_nen c7_0
      exact absurd c7_0 c1
  have c3 : ¬ ((gA ph (nI t)) = 3) := fun z => m3 (e6.symm.trans z)
  have ep : m_puts w (nI t) 10 (gA w 201 + x2) = w.set (56 + 28 * t + 10) (gN w 201 + x2) := by rw [gA_201]; exact m_puts_n (k := 10) (by omega) (by decide)
  have FA : ∀ x, (x < 282 ∨ 324 < x) → g0[x]? = g0[x]? := fun x _ => rfl
  have TA := P.2.2.1
  have K9 : kA g0 [(0, .inl (9, [.ref 1, .ref 3, .ref 4, .ref 29, .ref 281, .ref 325, .ref 343, .ref 327, .int sst])), (4, .inl (7, [.ref 343, .int mi, .int shu, .int bus, .ref 5, .ref 6, .ref 7, .ref 8, .ref 9, .ref 10, .ref 11, .ref 12, .ref 13, .ref 14, .ref 15, .int lks, .ref 16, .ref 17, .ref 20])), (5, .inr (.inl (0, rk))), (7, .inr (.inl (0, ph))), (281, .inl (1, [.ref 282, .ref 307, .ref 323, .ref 324])), (343, .inl (2, [.int (nI S), .ref 344, .ref 345, .ref 346, .ref 347, .int (nI n), .ref 348, .ref 349, .ref 350, .ref 351, .ref 352, .ref 353, .ref 354, .int cel, .ref 355, .ref 356, .ref 357, .ref 358])), (346, .inr (.inl (0, tra))), (351, .inr (.inl (0, tto)))] := ⟨(FA 0 (by decide)).trans C0, (FA 4 (by decide)).trans CS.1, (FA 5 (by decide)).trans CS.2.1, (FA 7 (by decide)).trans CS.2.2.2.1, P.2.2.2, (FA 343 (by decide)).trans CL.1, (FA 346 (by decide)).trans CL.2.2.1, (FA 351 (by decide)).trans CL.2.2.2.2.2.2.1, trivial⟩
  have K : KN g0 [(0, .inl (9, [.ref 1, .ref 3, .ref 4, .ref 29, .ref 281, .ref 325, .ref 343, .ref 327, .int sst])), (4, .inl (7, [.ref 343, .int mi, .int shu, .int bus, .ref 5, .ref 6, .ref 7, .ref 8, .ref 9, .ref 10, .ref 11, .ref 12, .ref 13, .ref 14, .ref 15, .int lks, .ref 16, .ref 17, .ref 20])), (5, .inr (.inl (0, rk))), (7, .inr (.inl (0, ph))), (281, .inl (1, [.ref 282, .ref 307, .ref 323, .ref 324])), (343, .inl (2, [.int (nI S), .ref 344, .ref 345, .ref 346, .ref 347, .int (nI n), .ref 348, .ref 349, .ref 350, .ref 351, .ref 352, .ref 353, .ref 354, .int cel, .ref 355, .ref 356, .ref 357, .ref 358])), (346, .inr (.inl (0, tra))), (351, .inr (.inl (0, tto)))] g0 := K9.K
  show j_V jP d 142 0 [(0, .ref 0), (1, .int (nI t)), (2, .int x2)] [] g0 _
  obtain ⟨lv, elv, L⟩ : ∃ lv, lv = [(0, .ref 0), (1, .int (nI t)), (2, .int x2)] ∧ LK lv [(0, .ref 0), (1, .int (nI t)), (2, .int x2)] := ⟨_, rfl, LK.rf⟩
  rw [← elv]
  clear elv
  refine j_V.ldL xbF0_M xbF0_0 rfl (i := 2) (kd := 0) (v := .int x2) (pcJ := 1) rfl L rfl rfl rfl ?_
  refine j_V.one xbF0_M xbF0_1 (by decide) (pcJ := 2) (stJ := [.int 1, .int x2]) rfl ?_
  refine j_V.one xbF0_M xbF0_2 (by decide) (pcJ := 4) (stJ := [.int 99, .int 1, .int x2]) rfl ?_
  refine j_V.cl xbF0_M xbF0_4 rfl (md := 2) (mj := 162) rfl (by decide) xbwisWi_M (As := [.int x2, .int 1, .int 99]) (rest := []) (jk_spl2 rfl rfl (Nat.le_of_ble_eq_true rfl) (Nat.le_of_ble_eq_true rfl)) (fun d => xbwisWi_ok (K.fi [] rfl rfl)) ?_
  rintro r hz ⟨rfl, ez⟩
  rw [ez]
  clear ez
  show j_V jP _ 142 7 lv [.int (x_isWithin x2 1 99)] g0 _
  refine j_V.ifc xbF0_M xbF0_7 (t := 16) rfl (fun c7_0 => ?_) (fun c7_0 => ?_)
  · replace c7_0 : ¬ ((x_isWithin x2 1 99) = 0) := jd_ne c7_0
    refine j_V.ldL xbF0_M xbF0_16 rfl (i := 0) (kd := 2) (v := .ref 0) (pcJ := 17) rfl L rfl rfl rfl ?_
    refine j_V.ldL xbF0_M xbF0_17 rfl (i := 1) (kd := 0) (v := .int (nI t)) (pcJ := 18) rfl L rfl rfl rfl ?_
    refine j_V.cl xbF0_M xbF0_18 rfl (md := 3) (mj := 165) rfl (by decide) xb47_M (As := [.ref 0, .int (nI t)]) (rest := []) (jk_spl3 (K.at rfl) rfl rfl rfl (Nat.le_of_ble_eq_true rfl) (Nat.le_of_ble_eq_true rfl)) (fun d => xb47_ok (K.fi [0, 343] rfl rfl)) ?_
    rintro r hz ⟨rfl, ez⟩
    rw [ez]
    clear ez
    show j_V jP _ 142 21 lv [.int (x_isTrain (nI n) (nI t))] g0 _
    refine j_V.ifc xbF0_M xbF0_21 (t := 30) rfl (fun c21_0 => ?_) (fun c21_0 => ?_)
    · replace c21_0 : ¬ ((x_isTrain (nI n) (nI t)) = 0) := jd_ne c21_0
      refine j_V.ldL xbF0_M xbF0_30 rfl (i := 0) (kd := 2) (v := .ref 0) (pcJ := 31) rfl L rfl rfl rfl ?_
      refine j_V.getK xbF0_M xbF0_31 (ci := 9) (j := 2) rfl K rfl rfl ?_
      refine j_V.getK xbF0_M xbF0_34 (ci := 7) (j := 6) rfl K rfl rfl ?_
      refine j_V.ldL xbF0_M xbF0_37 rfl (i := 1) (kd := 0) (v := .int (nI t)) (pcJ := 38) rfl L rfl rfl rfl ?_
      refine j_V.iaA xbF0_M xbF0_38 K rfl ?_
      refine j_V.one xbF0_M xbF0_39 (by decide) (pcJ := 40) (stJ := [.int 3, .int (gA ph (nI t))]) rfl ?_
      refine j_V.icmp xbF0_M xbF0_40 (t := 49) rfl (fun c40_0 => ?_) (fun c40_0 => ?_)
      · replace c40_0 : ¬ ((gA ph (nI t)) = 3) := jd_ne c40_0
        refine j_V.ldL xbF0_M xbF0_49 rfl (i := 0) (kd := 2) (v := .ref 0) (pcJ := 50) rfl L rfl rfl rfl ?_
        refine j_V.ldL xbF0_M xbF0_50 rfl (i := 0) (kd := 2) (v := .ref 0) (pcJ := 51) rfl L rfl rfl rfl ?_
        refine j_V.getK xbF0_M xbF0_51 (ci := 9) (j := 4) rfl K rfl rfl ?_
        refine j_V.ldL xbF0_M xbF0_54 rfl (i := 0) (kd := 2) (v := .ref 0) (pcJ := 55) rfl L rfl rfl rfl ?_
        refine j_V.getK xbF0_M xbF0_55 (ci := 9) (j := 2) rfl K rfl rfl ?_
        refine j_V.ldL xbF0_M xbF0_58 rfl (i := 1) (kd := 0) (v := .int (nI t)) (pcJ := 59) rfl L rfl rfl rfl ?_
        refine j_V.ldL xbF0_M xbF0_59 rfl (i := 2) (kd := 0) (v := .int x2) (pcJ := 60) rfl L rfl rfl rfl ?_
        refine j_V.cl xbF0_M xbF0_60 rfl (md := 3) (mj := 8) rfl (by decide) fp1_M (As := [.ref 281, .ref 4, .int (nI t), .int x2]) (rest := [.ref 0]) (jk_spl3 (K.at rfl) rfl rfl rfl (Nat.le_of_ble_eq_true rfl) (Nat.le_of_ble_eq_true rfl)) (fun d => hp_held_343 P hm ht hb) ?_
        rintro r h21 ⟨rfl, TA, F9⟩
        replace FA : ∀ x, (x < 282 ∨ 324 < x) → h21[x]? = g0[x]? := fun x g => (F9 x (by omega)).trans (FA x g)
        replace P : hF 343 n S w h21 := P.fr (fun x g => F9 x (by omega)) TA
        have K9 : kA h21 [(0, .inl (9, [.ref 1, .ref 3, .ref 4, .ref 29, .ref 281, .ref 325, .ref 343, .ref 327, .int sst])), (4, .inl (7, [.ref 343, .int mi, .int shu, .int bus, .ref 5, .ref 6, .ref 7, .ref 8, .ref 9, .ref 10, .ref 11, .ref 12, .ref 13, .ref 14, .ref 15, .int lks, .ref 16, .ref 17, .ref 20])), (5, .inr (.inl (0, rk))), (7, .inr (.inl (0, ph))), (281, .inl (1, [.ref 282, .ref 307, .ref 323, .ref 324])), (343, .inl (2, [.int (nI S), .ref 344, .ref 345, .ref 346, .ref 347, .int (nI n), .ref 348, .ref 349, .ref 350, .ref 351, .ref 352, .ref 353, .ref 354, .int cel, .ref 355, .ref 356, .ref 357, .ref 358])), (346, .inr (.inl (0, tra))), (351, .inr (.inl (0, tto)))] := ⟨(FA 0 (by decide)).trans C0, (FA 4 (by decide)).trans CS.1, (FA 5 (by decide)).trans CS.2.1, (FA 7 (by decide)).trans CS.2.2.2.1, P.2.2.2, (FA 343 (by decide)).trans CL.1, (FA 346 (by decide)).trans CL.2.2.1, (FA 351 (by decide)).trans CL.2.2.2.2.2.2.1, trivial⟩
        have K : KN h21 [(0, .inl (9, [.ref 1, .ref 3, .ref 4, .ref 29, .ref 281, .ref 325, .ref 343, .ref 327, .int sst])), (4, .inl (7, [.ref 343, .int mi, .int shu, .int bus, .ref 5, .ref 6, .ref 7, .ref 8, .ref 9, .ref 10, .ref 11, .ref 12, .ref 13, .ref 14, .ref 15, .int lks, .ref 16, .ref 17, .ref 20])), (5, .inr (.inl (0, rk))), (7, .inr (.inl (0, ph))), (281, .inl (1, [.ref 282, .ref 307, .ref 323, .ref 324])), (343, .inl (2, [.int (nI S), .ref 344, .ref 345, .ref 346, .ref 347, .int (nI n), .ref 348, .ref 349, .ref 350, .ref 351, .ref 352, .ref 353, .ref 354, .int cel, .ref 355, .ref 356, .ref 357, .ref 358])), (346, .inr (.inl (0, tra))), (351, .inr (.inl (0, tto)))] h21 := K9.K
        show j_V jP _ 142 63 lv [.int (pE n (w.set (56 + 28 * t + 10) (gN w 201 + x2))), .ref 0] h21 _
        refine j_V.ldL xbF0_M xbF0_63 rfl (i := 0) (kd := 2) (v := .ref 0) (pcJ := 64) rfl L rfl rfl rfl ?_
        refine j_V.getK xbF0_M xbF0_64 (ci := 9) (j := 4) rfl K rfl rfl ?_
        refine j_V.ldL xbF0_M xbF0_67 rfl (i := 0) (kd := 2) (v := .ref 0) (pcJ := 68) rfl L rfl rfl rfl ?_
        refine j_V.getK xbF0_M xbF0_68 (ci := 9) (j := 2) rfl K rfl rfl ?_
        refine j_V.cl xbF0_M xbF0_71 rfl (md := 3) (mj := 7) rfl (by decide) fp0_M (As := [.ref 281, .ref 4]) (rest := [.int (pE n (w.set (56 + 28 * t + 10) (gN w 201 + x2))), .ref 0]) (jk_spl3 (K.at rfl) rfl rfl rfl (Nat.le_of_ble_eq_true rfl) (Nat.le_of_ble_eq_true rfl)) (fun d => hp_now_343 P hm hb) ?_
        rintro r h22 ⟨rfl, TA, F9⟩
        replace FA : ∀ x, (x < 282 ∨ 324 < x) → h22[x]? = g0[x]? := fun x g => (F9 x (by omega)).trans (FA x g)
        replace P : hF 343 n S w h22 := P.fr (fun x g => F9 x (by omega)) TA
        have K9 : kA h22 [(0, .inl (9, [.ref 1, .ref 3, .ref 4, .ref 29, .ref 281, .ref 325, .ref 343, .ref 327, .int sst])), (4, .inl (7, [.ref 343, .int mi, .int shu, .int bus, .ref 5, .ref 6, .ref 7, .ref 8, .ref 9, .ref 10, .ref 11, .ref 12, .ref 13, .ref 14, .ref 15, .int lks, .ref 16, .ref 17, .ref 20])), (5, .inr (.inl (0, rk))), (7, .inr (.inl (0, ph))), (281, .inl (1, [.ref 282, .ref 307, .ref 323, .ref 324])), (343, .inl (2, [.int (nI S), .ref 344, .ref 345, .ref 346, .ref 347, .int (nI n), .ref 348, .ref 349, .ref 350, .ref 351, .ref 352, .ref 353, .ref 354, .int cel, .ref 355, .ref 356, .ref 357, .ref 358])), (346, .inr (.inl (0, tra))), (351, .inr (.inl (0, tto)))] := ⟨(FA 0 (by decide)).trans C0, (FA 4 (by decide)).trans CS.1, (FA 5 (by decide)).trans CS.2.1, (FA 7 (by decide)).trans CS.2.2.2.1, P.2.2.2, (FA 343 (by decide)).trans CL.1, (FA 346 (by decide)).trans CL.2.2.1, (FA 351 (by decide)).trans CL.2.2.2.2.2.2.1, trivial⟩
        have K : KN h22 [(0, .inl (9, [.ref 1, .ref 3, .ref 4, .ref 29, .ref 281, .ref 325, .ref 343, .ref 327, .int sst])), (4, .inl (7, [.ref 343, .int mi, .int shu, .int bus, .ref 5, .ref 6, .ref 7, .ref 8, .ref 9, .ref 10, .ref 11, .ref 12, .ref 13, .ref 14, .ref 15, .int lks, .ref 16, .ref 17, .ref 20])), (5, .inr (.inl (0, rk))), (7, .inr (.inl (0, ph))), (281, .inl (1, [.ref 282, .ref 307, .ref 323, .ref 324])), (343, .inl (2, [.int (nI S), .ref 344, .ref 345, .ref 346, .ref 347, .int (nI n), .ref 348, .ref 349, .ref 350, .ref 351, .ref 352, .ref 353, .ref 354, .int cel, .ref 355, .ref 356, .ref 357, .ref 358])), (346, .inr (.inl (0, tra))), (351, .inr (.inl (0, tto)))] h22 := K9.K
        show j_V jP _ 142 74 lv [.int (pE n w), .int (pE n (w.set (56 + 28 * t + 10) (gN w 201 + x2))), .ref 0] h22 _
        refine j_V.one xbF0_M xbF0_74 (by decide) (pcJ := 75) (stJ := [.int ((pE n (w.set (56 + 28 * t + 10) (gN w 201 + x2))) - (pE n w)), .ref 0]) rfl ?_
        refine j_V.cl xbF0_M xbF0_75 rfl (md := 3) (mj := 159) rfl (by decide) xb49_M (As := [.ref 0, .int ((pE n (w.set (56 + 28 * t + 10) (gN w 201 + x2))) - (pE n w))]) (rest := []) (jk_spl3 (K.at rfl) rfl rfl rfl (Nat.le_of_ble_eq_true rfl) (Nat.le_of_ble_eq_true rfl)) (fun d => xb49_ok (K.fi [0] rfl rfl)) ?_
        rintro r h9 ⟨rfl, K9⟩
        have K : KN h9 [(0, .inl (9, [.ref 1, .ref 3, .ref 4, .ref 29, .ref 281, .ref 325, .ref 343, .ref 327, .int ((x_qanswer sst ((pE n (w.set (56 + 28 * t + 10) (gN w 201 + x2))) - (pE n w))).2)])), (4, .inl (7, [.ref 343, .int mi, .int shu, .int bus, .ref 5, .ref 6, .ref 7, .ref 8, .ref 9, .ref 10, .ref 11, .ref 12, .ref 13, .ref 14, .ref 15, .int lks, .ref 16, .ref 17, .ref 20])), (5, .inr (.inl (0, rk))), (7, .inr (.inl (0, ph))), (281, .inl (1, [.ref 282, .ref 307, .ref 323, .ref 324])), (343, .inl (2, [.int (nI S), .ref 344, .ref 345, .ref 346, .ref 347, .int (nI n), .ref 348, .ref 349, .ref 350, .ref 351, .ref 352, .ref 353, .ref 354, .int cel, .ref 355, .ref 356, .ref 357, .ref 358])), (346, .inr (.inl (0, tra))), (351, .inr (.inl (0, tto)))] h22 := K.mg K9 rfl rfl
        clear K9
        show j_V jP _ 142 78 lv [.int ((x_qanswer sst ((pE n (w.set (56 + 28 * t + 10) (gN w 201 + x2))) - (pE n w))).1)] h9 _
        refine j_V.ri xbF0_M xbF0_78 ?_
        rw [show m_qcost n th sst' w (nI t) x2 = (((pE n (w.set (56 + 28 * t + 10) (gN w 201 + x2))) - (pE n w)), 0, 0) by unfold m_qcost; rw [if_neg m1, if_neg m2, if_neg m3, ep]; rfl]
        exact fqP.yes R0 FA TA (fun x g => KN.off K9 K (lkn (fun z => g z.symm) (lke (lke (lke (lke (lke (lke (lke rfl))))))))) (K.at rfl)
      · replace c40_0 : (gA ph (nI t)) = 3 := jd_nen c40_0
        exact absurd c40_0 c3
    · replace c21_0 : (x_isTrain (nI n) (nI t)) = 0 := jd_nen c21_0
      exact absurd c21_0 c2
  · replace c7_0 : (x_isWithin x2 1 99) = 0 := jd_nen c7_0
    exact absurd c7_0 c1
set_option maxRecDepth 100000 in
theorem xbF1_M : j_meth jP 138 = some (yX9_ahead, cX9_ahead, 5, (some .int), 3, false, 9) := rfl
set_option maxRecDepth 100000 in
theorem xbF1_0 : j_code jP 138 0 = some (.iload_n 1) := rfl
set_option maxRecDepth 100000 in
theorem xbF1_1 : j_code jP 138 1 = some (.iconst 0) := rfl
set_option maxRecDepth 100000 in
theorem xbF1_2 : j_code jP 138 2 = some (.bipush 99) := rfl
set_option maxRecDepth 100000 in
theorem xbF1_4 : j_code jP 138 4 = some (.invokestatic 138) := rfl
set_option maxRecDepth 100000 in
theorem xbF1_7 : j_code jP 138 7 = some (.ifCond .eq 12) := rfl
set_option maxRecDepth 100000 in
theorem xbF1_10 : j_code jP 138 10 = some (.iload_n 3) := rfl
set_option maxRecDepth 100000 in
theorem xbF1_11 : j_code jP 138 11 = some (.iconst 0) := rfl
set_option maxRecDepth 100000 in
theorem xbF1_12 : j_code jP 138 12 = some (.iconst 5) := rfl
set_option maxRecDepth 100000 in
theorem xbF1_13 : j_code jP 138 13 = some (.invokestatic 138) := rfl
set_option maxRecDepth 100000 in
theorem xbF1_16 : j_code jP 138 16 = some (.ifCond .ne 9) := rfl
set_option maxRecDepth 100000 in
theorem xbF1_19 : j_code jP 138 19 = some (.aload_n 0) := rfl
set_option maxRecDepth 100000 in
theorem xbF1_20 : j_code jP 138 20 = some (.iconst 1) := rfl
set_option maxRecDepth 100000 in
theorem xbF1_21 : j_code jP 138 21 = some (.invokevirtual 84) := rfl
set_option maxRecDepth 100000 in
theorem xbF1_24 : j_code jP 138 24 = some (.ireturn) := rfl
set_option maxRecDepth 100000 in
theorem xbF1_25 : j_code jP 138 25 = some (.aload_n 0) := rfl
set_option maxRecDepth 100000 in
theorem xbF1_26 : j_code jP 138 26 = some (.getfield 44) := rfl
set_option maxRecDepth 100000 in
theorem xbF1_29 : j_code jP 138 29 = some (.aload_n 0) := rfl
set_option maxRecDepth 100000 in
theorem xbF1_30 : j_code jP 138 30 = some (.getfield 30) := rfl
set_option maxRecDepth 100000 in
theorem xbF1_33 : j_code jP 138 33 = some (.iload_n 1) := rfl
set_option maxRecDepth 100000 in
theorem xbF1_34 : j_code jP 138 34 = some (.iload_n 2) := rfl
set_option maxRecDepth 100000 in
theorem xbF1_35 : j_code jP 138 35 = some (.invokevirtual 320) := rfl
set_option maxRecDepth 100000 in
theorem xbF1_38 : j_code jP 138 38 = some (.astore 4) := rfl
set_option maxRecDepth 100000 in
theorem xbF1_40 : j_code jP 138 40 = some (.iload_n 3) := rfl
set_option maxRecDepth 100000 in
theorem xbF1_41 : j_code jP 138 41 = some (.tableswitch 104 0 4 #[35, 46, 57, 75, 93]) := rfl
set_option maxRecDepth 100000 in
theorem xbF1_76 : j_code jP 138 76 = some (.aload_n 0) := rfl
set_option maxRecDepth 100000 in
theorem xbF1_77 : j_code jP 138 77 = some (.aload 4) := rfl
set_option maxRecDepth 100000 in
theorem xbF1_79 : j_code jP 138 79 = some (.iconst 3) := rfl
set_option maxRecDepth 100000 in
theorem xbF1_80 : j_code jP 138 80 = some (.invokevirtual 119) := rfl
set_option maxRecDepth 100000 in
theorem xbF1_83 : j_code jP 138 83 = some (.invokevirtual 104) := rfl
set_option maxRecDepth 100000 in
theorem xbF1_86 : j_code jP 138 86 = some (.ireturn) := rfl
set_option maxRecDepth 100000 in
theorem xbF1_87 : j_code jP 138 87 = some (.aload_n 0) := rfl
set_option maxRecDepth 100000 in
theorem xbF1_88 : j_code jP 138 88 = some (.aload 4) := rfl
set_option maxRecDepth 100000 in
theorem xbF1_90 : j_code jP 138 90 = some (.iconst (-1)) := rfl
set_option maxRecDepth 100000 in
theorem xbF1_91 : j_code jP 138 91 = some (.invokevirtual 122) := rfl
set_option maxRecDepth 100000 in
theorem xbF1_94 : j_code jP 138 94 = some (.invokevirtual 104) := rfl
set_option maxRecDepth 100000 in
theorem xbF1_97 : j_code jP 138 97 = some (.ireturn) := rfl
set_option maxRecDepth 100000 in
theorem xbF1_98 : j_code jP 138 98 = some (.aload_n 0) := rfl
set_option maxRecDepth 100000 in
theorem xbF1_99 : j_code jP 138 99 = some (.aload 4) := rfl
set_option maxRecDepth 100000 in
theorem xbF1_101 : j_code jP 138 101 = some (.invokevirtual 127) := rfl
set_option maxRecDepth 100000 in
theorem xbF1_104 : j_code jP 138 104 = some (.ifCond .eq 7) := rfl
set_option maxRecDepth 100000 in
theorem xbF1_107 : j_code jP 138 107 = some (.iconst 1) := rfl
set_option maxRecDepth 100000 in
theorem xbF1_108 : j_code jP 138 108 = some (.goto 4) := rfl
set_option maxRecDepth 100000 in
theorem xbF1_111 : j_code jP 138 111 = some (.iconst 0) := rfl
set_option maxRecDepth 100000 in
theorem xbF1_112 : j_code jP 138 112 = some (.invokevirtual 104) := rfl
set_option maxRecDepth 100000 in
theorem xbF1_115 : j_code jP 138 115 = some (.ireturn) := rfl
set_option maxRecDepth 100000 in
theorem xbF1_116 : j_code jP 138 116 = some (.aload_n 0) := rfl
set_option maxRecDepth 100000 in
theorem xbF1_117 : j_code jP 138 117 = some (.aload 4) := rfl
set_option maxRecDepth 100000 in
theorem xbF1_119 : j_code jP 138 119 = some (.invokevirtual 131) := rfl
set_option maxRecDepth 100000 in
theorem xbF1_122 : j_code jP 138 122 = some (.ifCond .eq 7) := rfl
set_option maxRecDepth 100000 in
theorem xbF1_125 : j_code jP 138 125 = some (.iconst 1) := rfl
set_option maxRecDepth 100000 in
theorem xbF1_126 : j_code jP 138 126 = some (.goto 4) := rfl
set_option maxRecDepth 100000 in
theorem xbF1_129 : j_code jP 138 129 = some (.iconst 0) := rfl
set_option maxRecDepth 100000 in
theorem xbF1_130 : j_code jP 138 130 = some (.invokevirtual 104) := rfl
set_option maxRecDepth 100000 in
theorem xbF1_133 : j_code jP 138 133 = some (.ireturn) := rfl
set_option maxRecDepth 100000 in
theorem xbF1_134 : j_code jP 138 134 = some (.aload_n 0) := rfl
set_option maxRecDepth 100000 in
theorem xbF1_135 : j_code jP 138 135 = some (.aload 4) := rfl
set_option maxRecDepth 100000 in
theorem xbF1_137 : j_code jP 138 137 = some (.iconst 2) := rfl
set_option maxRecDepth 100000 in
theorem xbF1_138 : j_code jP 138 138 = some (.invokevirtual 119) := rfl
set_option maxRecDepth 100000 in
theorem xbF1_141 : j_code jP 138 141 = some (.invokevirtual 104) := rfl
set_option maxRecDepth 100000 in
theorem xbF1_144 : j_code jP 138 144 = some (.ireturn) := rfl
set_option maxRecDepth 100000 in
theorem xbF1_145 : j_code jP 138 145 = some (.aload_n 0) := rfl
set_option maxRecDepth 100000 in
theorem xbF1_146 : j_code jP 138 146 = some (.aload 4) := rfl
set_option maxRecDepth 100000 in
theorem xbF1_148 : j_code jP 138 148 = some (.iconst 0) := rfl
set_option maxRecDepth 100000 in
theorem xbF1_149 : j_code jP 138 149 = some (.invokevirtual 119) := rfl
set_option maxRecDepth 100000 in
theorem xbF1_152 : j_code jP 138 152 = some (.invokevirtual 104) := rfl
set_option maxRecDepth 100000 in
theorem xbF1_155 : j_code jP 138 155 = some (.ireturn) := rfl
set_option maxRecDepth 1000000 in
theorem hq_ahead_B {g0 : J_H} {n S m d : Nat} {w : List Int32} {sst th sst' : Int32} (R : hX 343 327 n S w sst g0) (Q : hT9 282 0 g0) (C281 : g0[281]? = some (.inl (1, [.ref 282, .ref 307, .ref 323, .ref 324]))) (hm : gN w 201 = nI m) (hm9 : m < 2 ^ 29) (x1 : Int32) (x2 : Int32) (x3 : Int32) : j_V jP d 138 0 (lv_args 0 [.ref 0, .int x1, .int x2, .int x3]) [] g0 (fun rv h' => fqP 343 327 n S w (m_qahead n th sst' w x1 x2 x3) rv g0 h') := by
  have R0 := R
  have C0 := R.1
  have P : hF 343 n S w g0 := ⟨R.2.1, R.2.2, Q, C281⟩
  have hb : m + 300 < 2 ^ 30 := by omega
  refine hX.opn R (fun mi shu bus lks rl pev rk sta ph sp ce du he ri us cm lf lkd row sea pms pmm pmt pst pwa prs prr pfa CS hl4 V cel run tra len siz frm tto lst slo wei fit way rid lon CL Y T hlY => ?_)
  have h5 := V.1.n5
  by_cases m1 : m_isFrom x1 0 99 = 0
  · have c1 : (x_isWithin x1 0 99) = 0 := m1
    rw [show m_qahead n th sst' w x1 x2 x3 = (-1, 0, 1) by unfold m_qahead; rw [if_pos m1]; rfl]
    have FA : ∀ x, (x < 282 ∨ 324 < x) → g0[x]? = g0[x]? := fun x _ => rfl
    have TA := P.2.2.1
    have K9 : kA g0 [(0, .inl (9, [.ref 1, .ref 3, .ref 4, .ref 29, .ref 281, .ref 325, .ref 343, .ref 327, .int sst])), (4, .inl (7, [.ref 343, .int mi, .int shu, .int bus, .ref 5, .ref 6, .ref 7, .ref 8, .ref 9, .ref 10, .ref 11, .ref 12, .ref 13, .ref 14, .ref 15, .int lks, .ref 16, .ref 17, .ref 20])), (5, .inr (.inl (0, rk))), (7, .inr (.inl (0, ph))), (281, .inl (1, [.ref 282, .ref 307, .ref 323, .ref 324])), (343, .inl (2, [.int (nI S), .ref 344, .ref 345, .ref 346, .ref 347, .int (nI n), .ref 348, .ref 349, .ref 350, .ref 351, .ref 352, .ref 353, .ref 354, .int cel, .ref 355, .ref 356, .ref 357, .ref 358])), (346, .inr (.inl (0, tra))), (351, .inr (.inl (0, tto)))] := ⟨(FA 0 (by decide)).trans C0, (FA 4 (by decide)).trans CS.1, (FA 5 (by decide)).trans CS.2.1, (FA 7 (by decide)).trans CS.2.2.2.1, P.2.2.2, (FA 343 (by decide)).trans CL.1, (FA 346 (by decide)).trans CL.2.2.1, (FA 351 (by decide)).trans CL.2.2.2.2.2.2.1, trivial⟩
    have K : KN g0 [(0, .inl (9, [.ref 1, .ref 3, .ref 4, .ref 29, .ref 281, .ref 325, .ref 343, .ref 327, .int sst])), (4, .inl (7, [.ref 343, .int mi, .int shu, .int bus, .ref 5, .ref 6, .ref 7, .ref 8, .ref 9, .ref 10, .ref 11, .ref 12, .ref 13, .ref 14, .ref 15, .int lks, .ref 16, .ref 17, .ref 20])), (5, .inr (.inl (0, rk))), (7, .inr (.inl (0, ph))), (281, .inl (1, [.ref 282, .ref 307, .ref 323, .ref 324])), (343, .inl (2, [.int (nI S), .ref 344, .ref 345, .ref 346, .ref 347, .int (nI n), .ref 348, .ref 349, .ref 350, .ref 351, .ref 352, .ref 353, .ref 354, .int cel, .ref 355, .ref 356, .ref 357, .ref 358])), (346, .inr (.inl (0, tra))), (351, .inr (.inl (0, tto)))] g0 := K9.K
    show j_V jP d 138 0 [(0, .ref 0), (1, .int x1), (2, .int x2), (3, .int x3)] [] g0 _
    obtain ⟨lv, elv, L⟩ : ∃ lv, lv = [(0, .ref 0), (1, .int x1), (2, .int x2), (3, .int x3)] ∧ LK lv [(0, .ref 0), (1, .int x1), (2, .int x2), (3, .int x3)] := ⟨_, rfl, LK.rf⟩
    rw [← elv]
    clear elv
    refine j_V.ldL xbF1_M xbF1_0 rfl (i := 1) (kd := 0) (v := .int x1) (pcJ := 1) rfl L rfl rfl rfl ?_
    refine j_V.one xbF1_M xbF1_1 (by decide) (pcJ := 2) (stJ := [.int 0, .int x1]) rfl ?_
    refine j_V.one xbF1_M xbF1_2 (by decide) (pcJ := 4) (stJ := [.int 99, .int 0, .int x1]) rfl ?_
    refine j_V.cl xbF1_M xbF1_4 rfl (md := 2) (mj := 162) rfl (by decide) xbwisWi_M (As := [.int x1, .int 0, .int 99]) (rest := []) (jk_spl2 rfl rfl (Nat.le_of_ble_eq_true rfl) (Nat.le_of_ble_eq_true rfl)) (fun d => xbwisWi_ok (K.fi [] rfl rfl)) ?_
    rintro r hz ⟨rfl, ez⟩
    rw [ez]
    clear ez
    show j_V jP _ 138 7 lv [.int (x_isWithin x1 0 99)] g0 _
    refine j_V.ifc xbF1_M xbF1_7 (t := 19) rfl (fun c7_0 => ?_) (fun c7_0 => ?_)
    · replace c7_0 : (x_isWithin x1 0 99) = 0 := jd_eq c7_0
      refine j_V.ldL xbF1_M xbF1_19 rfl (i := 0) (kd := 2) (v := .ref 0) (pcJ := 20) rfl L rfl rfl rfl ?_
      refine j_V.one xbF1_M xbF1_20 (by decide) (pcJ := 21) (stJ := [.int 1, .ref 0]) rfl ?_
      refine j_V.cl xbF1_M xbF1_21 rfl (md := 3) (mj := 161) rfl (by decide) xb50_M (As := [.ref 0, .int 1]) (rest := []) (jk_spl3 (K.at rfl) rfl rfl rfl (Nat.le_of_ble_eq_true rfl) (Nat.le_of_ble_eq_true rfl)) (fun d => xb50_ok (K.fi [0] rfl rfl)) ?_
      rintro r h9 ⟨rfl, K9⟩
      have K : KN h9 [(0, .inl (9, [.ref 1, .ref 3, .ref 4, .ref 29, .ref 281, .ref 325, .ref 343, .ref 327, .int ((x_qrefuse sst 1).2)])), (4, .inl (7, [.ref 343, .int mi, .int shu, .int bus, .ref 5, .ref 6, .ref 7, .ref 8, .ref 9, .ref 10, .ref 11, .ref 12, .ref 13, .ref 14, .ref 15, .int lks, .ref 16, .ref 17, .ref 20])), (5, .inr (.inl (0, rk))), (7, .inr (.inl (0, ph))), (281, .inl (1, [.ref 282, .ref 307, .ref 323, .ref 324])), (343, .inl (2, [.int (nI S), .ref 344, .ref 345, .ref 346, .ref 347, .int (nI n), .ref 348, .ref 349, .ref 350, .ref 351, .ref 352, .ref 353, .ref 354, .int cel, .ref 355, .ref 356, .ref 357, .ref 358])), (346, .inr (.inl (0, tra))), (351, .inr (.inl (0, tto)))] g0 := K.mg K9 rfl rfl
      clear K9
      show j_V jP _ 138 24 lv [.int ((x_qrefuse sst 1).1)] h9 _
      refine j_V.ri xbF1_M xbF1_24 ?_
      exact fqP.yes R0 FA TA (fun x g => KN.off K9 K (lkn (fun z => g z.symm) (lke (lke (lke (lke (lke (lke (lke rfl))))))))) (K.at rfl)
    · replace c7_0 : ¬ ((x_isWithin x1 0 99) = 0) := jd_eqn c7_0
      exact absurd c1 c7_0
  have c1 : ¬ ((x_isWithin x1 0 99) = 0) := m1
  by_cases m2 : m_isFrom x3 0 5 = 0
  · have c2 : (x_isWithin x3 0 5) = 0 := m2
    rw [show m_qahead n th sst' w x1 x2 x3 = (-1, 0, 1) by unfold m_qahead; rw [if_neg m1, if_pos m2]; rfl]
    have FA : ∀ x, (x < 282 ∨ 324 < x) → g0[x]? = g0[x]? := fun x _ => rfl
    have TA := P.2.2.1
    have K9 : kA g0 [(0, .inl (9, [.ref 1, .ref 3, .ref 4, .ref 29, .ref 281, .ref 325, .ref 343, .ref 327, .int sst])), (4, .inl (7, [.ref 343, .int mi, .int shu, .int bus, .ref 5, .ref 6, .ref 7, .ref 8, .ref 9, .ref 10, .ref 11, .ref 12, .ref 13, .ref 14, .ref 15, .int lks, .ref 16, .ref 17, .ref 20])), (5, .inr (.inl (0, rk))), (7, .inr (.inl (0, ph))), (281, .inl (1, [.ref 282, .ref 307, .ref 323, .ref 324])), (343, .inl (2, [.int (nI S), .ref 344, .ref 345, .ref 346, .ref 347, .int (nI n), .ref 348, .ref 349, .ref 350, .ref 351, .ref 352, .ref 353, .ref 354, .int cel, .ref 355, .ref 356, .ref 357, .ref 358])), (346, .inr (.inl (0, tra))), (351, .inr (.inl (0, tto)))] := ⟨(FA 0 (by decide)).trans C0, (FA 4 (by decide)).trans CS.1, (FA 5 (by decide)).trans CS.2.1, (FA 7 (by decide)).trans CS.2.2.2.1, P.2.2.2, (FA 343 (by decide)).trans CL.1, (FA 346 (by decide)).trans CL.2.2.1, (FA 351 (by decide)).trans CL.2.2.2.2.2.2.1, trivial⟩
    have K : KN g0 [(0, .inl (9, [.ref 1, .ref 3, .ref 4, .ref 29, .ref 281, .ref 325, .ref 343, .ref 327, .int sst])), (4, .inl (7, [.ref 343, .int mi, .int shu, .int bus, .ref 5, .ref 6, .ref 7, .ref 8, .ref 9, .ref 10, .ref 11, .ref 12, .ref 13, .ref 14, .ref 15, .int lks, .ref 16, .ref 17, .ref 20])), (5, .inr (.inl (0, rk))), (7, .inr (.inl (0, ph))), (281, .inl (1, [.ref 282, .ref 307, .ref 323, .ref 324])), (343, .inl (2, [.int (nI S), .ref 344, .ref 345, .ref 346, .ref 347, .int (nI n), .ref 348, .ref 349, .ref 350, .ref 351, .ref 352, .ref 353, .ref 354, .int cel, .ref 355, .ref 356, .ref 357, .ref 358])), (346, .inr (.inl (0, tra))), (351, .inr (.inl (0, tto)))] g0 := K9.K
    show j_V jP d 138 0 [(0, .ref 0), (1, .int x1), (2, .int x2), (3, .int x3)] [] g0 _
    obtain ⟨lv, elv, L⟩ : ∃ lv, lv = [(0, .ref 0), (1, .int x1), (2, .int x2), (3, .int x3)] ∧ LK lv [(0, .ref 0), (1, .int x1), (2, .int x2), (3, .int x3)] := ⟨_, rfl, LK.rf⟩
    rw [← elv]
    clear elv
    refine j_V.ldL xbF1_M xbF1_0 rfl (i := 1) (kd := 0) (v := .int x1) (pcJ := 1) rfl L rfl rfl rfl ?_
    refine j_V.one xbF1_M xbF1_1 (by decide) (pcJ := 2) (stJ := [.int 0, .int x1]) rfl ?_
    refine j_V.one xbF1_M xbF1_2 (by decide) (pcJ := 4) (stJ := [.int 99, .int 0, .int x1]) rfl ?_
    refine j_V.cl xbF1_M xbF1_4 rfl (md := 2) (mj := 162) rfl (by decide) xbwisWi_M (As := [.int x1, .int 0, .int 99]) (rest := []) (jk_spl2 rfl rfl (Nat.le_of_ble_eq_true rfl) (Nat.le_of_ble_eq_true rfl)) (fun d => xbwisWi_ok (K.fi [] rfl rfl)) ?_
    rintro r hz ⟨rfl, ez⟩
    rw [ez]
    clear ez
    show j_V jP _ 138 7 lv [.int (x_isWithin x1 0 99)] g0 _
    refine j_V.ifc xbF1_M xbF1_7 (t := 19) rfl (fun c7_0 => ?_) (fun c7_0 => ?_)
    · replace c7_0 : (x_isWithin x1 0 99) = 0 := jd_eq c7_0
      exact absurd c7_0 c1
    · replace c7_0 : ¬ ((x_isWithin x1 0 99) = 0) := jd_eqn c7_0
      refine j_V.ldL xbF1_M xbF1_10 rfl (i := 3) (kd := 0) (v := .int x3) (pcJ := 11) rfl L rfl rfl rfl ?_
      refine j_V.one xbF1_M xbF1_11 (by decide) (pcJ := 12) (stJ := [.int 0, .int x3]) rfl ?_
      refine j_V.one xbF1_M xbF1_12 (by decide) (pcJ := 13) (stJ := [.int 5, .int 0, .int x3]) rfl ?_
      refine j_V.cl xbF1_M xbF1_13 rfl (md := 2) (mj := 162) rfl (by decide) xbwisWi_M (As := [.int x3, .int 0, .int 5]) (rest := []) (jk_spl2 rfl rfl (Nat.le_of_ble_eq_true rfl) (Nat.le_of_ble_eq_true rfl)) (fun d => xbwisWi_ok (K.fi [] rfl rfl)) ?_
      rintro r hz ⟨rfl, ez⟩
      rw [ez]
      clear ez
      show j_V jP _ 138 16 lv [.int (x_isWithin x3 0 5)] g0 _
      refine j_V.ifc xbF1_M xbF1_16 (t := 25) rfl (fun c16_0 => ?_) (fun c16_0 => ?_)
      · replace c16_0 : ¬ ((x_isWithin x3 0 5) = 0) := jd_ne c16_0
        exact absurd c2 c16_0
      · replace c16_0 : (x_isWithin x3 0 5) = 0 := jd_nen c16_0
        refine j_V.ldL xbF1_M xbF1_19 rfl (i := 0) (kd := 2) (v := .ref 0) (pcJ := 20) rfl L rfl rfl rfl ?_
        refine j_V.one xbF1_M xbF1_20 (by decide) (pcJ := 21) (stJ := [.int 1, .ref 0]) rfl ?_
        refine j_V.cl xbF1_M xbF1_21 rfl (md := 3) (mj := 161) rfl (by decide) xb50_M (As := [.ref 0, .int 1]) (rest := []) (jk_spl3 (K.at rfl) rfl rfl rfl (Nat.le_of_ble_eq_true rfl) (Nat.le_of_ble_eq_true rfl)) (fun d => xb50_ok (K.fi [0] rfl rfl)) ?_
        rintro r h9 ⟨rfl, K9⟩
        have K : KN h9 [(0, .inl (9, [.ref 1, .ref 3, .ref 4, .ref 29, .ref 281, .ref 325, .ref 343, .ref 327, .int ((x_qrefuse sst 1).2)])), (4, .inl (7, [.ref 343, .int mi, .int shu, .int bus, .ref 5, .ref 6, .ref 7, .ref 8, .ref 9, .ref 10, .ref 11, .ref 12, .ref 13, .ref 14, .ref 15, .int lks, .ref 16, .ref 17, .ref 20])), (5, .inr (.inl (0, rk))), (7, .inr (.inl (0, ph))), (281, .inl (1, [.ref 282, .ref 307, .ref 323, .ref 324])), (343, .inl (2, [.int (nI S), .ref 344, .ref 345, .ref 346, .ref 347, .int (nI n), .ref 348, .ref 349, .ref 350, .ref 351, .ref 352, .ref 353, .ref 354, .int cel, .ref 355, .ref 356, .ref 357, .ref 358])), (346, .inr (.inl (0, tra))), (351, .inr (.inl (0, tto)))] g0 := K.mg K9 rfl rfl
        clear K9
        show j_V jP _ 138 24 lv [.int ((x_qrefuse sst 1).1)] h9 _
        refine j_V.ri xbF1_M xbF1_24 ?_
        exact fqP.yes R0 FA TA (fun x g => KN.off K9 K (lkn (fun z => g z.symm) (lke (lke (lke (lke (lke (lke (lke rfl))))))))) (K.at rfl)
  have c2 : ¬ ((x_isWithin x3 0 5) = 0) := m2
  obtain ⟨k, hk99, rfl⟩ := from099 m1
  have hk : m + k < 2 ^ 30 := by omega
  have ek : m_mins n x2 (lpN (nI k) (nI 0)) w = m_adv n x2 false k w := by rw [show lpN (nI k) (nI 0) = k from lpN_n0 (by omega), m_adv_f]
  have FA : ∀ x, (x < 282 ∨ 324 < x) → g0[x]? = g0[x]? := fun x _ => rfl
  have TA := P.2.2.1
  have K9 : kA g0 [(0, .inl (9, [.ref 1, .ref 3, .ref 4, .ref 29, .ref 281, .ref 325, .ref 343, .ref 327, .int sst])), (4, .inl (7, [.ref 343, .int mi, .int shu, .int bus, .ref 5, .ref 6, .ref 7, .ref 8, .ref 9, .ref 10, .ref 11, .ref 12, .ref 13, .ref 14, .ref 15, .int lks, .ref 16, .ref 17, .ref 20])), (5, .inr (.inl (0, rk))), (7, .inr (.inl (0, ph))), (281, .inl (1, [.ref 282, .ref 307, .ref 323, .ref 324])), (343, .inl (2, [.int (nI S), .ref 344, .ref 345, .ref 346, .ref 347, .int (nI n), .ref 348, .ref 349, .ref 350, .ref 351, .ref 352, .ref 353, .ref 354, .int cel, .ref 355, .ref 356, .ref 357, .ref 358])), (346, .inr (.inl (0, tra))), (351, .inr (.inl (0, tto)))] := ⟨(FA 0 (by decide)).trans C0, (FA 4 (by decide)).trans CS.1, (FA 5 (by decide)).trans CS.2.1, (FA 7 (by decide)).trans CS.2.2.2.1, P.2.2.2, (FA 343 (by decide)).trans CL.1, (FA 346 (by decide)).trans CL.2.2.1, (FA 351 (by decide)).trans CL.2.2.2.2.2.2.1, trivial⟩
  have K : KN g0 [(0, .inl (9, [.ref 1, .ref 3, .ref 4, .ref 29, .ref 281, .ref 325, .ref 343, .ref 327, .int sst])), (4, .inl (7, [.ref 343, .int mi, .int shu, .int bus, .ref 5, .ref 6, .ref 7, .ref 8, .ref 9, .ref 10, .ref 11, .ref 12, .ref 13, .ref 14, .ref 15, .int lks, .ref 16, .ref 17, .ref 20])), (5, .inr (.inl (0, rk))), (7, .inr (.inl (0, ph))), (281, .inl (1, [.ref 282, .ref 307, .ref 323, .ref 324])), (343, .inl (2, [.int (nI S), .ref 344, .ref 345, .ref 346, .ref 347, .int (nI n), .ref 348, .ref 349, .ref 350, .ref 351, .ref 352, .ref 353, .ref 354, .int cel, .ref 355, .ref 356, .ref 357, .ref 358])), (346, .inr (.inl (0, tra))), (351, .inr (.inl (0, tto)))] g0 := K9.K
  show j_V jP d 138 0 [(0, .ref 0), (1, .int (nI k)), (2, .int x2), (3, .int x3)] [] g0 _
  obtain ⟨lv, elv, L⟩ : ∃ lv, lv = [(0, .ref 0), (1, .int (nI k)), (2, .int x2), (3, .int x3)] ∧ LK lv [(0, .ref 0), (1, .int (nI k)), (2, .int x2), (3, .int x3)] := ⟨_, rfl, LK.rf⟩
  rw [← elv]
  clear elv
  refine j_V.ldL xbF1_M xbF1_0 rfl (i := 1) (kd := 0) (v := .int (nI k)) (pcJ := 1) rfl L rfl rfl rfl ?_
  refine j_V.one xbF1_M xbF1_1 (by decide) (pcJ := 2) (stJ := [.int 0, .int (nI k)]) rfl ?_
  refine j_V.one xbF1_M xbF1_2 (by decide) (pcJ := 4) (stJ := [.int 99, .int 0, .int (nI k)]) rfl ?_
  refine j_V.cl xbF1_M xbF1_4 rfl (md := 2) (mj := 162) rfl (by decide) xbwisWi_M (As := [.int (nI k), .int 0, .int 99]) (rest := []) (jk_spl2 rfl rfl (Nat.le_of_ble_eq_true rfl) (Nat.le_of_ble_eq_true rfl)) (fun d => xbwisWi_ok (K.fi [] rfl rfl)) ?_
  rintro r hz ⟨rfl, ez⟩
  rw [ez]
  clear ez
  show j_V jP _ 138 7 lv [.int (x_isWithin (nI k) 0 99)] g0 _
  refine j_V.ifc xbF1_M xbF1_7 (t := 19) rfl (fun c7_0 => ?_) (fun c7_0 => ?_)
  · replace c7_0 : (x_isWithin (nI k) 0 99) = 0 := jd_eq c7_0
    exact absurd c7_0 c1
  · replace c7_0 : ¬ ((x_isWithin (nI k) 0 99) = 0) := jd_eqn c7_0
    refine j_V.ldL xbF1_M xbF1_10 rfl (i := 3) (kd := 0) (v := .int x3) (pcJ := 11) rfl L rfl rfl rfl ?_
    refine j_V.one xbF1_M xbF1_11 (by decide) (pcJ := 12) (stJ := [.int 0, .int x3]) rfl ?_
    refine j_V.one xbF1_M xbF1_12 (by decide) (pcJ := 13) (stJ := [.int 5, .int 0, .int x3]) rfl ?_
    refine j_V.cl xbF1_M xbF1_13 rfl (md := 2) (mj := 162) rfl (by decide) xbwisWi_M (As := [.int x3, .int 0, .int 5]) (rest := []) (jk_spl2 rfl rfl (Nat.le_of_ble_eq_true rfl) (Nat.le_of_ble_eq_true rfl)) (fun d => xbwisWi_ok (K.fi [] rfl rfl)) ?_
    rintro r hz ⟨rfl, ez⟩
    rw [ez]
    clear ez
    show j_V jP _ 138 16 lv [.int (x_isWithin x3 0 5)] g0 _
    refine j_V.ifc xbF1_M xbF1_16 (t := 25) rfl (fun c16_0 => ?_) (fun c16_0 => ?_)
    · replace c16_0 : ¬ ((x_isWithin x3 0 5) = 0) := jd_ne c16_0
      refine j_V.ldL xbF1_M xbF1_25 rfl (i := 0) (kd := 2) (v := .ref 0) (pcJ := 26) rfl L rfl rfl rfl ?_
      refine j_V.getK xbF1_M xbF1_26 (ci := 9) (j := 4) rfl K rfl rfl ?_
      refine j_V.ldL xbF1_M xbF1_29 rfl (i := 0) (kd := 2) (v := .ref 0) (pcJ := 30) rfl L rfl rfl rfl ?_
      refine j_V.getK xbF1_M xbF1_30 (ci := 9) (j := 2) rfl K rfl rfl ?_
      refine j_V.ldL xbF1_M xbF1_33 rfl (i := 1) (kd := 0) (v := .int (nI k)) (pcJ := 34) rfl L rfl rfl rfl ?_
      refine j_V.ldL xbF1_M xbF1_34 rfl (i := 2) (kd := 0) (v := .int x2) (pcJ := 35) rfl L rfl rfl rfl ?_
      refine j_V.cl xbF1_M xbF1_35 rfl (md := 3) (mj := 5) rfl (by decide) fp3_M (As := [.ref 281, .ref 4, .int (nI k), .int x2]) (rest := []) (jk_spl3 (K.at rfl) rfl rfl rfl (Nat.le_of_ble_eq_true rfl) (Nat.le_of_ble_eq_true rfl)) (fun d => hp_after_343 P hm hk) ?_
      rintro r h23 ⟨rfl, T9, Y9, F9⟩
      have TA := T9.sh
      replace FA : ∀ x, (x < 282 ∨ 324 < x) → h23[x]? = g0[x]? := fun x g => (F9 x (by omega)).trans (FA x g)
      replace P : hF 343 n S w h23 := P.fr (fun x g => F9 x (by omega)) TA
      refine hS9.opn T9 (fun miq shuq busq lksq rlq pevq rkq staq phq spq ceq duq heq riq usq cmq lfq lkdq rowq seaq pmsq pmmq pmtq pstq pwaq prsq prrq pfaq CQ hlQ VQ => ?_)
      have K9 : kA h23 [(0, .inl (9, [.ref 1, .ref 3, .ref 4, .ref 29, .ref 281, .ref 325, .ref 343, .ref 327, .int sst])), (4, .inl (7, [.ref 343, .int mi, .int shu, .int bus, .ref 5, .ref 6, .ref 7, .ref 8, .ref 9, .ref 10, .ref 11, .ref 12, .ref 13, .ref 14, .ref 15, .int lks, .ref 16, .ref 17, .ref 20])), (5, .inr (.inl (0, rk))), (7, .inr (.inl (0, ph))), (281, .inl (1, [.ref 282, .ref 307, .ref 323, .ref 324])), (282, .inl (7, [.ref 343, .int miq, .int shuq, .int busq, .ref 283, .ref 284, .ref 285, .ref 286, .ref 287, .ref 288, .ref 289, .ref 290, .ref 291, .ref 292, .ref 293, .int lksq, .ref 294, .ref 295, .ref 298])), (343, .inl (2, [.int (nI S), .ref 344, .ref 345, .ref 346, .ref 347, .int (nI n), .ref 348, .ref 349, .ref 350, .ref 351, .ref 352, .ref 353, .ref 354, .int cel, .ref 355, .ref 356, .ref 357, .ref 358])), (346, .inr (.inl (0, tra))), (351, .inr (.inl (0, tto)))] := ⟨(FA 0 (by decide)).trans C0, (FA 4 (by decide)).trans CS.1, (FA 5 (by decide)).trans CS.2.1, (FA 7 (by decide)).trans CS.2.2.2.1, P.2.2.2, CQ.1, (FA 343 (by decide)).trans CL.1, (FA 346 (by decide)).trans CL.2.2.1, (FA 351 (by decide)).trans CL.2.2.2.2.2.2.1, trivial⟩
      have K : KN h23 [(0, .inl (9, [.ref 1, .ref 3, .ref 4, .ref 29, .ref 281, .ref 325, .ref 343, .ref 327, .int sst])), (4, .inl (7, [.ref 343, .int mi, .int shu, .int bus, .ref 5, .ref 6, .ref 7, .ref 8, .ref 9, .ref 10, .ref 11, .ref 12, .ref 13, .ref 14, .ref 15, .int lks, .ref 16, .ref 17, .ref 20])), (5, .inr (.inl (0, rk))), (7, .inr (.inl (0, ph))), (281, .inl (1, [.ref 282, .ref 307, .ref 323, .ref 324])), (282, .inl (7, [.ref 343, .int miq, .int shuq, .int busq, .ref 283, .ref 284, .ref 285, .ref 286, .ref 287, .ref 288, .ref 289, .ref 290, .ref 291, .ref 292, .ref 293, .int lksq, .ref 294, .ref 295, .ref 298])), (343, .inl (2, [.int (nI S), .ref 344, .ref 345, .ref 346, .ref 347, .int (nI n), .ref 348, .ref 349, .ref 350, .ref 351, .ref 352, .ref 353, .ref 354, .int cel, .ref 355, .ref 356, .ref 357, .ref 358])), (346, .inr (.inl (0, tra))), (351, .inr (.inl (0, tto)))] h23 := K9.K
      show j_V jP _ 138 38 lv [.ref 282] h23 _
      refine j_V.stL xbF1_M xbF1_38 rfl (i := 4) (kd := 2) (kl' := [(0, .ref 0), (1, .int (nI k)), (2, .int x2), (3, .int x3), (4, .ref 282)]) (pcJ := 40) rfl L rfl (by decide) rfl rfl rfl (fun lv L => ?_)
      refine j_V.ldL xbF1_M xbF1_40 rfl (i := 3) (kd := 0) (v := .int x3) (pcJ := 41) rfl L rfl rfl rfl ?_
      refine j_V.tsw xbF1_M xbF1_41 (fun t ht hx => ?_) (fun i off t ho ht hx => ?_)
      · obtain rfl : 145 = t := Option.some.inj (show some 145 = some t from ht)
        have s41_0 : ¬ (x3 = 0) := fun z => by rw [z] at hx; revert hx; decide
        have s41_1 : ¬ (x3 = 1) := fun z => by rw [z] at hx; revert hx; decide
        have s41_2 : ¬ (x3 = 2) := fun z => by rw [z] at hx; revert hx; decide
        have s41_3 : ¬ (x3 = 3) := fun z => by rw [z] at hx; revert hx; decide
        have s41_4 : ¬ (x3 = 4) := fun z => by rw [z] at hx; revert hx; decide
        refine j_V.ldL xbF1_M xbF1_145 rfl (i := 0) (kd := 2) (v := .ref 0) (pcJ := 146) rfl L rfl rfl rfl ?_
        refine j_V.ldL xbF1_M xbF1_146 rfl (i := 4) (kd := 2) (v := .ref 282) (pcJ := 148) rfl L rfl rfl rfl ?_
        refine j_V.one xbF1_M xbF1_148 (by decide) (pcJ := 149) (stJ := [.int 0, .ref 282, .ref 0]) rfl ?_
        refine j_V.cl xbF1_M xbF1_149 rfl (md := 3) (mj := 62) rfl (by decide) xd03_M (As := [.ref 282, .int 0]) (rest := [.ref 0]) (jk_spl3 (K.at rfl) rfl rfl rfl (Nat.le_of_ble_eq_true rfl) (Nat.le_of_ble_eq_true rfl)) (fun d => tq_cnt_343 T9 Y9 0) ?_
        rintro r hz ⟨rfl, ez⟩
        rw [ez]
        clear ez
        show j_V jP _ 138 152 lv [.int (m_howMany (m_adv n x2 false k w) 0), .ref 0] h23 _
        refine j_V.cl xbF1_M xbF1_152 rfl (md := 3) (mj := 159) rfl (by decide) xb49_M (As := [.ref 0, .int (m_howMany (m_adv n x2 false k w) 0)]) (rest := []) (jk_spl3 (K.at rfl) rfl rfl rfl (Nat.le_of_ble_eq_true rfl) (Nat.le_of_ble_eq_true rfl)) (fun d => xb49_ok (K.fi [0] rfl rfl)) ?_
        rintro r h9 ⟨rfl, K9⟩
        have K : KN h9 [(0, .inl (9, [.ref 1, .ref 3, .ref 4, .ref 29, .ref 281, .ref 325, .ref 343, .ref 327, .int ((x_qanswer sst (m_howMany (m_adv n x2 false k w) 0)).2)])), (4, .inl (7, [.ref 343, .int mi, .int shu, .int bus, .ref 5, .ref 6, .ref 7, .ref 8, .ref 9, .ref 10, .ref 11, .ref 12, .ref 13, .ref 14, .ref 15, .int lks, .ref 16, .ref 17, .ref 20])), (5, .inr (.inl (0, rk))), (7, .inr (.inl (0, ph))), (281, .inl (1, [.ref 282, .ref 307, .ref 323, .ref 324])), (282, .inl (7, [.ref 343, .int miq, .int shuq, .int busq, .ref 283, .ref 284, .ref 285, .ref 286, .ref 287, .ref 288, .ref 289, .ref 290, .ref 291, .ref 292, .ref 293, .int lksq, .ref 294, .ref 295, .ref 298])), (343, .inl (2, [.int (nI S), .ref 344, .ref 345, .ref 346, .ref 347, .int (nI n), .ref 348, .ref 349, .ref 350, .ref 351, .ref 352, .ref 353, .ref 354, .int cel, .ref 355, .ref 356, .ref 357, .ref 358])), (346, .inr (.inl (0, tra))), (351, .inr (.inl (0, tto)))] h23 := K.mg K9 rfl rfl
        clear K9
        show j_V jP _ 138 155 lv [.int ((x_qanswer sst (m_howMany (m_adv n x2 false k w) 0)).1)] h9 _
        refine j_V.ri xbF1_M xbF1_155 ?_
        rw [show m_qahead n th sst' w (nI k) x2 x3 = ((m_howMany (m_adv n x2 false k w) 0), 0, 0) by unfold m_qahead; rw [ek, if_neg m1, if_neg m2, if_neg s41_0, if_neg s41_1, if_neg s41_2, if_neg s41_3, if_neg s41_4]; rfl]
        exact fqP.yes R0 FA TA (fun x g => KN.off K9 K (lkn (fun z => g z.symm) (lke (lke (lke (lke (lke (lke (lke (lke rfl)))))))))) (K.at rfl)
      · match i, ho, hx with
        | 0, ho, hx =>
          obtain rfl := Option.some.inj (show some (35 : Int) = some off from ho)
          obtain rfl : 76 = t := Option.some.inj (show some 76 = some t from ht)
          have s41_0 : x3 = 0 := Int32.toInt_inj.mp (by rw [hx]; rfl)
          refine j_V.ldL xbF1_M xbF1_76 rfl (i := 0) (kd := 2) (v := .ref 0) (pcJ := 77) rfl L rfl rfl rfl ?_
          refine j_V.ldL xbF1_M xbF1_77 rfl (i := 4) (kd := 2) (v := .ref 282) (pcJ := 79) rfl L rfl rfl rfl ?_
          refine j_V.one xbF1_M xbF1_79 (by decide) (pcJ := 80) (stJ := [.int 3, .ref 282, .ref 0]) rfl ?_
          refine j_V.cl xbF1_M xbF1_80 rfl (md := 3) (mj := 62) rfl (by decide) xd03_M (As := [.ref 282, .int 3]) (rest := [.ref 0]) (jk_spl3 (K.at rfl) rfl rfl rfl (Nat.le_of_ble_eq_true rfl) (Nat.le_of_ble_eq_true rfl)) (fun d => tq_cnt_343 T9 Y9 3) ?_
          rintro r hz ⟨rfl, ez⟩
          rw [ez]
          clear ez
          show j_V jP _ 138 83 lv [.int (m_howMany (m_adv n x2 false k w) 3), .ref 0] h23 _
          refine j_V.cl xbF1_M xbF1_83 rfl (md := 3) (mj := 159) rfl (by decide) xb49_M (As := [.ref 0, .int (m_howMany (m_adv n x2 false k w) 3)]) (rest := []) (jk_spl3 (K.at rfl) rfl rfl rfl (Nat.le_of_ble_eq_true rfl) (Nat.le_of_ble_eq_true rfl)) (fun d => xb49_ok (K.fi [0] rfl rfl)) ?_
          rintro r h9 ⟨rfl, K9⟩
          have K : KN h9 [(0, .inl (9, [.ref 1, .ref 3, .ref 4, .ref 29, .ref 281, .ref 325, .ref 343, .ref 327, .int ((x_qanswer sst (m_howMany (m_adv n x2 false k w) 3)).2)])), (4, .inl (7, [.ref 343, .int mi, .int shu, .int bus, .ref 5, .ref 6, .ref 7, .ref 8, .ref 9, .ref 10, .ref 11, .ref 12, .ref 13, .ref 14, .ref 15, .int lks, .ref 16, .ref 17, .ref 20])), (5, .inr (.inl (0, rk))), (7, .inr (.inl (0, ph))), (281, .inl (1, [.ref 282, .ref 307, .ref 323, .ref 324])), (282, .inl (7, [.ref 343, .int miq, .int shuq, .int busq, .ref 283, .ref 284, .ref 285, .ref 286, .ref 287, .ref 288, .ref 289, .ref 290, .ref 291, .ref 292, .ref 293, .int lksq, .ref 294, .ref 295, .ref 298])), (343, .inl (2, [.int (nI S), .ref 344, .ref 345, .ref 346, .ref 347, .int (nI n), .ref 348, .ref 349, .ref 350, .ref 351, .ref 352, .ref 353, .ref 354, .int cel, .ref 355, .ref 356, .ref 357, .ref 358])), (346, .inr (.inl (0, tra))), (351, .inr (.inl (0, tto)))] h23 := K.mg K9 rfl rfl
          clear K9
          show j_V jP _ 138 86 lv [.int ((x_qanswer sst (m_howMany (m_adv n x2 false k w) 3)).1)] h9 _
          refine j_V.ri xbF1_M xbF1_86 ?_
          rw [show m_qahead n th sst' w (nI k) x2 x3 = ((m_howMany (m_adv n x2 false k w) 3), 0, 0) by unfold m_qahead; rw [ek, if_neg m1, if_neg m2, if_pos s41_0]; rfl]
          exact fqP.yes R0 FA TA (fun x g => KN.off K9 K (lkn (fun z => g z.symm) (lke (lke (lke (lke (lke (lke (lke (lke rfl)))))))))) (K.at rfl)
        | 1, ho, hx =>
          obtain rfl := Option.some.inj (show some (46 : Int) = some off from ho)
          obtain rfl : 87 = t := Option.some.inj (show some 87 = some t from ht)
          have s41_1 : x3 = 1 := Int32.toInt_inj.mp (by rw [hx]; rfl)
          have s41_0 : ¬ (x3 = 0) := fun z => by rw [s41_1] at z; exact absurd z (by decide)
          refine j_V.ldL xbF1_M xbF1_87 rfl (i := 0) (kd := 2) (v := .ref 0) (pcJ := 88) rfl L rfl rfl rfl ?_
          refine j_V.ldL xbF1_M xbF1_88 rfl (i := 4) (kd := 2) (v := .ref 282) (pcJ := 90) rfl L rfl rfl rfl ?_
          refine j_V.one xbF1_M xbF1_90 (by decide) (pcJ := 91) (stJ := [.int (-1), .ref 282, .ref 0]) rfl ?_
          refine j_V.cl xbF1_M xbF1_91 rfl (md := 3) (mj := 65) rfl (by decide) xd06_M (As := [.ref 282, .int (-1)]) (rest := [.ref 0]) (jk_spl3 (K.at rfl) rfl rfl rfl (Nat.le_of_ble_eq_true rfl) (Nat.le_of_ble_eq_true rfl)) (fun d => tq_price_343 T9 Y9) ?_
          rintro r hz ⟨rfl, ez⟩
          rw [ez]
          clear ez
          show j_V jP _ 138 94 lv [.int (m_price (m_adv n x2 false k w)), .ref 0] h23 _
          refine j_V.cl xbF1_M xbF1_94 rfl (md := 3) (mj := 159) rfl (by decide) xb49_M (As := [.ref 0, .int (m_price (m_adv n x2 false k w))]) (rest := []) (jk_spl3 (K.at rfl) rfl rfl rfl (Nat.le_of_ble_eq_true rfl) (Nat.le_of_ble_eq_true rfl)) (fun d => xb49_ok (K.fi [0] rfl rfl)) ?_
          rintro r h9 ⟨rfl, K9⟩
          have K : KN h9 [(0, .inl (9, [.ref 1, .ref 3, .ref 4, .ref 29, .ref 281, .ref 325, .ref 343, .ref 327, .int ((x_qanswer sst (m_price (m_adv n x2 false k w))).2)])), (4, .inl (7, [.ref 343, .int mi, .int shu, .int bus, .ref 5, .ref 6, .ref 7, .ref 8, .ref 9, .ref 10, .ref 11, .ref 12, .ref 13, .ref 14, .ref 15, .int lks, .ref 16, .ref 17, .ref 20])), (5, .inr (.inl (0, rk))), (7, .inr (.inl (0, ph))), (281, .inl (1, [.ref 282, .ref 307, .ref 323, .ref 324])), (282, .inl (7, [.ref 343, .int miq, .int shuq, .int busq, .ref 283, .ref 284, .ref 285, .ref 286, .ref 287, .ref 288, .ref 289, .ref 290, .ref 291, .ref 292, .ref 293, .int lksq, .ref 294, .ref 295, .ref 298])), (343, .inl (2, [.int (nI S), .ref 344, .ref 345, .ref 346, .ref 347, .int (nI n), .ref 348, .ref 349, .ref 350, .ref 351, .ref 352, .ref 353, .ref 354, .int cel, .ref 355, .ref 356, .ref 357, .ref 358])), (346, .inr (.inl (0, tra))), (351, .inr (.inl (0, tto)))] h23 := K.mg K9 rfl rfl
          clear K9
          show j_V jP _ 138 97 lv [.int ((x_qanswer sst (m_price (m_adv n x2 false k w))).1)] h9 _
          refine j_V.ri xbF1_M xbF1_97 ?_
          rw [show m_qahead n th sst' w (nI k) x2 x3 = ((m_price (m_adv n x2 false k w)), 0, 0) by unfold m_qahead; rw [ek, if_neg m1, if_neg m2, if_neg s41_0, if_pos s41_1]; rfl]
          exact fqP.yes R0 FA TA (fun x g => KN.off K9 K (lkn (fun z => g z.symm) (lke (lke (lke (lke (lke (lke (lke (lke rfl)))))))))) (K.at rfl)
        | 2, ho, hx =>
          obtain rfl := Option.some.inj (show some (57 : Int) = some off from ho)
          obtain rfl : 98 = t := Option.some.inj (show some 98 = some t from ht)
          have s41_2 : x3 = 2 := Int32.toInt_inj.mp (by rw [hx]; rfl)
          have s41_0 : ¬ (x3 = 0) := fun z => by rw [s41_2] at z; exact absurd z (by decide)
          have s41_1 : ¬ (x3 = 1) := fun z => by rw [s41_2] at z; exact absurd z (by decide)
          refine j_V.ldL xbF1_M xbF1_98 rfl (i := 0) (kd := 2) (v := .ref 0) (pcJ := 99) rfl L rfl rfl rfl ?_
          refine j_V.ldL xbF1_M xbF1_99 rfl (i := 4) (kd := 2) (v := .ref 282) (pcJ := 101) rfl L rfl rfl rfl ?_
          refine j_V.cl xbF1_M xbF1_101 rfl (md := 3) (mj := 76) rfl (by decide) xd40_M (As := [.ref 282]) (rest := [.ref 0]) (jk_spl3 (K.at rfl) rfl rfl rfl (Nat.le_of_ble_eq_true rfl) (Nat.le_of_ble_eq_true rfl)) (fun d => tq_safe_343 T9 Y9) ?_
          rintro r h24 ⟨rfl, T9, F9⟩
          replace TA := T9.sh
          replace FA : ∀ x, (x < 282 ∨ 324 < x) → h24[x]? = g0[x]? := fun x g => (F9 x (by omega)).trans (FA x g)
          replace P : hF 343 n S w h24 := P.fr (fun x g => F9 x (by omega)) TA
          have K9 : kA h24 [(0, .inl (9, [.ref 1, .ref 3, .ref 4, .ref 29, .ref 281, .ref 325, .ref 343, .ref 327, .int sst])), (4, .inl (7, [.ref 343, .int mi, .int shu, .int bus, .ref 5, .ref 6, .ref 7, .ref 8, .ref 9, .ref 10, .ref 11, .ref 12, .ref 13, .ref 14, .ref 15, .int lks, .ref 16, .ref 17, .ref 20])), (5, .inr (.inl (0, rk))), (7, .inr (.inl (0, ph))), (281, .inl (1, [.ref 282, .ref 307, .ref 323, .ref 324])), (343, .inl (2, [.int (nI S), .ref 344, .ref 345, .ref 346, .ref 347, .int (nI n), .ref 348, .ref 349, .ref 350, .ref 351, .ref 352, .ref 353, .ref 354, .int cel, .ref 355, .ref 356, .ref 357, .ref 358])), (346, .inr (.inl (0, tra))), (351, .inr (.inl (0, tto)))] := ⟨(FA 0 (by decide)).trans C0, (FA 4 (by decide)).trans CS.1, (FA 5 (by decide)).trans CS.2.1, (FA 7 (by decide)).trans CS.2.2.2.1, P.2.2.2, (FA 343 (by decide)).trans CL.1, (FA 346 (by decide)).trans CL.2.2.1, (FA 351 (by decide)).trans CL.2.2.2.2.2.2.1, trivial⟩
          have K : KN h24 [(0, .inl (9, [.ref 1, .ref 3, .ref 4, .ref 29, .ref 281, .ref 325, .ref 343, .ref 327, .int sst])), (4, .inl (7, [.ref 343, .int mi, .int shu, .int bus, .ref 5, .ref 6, .ref 7, .ref 8, .ref 9, .ref 10, .ref 11, .ref 12, .ref 13, .ref 14, .ref 15, .int lks, .ref 16, .ref 17, .ref 20])), (5, .inr (.inl (0, rk))), (7, .inr (.inl (0, ph))), (281, .inl (1, [.ref 282, .ref 307, .ref 323, .ref 324])), (343, .inl (2, [.int (nI S), .ref 344, .ref 345, .ref 346, .ref 347, .int (nI n), .ref 348, .ref 349, .ref 350, .ref 351, .ref 352, .ref 353, .ref 354, .int cel, .ref 355, .ref 356, .ref 357, .ref 358])), (346, .inr (.inl (0, tra))), (351, .inr (.inl (0, tto)))] h24 := K9.K
          show j_V jP _ 138 104 lv [.int (m_isSafe (m_adv n x2 false k w) n), .ref 0] h24 _
          refine j_V.ifc xbF1_M xbF1_104 (t := 111) rfl (fun c104_3 => ?_) (fun c104_3 => ?_)
          · replace c104_3 : (m_isSafe (m_adv n x2 false k w) n) = 0 := jd_eq c104_3
            refine j_V.one xbF1_M xbF1_111 (by decide) (pcJ := 112) (stJ := [.int 0, .ref 0]) rfl ?_
            refine j_V.cl xbF1_M xbF1_112 rfl (md := 3) (mj := 159) rfl (by decide) xb49_M (As := [.ref 0, .int 0]) (rest := []) (jk_spl3 (K.at rfl) rfl rfl rfl (Nat.le_of_ble_eq_true rfl) (Nat.le_of_ble_eq_true rfl)) (fun d => xb49_ok (K.fi [0] rfl rfl)) ?_
            rintro r h9 ⟨rfl, K9⟩
            have K : KN h9 [(0, .inl (9, [.ref 1, .ref 3, .ref 4, .ref 29, .ref 281, .ref 325, .ref 343, .ref 327, .int ((x_qanswer sst 0).2)])), (4, .inl (7, [.ref 343, .int mi, .int shu, .int bus, .ref 5, .ref 6, .ref 7, .ref 8, .ref 9, .ref 10, .ref 11, .ref 12, .ref 13, .ref 14, .ref 15, .int lks, .ref 16, .ref 17, .ref 20])), (5, .inr (.inl (0, rk))), (7, .inr (.inl (0, ph))), (281, .inl (1, [.ref 282, .ref 307, .ref 323, .ref 324])), (343, .inl (2, [.int (nI S), .ref 344, .ref 345, .ref 346, .ref 347, .int (nI n), .ref 348, .ref 349, .ref 350, .ref 351, .ref 352, .ref 353, .ref 354, .int cel, .ref 355, .ref 356, .ref 357, .ref 358])), (346, .inr (.inl (0, tra))), (351, .inr (.inl (0, tto)))] h24 := K.mg K9 rfl rfl
            clear K9
            show j_V jP _ 138 115 lv [.int ((x_qanswer sst 0).1)] h9 _
            refine j_V.ri xbF1_M xbF1_115 ?_
            rw [show m_qahead n th sst' w (nI k) x2 x3 = (0, 0, 0) by unfold m_qahead; rw [ek, if_neg m1, if_neg m2, if_neg s41_0, if_neg s41_1, if_pos s41_2, if_pos c104_3]; rfl]
            exact fqP.yes R0 FA TA (fun x g => KN.off K9 K (lkn (fun z => g z.symm) (lke (lke (lke (lke (lke (lke (lke rfl))))))))) (K.at rfl)
          · replace c104_3 : ¬ ((m_isSafe (m_adv n x2 false k w) n) = 0) := jd_eqn c104_3
            refine j_V.one xbF1_M xbF1_107 (by decide) (pcJ := 108) (stJ := [.int 1, .ref 0]) rfl ?_
            refine j_V.gto xbF1_M xbF1_108 (t := 112) rfl ?_
            refine j_V.cl xbF1_M xbF1_112 rfl (md := 3) (mj := 159) rfl (by decide) xb49_M (As := [.ref 0, .int 1]) (rest := []) (jk_spl3 (K.at rfl) rfl rfl rfl (Nat.le_of_ble_eq_true rfl) (Nat.le_of_ble_eq_true rfl)) (fun d => xb49_ok (K.fi [0] rfl rfl)) ?_
            rintro r h9 ⟨rfl, K9⟩
            have K : KN h9 [(0, .inl (9, [.ref 1, .ref 3, .ref 4, .ref 29, .ref 281, .ref 325, .ref 343, .ref 327, .int ((x_qanswer sst 1).2)])), (4, .inl (7, [.ref 343, .int mi, .int shu, .int bus, .ref 5, .ref 6, .ref 7, .ref 8, .ref 9, .ref 10, .ref 11, .ref 12, .ref 13, .ref 14, .ref 15, .int lks, .ref 16, .ref 17, .ref 20])), (5, .inr (.inl (0, rk))), (7, .inr (.inl (0, ph))), (281, .inl (1, [.ref 282, .ref 307, .ref 323, .ref 324])), (343, .inl (2, [.int (nI S), .ref 344, .ref 345, .ref 346, .ref 347, .int (nI n), .ref 348, .ref 349, .ref 350, .ref 351, .ref 352, .ref 353, .ref 354, .int cel, .ref 355, .ref 356, .ref 357, .ref 358])), (346, .inr (.inl (0, tra))), (351, .inr (.inl (0, tto)))] h24 := K.mg K9 rfl rfl
            clear K9
            show j_V jP _ 138 115 lv [.int ((x_qanswer sst 1).1)] h9 _
            refine j_V.ri xbF1_M xbF1_115 ?_
            rw [show m_qahead n th sst' w (nI k) x2 x3 = (1, 0, 0) by unfold m_qahead; rw [ek, if_neg m1, if_neg m2, if_neg s41_0, if_neg s41_1, if_pos s41_2, if_neg c104_3]; rfl]
            exact fqP.yes R0 FA TA (fun x g => KN.off K9 K (lkn (fun z => g z.symm) (lke (lke (lke (lke (lke (lke (lke rfl))))))))) (K.at rfl)
        | 3, ho, hx =>
          obtain rfl := Option.some.inj (show some (75 : Int) = some off from ho)
          obtain rfl : 116 = t := Option.some.inj (show some 116 = some t from ht)
          have s41_3 : x3 = 3 := Int32.toInt_inj.mp (by rw [hx]; rfl)
          have s41_0 : ¬ (x3 = 0) := fun z => by rw [s41_3] at z; exact absurd z (by decide)
          have s41_1 : ¬ (x3 = 1) := fun z => by rw [s41_3] at z; exact absurd z (by decide)
          have s41_2 : ¬ (x3 = 2) := fun z => by rw [s41_3] at z; exact absurd z (by decide)
          refine j_V.ldL xbF1_M xbF1_116 rfl (i := 0) (kd := 2) (v := .ref 0) (pcJ := 117) rfl L rfl rfl rfl ?_
          refine j_V.ldL xbF1_M xbF1_117 rfl (i := 4) (kd := 2) (v := .ref 282) (pcJ := 119) rfl L rfl rfl rfl ?_
          refine j_V.cl xbF1_M xbF1_119 rfl (md := 3) (mj := 78) rfl (by decide) xd21_M (As := [.ref 282]) (rest := [.ref 0]) (jk_spl3 (K.at rfl) rfl rfl rfl (Nat.le_of_ble_eq_true rfl) (Nat.le_of_ble_eq_true rfl)) (fun d => tq_stuck_343 T9 Y9) ?_
          rintro r hz ⟨rfl, ez⟩
          rw [ez]
          clear ez
          show j_V jP _ 138 122 lv [.int (m_isStuck (m_adv n x2 false k w)), .ref 0] h23 _
          refine j_V.ifc xbF1_M xbF1_122 (t := 129) rfl (fun c122_4 => ?_) (fun c122_4 => ?_)
          · replace c122_4 : (m_isStuck (m_adv n x2 false k w)) = 0 := jd_eq c122_4
            refine j_V.one xbF1_M xbF1_129 (by decide) (pcJ := 130) (stJ := [.int 0, .ref 0]) rfl ?_
            refine j_V.cl xbF1_M xbF1_130 rfl (md := 3) (mj := 159) rfl (by decide) xb49_M (As := [.ref 0, .int 0]) (rest := []) (jk_spl3 (K.at rfl) rfl rfl rfl (Nat.le_of_ble_eq_true rfl) (Nat.le_of_ble_eq_true rfl)) (fun d => xb49_ok (K.fi [0] rfl rfl)) ?_
            rintro r h9 ⟨rfl, K9⟩
            have K : KN h9 [(0, .inl (9, [.ref 1, .ref 3, .ref 4, .ref 29, .ref 281, .ref 325, .ref 343, .ref 327, .int ((x_qanswer sst 0).2)])), (4, .inl (7, [.ref 343, .int mi, .int shu, .int bus, .ref 5, .ref 6, .ref 7, .ref 8, .ref 9, .ref 10, .ref 11, .ref 12, .ref 13, .ref 14, .ref 15, .int lks, .ref 16, .ref 17, .ref 20])), (5, .inr (.inl (0, rk))), (7, .inr (.inl (0, ph))), (281, .inl (1, [.ref 282, .ref 307, .ref 323, .ref 324])), (282, .inl (7, [.ref 343, .int miq, .int shuq, .int busq, .ref 283, .ref 284, .ref 285, .ref 286, .ref 287, .ref 288, .ref 289, .ref 290, .ref 291, .ref 292, .ref 293, .int lksq, .ref 294, .ref 295, .ref 298])), (343, .inl (2, [.int (nI S), .ref 344, .ref 345, .ref 346, .ref 347, .int (nI n), .ref 348, .ref 349, .ref 350, .ref 351, .ref 352, .ref 353, .ref 354, .int cel, .ref 355, .ref 356, .ref 357, .ref 358])), (346, .inr (.inl (0, tra))), (351, .inr (.inl (0, tto)))] h23 := K.mg K9 rfl rfl
            clear K9
            show j_V jP _ 138 133 lv [.int ((x_qanswer sst 0).1)] h9 _
            refine j_V.ri xbF1_M xbF1_133 ?_
            rw [show m_qahead n th sst' w (nI k) x2 x3 = (0, 0, 0) by unfold m_qahead; rw [ek, if_neg m1, if_neg m2, if_neg s41_0, if_neg s41_1, if_neg s41_2, if_pos s41_3, if_pos c122_4]; rfl]
            exact fqP.yes R0 FA TA (fun x g => KN.off K9 K (lkn (fun z => g z.symm) (lke (lke (lke (lke (lke (lke (lke (lke rfl)))))))))) (K.at rfl)
          · replace c122_4 : ¬ ((m_isStuck (m_adv n x2 false k w)) = 0) := jd_eqn c122_4
            refine j_V.one xbF1_M xbF1_125 (by decide) (pcJ := 126) (stJ := [.int 1, .ref 0]) rfl ?_
            refine j_V.gto xbF1_M xbF1_126 (t := 130) rfl ?_
            refine j_V.cl xbF1_M xbF1_130 rfl (md := 3) (mj := 159) rfl (by decide) xb49_M (As := [.ref 0, .int 1]) (rest := []) (jk_spl3 (K.at rfl) rfl rfl rfl (Nat.le_of_ble_eq_true rfl) (Nat.le_of_ble_eq_true rfl)) (fun d => xb49_ok (K.fi [0] rfl rfl)) ?_
            rintro r h9 ⟨rfl, K9⟩
            have K : KN h9 [(0, .inl (9, [.ref 1, .ref 3, .ref 4, .ref 29, .ref 281, .ref 325, .ref 343, .ref 327, .int ((x_qanswer sst 1).2)])), (4, .inl (7, [.ref 343, .int mi, .int shu, .int bus, .ref 5, .ref 6, .ref 7, .ref 8, .ref 9, .ref 10, .ref 11, .ref 12, .ref 13, .ref 14, .ref 15, .int lks, .ref 16, .ref 17, .ref 20])), (5, .inr (.inl (0, rk))), (7, .inr (.inl (0, ph))), (281, .inl (1, [.ref 282, .ref 307, .ref 323, .ref 324])), (282, .inl (7, [.ref 343, .int miq, .int shuq, .int busq, .ref 283, .ref 284, .ref 285, .ref 286, .ref 287, .ref 288, .ref 289, .ref 290, .ref 291, .ref 292, .ref 293, .int lksq, .ref 294, .ref 295, .ref 298])), (343, .inl (2, [.int (nI S), .ref 344, .ref 345, .ref 346, .ref 347, .int (nI n), .ref 348, .ref 349, .ref 350, .ref 351, .ref 352, .ref 353, .ref 354, .int cel, .ref 355, .ref 356, .ref 357, .ref 358])), (346, .inr (.inl (0, tra))), (351, .inr (.inl (0, tto)))] h23 := K.mg K9 rfl rfl
            clear K9
            show j_V jP _ 138 133 lv [.int ((x_qanswer sst 1).1)] h9 _
            refine j_V.ri xbF1_M xbF1_133 ?_
            rw [show m_qahead n th sst' w (nI k) x2 x3 = (1, 0, 0) by unfold m_qahead; rw [ek, if_neg m1, if_neg m2, if_neg s41_0, if_neg s41_1, if_neg s41_2, if_pos s41_3, if_neg c122_4]; rfl]
            exact fqP.yes R0 FA TA (fun x g => KN.off K9 K (lkn (fun z => g z.symm) (lke (lke (lke (lke (lke (lke (lke (lke rfl)))))))))) (K.at rfl)
        | 4, ho, hx =>
          obtain rfl := Option.some.inj (show some (93 : Int) = some off from ho)
          obtain rfl : 134 = t := Option.some.inj (show some 134 = some t from ht)
          have s41_4 : x3 = 4 := Int32.toInt_inj.mp (by rw [hx]; rfl)
          have s41_0 : ¬ (x3 = 0) := fun z => by rw [s41_4] at z; exact absurd z (by decide)
          have s41_1 : ¬ (x3 = 1) := fun z => by rw [s41_4] at z; exact absurd z (by decide)
          have s41_2 : ¬ (x3 = 2) := fun z => by rw [s41_4] at z; exact absurd z (by decide)
          have s41_3 : ¬ (x3 = 3) := fun z => by rw [s41_4] at z; exact absurd z (by decide)
          refine j_V.ldL xbF1_M xbF1_134 rfl (i := 0) (kd := 2) (v := .ref 0) (pcJ := 135) rfl L rfl rfl rfl ?_
          refine j_V.ldL xbF1_M xbF1_135 rfl (i := 4) (kd := 2) (v := .ref 282) (pcJ := 137) rfl L rfl rfl rfl ?_
          refine j_V.one xbF1_M xbF1_137 (by decide) (pcJ := 138) (stJ := [.int 2, .ref 282, .ref 0]) rfl ?_
          refine j_V.cl xbF1_M xbF1_138 rfl (md := 3) (mj := 62) rfl (by decide) xd03_M (As := [.ref 282, .int 2]) (rest := [.ref 0]) (jk_spl3 (K.at rfl) rfl rfl rfl (Nat.le_of_ble_eq_true rfl) (Nat.le_of_ble_eq_true rfl)) (fun d => tq_cnt_343 T9 Y9 2) ?_
          rintro r hz ⟨rfl, ez⟩
          rw [ez]
          clear ez
          show j_V jP _ 138 141 lv [.int (m_howMany (m_adv n x2 false k w) 2), .ref 0] h23 _
          refine j_V.cl xbF1_M xbF1_141 rfl (md := 3) (mj := 159) rfl (by decide) xb49_M (As := [.ref 0, .int (m_howMany (m_adv n x2 false k w) 2)]) (rest := []) (jk_spl3 (K.at rfl) rfl rfl rfl (Nat.le_of_ble_eq_true rfl) (Nat.le_of_ble_eq_true rfl)) (fun d => xb49_ok (K.fi [0] rfl rfl)) ?_
          rintro r h9 ⟨rfl, K9⟩
          have K : KN h9 [(0, .inl (9, [.ref 1, .ref 3, .ref 4, .ref 29, .ref 281, .ref 325, .ref 343, .ref 327, .int ((x_qanswer sst (m_howMany (m_adv n x2 false k w) 2)).2)])), (4, .inl (7, [.ref 343, .int mi, .int shu, .int bus, .ref 5, .ref 6, .ref 7, .ref 8, .ref 9, .ref 10, .ref 11, .ref 12, .ref 13, .ref 14, .ref 15, .int lks, .ref 16, .ref 17, .ref 20])), (5, .inr (.inl (0, rk))), (7, .inr (.inl (0, ph))), (281, .inl (1, [.ref 282, .ref 307, .ref 323, .ref 324])), (282, .inl (7, [.ref 343, .int miq, .int shuq, .int busq, .ref 283, .ref 284, .ref 285, .ref 286, .ref 287, .ref 288, .ref 289, .ref 290, .ref 291, .ref 292, .ref 293, .int lksq, .ref 294, .ref 295, .ref 298])), (343, .inl (2, [.int (nI S), .ref 344, .ref 345, .ref 346, .ref 347, .int (nI n), .ref 348, .ref 349, .ref 350, .ref 351, .ref 352, .ref 353, .ref 354, .int cel, .ref 355, .ref 356, .ref 357, .ref 358])), (346, .inr (.inl (0, tra))), (351, .inr (.inl (0, tto)))] h23 := K.mg K9 rfl rfl
          clear K9
          show j_V jP _ 138 144 lv [.int ((x_qanswer sst (m_howMany (m_adv n x2 false k w) 2)).1)] h9 _
          refine j_V.ri xbF1_M xbF1_144 ?_
          rw [show m_qahead n th sst' w (nI k) x2 x3 = ((m_howMany (m_adv n x2 false k w) 2), 0, 0) by unfold m_qahead; rw [ek, if_neg m1, if_neg m2, if_neg s41_0, if_neg s41_1, if_neg s41_2, if_neg s41_3, if_pos s41_4]; rfl]
          exact fqP.yes R0 FA TA (fun x g => KN.off K9 K (lkn (fun z => g z.symm) (lke (lke (lke (lke (lke (lke (lke (lke rfl)))))))))) (K.at rfl)
        | k + 5, ho, hx => cases ho
    · replace c16_0 : (x_isWithin x3 0 5) = 0 := jd_nen c16_0
      exact absurd c16_0 c2
set_option maxRecDepth 100000 in
theorem xbF2_M : j_meth jP 139 = some (yX9_ends, cX9_ends, 4, (some .int), 2, false, 9) := rfl
set_option maxRecDepth 100000 in
theorem xbF2_0 : j_code jP 139 0 = some (.iload_n 2) := rfl
set_option maxRecDepth 100000 in
theorem xbF2_1 : j_code jP 139 1 = some (.iconst 0) := rfl
set_option maxRecDepth 100000 in
theorem xbF2_2 : j_code jP 139 2 = some (.iconst 4) := rfl
set_option maxRecDepth 100000 in
theorem xbF2_3 : j_code jP 139 3 = some (.invokestatic 138) := rfl
set_option maxRecDepth 100000 in
theorem xbF2_6 : j_code jP 139 6 = some (.ifCond .ne 9) := rfl
set_option maxRecDepth 100000 in
theorem xbF2_9 : j_code jP 139 9 = some (.aload_n 0) := rfl
set_option maxRecDepth 100000 in
theorem xbF2_10 : j_code jP 139 10 = some (.iconst 1) := rfl
set_option maxRecDepth 100000 in
theorem xbF2_11 : j_code jP 139 11 = some (.invokevirtual 84) := rfl
set_option maxRecDepth 100000 in
theorem xbF2_14 : j_code jP 139 14 = some (.ireturn) := rfl
set_option maxRecDepth 100000 in
theorem xbF2_15 : j_code jP 139 15 = some (.aload_n 0) := rfl
set_option maxRecDepth 100000 in
theorem xbF2_16 : j_code jP 139 16 = some (.getfield 44) := rfl
set_option maxRecDepth 100000 in
theorem xbF2_19 : j_code jP 139 19 = some (.aload_n 0) := rfl
set_option maxRecDepth 100000 in
theorem xbF2_20 : j_code jP 139 20 = some (.getfield 30) := rfl
set_option maxRecDepth 100000 in
theorem xbF2_23 : j_code jP 139 23 = some (.iload_n 1) := rfl
set_option maxRecDepth 100000 in
theorem xbF2_24 : j_code jP 139 24 = some (.invokevirtual 324) := rfl
set_option maxRecDepth 100000 in
theorem xbF2_27 : j_code jP 139 27 = some (.astore_n 3) := rfl
set_option maxRecDepth 100000 in
theorem xbF2_28 : j_code jP 139 28 = some (.iload_n 2) := rfl
set_option maxRecDepth 100000 in
theorem xbF2_29 : j_code jP 139 29 = some (.tableswitch 77 0 3 #[31, 41, 50, 60]) := rfl
set_option maxRecDepth 100000 in
theorem xbF2_60 : j_code jP 139 60 = some (.aload_n 0) := rfl
set_option maxRecDepth 100000 in
theorem xbF2_61 : j_code jP 139 61 = some (.aload_n 3) := rfl
set_option maxRecDepth 100000 in
theorem xbF2_62 : j_code jP 139 62 = some (.iconst (-1)) := rfl
set_option maxRecDepth 100000 in
theorem xbF2_63 : j_code jP 139 63 = some (.invokevirtual 122) := rfl
set_option maxRecDepth 100000 in
theorem xbF2_66 : j_code jP 139 66 = some (.invokevirtual 104) := rfl
set_option maxRecDepth 100000 in
theorem xbF2_69 : j_code jP 139 69 = some (.ireturn) := rfl
set_option maxRecDepth 100000 in
theorem xbF2_70 : j_code jP 139 70 = some (.aload_n 0) := rfl
set_option maxRecDepth 100000 in
theorem xbF2_71 : j_code jP 139 71 = some (.aload_n 3) := rfl
set_option maxRecDepth 100000 in
theorem xbF2_72 : j_code jP 139 72 = some (.getfield 116) := rfl
set_option maxRecDepth 100000 in
theorem xbF2_75 : j_code jP 139 75 = some (.invokevirtual 104) := rfl
set_option maxRecDepth 100000 in
theorem xbF2_78 : j_code jP 139 78 = some (.ireturn) := rfl
set_option maxRecDepth 100000 in
theorem xbF2_79 : j_code jP 139 79 = some (.aload_n 0) := rfl
set_option maxRecDepth 100000 in
theorem xbF2_80 : j_code jP 139 80 = some (.aload_n 3) := rfl
set_option maxRecDepth 100000 in
theorem xbF2_81 : j_code jP 139 81 = some (.iconst 3) := rfl
set_option maxRecDepth 100000 in
theorem xbF2_82 : j_code jP 139 82 = some (.invokevirtual 119) := rfl
set_option maxRecDepth 100000 in
theorem xbF2_85 : j_code jP 139 85 = some (.invokevirtual 104) := rfl
set_option maxRecDepth 100000 in
theorem xbF2_88 : j_code jP 139 88 = some (.ireturn) := rfl
set_option maxRecDepth 100000 in
theorem xbF2_89 : j_code jP 139 89 = some (.aload_n 0) := rfl
set_option maxRecDepth 100000 in
theorem xbF2_90 : j_code jP 139 90 = some (.aload_n 3) := rfl
set_option maxRecDepth 100000 in
theorem xbF2_91 : j_code jP 139 91 = some (.invokevirtual 131) := rfl
set_option maxRecDepth 100000 in
theorem xbF2_94 : j_code jP 139 94 = some (.ifCond .eq 7) := rfl
set_option maxRecDepth 100000 in
theorem xbF2_97 : j_code jP 139 97 = some (.iconst 1) := rfl
set_option maxRecDepth 100000 in
theorem xbF2_98 : j_code jP 139 98 = some (.goto 4) := rfl
set_option maxRecDepth 100000 in
theorem xbF2_101 : j_code jP 139 101 = some (.iconst 0) := rfl
set_option maxRecDepth 100000 in
theorem xbF2_102 : j_code jP 139 102 = some (.invokevirtual 104) := rfl
set_option maxRecDepth 100000 in
theorem xbF2_105 : j_code jP 139 105 = some (.ireturn) := rfl
set_option maxRecDepth 100000 in
theorem xbF2_106 : j_code jP 139 106 = some (.aload_n 0) := rfl
set_option maxRecDepth 100000 in
theorem xbF2_107 : j_code jP 139 107 = some (.aload_n 3) := rfl
set_option maxRecDepth 100000 in
theorem xbF2_108 : j_code jP 139 108 = some (.invokevirtual 328) := rfl
set_option maxRecDepth 100000 in
theorem xbF2_111 : j_code jP 139 111 = some (.invokevirtual 104) := rfl
set_option maxRecDepth 100000 in
theorem xbF2_114 : j_code jP 139 114 = some (.ireturn) := rfl
set_option maxRecDepth 1000000 in
theorem hq_ends_B {g0 : J_H} {n S m d : Nat} {w : List Int32} {sst th sst' : Int32} (R : hX 343 327 n S w sst g0) (Q : hT9 282 0 g0) (C281 : g0[281]? = some (.inl (1, [.ref 282, .ref 307, .ref 323, .ref 324]))) (hm : gN w 201 = nI m) (hm9 : m < 2 ^ 29) (x1 : Int32) (x2 : Int32) : j_V jP d 139 0 (lv_args 0 [.ref 0, .int x1, .int x2]) [] g0 (fun rv h' => fqP 343 327 n S w (m_qends n th sst' w x1 x2) rv g0 h') := by
  have R0 := R
  have C0 := R.1
  have P : hF 343 n S w g0 := ⟨R.2.1, R.2.2, Q, C281⟩
  have hb : m + 300 < 2 ^ 30 := by omega
  refine hX.opn R (fun mi shu bus lks rl pev rk sta ph sp ce du he ri us cm lf lkd row sea pms pmm pmt pst pwa prs prr pfa CS hl4 V cel run tra len siz frm tto lst slo wei fit way rid lon CL Y T hlY => ?_)
  have h5 := V.1.n5
  by_cases m1 : m_isFrom x2 0 4 = 0
  · have c1 : (x_isWithin x2 0 4) = 0 := m1
    rw [show m_qends n th sst' w x1 x2 = (-1, 0, 1) by unfold m_qends; rw [if_pos m1]; rfl]
    have FA : ∀ x, (x < 282 ∨ 324 < x) → g0[x]? = g0[x]? := fun x _ => rfl
    have TA := P.2.2.1
    have K9 : kA g0 [(0, .inl (9, [.ref 1, .ref 3, .ref 4, .ref 29, .ref 281, .ref 325, .ref 343, .ref 327, .int sst])), (4, .inl (7, [.ref 343, .int mi, .int shu, .int bus, .ref 5, .ref 6, .ref 7, .ref 8, .ref 9, .ref 10, .ref 11, .ref 12, .ref 13, .ref 14, .ref 15, .int lks, .ref 16, .ref 17, .ref 20])), (5, .inr (.inl (0, rk))), (7, .inr (.inl (0, ph))), (281, .inl (1, [.ref 282, .ref 307, .ref 323, .ref 324])), (343, .inl (2, [.int (nI S), .ref 344, .ref 345, .ref 346, .ref 347, .int (nI n), .ref 348, .ref 349, .ref 350, .ref 351, .ref 352, .ref 353, .ref 354, .int cel, .ref 355, .ref 356, .ref 357, .ref 358])), (346, .inr (.inl (0, tra))), (351, .inr (.inl (0, tto)))] := ⟨(FA 0 (by decide)).trans C0, (FA 4 (by decide)).trans CS.1, (FA 5 (by decide)).trans CS.2.1, (FA 7 (by decide)).trans CS.2.2.2.1, P.2.2.2, (FA 343 (by decide)).trans CL.1, (FA 346 (by decide)).trans CL.2.2.1, (FA 351 (by decide)).trans CL.2.2.2.2.2.2.1, trivial⟩
    have K : KN g0 [(0, .inl (9, [.ref 1, .ref 3, .ref 4, .ref 29, .ref 281, .ref 325, .ref 343, .ref 327, .int sst])), (4, .inl (7, [.ref 343, .int mi, .int shu, .int bus, .ref 5, .ref 6, .ref 7, .ref 8, .ref 9, .ref 10, .ref 11, .ref 12, .ref 13, .ref 14, .ref 15, .int lks, .ref 16, .ref 17, .ref 20])), (5, .inr (.inl (0, rk))), (7, .inr (.inl (0, ph))), (281, .inl (1, [.ref 282, .ref 307, .ref 323, .ref 324])), (343, .inl (2, [.int (nI S), .ref 344, .ref 345, .ref 346, .ref 347, .int (nI n), .ref 348, .ref 349, .ref 350, .ref 351, .ref 352, .ref 353, .ref 354, .int cel, .ref 355, .ref 356, .ref 357, .ref 358])), (346, .inr (.inl (0, tra))), (351, .inr (.inl (0, tto)))] g0 := K9.K
    show j_V jP d 139 0 [(0, .ref 0), (1, .int x1), (2, .int x2)] [] g0 _
    obtain ⟨lv, elv, L⟩ : ∃ lv, lv = [(0, .ref 0), (1, .int x1), (2, .int x2)] ∧ LK lv [(0, .ref 0), (1, .int x1), (2, .int x2)] := ⟨_, rfl, LK.rf⟩
    rw [← elv]
    clear elv
    refine j_V.ldL xbF2_M xbF2_0 rfl (i := 2) (kd := 0) (v := .int x2) (pcJ := 1) rfl L rfl rfl rfl ?_
    refine j_V.one xbF2_M xbF2_1 (by decide) (pcJ := 2) (stJ := [.int 0, .int x2]) rfl ?_
    refine j_V.one xbF2_M xbF2_2 (by decide) (pcJ := 3) (stJ := [.int 4, .int 0, .int x2]) rfl ?_
    refine j_V.cl xbF2_M xbF2_3 rfl (md := 2) (mj := 162) rfl (by decide) xbwisWi_M (As := [.int x2, .int 0, .int 4]) (rest := []) (jk_spl2 rfl rfl (Nat.le_of_ble_eq_true rfl) (Nat.le_of_ble_eq_true rfl)) (fun d => xbwisWi_ok (K.fi [] rfl rfl)) ?_
    rintro r hz ⟨rfl, ez⟩
    rw [ez]
    clear ez
    show j_V jP _ 139 6 lv [.int (x_isWithin x2 0 4)] g0 _
    refine j_V.ifc xbF2_M xbF2_6 (t := 15) rfl (fun c6_0 => ?_) (fun c6_0 => ?_)
    · replace c6_0 : ¬ ((x_isWithin x2 0 4) = 0) := jd_ne c6_0
      exact absurd c1 c6_0
    · replace c6_0 : (x_isWithin x2 0 4) = 0 := jd_nen c6_0
      refine j_V.ldL xbF2_M xbF2_9 rfl (i := 0) (kd := 2) (v := .ref 0) (pcJ := 10) rfl L rfl rfl rfl ?_
      refine j_V.one xbF2_M xbF2_10 (by decide) (pcJ := 11) (stJ := [.int 1, .ref 0]) rfl ?_
      refine j_V.cl xbF2_M xbF2_11 rfl (md := 3) (mj := 161) rfl (by decide) xb50_M (As := [.ref 0, .int 1]) (rest := []) (jk_spl3 (K.at rfl) rfl rfl rfl (Nat.le_of_ble_eq_true rfl) (Nat.le_of_ble_eq_true rfl)) (fun d => xb50_ok (K.fi [0] rfl rfl)) ?_
      rintro r h9 ⟨rfl, K9⟩
      have K : KN h9 [(0, .inl (9, [.ref 1, .ref 3, .ref 4, .ref 29, .ref 281, .ref 325, .ref 343, .ref 327, .int ((x_qrefuse sst 1).2)])), (4, .inl (7, [.ref 343, .int mi, .int shu, .int bus, .ref 5, .ref 6, .ref 7, .ref 8, .ref 9, .ref 10, .ref 11, .ref 12, .ref 13, .ref 14, .ref 15, .int lks, .ref 16, .ref 17, .ref 20])), (5, .inr (.inl (0, rk))), (7, .inr (.inl (0, ph))), (281, .inl (1, [.ref 282, .ref 307, .ref 323, .ref 324])), (343, .inl (2, [.int (nI S), .ref 344, .ref 345, .ref 346, .ref 347, .int (nI n), .ref 348, .ref 349, .ref 350, .ref 351, .ref 352, .ref 353, .ref 354, .int cel, .ref 355, .ref 356, .ref 357, .ref 358])), (346, .inr (.inl (0, tra))), (351, .inr (.inl (0, tto)))] g0 := K.mg K9 rfl rfl
      clear K9
      show j_V jP _ 139 14 lv [.int ((x_qrefuse sst 1).1)] h9 _
      refine j_V.ri xbF2_M xbF2_14 ?_
      exact fqP.yes R0 FA TA (fun x g => KN.off K9 K (lkn (fun z => g z.symm) (lke (lke (lke (lke (lke (lke (lke rfl))))))))) (K.at rfl)
  have c1 : ¬ ((x_isWithin x2 0 4) = 0) := m1
  have ek : m_toTheEnd n w x1 = m_adv n x1 true 300 w := (m_adv_t n x1 300 w).symm
  have FA : ∀ x, (x < 282 ∨ 324 < x) → g0[x]? = g0[x]? := fun x _ => rfl
  have TA := P.2.2.1
  have K9 : kA g0 [(0, .inl (9, [.ref 1, .ref 3, .ref 4, .ref 29, .ref 281, .ref 325, .ref 343, .ref 327, .int sst])), (4, .inl (7, [.ref 343, .int mi, .int shu, .int bus, .ref 5, .ref 6, .ref 7, .ref 8, .ref 9, .ref 10, .ref 11, .ref 12, .ref 13, .ref 14, .ref 15, .int lks, .ref 16, .ref 17, .ref 20])), (5, .inr (.inl (0, rk))), (7, .inr (.inl (0, ph))), (281, .inl (1, [.ref 282, .ref 307, .ref 323, .ref 324])), (343, .inl (2, [.int (nI S), .ref 344, .ref 345, .ref 346, .ref 347, .int (nI n), .ref 348, .ref 349, .ref 350, .ref 351, .ref 352, .ref 353, .ref 354, .int cel, .ref 355, .ref 356, .ref 357, .ref 358])), (346, .inr (.inl (0, tra))), (351, .inr (.inl (0, tto)))] := ⟨(FA 0 (by decide)).trans C0, (FA 4 (by decide)).trans CS.1, (FA 5 (by decide)).trans CS.2.1, (FA 7 (by decide)).trans CS.2.2.2.1, P.2.2.2, (FA 343 (by decide)).trans CL.1, (FA 346 (by decide)).trans CL.2.2.1, (FA 351 (by decide)).trans CL.2.2.2.2.2.2.1, trivial⟩
  have K : KN g0 [(0, .inl (9, [.ref 1, .ref 3, .ref 4, .ref 29, .ref 281, .ref 325, .ref 343, .ref 327, .int sst])), (4, .inl (7, [.ref 343, .int mi, .int shu, .int bus, .ref 5, .ref 6, .ref 7, .ref 8, .ref 9, .ref 10, .ref 11, .ref 12, .ref 13, .ref 14, .ref 15, .int lks, .ref 16, .ref 17, .ref 20])), (5, .inr (.inl (0, rk))), (7, .inr (.inl (0, ph))), (281, .inl (1, [.ref 282, .ref 307, .ref 323, .ref 324])), (343, .inl (2, [.int (nI S), .ref 344, .ref 345, .ref 346, .ref 347, .int (nI n), .ref 348, .ref 349, .ref 350, .ref 351, .ref 352, .ref 353, .ref 354, .int cel, .ref 355, .ref 356, .ref 357, .ref 358])), (346, .inr (.inl (0, tra))), (351, .inr (.inl (0, tto)))] g0 := K9.K
  show j_V jP d 139 0 [(0, .ref 0), (1, .int x1), (2, .int x2)] [] g0 _
  obtain ⟨lv, elv, L⟩ : ∃ lv, lv = [(0, .ref 0), (1, .int x1), (2, .int x2)] ∧ LK lv [(0, .ref 0), (1, .int x1), (2, .int x2)] := ⟨_, rfl, LK.rf⟩
  rw [← elv]
  clear elv
  refine j_V.ldL xbF2_M xbF2_0 rfl (i := 2) (kd := 0) (v := .int x2) (pcJ := 1) rfl L rfl rfl rfl ?_
  refine j_V.one xbF2_M xbF2_1 (by decide) (pcJ := 2) (stJ := [.int 0, .int x2]) rfl ?_
  refine j_V.one xbF2_M xbF2_2 (by decide) (pcJ := 3) (stJ := [.int 4, .int 0, .int x2]) rfl ?_
  refine j_V.cl xbF2_M xbF2_3 rfl (md := 2) (mj := 162) rfl (by decide) xbwisWi_M (As := [.int x2, .int 0, .int 4]) (rest := []) (jk_spl2 rfl rfl (Nat.le_of_ble_eq_true rfl) (Nat.le_of_ble_eq_true rfl)) (fun d => xbwisWi_ok (K.fi [] rfl rfl)) ?_
  rintro r hz ⟨rfl, ez⟩
  rw [ez]
  clear ez
  show j_V jP _ 139 6 lv [.int (x_isWithin x2 0 4)] g0 _
  refine j_V.ifc xbF2_M xbF2_6 (t := 15) rfl (fun c6_0 => ?_) (fun c6_0 => ?_)
  · replace c6_0 : ¬ ((x_isWithin x2 0 4) = 0) := jd_ne c6_0
    refine j_V.ldL xbF2_M xbF2_15 rfl (i := 0) (kd := 2) (v := .ref 0) (pcJ := 16) rfl L rfl rfl rfl ?_
    refine j_V.getK xbF2_M xbF2_16 (ci := 9) (j := 4) rfl K rfl rfl ?_
    refine j_V.ldL xbF2_M xbF2_19 rfl (i := 0) (kd := 2) (v := .ref 0) (pcJ := 20) rfl L rfl rfl rfl ?_
    refine j_V.getK xbF2_M xbF2_20 (ci := 9) (j := 2) rfl K rfl rfl ?_
    refine j_V.ldL xbF2_M xbF2_23 rfl (i := 1) (kd := 0) (v := .int x1) (pcJ := 24) rfl L rfl rfl rfl ?_
    refine j_V.cl xbF2_M xbF2_24 rfl (md := 3) (mj := 6) rfl (by decide) fp4_M (As := [.ref 281, .ref 4, .int x1]) (rest := []) (jk_spl3 (K.at rfl) rfl rfl rfl (Nat.le_of_ble_eq_true rfl) (Nat.le_of_ble_eq_true rfl)) (fun d => hp_end_343 P hm hb) ?_
    rintro r h25 ⟨rfl, T9, Y9, F9⟩
    have TA := T9.sh
    replace FA : ∀ x, (x < 282 ∨ 324 < x) → h25[x]? = g0[x]? := fun x g => (F9 x (by omega)).trans (FA x g)
    replace P : hF 343 n S w h25 := P.fr (fun x g => F9 x (by omega)) TA
    refine hS9.opn T9 (fun miq shuq busq lksq rlq pevq rkq staq phq spq ceq duq heq riq usq cmq lfq lkdq rowq seaq pmsq pmmq pmtq pstq pwaq prsq prrq pfaq CQ hlQ VQ => ?_)
    have K9 : kA h25 [(0, .inl (9, [.ref 1, .ref 3, .ref 4, .ref 29, .ref 281, .ref 325, .ref 343, .ref 327, .int sst])), (4, .inl (7, [.ref 343, .int mi, .int shu, .int bus, .ref 5, .ref 6, .ref 7, .ref 8, .ref 9, .ref 10, .ref 11, .ref 12, .ref 13, .ref 14, .ref 15, .int lks, .ref 16, .ref 17, .ref 20])), (5, .inr (.inl (0, rk))), (7, .inr (.inl (0, ph))), (281, .inl (1, [.ref 282, .ref 307, .ref 323, .ref 324])), (282, .inl (7, [.ref 343, .int miq, .int shuq, .int busq, .ref 283, .ref 284, .ref 285, .ref 286, .ref 287, .ref 288, .ref 289, .ref 290, .ref 291, .ref 292, .ref 293, .int lksq, .ref 294, .ref 295, .ref 298])), (292, .inr (.inl (0, cmq))), (343, .inl (2, [.int (nI S), .ref 344, .ref 345, .ref 346, .ref 347, .int (nI n), .ref 348, .ref 349, .ref 350, .ref 351, .ref 352, .ref 353, .ref 354, .int cel, .ref 355, .ref 356, .ref 357, .ref 358])), (346, .inr (.inl (0, tra))), (351, .inr (.inl (0, tto)))] := ⟨(FA 0 (by decide)).trans C0, (FA 4 (by decide)).trans CS.1, (FA 5 (by decide)).trans CS.2.1, (FA 7 (by decide)).trans CS.2.2.2.1, P.2.2.2, CQ.1, CQ.2.2.2.2.2.2.2.2.2.2.1, (FA 343 (by decide)).trans CL.1, (FA 346 (by decide)).trans CL.2.2.1, (FA 351 (by decide)).trans CL.2.2.2.2.2.2.1, trivial⟩
    have K : KN h25 [(0, .inl (9, [.ref 1, .ref 3, .ref 4, .ref 29, .ref 281, .ref 325, .ref 343, .ref 327, .int sst])), (4, .inl (7, [.ref 343, .int mi, .int shu, .int bus, .ref 5, .ref 6, .ref 7, .ref 8, .ref 9, .ref 10, .ref 11, .ref 12, .ref 13, .ref 14, .ref 15, .int lks, .ref 16, .ref 17, .ref 20])), (5, .inr (.inl (0, rk))), (7, .inr (.inl (0, ph))), (281, .inl (1, [.ref 282, .ref 307, .ref 323, .ref 324])), (282, .inl (7, [.ref 343, .int miq, .int shuq, .int busq, .ref 283, .ref 284, .ref 285, .ref 286, .ref 287, .ref 288, .ref 289, .ref 290, .ref 291, .ref 292, .ref 293, .int lksq, .ref 294, .ref 295, .ref 298])), (292, .inr (.inl (0, cmq))), (343, .inl (2, [.int (nI S), .ref 344, .ref 345, .ref 346, .ref 347, .int (nI n), .ref 348, .ref 349, .ref 350, .ref 351, .ref 352, .ref 353, .ref 354, .int cel, .ref 355, .ref 356, .ref 357, .ref 358])), (346, .inr (.inl (0, tra))), (351, .inr (.inl (0, tto)))] h25 := K9.K
    show j_V jP _ 139 27 lv [.ref 282] h25 _
    refine j_V.stL xbF2_M xbF2_27 rfl (i := 3) (kd := 2) (kl' := [(0, .ref 0), (1, .int x1), (2, .int x2), (3, .ref 282)]) (pcJ := 28) rfl L rfl (by decide) rfl rfl rfl (fun lv L => ?_)
    refine j_V.ldL xbF2_M xbF2_28 rfl (i := 2) (kd := 0) (v := .int x2) (pcJ := 29) rfl L rfl rfl rfl ?_
    refine j_V.tsw xbF2_M xbF2_29 (fun t ht hx => ?_) (fun i off t ho ht hx => ?_)
    · obtain rfl : 106 = t := Option.some.inj (show some 106 = some t from ht)
      have s29_0 : ¬ (x2 = 0) := fun z => by rw [z] at hx; revert hx; decide
      have s29_1 : ¬ (x2 = 1) := fun z => by rw [z] at hx; revert hx; decide
      have s29_2 : ¬ (x2 = 2) := fun z => by rw [z] at hx; revert hx; decide
      have s29_3 : ¬ (x2 = 3) := fun z => by rw [z] at hx; revert hx; decide
      refine j_V.ldL xbF2_M xbF2_106 rfl (i := 0) (kd := 2) (v := .ref 0) (pcJ := 107) rfl L rfl rfl rfl ?_
      refine j_V.ldL xbF2_M xbF2_107 rfl (i := 3) (kd := 2) (v := .ref 282) (pcJ := 108) rfl L rfl rfl rfl ?_
      refine j_V.cl xbF2_M xbF2_108 rfl (md := 3) (mj := 66) rfl (by decide) xd07_M (As := [.ref 282]) (rest := [.ref 0]) (jk_spl3 (K.at rfl) rfl rfl rfl (Nat.le_of_ble_eq_true rfl) (Nat.le_of_ble_eq_true rfl)) (fun d => tq_use_343 T9 Y9) ?_
      rintro r hz ⟨rfl, ez⟩
      rw [ez]
      clear ez
      show j_V jP _ 139 111 lv [.int (m_allUse (m_adv n x1 true 300 w)), .ref 0] h25 _
      refine j_V.cl xbF2_M xbF2_111 rfl (md := 3) (mj := 159) rfl (by decide) xb49_M (As := [.ref 0, .int (m_allUse (m_adv n x1 true 300 w))]) (rest := []) (jk_spl3 (K.at rfl) rfl rfl rfl (Nat.le_of_ble_eq_true rfl) (Nat.le_of_ble_eq_true rfl)) (fun d => xb49_ok (K.fi [0] rfl rfl)) ?_
      rintro r h9 ⟨rfl, K9⟩
      have K : KN h9 [(0, .inl (9, [.ref 1, .ref 3, .ref 4, .ref 29, .ref 281, .ref 325, .ref 343, .ref 327, .int ((x_qanswer sst (m_allUse (m_adv n x1 true 300 w))).2)])), (4, .inl (7, [.ref 343, .int mi, .int shu, .int bus, .ref 5, .ref 6, .ref 7, .ref 8, .ref 9, .ref 10, .ref 11, .ref 12, .ref 13, .ref 14, .ref 15, .int lks, .ref 16, .ref 17, .ref 20])), (5, .inr (.inl (0, rk))), (7, .inr (.inl (0, ph))), (281, .inl (1, [.ref 282, .ref 307, .ref 323, .ref 324])), (282, .inl (7, [.ref 343, .int miq, .int shuq, .int busq, .ref 283, .ref 284, .ref 285, .ref 286, .ref 287, .ref 288, .ref 289, .ref 290, .ref 291, .ref 292, .ref 293, .int lksq, .ref 294, .ref 295, .ref 298])), (292, .inr (.inl (0, cmq))), (343, .inl (2, [.int (nI S), .ref 344, .ref 345, .ref 346, .ref 347, .int (nI n), .ref 348, .ref 349, .ref 350, .ref 351, .ref 352, .ref 353, .ref 354, .int cel, .ref 355, .ref 356, .ref 357, .ref 358])), (346, .inr (.inl (0, tra))), (351, .inr (.inl (0, tto)))] h25 := K.mg K9 rfl rfl
      clear K9
      show j_V jP _ 139 114 lv [.int ((x_qanswer sst (m_allUse (m_adv n x1 true 300 w))).1)] h9 _
      refine j_V.ri xbF2_M xbF2_114 ?_
      rw [show m_qends n th sst' w x1 x2 = ((m_allUse (m_adv n x1 true 300 w)), 0, 0) by unfold m_qends; rw [ek, if_neg m1, if_neg s29_0, if_neg s29_1, if_neg s29_2, if_neg s29_3]; rfl]
      exact fqP.yes R0 FA TA (fun x g => KN.off K9 K (lkn (fun z => g z.symm) (lke (lke (lke (lke (lke (lke (lke (lke (lke rfl))))))))))) (K.at rfl)
    · match i, ho, hx with
      | 0, ho, hx =>
        obtain rfl := Option.some.inj (show some (31 : Int) = some off from ho)
        obtain rfl : 60 = t := Option.some.inj (show some 60 = some t from ht)
        have s29_0 : x2 = 0 := Int32.toInt_inj.mp (by rw [hx]; rfl)
        refine j_V.ldL xbF2_M xbF2_60 rfl (i := 0) (kd := 2) (v := .ref 0) (pcJ := 61) rfl L rfl rfl rfl ?_
        refine j_V.ldL xbF2_M xbF2_61 rfl (i := 3) (kd := 2) (v := .ref 282) (pcJ := 62) rfl L rfl rfl rfl ?_
        refine j_V.one xbF2_M xbF2_62 (by decide) (pcJ := 63) (stJ := [.int (-1), .ref 282, .ref 0]) rfl ?_
        refine j_V.cl xbF2_M xbF2_63 rfl (md := 3) (mj := 65) rfl (by decide) xd06_M (As := [.ref 282, .int (-1)]) (rest := [.ref 0]) (jk_spl3 (K.at rfl) rfl rfl rfl (Nat.le_of_ble_eq_true rfl) (Nat.le_of_ble_eq_true rfl)) (fun d => tq_price_343 T9 Y9) ?_
        rintro r hz ⟨rfl, ez⟩
        rw [ez]
        clear ez
        show j_V jP _ 139 66 lv [.int (m_price (m_adv n x1 true 300 w)), .ref 0] h25 _
        refine j_V.cl xbF2_M xbF2_66 rfl (md := 3) (mj := 159) rfl (by decide) xb49_M (As := [.ref 0, .int (m_price (m_adv n x1 true 300 w))]) (rest := []) (jk_spl3 (K.at rfl) rfl rfl rfl (Nat.le_of_ble_eq_true rfl) (Nat.le_of_ble_eq_true rfl)) (fun d => xb49_ok (K.fi [0] rfl rfl)) ?_
        rintro r h9 ⟨rfl, K9⟩
        have K : KN h9 [(0, .inl (9, [.ref 1, .ref 3, .ref 4, .ref 29, .ref 281, .ref 325, .ref 343, .ref 327, .int ((x_qanswer sst (m_price (m_adv n x1 true 300 w))).2)])), (4, .inl (7, [.ref 343, .int mi, .int shu, .int bus, .ref 5, .ref 6, .ref 7, .ref 8, .ref 9, .ref 10, .ref 11, .ref 12, .ref 13, .ref 14, .ref 15, .int lks, .ref 16, .ref 17, .ref 20])), (5, .inr (.inl (0, rk))), (7, .inr (.inl (0, ph))), (281, .inl (1, [.ref 282, .ref 307, .ref 323, .ref 324])), (282, .inl (7, [.ref 343, .int miq, .int shuq, .int busq, .ref 283, .ref 284, .ref 285, .ref 286, .ref 287, .ref 288, .ref 289, .ref 290, .ref 291, .ref 292, .ref 293, .int lksq, .ref 294, .ref 295, .ref 298])), (292, .inr (.inl (0, cmq))), (343, .inl (2, [.int (nI S), .ref 344, .ref 345, .ref 346, .ref 347, .int (nI n), .ref 348, .ref 349, .ref 350, .ref 351, .ref 352, .ref 353, .ref 354, .int cel, .ref 355, .ref 356, .ref 357, .ref 358])), (346, .inr (.inl (0, tra))), (351, .inr (.inl (0, tto)))] h25 := K.mg K9 rfl rfl
        clear K9
        show j_V jP _ 139 69 lv [.int ((x_qanswer sst (m_price (m_adv n x1 true 300 w))).1)] h9 _
        refine j_V.ri xbF2_M xbF2_69 ?_
        rw [show m_qends n th sst' w x1 x2 = ((m_price (m_adv n x1 true 300 w)), 0, 0) by unfold m_qends; rw [ek, if_neg m1, if_pos s29_0]; rfl]
        exact fqP.yes R0 FA TA (fun x g => KN.off K9 K (lkn (fun z => g z.symm) (lke (lke (lke (lke (lke (lke (lke (lke (lke rfl))))))))))) (K.at rfl)
      | 1, ho, hx =>
        obtain rfl := Option.some.inj (show some (41 : Int) = some off from ho)
        obtain rfl : 70 = t := Option.some.inj (show some 70 = some t from ht)
        have s29_1 : x2 = 1 := Int32.toInt_inj.mp (by rw [hx]; rfl)
        have s29_0 : ¬ (x2 = 0) := fun z => by rw [s29_1] at z; exact absurd z (by decide)
        refine j_V.ldL xbF2_M xbF2_70 rfl (i := 0) (kd := 2) (v := .ref 0) (pcJ := 71) rfl L rfl rfl rfl ?_
        refine j_V.ldL xbF2_M xbF2_71 rfl (i := 3) (kd := 2) (v := .ref 282) (pcJ := 72) rfl L rfl rfl rfl ?_
        refine j_V.getK xbF2_M xbF2_72 (ci := 7) (j := 1) rfl K rfl rfl ?_
        refine j_V.cl xbF2_M xbF2_75 rfl (md := 3) (mj := 159) rfl (by decide) xb49_M (As := [.ref 0, .int miq]) (rest := []) (jk_spl3 (K.at rfl) rfl rfl rfl (Nat.le_of_ble_eq_true rfl) (Nat.le_of_ble_eq_true rfl)) (fun d => xb49_ok (K.fi [0] rfl rfl)) ?_
        rintro r h9 ⟨rfl, K9⟩
        have K : KN h9 [(0, .inl (9, [.ref 1, .ref 3, .ref 4, .ref 29, .ref 281, .ref 325, .ref 343, .ref 327, .int ((x_qanswer sst miq).2)])), (4, .inl (7, [.ref 343, .int mi, .int shu, .int bus, .ref 5, .ref 6, .ref 7, .ref 8, .ref 9, .ref 10, .ref 11, .ref 12, .ref 13, .ref 14, .ref 15, .int lks, .ref 16, .ref 17, .ref 20])), (5, .inr (.inl (0, rk))), (7, .inr (.inl (0, ph))), (281, .inl (1, [.ref 282, .ref 307, .ref 323, .ref 324])), (282, .inl (7, [.ref 343, .int miq, .int shuq, .int busq, .ref 283, .ref 284, .ref 285, .ref 286, .ref 287, .ref 288, .ref 289, .ref 290, .ref 291, .ref 292, .ref 293, .int lksq, .ref 294, .ref 295, .ref 298])), (292, .inr (.inl (0, cmq))), (343, .inl (2, [.int (nI S), .ref 344, .ref 345, .ref 346, .ref 347, .int (nI n), .ref 348, .ref 349, .ref 350, .ref 351, .ref 352, .ref 353, .ref 354, .int cel, .ref 355, .ref 356, .ref 357, .ref 358])), (346, .inr (.inl (0, tra))), (351, .inr (.inl (0, tto)))] h25 := K.mg K9 rfl rfl
        clear K9
        show j_V jP _ 139 78 lv [.int ((x_qanswer sst miq).1)] h9 _
        have em : miq = gA (m_adv n x1 true 300 w) 201 := VQ.2.2.1.1.trans gA_201.symm
        rw [em] at K K9 ⊢
        refine j_V.ri xbF2_M xbF2_78 ?_
        rw [show m_qends n th sst' w x1 x2 = ((gA (m_adv n x1 true 300 w) 201), 0, 0) by unfold m_qends; rw [ek, if_neg m1, if_neg s29_0, if_pos s29_1]; rfl]
        exact fqP.yes R0 FA TA (fun x g => KN.off K9 K (lkn (fun z => g z.symm) (lke (lke (lke (lke (lke (lke (lke (lke (lke rfl))))))))))) (K.at rfl)
      | 2, ho, hx =>
        obtain rfl := Option.some.inj (show some (50 : Int) = some off from ho)
        obtain rfl : 79 = t := Option.some.inj (show some 79 = some t from ht)
        have s29_2 : x2 = 2 := Int32.toInt_inj.mp (by rw [hx]; rfl)
        have s29_0 : ¬ (x2 = 0) := fun z => by rw [s29_2] at z; exact absurd z (by decide)
        have s29_1 : ¬ (x2 = 1) := fun z => by rw [s29_2] at z; exact absurd z (by decide)
        refine j_V.ldL xbF2_M xbF2_79 rfl (i := 0) (kd := 2) (v := .ref 0) (pcJ := 80) rfl L rfl rfl rfl ?_
        refine j_V.ldL xbF2_M xbF2_80 rfl (i := 3) (kd := 2) (v := .ref 282) (pcJ := 81) rfl L rfl rfl rfl ?_
        refine j_V.one xbF2_M xbF2_81 (by decide) (pcJ := 82) (stJ := [.int 3, .ref 282, .ref 0]) rfl ?_
        refine j_V.cl xbF2_M xbF2_82 rfl (md := 3) (mj := 62) rfl (by decide) xd03_M (As := [.ref 282, .int 3]) (rest := [.ref 0]) (jk_spl3 (K.at rfl) rfl rfl rfl (Nat.le_of_ble_eq_true rfl) (Nat.le_of_ble_eq_true rfl)) (fun d => tq_cnt_343 T9 Y9 3) ?_
        rintro r hz ⟨rfl, ez⟩
        rw [ez]
        clear ez
        show j_V jP _ 139 85 lv [.int (m_howMany (m_adv n x1 true 300 w) 3), .ref 0] h25 _
        refine j_V.cl xbF2_M xbF2_85 rfl (md := 3) (mj := 159) rfl (by decide) xb49_M (As := [.ref 0, .int (m_howMany (m_adv n x1 true 300 w) 3)]) (rest := []) (jk_spl3 (K.at rfl) rfl rfl rfl (Nat.le_of_ble_eq_true rfl) (Nat.le_of_ble_eq_true rfl)) (fun d => xb49_ok (K.fi [0] rfl rfl)) ?_
        rintro r h9 ⟨rfl, K9⟩
        have K : KN h9 [(0, .inl (9, [.ref 1, .ref 3, .ref 4, .ref 29, .ref 281, .ref 325, .ref 343, .ref 327, .int ((x_qanswer sst (m_howMany (m_adv n x1 true 300 w) 3)).2)])), (4, .inl (7, [.ref 343, .int mi, .int shu, .int bus, .ref 5, .ref 6, .ref 7, .ref 8, .ref 9, .ref 10, .ref 11, .ref 12, .ref 13, .ref 14, .ref 15, .int lks, .ref 16, .ref 17, .ref 20])), (5, .inr (.inl (0, rk))), (7, .inr (.inl (0, ph))), (281, .inl (1, [.ref 282, .ref 307, .ref 323, .ref 324])), (282, .inl (7, [.ref 343, .int miq, .int shuq, .int busq, .ref 283, .ref 284, .ref 285, .ref 286, .ref 287, .ref 288, .ref 289, .ref 290, .ref 291, .ref 292, .ref 293, .int lksq, .ref 294, .ref 295, .ref 298])), (292, .inr (.inl (0, cmq))), (343, .inl (2, [.int (nI S), .ref 344, .ref 345, .ref 346, .ref 347, .int (nI n), .ref 348, .ref 349, .ref 350, .ref 351, .ref 352, .ref 353, .ref 354, .int cel, .ref 355, .ref 356, .ref 357, .ref 358])), (346, .inr (.inl (0, tra))), (351, .inr (.inl (0, tto)))] h25 := K.mg K9 rfl rfl
        clear K9
        show j_V jP _ 139 88 lv [.int ((x_qanswer sst (m_howMany (m_adv n x1 true 300 w) 3)).1)] h9 _
        refine j_V.ri xbF2_M xbF2_88 ?_
        rw [show m_qends n th sst' w x1 x2 = ((m_howMany (m_adv n x1 true 300 w) 3), 0, 0) by unfold m_qends; rw [ek, if_neg m1, if_neg s29_0, if_neg s29_1, if_pos s29_2]; rfl]
        exact fqP.yes R0 FA TA (fun x g => KN.off K9 K (lkn (fun z => g z.symm) (lke (lke (lke (lke (lke (lke (lke (lke (lke rfl))))))))))) (K.at rfl)
      | 3, ho, hx =>
        obtain rfl := Option.some.inj (show some (60 : Int) = some off from ho)
        obtain rfl : 89 = t := Option.some.inj (show some 89 = some t from ht)
        have s29_3 : x2 = 3 := Int32.toInt_inj.mp (by rw [hx]; rfl)
        have s29_0 : ¬ (x2 = 0) := fun z => by rw [s29_3] at z; exact absurd z (by decide)
        have s29_1 : ¬ (x2 = 1) := fun z => by rw [s29_3] at z; exact absurd z (by decide)
        have s29_2 : ¬ (x2 = 2) := fun z => by rw [s29_3] at z; exact absurd z (by decide)
        refine j_V.ldL xbF2_M xbF2_89 rfl (i := 0) (kd := 2) (v := .ref 0) (pcJ := 90) rfl L rfl rfl rfl ?_
        refine j_V.ldL xbF2_M xbF2_90 rfl (i := 3) (kd := 2) (v := .ref 282) (pcJ := 91) rfl L rfl rfl rfl ?_
        refine j_V.cl xbF2_M xbF2_91 rfl (md := 3) (mj := 78) rfl (by decide) xd21_M (As := [.ref 282]) (rest := [.ref 0]) (jk_spl3 (K.at rfl) rfl rfl rfl (Nat.le_of_ble_eq_true rfl) (Nat.le_of_ble_eq_true rfl)) (fun d => tq_stuck_343 T9 Y9) ?_
        rintro r hz ⟨rfl, ez⟩
        rw [ez]
        clear ez
        show j_V jP _ 139 94 lv [.int (m_isStuck (m_adv n x1 true 300 w)), .ref 0] h25 _
        refine j_V.ifc xbF2_M xbF2_94 (t := 101) rfl (fun c94_4 => ?_) (fun c94_4 => ?_)
        · replace c94_4 : (m_isStuck (m_adv n x1 true 300 w)) = 0 := jd_eq c94_4
          refine j_V.one xbF2_M xbF2_101 (by decide) (pcJ := 102) (stJ := [.int 0, .ref 0]) rfl ?_
          refine j_V.cl xbF2_M xbF2_102 rfl (md := 3) (mj := 159) rfl (by decide) xb49_M (As := [.ref 0, .int 0]) (rest := []) (jk_spl3 (K.at rfl) rfl rfl rfl (Nat.le_of_ble_eq_true rfl) (Nat.le_of_ble_eq_true rfl)) (fun d => xb49_ok (K.fi [0] rfl rfl)) ?_
          rintro r h9 ⟨rfl, K9⟩
          have K : KN h9 [(0, .inl (9, [.ref 1, .ref 3, .ref 4, .ref 29, .ref 281, .ref 325, .ref 343, .ref 327, .int ((x_qanswer sst 0).2)])), (4, .inl (7, [.ref 343, .int mi, .int shu, .int bus, .ref 5, .ref 6, .ref 7, .ref 8, .ref 9, .ref 10, .ref 11, .ref 12, .ref 13, .ref 14, .ref 15, .int lks, .ref 16, .ref 17, .ref 20])), (5, .inr (.inl (0, rk))), (7, .inr (.inl (0, ph))), (281, .inl (1, [.ref 282, .ref 307, .ref 323, .ref 324])), (282, .inl (7, [.ref 343, .int miq, .int shuq, .int busq, .ref 283, .ref 284, .ref 285, .ref 286, .ref 287, .ref 288, .ref 289, .ref 290, .ref 291, .ref 292, .ref 293, .int lksq, .ref 294, .ref 295, .ref 298])), (292, .inr (.inl (0, cmq))), (343, .inl (2, [.int (nI S), .ref 344, .ref 345, .ref 346, .ref 347, .int (nI n), .ref 348, .ref 349, .ref 350, .ref 351, .ref 352, .ref 353, .ref 354, .int cel, .ref 355, .ref 356, .ref 357, .ref 358])), (346, .inr (.inl (0, tra))), (351, .inr (.inl (0, tto)))] h25 := K.mg K9 rfl rfl
          clear K9
          show j_V jP _ 139 105 lv [.int ((x_qanswer sst 0).1)] h9 _
          refine j_V.ri xbF2_M xbF2_105 ?_
          rw [show m_qends n th sst' w x1 x2 = (0, 0, 0) by unfold m_qends; rw [ek, if_neg m1, if_neg s29_0, if_neg s29_1, if_neg s29_2, if_pos s29_3, if_pos c94_4]; rfl]
          exact fqP.yes R0 FA TA (fun x g => KN.off K9 K (lkn (fun z => g z.symm) (lke (lke (lke (lke (lke (lke (lke (lke (lke rfl))))))))))) (K.at rfl)
        · replace c94_4 : ¬ ((m_isStuck (m_adv n x1 true 300 w)) = 0) := jd_eqn c94_4
          refine j_V.one xbF2_M xbF2_97 (by decide) (pcJ := 98) (stJ := [.int 1, .ref 0]) rfl ?_
          refine j_V.gto xbF2_M xbF2_98 (t := 102) rfl ?_
          refine j_V.cl xbF2_M xbF2_102 rfl (md := 3) (mj := 159) rfl (by decide) xb49_M (As := [.ref 0, .int 1]) (rest := []) (jk_spl3 (K.at rfl) rfl rfl rfl (Nat.le_of_ble_eq_true rfl) (Nat.le_of_ble_eq_true rfl)) (fun d => xb49_ok (K.fi [0] rfl rfl)) ?_
          rintro r h9 ⟨rfl, K9⟩
          have K : KN h9 [(0, .inl (9, [.ref 1, .ref 3, .ref 4, .ref 29, .ref 281, .ref 325, .ref 343, .ref 327, .int ((x_qanswer sst 1).2)])), (4, .inl (7, [.ref 343, .int mi, .int shu, .int bus, .ref 5, .ref 6, .ref 7, .ref 8, .ref 9, .ref 10, .ref 11, .ref 12, .ref 13, .ref 14, .ref 15, .int lks, .ref 16, .ref 17, .ref 20])), (5, .inr (.inl (0, rk))), (7, .inr (.inl (0, ph))), (281, .inl (1, [.ref 282, .ref 307, .ref 323, .ref 324])), (282, .inl (7, [.ref 343, .int miq, .int shuq, .int busq, .ref 283, .ref 284, .ref 285, .ref 286, .ref 287, .ref 288, .ref 289, .ref 290, .ref 291, .ref 292, .ref 293, .int lksq, .ref 294, .ref 295, .ref 298])), (292, .inr (.inl (0, cmq))), (343, .inl (2, [.int (nI S), .ref 344, .ref 345, .ref 346, .ref 347, .int (nI n), .ref 348, .ref 349, .ref 350, .ref 351, .ref 352, .ref 353, .ref 354, .int cel, .ref 355, .ref 356, .ref 357, .ref 358])), (346, .inr (.inl (0, tra))), (351, .inr (.inl (0, tto)))] h25 := K.mg K9 rfl rfl
          clear K9
          show j_V jP _ 139 105 lv [.int ((x_qanswer sst 1).1)] h9 _
          refine j_V.ri xbF2_M xbF2_105 ?_
          rw [show m_qends n th sst' w x1 x2 = (1, 0, 0) by unfold m_qends; rw [ek, if_neg m1, if_neg s29_0, if_neg s29_1, if_neg s29_2, if_pos s29_3, if_neg c94_4]; rfl]
          exact fqP.yes R0 FA TA (fun x g => KN.off K9 K (lkn (fun z => g z.symm) (lke (lke (lke (lke (lke (lke (lke (lke (lke rfl))))))))))) (K.at rfl)
      | k + 4, ho, hx => cases ho
  · replace c6_0 : (x_isWithin x2 0 4) = 0 := jd_nen c6_0
    exact absurd c6_0 c1
set_option maxRecDepth 100000 in
theorem xbF3_M : j_meth jP 140 = some (yX9_when, cX9_when, 3, (some .int), 1, false, 9) := rfl
set_option maxRecDepth 100000 in
theorem xbF3_0 : j_code jP 140 0 = some (.aload_n 0) := rfl
set_option maxRecDepth 100000 in
theorem xbF3_1 : j_code jP 140 1 = some (.iload_n 1) := rfl
set_option maxRecDepth 100000 in
theorem xbF3_2 : j_code jP 140 2 = some (.invokevirtual 184) := rfl
set_option maxRecDepth 100000 in
theorem xbF3_5 : j_code jP 140 5 = some (.ifCond .ne 9) := rfl
set_option maxRecDepth 100000 in
theorem xbF3_8 : j_code jP 140 8 = some (.aload_n 0) := rfl
set_option maxRecDepth 100000 in
theorem xbF3_9 : j_code jP 140 9 = some (.iconst 2) := rfl
set_option maxRecDepth 100000 in
theorem xbF3_10 : j_code jP 140 10 = some (.invokevirtual 84) := rfl
set_option maxRecDepth 100000 in
theorem xbF3_13 : j_code jP 140 13 = some (.ireturn) := rfl
set_option maxRecDepth 100000 in
theorem xbF3_14 : j_code jP 140 14 = some (.aload_n 0) := rfl
set_option maxRecDepth 100000 in
theorem xbF3_15 : j_code jP 140 15 = some (.getfield 30) := rfl
set_option maxRecDepth 100000 in
theorem xbF3_18 : j_code jP 140 18 = some (.getfield 205) := rfl
set_option maxRecDepth 100000 in
theorem xbF3_21 : j_code jP 140 21 = some (.iload_n 1) := rfl
set_option maxRecDepth 100000 in
theorem xbF3_22 : j_code jP 140 22 = some (.iaload) := rfl
set_option maxRecDepth 100000 in
theorem xbF3_23 : j_code jP 140 23 = some (.iconst 3) := rfl
set_option maxRecDepth 100000 in
theorem xbF3_24 : j_code jP 140 24 = some (.if_icmp .ne 9) := rfl
set_option maxRecDepth 100000 in
theorem xbF3_27 : j_code jP 140 27 = some (.aload_n 0) := rfl
set_option maxRecDepth 100000 in
theorem xbF3_28 : j_code jP 140 28 = some (.iconst 4) := rfl
set_option maxRecDepth 100000 in
theorem xbF3_29 : j_code jP 140 29 = some (.invokevirtual 84) := rfl
set_option maxRecDepth 100000 in
theorem xbF3_32 : j_code jP 140 32 = some (.ireturn) := rfl
set_option maxRecDepth 100000 in
theorem xbF3_33 : j_code jP 140 33 = some (.aload_n 0) := rfl
set_option maxRecDepth 100000 in
theorem xbF3_34 : j_code jP 140 34 = some (.getfield 44) := rfl
set_option maxRecDepth 100000 in
theorem xbF3_37 : j_code jP 140 37 = some (.aload_n 0) := rfl
set_option maxRecDepth 100000 in
theorem xbF3_38 : j_code jP 140 38 = some (.getfield 30) := rfl
set_option maxRecDepth 100000 in
theorem xbF3_41 : j_code jP 140 41 = some (.iconst 1) := rfl
set_option maxRecDepth 100000 in
theorem xbF3_42 : j_code jP 140 42 = some (.invokevirtual 324) := rfl
set_option maxRecDepth 100000 in
theorem xbF3_45 : j_code jP 140 45 = some (.astore_n 2) := rfl
set_option maxRecDepth 100000 in
theorem xbF3_46 : j_code jP 140 46 = some (.aload_n 0) := rfl
set_option maxRecDepth 100000 in
theorem xbF3_47 : j_code jP 140 47 = some (.aload_n 2) := rfl
set_option maxRecDepth 100000 in
theorem xbF3_48 : j_code jP 140 48 = some (.getfield 277) := rfl
set_option maxRecDepth 100000 in
theorem xbF3_51 : j_code jP 140 51 = some (.iload_n 1) := rfl
set_option maxRecDepth 100000 in
theorem xbF3_52 : j_code jP 140 52 = some (.bipush 7) := rfl
set_option maxRecDepth 100000 in
theorem xbF3_54 : j_code jP 140 54 = some (.imul) := rfl
set_option maxRecDepth 100000 in
theorem xbF3_55 : j_code jP 140 55 = some (.aload_n 0) := rfl
set_option maxRecDepth 100000 in
theorem xbF3_56 : j_code jP 140 56 = some (.getfield 58) := rfl
set_option maxRecDepth 100000 in
theorem xbF3_59 : j_code jP 140 59 = some (.getfield 193) := rfl
set_option maxRecDepth 100000 in
theorem xbF3_62 : j_code jP 140 62 = some (.iload_n 1) := rfl
set_option maxRecDepth 100000 in
theorem xbF3_63 : j_code jP 140 63 = some (.iaload) := rfl
set_option maxRecDepth 100000 in
theorem xbF3_64 : j_code jP 140 64 = some (.iadd) := rfl
set_option maxRecDepth 100000 in
theorem xbF3_65 : j_code jP 140 65 = some (.iaload) := rfl
set_option maxRecDepth 100000 in
theorem xbF3_66 : j_code jP 140 66 = some (.invokevirtual 178) := rfl
set_option maxRecDepth 100000 in
theorem xbF3_69 : j_code jP 140 69 = some (.ireturn) := rfl
set_option maxRecDepth 1000000 in
theorem hq_when_B {g0 : J_H} {n S m d : Nat} {w : List Int32} {sst th sst' : Int32} (R : hX 343 327 n S w sst g0) (Q : hT9 282 0 g0) (C281 : g0[281]? = some (.inl (1, [.ref 282, .ref 307, .ref 323, .ref 324]))) (hm : gN w 201 = nI m) (hm9 : m < 2 ^ 29) (WC : wC n w) (x1 : Int32) : j_V jP d 140 0 (lv_args 0 [.ref 0, .int x1]) [] g0 (fun rv h' => fqP 343 327 n S w (m_qwhen n th sst' w x1) rv g0 h') := by
  have R0 := R
  have C0 := R.1
  have P : hF 343 n S w g0 := ⟨R.2.1, R.2.2, Q, C281⟩
  have hb : m + 300 < 2 ^ 30 := by omega
  refine hX.opn R (fun mi shu bus lks rl pev rk sta ph sp ce du he ri us cm lf lkd row sea pms pmm pmt pst pwa prs prr pfa CS hl4 V cel run tra len siz frm tto lst slo wei fit way rid lon CL Y T hlY => ?_)
  have h5 := V.1.n5
  by_cases m2 : m_isTrain w x1 = 0
  · have c2 : (x_isTrain (nI n) x1) = 0 := (g_train V.1.g x1).trans m2
    rw [show m_qwhen n th sst' w x1 = (-1, 0, 2) by unfold m_qwhen; rw [if_pos m2]; rfl]
    have FA : ∀ x, (x < 282 ∨ 324 < x) → g0[x]? = g0[x]? := fun x _ => rfl
    have TA := P.2.2.1
    have K9 : kA g0 [(0, .inl (9, [.ref 1, .ref 3, .ref 4, .ref 29, .ref 281, .ref 325, .ref 343, .ref 327, .int sst])), (4, .inl (7, [.ref 343, .int mi, .int shu, .int bus, .ref 5, .ref 6, .ref 7, .ref 8, .ref 9, .ref 10, .ref 11, .ref 12, .ref 13, .ref 14, .ref 15, .int lks, .ref 16, .ref 17, .ref 20])), (5, .inr (.inl (0, rk))), (7, .inr (.inl (0, ph))), (281, .inl (1, [.ref 282, .ref 307, .ref 323, .ref 324])), (343, .inl (2, [.int (nI S), .ref 344, .ref 345, .ref 346, .ref 347, .int (nI n), .ref 348, .ref 349, .ref 350, .ref 351, .ref 352, .ref 353, .ref 354, .int cel, .ref 355, .ref 356, .ref 357, .ref 358])), (346, .inr (.inl (0, tra))), (351, .inr (.inl (0, tto)))] := ⟨(FA 0 (by decide)).trans C0, (FA 4 (by decide)).trans CS.1, (FA 5 (by decide)).trans CS.2.1, (FA 7 (by decide)).trans CS.2.2.2.1, P.2.2.2, (FA 343 (by decide)).trans CL.1, (FA 346 (by decide)).trans CL.2.2.1, (FA 351 (by decide)).trans CL.2.2.2.2.2.2.1, trivial⟩
    have K : KN g0 [(0, .inl (9, [.ref 1, .ref 3, .ref 4, .ref 29, .ref 281, .ref 325, .ref 343, .ref 327, .int sst])), (4, .inl (7, [.ref 343, .int mi, .int shu, .int bus, .ref 5, .ref 6, .ref 7, .ref 8, .ref 9, .ref 10, .ref 11, .ref 12, .ref 13, .ref 14, .ref 15, .int lks, .ref 16, .ref 17, .ref 20])), (5, .inr (.inl (0, rk))), (7, .inr (.inl (0, ph))), (281, .inl (1, [.ref 282, .ref 307, .ref 323, .ref 324])), (343, .inl (2, [.int (nI S), .ref 344, .ref 345, .ref 346, .ref 347, .int (nI n), .ref 348, .ref 349, .ref 350, .ref 351, .ref 352, .ref 353, .ref 354, .int cel, .ref 355, .ref 356, .ref 357, .ref 358])), (346, .inr (.inl (0, tra))), (351, .inr (.inl (0, tto)))] g0 := K9.K
    show j_V jP d 140 0 [(0, .ref 0), (1, .int x1)] [] g0 _
    obtain ⟨lv, elv, L⟩ : ∃ lv, lv = [(0, .ref 0), (1, .int x1)] ∧ LK lv [(0, .ref 0), (1, .int x1)] := ⟨_, rfl, LK.rf⟩
    rw [← elv]
    clear elv
    refine j_V.ldL xbF3_M xbF3_0 rfl (i := 0) (kd := 2) (v := .ref 0) (pcJ := 1) rfl L rfl rfl rfl ?_
    refine j_V.ldL xbF3_M xbF3_1 rfl (i := 1) (kd := 0) (v := .int x1) (pcJ := 2) rfl L rfl rfl rfl ?_
    refine j_V.cl xbF3_M xbF3_2 rfl (md := 3) (mj := 165) rfl (by decide) xb47_M (As := [.ref 0, .int x1]) (rest := []) (jk_spl3 (K.at rfl) rfl rfl rfl (Nat.le_of_ble_eq_true rfl) (Nat.le_of_ble_eq_true rfl)) (fun d => xb47_ok (K.fi [0, 343] rfl rfl)) ?_
    rintro r hz ⟨rfl, ez⟩
    rw [ez]
    clear ez
    show j_V jP _ 140 5 lv [.int (x_isTrain (nI n) x1)] g0 _
    refine j_V.ifc xbF3_M xbF3_5 (t := 14) rfl (fun c5_0 => ?_) (fun c5_0 => ?_)
    · replace c5_0 : ¬ ((x_isTrain (nI n) x1) = 0) := jd_ne c5_0
      exact absurd c2 c5_0
    · replace c5_0 : (x_isTrain (nI n) x1) = 0 := jd_nen c5_0
      refine j_V.ldL xbF3_M xbF3_8 rfl (i := 0) (kd := 2) (v := .ref 0) (pcJ := 9) rfl L rfl rfl rfl ?_
      refine j_V.one xbF3_M xbF3_9 (by decide) (pcJ := 10) (stJ := [.int 2, .ref 0]) rfl ?_
      refine j_V.cl xbF3_M xbF3_10 rfl (md := 3) (mj := 161) rfl (by decide) xb50_M (As := [.ref 0, .int 2]) (rest := []) (jk_spl3 (K.at rfl) rfl rfl rfl (Nat.le_of_ble_eq_true rfl) (Nat.le_of_ble_eq_true rfl)) (fun d => xb50_ok (K.fi [0] rfl rfl)) ?_
      rintro r h9 ⟨rfl, K9⟩
      have K : KN h9 [(0, .inl (9, [.ref 1, .ref 3, .ref 4, .ref 29, .ref 281, .ref 325, .ref 343, .ref 327, .int ((x_qrefuse sst 2).2)])), (4, .inl (7, [.ref 343, .int mi, .int shu, .int bus, .ref 5, .ref 6, .ref 7, .ref 8, .ref 9, .ref 10, .ref 11, .ref 12, .ref 13, .ref 14, .ref 15, .int lks, .ref 16, .ref 17, .ref 20])), (5, .inr (.inl (0, rk))), (7, .inr (.inl (0, ph))), (281, .inl (1, [.ref 282, .ref 307, .ref 323, .ref 324])), (343, .inl (2, [.int (nI S), .ref 344, .ref 345, .ref 346, .ref 347, .int (nI n), .ref 348, .ref 349, .ref 350, .ref 351, .ref 352, .ref 353, .ref 354, .int cel, .ref 355, .ref 356, .ref 357, .ref 358])), (346, .inr (.inl (0, tra))), (351, .inr (.inl (0, tto)))] g0 := K.mg K9 rfl rfl
      clear K9
      show j_V jP _ 140 13 lv [.int ((x_qrefuse sst 2).1)] h9 _
      refine j_V.ri xbF3_M xbF3_13 ?_
      exact fqP.yes R0 FA TA (fun x g => KN.off K9 K (lkn (fun z => g z.symm) (lke (lke (lke (lke (lke (lke (lke rfl))))))))) (K.at rfl)
  have c2 : ¬ ((x_isTrain (nI n) x1) = 0) := fun z => m2 ((g_train V.1.g x1).symm.trans z)
  obtain ⟨t, ht, rfl⟩ := (isTrain_n V.1.g).mp m2
  have e6 : gA ph (nI t) = m_of w (nI t) 6 := by rw [gA_n (by omega), V.2.1.1.pph ht, m_of6 (by omega)]
  by_cases m3 : m_of w (nI t) 6 = 3
  · have c3 : (gA ph (nI t)) = 3 := e6.trans m3
    rw [show m_qwhen n th sst' w (nI t) = (-1, 0, 4) by unfold m_qwhen; rw [if_neg m2, if_pos m3]; rfl]
    have FA : ∀ x, (x < 282 ∨ 324 < x) → g0[x]? = g0[x]? := fun x _ => rfl
    have TA := P.2.2.1
    have K9 : kA g0 [(0, .inl (9, [.ref 1, .ref 3, .ref 4, .ref 29, .ref 281, .ref 325, .ref 343, .ref 327, .int sst])), (4, .inl (7, [.ref 343, .int mi, .int shu, .int bus, .ref 5, .ref 6, .ref 7, .ref 8, .ref 9, .ref 10, .ref 11, .ref 12, .ref 13, .ref 14, .ref 15, .int lks, .ref 16, .ref 17, .ref 20])), (5, .inr (.inl (0, rk))), (7, .inr (.inl (0, ph))), (281, .inl (1, [.ref 282, .ref 307, .ref 323, .ref 324])), (343, .inl (2, [.int (nI S), .ref 344, .ref 345, .ref 346, .ref 347, .int (nI n), .ref 348, .ref 349, .ref 350, .ref 351, .ref 352, .ref 353, .ref 354, .int cel, .ref 355, .ref 356, .ref 357, .ref 358])), (346, .inr (.inl (0, tra))), (351, .inr (.inl (0, tto)))] := ⟨(FA 0 (by decide)).trans C0, (FA 4 (by decide)).trans CS.1, (FA 5 (by decide)).trans CS.2.1, (FA 7 (by decide)).trans CS.2.2.2.1, P.2.2.2, (FA 343 (by decide)).trans CL.1, (FA 346 (by decide)).trans CL.2.2.1, (FA 351 (by decide)).trans CL.2.2.2.2.2.2.1, trivial⟩
    have K : KN g0 [(0, .inl (9, [.ref 1, .ref 3, .ref 4, .ref 29, .ref 281, .ref 325, .ref 343, .ref 327, .int sst])), (4, .inl (7, [.ref 343, .int mi, .int shu, .int bus, .ref 5, .ref 6, .ref 7, .ref 8, .ref 9, .ref 10, .ref 11, .ref 12, .ref 13, .ref 14, .ref 15, .int lks, .ref 16, .ref 17, .ref 20])), (5, .inr (.inl (0, rk))), (7, .inr (.inl (0, ph))), (281, .inl (1, [.ref 282, .ref 307, .ref 323, .ref 324])), (343, .inl (2, [.int (nI S), .ref 344, .ref 345, .ref 346, .ref 347, .int (nI n), .ref 348, .ref 349, .ref 350, .ref 351, .ref 352, .ref 353, .ref 354, .int cel, .ref 355, .ref 356, .ref 357, .ref 358])), (346, .inr (.inl (0, tra))), (351, .inr (.inl (0, tto)))] g0 := K9.K
    show j_V jP d 140 0 [(0, .ref 0), (1, .int (nI t))] [] g0 _
    obtain ⟨lv, elv, L⟩ : ∃ lv, lv = [(0, .ref 0), (1, .int (nI t))] ∧ LK lv [(0, .ref 0), (1, .int (nI t))] := ⟨_, rfl, LK.rf⟩
    rw [← elv]
    clear elv
    refine j_V.ldL xbF3_M xbF3_0 rfl (i := 0) (kd := 2) (v := .ref 0) (pcJ := 1) rfl L rfl rfl rfl ?_
    refine j_V.ldL xbF3_M xbF3_1 rfl (i := 1) (kd := 0) (v := .int (nI t)) (pcJ := 2) rfl L rfl rfl rfl ?_
    refine j_V.cl xbF3_M xbF3_2 rfl (md := 3) (mj := 165) rfl (by decide) xb47_M (As := [.ref 0, .int (nI t)]) (rest := []) (jk_spl3 (K.at rfl) rfl rfl rfl (Nat.le_of_ble_eq_true rfl) (Nat.le_of_ble_eq_true rfl)) (fun d => xb47_ok (K.fi [0, 343] rfl rfl)) ?_
    rintro r hz ⟨rfl, ez⟩
    rw [ez]
    clear ez
    show j_V jP _ 140 5 lv [.int (x_isTrain (nI n) (nI t))] g0 _
    refine j_V.ifc xbF3_M xbF3_5 (t := 14) rfl (fun c5_0 => ?_) (fun c5_0 => ?_)
    · replace c5_0 : ¬ ((x_isTrain (nI n) (nI t)) = 0) := jd_ne c5_0
      refine j_V.ldL xbF3_M xbF3_14 rfl (i := 0) (kd := 2) (v := .ref 0) (pcJ := 15) rfl L rfl rfl rfl ?_
      refine j_V.getK xbF3_M xbF3_15 (ci := 9) (j := 2) rfl K rfl rfl ?_
      refine j_V.getK xbF3_M xbF3_18 (ci := 7) (j := 6) rfl K rfl rfl ?_
      refine j_V.ldL xbF3_M xbF3_21 rfl (i := 1) (kd := 0) (v := .int (nI t)) (pcJ := 22) rfl L rfl rfl rfl ?_
      refine j_V.iaA xbF3_M xbF3_22 K rfl ?_
      refine j_V.one xbF3_M xbF3_23 (by decide) (pcJ := 24) (stJ := [.int 3, .int (gA ph (nI t))]) rfl ?_
      refine j_V.icmp xbF3_M xbF3_24 (t := 33) rfl (fun c24_0 => ?_) (fun c24_0 => ?_)
      · replace c24_0 : ¬ ((gA ph (nI t)) = 3) := jd_ne c24_0
        exact absurd c3 c24_0
      · replace c24_0 : (gA ph (nI t)) = 3 := jd_nen c24_0
        refine j_V.ldL xbF3_M xbF3_27 rfl (i := 0) (kd := 2) (v := .ref 0) (pcJ := 28) rfl L rfl rfl rfl ?_
        refine j_V.one xbF3_M xbF3_28 (by decide) (pcJ := 29) (stJ := [.int 4, .ref 0]) rfl ?_
        refine j_V.cl xbF3_M xbF3_29 rfl (md := 3) (mj := 161) rfl (by decide) xb50_M (As := [.ref 0, .int 4]) (rest := []) (jk_spl3 (K.at rfl) rfl rfl rfl (Nat.le_of_ble_eq_true rfl) (Nat.le_of_ble_eq_true rfl)) (fun d => xb50_ok (K.fi [0] rfl rfl)) ?_
        rintro r h9 ⟨rfl, K9⟩
        have K : KN h9 [(0, .inl (9, [.ref 1, .ref 3, .ref 4, .ref 29, .ref 281, .ref 325, .ref 343, .ref 327, .int ((x_qrefuse sst 4).2)])), (4, .inl (7, [.ref 343, .int mi, .int shu, .int bus, .ref 5, .ref 6, .ref 7, .ref 8, .ref 9, .ref 10, .ref 11, .ref 12, .ref 13, .ref 14, .ref 15, .int lks, .ref 16, .ref 17, .ref 20])), (5, .inr (.inl (0, rk))), (7, .inr (.inl (0, ph))), (281, .inl (1, [.ref 282, .ref 307, .ref 323, .ref 324])), (343, .inl (2, [.int (nI S), .ref 344, .ref 345, .ref 346, .ref 347, .int (nI n), .ref 348, .ref 349, .ref 350, .ref 351, .ref 352, .ref 353, .ref 354, .int cel, .ref 355, .ref 356, .ref 357, .ref 358])), (346, .inr (.inl (0, tra))), (351, .inr (.inl (0, tto)))] g0 := K.mg K9 rfl rfl
        clear K9
        show j_V jP _ 140 32 lv [.int ((x_qrefuse sst 4).1)] h9 _
        refine j_V.ri xbF3_M xbF3_32 ?_
        exact fqP.yes R0 FA TA (fun x g => KN.off K9 K (lkn (fun z => g z.symm) (lke (lke (lke (lke (lke (lke (lke rfl))))))))) (K.at rfl)
    · replace c5_0 : (x_isTrain (nI n) (nI t)) = 0 := jd_nen c5_0
      exact absurd c5_0 c2
  have c3 : ¬ ((gA ph (nI t)) = 3) := fun z => m3 (e6.symm.trans z)
  have ek : m_toTheEnd n w 1 = m_adv n 1 true 300 w := (m_adv_t n 1 300 w).symm
  have FA : ∀ x, (x < 282 ∨ 324 < x) → g0[x]? = g0[x]? := fun x _ => rfl
  have TA := P.2.2.1
  have K9 : kA g0 [(0, .inl (9, [.ref 1, .ref 3, .ref 4, .ref 29, .ref 281, .ref 325, .ref 343, .ref 327, .int sst])), (4, .inl (7, [.ref 343, .int mi, .int shu, .int bus, .ref 5, .ref 6, .ref 7, .ref 8, .ref 9, .ref 10, .ref 11, .ref 12, .ref 13, .ref 14, .ref 15, .int lks, .ref 16, .ref 17, .ref 20])), (5, .inr (.inl (0, rk))), (7, .inr (.inl (0, ph))), (281, .inl (1, [.ref 282, .ref 307, .ref 323, .ref 324])), (343, .inl (2, [.int (nI S), .ref 344, .ref 345, .ref 346, .ref 347, .int (nI n), .ref 348, .ref 349, .ref 350, .ref 351, .ref 352, .ref 353, .ref 354, .int cel, .ref 355, .ref 356, .ref 357, .ref 358])), (346, .inr (.inl (0, tra))), (351, .inr (.inl (0, tto)))] := ⟨(FA 0 (by decide)).trans C0, (FA 4 (by decide)).trans CS.1, (FA 5 (by decide)).trans CS.2.1, (FA 7 (by decide)).trans CS.2.2.2.1, P.2.2.2, (FA 343 (by decide)).trans CL.1, (FA 346 (by decide)).trans CL.2.2.1, (FA 351 (by decide)).trans CL.2.2.2.2.2.2.1, trivial⟩
  have K : KN g0 [(0, .inl (9, [.ref 1, .ref 3, .ref 4, .ref 29, .ref 281, .ref 325, .ref 343, .ref 327, .int sst])), (4, .inl (7, [.ref 343, .int mi, .int shu, .int bus, .ref 5, .ref 6, .ref 7, .ref 8, .ref 9, .ref 10, .ref 11, .ref 12, .ref 13, .ref 14, .ref 15, .int lks, .ref 16, .ref 17, .ref 20])), (5, .inr (.inl (0, rk))), (7, .inr (.inl (0, ph))), (281, .inl (1, [.ref 282, .ref 307, .ref 323, .ref 324])), (343, .inl (2, [.int (nI S), .ref 344, .ref 345, .ref 346, .ref 347, .int (nI n), .ref 348, .ref 349, .ref 350, .ref 351, .ref 352, .ref 353, .ref 354, .int cel, .ref 355, .ref 356, .ref 357, .ref 358])), (346, .inr (.inl (0, tra))), (351, .inr (.inl (0, tto)))] g0 := K9.K
  show j_V jP d 140 0 [(0, .ref 0), (1, .int (nI t))] [] g0 _
  obtain ⟨lv, elv, L⟩ : ∃ lv, lv = [(0, .ref 0), (1, .int (nI t))] ∧ LK lv [(0, .ref 0), (1, .int (nI t))] := ⟨_, rfl, LK.rf⟩
  rw [← elv]
  clear elv
  refine j_V.ldL xbF3_M xbF3_0 rfl (i := 0) (kd := 2) (v := .ref 0) (pcJ := 1) rfl L rfl rfl rfl ?_
  refine j_V.ldL xbF3_M xbF3_1 rfl (i := 1) (kd := 0) (v := .int (nI t)) (pcJ := 2) rfl L rfl rfl rfl ?_
  refine j_V.cl xbF3_M xbF3_2 rfl (md := 3) (mj := 165) rfl (by decide) xb47_M (As := [.ref 0, .int (nI t)]) (rest := []) (jk_spl3 (K.at rfl) rfl rfl rfl (Nat.le_of_ble_eq_true rfl) (Nat.le_of_ble_eq_true rfl)) (fun d => xb47_ok (K.fi [0, 343] rfl rfl)) ?_
  rintro r hz ⟨rfl, ez⟩
  rw [ez]
  clear ez
  show j_V jP _ 140 5 lv [.int (x_isTrain (nI n) (nI t))] g0 _
  refine j_V.ifc xbF3_M xbF3_5 (t := 14) rfl (fun c5_0 => ?_) (fun c5_0 => ?_)
  · replace c5_0 : ¬ ((x_isTrain (nI n) (nI t)) = 0) := jd_ne c5_0
    refine j_V.ldL xbF3_M xbF3_14 rfl (i := 0) (kd := 2) (v := .ref 0) (pcJ := 15) rfl L rfl rfl rfl ?_
    refine j_V.getK xbF3_M xbF3_15 (ci := 9) (j := 2) rfl K rfl rfl ?_
    refine j_V.getK xbF3_M xbF3_18 (ci := 7) (j := 6) rfl K rfl rfl ?_
    refine j_V.ldL xbF3_M xbF3_21 rfl (i := 1) (kd := 0) (v := .int (nI t)) (pcJ := 22) rfl L rfl rfl rfl ?_
    refine j_V.iaA xbF3_M xbF3_22 K rfl ?_
    refine j_V.one xbF3_M xbF3_23 (by decide) (pcJ := 24) (stJ := [.int 3, .int (gA ph (nI t))]) rfl ?_
    refine j_V.icmp xbF3_M xbF3_24 (t := 33) rfl (fun c24_0 => ?_) (fun c24_0 => ?_)
    · replace c24_0 : ¬ ((gA ph (nI t)) = 3) := jd_ne c24_0
      refine j_V.ldL xbF3_M xbF3_33 rfl (i := 0) (kd := 2) (v := .ref 0) (pcJ := 34) rfl L rfl rfl rfl ?_
      refine j_V.getK xbF3_M xbF3_34 (ci := 9) (j := 4) rfl K rfl rfl ?_
      refine j_V.ldL xbF3_M xbF3_37 rfl (i := 0) (kd := 2) (v := .ref 0) (pcJ := 38) rfl L rfl rfl rfl ?_
      refine j_V.getK xbF3_M xbF3_38 (ci := 9) (j := 2) rfl K rfl rfl ?_
      refine j_V.one xbF3_M xbF3_41 (by decide) (pcJ := 42) (stJ := [.int 1, .ref 4, .ref 281]) rfl ?_
      refine j_V.cl xbF3_M xbF3_42 rfl (md := 3) (mj := 6) rfl (by decide) fp4_M (As := [.ref 281, .ref 4, .int 1]) (rest := []) (jk_spl3 (K.at rfl) rfl rfl rfl (Nat.le_of_ble_eq_true rfl) (Nat.le_of_ble_eq_true rfl)) (fun d => hp_end_343 P hm hb) ?_
      rintro r h26 ⟨rfl, T9, Y9, F9⟩
      have TA := T9.sh
      replace FA : ∀ x, (x < 282 ∨ 324 < x) → h26[x]? = g0[x]? := fun x g => (F9 x (by omega)).trans (FA x g)
      replace P : hF 343 n S w h26 := P.fr (fun x g => F9 x (by omega)) TA
      refine hS9.opn T9 (fun miq shuq busq lksq rlq pevq rkq staq phq spq ceq duq heq riq usq cmq lfq lkdq rowq seaq pmsq pmmq pmtq pstq pwaq prsq prrq pfaq CQ hlQ VQ => ?_)
      have K9 : kA h26 [(0, .inl (9, [.ref 1, .ref 3, .ref 4, .ref 29, .ref 281, .ref 325, .ref 343, .ref 327, .int sst])), (4, .inl (7, [.ref 343, .int mi, .int shu, .int bus, .ref 5, .ref 6, .ref 7, .ref 8, .ref 9, .ref 10, .ref 11, .ref 12, .ref 13, .ref 14, .ref 15, .int lks, .ref 16, .ref 17, .ref 20])), (5, .inr (.inl (0, rk))), (7, .inr (.inl (0, ph))), (281, .inl (1, [.ref 282, .ref 307, .ref 323, .ref 324])), (282, .inl (7, [.ref 343, .int miq, .int shuq, .int busq, .ref 283, .ref 284, .ref 285, .ref 286, .ref 287, .ref 288, .ref 289, .ref 290, .ref 291, .ref 292, .ref 293, .int lksq, .ref 294, .ref 295, .ref 298])), (292, .inr (.inl (0, cmq))), (343, .inl (2, [.int (nI S), .ref 344, .ref 345, .ref 346, .ref 347, .int (nI n), .ref 348, .ref 349, .ref 350, .ref 351, .ref 352, .ref 353, .ref 354, .int cel, .ref 355, .ref 356, .ref 357, .ref 358])), (346, .inr (.inl (0, tra))), (351, .inr (.inl (0, tto)))] := ⟨(FA 0 (by decide)).trans C0, (FA 4 (by decide)).trans CS.1, (FA 5 (by decide)).trans CS.2.1, (FA 7 (by decide)).trans CS.2.2.2.1, P.2.2.2, CQ.1, CQ.2.2.2.2.2.2.2.2.2.2.1, (FA 343 (by decide)).trans CL.1, (FA 346 (by decide)).trans CL.2.2.1, (FA 351 (by decide)).trans CL.2.2.2.2.2.2.1, trivial⟩
      have K : KN h26 [(0, .inl (9, [.ref 1, .ref 3, .ref 4, .ref 29, .ref 281, .ref 325, .ref 343, .ref 327, .int sst])), (4, .inl (7, [.ref 343, .int mi, .int shu, .int bus, .ref 5, .ref 6, .ref 7, .ref 8, .ref 9, .ref 10, .ref 11, .ref 12, .ref 13, .ref 14, .ref 15, .int lks, .ref 16, .ref 17, .ref 20])), (5, .inr (.inl (0, rk))), (7, .inr (.inl (0, ph))), (281, .inl (1, [.ref 282, .ref 307, .ref 323, .ref 324])), (282, .inl (7, [.ref 343, .int miq, .int shuq, .int busq, .ref 283, .ref 284, .ref 285, .ref 286, .ref 287, .ref 288, .ref 289, .ref 290, .ref 291, .ref 292, .ref 293, .int lksq, .ref 294, .ref 295, .ref 298])), (292, .inr (.inl (0, cmq))), (343, .inl (2, [.int (nI S), .ref 344, .ref 345, .ref 346, .ref 347, .int (nI n), .ref 348, .ref 349, .ref 350, .ref 351, .ref 352, .ref 353, .ref 354, .int cel, .ref 355, .ref 356, .ref 357, .ref 358])), (346, .inr (.inl (0, tra))), (351, .inr (.inl (0, tto)))] h26 := K9.K
      show j_V jP _ 140 45 lv [.ref 282] h26 _
      refine j_V.stL xbF3_M xbF3_45 rfl (i := 2) (kd := 2) (kl' := [(0, .ref 0), (1, .int (nI t)), (2, .ref 282)]) (pcJ := 46) rfl L rfl (by decide) rfl rfl rfl (fun lv L => ?_)
      refine j_V.ldL xbF3_M xbF3_46 rfl (i := 0) (kd := 2) (v := .ref 0) (pcJ := 47) rfl L rfl rfl rfl ?_
      refine j_V.ldL xbF3_M xbF3_47 rfl (i := 2) (kd := 2) (v := .ref 282) (pcJ := 48) rfl L rfl rfl rfl ?_
      refine j_V.getK xbF3_M xbF3_48 (ci := 7) (j := 13) rfl K rfl rfl ?_
      refine j_V.ldL xbF3_M xbF3_51 rfl (i := 1) (kd := 0) (v := .int (nI t)) (pcJ := 52) rfl L rfl rfl rfl ?_
      refine j_V.one xbF3_M xbF3_52 (by decide) (pcJ := 54) (stJ := [.int 7, .int (nI t), .ref 292, .ref 0]) rfl ?_
      refine j_V.one xbF3_M xbF3_54 (by decide) (pcJ := 55) (stJ := [.int ((nI t) * 7), .ref 292, .ref 0]) rfl ?_
      refine j_V.ldL xbF3_M xbF3_55 rfl (i := 0) (kd := 2) (v := .ref 0) (pcJ := 56) rfl L rfl rfl rfl ?_
      refine j_V.getK xbF3_M xbF3_56 (ci := 9) (j := 6) rfl K rfl rfl ?_
      refine j_V.getK xbF3_M xbF3_59 (ci := 2) (j := 9) rfl K rfl rfl ?_
      refine j_V.ldL xbF3_M xbF3_62 rfl (i := 1) (kd := 0) (v := .int (nI t)) (pcJ := 63) rfl L rfl rfl rfl ?_
      refine j_V.iaA xbF3_M xbF3_63 K rfl ?_
      refine j_V.one xbF3_M xbF3_64 (by decide) (pcJ := 65) (stJ := [.int (((nI t) * 7) + (gA tto (nI t))), .ref 292, .ref 0]) rfl ?_
      refine j_V.iaA xbF3_M xbF3_65 K rfl ?_
      refine j_V.cl xbF3_M xbF3_66 rfl (md := 3) (mj := 160) rfl (by decide) xb51_M (As := [.ref 0, .int (gA cmq (((nI t) * 7) + (gA tto (nI t))))]) (rest := []) (jk_spl3 (K.at rfl) rfl rfl rfl (Nat.le_of_ble_eq_true rfl) (Nat.le_of_ble_eq_true rfl)) (fun d => xb51_ok (K.fi [0] rfl rfl)) ?_
      rintro r h9 ⟨rfl, K9⟩
      have K : KN h9 [(0, .inl (9, [.ref 1, .ref 3, .ref 4, .ref 29, .ref 281, .ref 325, .ref 343, .ref 327, .int ((x_qanswerIfAny sst (gA cmq (((nI t) * 7) + (gA tto (nI t))))).2)])), (4, .inl (7, [.ref 343, .int mi, .int shu, .int bus, .ref 5, .ref 6, .ref 7, .ref 8, .ref 9, .ref 10, .ref 11, .ref 12, .ref 13, .ref 14, .ref 15, .int lks, .ref 16, .ref 17, .ref 20])), (5, .inr (.inl (0, rk))), (7, .inr (.inl (0, ph))), (281, .inl (1, [.ref 282, .ref 307, .ref 323, .ref 324])), (282, .inl (7, [.ref 343, .int miq, .int shuq, .int busq, .ref 283, .ref 284, .ref 285, .ref 286, .ref 287, .ref 288, .ref 289, .ref 290, .ref 291, .ref 292, .ref 293, .int lksq, .ref 294, .ref 295, .ref 298])), (292, .inr (.inl (0, cmq))), (343, .inl (2, [.int (nI S), .ref 344, .ref 345, .ref 346, .ref 347, .int (nI n), .ref 348, .ref 349, .ref 350, .ref 351, .ref 352, .ref 353, .ref 354, .int cel, .ref 355, .ref 356, .ref 357, .ref 358])), (346, .inr (.inl (0, tra))), (351, .inr (.inl (0, tto)))] h26 := K.mg K9 rfl rfl
      clear K9
      show j_V jP _ 140 69 lv [.int ((x_qanswerIfAny sst (gA cmq (((nI t) * 7) + (gA tto (nI t))))).1)] h9 _
      have C9 := wC.adv (care := 1) (e := true) 300 w V.1 WC
      have ho := (VQ.1.T ht).2.1.2
      have hS9 := V.1.S7
      have eto : tO (m_adv n 1 true 300 w) t = tO w t := (zF.adv (care := 1) (e := true) 300 w V.1).1.tO ht
      have ei : nI t * 7 + gA tto (nI t) = nI (7 * t + tO w t) := by rw [gA_n (by omega), (T.2 t ht).2.2.1, (V.1.T ht).2.1.1]; exact i67 t _
      have ev : gA cmq (nI t * 7 + gA tto (nI t)) = ft (m_adv n 1 true 300 w) t (13 + tO w t) := by rw [ei, gA_n (by have := (V.1.T ht).2.1.2; omega)]; exact (VQ.2.1.2.2.2.2.1.2 t (tO w t) ht (by have := (V.1.T ht).2.1.2; omega)).1
      rw [eto] at ho
      rw [ev] at K ⊢
      by_cases m9 : m_of (m_adv n 1 true 300 w) (nI t) 6 = 3
      · have e11 : m_of (m_adv n 1 true 300 w) (nI t) 11 = ft (m_adv n 1 true 300 w) t (13 + tO w t) := by rw [m_of11 (by omega), ← eto]; exact VQ.2.1.2.2.2.2.2.1 t ht (by rw [m_of6 (by omega)] at m9; exact m9)
        by_cases m8 : ft (m_adv n 1 true 300 w) t (13 + tO w t) = -1
        · have ex : x_qanswerIfAny sst (ft (m_adv n 1 true 300 w) t (13 + tO w t)) = (-1, 5) := by unfold x_qanswerIfAny; rw [if_pos m8]; rfl
          rw [ex] at K ⊢
          refine j_V.ri xbF3_M xbF3_69 ?_
          rw [show m_qwhen n th sst' w (nI t) = (-1, 0, 5) by unfold m_qwhen; rw [ek, if_neg m2, if_neg m3, if_pos m9, e11, if_pos m8]; rfl]
          exact fqP.yes R0 FA TA (fun x g => KN.off K9 K (lkn (fun z => g z.symm) (lke (lke (lke (lke (lke (lke (lke (lke (lke rfl))))))))))) (K.at rfl)
        · have ex : x_qanswerIfAny sst (ft (m_adv n 1 true 300 w) t (13 + tO w t)) = (ft (m_adv n 1 true 300 w) t (13 + tO w t), 0) := by unfold x_qanswerIfAny; rw [if_neg m8]; rfl
          rw [ex] at K ⊢
          refine j_V.ri xbF3_M xbF3_69 ?_
          rw [show m_qwhen n th sst' w (nI t) = (ft (m_adv n 1 true 300 w) t (13 + tO w t), 0, 0) by unfold m_qwhen; rw [ek, if_neg m2, if_neg m3, if_pos m9, e11, if_neg m8]; rfl]
          exact fqP.yes R0 FA TA (fun x g => KN.off K9 K (lkn (fun z => g z.symm) (lke (lke (lke (lke (lke (lke (lke (lke (lke rfl))))))))))) (K.at rfl)
      · have m7 : ft (m_adv n 1 true 300 w) t (13 + tO w t) = -1 := by rw [← eto]; exact C9 t ht (by rw [m_of6 (by omega)] at m9; exact m9)
        have ex : x_qanswerIfAny sst (ft (m_adv n 1 true 300 w) t (13 + tO w t)) = (-1, 5) := by unfold x_qanswerIfAny; rw [if_pos m7]; rfl
        rw [ex] at K ⊢
        refine j_V.ri xbF3_M xbF3_69 ?_
        rw [show m_qwhen n th sst' w (nI t) = (-1, 0, 5) by unfold m_qwhen; rw [ek, if_neg m2, if_neg m3, if_neg m9]; rfl]
        exact fqP.yes R0 FA TA (fun x g => KN.off K9 K (lkn (fun z => g z.symm) (lke (lke (lke (lke (lke (lke (lke (lke (lke rfl))))))))))) (K.at rfl)
    · replace c24_0 : (gA ph (nI t)) = 3 := jd_nen c24_0
      exact absurd c24_0 c3
  · replace c5_0 : (x_isTrain (nI n) (nI t)) = 0 := jd_nen c5_0
    exact absurd c5_0 c2
set_option maxRecDepth 100000 in
theorem xbF4_M : j_meth jP 145 = some (yX9_swap, cX9_swap, 3, (some .int), 2, false, 9) := rfl
set_option maxRecDepth 100000 in
theorem xbF4_0 : j_code jP 145 0 = some (.aload_n 0) := rfl
set_option maxRecDepth 100000 in
theorem xbF4_1 : j_code jP 145 1 = some (.iload_n 1) := rfl
set_option maxRecDepth 100000 in
theorem xbF4_2 : j_code jP 145 2 = some (.invokevirtual 184) := rfl
set_option maxRecDepth 100000 in
theorem xbF4_5 : j_code jP 145 5 = some (.ifCond .eq 11) := rfl
set_option maxRecDepth 100000 in
theorem xbF4_8 : j_code jP 145 8 = some (.aload_n 0) := rfl
set_option maxRecDepth 100000 in
theorem xbF4_9 : j_code jP 145 9 = some (.iload_n 2) := rfl
set_option maxRecDepth 100000 in
theorem xbF4_10 : j_code jP 145 10 = some (.invokevirtual 184) := rfl
set_option maxRecDepth 100000 in
theorem xbF4_13 : j_code jP 145 13 = some (.ifCond .ne 9) := rfl
set_option maxRecDepth 100000 in
theorem xbF4_16 : j_code jP 145 16 = some (.aload_n 0) := rfl
set_option maxRecDepth 100000 in
theorem xbF4_17 : j_code jP 145 17 = some (.iconst 2) := rfl
set_option maxRecDepth 100000 in
theorem xbF4_18 : j_code jP 145 18 = some (.invokevirtual 84) := rfl
set_option maxRecDepth 100000 in
theorem xbF4_21 : j_code jP 145 21 = some (.ireturn) := rfl
set_option maxRecDepth 100000 in
theorem xbF4_22 : j_code jP 145 22 = some (.iload_n 1) := rfl
set_option maxRecDepth 100000 in
theorem xbF4_23 : j_code jP 145 23 = some (.iload_n 2) := rfl
set_option maxRecDepth 100000 in
theorem xbF4_24 : j_code jP 145 24 = some (.if_icmp .ne 9) := rfl
set_option maxRecDepth 100000 in
theorem xbF4_27 : j_code jP 145 27 = some (.aload_n 0) := rfl
set_option maxRecDepth 100000 in
theorem xbF4_28 : j_code jP 145 28 = some (.iconst 4) := rfl
set_option maxRecDepth 100000 in
theorem xbF4_29 : j_code jP 145 29 = some (.invokevirtual 84) := rfl
set_option maxRecDepth 100000 in
theorem xbF4_32 : j_code jP 145 32 = some (.ireturn) := rfl
set_option maxRecDepth 100000 in
theorem xbF4_33 : j_code jP 145 33 = some (.aload_n 0) := rfl
set_option maxRecDepth 100000 in
theorem xbF4_34 : j_code jP 145 34 = some (.aload_n 0) := rfl
set_option maxRecDepth 100000 in
theorem xbF4_35 : j_code jP 145 35 = some (.getfield 44) := rfl
set_option maxRecDepth 100000 in
theorem xbF4_38 : j_code jP 145 38 = some (.aload_n 0) := rfl
set_option maxRecDepth 100000 in
theorem xbF4_39 : j_code jP 145 39 = some (.getfield 30) := rfl
set_option maxRecDepth 100000 in
theorem xbF4_42 : j_code jP 145 42 = some (.invokevirtual 342) := rfl
set_option maxRecDepth 100000 in
theorem xbF4_45 : j_code jP 145 45 = some (.aload_n 0) := rfl
set_option maxRecDepth 100000 in
theorem xbF4_46 : j_code jP 145 46 = some (.getfield 44) := rfl
set_option maxRecDepth 100000 in
theorem xbF4_49 : j_code jP 145 49 = some (.aload_n 0) := rfl
set_option maxRecDepth 100000 in
theorem xbF4_50 : j_code jP 145 50 = some (.getfield 30) := rfl
set_option maxRecDepth 100000 in
theorem xbF4_53 : j_code jP 145 53 = some (.iload_n 1) := rfl
set_option maxRecDepth 100000 in
theorem xbF4_54 : j_code jP 145 54 = some (.iload_n 2) := rfl
set_option maxRecDepth 100000 in
theorem xbF4_55 : j_code jP 145 55 = some (.invokevirtual 347) := rfl
set_option maxRecDepth 100000 in
theorem xbF4_58 : j_code jP 145 58 = some (.isub) := rfl
set_option maxRecDepth 100000 in
theorem xbF4_59 : j_code jP 145 59 = some (.invokevirtual 104) := rfl
set_option maxRecDepth 100000 in
theorem xbF4_62 : j_code jP 145 62 = some (.ireturn) := rfl
set_option maxRecDepth 1000000 in
theorem hq_swap_B {g0 : J_H} {n S m d : Nat} {w : List Int32} {sst th sst' : Int32} (R : hX 343 327 n S w sst g0) (Q : hT9 282 0 g0) (C281 : g0[281]? = some (.inl (1, [.ref 282, .ref 307, .ref 323, .ref 324]))) (hm : gN w 201 = nI m) (hm9 : m < 2 ^ 29) (x1 : Int32) (x2 : Int32) : j_V jP d 145 0 (lv_args 0 [.ref 0, .int x1, .int x2]) [] g0 (fun rv h' => fqP 343 327 n S w (m_qswap n th sst' w x1 x2) rv g0 h') := by
  have R0 := R
  have C0 := R.1
  have P : hF 343 n S w g0 := ⟨R.2.1, R.2.2, Q, C281⟩
  have hb : m + 300 < 2 ^ 30 := by omega
  refine hX.opn R (fun mi shu bus lks rl pev rk sta ph sp ce du he ri us cm lf lkd row sea pms pmm pmt pst pwa prs prr pfa CS hl4 V cel run tra len siz frm tto lst slo wei fit way rid lon CL Y T hlY => ?_)
  have h5 := V.1.n5
  by_cases m1 : m_isTrain w x1 = 0
  · have c1 : (x_isTrain (nI n) x1) = 0 := (g_train V.1.g x1).trans m1
    rw [show m_qswap n th sst' w x1 x2 = (-1, 0, 2) by unfold m_qswap; rw [if_pos m1]; rfl]
    have FA : ∀ x, (x < 282 ∨ 324 < x) → g0[x]? = g0[x]? := fun x _ => rfl
    have TA := P.2.2.1
    have K9 : kA g0 [(0, .inl (9, [.ref 1, .ref 3, .ref 4, .ref 29, .ref 281, .ref 325, .ref 343, .ref 327, .int sst])), (4, .inl (7, [.ref 343, .int mi, .int shu, .int bus, .ref 5, .ref 6, .ref 7, .ref 8, .ref 9, .ref 10, .ref 11, .ref 12, .ref 13, .ref 14, .ref 15, .int lks, .ref 16, .ref 17, .ref 20])), (5, .inr (.inl (0, rk))), (7, .inr (.inl (0, ph))), (281, .inl (1, [.ref 282, .ref 307, .ref 323, .ref 324])), (343, .inl (2, [.int (nI S), .ref 344, .ref 345, .ref 346, .ref 347, .int (nI n), .ref 348, .ref 349, .ref 350, .ref 351, .ref 352, .ref 353, .ref 354, .int cel, .ref 355, .ref 356, .ref 357, .ref 358])), (346, .inr (.inl (0, tra))), (351, .inr (.inl (0, tto)))] := ⟨(FA 0 (by decide)).trans C0, (FA 4 (by decide)).trans CS.1, (FA 5 (by decide)).trans CS.2.1, (FA 7 (by decide)).trans CS.2.2.2.1, P.2.2.2, (FA 343 (by decide)).trans CL.1, (FA 346 (by decide)).trans CL.2.2.1, (FA 351 (by decide)).trans CL.2.2.2.2.2.2.1, trivial⟩
    have K : KN g0 [(0, .inl (9, [.ref 1, .ref 3, .ref 4, .ref 29, .ref 281, .ref 325, .ref 343, .ref 327, .int sst])), (4, .inl (7, [.ref 343, .int mi, .int shu, .int bus, .ref 5, .ref 6, .ref 7, .ref 8, .ref 9, .ref 10, .ref 11, .ref 12, .ref 13, .ref 14, .ref 15, .int lks, .ref 16, .ref 17, .ref 20])), (5, .inr (.inl (0, rk))), (7, .inr (.inl (0, ph))), (281, .inl (1, [.ref 282, .ref 307, .ref 323, .ref 324])), (343, .inl (2, [.int (nI S), .ref 344, .ref 345, .ref 346, .ref 347, .int (nI n), .ref 348, .ref 349, .ref 350, .ref 351, .ref 352, .ref 353, .ref 354, .int cel, .ref 355, .ref 356, .ref 357, .ref 358])), (346, .inr (.inl (0, tra))), (351, .inr (.inl (0, tto)))] g0 := K9.K
    show j_V jP d 145 0 [(0, .ref 0), (1, .int x1), (2, .int x2)] [] g0 _
    obtain ⟨lv, elv, L⟩ : ∃ lv, lv = [(0, .ref 0), (1, .int x1), (2, .int x2)] ∧ LK lv [(0, .ref 0), (1, .int x1), (2, .int x2)] := ⟨_, rfl, LK.rf⟩
    rw [← elv]
    clear elv
    refine j_V.ldL xbF4_M xbF4_0 rfl (i := 0) (kd := 2) (v := .ref 0) (pcJ := 1) rfl L rfl rfl rfl ?_
    refine j_V.ldL xbF4_M xbF4_1 rfl (i := 1) (kd := 0) (v := .int x1) (pcJ := 2) rfl L rfl rfl rfl ?_
    refine j_V.cl xbF4_M xbF4_2 rfl (md := 3) (mj := 165) rfl (by decide) xb47_M (As := [.ref 0, .int x1]) (rest := []) (jk_spl3 (K.at rfl) rfl rfl rfl (Nat.le_of_ble_eq_true rfl) (Nat.le_of_ble_eq_true rfl)) (fun d => xb47_ok (K.fi [0, 343] rfl rfl)) ?_
    rintro r hz ⟨rfl, ez⟩
    rw [ez]
    clear ez
    show j_V jP _ 145 5 lv [.int (x_isTrain (nI n) x1)] g0 _
    refine j_V.ifc xbF4_M xbF4_5 (t := 16) rfl (fun c5_0 => ?_) (fun c5_0 => ?_)
    · replace c5_0 : (x_isTrain (nI n) x1) = 0 := jd_eq c5_0
      refine j_V.ldL xbF4_M xbF4_16 rfl (i := 0) (kd := 2) (v := .ref 0) (pcJ := 17) rfl L rfl rfl rfl ?_
      refine j_V.one xbF4_M xbF4_17 (by decide) (pcJ := 18) (stJ := [.int 2, .ref 0]) rfl ?_
      refine j_V.cl xbF4_M xbF4_18 rfl (md := 3) (mj := 161) rfl (by decide) xb50_M (As := [.ref 0, .int 2]) (rest := []) (jk_spl3 (K.at rfl) rfl rfl rfl (Nat.le_of_ble_eq_true rfl) (Nat.le_of_ble_eq_true rfl)) (fun d => xb50_ok (K.fi [0] rfl rfl)) ?_
      rintro r h9 ⟨rfl, K9⟩
      have K : KN h9 [(0, .inl (9, [.ref 1, .ref 3, .ref 4, .ref 29, .ref 281, .ref 325, .ref 343, .ref 327, .int ((x_qrefuse sst 2).2)])), (4, .inl (7, [.ref 343, .int mi, .int shu, .int bus, .ref 5, .ref 6, .ref 7, .ref 8, .ref 9, .ref 10, .ref 11, .ref 12, .ref 13, .ref 14, .ref 15, .int lks, .ref 16, .ref 17, .ref 20])), (5, .inr (.inl (0, rk))), (7, .inr (.inl (0, ph))), (281, .inl (1, [.ref 282, .ref 307, .ref 323, .ref 324])), (343, .inl (2, [.int (nI S), .ref 344, .ref 345, .ref 346, .ref 347, .int (nI n), .ref 348, .ref 349, .ref 350, .ref 351, .ref 352, .ref 353, .ref 354, .int cel, .ref 355, .ref 356, .ref 357, .ref 358])), (346, .inr (.inl (0, tra))), (351, .inr (.inl (0, tto)))] g0 := K.mg K9 rfl rfl
      clear K9
      show j_V jP _ 145 21 lv [.int ((x_qrefuse sst 2).1)] h9 _
      refine j_V.ri xbF4_M xbF4_21 ?_
      exact fqP.yes R0 FA TA (fun x g => KN.off K9 K (lkn (fun z => g z.symm) (lke (lke (lke (lke (lke (lke (lke rfl))))))))) (K.at rfl)
    · replace c5_0 : ¬ ((x_isTrain (nI n) x1) = 0) := jd_eqn c5_0
      exact absurd c1 c5_0
  have c1 : ¬ ((x_isTrain (nI n) x1) = 0) := fun z => m1 ((g_train V.1.g x1).symm.trans z)
  by_cases m2 : m_isTrain w x2 = 0
  · have c2 : (x_isTrain (nI n) x2) = 0 := (g_train V.1.g x2).trans m2
    rw [show m_qswap n th sst' w x1 x2 = (-1, 0, 2) by unfold m_qswap; rw [if_neg m1, if_pos m2]; rfl]
    have FA : ∀ x, (x < 282 ∨ 324 < x) → g0[x]? = g0[x]? := fun x _ => rfl
    have TA := P.2.2.1
    have K9 : kA g0 [(0, .inl (9, [.ref 1, .ref 3, .ref 4, .ref 29, .ref 281, .ref 325, .ref 343, .ref 327, .int sst])), (4, .inl (7, [.ref 343, .int mi, .int shu, .int bus, .ref 5, .ref 6, .ref 7, .ref 8, .ref 9, .ref 10, .ref 11, .ref 12, .ref 13, .ref 14, .ref 15, .int lks, .ref 16, .ref 17, .ref 20])), (5, .inr (.inl (0, rk))), (7, .inr (.inl (0, ph))), (281, .inl (1, [.ref 282, .ref 307, .ref 323, .ref 324])), (343, .inl (2, [.int (nI S), .ref 344, .ref 345, .ref 346, .ref 347, .int (nI n), .ref 348, .ref 349, .ref 350, .ref 351, .ref 352, .ref 353, .ref 354, .int cel, .ref 355, .ref 356, .ref 357, .ref 358])), (346, .inr (.inl (0, tra))), (351, .inr (.inl (0, tto)))] := ⟨(FA 0 (by decide)).trans C0, (FA 4 (by decide)).trans CS.1, (FA 5 (by decide)).trans CS.2.1, (FA 7 (by decide)).trans CS.2.2.2.1, P.2.2.2, (FA 343 (by decide)).trans CL.1, (FA 346 (by decide)).trans CL.2.2.1, (FA 351 (by decide)).trans CL.2.2.2.2.2.2.1, trivial⟩
    have K : KN g0 [(0, .inl (9, [.ref 1, .ref 3, .ref 4, .ref 29, .ref 281, .ref 325, .ref 343, .ref 327, .int sst])), (4, .inl (7, [.ref 343, .int mi, .int shu, .int bus, .ref 5, .ref 6, .ref 7, .ref 8, .ref 9, .ref 10, .ref 11, .ref 12, .ref 13, .ref 14, .ref 15, .int lks, .ref 16, .ref 17, .ref 20])), (5, .inr (.inl (0, rk))), (7, .inr (.inl (0, ph))), (281, .inl (1, [.ref 282, .ref 307, .ref 323, .ref 324])), (343, .inl (2, [.int (nI S), .ref 344, .ref 345, .ref 346, .ref 347, .int (nI n), .ref 348, .ref 349, .ref 350, .ref 351, .ref 352, .ref 353, .ref 354, .int cel, .ref 355, .ref 356, .ref 357, .ref 358])), (346, .inr (.inl (0, tra))), (351, .inr (.inl (0, tto)))] g0 := K9.K
    show j_V jP d 145 0 [(0, .ref 0), (1, .int x1), (2, .int x2)] [] g0 _
    obtain ⟨lv, elv, L⟩ : ∃ lv, lv = [(0, .ref 0), (1, .int x1), (2, .int x2)] ∧ LK lv [(0, .ref 0), (1, .int x1), (2, .int x2)] := ⟨_, rfl, LK.rf⟩
    rw [← elv]
    clear elv
    refine j_V.ldL xbF4_M xbF4_0 rfl (i := 0) (kd := 2) (v := .ref 0) (pcJ := 1) rfl L rfl rfl rfl ?_
    refine j_V.ldL xbF4_M xbF4_1 rfl (i := 1) (kd := 0) (v := .int x1) (pcJ := 2) rfl L rfl rfl rfl ?_
    refine j_V.cl xbF4_M xbF4_2 rfl (md := 3) (mj := 165) rfl (by decide) xb47_M (As := [.ref 0, .int x1]) (rest := []) (jk_spl3 (K.at rfl) rfl rfl rfl (Nat.le_of_ble_eq_true rfl) (Nat.le_of_ble_eq_true rfl)) (fun d => xb47_ok (K.fi [0, 343] rfl rfl)) ?_
    rintro r hz ⟨rfl, ez⟩
    rw [ez]
    clear ez
    show j_V jP _ 145 5 lv [.int (x_isTrain (nI n) x1)] g0 _
    refine j_V.ifc xbF4_M xbF4_5 (t := 16) rfl (fun c5_0 => ?_) (fun c5_0 => ?_)
    · replace c5_0 : (x_isTrain (nI n) x1) = 0 := jd_eq c5_0
      exact absurd c5_0 c1
    · replace c5_0 : ¬ ((x_isTrain (nI n) x1) = 0) := jd_eqn c5_0
      refine j_V.ldL xbF4_M xbF4_8 rfl (i := 0) (kd := 2) (v := .ref 0) (pcJ := 9) rfl L rfl rfl rfl ?_
      refine j_V.ldL xbF4_M xbF4_9 rfl (i := 2) (kd := 0) (v := .int x2) (pcJ := 10) rfl L rfl rfl rfl ?_
      refine j_V.cl xbF4_M xbF4_10 rfl (md := 3) (mj := 165) rfl (by decide) xb47_M (As := [.ref 0, .int x2]) (rest := []) (jk_spl3 (K.at rfl) rfl rfl rfl (Nat.le_of_ble_eq_true rfl) (Nat.le_of_ble_eq_true rfl)) (fun d => xb47_ok (K.fi [0, 343] rfl rfl)) ?_
      rintro r hz ⟨rfl, ez⟩
      rw [ez]
      clear ez
      show j_V jP _ 145 13 lv [.int (x_isTrain (nI n) x2)] g0 _
      refine j_V.ifc xbF4_M xbF4_13 (t := 22) rfl (fun c13_0 => ?_) (fun c13_0 => ?_)
      · replace c13_0 : ¬ ((x_isTrain (nI n) x2) = 0) := jd_ne c13_0
        exact absurd c2 c13_0
      · replace c13_0 : (x_isTrain (nI n) x2) = 0 := jd_nen c13_0
        refine j_V.ldL xbF4_M xbF4_16 rfl (i := 0) (kd := 2) (v := .ref 0) (pcJ := 17) rfl L rfl rfl rfl ?_
        refine j_V.one xbF4_M xbF4_17 (by decide) (pcJ := 18) (stJ := [.int 2, .ref 0]) rfl ?_
        refine j_V.cl xbF4_M xbF4_18 rfl (md := 3) (mj := 161) rfl (by decide) xb50_M (As := [.ref 0, .int 2]) (rest := []) (jk_spl3 (K.at rfl) rfl rfl rfl (Nat.le_of_ble_eq_true rfl) (Nat.le_of_ble_eq_true rfl)) (fun d => xb50_ok (K.fi [0] rfl rfl)) ?_
        rintro r h9 ⟨rfl, K9⟩
        have K : KN h9 [(0, .inl (9, [.ref 1, .ref 3, .ref 4, .ref 29, .ref 281, .ref 325, .ref 343, .ref 327, .int ((x_qrefuse sst 2).2)])), (4, .inl (7, [.ref 343, .int mi, .int shu, .int bus, .ref 5, .ref 6, .ref 7, .ref 8, .ref 9, .ref 10, .ref 11, .ref 12, .ref 13, .ref 14, .ref 15, .int lks, .ref 16, .ref 17, .ref 20])), (5, .inr (.inl (0, rk))), (7, .inr (.inl (0, ph))), (281, .inl (1, [.ref 282, .ref 307, .ref 323, .ref 324])), (343, .inl (2, [.int (nI S), .ref 344, .ref 345, .ref 346, .ref 347, .int (nI n), .ref 348, .ref 349, .ref 350, .ref 351, .ref 352, .ref 353, .ref 354, .int cel, .ref 355, .ref 356, .ref 357, .ref 358])), (346, .inr (.inl (0, tra))), (351, .inr (.inl (0, tto)))] g0 := K.mg K9 rfl rfl
        clear K9
        show j_V jP _ 145 21 lv [.int ((x_qrefuse sst 2).1)] h9 _
        refine j_V.ri xbF4_M xbF4_21 ?_
        exact fqP.yes R0 FA TA (fun x g => KN.off K9 K (lkn (fun z => g z.symm) (lke (lke (lke (lke (lke (lke (lke rfl))))))))) (K.at rfl)
  have c2 : ¬ ((x_isTrain (nI n) x2) = 0) := fun z => m2 ((g_train V.1.g x2).symm.trans z)
  by_cases c3 : x1 = x2
  · skip
    rw [show m_qswap n th sst' w x1 x2 = (-1, 0, 4) by unfold m_qswap; rw [if_neg m1, if_neg m2, if_pos c3]; rfl]
    have FA : ∀ x, (x < 282 ∨ 324 < x) → g0[x]? = g0[x]? := fun x _ => rfl
    have TA := P.2.2.1
    have K9 : kA g0 [(0, .inl (9, [.ref 1, .ref 3, .ref 4, .ref 29, .ref 281, .ref 325, .ref 343, .ref 327, .int sst])), (4, .inl (7, [.ref 343, .int mi, .int shu, .int bus, .ref 5, .ref 6, .ref 7, .ref 8, .ref 9, .ref 10, .ref 11, .ref 12, .ref 13, .ref 14, .ref 15, .int lks, .ref 16, .ref 17, .ref 20])), (5, .inr (.inl (0, rk))), (7, .inr (.inl (0, ph))), (281, .inl (1, [.ref 282, .ref 307, .ref 323, .ref 324])), (343, .inl (2, [.int (nI S), .ref 344, .ref 345, .ref 346, .ref 347, .int (nI n), .ref 348, .ref 349, .ref 350, .ref 351, .ref 352, .ref 353, .ref 354, .int cel, .ref 355, .ref 356, .ref 357, .ref 358])), (346, .inr (.inl (0, tra))), (351, .inr (.inl (0, tto)))] := ⟨(FA 0 (by decide)).trans C0, (FA 4 (by decide)).trans CS.1, (FA 5 (by decide)).trans CS.2.1, (FA 7 (by decide)).trans CS.2.2.2.1, P.2.2.2, (FA 343 (by decide)).trans CL.1, (FA 346 (by decide)).trans CL.2.2.1, (FA 351 (by decide)).trans CL.2.2.2.2.2.2.1, trivial⟩
    have K : KN g0 [(0, .inl (9, [.ref 1, .ref 3, .ref 4, .ref 29, .ref 281, .ref 325, .ref 343, .ref 327, .int sst])), (4, .inl (7, [.ref 343, .int mi, .int shu, .int bus, .ref 5, .ref 6, .ref 7, .ref 8, .ref 9, .ref 10, .ref 11, .ref 12, .ref 13, .ref 14, .ref 15, .int lks, .ref 16, .ref 17, .ref 20])), (5, .inr (.inl (0, rk))), (7, .inr (.inl (0, ph))), (281, .inl (1, [.ref 282, .ref 307, .ref 323, .ref 324])), (343, .inl (2, [.int (nI S), .ref 344, .ref 345, .ref 346, .ref 347, .int (nI n), .ref 348, .ref 349, .ref 350, .ref 351, .ref 352, .ref 353, .ref 354, .int cel, .ref 355, .ref 356, .ref 357, .ref 358])), (346, .inr (.inl (0, tra))), (351, .inr (.inl (0, tto)))] g0 := K9.K
    show j_V jP d 145 0 [(0, .ref 0), (1, .int x1), (2, .int x2)] [] g0 _
    obtain ⟨lv, elv, L⟩ : ∃ lv, lv = [(0, .ref 0), (1, .int x1), (2, .int x2)] ∧ LK lv [(0, .ref 0), (1, .int x1), (2, .int x2)] := ⟨_, rfl, LK.rf⟩
    rw [← elv]
    clear elv
    refine j_V.ldL xbF4_M xbF4_0 rfl (i := 0) (kd := 2) (v := .ref 0) (pcJ := 1) rfl L rfl rfl rfl ?_
    refine j_V.ldL xbF4_M xbF4_1 rfl (i := 1) (kd := 0) (v := .int x1) (pcJ := 2) rfl L rfl rfl rfl ?_
    refine j_V.cl xbF4_M xbF4_2 rfl (md := 3) (mj := 165) rfl (by decide) xb47_M (As := [.ref 0, .int x1]) (rest := []) (jk_spl3 (K.at rfl) rfl rfl rfl (Nat.le_of_ble_eq_true rfl) (Nat.le_of_ble_eq_true rfl)) (fun d => xb47_ok (K.fi [0, 343] rfl rfl)) ?_
    rintro r hz ⟨rfl, ez⟩
    rw [ez]
    clear ez
    show j_V jP _ 145 5 lv [.int (x_isTrain (nI n) x1)] g0 _
    refine j_V.ifc xbF4_M xbF4_5 (t := 16) rfl (fun c5_0 => ?_) (fun c5_0 => ?_)
    · replace c5_0 : (x_isTrain (nI n) x1) = 0 := jd_eq c5_0
      exact absurd c5_0 c1
    · replace c5_0 : ¬ ((x_isTrain (nI n) x1) = 0) := jd_eqn c5_0
      refine j_V.ldL xbF4_M xbF4_8 rfl (i := 0) (kd := 2) (v := .ref 0) (pcJ := 9) rfl L rfl rfl rfl ?_
      refine j_V.ldL xbF4_M xbF4_9 rfl (i := 2) (kd := 0) (v := .int x2) (pcJ := 10) rfl L rfl rfl rfl ?_
      refine j_V.cl xbF4_M xbF4_10 rfl (md := 3) (mj := 165) rfl (by decide) xb47_M (As := [.ref 0, .int x2]) (rest := []) (jk_spl3 (K.at rfl) rfl rfl rfl (Nat.le_of_ble_eq_true rfl) (Nat.le_of_ble_eq_true rfl)) (fun d => xb47_ok (K.fi [0, 343] rfl rfl)) ?_
      rintro r hz ⟨rfl, ez⟩
      rw [ez]
      clear ez
      show j_V jP _ 145 13 lv [.int (x_isTrain (nI n) x2)] g0 _
      refine j_V.ifc xbF4_M xbF4_13 (t := 22) rfl (fun c13_0 => ?_) (fun c13_0 => ?_)
      · replace c13_0 : ¬ ((x_isTrain (nI n) x2) = 0) := jd_ne c13_0
        refine j_V.ldL xbF4_M xbF4_22 rfl (i := 1) (kd := 0) (v := .int x1) (pcJ := 23) rfl L rfl rfl rfl ?_
        refine j_V.ldL xbF4_M xbF4_23 rfl (i := 2) (kd := 0) (v := .int x2) (pcJ := 24) rfl L rfl rfl rfl ?_
        refine j_V.icmp xbF4_M xbF4_24 (t := 33) rfl (fun c24_0 => ?_) (fun c24_0 => ?_)
        · replace c24_0 : ¬ (x1 = x2) := jd_ne c24_0
          exact absurd c3 c24_0
        · replace c24_0 : x1 = x2 := jd_nen c24_0
          refine j_V.ldL xbF4_M xbF4_27 rfl (i := 0) (kd := 2) (v := .ref 0) (pcJ := 28) rfl L rfl rfl rfl ?_
          refine j_V.one xbF4_M xbF4_28 (by decide) (pcJ := 29) (stJ := [.int 4, .ref 0]) rfl ?_
          refine j_V.cl xbF4_M xbF4_29 rfl (md := 3) (mj := 161) rfl (by decide) xb50_M (As := [.ref 0, .int 4]) (rest := []) (jk_spl3 (K.at rfl) rfl rfl rfl (Nat.le_of_ble_eq_true rfl) (Nat.le_of_ble_eq_true rfl)) (fun d => xb50_ok (K.fi [0] rfl rfl)) ?_
          rintro r h9 ⟨rfl, K9⟩
          have K : KN h9 [(0, .inl (9, [.ref 1, .ref 3, .ref 4, .ref 29, .ref 281, .ref 325, .ref 343, .ref 327, .int ((x_qrefuse sst 4).2)])), (4, .inl (7, [.ref 343, .int mi, .int shu, .int bus, .ref 5, .ref 6, .ref 7, .ref 8, .ref 9, .ref 10, .ref 11, .ref 12, .ref 13, .ref 14, .ref 15, .int lks, .ref 16, .ref 17, .ref 20])), (5, .inr (.inl (0, rk))), (7, .inr (.inl (0, ph))), (281, .inl (1, [.ref 282, .ref 307, .ref 323, .ref 324])), (343, .inl (2, [.int (nI S), .ref 344, .ref 345, .ref 346, .ref 347, .int (nI n), .ref 348, .ref 349, .ref 350, .ref 351, .ref 352, .ref 353, .ref 354, .int cel, .ref 355, .ref 356, .ref 357, .ref 358])), (346, .inr (.inl (0, tra))), (351, .inr (.inl (0, tto)))] g0 := K.mg K9 rfl rfl
          clear K9
          show j_V jP _ 145 32 lv [.int ((x_qrefuse sst 4).1)] h9 _
          refine j_V.ri xbF4_M xbF4_32 ?_
          exact fqP.yes R0 FA TA (fun x g => KN.off K9 K (lkn (fun z => g z.symm) (lke (lke (lke (lke (lke (lke (lke rfl))))))))) (K.at rfl)
      · replace c13_0 : (x_isTrain (nI n) x2) = 0 := jd_nen c13_0
        exact absurd c13_0 c2
  obtain ⟨t, ht, rfl⟩ := (isTrain_n V.1.g).mp m1
  obtain ⟨q, hq, rfl⟩ := (isTrain_n V.1.g).mp m2
  have htq : t ≠ q := fun z => c3 (by rw [z])
  have FA : ∀ x, (x < 282 ∨ 324 < x) → g0[x]? = g0[x]? := fun x _ => rfl
  have TA := P.2.2.1
  have K9 : kA g0 [(0, .inl (9, [.ref 1, .ref 3, .ref 4, .ref 29, .ref 281, .ref 325, .ref 343, .ref 327, .int sst])), (4, .inl (7, [.ref 343, .int mi, .int shu, .int bus, .ref 5, .ref 6, .ref 7, .ref 8, .ref 9, .ref 10, .ref 11, .ref 12, .ref 13, .ref 14, .ref 15, .int lks, .ref 16, .ref 17, .ref 20])), (5, .inr (.inl (0, rk))), (7, .inr (.inl (0, ph))), (281, .inl (1, [.ref 282, .ref 307, .ref 323, .ref 324])), (343, .inl (2, [.int (nI S), .ref 344, .ref 345, .ref 346, .ref 347, .int (nI n), .ref 348, .ref 349, .ref 350, .ref 351, .ref 352, .ref 353, .ref 354, .int cel, .ref 355, .ref 356, .ref 357, .ref 358])), (346, .inr (.inl (0, tra))), (351, .inr (.inl (0, tto)))] := ⟨(FA 0 (by decide)).trans C0, (FA 4 (by decide)).trans CS.1, (FA 5 (by decide)).trans CS.2.1, (FA 7 (by decide)).trans CS.2.2.2.1, P.2.2.2, (FA 343 (by decide)).trans CL.1, (FA 346 (by decide)).trans CL.2.2.1, (FA 351 (by decide)).trans CL.2.2.2.2.2.2.1, trivial⟩
  have K : KN g0 [(0, .inl (9, [.ref 1, .ref 3, .ref 4, .ref 29, .ref 281, .ref 325, .ref 343, .ref 327, .int sst])), (4, .inl (7, [.ref 343, .int mi, .int shu, .int bus, .ref 5, .ref 6, .ref 7, .ref 8, .ref 9, .ref 10, .ref 11, .ref 12, .ref 13, .ref 14, .ref 15, .int lks, .ref 16, .ref 17, .ref 20])), (5, .inr (.inl (0, rk))), (7, .inr (.inl (0, ph))), (281, .inl (1, [.ref 282, .ref 307, .ref 323, .ref 324])), (343, .inl (2, [.int (nI S), .ref 344, .ref 345, .ref 346, .ref 347, .int (nI n), .ref 348, .ref 349, .ref 350, .ref 351, .ref 352, .ref 353, .ref 354, .int cel, .ref 355, .ref 356, .ref 357, .ref 358])), (346, .inr (.inl (0, tra))), (351, .inr (.inl (0, tto)))] g0 := K9.K
  show j_V jP d 145 0 [(0, .ref 0), (1, .int (nI t)), (2, .int (nI q))] [] g0 _
  obtain ⟨lv, elv, L⟩ : ∃ lv, lv = [(0, .ref 0), (1, .int (nI t)), (2, .int (nI q))] ∧ LK lv [(0, .ref 0), (1, .int (nI t)), (2, .int (nI q))] := ⟨_, rfl, LK.rf⟩
  rw [← elv]
  clear elv
  refine j_V.ldL xbF4_M xbF4_0 rfl (i := 0) (kd := 2) (v := .ref 0) (pcJ := 1) rfl L rfl rfl rfl ?_
  refine j_V.ldL xbF4_M xbF4_1 rfl (i := 1) (kd := 0) (v := .int (nI t)) (pcJ := 2) rfl L rfl rfl rfl ?_
  refine j_V.cl xbF4_M xbF4_2 rfl (md := 3) (mj := 165) rfl (by decide) xb47_M (As := [.ref 0, .int (nI t)]) (rest := []) (jk_spl3 (K.at rfl) rfl rfl rfl (Nat.le_of_ble_eq_true rfl) (Nat.le_of_ble_eq_true rfl)) (fun d => xb47_ok (K.fi [0, 343] rfl rfl)) ?_
  rintro r hz ⟨rfl, ez⟩
  rw [ez]
  clear ez
  show j_V jP _ 145 5 lv [.int (x_isTrain (nI n) (nI t))] g0 _
  refine j_V.ifc xbF4_M xbF4_5 (t := 16) rfl (fun c5_0 => ?_) (fun c5_0 => ?_)
  · replace c5_0 : (x_isTrain (nI n) (nI t)) = 0 := jd_eq c5_0
    exact absurd c5_0 c1
  · replace c5_0 : ¬ ((x_isTrain (nI n) (nI t)) = 0) := jd_eqn c5_0
    refine j_V.ldL xbF4_M xbF4_8 rfl (i := 0) (kd := 2) (v := .ref 0) (pcJ := 9) rfl L rfl rfl rfl ?_
    refine j_V.ldL xbF4_M xbF4_9 rfl (i := 2) (kd := 0) (v := .int (nI q)) (pcJ := 10) rfl L rfl rfl rfl ?_
    refine j_V.cl xbF4_M xbF4_10 rfl (md := 3) (mj := 165) rfl (by decide) xb47_M (As := [.ref 0, .int (nI q)]) (rest := []) (jk_spl3 (K.at rfl) rfl rfl rfl (Nat.le_of_ble_eq_true rfl) (Nat.le_of_ble_eq_true rfl)) (fun d => xb47_ok (K.fi [0, 343] rfl rfl)) ?_
    rintro r hz ⟨rfl, ez⟩
    rw [ez]
    clear ez
    show j_V jP _ 145 13 lv [.int (x_isTrain (nI n) (nI q))] g0 _
    refine j_V.ifc xbF4_M xbF4_13 (t := 22) rfl (fun c13_0 => ?_) (fun c13_0 => ?_)
    · replace c13_0 : ¬ ((x_isTrain (nI n) (nI q)) = 0) := jd_ne c13_0
      refine j_V.ldL xbF4_M xbF4_22 rfl (i := 1) (kd := 0) (v := .int (nI t)) (pcJ := 23) rfl L rfl rfl rfl ?_
      refine j_V.ldL xbF4_M xbF4_23 rfl (i := 2) (kd := 0) (v := .int (nI q)) (pcJ := 24) rfl L rfl rfl rfl ?_
      refine j_V.icmp xbF4_M xbF4_24 (t := 33) rfl (fun c24_0 => ?_) (fun c24_0 => ?_)
      · replace c24_0 : ¬ ((nI t) = (nI q)) := jd_ne c24_0
        refine j_V.ldL xbF4_M xbF4_33 rfl (i := 0) (kd := 2) (v := .ref 0) (pcJ := 34) rfl L rfl rfl rfl ?_
        refine j_V.ldL xbF4_M xbF4_34 rfl (i := 0) (kd := 2) (v := .ref 0) (pcJ := 35) rfl L rfl rfl rfl ?_
        refine j_V.getK xbF4_M xbF4_35 (ci := 9) (j := 4) rfl K rfl rfl ?_
        refine j_V.ldL xbF4_M xbF4_38 rfl (i := 0) (kd := 2) (v := .ref 0) (pcJ := 39) rfl L rfl rfl rfl ?_
        refine j_V.getK xbF4_M xbF4_39 (ci := 9) (j := 2) rfl K rfl rfl ?_
        refine j_V.cl xbF4_M xbF4_42 rfl (md := 3) (mj := 7) rfl (by decide) fp0_M (As := [.ref 281, .ref 4]) (rest := [.ref 0]) (jk_spl3 (K.at rfl) rfl rfl rfl (Nat.le_of_ble_eq_true rfl) (Nat.le_of_ble_eq_true rfl)) (fun d => hp_now_343 P hm hb) ?_
        rintro r h27 ⟨rfl, TA, F9⟩
        replace FA : ∀ x, (x < 282 ∨ 324 < x) → h27[x]? = g0[x]? := fun x g => (F9 x (by omega)).trans (FA x g)
        replace P : hF 343 n S w h27 := P.fr (fun x g => F9 x (by omega)) TA
        have K9 : kA h27 [(0, .inl (9, [.ref 1, .ref 3, .ref 4, .ref 29, .ref 281, .ref 325, .ref 343, .ref 327, .int sst])), (4, .inl (7, [.ref 343, .int mi, .int shu, .int bus, .ref 5, .ref 6, .ref 7, .ref 8, .ref 9, .ref 10, .ref 11, .ref 12, .ref 13, .ref 14, .ref 15, .int lks, .ref 16, .ref 17, .ref 20])), (5, .inr (.inl (0, rk))), (7, .inr (.inl (0, ph))), (281, .inl (1, [.ref 282, .ref 307, .ref 323, .ref 324])), (343, .inl (2, [.int (nI S), .ref 344, .ref 345, .ref 346, .ref 347, .int (nI n), .ref 348, .ref 349, .ref 350, .ref 351, .ref 352, .ref 353, .ref 354, .int cel, .ref 355, .ref 356, .ref 357, .ref 358])), (346, .inr (.inl (0, tra))), (351, .inr (.inl (0, tto)))] := ⟨(FA 0 (by decide)).trans C0, (FA 4 (by decide)).trans CS.1, (FA 5 (by decide)).trans CS.2.1, (FA 7 (by decide)).trans CS.2.2.2.1, P.2.2.2, (FA 343 (by decide)).trans CL.1, (FA 346 (by decide)).trans CL.2.2.1, (FA 351 (by decide)).trans CL.2.2.2.2.2.2.1, trivial⟩
        have K : KN h27 [(0, .inl (9, [.ref 1, .ref 3, .ref 4, .ref 29, .ref 281, .ref 325, .ref 343, .ref 327, .int sst])), (4, .inl (7, [.ref 343, .int mi, .int shu, .int bus, .ref 5, .ref 6, .ref 7, .ref 8, .ref 9, .ref 10, .ref 11, .ref 12, .ref 13, .ref 14, .ref 15, .int lks, .ref 16, .ref 17, .ref 20])), (5, .inr (.inl (0, rk))), (7, .inr (.inl (0, ph))), (281, .inl (1, [.ref 282, .ref 307, .ref 323, .ref 324])), (343, .inl (2, [.int (nI S), .ref 344, .ref 345, .ref 346, .ref 347, .int (nI n), .ref 348, .ref 349, .ref 350, .ref 351, .ref 352, .ref 353, .ref 354, .int cel, .ref 355, .ref 356, .ref 357, .ref 358])), (346, .inr (.inl (0, tra))), (351, .inr (.inl (0, tto)))] h27 := K9.K
        show j_V jP _ 145 45 lv [.int (pE n w), .ref 0] h27 _
        refine j_V.ldL xbF4_M xbF4_45 rfl (i := 0) (kd := 2) (v := .ref 0) (pcJ := 46) rfl L rfl rfl rfl ?_
        refine j_V.getK xbF4_M xbF4_46 (ci := 9) (j := 4) rfl K rfl rfl ?_
        refine j_V.ldL xbF4_M xbF4_49 rfl (i := 0) (kd := 2) (v := .ref 0) (pcJ := 50) rfl L rfl rfl rfl ?_
        refine j_V.getK xbF4_M xbF4_50 (ci := 9) (j := 2) rfl K rfl rfl ?_
        refine j_V.ldL xbF4_M xbF4_53 rfl (i := 1) (kd := 0) (v := .int (nI t)) (pcJ := 54) rfl L rfl rfl rfl ?_
        refine j_V.ldL xbF4_M xbF4_54 rfl (i := 2) (kd := 0) (v := .int (nI q)) (pcJ := 55) rfl L rfl rfl rfl ?_
        refine j_V.cl xbF4_M xbF4_55 rfl (md := 3) (mj := 10) rfl (by decide) fp5_M (As := [.ref 281, .ref 4, .int (nI t), .int (nI q)]) (rest := [.int (pE n w), .ref 0]) (jk_spl3 (K.at rfl) rfl rfl rfl (Nat.le_of_ble_eq_true rfl) (Nat.le_of_ble_eq_true rfl)) (fun d => hp_swap_343 P hm ht hq htq hb) ?_
        rintro r h28 ⟨rfl, TA, F9⟩
        replace FA : ∀ x, (x < 282 ∨ 324 < x) → h28[x]? = g0[x]? := fun x g => (F9 x (by omega)).trans (FA x g)
        replace P : hF 343 n S w h28 := P.fr (fun x g => F9 x (by omega)) TA
        have K9 : kA h28 [(0, .inl (9, [.ref 1, .ref 3, .ref 4, .ref 29, .ref 281, .ref 325, .ref 343, .ref 327, .int sst])), (4, .inl (7, [.ref 343, .int mi, .int shu, .int bus, .ref 5, .ref 6, .ref 7, .ref 8, .ref 9, .ref 10, .ref 11, .ref 12, .ref 13, .ref 14, .ref 15, .int lks, .ref 16, .ref 17, .ref 20])), (5, .inr (.inl (0, rk))), (7, .inr (.inl (0, ph))), (281, .inl (1, [.ref 282, .ref 307, .ref 323, .ref 324])), (343, .inl (2, [.int (nI S), .ref 344, .ref 345, .ref 346, .ref 347, .int (nI n), .ref 348, .ref 349, .ref 350, .ref 351, .ref 352, .ref 353, .ref 354, .int cel, .ref 355, .ref 356, .ref 357, .ref 358])), (346, .inr (.inl (0, tra))), (351, .inr (.inl (0, tto)))] := ⟨(FA 0 (by decide)).trans C0, (FA 4 (by decide)).trans CS.1, (FA 5 (by decide)).trans CS.2.1, (FA 7 (by decide)).trans CS.2.2.2.1, P.2.2.2, (FA 343 (by decide)).trans CL.1, (FA 346 (by decide)).trans CL.2.2.1, (FA 351 (by decide)).trans CL.2.2.2.2.2.2.1, trivial⟩
        have K : KN h28 [(0, .inl (9, [.ref 1, .ref 3, .ref 4, .ref 29, .ref 281, .ref 325, .ref 343, .ref 327, .int sst])), (4, .inl (7, [.ref 343, .int mi, .int shu, .int bus, .ref 5, .ref 6, .ref 7, .ref 8, .ref 9, .ref 10, .ref 11, .ref 12, .ref 13, .ref 14, .ref 15, .int lks, .ref 16, .ref 17, .ref 20])), (5, .inr (.inl (0, rk))), (7, .inr (.inl (0, ph))), (281, .inl (1, [.ref 282, .ref 307, .ref 323, .ref 324])), (343, .inl (2, [.int (nI S), .ref 344, .ref 345, .ref 346, .ref 347, .int (nI n), .ref 348, .ref 349, .ref 350, .ref 351, .ref 352, .ref 353, .ref 354, .int cel, .ref 355, .ref 356, .ref 357, .ref 358])), (346, .inr (.inl (0, tra))), (351, .inr (.inl (0, tto)))] h28 := K9.K
        show j_V jP _ 145 58 lv [.int (pE n (sA (sA w (196 + m_rankOf w (nI t)) (nI q)) (196 + m_rankOf w (nI q)) (nI t))), .int (pE n w), .ref 0] h28 _
        refine j_V.one xbF4_M xbF4_58 (by decide) (pcJ := 59) (stJ := [.int ((pE n w) - (pE n (sA (sA w (196 + m_rankOf w (nI t)) (nI q)) (196 + m_rankOf w (nI q)) (nI t)))), .ref 0]) rfl ?_
        refine j_V.cl xbF4_M xbF4_59 rfl (md := 3) (mj := 159) rfl (by decide) xb49_M (As := [.ref 0, .int ((pE n w) - (pE n (sA (sA w (196 + m_rankOf w (nI t)) (nI q)) (196 + m_rankOf w (nI q)) (nI t))))]) (rest := []) (jk_spl3 (K.at rfl) rfl rfl rfl (Nat.le_of_ble_eq_true rfl) (Nat.le_of_ble_eq_true rfl)) (fun d => xb49_ok (K.fi [0] rfl rfl)) ?_
        rintro r h9 ⟨rfl, K9⟩
        have K : KN h9 [(0, .inl (9, [.ref 1, .ref 3, .ref 4, .ref 29, .ref 281, .ref 325, .ref 343, .ref 327, .int ((x_qanswer sst ((pE n w) - (pE n (sA (sA w (196 + m_rankOf w (nI t)) (nI q)) (196 + m_rankOf w (nI q)) (nI t))))).2)])), (4, .inl (7, [.ref 343, .int mi, .int shu, .int bus, .ref 5, .ref 6, .ref 7, .ref 8, .ref 9, .ref 10, .ref 11, .ref 12, .ref 13, .ref 14, .ref 15, .int lks, .ref 16, .ref 17, .ref 20])), (5, .inr (.inl (0, rk))), (7, .inr (.inl (0, ph))), (281, .inl (1, [.ref 282, .ref 307, .ref 323, .ref 324])), (343, .inl (2, [.int (nI S), .ref 344, .ref 345, .ref 346, .ref 347, .int (nI n), .ref 348, .ref 349, .ref 350, .ref 351, .ref 352, .ref 353, .ref 354, .int cel, .ref 355, .ref 356, .ref 357, .ref 358])), (346, .inr (.inl (0, tra))), (351, .inr (.inl (0, tto)))] h28 := K.mg K9 rfl rfl
        clear K9
        show j_V jP _ 145 62 lv [.int ((x_qanswer sst ((pE n w) - (pE n (sA (sA w (196 + m_rankOf w (nI t)) (nI q)) (196 + m_rankOf w (nI q)) (nI t))))).1)] h9 _
        refine j_V.ri xbF4_M xbF4_62 ?_
        rw [show m_qswap n th sst' w (nI t) (nI q) = (((pE n w) - (pE n (sA (sA w (196 + m_rankOf w (nI t)) (nI q)) (196 + m_rankOf w (nI q)) (nI t)))), 0, 0) by unfold m_qswap; rw [if_neg m1, if_neg m2, if_neg c3]; rfl]
        exact fqP.yes R0 FA TA (fun x g => KN.off K9 K (lkn (fun z => g z.symm) (lke (lke (lke (lke (lke (lke (lke rfl))))))))) (K.at rfl)
      · replace c24_0 : (nI t) = (nI q) := jd_nen c24_0
        exact absurd c24_0 c3
    · replace c13_0 : (x_isTrain (nI n) (nI q)) = 0 := jd_nen c13_0
      exact absurd c13_0 c2
set_option maxRecDepth 100000 in
theorem xbF5_M : j_meth jP 147 = some (yX9_loop, cX9_loop, 3, (some .int), 2, false, 9) := rfl
set_option maxRecDepth 100000 in
theorem xbF5_0 : j_code jP 147 0 = some (.iload_n 2) := rfl
set_option maxRecDepth 100000 in
theorem xbF5_1 : j_code jP 147 1 = some (.iconst 1) := rfl
set_option maxRecDepth 100000 in
theorem xbF5_2 : j_code jP 147 2 = some (.bipush 99) := rfl
set_option maxRecDepth 100000 in
theorem xbF5_4 : j_code jP 147 4 = some (.invokestatic 138) := rfl
set_option maxRecDepth 100000 in
theorem xbF5_7 : j_code jP 147 7 = some (.ifCond .ne 9) := rfl
set_option maxRecDepth 100000 in
theorem xbF5_10 : j_code jP 147 10 = some (.aload_n 0) := rfl
set_option maxRecDepth 100000 in
theorem xbF5_11 : j_code jP 147 11 = some (.iconst 1) := rfl
set_option maxRecDepth 100000 in
theorem xbF5_12 : j_code jP 147 12 = some (.invokevirtual 84) := rfl
set_option maxRecDepth 100000 in
theorem xbF5_15 : j_code jP 147 15 = some (.ireturn) := rfl
set_option maxRecDepth 100000 in
theorem xbF5_16 : j_code jP 147 16 = some (.aload_n 0) := rfl
set_option maxRecDepth 100000 in
theorem xbF5_17 : j_code jP 147 17 = some (.iload_n 1) := rfl
set_option maxRecDepth 100000 in
theorem xbF5_18 : j_code jP 147 18 = some (.invokevirtual 142) := rfl
set_option maxRecDepth 100000 in
theorem xbF5_21 : j_code jP 147 21 = some (.ifCond .ne 9) := rfl
set_option maxRecDepth 100000 in
theorem xbF5_24 : j_code jP 147 24 = some (.aload_n 0) := rfl
set_option maxRecDepth 100000 in
theorem xbF5_25 : j_code jP 147 25 = some (.iconst 2) := rfl
set_option maxRecDepth 100000 in
theorem xbF5_26 : j_code jP 147 26 = some (.invokevirtual 84) := rfl
set_option maxRecDepth 100000 in
theorem xbF5_29 : j_code jP 147 29 = some (.ireturn) := rfl
set_option maxRecDepth 100000 in
theorem xbF5_30 : j_code jP 147 30 = some (.aload_n 0) := rfl
set_option maxRecDepth 100000 in
theorem xbF5_31 : j_code jP 147 31 = some (.getfield 58) := rfl
set_option maxRecDepth 100000 in
theorem xbF5_34 : j_code jP 147 34 = some (.getfield 149) := rfl
set_option maxRecDepth 100000 in
theorem xbF5_37 : j_code jP 147 37 = some (.iload_n 1) := rfl
set_option maxRecDepth 100000 in
theorem xbF5_38 : j_code jP 147 38 = some (.iaload) := rfl
set_option maxRecDepth 100000 in
theorem xbF5_39 : j_code jP 147 39 = some (.iconst 3) := rfl
set_option maxRecDepth 100000 in
theorem xbF5_40 : j_code jP 147 40 = some (.if_icmp .lt 9) := rfl
set_option maxRecDepth 100000 in
theorem xbF5_43 : j_code jP 147 43 = some (.aload_n 0) := rfl
set_option maxRecDepth 100000 in
theorem xbF5_44 : j_code jP 147 44 = some (.iconst 3) := rfl
set_option maxRecDepth 100000 in
theorem xbF5_45 : j_code jP 147 45 = some (.invokevirtual 84) := rfl
set_option maxRecDepth 100000 in
theorem xbF5_48 : j_code jP 147 48 = some (.ireturn) := rfl
set_option maxRecDepth 100000 in
theorem xbF5_49 : j_code jP 147 49 = some (.aload_n 0) := rfl
set_option maxRecDepth 100000 in
theorem xbF5_50 : j_code jP 147 50 = some (.aload_n 0) := rfl
set_option maxRecDepth 100000 in
theorem xbF5_51 : j_code jP 147 51 = some (.getfield 44) := rfl
set_option maxRecDepth 100000 in
theorem xbF5_54 : j_code jP 147 54 = some (.aload_n 0) := rfl
set_option maxRecDepth 100000 in
theorem xbF5_55 : j_code jP 147 55 = some (.getfield 30) := rfl
set_option maxRecDepth 100000 in
theorem xbF5_58 : j_code jP 147 58 = some (.invokevirtual 342) := rfl
set_option maxRecDepth 100000 in
theorem xbF5_61 : j_code jP 147 61 = some (.aload_n 0) := rfl
set_option maxRecDepth 100000 in
theorem xbF5_62 : j_code jP 147 62 = some (.getfield 44) := rfl
set_option maxRecDepth 100000 in
theorem xbF5_65 : j_code jP 147 65 = some (.aload_n 0) := rfl
set_option maxRecDepth 100000 in
theorem xbF5_66 : j_code jP 147 66 = some (.getfield 30) := rfl
set_option maxRecDepth 100000 in
theorem xbF5_69 : j_code jP 147 69 = some (.iload_n 1) := rfl
set_option maxRecDepth 100000 in
theorem xbF5_70 : j_code jP 147 70 = some (.iload_n 2) := rfl
set_option maxRecDepth 100000 in
theorem xbF5_71 : j_code jP 147 71 = some (.invokevirtual 354) := rfl
set_option maxRecDepth 100000 in
theorem xbF5_74 : j_code jP 147 74 = some (.isub) := rfl
set_option maxRecDepth 100000 in
theorem xbF5_75 : j_code jP 147 75 = some (.invokevirtual 104) := rfl
set_option maxRecDepth 100000 in
theorem xbF5_78 : j_code jP 147 78 = some (.ireturn) := rfl
set_option maxRecDepth 1000000 in
theorem hq_loop_B {g0 : J_H} {n S m d : Nat} {w : List Int32} {sst th sst' : Int32} (R : hX 343 327 n S w sst g0) (Q : hT9 282 0 g0) (C281 : g0[281]? = some (.inl (1, [.ref 282, .ref 307, .ref 323, .ref 324]))) (hm : gN w 201 = nI m) (hm9 : m < 2 ^ 29) (Z : hZ9 307 g0) (x1 : Int32) (x2 : Int32) : j_V jP d 147 0 (lv_args 0 [.ref 0, .int x1, .int x2]) [] g0 (fun rv h' => fqP 343 327 n S w (m_qloop n th sst' w x1 x2) rv g0 h') := by
  have R0 := R
  have C0 := R.1
  have P : hF 343 n S w g0 := ⟨R.2.1, R.2.2, Q, C281⟩
  have hb : m + 300 < 2 ^ 30 := by omega
  refine hX.opn R (fun mi shu bus lks rl pev rk sta ph sp ce du he ri us cm lf lkd row sea pms pmm pmt pst pwa prs prr pfa CS hl4 V cel run tra len siz frm tto lst slo wei fit way rid lon CL Y T hlY => ?_)
  have h5 := V.1.n5
  by_cases m1 : m_isFrom x2 1 99 = 0
  · have c1 : (x_isWithin x2 1 99) = 0 := m1
    rw [show m_qloop n th sst' w x1 x2 = (-1, 0, 1) by unfold m_qloop; rw [if_pos m1]; rfl]
    have FA : ∀ x, (x < 282 ∨ 324 < x) → g0[x]? = g0[x]? := fun x _ => rfl
    have TA := P.2.2.1
    have K9 : kA g0 [(0, .inl (9, [.ref 1, .ref 3, .ref 4, .ref 29, .ref 281, .ref 325, .ref 343, .ref 327, .int sst])), (4, .inl (7, [.ref 343, .int mi, .int shu, .int bus, .ref 5, .ref 6, .ref 7, .ref 8, .ref 9, .ref 10, .ref 11, .ref 12, .ref 13, .ref 14, .ref 15, .int lks, .ref 16, .ref 17, .ref 20])), (5, .inr (.inl (0, rk))), (7, .inr (.inl (0, ph))), (281, .inl (1, [.ref 282, .ref 307, .ref 323, .ref 324])), (343, .inl (2, [.int (nI S), .ref 344, .ref 345, .ref 346, .ref 347, .int (nI n), .ref 348, .ref 349, .ref 350, .ref 351, .ref 352, .ref 353, .ref 354, .int cel, .ref 355, .ref 356, .ref 357, .ref 358])), (346, .inr (.inl (0, tra))), (351, .inr (.inl (0, tto)))] := ⟨(FA 0 (by decide)).trans C0, (FA 4 (by decide)).trans CS.1, (FA 5 (by decide)).trans CS.2.1, (FA 7 (by decide)).trans CS.2.2.2.1, P.2.2.2, (FA 343 (by decide)).trans CL.1, (FA 346 (by decide)).trans CL.2.2.1, (FA 351 (by decide)).trans CL.2.2.2.2.2.2.1, trivial⟩
    have K : KN g0 [(0, .inl (9, [.ref 1, .ref 3, .ref 4, .ref 29, .ref 281, .ref 325, .ref 343, .ref 327, .int sst])), (4, .inl (7, [.ref 343, .int mi, .int shu, .int bus, .ref 5, .ref 6, .ref 7, .ref 8, .ref 9, .ref 10, .ref 11, .ref 12, .ref 13, .ref 14, .ref 15, .int lks, .ref 16, .ref 17, .ref 20])), (5, .inr (.inl (0, rk))), (7, .inr (.inl (0, ph))), (281, .inl (1, [.ref 282, .ref 307, .ref 323, .ref 324])), (343, .inl (2, [.int (nI S), .ref 344, .ref 345, .ref 346, .ref 347, .int (nI n), .ref 348, .ref 349, .ref 350, .ref 351, .ref 352, .ref 353, .ref 354, .int cel, .ref 355, .ref 356, .ref 357, .ref 358])), (346, .inr (.inl (0, tra))), (351, .inr (.inl (0, tto)))] g0 := K9.K
    show j_V jP d 147 0 [(0, .ref 0), (1, .int x1), (2, .int x2)] [] g0 _
    obtain ⟨lv, elv, L⟩ : ∃ lv, lv = [(0, .ref 0), (1, .int x1), (2, .int x2)] ∧ LK lv [(0, .ref 0), (1, .int x1), (2, .int x2)] := ⟨_, rfl, LK.rf⟩
    rw [← elv]
    clear elv
    refine j_V.ldL xbF5_M xbF5_0 rfl (i := 2) (kd := 0) (v := .int x2) (pcJ := 1) rfl L rfl rfl rfl ?_
    refine j_V.one xbF5_M xbF5_1 (by decide) (pcJ := 2) (stJ := [.int 1, .int x2]) rfl ?_
    refine j_V.one xbF5_M xbF5_2 (by decide) (pcJ := 4) (stJ := [.int 99, .int 1, .int x2]) rfl ?_
    refine j_V.cl xbF5_M xbF5_4 rfl (md := 2) (mj := 162) rfl (by decide) xbwisWi_M (As := [.int x2, .int 1, .int 99]) (rest := []) (jk_spl2 rfl rfl (Nat.le_of_ble_eq_true rfl) (Nat.le_of_ble_eq_true rfl)) (fun d => xbwisWi_ok (K.fi [] rfl rfl)) ?_
    rintro r hz ⟨rfl, ez⟩
    rw [ez]
    clear ez
    show j_V jP _ 147 7 lv [.int (x_isWithin x2 1 99)] g0 _
    refine j_V.ifc xbF5_M xbF5_7 (t := 16) rfl (fun c7_0 => ?_) (fun c7_0 => ?_)
    · replace c7_0 : ¬ ((x_isWithin x2 1 99) = 0) := jd_ne c7_0
      exact absurd c1 c7_0
    · replace c7_0 : (x_isWithin x2 1 99) = 0 := jd_nen c7_0
      refine j_V.ldL xbF5_M xbF5_10 rfl (i := 0) (kd := 2) (v := .ref 0) (pcJ := 11) rfl L rfl rfl rfl ?_
      refine j_V.one xbF5_M xbF5_11 (by decide) (pcJ := 12) (stJ := [.int 1, .ref 0]) rfl ?_
      refine j_V.cl xbF5_M xbF5_12 rfl (md := 3) (mj := 161) rfl (by decide) xb50_M (As := [.ref 0, .int 1]) (rest := []) (jk_spl3 (K.at rfl) rfl rfl rfl (Nat.le_of_ble_eq_true rfl) (Nat.le_of_ble_eq_true rfl)) (fun d => xb50_ok (K.fi [0] rfl rfl)) ?_
      rintro r h9 ⟨rfl, K9⟩
      have K : KN h9 [(0, .inl (9, [.ref 1, .ref 3, .ref 4, .ref 29, .ref 281, .ref 325, .ref 343, .ref 327, .int ((x_qrefuse sst 1).2)])), (4, .inl (7, [.ref 343, .int mi, .int shu, .int bus, .ref 5, .ref 6, .ref 7, .ref 8, .ref 9, .ref 10, .ref 11, .ref 12, .ref 13, .ref 14, .ref 15, .int lks, .ref 16, .ref 17, .ref 20])), (5, .inr (.inl (0, rk))), (7, .inr (.inl (0, ph))), (281, .inl (1, [.ref 282, .ref 307, .ref 323, .ref 324])), (343, .inl (2, [.int (nI S), .ref 344, .ref 345, .ref 346, .ref 347, .int (nI n), .ref 348, .ref 349, .ref 350, .ref 351, .ref 352, .ref 353, .ref 354, .int cel, .ref 355, .ref 356, .ref 357, .ref 358])), (346, .inr (.inl (0, tra))), (351, .inr (.inl (0, tto)))] g0 := K.mg K9 rfl rfl
      clear K9
      show j_V jP _ 147 15 lv [.int ((x_qrefuse sst 1).1)] h9 _
      refine j_V.ri xbF5_M xbF5_15 ?_
      exact fqP.yes R0 FA TA (fun x g => KN.off K9 K (lkn (fun z => g z.symm) (lke (lke (lke (lke (lke (lke (lke rfl))))))))) (K.at rfl)
  have c1 : ¬ ((x_isWithin x2 1 99) = 0) := m1
  by_cases m2 : m_isStation w x1 = 0
  · have c2 : (x_isStation (nI S) x1) = 0 := (g_stat V.1.g x1).trans m2
    rw [show m_qloop n th sst' w x1 x2 = (-1, 0, 2) by unfold m_qloop; rw [if_neg m1, if_pos m2]; rfl]
    have FA : ∀ x, (x < 282 ∨ 324 < x) → g0[x]? = g0[x]? := fun x _ => rfl
    have TA := P.2.2.1
    have K9 : kA g0 [(0, .inl (9, [.ref 1, .ref 3, .ref 4, .ref 29, .ref 281, .ref 325, .ref 343, .ref 327, .int sst])), (4, .inl (7, [.ref 343, .int mi, .int shu, .int bus, .ref 5, .ref 6, .ref 7, .ref 8, .ref 9, .ref 10, .ref 11, .ref 12, .ref 13, .ref 14, .ref 15, .int lks, .ref 16, .ref 17, .ref 20])), (5, .inr (.inl (0, rk))), (7, .inr (.inl (0, ph))), (281, .inl (1, [.ref 282, .ref 307, .ref 323, .ref 324])), (343, .inl (2, [.int (nI S), .ref 344, .ref 345, .ref 346, .ref 347, .int (nI n), .ref 348, .ref 349, .ref 350, .ref 351, .ref 352, .ref 353, .ref 354, .int cel, .ref 355, .ref 356, .ref 357, .ref 358])), (346, .inr (.inl (0, tra))), (351, .inr (.inl (0, tto)))] := ⟨(FA 0 (by decide)).trans C0, (FA 4 (by decide)).trans CS.1, (FA 5 (by decide)).trans CS.2.1, (FA 7 (by decide)).trans CS.2.2.2.1, P.2.2.2, (FA 343 (by decide)).trans CL.1, (FA 346 (by decide)).trans CL.2.2.1, (FA 351 (by decide)).trans CL.2.2.2.2.2.2.1, trivial⟩
    have K : KN g0 [(0, .inl (9, [.ref 1, .ref 3, .ref 4, .ref 29, .ref 281, .ref 325, .ref 343, .ref 327, .int sst])), (4, .inl (7, [.ref 343, .int mi, .int shu, .int bus, .ref 5, .ref 6, .ref 7, .ref 8, .ref 9, .ref 10, .ref 11, .ref 12, .ref 13, .ref 14, .ref 15, .int lks, .ref 16, .ref 17, .ref 20])), (5, .inr (.inl (0, rk))), (7, .inr (.inl (0, ph))), (281, .inl (1, [.ref 282, .ref 307, .ref 323, .ref 324])), (343, .inl (2, [.int (nI S), .ref 344, .ref 345, .ref 346, .ref 347, .int (nI n), .ref 348, .ref 349, .ref 350, .ref 351, .ref 352, .ref 353, .ref 354, .int cel, .ref 355, .ref 356, .ref 357, .ref 358])), (346, .inr (.inl (0, tra))), (351, .inr (.inl (0, tto)))] g0 := K9.K
    show j_V jP d 147 0 [(0, .ref 0), (1, .int x1), (2, .int x2)] [] g0 _
    obtain ⟨lv, elv, L⟩ : ∃ lv, lv = [(0, .ref 0), (1, .int x1), (2, .int x2)] ∧ LK lv [(0, .ref 0), (1, .int x1), (2, .int x2)] := ⟨_, rfl, LK.rf⟩
    rw [← elv]
    clear elv
    refine j_V.ldL xbF5_M xbF5_0 rfl (i := 2) (kd := 0) (v := .int x2) (pcJ := 1) rfl L rfl rfl rfl ?_
    refine j_V.one xbF5_M xbF5_1 (by decide) (pcJ := 2) (stJ := [.int 1, .int x2]) rfl ?_
    refine j_V.one xbF5_M xbF5_2 (by decide) (pcJ := 4) (stJ := [.int 99, .int 1, .int x2]) rfl ?_
    refine j_V.cl xbF5_M xbF5_4 rfl (md := 2) (mj := 162) rfl (by decide) xbwisWi_M (As := [.int x2, .int 1, .int 99]) (rest := []) (jk_spl2 rfl rfl (Nat.le_of_ble_eq_true rfl) (Nat.le_of_ble_eq_true rfl)) (fun d => xbwisWi_ok (K.fi [] rfl rfl)) ?_
    rintro r hz ⟨rfl, ez⟩
    rw [ez]
    clear ez
    show j_V jP _ 147 7 lv [.int (x_isWithin x2 1 99)] g0 _
    refine j_V.ifc xbF5_M xbF5_7 (t := 16) rfl (fun c7_0 => ?_) (fun c7_0 => ?_)
    · replace c7_0 : ¬ ((x_isWithin x2 1 99) = 0) := jd_ne c7_0
      refine j_V.ldL xbF5_M xbF5_16 rfl (i := 0) (kd := 2) (v := .ref 0) (pcJ := 17) rfl L rfl rfl rfl ?_
      refine j_V.ldL xbF5_M xbF5_17 rfl (i := 1) (kd := 0) (v := .int x1) (pcJ := 18) rfl L rfl rfl rfl ?_
      refine j_V.cl xbF5_M xbF5_18 rfl (md := 3) (mj := 163) rfl (by decide) xb45_M (As := [.ref 0, .int x1]) (rest := []) (jk_spl3 (K.at rfl) rfl rfl rfl (Nat.le_of_ble_eq_true rfl) (Nat.le_of_ble_eq_true rfl)) (fun d => xb45_ok (K.fi [0, 343] rfl rfl)) ?_
      rintro r hz ⟨rfl, ez⟩
      rw [ez]
      clear ez
      show j_V jP _ 147 21 lv [.int (x_isStation (nI S) x1)] g0 _
      refine j_V.ifc xbF5_M xbF5_21 (t := 30) rfl (fun c21_0 => ?_) (fun c21_0 => ?_)
      · replace c21_0 : ¬ ((x_isStation (nI S) x1) = 0) := jd_ne c21_0
        exact absurd c2 c21_0
      · replace c21_0 : (x_isStation (nI S) x1) = 0 := jd_nen c21_0
        refine j_V.ldL xbF5_M xbF5_24 rfl (i := 0) (kd := 2) (v := .ref 0) (pcJ := 25) rfl L rfl rfl rfl ?_
        refine j_V.one xbF5_M xbF5_25 (by decide) (pcJ := 26) (stJ := [.int 2, .ref 0]) rfl ?_
        refine j_V.cl xbF5_M xbF5_26 rfl (md := 3) (mj := 161) rfl (by decide) xb50_M (As := [.ref 0, .int 2]) (rest := []) (jk_spl3 (K.at rfl) rfl rfl rfl (Nat.le_of_ble_eq_true rfl) (Nat.le_of_ble_eq_true rfl)) (fun d => xb50_ok (K.fi [0] rfl rfl)) ?_
        rintro r h9 ⟨rfl, K9⟩
        have K : KN h9 [(0, .inl (9, [.ref 1, .ref 3, .ref 4, .ref 29, .ref 281, .ref 325, .ref 343, .ref 327, .int ((x_qrefuse sst 2).2)])), (4, .inl (7, [.ref 343, .int mi, .int shu, .int bus, .ref 5, .ref 6, .ref 7, .ref 8, .ref 9, .ref 10, .ref 11, .ref 12, .ref 13, .ref 14, .ref 15, .int lks, .ref 16, .ref 17, .ref 20])), (5, .inr (.inl (0, rk))), (7, .inr (.inl (0, ph))), (281, .inl (1, [.ref 282, .ref 307, .ref 323, .ref 324])), (343, .inl (2, [.int (nI S), .ref 344, .ref 345, .ref 346, .ref 347, .int (nI n), .ref 348, .ref 349, .ref 350, .ref 351, .ref 352, .ref 353, .ref 354, .int cel, .ref 355, .ref 356, .ref 357, .ref 358])), (346, .inr (.inl (0, tra))), (351, .inr (.inl (0, tto)))] g0 := K.mg K9 rfl rfl
        clear K9
        show j_V jP _ 147 29 lv [.int ((x_qrefuse sst 2).1)] h9 _
        refine j_V.ri xbF5_M xbF5_29 ?_
        exact fqP.yes R0 FA TA (fun x g => KN.off K9 K (lkn (fun z => g z.symm) (lke (lke (lke (lke (lke (lke (lke rfl))))))))) (K.at rfl)
    · replace c7_0 : (x_isWithin x2 1 99) = 0 := jd_nen c7_0
      exact absurd c7_0 c1
  have c2 : ¬ ((x_isStation (nI S) x1) = 0) := fun z => m2 ((g_stat V.1.g x1).symm.trans z)
  obtain ⟨s, hs, rfl⟩ := (stat_n V.1.g).mp m2
  have hS7 := V.1.S7
  have hw := V.1.St (s := s) (by omega)
  have et : gA tra (nI s) = nI (mN w s) := by rw [gA_n (by omega), Y.ptra hs]; exact hw.1
  have em : m_st w (nI s) 1 = nI (mN w s) := by rw [m_st1 (by omega)]; exact hw.1
  by_cases m3 : mN w s = 3
  · have c3 : ¬ ((gA tra (nI s)) < 3) := by rw [et, m3]; decide
    have m3 : m_st w (nI s) 1 = 3 := by rw [em, m3]; rfl
    rw [show m_qloop n th sst' w (nI s) x2 = (-1, 0, 3) by unfold m_qloop; rw [if_neg m1, if_neg m2, if_pos m3]; rfl]
    have FA : ∀ x, (x < 282 ∨ 324 < x) → g0[x]? = g0[x]? := fun x _ => rfl
    have TA := P.2.2.1
    have K9 : kA g0 [(0, .inl (9, [.ref 1, .ref 3, .ref 4, .ref 29, .ref 281, .ref 325, .ref 343, .ref 327, .int sst])), (4, .inl (7, [.ref 343, .int mi, .int shu, .int bus, .ref 5, .ref 6, .ref 7, .ref 8, .ref 9, .ref 10, .ref 11, .ref 12, .ref 13, .ref 14, .ref 15, .int lks, .ref 16, .ref 17, .ref 20])), (5, .inr (.inl (0, rk))), (7, .inr (.inl (0, ph))), (281, .inl (1, [.ref 282, .ref 307, .ref 323, .ref 324])), (343, .inl (2, [.int (nI S), .ref 344, .ref 345, .ref 346, .ref 347, .int (nI n), .ref 348, .ref 349, .ref 350, .ref 351, .ref 352, .ref 353, .ref 354, .int cel, .ref 355, .ref 356, .ref 357, .ref 358])), (346, .inr (.inl (0, tra))), (351, .inr (.inl (0, tto)))] := ⟨(FA 0 (by decide)).trans C0, (FA 4 (by decide)).trans CS.1, (FA 5 (by decide)).trans CS.2.1, (FA 7 (by decide)).trans CS.2.2.2.1, P.2.2.2, (FA 343 (by decide)).trans CL.1, (FA 346 (by decide)).trans CL.2.2.1, (FA 351 (by decide)).trans CL.2.2.2.2.2.2.1, trivial⟩
    have K : KN g0 [(0, .inl (9, [.ref 1, .ref 3, .ref 4, .ref 29, .ref 281, .ref 325, .ref 343, .ref 327, .int sst])), (4, .inl (7, [.ref 343, .int mi, .int shu, .int bus, .ref 5, .ref 6, .ref 7, .ref 8, .ref 9, .ref 10, .ref 11, .ref 12, .ref 13, .ref 14, .ref 15, .int lks, .ref 16, .ref 17, .ref 20])), (5, .inr (.inl (0, rk))), (7, .inr (.inl (0, ph))), (281, .inl (1, [.ref 282, .ref 307, .ref 323, .ref 324])), (343, .inl (2, [.int (nI S), .ref 344, .ref 345, .ref 346, .ref 347, .int (nI n), .ref 348, .ref 349, .ref 350, .ref 351, .ref 352, .ref 353, .ref 354, .int cel, .ref 355, .ref 356, .ref 357, .ref 358])), (346, .inr (.inl (0, tra))), (351, .inr (.inl (0, tto)))] g0 := K9.K
    show j_V jP d 147 0 [(0, .ref 0), (1, .int (nI s)), (2, .int x2)] [] g0 _
    obtain ⟨lv, elv, L⟩ : ∃ lv, lv = [(0, .ref 0), (1, .int (nI s)), (2, .int x2)] ∧ LK lv [(0, .ref 0), (1, .int (nI s)), (2, .int x2)] := ⟨_, rfl, LK.rf⟩
    rw [← elv]
    clear elv
    refine j_V.ldL xbF5_M xbF5_0 rfl (i := 2) (kd := 0) (v := .int x2) (pcJ := 1) rfl L rfl rfl rfl ?_
    refine j_V.one xbF5_M xbF5_1 (by decide) (pcJ := 2) (stJ := [.int 1, .int x2]) rfl ?_
    refine j_V.one xbF5_M xbF5_2 (by decide) (pcJ := 4) (stJ := [.int 99, .int 1, .int x2]) rfl ?_
    refine j_V.cl xbF5_M xbF5_4 rfl (md := 2) (mj := 162) rfl (by decide) xbwisWi_M (As := [.int x2, .int 1, .int 99]) (rest := []) (jk_spl2 rfl rfl (Nat.le_of_ble_eq_true rfl) (Nat.le_of_ble_eq_true rfl)) (fun d => xbwisWi_ok (K.fi [] rfl rfl)) ?_
    rintro r hz ⟨rfl, ez⟩
    rw [ez]
    clear ez
    show j_V jP _ 147 7 lv [.int (x_isWithin x2 1 99)] g0 _
    refine j_V.ifc xbF5_M xbF5_7 (t := 16) rfl (fun c7_0 => ?_) (fun c7_0 => ?_)
    · replace c7_0 : ¬ ((x_isWithin x2 1 99) = 0) := jd_ne c7_0
      refine j_V.ldL xbF5_M xbF5_16 rfl (i := 0) (kd := 2) (v := .ref 0) (pcJ := 17) rfl L rfl rfl rfl ?_
      refine j_V.ldL xbF5_M xbF5_17 rfl (i := 1) (kd := 0) (v := .int (nI s)) (pcJ := 18) rfl L rfl rfl rfl ?_
      refine j_V.cl xbF5_M xbF5_18 rfl (md := 3) (mj := 163) rfl (by decide) xb45_M (As := [.ref 0, .int (nI s)]) (rest := []) (jk_spl3 (K.at rfl) rfl rfl rfl (Nat.le_of_ble_eq_true rfl) (Nat.le_of_ble_eq_true rfl)) (fun d => xb45_ok (K.fi [0, 343] rfl rfl)) ?_
      rintro r hz ⟨rfl, ez⟩
      rw [ez]
      clear ez
      show j_V jP _ 147 21 lv [.int (x_isStation (nI S) (nI s))] g0 _
      refine j_V.ifc xbF5_M xbF5_21 (t := 30) rfl (fun c21_0 => ?_) (fun c21_0 => ?_)
      · replace c21_0 : ¬ ((x_isStation (nI S) (nI s)) = 0) := jd_ne c21_0
        refine j_V.ldL xbF5_M xbF5_30 rfl (i := 0) (kd := 2) (v := .ref 0) (pcJ := 31) rfl L rfl rfl rfl ?_
        refine j_V.getK xbF5_M xbF5_31 (ci := 9) (j := 6) rfl K rfl rfl ?_
        refine j_V.getK xbF5_M xbF5_34 (ci := 2) (j := 3) rfl K rfl rfl ?_
        refine j_V.ldL xbF5_M xbF5_37 rfl (i := 1) (kd := 0) (v := .int (nI s)) (pcJ := 38) rfl L rfl rfl rfl ?_
        refine j_V.iaA xbF5_M xbF5_38 K rfl ?_
        refine j_V.one xbF5_M xbF5_39 (by decide) (pcJ := 40) (stJ := [.int 3, .int (gA tra (nI s))]) rfl ?_
        refine j_V.icmp xbF5_M xbF5_40 (t := 49) rfl (fun c40_0 => ?_) (fun c40_0 => ?_)
        · replace c40_0 : (gA tra (nI s)) < 3 := jd_lt c40_0
          exact absurd c40_0 c3
        · replace c40_0 : ¬ ((gA tra (nI s)) < 3) := jd_ltn c40_0
          refine j_V.ldL xbF5_M xbF5_43 rfl (i := 0) (kd := 2) (v := .ref 0) (pcJ := 44) rfl L rfl rfl rfl ?_
          refine j_V.one xbF5_M xbF5_44 (by decide) (pcJ := 45) (stJ := [.int 3, .ref 0]) rfl ?_
          refine j_V.cl xbF5_M xbF5_45 rfl (md := 3) (mj := 161) rfl (by decide) xb50_M (As := [.ref 0, .int 3]) (rest := []) (jk_spl3 (K.at rfl) rfl rfl rfl (Nat.le_of_ble_eq_true rfl) (Nat.le_of_ble_eq_true rfl)) (fun d => xb50_ok (K.fi [0] rfl rfl)) ?_
          rintro r h9 ⟨rfl, K9⟩
          have K : KN h9 [(0, .inl (9, [.ref 1, .ref 3, .ref 4, .ref 29, .ref 281, .ref 325, .ref 343, .ref 327, .int ((x_qrefuse sst 3).2)])), (4, .inl (7, [.ref 343, .int mi, .int shu, .int bus, .ref 5, .ref 6, .ref 7, .ref 8, .ref 9, .ref 10, .ref 11, .ref 12, .ref 13, .ref 14, .ref 15, .int lks, .ref 16, .ref 17, .ref 20])), (5, .inr (.inl (0, rk))), (7, .inr (.inl (0, ph))), (281, .inl (1, [.ref 282, .ref 307, .ref 323, .ref 324])), (343, .inl (2, [.int (nI S), .ref 344, .ref 345, .ref 346, .ref 347, .int (nI n), .ref 348, .ref 349, .ref 350, .ref 351, .ref 352, .ref 353, .ref 354, .int cel, .ref 355, .ref 356, .ref 357, .ref 358])), (346, .inr (.inl (0, tra))), (351, .inr (.inl (0, tto)))] g0 := K.mg K9 rfl rfl
          clear K9
          show j_V jP _ 147 48 lv [.int ((x_qrefuse sst 3).1)] h9 _
          refine j_V.ri xbF5_M xbF5_48 ?_
          exact fqP.yes R0 FA TA (fun x g => KN.off K9 K (lkn (fun z => g z.symm) (lke (lke (lke (lke (lke (lke (lke rfl))))))))) (K.at rfl)
      · replace c21_0 : (x_isStation (nI S) (nI s)) = 0 := jd_nen c21_0
        exact absurd c21_0 c2
    · replace c7_0 : (x_isWithin x2 1 99) = 0 := jd_nen c7_0
      exact absurd c7_0 c1
  have hm3 : mN w s < 3 := by have := hw.2.1; omega
  have c3 : (gA tra (nI s)) < 3 := by rw [et]; exact nI_lt (a := mN w s) (b := 3) hm3 (by omega)
  have m3 : ¬ m_st w (nI s) 1 = 3 := by rw [em]; exact fun z => m3 ((nI_eq (b := 3) (by omega) (by decide)).mp z)
  have FA : ∀ x, (x < 282 ∨ 324 < x) → g0[x]? = g0[x]? := fun x _ => rfl
  have TA := P.2.2.1
  have K9 : kA g0 [(0, .inl (9, [.ref 1, .ref 3, .ref 4, .ref 29, .ref 281, .ref 325, .ref 343, .ref 327, .int sst])), (4, .inl (7, [.ref 343, .int mi, .int shu, .int bus, .ref 5, .ref 6, .ref 7, .ref 8, .ref 9, .ref 10, .ref 11, .ref 12, .ref 13, .ref 14, .ref 15, .int lks, .ref 16, .ref 17, .ref 20])), (5, .inr (.inl (0, rk))), (7, .inr (.inl (0, ph))), (281, .inl (1, [.ref 282, .ref 307, .ref 323, .ref 324])), (343, .inl (2, [.int (nI S), .ref 344, .ref 345, .ref 346, .ref 347, .int (nI n), .ref 348, .ref 349, .ref 350, .ref 351, .ref 352, .ref 353, .ref 354, .int cel, .ref 355, .ref 356, .ref 357, .ref 358])), (346, .inr (.inl (0, tra))), (351, .inr (.inl (0, tto)))] := ⟨(FA 0 (by decide)).trans C0, (FA 4 (by decide)).trans CS.1, (FA 5 (by decide)).trans CS.2.1, (FA 7 (by decide)).trans CS.2.2.2.1, P.2.2.2, (FA 343 (by decide)).trans CL.1, (FA 346 (by decide)).trans CL.2.2.1, (FA 351 (by decide)).trans CL.2.2.2.2.2.2.1, trivial⟩
  have K : KN g0 [(0, .inl (9, [.ref 1, .ref 3, .ref 4, .ref 29, .ref 281, .ref 325, .ref 343, .ref 327, .int sst])), (4, .inl (7, [.ref 343, .int mi, .int shu, .int bus, .ref 5, .ref 6, .ref 7, .ref 8, .ref 9, .ref 10, .ref 11, .ref 12, .ref 13, .ref 14, .ref 15, .int lks, .ref 16, .ref 17, .ref 20])), (5, .inr (.inl (0, rk))), (7, .inr (.inl (0, ph))), (281, .inl (1, [.ref 282, .ref 307, .ref 323, .ref 324])), (343, .inl (2, [.int (nI S), .ref 344, .ref 345, .ref 346, .ref 347, .int (nI n), .ref 348, .ref 349, .ref 350, .ref 351, .ref 352, .ref 353, .ref 354, .int cel, .ref 355, .ref 356, .ref 357, .ref 358])), (346, .inr (.inl (0, tra))), (351, .inr (.inl (0, tto)))] g0 := K9.K
  show j_V jP d 147 0 [(0, .ref 0), (1, .int (nI s)), (2, .int x2)] [] g0 _
  obtain ⟨lv, elv, L⟩ : ∃ lv, lv = [(0, .ref 0), (1, .int (nI s)), (2, .int x2)] ∧ LK lv [(0, .ref 0), (1, .int (nI s)), (2, .int x2)] := ⟨_, rfl, LK.rf⟩
  rw [← elv]
  clear elv
  refine j_V.ldL xbF5_M xbF5_0 rfl (i := 2) (kd := 0) (v := .int x2) (pcJ := 1) rfl L rfl rfl rfl ?_
  refine j_V.one xbF5_M xbF5_1 (by decide) (pcJ := 2) (stJ := [.int 1, .int x2]) rfl ?_
  refine j_V.one xbF5_M xbF5_2 (by decide) (pcJ := 4) (stJ := [.int 99, .int 1, .int x2]) rfl ?_
  refine j_V.cl xbF5_M xbF5_4 rfl (md := 2) (mj := 162) rfl (by decide) xbwisWi_M (As := [.int x2, .int 1, .int 99]) (rest := []) (jk_spl2 rfl rfl (Nat.le_of_ble_eq_true rfl) (Nat.le_of_ble_eq_true rfl)) (fun d => xbwisWi_ok (K.fi [] rfl rfl)) ?_
  rintro r hz ⟨rfl, ez⟩
  rw [ez]
  clear ez
  show j_V jP _ 147 7 lv [.int (x_isWithin x2 1 99)] g0 _
  refine j_V.ifc xbF5_M xbF5_7 (t := 16) rfl (fun c7_0 => ?_) (fun c7_0 => ?_)
  · replace c7_0 : ¬ ((x_isWithin x2 1 99) = 0) := jd_ne c7_0
    refine j_V.ldL xbF5_M xbF5_16 rfl (i := 0) (kd := 2) (v := .ref 0) (pcJ := 17) rfl L rfl rfl rfl ?_
    refine j_V.ldL xbF5_M xbF5_17 rfl (i := 1) (kd := 0) (v := .int (nI s)) (pcJ := 18) rfl L rfl rfl rfl ?_
    refine j_V.cl xbF5_M xbF5_18 rfl (md := 3) (mj := 163) rfl (by decide) xb45_M (As := [.ref 0, .int (nI s)]) (rest := []) (jk_spl3 (K.at rfl) rfl rfl rfl (Nat.le_of_ble_eq_true rfl) (Nat.le_of_ble_eq_true rfl)) (fun d => xb45_ok (K.fi [0, 343] rfl rfl)) ?_
    rintro r hz ⟨rfl, ez⟩
    rw [ez]
    clear ez
    show j_V jP _ 147 21 lv [.int (x_isStation (nI S) (nI s))] g0 _
    refine j_V.ifc xbF5_M xbF5_21 (t := 30) rfl (fun c21_0 => ?_) (fun c21_0 => ?_)
    · replace c21_0 : ¬ ((x_isStation (nI S) (nI s)) = 0) := jd_ne c21_0
      refine j_V.ldL xbF5_M xbF5_30 rfl (i := 0) (kd := 2) (v := .ref 0) (pcJ := 31) rfl L rfl rfl rfl ?_
      refine j_V.getK xbF5_M xbF5_31 (ci := 9) (j := 6) rfl K rfl rfl ?_
      refine j_V.getK xbF5_M xbF5_34 (ci := 2) (j := 3) rfl K rfl rfl ?_
      refine j_V.ldL xbF5_M xbF5_37 rfl (i := 1) (kd := 0) (v := .int (nI s)) (pcJ := 38) rfl L rfl rfl rfl ?_
      refine j_V.iaA xbF5_M xbF5_38 K rfl ?_
      refine j_V.one xbF5_M xbF5_39 (by decide) (pcJ := 40) (stJ := [.int 3, .int (gA tra (nI s))]) rfl ?_
      refine j_V.icmp xbF5_M xbF5_40 (t := 49) rfl (fun c40_0 => ?_) (fun c40_0 => ?_)
      · replace c40_0 : (gA tra (nI s)) < 3 := jd_lt c40_0
        refine j_V.ldL xbF5_M xbF5_49 rfl (i := 0) (kd := 2) (v := .ref 0) (pcJ := 50) rfl L rfl rfl rfl ?_
        refine j_V.ldL xbF5_M xbF5_50 rfl (i := 0) (kd := 2) (v := .ref 0) (pcJ := 51) rfl L rfl rfl rfl ?_
        refine j_V.getK xbF5_M xbF5_51 (ci := 9) (j := 4) rfl K rfl rfl ?_
        refine j_V.ldL xbF5_M xbF5_54 rfl (i := 0) (kd := 2) (v := .ref 0) (pcJ := 55) rfl L rfl rfl rfl ?_
        refine j_V.getK xbF5_M xbF5_55 (ci := 9) (j := 2) rfl K rfl rfl ?_
        refine j_V.cl xbF5_M xbF5_58 rfl (md := 3) (mj := 7) rfl (by decide) fp0_M (As := [.ref 281, .ref 4]) (rest := [.ref 0]) (jk_spl3 (K.at rfl) rfl rfl rfl (Nat.le_of_ble_eq_true rfl) (Nat.le_of_ble_eq_true rfl)) (fun d => hp_now_343 P hm hb) ?_
        rintro r h29 ⟨rfl, TA, F9⟩
        replace FA : ∀ x, (x < 282 ∨ 324 < x) → h29[x]? = g0[x]? := fun x g => (F9 x (by omega)).trans (FA x g)
        replace P : hF 343 n S w h29 := P.fr (fun x g => F9 x (by omega)) TA
        replace Z : hZ9 307 h29 := Z.fr (fun x _ _ => F9 x (by omega))
        have K9 : kA h29 [(0, .inl (9, [.ref 1, .ref 3, .ref 4, .ref 29, .ref 281, .ref 325, .ref 343, .ref 327, .int sst])), (4, .inl (7, [.ref 343, .int mi, .int shu, .int bus, .ref 5, .ref 6, .ref 7, .ref 8, .ref 9, .ref 10, .ref 11, .ref 12, .ref 13, .ref 14, .ref 15, .int lks, .ref 16, .ref 17, .ref 20])), (5, .inr (.inl (0, rk))), (7, .inr (.inl (0, ph))), (281, .inl (1, [.ref 282, .ref 307, .ref 323, .ref 324])), (343, .inl (2, [.int (nI S), .ref 344, .ref 345, .ref 346, .ref 347, .int (nI n), .ref 348, .ref 349, .ref 350, .ref 351, .ref 352, .ref 353, .ref 354, .int cel, .ref 355, .ref 356, .ref 357, .ref 358])), (346, .inr (.inl (0, tra))), (351, .inr (.inl (0, tto)))] := ⟨(FA 0 (by decide)).trans C0, (FA 4 (by decide)).trans CS.1, (FA 5 (by decide)).trans CS.2.1, (FA 7 (by decide)).trans CS.2.2.2.1, P.2.2.2, (FA 343 (by decide)).trans CL.1, (FA 346 (by decide)).trans CL.2.2.1, (FA 351 (by decide)).trans CL.2.2.2.2.2.2.1, trivial⟩
        have K : KN h29 [(0, .inl (9, [.ref 1, .ref 3, .ref 4, .ref 29, .ref 281, .ref 325, .ref 343, .ref 327, .int sst])), (4, .inl (7, [.ref 343, .int mi, .int shu, .int bus, .ref 5, .ref 6, .ref 7, .ref 8, .ref 9, .ref 10, .ref 11, .ref 12, .ref 13, .ref 14, .ref 15, .int lks, .ref 16, .ref 17, .ref 20])), (5, .inr (.inl (0, rk))), (7, .inr (.inl (0, ph))), (281, .inl (1, [.ref 282, .ref 307, .ref 323, .ref 324])), (343, .inl (2, [.int (nI S), .ref 344, .ref 345, .ref 346, .ref 347, .int (nI n), .ref 348, .ref 349, .ref 350, .ref 351, .ref 352, .ref 353, .ref 354, .int cel, .ref 355, .ref 356, .ref 357, .ref 358])), (346, .inr (.inl (0, tra))), (351, .inr (.inl (0, tto)))] h29 := K9.K
        show j_V jP _ 147 61 lv [.int (pE n w), .ref 0] h29 _
        refine j_V.ldL xbF5_M xbF5_61 rfl (i := 0) (kd := 2) (v := .ref 0) (pcJ := 62) rfl L rfl rfl rfl ?_
        refine j_V.getK xbF5_M xbF5_62 (ci := 9) (j := 4) rfl K rfl rfl ?_
        refine j_V.ldL xbF5_M xbF5_65 rfl (i := 0) (kd := 2) (v := .ref 0) (pcJ := 66) rfl L rfl rfl rfl ?_
        refine j_V.getK xbF5_M xbF5_66 (ci := 9) (j := 2) rfl K rfl rfl ?_
        refine j_V.ldL xbF5_M xbF5_69 rfl (i := 1) (kd := 0) (v := .int (nI s)) (pcJ := 70) rfl L rfl rfl rfl ?_
        refine j_V.ldL xbF5_M xbF5_70 rfl (i := 2) (kd := 0) (v := .int x2) (pcJ := 71) rfl L rfl rfl rfl ?_
        refine j_V.cl xbF5_M xbF5_71 rfl (md := 3) (mj := 12) rfl (by decide) fp6_M (As := [.ref 281, .ref 4, .int (nI s), .int x2]) (rest := [.int (pE n w), .ref 0]) (jk_spl3 (K.at rfl) rfl rfl rfl (Nat.le_of_ble_eq_true rfl) (Nat.le_of_ble_eq_true rfl)) (fun d => hp_track_343 P hm hs hm3 Z hb) ?_
        rintro r h30 ⟨rfl, TA, Z, F9⟩
        replace FA : ∀ x, (x < 282 ∨ 324 < x) → h30[x]? = g0[x]? := fun x g => (F9 x (by omega)).trans (FA x g)
        replace P : hF 343 n S w h30 := ⟨P.1.fr (fun x _ _ => F9 x (by omega)), P.2.1.fr (fun x _ _ => F9 x (by omega)), TA, (F9 281 (by decide)).trans P.2.2.2⟩
        have K9 : kA h30 [(0, .inl (9, [.ref 1, .ref 3, .ref 4, .ref 29, .ref 281, .ref 325, .ref 343, .ref 327, .int sst])), (4, .inl (7, [.ref 343, .int mi, .int shu, .int bus, .ref 5, .ref 6, .ref 7, .ref 8, .ref 9, .ref 10, .ref 11, .ref 12, .ref 13, .ref 14, .ref 15, .int lks, .ref 16, .ref 17, .ref 20])), (5, .inr (.inl (0, rk))), (7, .inr (.inl (0, ph))), (281, .inl (1, [.ref 282, .ref 307, .ref 323, .ref 324])), (343, .inl (2, [.int (nI S), .ref 344, .ref 345, .ref 346, .ref 347, .int (nI n), .ref 348, .ref 349, .ref 350, .ref 351, .ref 352, .ref 353, .ref 354, .int cel, .ref 355, .ref 356, .ref 357, .ref 358])), (346, .inr (.inl (0, tra))), (351, .inr (.inl (0, tto)))] := ⟨(FA 0 (by decide)).trans C0, (FA 4 (by decide)).trans CS.1, (FA 5 (by decide)).trans CS.2.1, (FA 7 (by decide)).trans CS.2.2.2.1, P.2.2.2, (FA 343 (by decide)).trans CL.1, (FA 346 (by decide)).trans CL.2.2.1, (FA 351 (by decide)).trans CL.2.2.2.2.2.2.1, trivial⟩
        have K : KN h30 [(0, .inl (9, [.ref 1, .ref 3, .ref 4, .ref 29, .ref 281, .ref 325, .ref 343, .ref 327, .int sst])), (4, .inl (7, [.ref 343, .int mi, .int shu, .int bus, .ref 5, .ref 6, .ref 7, .ref 8, .ref 9, .ref 10, .ref 11, .ref 12, .ref 13, .ref 14, .ref 15, .int lks, .ref 16, .ref 17, .ref 20])), (5, .inr (.inl (0, rk))), (7, .inr (.inl (0, ph))), (281, .inl (1, [.ref 282, .ref 307, .ref 323, .ref 324])), (343, .inl (2, [.int (nI S), .ref 344, .ref 345, .ref 346, .ref 347, .int (nI n), .ref 348, .ref 349, .ref 350, .ref 351, .ref 352, .ref 353, .ref 354, .int cel, .ref 355, .ref 356, .ref 357, .ref 358])), (346, .inr (.inl (0, tra))), (351, .inr (.inl (0, tto)))] h30 := K9.K
        show j_V jP _ 147 74 lv [.int (pE n (m_addTrack w (nI s) x2)), .int (pE n w), .ref 0] h30 _
        refine j_V.one xbF5_M xbF5_74 (by decide) (pcJ := 75) (stJ := [.int ((pE n w) - (pE n (m_addTrack w (nI s) x2))), .ref 0]) rfl ?_
        refine j_V.cl xbF5_M xbF5_75 rfl (md := 3) (mj := 159) rfl (by decide) xb49_M (As := [.ref 0, .int ((pE n w) - (pE n (m_addTrack w (nI s) x2)))]) (rest := []) (jk_spl3 (K.at rfl) rfl rfl rfl (Nat.le_of_ble_eq_true rfl) (Nat.le_of_ble_eq_true rfl)) (fun d => xb49_ok (K.fi [0] rfl rfl)) ?_
        rintro r h9 ⟨rfl, K9⟩
        have K : KN h9 [(0, .inl (9, [.ref 1, .ref 3, .ref 4, .ref 29, .ref 281, .ref 325, .ref 343, .ref 327, .int ((x_qanswer sst ((pE n w) - (pE n (m_addTrack w (nI s) x2)))).2)])), (4, .inl (7, [.ref 343, .int mi, .int shu, .int bus, .ref 5, .ref 6, .ref 7, .ref 8, .ref 9, .ref 10, .ref 11, .ref 12, .ref 13, .ref 14, .ref 15, .int lks, .ref 16, .ref 17, .ref 20])), (5, .inr (.inl (0, rk))), (7, .inr (.inl (0, ph))), (281, .inl (1, [.ref 282, .ref 307, .ref 323, .ref 324])), (343, .inl (2, [.int (nI S), .ref 344, .ref 345, .ref 346, .ref 347, .int (nI n), .ref 348, .ref 349, .ref 350, .ref 351, .ref 352, .ref 353, .ref 354, .int cel, .ref 355, .ref 356, .ref 357, .ref 358])), (346, .inr (.inl (0, tra))), (351, .inr (.inl (0, tto)))] h30 := K.mg K9 rfl rfl
        clear K9
        show j_V jP _ 147 78 lv [.int ((x_qanswer sst ((pE n w) - (pE n (m_addTrack w (nI s) x2)))).1)] h9 _
        refine j_V.ri xbF5_M xbF5_78 ?_
        rw [show m_qloop n th sst' w (nI s) x2 = (((pE n w) - (pE n (m_addTrack w (nI s) x2))), 0, 0) by unfold m_qloop; rw [if_neg m1, if_neg m2, if_neg m3]; rfl]
        exact fqP.yes R0 FA TA (fun x g => KN.off K9 K (lkn (fun z => g z.symm) (lke (lke (lke (lke (lke (lke (lke rfl))))))))) (K.at rfl)
      · replace c40_0 : ¬ ((gA tra (nI s)) < 3) := jd_ltn c40_0
        exact absurd c3 c40_0
    · replace c21_0 : (x_isStation (nI S) (nI s)) = 0 := jd_nen c21_0
      exact absurd c21_0 c2
  · replace c7_0 : (x_isWithin x2 1 99) = 0 := jd_nen c7_0
    exact absurd c7_0 c1

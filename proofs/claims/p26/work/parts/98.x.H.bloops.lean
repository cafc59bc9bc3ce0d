/-! the class's forecasts with loops over the heap (layout 343): written by wip/px/gen_h9.py -/
set_option maxRecDepth 100000 in
theorem xbF6_M : j_meth jP 148 = some (yX9_build, cX9_build, 5, (some .int), 0, false, 9) := rfl
set_option maxRecDepth 100000 in
theorem xbF6_0 : j_code jP 148 0 = some (.iconst (-1)) := rfl
set_option maxRecDepth 100000 in
theorem xbF6_1 : j_code jP 148 1 = some (.istore_n 1) := rfl
set_option maxRecDepth 100000 in
theorem xbF6_2 : j_code jP 148 2 = some (.iconst (-1)) := rfl
set_option maxRecDepth 100000 in
theorem xbF6_3 : j_code jP 148 3 = some (.istore_n 2) := rfl
set_option maxRecDepth 100000 in
theorem xbF6_4 : j_code jP 148 4 = some (.iconst 0) := rfl
set_option maxRecDepth 100000 in
theorem xbF6_5 : j_code jP 148 5 = some (.istore_n 3) := rfl
set_option maxRecDepth 100000 in
theorem xbF6_6 : j_code jP 148 6 = some (.iload_n 3) := rfl
set_option maxRecDepth 100000 in
theorem xbF6_7 : j_code jP 148 7 = some (.aload_n 0) := rfl
set_option maxRecDepth 100000 in
theorem xbF6_8 : j_code jP 148 8 = some (.getfield 58) := rfl
set_option maxRecDepth 100000 in
theorem xbF6_11 : j_code jP 148 11 = some (.getfield 113) := rfl
set_option maxRecDepth 100000 in
theorem xbF6_14 : j_code jP 148 14 = some (.if_icmp .ge 54) := rfl
set_option maxRecDepth 100000 in
theorem xbF6_17 : j_code jP 148 17 = some (.aload_n 0) := rfl
set_option maxRecDepth 100000 in
theorem xbF6_18 : j_code jP 148 18 = some (.getfield 58) := rfl
set_option maxRecDepth 100000 in
theorem xbF6_21 : j_code jP 148 21 = some (.getfield 149) := rfl
set_option maxRecDepth 100000 in
theorem xbF6_24 : j_code jP 148 24 = some (.iload_n 3) := rfl
set_option maxRecDepth 100000 in
theorem xbF6_25 : j_code jP 148 25 = some (.iaload) := rfl
set_option maxRecDepth 100000 in
theorem xbF6_26 : j_code jP 148 26 = some (.iconst 3) := rfl
set_option maxRecDepth 100000 in
theorem xbF6_27 : j_code jP 148 27 = some (.if_icmp .ge 35) := rfl
set_option maxRecDepth 100000 in
theorem xbF6_30 : j_code jP 148 30 = some (.aload_n 0) := rfl
set_option maxRecDepth 100000 in
theorem xbF6_31 : j_code jP 148 31 = some (.getfield 44) := rfl
set_option maxRecDepth 100000 in
theorem xbF6_34 : j_code jP 148 34 = some (.aload_n 0) := rfl
set_option maxRecDepth 100000 in
theorem xbF6_35 : j_code jP 148 35 = some (.getfield 30) := rfl
set_option maxRecDepth 100000 in
theorem xbF6_38 : j_code jP 148 38 = some (.iload_n 3) := rfl
set_option maxRecDepth 100000 in
theorem xbF6_39 : j_code jP 148 39 = some (.bipush 99) := rfl
set_option maxRecDepth 100000 in
theorem xbF6_41 : j_code jP 148 41 = some (.invokevirtual 354) := rfl
set_option maxRecDepth 100000 in
theorem xbF6_44 : j_code jP 148 44 = some (.istore 4) := rfl
set_option maxRecDepth 100000 in
theorem xbF6_46 : j_code jP 148 46 = some (.iload_n 1) := rfl
set_option maxRecDepth 100000 in
theorem xbF6_47 : j_code jP 148 47 = some (.iconst (-1)) := rfl
set_option maxRecDepth 100000 in
theorem xbF6_48 : j_code jP 148 48 = some (.if_icmp .eq 9) := rfl
set_option maxRecDepth 100000 in
theorem xbF6_51 : j_code jP 148 51 = some (.iload 4) := rfl
set_option maxRecDepth 100000 in
theorem xbF6_53 : j_code jP 148 53 = some (.iload_n 2) := rfl
set_option maxRecDepth 100000 in
theorem xbF6_54 : j_code jP 148 54 = some (.if_icmp .ge 8) := rfl
set_option maxRecDepth 100000 in
theorem xbF6_57 : j_code jP 148 57 = some (.iload_n 3) := rfl
set_option maxRecDepth 100000 in
theorem xbF6_58 : j_code jP 148 58 = some (.istore_n 1) := rfl
set_option maxRecDepth 100000 in
theorem xbF6_59 : j_code jP 148 59 = some (.iload 4) := rfl
set_option maxRecDepth 100000 in
theorem xbF6_61 : j_code jP 148 61 = some (.istore_n 2) := rfl
set_option maxRecDepth 100000 in
theorem xbF6_62 : j_code jP 148 62 = some (.iinc 3 1) := rfl
set_option maxRecDepth 100000 in
theorem xbF6_65 : j_code jP 148 65 = some (.goto (-59)) := rfl
set_option maxRecDepth 100000 in
theorem xbF6_68 : j_code jP 148 68 = some (.iload_n 1) := rfl
set_option maxRecDepth 100000 in
theorem xbF6_69 : j_code jP 148 69 = some (.iconst (-1)) := rfl
set_option maxRecDepth 100000 in
theorem xbF6_70 : j_code jP 148 70 = some (.if_icmp .ne 11) := rfl
set_option maxRecDepth 100000 in
theorem xbF6_73 : j_code jP 148 73 = some (.aload_n 0) := rfl
set_option maxRecDepth 100000 in
theorem xbF6_74 : j_code jP 148 74 = some (.iconst 5) := rfl
set_option maxRecDepth 100000 in
theorem xbF6_75 : j_code jP 148 75 = some (.invokevirtual 84) := rfl
set_option maxRecDepth 100000 in
theorem xbF6_78 : j_code jP 148 78 = some (.goto 8) := rfl
set_option maxRecDepth 100000 in
theorem xbF6_81 : j_code jP 148 81 = some (.aload_n 0) := rfl
set_option maxRecDepth 100000 in
theorem xbF6_82 : j_code jP 148 82 = some (.iload_n 1) := rfl
set_option maxRecDepth 100000 in
theorem xbF6_83 : j_code jP 148 83 = some (.invokevirtual 104) := rfl
set_option maxRecDepth 100000 in
theorem xbF6_86 : j_code jP 148 86 = some (.ireturn) := rfl
set_option maxRecDepth 1000000 in
theorem hq_build_B {g0 : J_H} {n S m d : Nat} {w : List Int32} {sst th sst' : Int32} (R : hX 343 327 n S w sst g0) (Q : hT9 282 0 g0) (C281 : g0[281]? = some (.inl (1, [.ref 282, .ref 307, .ref 323, .ref 324]))) (hm : gN w 201 = nI m) (hm9 : m < 2 ^ 29) (Z : hZ9 307 g0) (hp : ∀ s, s < S → mN w s < 3 → pE n (m_addTrack w (nI s) 99) < 2147483647) : j_V jP d 148 0 (lv_args 0 [.ref 0]) [] g0 (fun rv h' => fqP 343 327 n S w (m_qbuild n th sst' w) rv g0 h') := by
  have R0 := R
  have C0 := R.1
  have P : hF 343 n S w g0 := ⟨R.2.1, R.2.2, Q, C281⟩
  have hb : m + 300 < 2 ^ 30 := by omega
  refine hX.opn R (fun mi shu bus lks rl pev rk sta ph sp ce du he ri us cm lf lkd row sea pms pmm pmt pst pwa prs prr pfa CS hl4 V cel run tra len siz frm tto lst slo wei fit way rid lon CL Y T hlY => ?_)
  have h5 := V.1.n5
  have hl : ∀ (f i : Nat) (b l v4 : Int32) (lv : J_L) (hc : J_H), i + f = S → LK lv [(0, .ref 0), (1, .int b), (2, .int l), (3, .int (nI i))] → ((b = (-1) ∧ v4 = 2147483647) ∨ (¬ b = (-1) ∧ l = v4)) → hF 343 n S w hc → hZ9 307 hc → (∀ x, (x < 282 ∨ 324 < x) → hc[x]? = g0[x]?) → j_V jP d 148 6 lv [] hc (fun rv h' => fqP 343 327 n S w (m_qbuild_l8 n th sst' w f i b v4) rv g0 h') := by
    intro f
    induction f with
    | zero =>
      intro i b l v4 lv hc hif L hb4 P Z FA
      have hSi : S = i := by omega
      have e0 : ¬ ((nI i) < (nI S)) := by rw [hSi]; exact fun z => absurd (Int32.lt_iff_toInt_lt.mp z) (Int.lt_irrefl _)
      have TA := P.2.2.1
      have K9 : kA hc [(0, .inl (9, [.ref 1, .ref 3, .ref 4, .ref 29, .ref 281, .ref 325, .ref 343, .ref 327, .int sst])), (4, .inl (7, [.ref 343, .int mi, .int shu, .int bus, .ref 5, .ref 6, .ref 7, .ref 8, .ref 9, .ref 10, .ref 11, .ref 12, .ref 13, .ref 14, .ref 15, .int lks, .ref 16, .ref 17, .ref 20])), (5, .inr (.inl (0, rk))), (7, .inr (.inl (0, ph))), (281, .inl (1, [.ref 282, .ref 307, .ref 323, .ref 324])), (343, .inl (2, [.int (nI S), .ref 344, .ref 345, .ref 346, .ref 347, .int (nI n), .ref 348, .ref 349, .ref 350, .ref 351, .ref 352, .ref 353, .ref 354, .int cel, .ref 355, .ref 356, .ref 357, .ref 358])), (346, .inr (.inl (0, tra))), (351, .inr (.inl (0, tto)))] := ⟨(FA 0 (by decide)).trans C0, (FA 4 (by decide)).trans CS.1, (FA 5 (by decide)).trans CS.2.1, (FA 7 (by decide)).trans CS.2.2.2.1, P.2.2.2, (FA 343 (by decide)).trans CL.1, (FA 346 (by decide)).trans CL.2.2.1, (FA 351 (by decide)).trans CL.2.2.2.2.2.2.1, trivial⟩
      have K : KN hc [(0, .inl (9, [.ref 1, .ref 3, .ref 4, .ref 29, .ref 281, .ref 325, .ref 343, .ref 327, .int sst])), (4, .inl (7, [.ref 343, .int mi, .int shu, .int bus, .ref 5, .ref 6, .ref 7, .ref 8, .ref 9, .ref 10, .ref 11, .ref 12, .ref 13, .ref 14, .ref 15, .int lks, .ref 16, .ref 17, .ref 20])), (5, .inr (.inl (0, rk))), (7, .inr (.inl (0, ph))), (281, .inl (1, [.ref 282, .ref 307, .ref 323, .ref 324])), (343, .inl (2, [.int (nI S), .ref 344, .ref 345, .ref 346, .ref 347, .int (nI n), .ref 348, .ref 349, .ref 350, .ref 351, .ref 352, .ref 353, .ref 354, .int cel, .ref 355, .ref 356, .ref 357, .ref 358])), (346, .inr (.inl (0, tra))), (351, .inr (.inl (0, tto)))] hc := K9.K
      refine j_V.ldL xbF6_M xbF6_6 rfl (i := 3) (kd := 0) (v := .int (nI i)) (pcJ := 7) rfl L rfl rfl rfl ?_
      refine j_V.ldL xbF6_M xbF6_7 rfl (i := 0) (kd := 2) (v := .ref 0) (pcJ := 8) rfl L rfl rfl rfl ?_
      refine j_V.getK xbF6_M xbF6_8 (ci := 9) (j := 6) rfl K rfl rfl ?_
      refine j_V.getK xbF6_M xbF6_11 (ci := 2) (j := 0) rfl K rfl rfl ?_
      refine j_V.icmp xbF6_M xbF6_14 (t := 68) rfl (fun c14_0 => ?_) (fun c14_0 => ?_)
      · replace c14_0 : ¬ ((nI i) < (nI S)) := jd_ge c14_0
        refine j_V.ldL xbF6_M xbF6_68 rfl (i := 1) (kd := 0) (v := .int b) (pcJ := 69) rfl L rfl rfl rfl ?_
        refine j_V.one xbF6_M xbF6_69 (by decide) (pcJ := 70) (stJ := [.int (-1), .int b]) rfl ?_
        refine j_V.icmp xbF6_M xbF6_70 (t := 81) rfl (fun c70_0 => ?_) (fun c70_0 => ?_)
        · replace c70_0 : ¬ (b = (-1)) := jd_ne c70_0
          refine j_V.ldL xbF6_M xbF6_81 rfl (i := 0) (kd := 2) (v := .ref 0) (pcJ := 82) rfl L rfl rfl rfl ?_
          refine j_V.ldL xbF6_M xbF6_82 rfl (i := 1) (kd := 0) (v := .int b) (pcJ := 83) rfl L rfl rfl rfl ?_
          refine j_V.cl xbF6_M xbF6_83 rfl (md := 3) (mj := 159) rfl (by decide) xb49_M (As := [.ref 0, .int b]) (rest := []) (jk_spl3 (K.at rfl) rfl rfl rfl (Nat.le_of_ble_eq_true rfl) (Nat.le_of_ble_eq_true rfl)) (fun d => xb49_ok (K.fi [0] rfl rfl)) ?_
          rintro r h9 ⟨rfl, K9⟩
          have K : KN h9 [(0, .inl (9, [.ref 1, .ref 3, .ref 4, .ref 29, .ref 281, .ref 325, .ref 343, .ref 327, .int ((x_qanswer sst b).2)])), (4, .inl (7, [.ref 343, .int mi, .int shu, .int bus, .ref 5, .ref 6, .ref 7, .ref 8, .ref 9, .ref 10, .ref 11, .ref 12, .ref 13, .ref 14, .ref 15, .int lks, .ref 16, .ref 17, .ref 20])), (5, .inr (.inl (0, rk))), (7, .inr (.inl (0, ph))), (281, .inl (1, [.ref 282, .ref 307, .ref 323, .ref 324])), (343, .inl (2, [.int (nI S), .ref 344, .ref 345, .ref 346, .ref 347, .int (nI n), .ref 348, .ref 349, .ref 350, .ref 351, .ref 352, .ref 353, .ref 354, .int cel, .ref 355, .ref 356, .ref 357, .ref 358])), (346, .inr (.inl (0, tra))), (351, .inr (.inl (0, tto)))] hc := K.mg K9 rfl rfl
          clear K9
          show j_V jP _ 148 86 lv [.int ((x_qanswer sst b).1)] h9 _
          refine j_V.ri xbF6_M xbF6_86 ?_
          rw [show m_qbuild_l8 n th sst' w 0 i b v4 = (b, 0, 0) by show (if b = (-1) then _ else _) = _; rw [if_neg c70_0]; rfl]
          exact fqP.yes R0 FA TA (fun x g => KN.off K9 K (lkn (fun z => g z.symm) (lke (lke (lke (lke (lke (lke (lke rfl))))))))) (K.at rfl)
        · replace c70_0 : b = (-1) := jd_nen c70_0
          refine j_V.ldL xbF6_M xbF6_73 rfl (i := 0) (kd := 2) (v := .ref 0) (pcJ := 74) rfl L rfl rfl rfl ?_
          refine j_V.one xbF6_M xbF6_74 (by decide) (pcJ := 75) (stJ := [.int 5, .ref 0]) rfl ?_
          refine j_V.cl xbF6_M xbF6_75 rfl (md := 3) (mj := 161) rfl (by decide) xb50_M (As := [.ref 0, .int 5]) (rest := []) (jk_spl3 (K.at rfl) rfl rfl rfl (Nat.le_of_ble_eq_true rfl) (Nat.le_of_ble_eq_true rfl)) (fun d => xb50_ok (K.fi [0] rfl rfl)) ?_
          rintro r h9 ⟨rfl, K9⟩
          have K : KN h9 [(0, .inl (9, [.ref 1, .ref 3, .ref 4, .ref 29, .ref 281, .ref 325, .ref 343, .ref 327, .int ((x_qrefuse sst 5).2)])), (4, .inl (7, [.ref 343, .int mi, .int shu, .int bus, .ref 5, .ref 6, .ref 7, .ref 8, .ref 9, .ref 10, .ref 11, .ref 12, .ref 13, .ref 14, .ref 15, .int lks, .ref 16, .ref 17, .ref 20])), (5, .inr (.inl (0, rk))), (7, .inr (.inl (0, ph))), (281, .inl (1, [.ref 282, .ref 307, .ref 323, .ref 324])), (343, .inl (2, [.int (nI S), .ref 344, .ref 345, .ref 346, .ref 347, .int (nI n), .ref 348, .ref 349, .ref 350, .ref 351, .ref 352, .ref 353, .ref 354, .int cel, .ref 355, .ref 356, .ref 357, .ref 358])), (346, .inr (.inl (0, tra))), (351, .inr (.inl (0, tto)))] hc := K.mg K9 rfl rfl
          clear K9
          show j_V jP _ 148 78 lv [.int ((x_qrefuse sst 5).1)] h9 _
          refine j_V.gto xbF6_M xbF6_78 (t := 86) rfl ?_
          refine j_V.ri xbF6_M xbF6_86 ?_
          rw [show m_qbuild_l8 n th sst' w 0 i b v4 = (-1, 0, 5) by show (if b = (-1) then _ else _) = _; rw [if_pos c70_0]; rfl]
          exact fqP.yes R0 FA TA (fun x g => KN.off K9 K (lkn (fun z => g z.symm) (lke (lke (lke (lke (lke (lke (lke rfl))))))))) (K.at rfl)
      · replace c14_0 : (nI i) < (nI S) := jd_gen c14_0
        exact absurd c14_0 e0
    | succ f ih =>
      intro i b l v4 lv hc hif L hb4 P Z FA
      have hs : i < S := by omega
      have hS7 := V.1.S7
      have e0 : (nI i) < (nI S) := nI_lt (a := i) (b := S) hs (by omega)
      have hw := V.1.St (s := i) (by omega)
      have et : gA tra (nI i) = nI (mN w i) := by rw [gA_n (by omega), Y.ptra hs]; exact hw.1
      have em : m_st w (nI i) 1 = nI (mN w i) := by rw [m_st1 (by omega)]; exact hw.1
      have en : (nI i) + 1 = nI (i + 1) := nI_add9 i 1
      by_cases m3 : mN w i = 3
      · have c3 : ¬ ((gA tra (nI i)) < 3) := by rw [et, m3]; decide
        have m3 : m_st w (nI i) 1 = 3 := by rw [em, m3]; rfl
        have TA := P.2.2.1
        have K9 : kA hc [(0, .inl (9, [.ref 1, .ref 3, .ref 4, .ref 29, .ref 281, .ref 325, .ref 343, .ref 327, .int sst])), (4, .inl (7, [.ref 343, .int mi, .int shu, .int bus, .ref 5, .ref 6, .ref 7, .ref 8, .ref 9, .ref 10, .ref 11, .ref 12, .ref 13, .ref 14, .ref 15, .int lks, .ref 16, .ref 17, .ref 20])), (5, .inr (.inl (0, rk))), (7, .inr (.inl (0, ph))), (281, .inl (1, [.ref 282, .ref 307, .ref 323, .ref 324])), (343, .inl (2, [.int (nI S), .ref 344, .ref 345, .ref 346, .ref 347, .int (nI n), .ref 348, .ref 349, .ref 350, .ref 351, .ref 352, .ref 353, .ref 354, .int cel, .ref 355, .ref 356, .ref 357, .ref 358])), (346, .inr (.inl (0, tra))), (351, .inr (.inl (0, tto)))] := ⟨(FA 0 (by decide)).trans C0, (FA 4 (by decide)).trans CS.1, (FA 5 (by decide)).trans CS.2.1, (FA 7 (by decide)).trans CS.2.2.2.1, P.2.2.2, (FA 343 (by decide)).trans CL.1, (FA 346 (by decide)).trans CL.2.2.1, (FA 351 (by decide)).trans CL.2.2.2.2.2.2.1, trivial⟩
        have K : KN hc [(0, .inl (9, [.ref 1, .ref 3, .ref 4, .ref 29, .ref 281, .ref 325, .ref 343, .ref 327, .int sst])), (4, .inl (7, [.ref 343, .int mi, .int shu, .int bus, .ref 5, .ref 6, .ref 7, .ref 8, .ref 9, .ref 10, .ref 11, .ref 12, .ref 13, .ref 14, .ref 15, .int lks, .ref 16, .ref 17, .ref 20])), (5, .inr (.inl (0, rk))), (7, .inr (.inl (0, ph))), (281, .inl (1, [.ref 282, .ref 307, .ref 323, .ref 324])), (343, .inl (2, [.int (nI S), .ref 344, .ref 345, .ref 346, .ref 347, .int (nI n), .ref 348, .ref 349, .ref 350, .ref 351, .ref 352, .ref 353, .ref 354, .int cel, .ref 355, .ref 356, .ref 357, .ref 358])), (346, .inr (.inl (0, tra))), (351, .inr (.inl (0, tto)))] hc := K9.K
        refine j_V.ldL xbF6_M xbF6_6 rfl (i := 3) (kd := 0) (v := .int (nI i)) (pcJ := 7) rfl L rfl rfl rfl ?_
        refine j_V.ldL xbF6_M xbF6_7 rfl (i := 0) (kd := 2) (v := .ref 0) (pcJ := 8) rfl L rfl rfl rfl ?_
        refine j_V.getK xbF6_M xbF6_8 (ci := 9) (j := 6) rfl K rfl rfl ?_
        refine j_V.getK xbF6_M xbF6_11 (ci := 2) (j := 0) rfl K rfl rfl ?_
        refine j_V.icmp xbF6_M xbF6_14 (t := 68) rfl (fun c14_0 => ?_) (fun c14_0 => ?_)
        · replace c14_0 : ¬ ((nI i) < (nI S)) := jd_ge c14_0
          exact absurd e0 c14_0
        · replace c14_0 : (nI i) < (nI S) := jd_gen c14_0
          refine j_V.ldL xbF6_M xbF6_17 rfl (i := 0) (kd := 2) (v := .ref 0) (pcJ := 18) rfl L rfl rfl rfl ?_
          refine j_V.getK xbF6_M xbF6_18 (ci := 9) (j := 6) rfl K rfl rfl ?_
          refine j_V.getK xbF6_M xbF6_21 (ci := 2) (j := 3) rfl K rfl rfl ?_
          refine j_V.ldL xbF6_M xbF6_24 rfl (i := 3) (kd := 0) (v := .int (nI i)) (pcJ := 25) rfl L rfl rfl rfl ?_
          refine j_V.iaA xbF6_M xbF6_25 K rfl ?_
          refine j_V.one xbF6_M xbF6_26 (by decide) (pcJ := 27) (stJ := [.int 3, .int (gA tra (nI i))]) rfl ?_
          refine j_V.icmp xbF6_M xbF6_27 (t := 62) rfl (fun c27_0 => ?_) (fun c27_0 => ?_)
          · replace c27_0 : ¬ ((gA tra (nI i)) < 3) := jd_ge c27_0
            refine j_V.inL xbF6_M xbF6_62 (i := 3) (kl' := [(0, .ref 0), (1, .int b), (2, .int l), (3, .int ((nI i) + 1))]) (pcJ := 65) L rfl rfl rfl rfl (fun lv L => ?_)
            refine j_V.gto xbF6_M xbF6_65 (t := 6) rfl ?_
            rw [show m_qbuild_l8 n th sst' w (f + 1) i b v4 = m_qbuild_l8 n th sst' w f (i + 1) b v4 by show (if m_st w (nI i) 1 = 3 then _ else _) = _; rw [if_pos m3]]
            rw [en] at L
            exact ih (i + 1) b l v4 _ _ (by omega) L hb4 P Z FA
          · replace c27_0 : (gA tra (nI i)) < 3 := jd_gen c27_0
            exact absurd c27_0 c3
      have hm3 : mN w i < 3 := by have := hw.2.1; omega
      have c3 : (gA tra (nI i)) < 3 := by rw [et]; exact nI_lt (a := mN w i) (b := 3) hm3 (by omega)
      have m3 : ¬ m_st w (nI i) 1 = 3 := by rw [em]; exact fun z => m3 ((nI_eq (b := 3) (by omega) (by decide)).mp z)
      have hpi := hp i hs hm3
      have ei1 : ¬ nI i = (-1) := fun z => by have := congrArg Int32.toInt z; rw [nI_toInt (by omega)] at this; have e9 : ((-1 : Int32)).toInt = -1 := rfl; omega
      have TA := P.2.2.1
      have K9 : kA hc [(0, .inl (9, [.ref 1, .ref 3, .ref 4, .ref 29, .ref 281, .ref 325, .ref 343, .ref 327, .int sst])), (4, .inl (7, [.ref 343, .int mi, .int shu, .int bus, .ref 5, .ref 6, .ref 7, .ref 8, .ref 9, .ref 10, .ref 11, .ref 12, .ref 13, .ref 14, .ref 15, .int lks, .ref 16, .ref 17, .ref 20])), (5, .inr (.inl (0, rk))), (7, .inr (.inl (0, ph))), (281, .inl (1, [.ref 282, .ref 307, .ref 323, .ref 324])), (343, .inl (2, [.int (nI S), .ref 344, .ref 345, .ref 346, .ref 347, .int (nI n), .ref 348, .ref 349, .ref 350, .ref 351, .ref 352, .ref 353, .ref 354, .int cel, .ref 355, .ref 356, .ref 357, .ref 358])), (346, .inr (.inl (0, tra))), (351, .inr (.inl (0, tto)))] := ⟨(FA 0 (by decide)).trans C0, (FA 4 (by decide)).trans CS.1, (FA 5 (by decide)).trans CS.2.1, (FA 7 (by decide)).trans CS.2.2.2.1, P.2.2.2, (FA 343 (by decide)).trans CL.1, (FA 346 (by decide)).trans CL.2.2.1, (FA 351 (by decide)).trans CL.2.2.2.2.2.2.1, trivial⟩
      have K : KN hc [(0, .inl (9, [.ref 1, .ref 3, .ref 4, .ref 29, .ref 281, .ref 325, .ref 343, .ref 327, .int sst])), (4, .inl (7, [.ref 343, .int mi, .int shu, .int bus, .ref 5, .ref 6, .ref 7, .ref 8, .ref 9, .ref 10, .ref 11, .ref 12, .ref 13, .ref 14, .ref 15, .int lks, .ref 16, .ref 17, .ref 20])), (5, .inr (.inl (0, rk))), (7, .inr (.inl (0, ph))), (281, .inl (1, [.ref 282, .ref 307, .ref 323, .ref 324])), (343, .inl (2, [.int (nI S), .ref 344, .ref 345, .ref 346, .ref 347, .int (nI n), .ref 348, .ref 349, .ref 350, .ref 351, .ref 352, .ref 353, .ref 354, .int cel, .ref 355, .ref 356, .ref 357, .ref 358])), (346, .inr (.inl (0, tra))), (351, .inr (.inl (0, tto)))] hc := K9.K
      refine j_V.ldL xbF6_M xbF6_6 rfl (i := 3) (kd := 0) (v := .int (nI i)) (pcJ := 7) rfl L rfl rfl rfl ?_
      refine j_V.ldL xbF6_M xbF6_7 rfl (i := 0) (kd := 2) (v := .ref 0) (pcJ := 8) rfl L rfl rfl rfl ?_
      refine j_V.getK xbF6_M xbF6_8 (ci := 9) (j := 6) rfl K rfl rfl ?_
      refine j_V.getK xbF6_M xbF6_11 (ci := 2) (j := 0) rfl K rfl rfl ?_
      refine j_V.icmp xbF6_M xbF6_14 (t := 68) rfl (fun c14_0 => ?_) (fun c14_0 => ?_)
      · replace c14_0 : ¬ ((nI i) < (nI S)) := jd_ge c14_0
        exact absurd e0 c14_0
      · replace c14_0 : (nI i) < (nI S) := jd_gen c14_0
        refine j_V.ldL xbF6_M xbF6_17 rfl (i := 0) (kd := 2) (v := .ref 0) (pcJ := 18) rfl L rfl rfl rfl ?_
        refine j_V.getK xbF6_M xbF6_18 (ci := 9) (j := 6) rfl K rfl rfl ?_
        refine j_V.getK xbF6_M xbF6_21 (ci := 2) (j := 3) rfl K rfl rfl ?_
        refine j_V.ldL xbF6_M xbF6_24 rfl (i := 3) (kd := 0) (v := .int (nI i)) (pcJ := 25) rfl L rfl rfl rfl ?_
        refine j_V.iaA xbF6_M xbF6_25 K rfl ?_
        refine j_V.one xbF6_M xbF6_26 (by decide) (pcJ := 27) (stJ := [.int 3, .int (gA tra (nI i))]) rfl ?_
        refine j_V.icmp xbF6_M xbF6_27 (t := 62) rfl (fun c27_0 => ?_) (fun c27_0 => ?_)
        · replace c27_0 : ¬ ((gA tra (nI i)) < 3) := jd_ge c27_0
          exact absurd c3 c27_0
        · replace c27_0 : (gA tra (nI i)) < 3 := jd_gen c27_0
          refine j_V.ldL xbF6_M xbF6_30 rfl (i := 0) (kd := 2) (v := .ref 0) (pcJ := 31) rfl L rfl rfl rfl ?_
          refine j_V.getK xbF6_M xbF6_31 (ci := 9) (j := 4) rfl K rfl rfl ?_
          refine j_V.ldL xbF6_M xbF6_34 rfl (i := 0) (kd := 2) (v := .ref 0) (pcJ := 35) rfl L rfl rfl rfl ?_
          refine j_V.getK xbF6_M xbF6_35 (ci := 9) (j := 2) rfl K rfl rfl ?_
          refine j_V.ldL xbF6_M xbF6_38 rfl (i := 3) (kd := 0) (v := .int (nI i)) (pcJ := 39) rfl L rfl rfl rfl ?_
          refine j_V.one xbF6_M xbF6_39 (by decide) (pcJ := 41) (stJ := [.int 99, .int (nI i), .ref 4, .ref 281]) rfl ?_
          refine j_V.cl xbF6_M xbF6_41 rfl (md := 3) (mj := 12) rfl (by decide) fp6_M (As := [.ref 281, .ref 4, .int (nI i), .int 99]) (rest := []) (jk_spl3 (K.at rfl) rfl rfl rfl (Nat.le_of_ble_eq_true rfl) (Nat.le_of_ble_eq_true rfl)) (fun d => hp_track_343 P hm hs hm3 Z hb) ?_
          rintro r h21 ⟨rfl, TA, Z, F9⟩
          replace FA : ∀ x, (x < 282 ∨ 324 < x) → h21[x]? = g0[x]? := fun x g => (F9 x (by omega)).trans (FA x g)
          replace P : hF 343 n S w h21 := ⟨P.1.fr (fun x _ _ => F9 x (by omega)), P.2.1.fr (fun x _ _ => F9 x (by omega)), TA, (F9 281 (by decide)).trans P.2.2.2⟩
          have K9 : kA h21 [(0, .inl (9, [.ref 1, .ref 3, .ref 4, .ref 29, .ref 281, .ref 325, .ref 343, .ref 327, .int sst])), (4, .inl (7, [.ref 343, .int mi, .int shu, .int bus, .ref 5, .ref 6, .ref 7, .ref 8, .ref 9, .ref 10, .ref 11, .ref 12, .ref 13, .ref 14, .ref 15, .int lks, .ref 16, .ref 17, .ref 20])), (5, .inr (.inl (0, rk))), (7, .inr (.inl (0, ph))), (281, .inl (1, [.ref 282, .ref 307, .ref 323, .ref 324])), (343, .inl (2, [.int (nI S), .ref 344, .ref 345, .ref 346, .ref 347, .int (nI n), .ref 348, .ref 349, .ref 350, .ref 351, .ref 352, .ref 353, .ref 354, .int cel, .ref 355, .ref 356, .ref 357, .ref 358])), (346, .inr (.inl (0, tra))), (351, .inr (.inl (0, tto)))] := ⟨(FA 0 (by decide)).trans C0, (FA 4 (by decide)).trans CS.1, (FA 5 (by decide)).trans CS.2.1, (FA 7 (by decide)).trans CS.2.2.2.1, P.2.2.2, (FA 343 (by decide)).trans CL.1, (FA 346 (by decide)).trans CL.2.2.1, (FA 351 (by decide)).trans CL.2.2.2.2.2.2.1, trivial⟩
          have K : KN h21 [(0, .inl (9, [.ref 1, .ref 3, .ref 4, .ref 29, .ref 281, .ref 325, .ref 343, .ref 327, .int sst])), (4, .inl (7, [.ref 343, .int mi, .int shu, .int bus, .ref 5, .ref 6, .ref 7, .ref 8, .ref 9, .ref 10, .ref 11, .ref 12, .ref 13, .ref 14, .ref 15, .int lks, .ref 16, .ref 17, .ref 20])), (5, .inr (.inl (0, rk))), (7, .inr (.inl (0, ph))), (281, .inl (1, [.ref 282, .ref 307, .ref 323, .ref 324])), (343, .inl (2, [.int (nI S), .ref 344, .ref 345, .ref 346, .ref 347, .int (nI n), .ref 348, .ref 349, .ref 350, .ref 351, .ref 352, .ref 353, .ref 354, .int cel, .ref 355, .ref 356, .ref 357, .ref 358])), (346, .inr (.inl (0, tra))), (351, .inr (.inl (0, tto)))] h21 := K9.K
          show j_V jP _ 148 44 lv [.int (pE n (m_addTrack w (nI i) 99))] h21 _
          refine j_V.stL xbF6_M xbF6_44 rfl (i := 4) (kd := 0) (kl' := [(0, .ref 0), (1, .int b), (2, .int l), (3, .int (nI i)), (4, .int (pE n (m_addTrack w (nI i) 99)))]) (pcJ := 46) rfl L rfl (by decide) rfl rfl rfl (fun lv L => ?_)
          refine j_V.ldL xbF6_M xbF6_46 rfl (i := 1) (kd := 0) (v := .int b) (pcJ := 47) rfl L rfl rfl rfl ?_
          refine j_V.one xbF6_M xbF6_47 (by decide) (pcJ := 48) (stJ := [.int (-1), .int b]) rfl ?_
          refine j_V.icmp xbF6_M xbF6_48 (t := 57) rfl (fun c48_0 => ?_) (fun c48_0 => ?_)
          · replace c48_0 : b = (-1) := jd_eq c48_0
            refine j_V.ldL xbF6_M xbF6_57 rfl (i := 3) (kd := 0) (v := .int (nI i)) (pcJ := 58) rfl L rfl rfl rfl ?_
            refine j_V.stL xbF6_M xbF6_58 rfl (i := 1) (kd := 0) (kl' := [(0, .ref 0), (1, .int (nI i)), (2, .int l), (3, .int (nI i)), (4, .int (pE n (m_addTrack w (nI i) 99)))]) (pcJ := 59) rfl L rfl (by decide) rfl rfl rfl (fun lv L => ?_)
            refine j_V.ldL xbF6_M xbF6_59 rfl (i := 4) (kd := 0) (v := .int (pE n (m_addTrack w (nI i) 99))) (pcJ := 61) rfl L rfl rfl rfl ?_
            refine j_V.stL xbF6_M xbF6_61 rfl (i := 2) (kd := 0) (kl' := [(0, .ref 0), (1, .int (nI i)), (2, .int (pE n (m_addTrack w (nI i) 99))), (3, .int (nI i)), (4, .int (pE n (m_addTrack w (nI i) 99)))]) (pcJ := 62) rfl L rfl (by decide) rfl rfl rfl (fun lv L => ?_)
            refine j_V.inL xbF6_M xbF6_62 (i := 3) (kl' := [(0, .ref 0), (1, .int (nI i)), (2, .int (pE n (m_addTrack w (nI i) 99))), (3, .int ((nI i) + 1)), (4, .int (pE n (m_addTrack w (nI i) 99)))]) (pcJ := 65) L rfl rfl rfl rfl (fun lv L => ?_)
            refine j_V.gto xbF6_M xbF6_65 (t := 6) rfl ?_
            have hv : (pE n (m_addTrack w (nI i) 99)) < v4 := by rcases hb4 with z | z; rw [z.2]; exact hpi; exact absurd c48_0 z.1
            have ho : (pE n (m_addTrack w (nI i) 99)) = m_price (m_toTheEnd n (m_addTrack w (nI i) 99) 1) := rfl
            rw [ho] at hv
            rw [show m_qbuild_l8 n th sst' w (f + 1) i b v4 = m_qbuild_l8 n th sst' w f (i + 1) (nI i) (pE n (m_addTrack w (nI i) 99)) by show (if m_st w (nI i) 1 = 3 then _ else if _ < v4 then _ else _) = _; rw [if_neg m3, if_pos hv]; unfold iMn; rw [if_pos hv]; rfl]
            rw [en] at L
            exact ih (i + 1) (nI i) (pE n (m_addTrack w (nI i) 99)) (pE n (m_addTrack w (nI i) 99)) _ _ (by omega) (L.sub ⟨rfl, rfl, rfl, rfl, trivial⟩) (Or.inr ⟨ei1, rfl⟩) P Z FA
          · replace c48_0 : ¬ (b = (-1)) := jd_eqn c48_0
            refine j_V.ldL xbF6_M xbF6_51 rfl (i := 4) (kd := 0) (v := .int (pE n (m_addTrack w (nI i) 99))) (pcJ := 53) rfl L rfl rfl rfl ?_
            refine j_V.ldL xbF6_M xbF6_53 rfl (i := 2) (kd := 0) (v := .int l) (pcJ := 54) rfl L rfl rfl rfl ?_
            refine j_V.icmp xbF6_M xbF6_54 (t := 62) rfl (fun c54_1 => ?_) (fun c54_1 => ?_)
            · replace c54_1 : ¬ ((pE n (m_addTrack w (nI i) 99)) < l) := jd_ge c54_1
              refine j_V.inL xbF6_M xbF6_62 (i := 3) (kl' := [(0, .ref 0), (1, .int b), (2, .int l), (3, .int ((nI i) + 1)), (4, .int (pE n (m_addTrack w (nI i) 99)))]) (pcJ := 65) L rfl rfl rfl rfl (fun lv L => ?_)
              refine j_V.gto xbF6_M xbF6_65 (t := 6) rfl ?_
              obtain ⟨-, ev⟩ : ¬ b = (-1) ∧ l = v4 := by rcases hb4 with z | z; exact absurd z.1 c48_0; exact z
              have hv := c54_1
              rw [ev] at hv
              have ho : (pE n (m_addTrack w (nI i) 99)) = m_price (m_toTheEnd n (m_addTrack w (nI i) 99) 1) := rfl
              rw [ho] at hv
              rw [show m_qbuild_l8 n th sst' w (f + 1) i b v4 = m_qbuild_l8 n th sst' w f (i + 1) b v4 by show (if m_st w (nI i) 1 = 3 then _ else if _ < v4 then _ else _) = _; rw [if_neg m3, if_neg hv]; unfold iMn; rw [if_neg hv]]
              rw [en] at L
              exact ih (i + 1) b l v4 _ _ (by omega) (L.sub ⟨rfl, rfl, rfl, rfl, trivial⟩) hb4 P Z FA
            · replace c54_1 : (pE n (m_addTrack w (nI i) 99)) < l := jd_gen c54_1
              refine j_V.ldL xbF6_M xbF6_57 rfl (i := 3) (kd := 0) (v := .int (nI i)) (pcJ := 58) rfl L rfl rfl rfl ?_
              refine j_V.stL xbF6_M xbF6_58 rfl (i := 1) (kd := 0) (kl' := [(0, .ref 0), (1, .int (nI i)), (2, .int l), (3, .int (nI i)), (4, .int (pE n (m_addTrack w (nI i) 99)))]) (pcJ := 59) rfl L rfl (by decide) rfl rfl rfl (fun lv L => ?_)
              refine j_V.ldL xbF6_M xbF6_59 rfl (i := 4) (kd := 0) (v := .int (pE n (m_addTrack w (nI i) 99))) (pcJ := 61) rfl L rfl rfl rfl ?_
              refine j_V.stL xbF6_M xbF6_61 rfl (i := 2) (kd := 0) (kl' := [(0, .ref 0), (1, .int (nI i)), (2, .int (pE n (m_addTrack w (nI i) 99))), (3, .int (nI i)), (4, .int (pE n (m_addTrack w (nI i) 99)))]) (pcJ := 62) rfl L rfl (by decide) rfl rfl rfl (fun lv L => ?_)
              refine j_V.inL xbF6_M xbF6_62 (i := 3) (kl' := [(0, .ref 0), (1, .int (nI i)), (2, .int (pE n (m_addTrack w (nI i) 99))), (3, .int ((nI i) + 1)), (4, .int (pE n (m_addTrack w (nI i) 99)))]) (pcJ := 65) L rfl rfl rfl rfl (fun lv L => ?_)
              refine j_V.gto xbF6_M xbF6_65 (t := 6) rfl ?_
              obtain ⟨-, ev⟩ : ¬ b = (-1) ∧ l = v4 := by rcases hb4 with z | z; exact absurd z.1 c48_0; exact z
              have hv := c54_1
              rw [ev] at hv
              have ho : (pE n (m_addTrack w (nI i) 99)) = m_price (m_toTheEnd n (m_addTrack w (nI i) 99) 1) := rfl
              rw [ho] at hv
              rw [show m_qbuild_l8 n th sst' w (f + 1) i b v4 = m_qbuild_l8 n th sst' w f (i + 1) (nI i) (pE n (m_addTrack w (nI i) 99)) by show (if m_st w (nI i) 1 = 3 then _ else if _ < v4 then _ else _) = _; rw [if_neg m3, if_pos hv]; unfold iMn; rw [if_pos hv]; rfl]
              rw [en] at L
              exact ih (i + 1) (nI i) (pE n (m_addTrack w (nI i) 99)) (pE n (m_addTrack w (nI i) 99)) _ _ (by omega) (L.sub ⟨rfl, rfl, rfl, rfl, trivial⟩) (Or.inr ⟨ei1, rfl⟩) P Z FA
  have hS7 := V.1.S7
  have eS : lpN (gA w 202) (nI 0) = S := by rw [V.1.gs]; exact lpN_n0 (by omega)
  rw [show m_qbuild n th sst' w = m_qbuild_l8 n th sst' w S 0 (-1) 2147483647 by show m_qbuild_l8 _ _ _ _ (lpN (gA w 202) (nI 0)) _ _ _ = _; rw [eS]]
  have FA : ∀ x, (x < 282 ∨ 324 < x) → g0[x]? = g0[x]? := fun x _ => rfl
  have TA := P.2.2.1
  have K9 : kA g0 [(0, .inl (9, [.ref 1, .ref 3, .ref 4, .ref 29, .ref 281, .ref 325, .ref 343, .ref 327, .int sst])), (4, .inl (7, [.ref 343, .int mi, .int shu, .int bus, .ref 5, .ref 6, .ref 7, .ref 8, .ref 9, .ref 10, .ref 11, .ref 12, .ref 13, .ref 14, .ref 15, .int lks, .ref 16, .ref 17, .ref 20])), (5, .inr (.inl (0, rk))), (7, .inr (.inl (0, ph))), (281, .inl (1, [.ref 282, .ref 307, .ref 323, .ref 324])), (343, .inl (2, [.int (nI S), .ref 344, .ref 345, .ref 346, .ref 347, .int (nI n), .ref 348, .ref 349, .ref 350, .ref 351, .ref 352, .ref 353, .ref 354, .int cel, .ref 355, .ref 356, .ref 357, .ref 358])), (346, .inr (.inl (0, tra))), (351, .inr (.inl (0, tto)))] := ⟨(FA 0 (by decide)).trans C0, (FA 4 (by decide)).trans CS.1, (FA 5 (by decide)).trans CS.2.1, (FA 7 (by decide)).trans CS.2.2.2.1, P.2.2.2, (FA 343 (by decide)).trans CL.1, (FA 346 (by decide)).trans CL.2.2.1, (FA 351 (by decide)).trans CL.2.2.2.2.2.2.1, trivial⟩
  have K : KN g0 [(0, .inl (9, [.ref 1, .ref 3, .ref 4, .ref 29, .ref 281, .ref 325, .ref 343, .ref 327, .int sst])), (4, .inl (7, [.ref 343, .int mi, .int shu, .int bus, .ref 5, .ref 6, .ref 7, .ref 8, .ref 9, .ref 10, .ref 11, .ref 12, .ref 13, .ref 14, .ref 15, .int lks, .ref 16, .ref 17, .ref 20])), (5, .inr (.inl (0, rk))), (7, .inr (.inl (0, ph))), (281, .inl (1, [.ref 282, .ref 307, .ref 323, .ref 324])), (343, .inl (2, [.int (nI S), .ref 344, .ref 345, .ref 346, .ref 347, .int (nI n), .ref 348, .ref 349, .ref 350, .ref 351, .ref 352, .ref 353, .ref 354, .int cel, .ref 355, .ref 356, .ref 357, .ref 358])), (346, .inr (.inl (0, tra))), (351, .inr (.inl (0, tto)))] g0 := K9.K
  show j_V jP d 148 0 [(0, .ref 0)] [] g0 _
  obtain ⟨lv, elv, L⟩ : ∃ lv, lv = [(0, .ref 0)] ∧ LK lv [(0, .ref 0)] := ⟨_, rfl, LK.rf⟩
  rw [← elv]
  clear elv
  refine j_V.one xbF6_M xbF6_0 (by decide) (pcJ := 1) (stJ := [.int (-1)]) rfl ?_
  refine j_V.stL xbF6_M xbF6_1 rfl (i := 1) (kd := 0) (kl' := [(0, .ref 0), (1, .int (-1))]) (pcJ := 2) rfl L rfl (by decide) rfl rfl rfl (fun lv L => ?_)
  refine j_V.one xbF6_M xbF6_2 (by decide) (pcJ := 3) (stJ := [.int (-1)]) rfl ?_
  refine j_V.stL xbF6_M xbF6_3 rfl (i := 2) (kd := 0) (kl' := [(0, .ref 0), (1, .int (-1)), (2, .int (-1))]) (pcJ := 4) rfl L rfl (by decide) rfl rfl rfl (fun lv L => ?_)
  refine j_V.one xbF6_M xbF6_4 (by decide) (pcJ := 5) (stJ := [.int 0]) rfl ?_
  refine j_V.stL xbF6_M xbF6_5 rfl (i := 3) (kd := 0) (kl' := [(0, .ref 0), (1, .int (-1)), (2, .int (-1)), (3, .int 0)]) (pcJ := 6) rfl L rfl (by decide) rfl rfl rfl (fun lv L => ?_)
  exact hl S 0 (-1) (-1) 2147483647 _ _ (by omega) L (Or.inl ⟨rfl, rfl⟩) P Z FA
set_option maxRecDepth 100000 in
theorem xbF7_M : j_meth jP 143 = some (yX9_slack, cX9_slack, 4, (some .int), 1, false, 9) := rfl
set_option maxRecDepth 100000 in
theorem xbF7_0 : j_code jP 143 0 = some (.aload_n 0) := rfl
set_option maxRecDepth 100000 in
theorem xbF7_1 : j_code jP 143 1 = some (.iload_n 1) := rfl
set_option maxRecDepth 100000 in
theorem xbF7_2 : j_code jP 143 2 = some (.invokevirtual 184) := rfl
set_option maxRecDepth 100000 in
theorem xbF7_5 : j_code jP 143 5 = some (.ifCond .ne 9) := rfl
set_option maxRecDepth 100000 in
theorem xbF7_8 : j_code jP 143 8 = some (.aload_n 0) := rfl
set_option maxRecDepth 100000 in
theorem xbF7_9 : j_code jP 143 9 = some (.iconst 2) := rfl
set_option maxRecDepth 100000 in
theorem xbF7_10 : j_code jP 143 10 = some (.invokevirtual 84) := rfl
set_option maxRecDepth 100000 in
theorem xbF7_13 : j_code jP 143 13 = some (.ireturn) := rfl
set_option maxRecDepth 100000 in
theorem xbF7_14 : j_code jP 143 14 = some (.aload_n 0) := rfl
set_option maxRecDepth 100000 in
theorem xbF7_15 : j_code jP 143 15 = some (.getfield 30) := rfl
set_option maxRecDepth 100000 in
theorem xbF7_18 : j_code jP 143 18 = some (.getfield 205) := rfl
set_option maxRecDepth 100000 in
theorem xbF7_21 : j_code jP 143 21 = some (.iload_n 1) := rfl
set_option maxRecDepth 100000 in
theorem xbF7_22 : j_code jP 143 22 = some (.iaload) := rfl
set_option maxRecDepth 100000 in
theorem xbF7_23 : j_code jP 143 23 = some (.iconst 3) := rfl
set_option maxRecDepth 100000 in
theorem xbF7_24 : j_code jP 143 24 = some (.if_icmp .ne 9) := rfl
set_option maxRecDepth 100000 in
theorem xbF7_27 : j_code jP 143 27 = some (.aload_n 0) := rfl
set_option maxRecDepth 100000 in
theorem xbF7_28 : j_code jP 143 28 = some (.iconst 4) := rfl
set_option maxRecDepth 100000 in
theorem xbF7_29 : j_code jP 143 29 = some (.invokevirtual 84) := rfl
set_option maxRecDepth 100000 in
theorem xbF7_32 : j_code jP 143 32 = some (.ireturn) := rfl
set_option maxRecDepth 100000 in
theorem xbF7_33 : j_code jP 143 33 = some (.aload_n 0) := rfl
set_option maxRecDepth 100000 in
theorem xbF7_34 : j_code jP 143 34 = some (.getfield 44) := rfl
set_option maxRecDepth 100000 in
theorem xbF7_37 : j_code jP 143 37 = some (.aload_n 0) := rfl
set_option maxRecDepth 100000 in
theorem xbF7_38 : j_code jP 143 38 = some (.getfield 30) := rfl
set_option maxRecDepth 100000 in
theorem xbF7_41 : j_code jP 143 41 = some (.iload_n 1) := rfl
set_option maxRecDepth 100000 in
theorem xbF7_42 : j_code jP 143 42 = some (.iconst 0) := rfl
set_option maxRecDepth 100000 in
theorem xbF7_43 : j_code jP 143 43 = some (.invokevirtual 338) := rfl
set_option maxRecDepth 100000 in
theorem xbF7_46 : j_code jP 143 46 = some (.istore_n 2) := rfl
set_option maxRecDepth 100000 in
theorem xbF7_47 : j_code jP 143 47 = some (.iconst 1) := rfl
set_option maxRecDepth 100000 in
theorem xbF7_48 : j_code jP 143 48 = some (.istore_n 3) := rfl
set_option maxRecDepth 100000 in
theorem xbF7_49 : j_code jP 143 49 = some (.iload_n 3) := rfl
set_option maxRecDepth 100000 in
theorem xbF7_50 : j_code jP 143 50 = some (.bipush 99) := rfl
set_option maxRecDepth 100000 in
theorem xbF7_52 : j_code jP 143 52 = some (.if_icmp .gt 34) := rfl
set_option maxRecDepth 100000 in
theorem xbF7_55 : j_code jP 143 55 = some (.aload_n 0) := rfl
set_option maxRecDepth 100000 in
theorem xbF7_56 : j_code jP 143 56 = some (.getfield 44) := rfl
set_option maxRecDepth 100000 in
theorem xbF7_59 : j_code jP 143 59 = some (.aload_n 0) := rfl
set_option maxRecDepth 100000 in
theorem xbF7_60 : j_code jP 143 60 = some (.getfield 30) := rfl
set_option maxRecDepth 100000 in
theorem xbF7_63 : j_code jP 143 63 = some (.iload_n 1) := rfl
set_option maxRecDepth 100000 in
theorem xbF7_64 : j_code jP 143 64 = some (.iload_n 3) := rfl
set_option maxRecDepth 100000 in
theorem xbF7_65 : j_code jP 143 65 = some (.invokevirtual 338) := rfl
set_option maxRecDepth 100000 in
theorem xbF7_68 : j_code jP 143 68 = some (.iload_n 2) := rfl
set_option maxRecDepth 100000 in
theorem xbF7_69 : j_code jP 143 69 = some (.if_icmp .le 11) := rfl
set_option maxRecDepth 100000 in
theorem xbF7_72 : j_code jP 143 72 = some (.aload_n 0) := rfl
set_option maxRecDepth 100000 in
theorem xbF7_73 : j_code jP 143 73 = some (.iload_n 3) := rfl
set_option maxRecDepth 100000 in
theorem xbF7_74 : j_code jP 143 74 = some (.iconst 1) := rfl
set_option maxRecDepth 100000 in
theorem xbF7_75 : j_code jP 143 75 = some (.isub) := rfl
set_option maxRecDepth 100000 in
theorem xbF7_76 : j_code jP 143 76 = some (.invokevirtual 104) := rfl
set_option maxRecDepth 100000 in
theorem xbF7_79 : j_code jP 143 79 = some (.ireturn) := rfl
set_option maxRecDepth 100000 in
theorem xbF7_80 : j_code jP 143 80 = some (.iinc 3 1) := rfl
set_option maxRecDepth 100000 in
theorem xbF7_83 : j_code jP 143 83 = some (.goto (-34)) := rfl
set_option maxRecDepth 100000 in
theorem xbF7_86 : j_code jP 143 86 = some (.aload_n 0) := rfl
set_option maxRecDepth 100000 in
theorem xbF7_87 : j_code jP 143 87 = some (.bipush 99) := rfl
set_option maxRecDepth 100000 in
theorem xbF7_89 : j_code jP 143 89 = some (.invokevirtual 104) := rfl
set_option maxRecDepth 100000 in
theorem xbF7_92 : j_code jP 143 92 = some (.ireturn) := rfl
set_option maxRecDepth 1000000 in
theorem hq_slack_B {g0 : J_H} {n S m d : Nat} {w : List Int32} {sst th sst' : Int32} (R : hX 343 327 n S w sst g0) (Q : hT9 282 0 g0) (C281 : g0[281]? = some (.inl (1, [.ref 282, .ref 307, .ref 323, .ref 324]))) (hm : gN w 201 = nI m) (hm9 : m < 2 ^ 29) (x1 : Int32) : j_V jP d 143 0 (lv_args 0 [.ref 0, .int x1]) [] g0 (fun rv h' => ∃ v, fqP 343 327 n S w (v, 0, (m_qslack n th sst' w x1).2.2) rv g0 h') := by
  have R0 := R
  have C0 := R.1
  have P : hF 343 n S w g0 := ⟨R.2.1, R.2.2, Q, C281⟩
  have hb : m + 300 < 2 ^ 30 := by omega
  refine hX.opn R (fun mi shu bus lks rl pev rk sta ph sp ce du he ri us cm lf lkd row sea pms pmm pmt pst pwa prs prr pfa CS hl4 V cel run tra len siz frm tto lst slo wei fit way rid lon CL Y T hlY => ?_)
  have h5 := V.1.n5
  by_cases m2 : m_isTrain w x1 = 0
  · have c2 : (x_isTrain (nI n) x1) = 0 := (g_train V.1.g x1).trans m2
    rw [show (m_qslack n th sst' w x1).2.2 = 2 by unfold m_qslack; rw [if_pos m2]; rfl]
    have FA : ∀ x, (x < 282 ∨ 324 < x) → g0[x]? = g0[x]? := fun x _ => rfl
    have TA := P.2.2.1
    have K9 : kA g0 [(0, .inl (9, [.ref 1, .ref 3, .ref 4, .ref 29, .ref 281, .ref 325, .ref 343, .ref 327, .int sst])), (4, .inl (7, [.ref 343, .int mi, .int shu, .int bus, .ref 5, .ref 6, .ref 7, .ref 8, .ref 9, .ref 10, .ref 11, .ref 12, .ref 13, .ref 14, .ref 15, .int lks, .ref 16, .ref 17, .ref 20])), (5, .inr (.inl (0, rk))), (7, .inr (.inl (0, ph))), (281, .inl (1, [.ref 282, .ref 307, .ref 323, .ref 324])), (343, .inl (2, [.int (nI S), .ref 344, .ref 345, .ref 346, .ref 347, .int (nI n), .ref 348, .ref 349, .ref 350, .ref 351, .ref 352, .ref 353, .ref 354, .int cel, .ref 355, .ref 356, .ref 357, .ref 358])), (346, .inr (.inl (0, tra))), (351, .inr (.inl (0, tto)))] := ⟨(FA 0 (by decide)).trans C0, (FA 4 (by decide)).trans CS.1, (FA 5 (by decide)).trans CS.2.1, (FA 7 (by decide)).trans CS.2.2.2.1, P.2.2.2, (FA 343 (by decide)).trans CL.1, (FA 346 (by decide)).trans CL.2.2.1, (FA 351 (by decide)).trans CL.2.2.2.2.2.2.1, trivial⟩
    have K : KN g0 [(0, .inl (9, [.ref 1, .ref 3, .ref 4, .ref 29, .ref 281, .ref 325, .ref 343, .ref 327, .int sst])), (4, .inl (7, [.ref 343, .int mi, .int shu, .int bus, .ref 5, .ref 6, .ref 7, .ref 8, .ref 9, .ref 10, .ref 11, .ref 12, .ref 13, .ref 14, .ref 15, .int lks, .ref 16, .ref 17, .ref 20])), (5, .inr (.inl (0, rk))), (7, .inr (.inl (0, ph))), (281, .inl (1, [.ref 282, .ref 307, .ref 323, .ref 324])), (343, .inl (2, [.int (nI S), .ref 344, .ref 345, .ref 346, .ref 347, .int (nI n), .ref 348, .ref 349, .ref 350, .ref 351, .ref 352, .ref 353, .ref 354, .int cel, .ref 355, .ref 356, .ref 357, .ref 358])), (346, .inr (.inl (0, tra))), (351, .inr (.inl (0, tto)))] g0 := K9.K
    show j_V jP d 143 0 [(0, .ref 0), (1, .int x1)] [] g0 _
    obtain ⟨lv, elv, L⟩ : ∃ lv, lv = [(0, .ref 0), (1, .int x1)] ∧ LK lv [(0, .ref 0), (1, .int x1)] := ⟨_, rfl, LK.rf⟩
    rw [← elv]
    clear elv
    refine j_V.ldL xbF7_M xbF7_0 rfl (i := 0) (kd := 2) (v := .ref 0) (pcJ := 1) rfl L rfl rfl rfl ?_
    refine j_V.ldL xbF7_M xbF7_1 rfl (i := 1) (kd := 0) (v := .int x1) (pcJ := 2) rfl L rfl rfl rfl ?_
    refine j_V.cl xbF7_M xbF7_2 rfl (md := 3) (mj := 165) rfl (by decide) xb47_M (As := [.ref 0, .int x1]) (rest := []) (jk_spl3 (K.at rfl) rfl rfl rfl (Nat.le_of_ble_eq_true rfl) (Nat.le_of_ble_eq_true rfl)) (fun d => xb47_ok (K.fi [0, 343] rfl rfl)) ?_
    rintro r hz ⟨rfl, ez⟩
    rw [ez]
    clear ez
    show j_V jP _ 143 5 lv [.int (x_isTrain (nI n) x1)] g0 _
    refine j_V.ifc xbF7_M xbF7_5 (t := 14) rfl (fun c5_0 => ?_) (fun c5_0 => ?_)
    · replace c5_0 : ¬ ((x_isTrain (nI n) x1) = 0) := jd_ne c5_0
      exact absurd c2 c5_0
    · replace c5_0 : (x_isTrain (nI n) x1) = 0 := jd_nen c5_0
      refine j_V.ldL xbF7_M xbF7_8 rfl (i := 0) (kd := 2) (v := .ref 0) (pcJ := 9) rfl L rfl rfl rfl ?_
      refine j_V.one xbF7_M xbF7_9 (by decide) (pcJ := 10) (stJ := [.int 2, .ref 0]) rfl ?_
      refine j_V.cl xbF7_M xbF7_10 rfl (md := 3) (mj := 161) rfl (by decide) xb50_M (As := [.ref 0, .int 2]) (rest := []) (jk_spl3 (K.at rfl) rfl rfl rfl (Nat.le_of_ble_eq_true rfl) (Nat.le_of_ble_eq_true rfl)) (fun d => xb50_ok (K.fi [0] rfl rfl)) ?_
      rintro r h9 ⟨rfl, K9⟩
      have K : KN h9 [(0, .inl (9, [.ref 1, .ref 3, .ref 4, .ref 29, .ref 281, .ref 325, .ref 343, .ref 327, .int ((x_qrefuse sst 2).2)])), (4, .inl (7, [.ref 343, .int mi, .int shu, .int bus, .ref 5, .ref 6, .ref 7, .ref 8, .ref 9, .ref 10, .ref 11, .ref 12, .ref 13, .ref 14, .ref 15, .int lks, .ref 16, .ref 17, .ref 20])), (5, .inr (.inl (0, rk))), (7, .inr (.inl (0, ph))), (281, .inl (1, [.ref 282, .ref 307, .ref 323, .ref 324])), (343, .inl (2, [.int (nI S), .ref 344, .ref 345, .ref 346, .ref 347, .int (nI n), .ref 348, .ref 349, .ref 350, .ref 351, .ref 352, .ref 353, .ref 354, .int cel, .ref 355, .ref 356, .ref 357, .ref 358])), (346, .inr (.inl (0, tra))), (351, .inr (.inl (0, tto)))] g0 := K.mg K9 rfl rfl
      clear K9
      show j_V jP _ 143 13 lv [.int ((x_qrefuse sst 2).1)] h9 _
      refine j_V.ri xbF7_M xbF7_13 ?_
      refine ⟨((x_qrefuse sst 2).1), ?_⟩
      exact fqP.yes R0 FA TA (fun x g => KN.off K9 K (lkn (fun z => g z.symm) (lke (lke (lke (lke (lke (lke (lke rfl))))))))) (K.at rfl)
  have c2 : ¬ ((x_isTrain (nI n) x1) = 0) := fun z => m2 ((g_train V.1.g x1).symm.trans z)
  obtain ⟨t, ht, rfl⟩ := (isTrain_n V.1.g).mp m2
  have e6 : gA ph (nI t) = m_of w (nI t) 6 := by rw [gA_n (by omega), V.2.1.1.pph ht, m_of6 (by omega)]
  by_cases m3 : m_of w (nI t) 6 = 3
  · have c3 : (gA ph (nI t)) = 3 := e6.trans m3
    rw [show (m_qslack n th sst' w (nI t)).2.2 = 4 by unfold m_qslack; rw [if_neg m2, if_pos m3]; rfl]
    have FA : ∀ x, (x < 282 ∨ 324 < x) → g0[x]? = g0[x]? := fun x _ => rfl
    have TA := P.2.2.1
    have K9 : kA g0 [(0, .inl (9, [.ref 1, .ref 3, .ref 4, .ref 29, .ref 281, .ref 325, .ref 343, .ref 327, .int sst])), (4, .inl (7, [.ref 343, .int mi, .int shu, .int bus, .ref 5, .ref 6, .ref 7, .ref 8, .ref 9, .ref 10, .ref 11, .ref 12, .ref 13, .ref 14, .ref 15, .int lks, .ref 16, .ref 17, .ref 20])), (5, .inr (.inl (0, rk))), (7, .inr (.inl (0, ph))), (281, .inl (1, [.ref 282, .ref 307, .ref 323, .ref 324])), (343, .inl (2, [.int (nI S), .ref 344, .ref 345, .ref 346, .ref 347, .int (nI n), .ref 348, .ref 349, .ref 350, .ref 351, .ref 352, .ref 353, .ref 354, .int cel, .ref 355, .ref 356, .ref 357, .ref 358])), (346, .inr (.inl (0, tra))), (351, .inr (.inl (0, tto)))] := ⟨(FA 0 (by decide)).trans C0, (FA 4 (by decide)).trans CS.1, (FA 5 (by decide)).trans CS.2.1, (FA 7 (by decide)).trans CS.2.2.2.1, P.2.2.2, (FA 343 (by decide)).trans CL.1, (FA 346 (by decide)).trans CL.2.2.1, (FA 351 (by decide)).trans CL.2.2.2.2.2.2.1, trivial⟩
    have K : KN g0 [(0, .inl (9, [.ref 1, .ref 3, .ref 4, .ref 29, .ref 281, .ref 325, .ref 343, .ref 327, .int sst])), (4, .inl (7, [.ref 343, .int mi, .int shu, .int bus, .ref 5, .ref 6, .ref 7, .ref 8, .ref 9, .ref 10, .ref 11, .ref 12, .ref 13, .ref 14, .ref 15, .int lks, .ref 16, .ref 17, .ref 20])), (5, .inr (.inl (0, rk))), (7, .inr (.inl (0, ph))), (281, .inl (1, [.ref 282, .ref 307, .ref 323, .ref 324])), (343, .inl (2, [.int (nI S), .ref 344, .ref 345, .ref 346, .ref 347, .int (nI n), .ref 348, .ref 349, .ref 350, .ref 351, .ref 352, .ref 353, .ref 354, .int cel, .ref 355, .ref 356, .ref 357, .ref 358])), (346, .inr (.inl (0, tra))), (351, .inr (.inl (0, tto)))] g0 := K9.K
    show j_V jP d 143 0 [(0, .ref 0), (1, .int (nI t))] [] g0 _
    obtain ⟨lv, elv, L⟩ : ∃ lv, lv = [(0, .ref 0), (1, .int (nI t))] ∧ LK lv [(0, .ref 0), (1, .int (nI t))] := ⟨_, rfl, LK.rf⟩
    rw [← elv]
    clear elv
    refine j_V.ldL xbF7_M xbF7_0 rfl (i := 0) (kd := 2) (v := .ref 0) (pcJ := 1) rfl L rfl rfl rfl ?_
    refine j_V.ldL xbF7_M xbF7_1 rfl (i := 1) (kd := 0) (v := .int (nI t)) (pcJ := 2) rfl L rfl rfl rfl ?_
    refine j_V.cl xbF7_M xbF7_2 rfl (md := 3) (mj := 165) rfl (by decide) xb47_M (As := [.ref 0, .int (nI t)]) (rest := []) (jk_spl3 (K.at rfl) rfl rfl rfl (Nat.le_of_ble_eq_true rfl) (Nat.le_of_ble_eq_true rfl)) (fun d => xb47_ok (K.fi [0, 343] rfl rfl)) ?_
    rintro r hz ⟨rfl, ez⟩
    rw [ez]
    clear ez
    show j_V jP _ 143 5 lv [.int (x_isTrain (nI n) (nI t))] g0 _
    refine j_V.ifc xbF7_M xbF7_5 (t := 14) rfl (fun c5_0 => ?_) (fun c5_0 => ?_)
    · replace c5_0 : ¬ ((x_isTrain (nI n) (nI t)) = 0) := jd_ne c5_0
      refine j_V.ldL xbF7_M xbF7_14 rfl (i := 0) (kd := 2) (v := .ref 0) (pcJ := 15) rfl L rfl rfl rfl ?_
      refine j_V.getK xbF7_M xbF7_15 (ci := 9) (j := 2) rfl K rfl rfl ?_
      refine j_V.getK xbF7_M xbF7_18 (ci := 7) (j := 6) rfl K rfl rfl ?_
      refine j_V.ldL xbF7_M xbF7_21 rfl (i := 1) (kd := 0) (v := .int (nI t)) (pcJ := 22) rfl L rfl rfl rfl ?_
      refine j_V.iaA xbF7_M xbF7_22 K rfl ?_
      refine j_V.one xbF7_M xbF7_23 (by decide) (pcJ := 24) (stJ := [.int 3, .int (gA ph (nI t))]) rfl ?_
      refine j_V.icmp xbF7_M xbF7_24 (t := 33) rfl (fun c24_0 => ?_) (fun c24_0 => ?_)
      · replace c24_0 : ¬ ((gA ph (nI t)) = 3) := jd_ne c24_0
        exact absurd c3 c24_0
      · replace c24_0 : (gA ph (nI t)) = 3 := jd_nen c24_0
        refine j_V.ldL xbF7_M xbF7_27 rfl (i := 0) (kd := 2) (v := .ref 0) (pcJ := 28) rfl L rfl rfl rfl ?_
        refine j_V.one xbF7_M xbF7_28 (by decide) (pcJ := 29) (stJ := [.int 4, .ref 0]) rfl ?_
        refine j_V.cl xbF7_M xbF7_29 rfl (md := 3) (mj := 161) rfl (by decide) xb50_M (As := [.ref 0, .int 4]) (rest := []) (jk_spl3 (K.at rfl) rfl rfl rfl (Nat.le_of_ble_eq_true rfl) (Nat.le_of_ble_eq_true rfl)) (fun d => xb50_ok (K.fi [0] rfl rfl)) ?_
        rintro r h9 ⟨rfl, K9⟩
        have K : KN h9 [(0, .inl (9, [.ref 1, .ref 3, .ref 4, .ref 29, .ref 281, .ref 325, .ref 343, .ref 327, .int ((x_qrefuse sst 4).2)])), (4, .inl (7, [.ref 343, .int mi, .int shu, .int bus, .ref 5, .ref 6, .ref 7, .ref 8, .ref 9, .ref 10, .ref 11, .ref 12, .ref 13, .ref 14, .ref 15, .int lks, .ref 16, .ref 17, .ref 20])), (5, .inr (.inl (0, rk))), (7, .inr (.inl (0, ph))), (281, .inl (1, [.ref 282, .ref 307, .ref 323, .ref 324])), (343, .inl (2, [.int (nI S), .ref 344, .ref 345, .ref 346, .ref 347, .int (nI n), .ref 348, .ref 349, .ref 350, .ref 351, .ref 352, .ref 353, .ref 354, .int cel, .ref 355, .ref 356, .ref 357, .ref 358])), (346, .inr (.inl (0, tra))), (351, .inr (.inl (0, tto)))] g0 := K.mg K9 rfl rfl
        clear K9
        show j_V jP _ 143 32 lv [.int ((x_qrefuse sst 4).1)] h9 _
        refine j_V.ri xbF7_M xbF7_32 ?_
        refine ⟨((x_qrefuse sst 4).1), ?_⟩
        exact fqP.yes R0 FA TA (fun x g => KN.off K9 K (lkn (fun z => g z.symm) (lke (lke (lke (lke (lke (lke (lke rfl))))))))) (K.at rfl)
    · replace c5_0 : (x_isTrain (nI n) (nI t)) = 0 := jd_nen c5_0
      exact absurd c5_0 c2
  have c3 : ¬ ((gA ph (nI t)) = 3) := fun z => m3 (e6.symm.trans z)
  have es : (m_qslack n th sst' w (nI t)).2.2 = 0 := by unfold m_qslack; rw [if_neg m2, if_neg m3]; exact slack_st _ _ _ _ _ _ _ _
  rw [es]
  have hl : ∀ (f i : Nat) (b : Int32) (lv : J_L) (hc : J_H), i + f = 100 → LK lv [(0, .ref 0), (1, .int (nI t)), (2, .int b), (3, .int (nI i))] → hF 343 n S w hc → (∀ x, (x < 282 ∨ 324 < x) → hc[x]? = g0[x]?) → j_V jP d 143 49 lv [] hc (fun rv h' => ∃ v, fqP 343 327 n S w (v, 0, 0) rv g0 h') := by
    intro f
    induction f with
    | zero =>
      intro i b lv hc hif L P FA
      have e0 : 99 < (nI i) := by rw [show i = 100 by omega]; decide
      have TA := P.2.2.1
      have K9 : kA hc [(0, .inl (9, [.ref 1, .ref 3, .ref 4, .ref 29, .ref 281, .ref 325, .ref 343, .ref 327, .int sst])), (4, .inl (7, [.ref 343, .int mi, .int shu, .int bus, .ref 5, .ref 6, .ref 7, .ref 8, .ref 9, .ref 10, .ref 11, .ref 12, .ref 13, .ref 14, .ref 15, .int lks, .ref 16, .ref 17, .ref 20])), (5, .inr (.inl (0, rk))), (7, .inr (.inl (0, ph))), (281, .inl (1, [.ref 282, .ref 307, .ref 323, .ref 324])), (343, .inl (2, [.int (nI S), .ref 344, .ref 345, .ref 346, .ref 347, .int (nI n), .ref 348, .ref 349, .ref 350, .ref 351, .ref 352, .ref 353, .ref 354, .int cel, .ref 355, .ref 356, .ref 357, .ref 358])), (346, .inr (.inl (0, tra))), (351, .inr (.inl (0, tto)))] := ⟨(FA 0 (by decide)).trans C0, (FA 4 (by decide)).trans CS.1, (FA 5 (by decide)).trans CS.2.1, (FA 7 (by decide)).trans CS.2.2.2.1, P.2.2.2, (FA 343 (by decide)).trans CL.1, (FA 346 (by decide)).trans CL.2.2.1, (FA 351 (by decide)).trans CL.2.2.2.2.2.2.1, trivial⟩
      have K : KN hc [(0, .inl (9, [.ref 1, .ref 3, .ref 4, .ref 29, .ref 281, .ref 325, .ref 343, .ref 327, .int sst])), (4, .inl (7, [.ref 343, .int mi, .int shu, .int bus, .ref 5, .ref 6, .ref 7, .ref 8, .ref 9, .ref 10, .ref 11, .ref 12, .ref 13, .ref 14, .ref 15, .int lks, .ref 16, .ref 17, .ref 20])), (5, .inr (.inl (0, rk))), (7, .inr (.inl (0, ph))), (281, .inl (1, [.ref 282, .ref 307, .ref 323, .ref 324])), (343, .inl (2, [.int (nI S), .ref 344, .ref 345, .ref 346, .ref 347, .int (nI n), .ref 348, .ref 349, .ref 350, .ref 351, .ref 352, .ref 353, .ref 354, .int cel, .ref 355, .ref 356, .ref 357, .ref 358])), (346, .inr (.inl (0, tra))), (351, .inr (.inl (0, tto)))] hc := K9.K
      refine j_V.ldL xbF7_M xbF7_49 rfl (i := 3) (kd := 0) (v := .int (nI i)) (pcJ := 50) rfl L rfl rfl rfl ?_
      refine j_V.one xbF7_M xbF7_50 (by decide) (pcJ := 52) (stJ := [.int 99, .int (nI i)]) rfl ?_
      refine j_V.icmp xbF7_M xbF7_52 (t := 86) rfl (fun c52_0 => ?_) (fun c52_0 => ?_)
      · replace c52_0 : 99 < (nI i) := jd_gt c52_0
        refine j_V.ldL xbF7_M xbF7_86 rfl (i := 0) (kd := 2) (v := .ref 0) (pcJ := 87) rfl L rfl rfl rfl ?_
        refine j_V.one xbF7_M xbF7_87 (by decide) (pcJ := 89) (stJ := [.int 99, .ref 0]) rfl ?_
        refine j_V.cl xbF7_M xbF7_89 rfl (md := 3) (mj := 159) rfl (by decide) xb49_M (As := [.ref 0, .int 99]) (rest := []) (jk_spl3 (K.at rfl) rfl rfl rfl (Nat.le_of_ble_eq_true rfl) (Nat.le_of_ble_eq_true rfl)) (fun d => xb49_ok (K.fi [0] rfl rfl)) ?_
        rintro r h9 ⟨rfl, K9⟩
        have K : KN h9 [(0, .inl (9, [.ref 1, .ref 3, .ref 4, .ref 29, .ref 281, .ref 325, .ref 343, .ref 327, .int ((x_qanswer sst 99).2)])), (4, .inl (7, [.ref 343, .int mi, .int shu, .int bus, .ref 5, .ref 6, .ref 7, .ref 8, .ref 9, .ref 10, .ref 11, .ref 12, .ref 13, .ref 14, .ref 15, .int lks, .ref 16, .ref 17, .ref 20])), (5, .inr (.inl (0, rk))), (7, .inr (.inl (0, ph))), (281, .inl (1, [.ref 282, .ref 307, .ref 323, .ref 324])), (343, .inl (2, [.int (nI S), .ref 344, .ref 345, .ref 346, .ref 347, .int (nI n), .ref 348, .ref 349, .ref 350, .ref 351, .ref 352, .ref 353, .ref 354, .int cel, .ref 355, .ref 356, .ref 357, .ref 358])), (346, .inr (.inl (0, tra))), (351, .inr (.inl (0, tto)))] hc := K.mg K9 rfl rfl
        clear K9
        show j_V jP _ 143 92 lv [.int ((x_qanswer sst 99).1)] h9 _
        refine j_V.ri xbF7_M xbF7_92 ?_
        refine ⟨((x_qanswer sst 99).1), ?_⟩
        exact fqP.yes R0 FA TA (fun x g => KN.off K9 K (lkn (fun z => g z.symm) (lke (lke (lke (lke (lke (lke (lke rfl))))))))) (K.at rfl)
      · replace c52_0 : ¬ (99 < (nI i)) := jd_gtn c52_0
        exact absurd e0 c52_0
    | succ f ih =>
      intro i b lv hc hif L P FA
      have e0 : ¬ (99 < (nI i)) := by rw [Int32.not_lt, Int32.le_iff_toInt_le, nI_toInt (by omega)]; exact (show (i : Int) ≤ 99 by omega)
      have en : (nI i) + 1 = nI (i + 1) := nI_add9 i 1
      have TA := P.2.2.1
      have K9 : kA hc [(0, .inl (9, [.ref 1, .ref 3, .ref 4, .ref 29, .ref 281, .ref 325, .ref 343, .ref 327, .int sst])), (4, .inl (7, [.ref 343, .int mi, .int shu, .int bus, .ref 5, .ref 6, .ref 7, .ref 8, .ref 9, .ref 10, .ref 11, .ref 12, .ref 13, .ref 14, .ref 15, .int lks, .ref 16, .ref 17, .ref 20])), (5, .inr (.inl (0, rk))), (7, .inr (.inl (0, ph))), (281, .inl (1, [.ref 282, .ref 307, .ref 323, .ref 324])), (343, .inl (2, [.int (nI S), .ref 344, .ref 345, .ref 346, .ref 347, .int (nI n), .ref 348, .ref 349, .ref 350, .ref 351, .ref 352, .ref 353, .ref 354, .int cel, .ref 355, .ref 356, .ref 357, .ref 358])), (346, .inr (.inl (0, tra))), (351, .inr (.inl (0, tto)))] := ⟨(FA 0 (by decide)).trans C0, (FA 4 (by decide)).trans CS.1, (FA 5 (by decide)).trans CS.2.1, (FA 7 (by decide)).trans CS.2.2.2.1, P.2.2.2, (FA 343 (by decide)).trans CL.1, (FA 346 (by decide)).trans CL.2.2.1, (FA 351 (by decide)).trans CL.2.2.2.2.2.2.1, trivial⟩
      have K : KN hc [(0, .inl (9, [.ref 1, .ref 3, .ref 4, .ref 29, .ref 281, .ref 325, .ref 343, .ref 327, .int sst])), (4, .inl (7, [.ref 343, .int mi, .int shu, .int bus, .ref 5, .ref 6, .ref 7, .ref 8, .ref 9, .ref 10, .ref 11, .ref 12, .ref 13, .ref 14, .ref 15, .int lks, .ref 16, .ref 17, .ref 20])), (5, .inr (.inl (0, rk))), (7, .inr (.inl (0, ph))), (281, .inl (1, [.ref 282, .ref 307, .ref 323, .ref 324])), (343, .inl (2, [.int (nI S), .ref 344, .ref 345, .ref 346, .ref 347, .int (nI n), .ref 348, .ref 349, .ref 350, .ref 351, .ref 352, .ref 353, .ref 354, .int cel, .ref 355, .ref 356, .ref 357, .ref 358])), (346, .inr (.inl (0, tra))), (351, .inr (.inl (0, tto)))] hc := K9.K
      refine j_V.ldL xbF7_M xbF7_49 rfl (i := 3) (kd := 0) (v := .int (nI i)) (pcJ := 50) rfl L rfl rfl rfl ?_
      refine j_V.one xbF7_M xbF7_50 (by decide) (pcJ := 52) (stJ := [.int 99, .int (nI i)]) rfl ?_
      refine j_V.icmp xbF7_M xbF7_52 (t := 86) rfl (fun c52_0 => ?_) (fun c52_0 => ?_)
      · replace c52_0 : 99 < (nI i) := jd_gt c52_0
        exact absurd c52_0 e0
      · replace c52_0 : ¬ (99 < (nI i)) := jd_gtn c52_0
        refine j_V.ldL xbF7_M xbF7_55 rfl (i := 0) (kd := 2) (v := .ref 0) (pcJ := 56) rfl L rfl rfl rfl ?_
        refine j_V.getK xbF7_M xbF7_56 (ci := 9) (j := 4) rfl K rfl rfl ?_
        refine j_V.ldL xbF7_M xbF7_59 rfl (i := 0) (kd := 2) (v := .ref 0) (pcJ := 60) rfl L rfl rfl rfl ?_
        refine j_V.getK xbF7_M xbF7_60 (ci := 9) (j := 2) rfl K rfl rfl ?_
        refine j_V.ldL xbF7_M xbF7_63 rfl (i := 1) (kd := 0) (v := .int (nI t)) (pcJ := 64) rfl L rfl rfl rfl ?_
        refine j_V.ldL xbF7_M xbF7_64 rfl (i := 3) (kd := 0) (v := .int (nI i)) (pcJ := 65) rfl L rfl rfl rfl ?_
        refine j_V.cl xbF7_M xbF7_65 rfl (md := 3) (mj := 8) rfl (by decide) fp1_M (As := [.ref 281, .ref 4, .int (nI t), .int (nI i)]) (rest := []) (jk_spl3 (K.at rfl) rfl rfl rfl (Nat.le_of_ble_eq_true rfl) (Nat.le_of_ble_eq_true rfl)) (fun d => hp_held_343 P hm ht hb) ?_
        rintro r h22 ⟨rfl, TA, F9⟩
        replace FA : ∀ x, (x < 282 ∨ 324 < x) → h22[x]? = g0[x]? := fun x g => (F9 x (by omega)).trans (FA x g)
        replace P : hF 343 n S w h22 := P.fr (fun x g => F9 x (by omega)) TA
        have K9 : kA h22 [(0, .inl (9, [.ref 1, .ref 3, .ref 4, .ref 29, .ref 281, .ref 325, .ref 343, .ref 327, .int sst])), (4, .inl (7, [.ref 343, .int mi, .int shu, .int bus, .ref 5, .ref 6, .ref 7, .ref 8, .ref 9, .ref 10, .ref 11, .ref 12, .ref 13, .ref 14, .ref 15, .int lks, .ref 16, .ref 17, .ref 20])), (5, .inr (.inl (0, rk))), (7, .inr (.inl (0, ph))), (281, .inl (1, [.ref 282, .ref 307, .ref 323, .ref 324])), (343, .inl (2, [.int (nI S), .ref 344, .ref 345, .ref 346, .ref 347, .int (nI n), .ref 348, .ref 349, .ref 350, .ref 351, .ref 352, .ref 353, .ref 354, .int cel, .ref 355, .ref 356, .ref 357, .ref 358])), (346, .inr (.inl (0, tra))), (351, .inr (.inl (0, tto)))] := ⟨(FA 0 (by decide)).trans C0, (FA 4 (by decide)).trans CS.1, (FA 5 (by decide)).trans CS.2.1, (FA 7 (by decide)).trans CS.2.2.2.1, P.2.2.2, (FA 343 (by decide)).trans CL.1, (FA 346 (by decide)).trans CL.2.2.1, (FA 351 (by decide)).trans CL.2.2.2.2.2.2.1, trivial⟩
        have K : KN h22 [(0, .inl (9, [.ref 1, .ref 3, .ref 4, .ref 29, .ref 281, .ref 325, .ref 343, .ref 327, .int sst])), (4, .inl (7, [.ref 343, .int mi, .int shu, .int bus, .ref 5, .ref 6, .ref 7, .ref 8, .ref 9, .ref 10, .ref 11, .ref 12, .ref 13, .ref 14, .ref 15, .int lks, .ref 16, .ref 17, .ref 20])), (5, .inr (.inl (0, rk))), (7, .inr (.inl (0, ph))), (281, .inl (1, [.ref 282, .ref 307, .ref 323, .ref 324])), (343, .inl (2, [.int (nI S), .ref 344, .ref 345, .ref 346, .ref 347, .int (nI n), .ref 348, .ref 349, .ref 350, .ref 351, .ref 352, .ref 353, .ref 354, .int cel, .ref 355, .ref 356, .ref 357, .ref 358])), (346, .inr (.inl (0, tra))), (351, .inr (.inl (0, tto)))] h22 := K9.K
        show j_V jP _ 143 68 lv [.int (pE n (w.set (56 + 28 * t + 10) (gN w 201 + (nI i))))] h22 _
        refine j_V.ldL xbF7_M xbF7_68 rfl (i := 2) (kd := 0) (v := .int b) (pcJ := 69) rfl L rfl rfl rfl ?_
        refine j_V.icmp xbF7_M xbF7_69 (t := 80) rfl (fun c69_0 => ?_) (fun c69_0 => ?_)
        · replace c69_0 : ¬ (b < (pE n (w.set (56 + 28 * t + 10) (gN w 201 + (nI i))))) := jd_le c69_0
          refine j_V.inL xbF7_M xbF7_80 (i := 3) (kl' := [(0, .ref 0), (1, .int (nI t)), (2, .int b), (3, .int ((nI i) + 1))]) (pcJ := 83) L rfl rfl rfl rfl (fun lv L => ?_)
          refine j_V.gto xbF7_M xbF7_83 (t := 49) rfl ?_
          rw [en] at L
          exact ih (i + 1) b _ _ (by omega) L P FA
        · replace c69_0 : b < (pE n (w.set (56 + 28 * t + 10) (gN w 201 + (nI i)))) := jd_len c69_0
          refine j_V.ldL xbF7_M xbF7_72 rfl (i := 0) (kd := 2) (v := .ref 0) (pcJ := 73) rfl L rfl rfl rfl ?_
          refine j_V.ldL xbF7_M xbF7_73 rfl (i := 3) (kd := 0) (v := .int (nI i)) (pcJ := 74) rfl L rfl rfl rfl ?_
          refine j_V.one xbF7_M xbF7_74 (by decide) (pcJ := 75) (stJ := [.int 1, .int (nI i), .ref 0]) rfl ?_
          refine j_V.one xbF7_M xbF7_75 (by decide) (pcJ := 76) (stJ := [.int ((nI i) - 1), .ref 0]) rfl ?_
          refine j_V.cl xbF7_M xbF7_76 rfl (md := 3) (mj := 159) rfl (by decide) xb49_M (As := [.ref 0, .int ((nI i) - 1)]) (rest := []) (jk_spl3 (K.at rfl) rfl rfl rfl (Nat.le_of_ble_eq_true rfl) (Nat.le_of_ble_eq_true rfl)) (fun d => xb49_ok (K.fi [0] rfl rfl)) ?_
          rintro r h9 ⟨rfl, K9⟩
          have K : KN h9 [(0, .inl (9, [.ref 1, .ref 3, .ref 4, .ref 29, .ref 281, .ref 325, .ref 343, .ref 327, .int ((x_qanswer sst ((nI i) - 1)).2)])), (4, .inl (7, [.ref 343, .int mi, .int shu, .int bus, .ref 5, .ref 6, .ref 7, .ref 8, .ref 9, .ref 10, .ref 11, .ref 12, .ref 13, .ref 14, .ref 15, .int lks, .ref 16, .ref 17, .ref 20])), (5, .inr (.inl (0, rk))), (7, .inr (.inl (0, ph))), (281, .inl (1, [.ref 282, .ref 307, .ref 323, .ref 324])), (343, .inl (2, [.int (nI S), .ref 344, .ref 345, .ref 346, .ref 347, .int (nI n), .ref 348, .ref 349, .ref 350, .ref 351, .ref 352, .ref 353, .ref 354, .int cel, .ref 355, .ref 356, .ref 357, .ref 358])), (346, .inr (.inl (0, tra))), (351, .inr (.inl (0, tto)))] h22 := K.mg K9 rfl rfl
          clear K9
          show j_V jP _ 143 79 lv [.int ((x_qanswer sst ((nI i) - 1)).1)] h9 _
          refine j_V.ri xbF7_M xbF7_79 ?_
          refine ⟨((x_qanswer sst ((nI i) - 1)).1), ?_⟩
          exact fqP.yes R0 FA TA (fun x g => KN.off K9 K (lkn (fun z => g z.symm) (lke (lke (lke (lke (lke (lke (lke rfl))))))))) (K.at rfl)
  have FA : ∀ x, (x < 282 ∨ 324 < x) → g0[x]? = g0[x]? := fun x _ => rfl
  have TA := P.2.2.1
  have K9 : kA g0 [(0, .inl (9, [.ref 1, .ref 3, .ref 4, .ref 29, .ref 281, .ref 325, .ref 343, .ref 327, .int sst])), (4, .inl (7, [.ref 343, .int mi, .int shu, .int bus, .ref 5, .ref 6, .ref 7, .ref 8, .ref 9, .ref 10, .ref 11, .ref 12, .ref 13, .ref 14, .ref 15, .int lks, .ref 16, .ref 17, .ref 20])), (5, .inr (.inl (0, rk))), (7, .inr (.inl (0, ph))), (281, .inl (1, [.ref 282, .ref 307, .ref 323, .ref 324])), (343, .inl (2, [.int (nI S), .ref 344, .ref 345, .ref 346, .ref 347, .int (nI n), .ref 348, .ref 349, .ref 350, .ref 351, .ref 352, .ref 353, .ref 354, .int cel, .ref 355, .ref 356, .ref 357, .ref 358])), (346, .inr (.inl (0, tra))), (351, .inr (.inl (0, tto)))] := ⟨(FA 0 (by decide)).trans C0, (FA 4 (by decide)).trans CS.1, (FA 5 (by decide)).trans CS.2.1, (FA 7 (by decide)).trans CS.2.2.2.1, P.2.2.2, (FA 343 (by decide)).trans CL.1, (FA 346 (by decide)).trans CL.2.2.1, (FA 351 (by decide)).trans CL.2.2.2.2.2.2.1, trivial⟩
  have K : KN g0 [(0, .inl (9, [.ref 1, .ref 3, .ref 4, .ref 29, .ref 281, .ref 325, .ref 343, .ref 327, .int sst])), (4, .inl (7, [.ref 343, .int mi, .int shu, .int bus, .ref 5, .ref 6, .ref 7, .ref 8, .ref 9, .ref 10, .ref 11, .ref 12, .ref 13, .ref 14, .ref 15, .int lks, .ref 16, .ref 17, .ref 20])), (5, .inr (.inl (0, rk))), (7, .inr (.inl (0, ph))), (281, .inl (1, [.ref 282, .ref 307, .ref 323, .ref 324])), (343, .inl (2, [.int (nI S), .ref 344, .ref 345, .ref 346, .ref 347, .int (nI n), .ref 348, .ref 349, .ref 350, .ref 351, .ref 352, .ref 353, .ref 354, .int cel, .ref 355, .ref 356, .ref 357, .ref 358])), (346, .inr (.inl (0, tra))), (351, .inr (.inl (0, tto)))] g0 := K9.K
  show j_V jP d 143 0 [(0, .ref 0), (1, .int (nI t))] [] g0 _
  obtain ⟨lv, elv, L⟩ : ∃ lv, lv = [(0, .ref 0), (1, .int (nI t))] ∧ LK lv [(0, .ref 0), (1, .int (nI t))] := ⟨_, rfl, LK.rf⟩
  rw [← elv]
  clear elv
  refine j_V.ldL xbF7_M xbF7_0 rfl (i := 0) (kd := 2) (v := .ref 0) (pcJ := 1) rfl L rfl rfl rfl ?_
  refine j_V.ldL xbF7_M xbF7_1 rfl (i := 1) (kd := 0) (v := .int (nI t)) (pcJ := 2) rfl L rfl rfl rfl ?_
  refine j_V.cl xbF7_M xbF7_2 rfl (md := 3) (mj := 165) rfl (by decide) xb47_M (As := [.ref 0, .int (nI t)]) (rest := []) (jk_spl3 (K.at rfl) rfl rfl rfl (Nat.le_of_ble_eq_true rfl) (Nat.le_of_ble_eq_true rfl)) (fun d => xb47_ok (K.fi [0, 343] rfl rfl)) ?_
  rintro r hz ⟨rfl, ez⟩
  rw [ez]
  clear ez
  show j_V jP _ 143 5 lv [.int (x_isTrain (nI n) (nI t))] g0 _
  refine j_V.ifc xbF7_M xbF7_5 (t := 14) rfl (fun c5_0 => ?_) (fun c5_0 => ?_)
  · replace c5_0 : ¬ ((x_isTrain (nI n) (nI t)) = 0) := jd_ne c5_0
    refine j_V.ldL xbF7_M xbF7_14 rfl (i := 0) (kd := 2) (v := .ref 0) (pcJ := 15) rfl L rfl rfl rfl ?_
    refine j_V.getK xbF7_M xbF7_15 (ci := 9) (j := 2) rfl K rfl rfl ?_
    refine j_V.getK xbF7_M xbF7_18 (ci := 7) (j := 6) rfl K rfl rfl ?_
    refine j_V.ldL xbF7_M xbF7_21 rfl (i := 1) (kd := 0) (v := .int (nI t)) (pcJ := 22) rfl L rfl rfl rfl ?_
    refine j_V.iaA xbF7_M xbF7_22 K rfl ?_
    refine j_V.one xbF7_M xbF7_23 (by decide) (pcJ := 24) (stJ := [.int 3, .int (gA ph (nI t))]) rfl ?_
    refine j_V.icmp xbF7_M xbF7_24 (t := 33) rfl (fun c24_0 => ?_) (fun c24_0 => ?_)
    · replace c24_0 : ¬ ((gA ph (nI t)) = 3) := jd_ne c24_0
      refine j_V.ldL xbF7_M xbF7_33 rfl (i := 0) (kd := 2) (v := .ref 0) (pcJ := 34) rfl L rfl rfl rfl ?_
      refine j_V.getK xbF7_M xbF7_34 (ci := 9) (j := 4) rfl K rfl rfl ?_
      refine j_V.ldL xbF7_M xbF7_37 rfl (i := 0) (kd := 2) (v := .ref 0) (pcJ := 38) rfl L rfl rfl rfl ?_
      refine j_V.getK xbF7_M xbF7_38 (ci := 9) (j := 2) rfl K rfl rfl ?_
      refine j_V.ldL xbF7_M xbF7_41 rfl (i := 1) (kd := 0) (v := .int (nI t)) (pcJ := 42) rfl L rfl rfl rfl ?_
      refine j_V.one xbF7_M xbF7_42 (by decide) (pcJ := 43) (stJ := [.int 0, .int (nI t), .ref 4, .ref 281]) rfl ?_
      refine j_V.cl xbF7_M xbF7_43 rfl (md := 3) (mj := 8) rfl (by decide) fp1_M (As := [.ref 281, .ref 4, .int (nI t), .int 0]) (rest := []) (jk_spl3 (K.at rfl) rfl rfl rfl (Nat.le_of_ble_eq_true rfl) (Nat.le_of_ble_eq_true rfl)) (fun d => hp_held_343 P hm ht hb) ?_
      rintro r h23 ⟨rfl, TA, F9⟩
      replace FA : ∀ x, (x < 282 ∨ 324 < x) → h23[x]? = g0[x]? := fun x g => (F9 x (by omega)).trans (FA x g)
      replace P : hF 343 n S w h23 := P.fr (fun x g => F9 x (by omega)) TA
      have K9 : kA h23 [(0, .inl (9, [.ref 1, .ref 3, .ref 4, .ref 29, .ref 281, .ref 325, .ref 343, .ref 327, .int sst])), (4, .inl (7, [.ref 343, .int mi, .int shu, .int bus, .ref 5, .ref 6, .ref 7, .ref 8, .ref 9, .ref 10, .ref 11, .ref 12, .ref 13, .ref 14, .ref 15, .int lks, .ref 16, .ref 17, .ref 20])), (5, .inr (.inl (0, rk))), (7, .inr (.inl (0, ph))), (281, .inl (1, [.ref 282, .ref 307, .ref 323, .ref 324])), (343, .inl (2, [.int (nI S), .ref 344, .ref 345, .ref 346, .ref 347, .int (nI n), .ref 348, .ref 349, .ref 350, .ref 351, .ref 352, .ref 353, .ref 354, .int cel, .ref 355, .ref 356, .ref 357, .ref 358])), (346, .inr (.inl (0, tra))), (351, .inr (.inl (0, tto)))] := ⟨(FA 0 (by decide)).trans C0, (FA 4 (by decide)).trans CS.1, (FA 5 (by decide)).trans CS.2.1, (FA 7 (by decide)).trans CS.2.2.2.1, P.2.2.2, (FA 343 (by decide)).trans CL.1, (FA 346 (by decide)).trans CL.2.2.1, (FA 351 (by decide)).trans CL.2.2.2.2.2.2.1, trivial⟩
      have K : KN h23 [(0, .inl (9, [.ref 1, .ref 3, .ref 4, .ref 29, .ref 281, .ref 325, .ref 343, .ref 327, .int sst])), (4, .inl (7, [.ref 343, .int mi, .int shu, .int bus, .ref 5, .ref 6, .ref 7, .ref 8, .ref 9, .ref 10, .ref 11, .ref 12, .ref 13, .ref 14, .ref 15, .int lks, .ref 16, .ref 17, .ref 20])), (5, .inr (.inl (0, rk))), (7, .inr (.inl (0, ph))), (281, .inl (1, [.ref 282, .ref 307, .ref 323, .ref 324])), (343, .inl (2, [.int (nI S), .ref 344, .ref 345, .ref 346, .ref 347, .int (nI n), .ref 348, .ref 349, .ref 350, .ref 351, .ref 352, .ref 353, .ref 354, .int cel, .ref 355, .ref 356, .ref 357, .ref 358])), (346, .inr (.inl (0, tra))), (351, .inr (.inl (0, tto)))] h23 := K9.K
      show j_V jP _ 143 46 lv [.int (pE n (w.set (56 + 28 * t + 10) (gN w 201 + 0)))] h23 _
      refine j_V.stL xbF7_M xbF7_46 rfl (i := 2) (kd := 0) (kl' := [(0, .ref 0), (1, .int (nI t)), (2, .int (pE n (w.set (56 + 28 * t + 10) (gN w 201 + 0))))]) (pcJ := 47) rfl L rfl (by decide) rfl rfl rfl (fun lv L => ?_)
      refine j_V.one xbF7_M xbF7_47 (by decide) (pcJ := 48) (stJ := [.int 1]) rfl ?_
      refine j_V.stL xbF7_M xbF7_48 rfl (i := 3) (kd := 0) (kl' := [(0, .ref 0), (1, .int (nI t)), (2, .int (pE n (w.set (56 + 28 * t + 10) (gN w 201 + 0)))), (3, .int 1)]) (pcJ := 49) rfl L rfl (by decide) rfl rfl rfl (fun lv L => ?_)
      exact hl 99 1 _ _ _ (by omega) L P FA
    · replace c24_0 : (gA ph (nI t)) = 3 := jd_nen c24_0
      exact absurd c24_0 c3
  · replace c5_0 : (x_isTrain (nI n) (nI t)) = 0 := jd_nen c5_0
    exact absurd c5_0 c2
set_option maxRecDepth 100000 in
theorem xbF8_M : j_meth jP 144 = some (yX9_band, cX9_band, 7, (some .int), 2, false, 9) := rfl
set_option maxRecDepth 100000 in
theorem xbF8_0 : j_code jP 144 0 = some (.aload_n 0) := rfl
set_option maxRecDepth 100000 in
theorem xbF8_1 : j_code jP 144 1 = some (.iload_n 1) := rfl
set_option maxRecDepth 100000 in
theorem xbF8_2 : j_code jP 144 2 = some (.invokevirtual 184) := rfl
set_option maxRecDepth 100000 in
theorem xbF8_5 : j_code jP 144 5 = some (.ifCond .ne 9) := rfl
set_option maxRecDepth 100000 in
theorem xbF8_8 : j_code jP 144 8 = some (.aload_n 0) := rfl
set_option maxRecDepth 100000 in
theorem xbF8_9 : j_code jP 144 9 = some (.iconst 2) := rfl
set_option maxRecDepth 100000 in
theorem xbF8_10 : j_code jP 144 10 = some (.invokevirtual 84) := rfl
set_option maxRecDepth 100000 in
theorem xbF8_13 : j_code jP 144 13 = some (.ireturn) := rfl
set_option maxRecDepth 100000 in
theorem xbF8_14 : j_code jP 144 14 = some (.aload_n 0) := rfl
set_option maxRecDepth 100000 in
theorem xbF8_15 : j_code jP 144 15 = some (.getfield 30) := rfl
set_option maxRecDepth 100000 in
theorem xbF8_18 : j_code jP 144 18 = some (.getfield 205) := rfl
set_option maxRecDepth 100000 in
theorem xbF8_21 : j_code jP 144 21 = some (.iload_n 1) := rfl
set_option maxRecDepth 100000 in
theorem xbF8_22 : j_code jP 144 22 = some (.iaload) := rfl
set_option maxRecDepth 100000 in
theorem xbF8_23 : j_code jP 144 23 = some (.ifCond .eq 9) := rfl
set_option maxRecDepth 100000 in
theorem xbF8_26 : j_code jP 144 26 = some (.aload_n 0) := rfl
set_option maxRecDepth 100000 in
theorem xbF8_27 : j_code jP 144 27 = some (.iconst 5) := rfl
set_option maxRecDepth 100000 in
theorem xbF8_28 : j_code jP 144 28 = some (.invokevirtual 84) := rfl
set_option maxRecDepth 100000 in
theorem xbF8_31 : j_code jP 144 31 = some (.ireturn) := rfl
set_option maxRecDepth 100000 in
theorem xbF8_32 : j_code jP 144 32 = some (.iconst 0) := rfl
set_option maxRecDepth 100000 in
theorem xbF8_33 : j_code jP 144 33 = some (.istore_n 3) := rfl
set_option maxRecDepth 100000 in
theorem xbF8_34 : j_code jP 144 34 = some (.aload_n 0) := rfl
set_option maxRecDepth 100000 in
theorem xbF8_35 : j_code jP 144 35 = some (.getfield 44) := rfl
set_option maxRecDepth 100000 in
theorem xbF8_38 : j_code jP 144 38 = some (.aload_n 0) := rfl
set_option maxRecDepth 100000 in
theorem xbF8_39 : j_code jP 144 39 = some (.getfield 30) := rfl
set_option maxRecDepth 100000 in
theorem xbF8_42 : j_code jP 144 42 = some (.iload_n 1) := rfl
set_option maxRecDepth 100000 in
theorem xbF8_43 : j_code jP 144 43 = some (.iconst 0) := rfl
set_option maxRecDepth 100000 in
theorem xbF8_44 : j_code jP 144 44 = some (.invokevirtual 344) := rfl
set_option maxRecDepth 100000 in
theorem xbF8_47 : j_code jP 144 47 = some (.istore 4) := rfl
set_option maxRecDepth 100000 in
theorem xbF8_49 : j_code jP 144 49 = some (.iconst 1) := rfl
set_option maxRecDepth 100000 in
theorem xbF8_50 : j_code jP 144 50 = some (.istore 5) := rfl
set_option maxRecDepth 100000 in
theorem xbF8_52 : j_code jP 144 52 = some (.iload 5) := rfl
set_option maxRecDepth 100000 in
theorem xbF8_54 : j_code jP 144 54 = some (.bipush 60) := rfl
set_option maxRecDepth 100000 in
theorem xbF8_56 : j_code jP 144 56 = some (.if_icmp .gt 39) := rfl
set_option maxRecDepth 100000 in
theorem xbF8_59 : j_code jP 144 59 = some (.aload_n 0) := rfl
set_option maxRecDepth 100000 in
theorem xbF8_60 : j_code jP 144 60 = some (.getfield 44) := rfl
set_option maxRecDepth 100000 in
theorem xbF8_63 : j_code jP 144 63 = some (.aload_n 0) := rfl
set_option maxRecDepth 100000 in
theorem xbF8_64 : j_code jP 144 64 = some (.getfield 30) := rfl
set_option maxRecDepth 100000 in
theorem xbF8_67 : j_code jP 144 67 = some (.iload_n 1) := rfl
set_option maxRecDepth 100000 in
theorem xbF8_68 : j_code jP 144 68 = some (.iload 5) := rfl
set_option maxRecDepth 100000 in
theorem xbF8_70 : j_code jP 144 70 = some (.invokevirtual 344) := rfl
set_option maxRecDepth 100000 in
theorem xbF8_73 : j_code jP 144 73 = some (.istore 6) := rfl
set_option maxRecDepth 100000 in
theorem xbF8_75 : j_code jP 144 75 = some (.iload 6) := rfl
set_option maxRecDepth 100000 in
theorem xbF8_77 : j_code jP 144 77 = some (.iload 4) := rfl
set_option maxRecDepth 100000 in
theorem xbF8_79 : j_code jP 144 79 = some (.if_icmp .ge 10) := rfl
set_option maxRecDepth 100000 in
theorem xbF8_82 : j_code jP 144 82 = some (.iload 5) := rfl
set_option maxRecDepth 100000 in
theorem xbF8_84 : j_code jP 144 84 = some (.istore_n 3) := rfl
set_option maxRecDepth 100000 in
theorem xbF8_85 : j_code jP 144 85 = some (.iload 6) := rfl
set_option maxRecDepth 100000 in
theorem xbF8_87 : j_code jP 144 87 = some (.istore 4) := rfl
set_option maxRecDepth 100000 in
theorem xbF8_89 : j_code jP 144 89 = some (.iinc 5 1) := rfl
set_option maxRecDepth 100000 in
theorem xbF8_92 : j_code jP 144 92 = some (.goto (-40)) := rfl
set_option maxRecDepth 100000 in
theorem xbF8_95 : j_code jP 144 95 = some (.aload_n 0) := rfl
set_option maxRecDepth 100000 in
theorem xbF8_96 : j_code jP 144 96 = some (.iload_n 2) := rfl
set_option maxRecDepth 100000 in
theorem xbF8_97 : j_code jP 144 97 = some (.ifCond .eq 8) := rfl
set_option maxRecDepth 100000 in
theorem xbF8_100 : j_code jP 144 100 = some (.iload 4) := rfl
set_option maxRecDepth 100000 in
theorem xbF8_102 : j_code jP 144 102 = some (.goto 4) := rfl
set_option maxRecDepth 100000 in
theorem xbF8_105 : j_code jP 144 105 = some (.iload_n 3) := rfl
set_option maxRecDepth 100000 in
theorem xbF8_106 : j_code jP 144 106 = some (.invokevirtual 104) := rfl
set_option maxRecDepth 100000 in
theorem xbF8_109 : j_code jP 144 109 = some (.ireturn) := rfl
set_option maxRecDepth 1000000 in
theorem hq_band_B {g0 : J_H} {n S m d : Nat} {w : List Int32} {sst th sst' : Int32} (R : hX 343 327 n S w sst g0) (Q : hT9 282 0 g0) (C281 : g0[281]? = some (.inl (1, [.ref 282, .ref 307, .ref 323, .ref 324]))) (hm : gN w 201 = nI m) (hm9 : m < 2 ^ 29) (hp : ∀ t i, t < n → ft w t 6 = 0 → i < 61 → pE n (w.set (56 + 28 * t + 3) (nI i)) < 2147483647) (x1 : Int32) (x2 : Int32) : j_V jP d 144 0 (lv_args 0 [.ref 0, .int x1, .int x2]) [] g0 (fun rv h' => fqP 343 327 n S w (m_qband n th sst' w x1 x2) rv g0 h') := by
  have R0 := R
  have C0 := R.1
  have P : hF 343 n S w g0 := ⟨R.2.1, R.2.2, Q, C281⟩
  have hb : m + 300 < 2 ^ 30 := by omega
  refine hX.opn R (fun mi shu bus lks rl pev rk sta ph sp ce du he ri us cm lf lkd row sea pms pmm pmt pst pwa prs prr pfa CS hl4 V cel run tra len siz frm tto lst slo wei fit way rid lon CL Y T hlY => ?_)
  have h5 := V.1.n5
  by_cases m2 : m_isTrain w x1 = 0
  · have c2 : (x_isTrain (nI n) x1) = 0 := (g_train V.1.g x1).trans m2
    rw [show m_qband n th sst' w x1 x2 = (-1, 0, 2) by unfold m_qband; rw [if_pos m2]; rfl]
    have FA : ∀ x, (x < 282 ∨ 324 < x) → g0[x]? = g0[x]? := fun x _ => rfl
    have TA := P.2.2.1
    have K9 : kA g0 [(0, .inl (9, [.ref 1, .ref 3, .ref 4, .ref 29, .ref 281, .ref 325, .ref 343, .ref 327, .int sst])), (4, .inl (7, [.ref 343, .int mi, .int shu, .int bus, .ref 5, .ref 6, .ref 7, .ref 8, .ref 9, .ref 10, .ref 11, .ref 12, .ref 13, .ref 14, .ref 15, .int lks, .ref 16, .ref 17, .ref 20])), (5, .inr (.inl (0, rk))), (7, .inr (.inl (0, ph))), (281, .inl (1, [.ref 282, .ref 307, .ref 323, .ref 324])), (343, .inl (2, [.int (nI S), .ref 344, .ref 345, .ref 346, .ref 347, .int (nI n), .ref 348, .ref 349, .ref 350, .ref 351, .ref 352, .ref 353, .ref 354, .int cel, .ref 355, .ref 356, .ref 357, .ref 358])), (346, .inr (.inl (0, tra))), (351, .inr (.inl (0, tto)))] := ⟨(FA 0 (by decide)).trans C0, (FA 4 (by decide)).trans CS.1, (FA 5 (by decide)).trans CS.2.1, (FA 7 (by decide)).trans CS.2.2.2.1, P.2.2.2, (FA 343 (by decide)).trans CL.1, (FA 346 (by decide)).trans CL.2.2.1, (FA 351 (by decide)).trans CL.2.2.2.2.2.2.1, trivial⟩
    have K : KN g0 [(0, .inl (9, [.ref 1, .ref 3, .ref 4, .ref 29, .ref 281, .ref 325, .ref 343, .ref 327, .int sst])), (4, .inl (7, [.ref 343, .int mi, .int shu, .int bus, .ref 5, .ref 6, .ref 7, .ref 8, .ref 9, .ref 10, .ref 11, .ref 12, .ref 13, .ref 14, .ref 15, .int lks, .ref 16, .ref 17, .ref 20])), (5, .inr (.inl (0, rk))), (7, .inr (.inl (0, ph))), (281, .inl (1, [.ref 282, .ref 307, .ref 323, .ref 324])), (343, .inl (2, [.int (nI S), .ref 344, .ref 345, .ref 346, .ref 347, .int (nI n), .ref 348, .ref 349, .ref 350, .ref 351, .ref 352, .ref 353, .ref 354, .int cel, .ref 355, .ref 356, .ref 357, .ref 358])), (346, .inr (.inl (0, tra))), (351, .inr (.inl (0, tto)))] g0 := K9.K
    show j_V jP d 144 0 [(0, .ref 0), (1, .int x1), (2, .int x2)] [] g0 _
    obtain ⟨lv, elv, L⟩ : ∃ lv, lv = [(0, .ref 0), (1, .int x1), (2, .int x2)] ∧ LK lv [(0, .ref 0), (1, .int x1), (2, .int x2)] := ⟨_, rfl, LK.rf⟩
    rw [← elv]
    clear elv
    refine j_V.ldL xbF8_M xbF8_0 rfl (i := 0) (kd := 2) (v := .ref 0) (pcJ := 1) rfl L rfl rfl rfl ?_
    refine j_V.ldL xbF8_M xbF8_1 rfl (i := 1) (kd := 0) (v := .int x1) (pcJ := 2) rfl L rfl rfl rfl ?_
    refine j_V.cl xbF8_M xbF8_2 rfl (md := 3) (mj := 165) rfl (by decide) xb47_M (As := [.ref 0, .int x1]) (rest := []) (jk_spl3 (K.at rfl) rfl rfl rfl (Nat.le_of_ble_eq_true rfl) (Nat.le_of_ble_eq_true rfl)) (fun d => xb47_ok (K.fi [0, 343] rfl rfl)) ?_
    rintro r hz ⟨rfl, ez⟩
    rw [ez]
    clear ez
    show j_V jP _ 144 5 lv [.int (x_isTrain (nI n) x1)] g0 _
    refine j_V.ifc xbF8_M xbF8_5 (t := 14) rfl (fun c5_0 => ?_) (fun c5_0 => ?_)
    · replace c5_0 : ¬ ((x_isTrain (nI n) x1) = 0) := jd_ne c5_0
      exact absurd c2 c5_0
    · replace c5_0 : (x_isTrain (nI n) x1) = 0 := jd_nen c5_0
      refine j_V.ldL xbF8_M xbF8_8 rfl (i := 0) (kd := 2) (v := .ref 0) (pcJ := 9) rfl L rfl rfl rfl ?_
      refine j_V.one xbF8_M xbF8_9 (by decide) (pcJ := 10) (stJ := [.int 2, .ref 0]) rfl ?_
      refine j_V.cl xbF8_M xbF8_10 rfl (md := 3) (mj := 161) rfl (by decide) xb50_M (As := [.ref 0, .int 2]) (rest := []) (jk_spl3 (K.at rfl) rfl rfl rfl (Nat.le_of_ble_eq_true rfl) (Nat.le_of_ble_eq_true rfl)) (fun d => xb50_ok (K.fi [0] rfl rfl)) ?_
      rintro r h9 ⟨rfl, K9⟩
      have K : KN h9 [(0, .inl (9, [.ref 1, .ref 3, .ref 4, .ref 29, .ref 281, .ref 325, .ref 343, .ref 327, .int ((x_qrefuse sst 2).2)])), (4, .inl (7, [.ref 343, .int mi, .int shu, .int bus, .ref 5, .ref 6, .ref 7, .ref 8, .ref 9, .ref 10, .ref 11, .ref 12, .ref 13, .ref 14, .ref 15, .int lks, .ref 16, .ref 17, .ref 20])), (5, .inr (.inl (0, rk))), (7, .inr (.inl (0, ph))), (281, .inl (1, [.ref 282, .ref 307, .ref 323, .ref 324])), (343, .inl (2, [.int (nI S), .ref 344, .ref 345, .ref 346, .ref 347, .int (nI n), .ref 348, .ref 349, .ref 350, .ref 351, .ref 352, .ref 353, .ref 354, .int cel, .ref 355, .ref 356, .ref 357, .ref 358])), (346, .inr (.inl (0, tra))), (351, .inr (.inl (0, tto)))] g0 := K.mg K9 rfl rfl
      clear K9
      show j_V jP _ 144 13 lv [.int ((x_qrefuse sst 2).1)] h9 _
      refine j_V.ri xbF8_M xbF8_13 ?_
      exact fqP.yes R0 FA TA (fun x g => KN.off K9 K (lkn (fun z => g z.symm) (lke (lke (lke (lke (lke (lke (lke rfl))))))))) (K.at rfl)
  have c2 : ¬ ((x_isTrain (nI n) x1) = 0) := fun z => m2 ((g_train V.1.g x1).symm.trans z)
  obtain ⟨t, ht, rfl⟩ := (isTrain_n V.1.g).mp m2
  have e6 : gA ph (nI t) = m_of w (nI t) 6 := by rw [gA_n (by omega), V.2.1.1.pph ht, m_of6 (by omega)]
  by_cases m3 : m_of w (nI t) 6 = 0
  · have c3 : (gA ph (nI t)) = 0 := e6.trans m3
    have hpi := fun i hi => hp t i ht (by rw [← m_of6 (by omega)]; exact m3) hi
    have hof : ∀ x, m_price (m_toTheEnd n (m_puts w (nI t) 3 x) 1) = (pE n (w.set (56 + 28 * t + 3) x)) := fun x => by unfold pE; rw [show m_puts w (nI t) 3 x = w.set (56 + 28 * t + 3) x from m_puts_n (k := 3) (by omega) (by decide)]
    have hst : ∀ f i v3 v4, m_qband_l51 n th sst' w (nI t) x2 (f + 1) i v3 v4 = (if (pE n (w.set (56 + 28 * t + 3) (nI i))) < v4 then m_qband_l51 n th sst' w (nI t) x2 f (i + 1) (nI i) (pE n (w.set (56 + 28 * t + 3) (nI i))) else m_qband_l51 n th sst' w (nI t) x2 f (i + 1) v3 v4) := fun f i v3 v4 => by show (if _ < v4 then _ else _) = _; rw [hof]; by_cases z : (pE n (w.set (56 + 28 * t + 3) (nI i))) < v4; rw [if_pos z, if_pos z]; unfold iMn; rw [if_pos z]; rw [if_neg z, if_neg z]; unfold iMn; rw [if_neg z]
    rw [show m_qband n th sst' w (nI t) x2 = m_qband_l51 n th sst' w (nI t) x2 60 1 (nI 0) (pE n (w.set (56 + 28 * t + 3) (nI 0))) by show (if m_isTrain w (nI t) = 0 then _ else if m_of w (nI t) 6 = 0 then m_qband_l51 n th sst' w (nI t) x2 61 0 (-1) 2147483647 else _) = _; rw [if_neg m2, if_pos m3, hst, if_pos (hpi 0 (by decide))]]
    have hl : ∀ (f i : Nat) (b l : Int32) (lv : J_L) (hc : J_H), i + f = 61 → LK lv [(0, .ref 0), (1, .int (nI t)), (2, .int x2), (3, .int b), (4, .int l), (5, .int (nI i))] → hF 343 n S w hc → (∀ x, (x < 282 ∨ 324 < x) → hc[x]? = g0[x]?) → j_V jP d 144 52 lv [] hc (fun rv h' => fqP 343 327 n S w (m_qband_l51 n th sst' w (nI t) x2 f i b l) rv g0 h') := by
      intro f
      induction f with
      | zero =>
        intro i b l lv hc hif L P FA
        have e0 : 60 < (nI i) := by rw [show i = 61 by omega]; decide
        have TA := P.2.2.1
        have K9 : kA hc [(0, .inl (9, [.ref 1, .ref 3, .ref 4, .ref 29, .ref 281, .ref 325, .ref 343, .ref 327, .int sst])), (4, .inl (7, [.ref 343, .int mi, .int shu, .int bus, .ref 5, .ref 6, .ref 7, .ref 8, .ref 9, .ref 10, .ref 11, .ref 12, .ref 13, .ref 14, .ref 15, .int lks, .ref 16, .ref 17, .ref 20])), (5, .inr (.inl (0, rk))), (7, .inr (.inl (0, ph))), (281, .inl (1, [.ref 282, .ref 307, .ref 323, .ref 324])), (343, .inl (2, [.int (nI S), .ref 344, .ref 345, .ref 346, .ref 347, .int (nI n), .ref 348, .ref 349, .ref 350, .ref 351, .ref 352, .ref 353, .ref 354, .int cel, .ref 355, .ref 356, .ref 357, .ref 358])), (346, .inr (.inl (0, tra))), (351, .inr (.inl (0, tto)))] := ⟨(FA 0 (by decide)).trans C0, (FA 4 (by decide)).trans CS.1, (FA 5 (by decide)).trans CS.2.1, (FA 7 (by decide)).trans CS.2.2.2.1, P.2.2.2, (FA 343 (by decide)).trans CL.1, (FA 346 (by decide)).trans CL.2.2.1, (FA 351 (by decide)).trans CL.2.2.2.2.2.2.1, trivial⟩
        have K : KN hc [(0, .inl (9, [.ref 1, .ref 3, .ref 4, .ref 29, .ref 281, .ref 325, .ref 343, .ref 327, .int sst])), (4, .inl (7, [.ref 343, .int mi, .int shu, .int bus, .ref 5, .ref 6, .ref 7, .ref 8, .ref 9, .ref 10, .ref 11, .ref 12, .ref 13, .ref 14, .ref 15, .int lks, .ref 16, .ref 17, .ref 20])), (5, .inr (.inl (0, rk))), (7, .inr (.inl (0, ph))), (281, .inl (1, [.ref 282, .ref 307, .ref 323, .ref 324])), (343, .inl (2, [.int (nI S), .ref 344, .ref 345, .ref 346, .ref 347, .int (nI n), .ref 348, .ref 349, .ref 350, .ref 351, .ref 352, .ref 353, .ref 354, .int cel, .ref 355, .ref 356, .ref 357, .ref 358])), (346, .inr (.inl (0, tra))), (351, .inr (.inl (0, tto)))] hc := K9.K
        refine j_V.ldL xbF8_M xbF8_52 rfl (i := 5) (kd := 0) (v := .int (nI i)) (pcJ := 54) rfl L rfl rfl rfl ?_
        refine j_V.one xbF8_M xbF8_54 (by decide) (pcJ := 56) (stJ := [.int 60, .int (nI i)]) rfl ?_
        refine j_V.icmp xbF8_M xbF8_56 (t := 95) rfl (fun c56_0 => ?_) (fun c56_0 => ?_)
        · replace c56_0 : 60 < (nI i) := jd_gt c56_0
          refine j_V.ldL xbF8_M xbF8_95 rfl (i := 0) (kd := 2) (v := .ref 0) (pcJ := 96) rfl L rfl rfl rfl ?_
          refine j_V.ldL xbF8_M xbF8_96 rfl (i := 2) (kd := 0) (v := .int x2) (pcJ := 97) rfl L rfl rfl rfl ?_
          refine j_V.ifc xbF8_M xbF8_97 (t := 105) rfl (fun c97_0 => ?_) (fun c97_0 => ?_)
          · replace c97_0 : x2 = 0 := jd_eq c97_0
            refine j_V.ldL xbF8_M xbF8_105 rfl (i := 3) (kd := 0) (v := .int b) (pcJ := 106) rfl L rfl rfl rfl ?_
            refine j_V.cl xbF8_M xbF8_106 rfl (md := 3) (mj := 159) rfl (by decide) xb49_M (As := [.ref 0, .int b]) (rest := []) (jk_spl3 (K.at rfl) rfl rfl rfl (Nat.le_of_ble_eq_true rfl) (Nat.le_of_ble_eq_true rfl)) (fun d => xb49_ok (K.fi [0] rfl rfl)) ?_
            rintro r h9 ⟨rfl, K9⟩
            have K : KN h9 [(0, .inl (9, [.ref 1, .ref 3, .ref 4, .ref 29, .ref 281, .ref 325, .ref 343, .ref 327, .int ((x_qanswer sst b).2)])), (4, .inl (7, [.ref 343, .int mi, .int shu, .int bus, .ref 5, .ref 6, .ref 7, .ref 8, .ref 9, .ref 10, .ref 11, .ref 12, .ref 13, .ref 14, .ref 15, .int lks, .ref 16, .ref 17, .ref 20])), (5, .inr (.inl (0, rk))), (7, .inr (.inl (0, ph))), (281, .inl (1, [.ref 282, .ref 307, .ref 323, .ref 324])), (343, .inl (2, [.int (nI S), .ref 344, .ref 345, .ref 346, .ref 347, .int (nI n), .ref 348, .ref 349, .ref 350, .ref 351, .ref 352, .ref 353, .ref 354, .int cel, .ref 355, .ref 356, .ref 357, .ref 358])), (346, .inr (.inl (0, tra))), (351, .inr (.inl (0, tto)))] hc := K.mg K9 rfl rfl
            clear K9
            show j_V jP _ 144 109 lv [.int ((x_qanswer sst b).1)] h9 _
            refine j_V.ri xbF8_M xbF8_109 ?_
            rw [show m_qband_l51 n th sst' w (nI t) x2 0 i b l = (b, 0, 0) by show (if x2 = 0 then _ else _) = _; rw [if_pos c97_0]; rfl]
            exact fqP.yes R0 FA TA (fun x g => KN.off K9 K (lkn (fun z => g z.symm) (lke (lke (lke (lke (lke (lke (lke rfl))))))))) (K.at rfl)
          · replace c97_0 : ¬ (x2 = 0) := jd_eqn c97_0
            refine j_V.ldL xbF8_M xbF8_100 rfl (i := 4) (kd := 0) (v := .int l) (pcJ := 102) rfl L rfl rfl rfl ?_
            refine j_V.gto xbF8_M xbF8_102 (t := 106) rfl ?_
            refine j_V.cl xbF8_M xbF8_106 rfl (md := 3) (mj := 159) rfl (by decide) xb49_M (As := [.ref 0, .int l]) (rest := []) (jk_spl3 (K.at rfl) rfl rfl rfl (Nat.le_of_ble_eq_true rfl) (Nat.le_of_ble_eq_true rfl)) (fun d => xb49_ok (K.fi [0] rfl rfl)) ?_
            rintro r h9 ⟨rfl, K9⟩
            have K : KN h9 [(0, .inl (9, [.ref 1, .ref 3, .ref 4, .ref 29, .ref 281, .ref 325, .ref 343, .ref 327, .int ((x_qanswer sst l).2)])), (4, .inl (7, [.ref 343, .int mi, .int shu, .int bus, .ref 5, .ref 6, .ref 7, .ref 8, .ref 9, .ref 10, .ref 11, .ref 12, .ref 13, .ref 14, .ref 15, .int lks, .ref 16, .ref 17, .ref 20])), (5, .inr (.inl (0, rk))), (7, .inr (.inl (0, ph))), (281, .inl (1, [.ref 282, .ref 307, .ref 323, .ref 324])), (343, .inl (2, [.int (nI S), .ref 344, .ref 345, .ref 346, .ref 347, .int (nI n), .ref 348, .ref 349, .ref 350, .ref 351, .ref 352, .ref 353, .ref 354, .int cel, .ref 355, .ref 356, .ref 357, .ref 358])), (346, .inr (.inl (0, tra))), (351, .inr (.inl (0, tto)))] hc := K.mg K9 rfl rfl
            clear K9
            show j_V jP _ 144 109 lv [.int ((x_qanswer sst l).1)] h9 _
            refine j_V.ri xbF8_M xbF8_109 ?_
            rw [show m_qband_l51 n th sst' w (nI t) x2 0 i b l = (l, 0, 0) by show (if x2 = 0 then _ else _) = _; rw [if_neg c97_0]; rfl]
            exact fqP.yes R0 FA TA (fun x g => KN.off K9 K (lkn (fun z => g z.symm) (lke (lke (lke (lke (lke (lke (lke rfl))))))))) (K.at rfl)
        · replace c56_0 : ¬ (60 < (nI i)) := jd_gtn c56_0
          exact absurd e0 c56_0
      | succ f ih =>
        intro i b l lv hc hif L P FA
        have e0 : ¬ (60 < (nI i)) := by rw [Int32.not_lt, Int32.le_iff_toInt_le, nI_toInt (by omega)]; exact (show (i : Int) ≤ 60 by omega)
        have en : (nI i) + 1 = nI (i + 1) := nI_add9 i 1
        have TA := P.2.2.1
        have K9 : kA hc [(0, .inl (9, [.ref 1, .ref 3, .ref 4, .ref 29, .ref 281, .ref 325, .ref 343, .ref 327, .int sst])), (4, .inl (7, [.ref 343, .int mi, .int shu, .int bus, .ref 5, .ref 6, .ref 7, .ref 8, .ref 9, .ref 10, .ref 11, .ref 12, .ref 13, .ref 14, .ref 15, .int lks, .ref 16, .ref 17, .ref 20])), (5, .inr (.inl (0, rk))), (7, .inr (.inl (0, ph))), (281, .inl (1, [.ref 282, .ref 307, .ref 323, .ref 324])), (343, .inl (2, [.int (nI S), .ref 344, .ref 345, .ref 346, .ref 347, .int (nI n), .ref 348, .ref 349, .ref 350, .ref 351, .ref 352, .ref 353, .ref 354, .int cel, .ref 355, .ref 356, .ref 357, .ref 358])), (346, .inr (.inl (0, tra))), (351, .inr (.inl (0, tto)))] := ⟨(FA 0 (by decide)).trans C0, (FA 4 (by decide)).trans CS.1, (FA 5 (by decide)).trans CS.2.1, (FA 7 (by decide)).trans CS.2.2.2.1, P.2.2.2, (FA 343 (by decide)).trans CL.1, (FA 346 (by decide)).trans CL.2.2.1, (FA 351 (by decide)).trans CL.2.2.2.2.2.2.1, trivial⟩
        have K : KN hc [(0, .inl (9, [.ref 1, .ref 3, .ref 4, .ref 29, .ref 281, .ref 325, .ref 343, .ref 327, .int sst])), (4, .inl (7, [.ref 343, .int mi, .int shu, .int bus, .ref 5, .ref 6, .ref 7, .ref 8, .ref 9, .ref 10, .ref 11, .ref 12, .ref 13, .ref 14, .ref 15, .int lks, .ref 16, .ref 17, .ref 20])), (5, .inr (.inl (0, rk))), (7, .inr (.inl (0, ph))), (281, .inl (1, [.ref 282, .ref 307, .ref 323, .ref 324])), (343, .inl (2, [.int (nI S), .ref 344, .ref 345, .ref 346, .ref 347, .int (nI n), .ref 348, .ref 349, .ref 350, .ref 351, .ref 352, .ref 353, .ref 354, .int cel, .ref 355, .ref 356, .ref 357, .ref 358])), (346, .inr (.inl (0, tra))), (351, .inr (.inl (0, tto)))] hc := K9.K
        refine j_V.ldL xbF8_M xbF8_52 rfl (i := 5) (kd := 0) (v := .int (nI i)) (pcJ := 54) rfl L rfl rfl rfl ?_
        refine j_V.one xbF8_M xbF8_54 (by decide) (pcJ := 56) (stJ := [.int 60, .int (nI i)]) rfl ?_
        refine j_V.icmp xbF8_M xbF8_56 (t := 95) rfl (fun c56_0 => ?_) (fun c56_0 => ?_)
        · replace c56_0 : 60 < (nI i) := jd_gt c56_0
          exact absurd c56_0 e0
        · replace c56_0 : ¬ (60 < (nI i)) := jd_gtn c56_0
          refine j_V.ldL xbF8_M xbF8_59 rfl (i := 0) (kd := 2) (v := .ref 0) (pcJ := 60) rfl L rfl rfl rfl ?_
          refine j_V.getK xbF8_M xbF8_60 (ci := 9) (j := 4) rfl K rfl rfl ?_
          refine j_V.ldL xbF8_M xbF8_63 rfl (i := 0) (kd := 2) (v := .ref 0) (pcJ := 64) rfl L rfl rfl rfl ?_
          refine j_V.getK xbF8_M xbF8_64 (ci := 9) (j := 2) rfl K rfl rfl ?_
          refine j_V.ldL xbF8_M xbF8_67 rfl (i := 1) (kd := 0) (v := .int (nI t)) (pcJ := 68) rfl L rfl rfl rfl ?_
          refine j_V.ldL xbF8_M xbF8_68 rfl (i := 5) (kd := 0) (v := .int (nI i)) (pcJ := 70) rfl L rfl rfl rfl ?_
          refine j_V.cl xbF8_M xbF8_70 rfl (md := 3) (mj := 9) rfl (by decide) fp2_M (As := [.ref 281, .ref 4, .int (nI t), .int (nI i)]) (rest := []) (jk_spl3 (K.at rfl) rfl rfl rfl (Nat.le_of_ble_eq_true rfl) (Nat.le_of_ble_eq_true rfl)) (fun d => hp_start_343 P hm ht hb) ?_
          rintro r h24 ⟨rfl, TA, F9⟩
          replace FA : ∀ x, (x < 282 ∨ 324 < x) → h24[x]? = g0[x]? := fun x g => (F9 x (by omega)).trans (FA x g)
          replace P : hF 343 n S w h24 := P.fr (fun x g => F9 x (by omega)) TA
          have K9 : kA h24 [(0, .inl (9, [.ref 1, .ref 3, .ref 4, .ref 29, .ref 281, .ref 325, .ref 343, .ref 327, .int sst])), (4, .inl (7, [.ref 343, .int mi, .int shu, .int bus, .ref 5, .ref 6, .ref 7, .ref 8, .ref 9, .ref 10, .ref 11, .ref 12, .ref 13, .ref 14, .ref 15, .int lks, .ref 16, .ref 17, .ref 20])), (5, .inr (.inl (0, rk))), (7, .inr (.inl (0, ph))), (281, .inl (1, [.ref 282, .ref 307, .ref 323, .ref 324])), (343, .inl (2, [.int (nI S), .ref 344, .ref 345, .ref 346, .ref 347, .int (nI n), .ref 348, .ref 349, .ref 350, .ref 351, .ref 352, .ref 353, .ref 354, .int cel, .ref 355, .ref 356, .ref 357, .ref 358])), (346, .inr (.inl (0, tra))), (351, .inr (.inl (0, tto)))] := ⟨(FA 0 (by decide)).trans C0, (FA 4 (by decide)).trans CS.1, (FA 5 (by decide)).trans CS.2.1, (FA 7 (by decide)).trans CS.2.2.2.1, P.2.2.2, (FA 343 (by decide)).trans CL.1, (FA 346 (by decide)).trans CL.2.2.1, (FA 351 (by decide)).trans CL.2.2.2.2.2.2.1, trivial⟩
          have K : KN h24 [(0, .inl (9, [.ref 1, .ref 3, .ref 4, .ref 29, .ref 281, .ref 325, .ref 343, .ref 327, .int sst])), (4, .inl (7, [.ref 343, .int mi, .int shu, .int bus, .ref 5, .ref 6, .ref 7, .ref 8, .ref 9, .ref 10, .ref 11, .ref 12, .ref 13, .ref 14, .ref 15, .int lks, .ref 16, .ref 17, .ref 20])), (5, .inr (.inl (0, rk))), (7, .inr (.inl (0, ph))), (281, .inl (1, [.ref 282, .ref 307, .ref 323, .ref 324])), (343, .inl (2, [.int (nI S), .ref 344, .ref 345, .ref 346, .ref 347, .int (nI n), .ref 348, .ref 349, .ref 350, .ref 351, .ref 352, .ref 353, .ref 354, .int cel, .ref 355, .ref 356, .ref 357, .ref 358])), (346, .inr (.inl (0, tra))), (351, .inr (.inl (0, tto)))] h24 := K9.K
          show j_V jP _ 144 73 lv [.int (pE n (w.set (56 + 28 * t + 3) (nI i)))] h24 _
          refine j_V.stL xbF8_M xbF8_73 rfl (i := 6) (kd := 0) (kl' := [(0, .ref 0), (1, .int (nI t)), (2, .int x2), (3, .int b), (4, .int l), (5, .int (nI i)), (6, .int (pE n (w.set (56 + 28 * t + 3) (nI i))))]) (pcJ := 75) rfl L rfl (by decide) rfl rfl rfl (fun lv L => ?_)
          refine j_V.ldL xbF8_M xbF8_75 rfl (i := 6) (kd := 0) (v := .int (pE n (w.set (56 + 28 * t + 3) (nI i)))) (pcJ := 77) rfl L rfl rfl rfl ?_
          refine j_V.ldL xbF8_M xbF8_77 rfl (i := 4) (kd := 0) (v := .int l) (pcJ := 79) rfl L rfl rfl rfl ?_
          refine j_V.icmp xbF8_M xbF8_79 (t := 89) rfl (fun c79_0 => ?_) (fun c79_0 => ?_)
          · replace c79_0 : ¬ ((pE n (w.set (56 + 28 * t + 3) (nI i))) < l) := jd_ge c79_0
            refine j_V.inL xbF8_M xbF8_89 (i := 5) (kl' := [(0, .ref 0), (1, .int (nI t)), (2, .int x2), (3, .int b), (4, .int l), (5, .int ((nI i) + 1)), (6, .int (pE n (w.set (56 + 28 * t + 3) (nI i))))]) (pcJ := 92) L rfl rfl rfl rfl (fun lv L => ?_)
            refine j_V.gto xbF8_M xbF8_92 (t := 52) rfl ?_
            rw [en] at L
            rw [hst f i b l, if_neg c79_0]
            exact ih (i + 1) b l _ _ (by omega) (L.sub ⟨rfl, rfl, rfl, rfl, rfl, rfl, trivial⟩) P FA
          · replace c79_0 : (pE n (w.set (56 + 28 * t + 3) (nI i))) < l := jd_gen c79_0
            refine j_V.ldL xbF8_M xbF8_82 rfl (i := 5) (kd := 0) (v := .int (nI i)) (pcJ := 84) rfl L rfl rfl rfl ?_
            refine j_V.stL xbF8_M xbF8_84 rfl (i := 3) (kd := 0) (kl' := [(0, .ref 0), (1, .int (nI t)), (2, .int x2), (3, .int (nI i)), (4, .int l), (5, .int (nI i)), (6, .int (pE n (w.set (56 + 28 * t + 3) (nI i))))]) (pcJ := 85) rfl L rfl (by decide) rfl rfl rfl (fun lv L => ?_)
            refine j_V.ldL xbF8_M xbF8_85 rfl (i := 6) (kd := 0) (v := .int (pE n (w.set (56 + 28 * t + 3) (nI i)))) (pcJ := 87) rfl L rfl rfl rfl ?_
            refine j_V.stL xbF8_M xbF8_87 rfl (i := 4) (kd := 0) (kl' := [(0, .ref 0), (1, .int (nI t)), (2, .int x2), (3, .int (nI i)), (4, .int (pE n (w.set (56 + 28 * t + 3) (nI i)))), (5, .int (nI i)), (6, .int (pE n (w.set (56 + 28 * t + 3) (nI i))))]) (pcJ := 89) rfl L rfl (by decide) rfl rfl rfl (fun lv L => ?_)
            refine j_V.inL xbF8_M xbF8_89 (i := 5) (kl' := [(0, .ref 0), (1, .int (nI t)), (2, .int x2), (3, .int (nI i)), (4, .int (pE n (w.set (56 + 28 * t + 3) (nI i)))), (5, .int ((nI i) + 1)), (6, .int (pE n (w.set (56 + 28 * t + 3) (nI i))))]) (pcJ := 92) L rfl rfl rfl rfl (fun lv L => ?_)
            refine j_V.gto xbF8_M xbF8_92 (t := 52) rfl ?_
            rw [en] at L
            rw [hst f i b l, if_pos c79_0]
            exact ih (i + 1) (nI i) (pE n (w.set (56 + 28 * t + 3) (nI i))) _ _ (by omega) (L.sub ⟨rfl, rfl, rfl, rfl, rfl, rfl, trivial⟩) P FA
    have FA : ∀ x, (x < 282 ∨ 324 < x) → g0[x]? = g0[x]? := fun x _ => rfl
    have TA := P.2.2.1
    have K9 : kA g0 [(0, .inl (9, [.ref 1, .ref 3, .ref 4, .ref 29, .ref 281, .ref 325, .ref 343, .ref 327, .int sst])), (4, .inl (7, [.ref 343, .int mi, .int shu, .int bus, .ref 5, .ref 6, .ref 7, .ref 8, .ref 9, .ref 10, .ref 11, .ref 12, .ref 13, .ref 14, .ref 15, .int lks, .ref 16, .ref 17, .ref 20])), (5, .inr (.inl (0, rk))), (7, .inr (.inl (0, ph))), (281, .inl (1, [.ref 282, .ref 307, .ref 323, .ref 324])), (343, .inl (2, [.int (nI S), .ref 344, .ref 345, .ref 346, .ref 347, .int (nI n), .ref 348, .ref 349, .ref 350, .ref 351, .ref 352, .ref 353, .ref 354, .int cel, .ref 355, .ref 356, .ref 357, .ref 358])), (346, .inr (.inl (0, tra))), (351, .inr (.inl (0, tto)))] := ⟨(FA 0 (by decide)).trans C0, (FA 4 (by decide)).trans CS.1, (FA 5 (by decide)).trans CS.2.1, (FA 7 (by decide)).trans CS.2.2.2.1, P.2.2.2, (FA 343 (by decide)).trans CL.1, (FA 346 (by decide)).trans CL.2.2.1, (FA 351 (by decide)).trans CL.2.2.2.2.2.2.1, trivial⟩
    have K : KN g0 [(0, .inl (9, [.ref 1, .ref 3, .ref 4, .ref 29, .ref 281, .ref 325, .ref 343, .ref 327, .int sst])), (4, .inl (7, [.ref 343, .int mi, .int shu, .int bus, .ref 5, .ref 6, .ref 7, .ref 8, .ref 9, .ref 10, .ref 11, .ref 12, .ref 13, .ref 14, .ref 15, .int lks, .ref 16, .ref 17, .ref 20])), (5, .inr (.inl (0, rk))), (7, .inr (.inl (0, ph))), (281, .inl (1, [.ref 282, .ref 307, .ref 323, .ref 324])), (343, .inl (2, [.int (nI S), .ref 344, .ref 345, .ref 346, .ref 347, .int (nI n), .ref 348, .ref 349, .ref 350, .ref 351, .ref 352, .ref 353, .ref 354, .int cel, .ref 355, .ref 356, .ref 357, .ref 358])), (346, .inr (.inl (0, tra))), (351, .inr (.inl (0, tto)))] g0 := K9.K
    show j_V jP d 144 0 [(0, .ref 0), (1, .int (nI t)), (2, .int x2)] [] g0 _
    obtain ⟨lv, elv, L⟩ : ∃ lv, lv = [(0, .ref 0), (1, .int (nI t)), (2, .int x2)] ∧ LK lv [(0, .ref 0), (1, .int (nI t)), (2, .int x2)] := ⟨_, rfl, LK.rf⟩
    rw [← elv]
    clear elv
    refine j_V.ldL xbF8_M xbF8_0 rfl (i := 0) (kd := 2) (v := .ref 0) (pcJ := 1) rfl L rfl rfl rfl ?_
    refine j_V.ldL xbF8_M xbF8_1 rfl (i := 1) (kd := 0) (v := .int (nI t)) (pcJ := 2) rfl L rfl rfl rfl ?_
    refine j_V.cl xbF8_M xbF8_2 rfl (md := 3) (mj := 165) rfl (by decide) xb47_M (As := [.ref 0, .int (nI t)]) (rest := []) (jk_spl3 (K.at rfl) rfl rfl rfl (Nat.le_of_ble_eq_true rfl) (Nat.le_of_ble_eq_true rfl)) (fun d => xb47_ok (K.fi [0, 343] rfl rfl)) ?_
    rintro r hz ⟨rfl, ez⟩
    rw [ez]
    clear ez
    show j_V jP _ 144 5 lv [.int (x_isTrain (nI n) (nI t))] g0 _
    refine j_V.ifc xbF8_M xbF8_5 (t := 14) rfl (fun c5_0 => ?_) (fun c5_0 => ?_)
    · replace c5_0 : ¬ ((x_isTrain (nI n) (nI t)) = 0) := jd_ne c5_0
      refine j_V.ldL xbF8_M xbF8_14 rfl (i := 0) (kd := 2) (v := .ref 0) (pcJ := 15) rfl L rfl rfl rfl ?_
      refine j_V.getK xbF8_M xbF8_15 (ci := 9) (j := 2) rfl K rfl rfl ?_
      refine j_V.getK xbF8_M xbF8_18 (ci := 7) (j := 6) rfl K rfl rfl ?_
      refine j_V.ldL xbF8_M xbF8_21 rfl (i := 1) (kd := 0) (v := .int (nI t)) (pcJ := 22) rfl L rfl rfl rfl ?_
      refine j_V.iaA xbF8_M xbF8_22 K rfl ?_
      refine j_V.ifc xbF8_M xbF8_23 (t := 32) rfl (fun c23_0 => ?_) (fun c23_0 => ?_)
      · replace c23_0 : (gA ph (nI t)) = 0 := jd_eq c23_0
        refine j_V.one xbF8_M xbF8_32 (by decide) (pcJ := 33) (stJ := [.int 0]) rfl ?_
        refine j_V.stL xbF8_M xbF8_33 rfl (i := 3) (kd := 0) (kl' := [(0, .ref 0), (1, .int (nI t)), (2, .int x2), (3, .int 0)]) (pcJ := 34) rfl L rfl (by decide) rfl rfl rfl (fun lv L => ?_)
        refine j_V.ldL xbF8_M xbF8_34 rfl (i := 0) (kd := 2) (v := .ref 0) (pcJ := 35) rfl L rfl rfl rfl ?_
        refine j_V.getK xbF8_M xbF8_35 (ci := 9) (j := 4) rfl K rfl rfl ?_
        refine j_V.ldL xbF8_M xbF8_38 rfl (i := 0) (kd := 2) (v := .ref 0) (pcJ := 39) rfl L rfl rfl rfl ?_
        refine j_V.getK xbF8_M xbF8_39 (ci := 9) (j := 2) rfl K rfl rfl ?_
        refine j_V.ldL xbF8_M xbF8_42 rfl (i := 1) (kd := 0) (v := .int (nI t)) (pcJ := 43) rfl L rfl rfl rfl ?_
        refine j_V.one xbF8_M xbF8_43 (by decide) (pcJ := 44) (stJ := [.int 0, .int (nI t), .ref 4, .ref 281]) rfl ?_
        refine j_V.cl xbF8_M xbF8_44 rfl (md := 3) (mj := 9) rfl (by decide) fp2_M (As := [.ref 281, .ref 4, .int (nI t), .int 0]) (rest := []) (jk_spl3 (K.at rfl) rfl rfl rfl (Nat.le_of_ble_eq_true rfl) (Nat.le_of_ble_eq_true rfl)) (fun d => hp_start_343 P hm ht hb) ?_
        rintro r h25 ⟨rfl, TA, F9⟩
        replace FA : ∀ x, (x < 282 ∨ 324 < x) → h25[x]? = g0[x]? := fun x g => (F9 x (by omega)).trans (FA x g)
        replace P : hF 343 n S w h25 := P.fr (fun x g => F9 x (by omega)) TA
        have K9 : kA h25 [(0, .inl (9, [.ref 1, .ref 3, .ref 4, .ref 29, .ref 281, .ref 325, .ref 343, .ref 327, .int sst])), (4, .inl (7, [.ref 343, .int mi, .int shu, .int bus, .ref 5, .ref 6, .ref 7, .ref 8, .ref 9, .ref 10, .ref 11, .ref 12, .ref 13, .ref 14, .ref 15, .int lks, .ref 16, .ref 17, .ref 20])), (5, .inr (.inl (0, rk))), (7, .inr (.inl (0, ph))), (281, .inl (1, [.ref 282, .ref 307, .ref 323, .ref 324])), (343, .inl (2, [.int (nI S), .ref 344, .ref 345, .ref 346, .ref 347, .int (nI n), .ref 348, .ref 349, .ref 350, .ref 351, .ref 352, .ref 353, .ref 354, .int cel, .ref 355, .ref 356, .ref 357, .ref 358])), (346, .inr (.inl (0, tra))), (351, .inr (.inl (0, tto)))] := ⟨(FA 0 (by decide)).trans C0, (FA 4 (by decide)).trans CS.1, (FA 5 (by decide)).trans CS.2.1, (FA 7 (by decide)).trans CS.2.2.2.1, P.2.2.2, (FA 343 (by decide)).trans CL.1, (FA 346 (by decide)).trans CL.2.2.1, (FA 351 (by decide)).trans CL.2.2.2.2.2.2.1, trivial⟩
        have K : KN h25 [(0, .inl (9, [.ref 1, .ref 3, .ref 4, .ref 29, .ref 281, .ref 325, .ref 343, .ref 327, .int sst])), (4, .inl (7, [.ref 343, .int mi, .int shu, .int bus, .ref 5, .ref 6, .ref 7, .ref 8, .ref 9, .ref 10, .ref 11, .ref 12, .ref 13, .ref 14, .ref 15, .int lks, .ref 16, .ref 17, .ref 20])), (5, .inr (.inl (0, rk))), (7, .inr (.inl (0, ph))), (281, .inl (1, [.ref 282, .ref 307, .ref 323, .ref 324])), (343, .inl (2, [.int (nI S), .ref 344, .ref 345, .ref 346, .ref 347, .int (nI n), .ref 348, .ref 349, .ref 350, .ref 351, .ref 352, .ref 353, .ref 354, .int cel, .ref 355, .ref 356, .ref 357, .ref 358])), (346, .inr (.inl (0, tra))), (351, .inr (.inl (0, tto)))] h25 := K9.K
        show j_V jP _ 144 47 lv [.int (pE n (w.set (56 + 28 * t + 3) 0))] h25 _
        refine j_V.stL xbF8_M xbF8_47 rfl (i := 4) (kd := 0) (kl' := [(0, .ref 0), (1, .int (nI t)), (2, .int x2), (3, .int 0), (4, .int (pE n (w.set (56 + 28 * t + 3) 0)))]) (pcJ := 49) rfl L rfl (by decide) rfl rfl rfl (fun lv L => ?_)
        refine j_V.one xbF8_M xbF8_49 (by decide) (pcJ := 50) (stJ := [.int 1]) rfl ?_
        refine j_V.stL xbF8_M xbF8_50 rfl (i := 5) (kd := 0) (kl' := [(0, .ref 0), (1, .int (nI t)), (2, .int x2), (3, .int 0), (4, .int (pE n (w.set (56 + 28 * t + 3) 0))), (5, .int 1)]) (pcJ := 52) rfl L rfl (by decide) rfl rfl rfl (fun lv L => ?_)
        exact hl 60 1 0 (pE n (w.set (56 + 28 * t + 3) 0)) _ _ (by omega) L P FA
      · replace c23_0 : ¬ ((gA ph (nI t)) = 0) := jd_eqn c23_0
        exact absurd c3 c23_0
    · replace c5_0 : (x_isTrain (nI n) (nI t)) = 0 := jd_nen c5_0
      exact absurd c5_0 c2
  · have c3 : ¬ ((gA ph (nI t)) = 0) := fun z => m3 (e6.symm.trans z)
    rw [show m_qband n th sst' w (nI t) x2 = (-1, 0, 5) by unfold m_qband; rw [if_neg m2, if_neg m3]; rfl]
    have FA : ∀ x, (x < 282 ∨ 324 < x) → g0[x]? = g0[x]? := fun x _ => rfl
    have TA := P.2.2.1
    have K9 : kA g0 [(0, .inl (9, [.ref 1, .ref 3, .ref 4, .ref 29, .ref 281, .ref 325, .ref 343, .ref 327, .int sst])), (4, .inl (7, [.ref 343, .int mi, .int shu, .int bus, .ref 5, .ref 6, .ref 7, .ref 8, .ref 9, .ref 10, .ref 11, .ref 12, .ref 13, .ref 14, .ref 15, .int lks, .ref 16, .ref 17, .ref 20])), (5, .inr (.inl (0, rk))), (7, .inr (.inl (0, ph))), (281, .inl (1, [.ref 282, .ref 307, .ref 323, .ref 324])), (343, .inl (2, [.int (nI S), .ref 344, .ref 345, .ref 346, .ref 347, .int (nI n), .ref 348, .ref 349, .ref 350, .ref 351, .ref 352, .ref 353, .ref 354, .int cel, .ref 355, .ref 356, .ref 357, .ref 358])), (346, .inr (.inl (0, tra))), (351, .inr (.inl (0, tto)))] := ⟨(FA 0 (by decide)).trans C0, (FA 4 (by decide)).trans CS.1, (FA 5 (by decide)).trans CS.2.1, (FA 7 (by decide)).trans CS.2.2.2.1, P.2.2.2, (FA 343 (by decide)).trans CL.1, (FA 346 (by decide)).trans CL.2.2.1, (FA 351 (by decide)).trans CL.2.2.2.2.2.2.1, trivial⟩
    have K : KN g0 [(0, .inl (9, [.ref 1, .ref 3, .ref 4, .ref 29, .ref 281, .ref 325, .ref 343, .ref 327, .int sst])), (4, .inl (7, [.ref 343, .int mi, .int shu, .int bus, .ref 5, .ref 6, .ref 7, .ref 8, .ref 9, .ref 10, .ref 11, .ref 12, .ref 13, .ref 14, .ref 15, .int lks, .ref 16, .ref 17, .ref 20])), (5, .inr (.inl (0, rk))), (7, .inr (.inl (0, ph))), (281, .inl (1, [.ref 282, .ref 307, .ref 323, .ref 324])), (343, .inl (2, [.int (nI S), .ref 344, .ref 345, .ref 346, .ref 347, .int (nI n), .ref 348, .ref 349, .ref 350, .ref 351, .ref 352, .ref 353, .ref 354, .int cel, .ref 355, .ref 356, .ref 357, .ref 358])), (346, .inr (.inl (0, tra))), (351, .inr (.inl (0, tto)))] g0 := K9.K
    show j_V jP d 144 0 [(0, .ref 0), (1, .int (nI t)), (2, .int x2)] [] g0 _
    obtain ⟨lv, elv, L⟩ : ∃ lv, lv = [(0, .ref 0), (1, .int (nI t)), (2, .int x2)] ∧ LK lv [(0, .ref 0), (1, .int (nI t)), (2, .int x2)] := ⟨_, rfl, LK.rf⟩
    rw [← elv]
    clear elv
    refine j_V.ldL xbF8_M xbF8_0 rfl (i := 0) (kd := 2) (v := .ref 0) (pcJ := 1) rfl L rfl rfl rfl ?_
    refine j_V.ldL xbF8_M xbF8_1 rfl (i := 1) (kd := 0) (v := .int (nI t)) (pcJ := 2) rfl L rfl rfl rfl ?_
    refine j_V.cl xbF8_M xbF8_2 rfl (md := 3) (mj := 165) rfl (by decide) xb47_M (As := [.ref 0, .int (nI t)]) (rest := []) (jk_spl3 (K.at rfl) rfl rfl rfl (Nat.le_of_ble_eq_true rfl) (Nat.le_of_ble_eq_true rfl)) (fun d => xb47_ok (K.fi [0, 343] rfl rfl)) ?_
    rintro r hz ⟨rfl, ez⟩
    rw [ez]
    clear ez
    show j_V jP _ 144 5 lv [.int (x_isTrain (nI n) (nI t))] g0 _
    refine j_V.ifc xbF8_M xbF8_5 (t := 14) rfl (fun c5_0 => ?_) (fun c5_0 => ?_)
    · replace c5_0 : ¬ ((x_isTrain (nI n) (nI t)) = 0) := jd_ne c5_0
      refine j_V.ldL xbF8_M xbF8_14 rfl (i := 0) (kd := 2) (v := .ref 0) (pcJ := 15) rfl L rfl rfl rfl ?_
      refine j_V.getK xbF8_M xbF8_15 (ci := 9) (j := 2) rfl K rfl rfl ?_
      refine j_V.getK xbF8_M xbF8_18 (ci := 7) (j := 6) rfl K rfl rfl ?_
      refine j_V.ldL xbF8_M xbF8_21 rfl (i := 1) (kd := 0) (v := .int (nI t)) (pcJ := 22) rfl L rfl rfl rfl ?_
      refine j_V.iaA xbF8_M xbF8_22 K rfl ?_
      refine j_V.ifc xbF8_M xbF8_23 (t := 32) rfl (fun c23_0 => ?_) (fun c23_0 => ?_)
      · replace c23_0 : (gA ph (nI t)) = 0 := jd_eq c23_0
        exact absurd c23_0 c3
      · replace c23_0 : ¬ ((gA ph (nI t)) = 0) := jd_eqn c23_0
        refine j_V.ldL xbF8_M xbF8_26 rfl (i := 0) (kd := 2) (v := .ref 0) (pcJ := 27) rfl L rfl rfl rfl ?_
        refine j_V.one xbF8_M xbF8_27 (by decide) (pcJ := 28) (stJ := [.int 5, .ref 0]) rfl ?_
        refine j_V.cl xbF8_M xbF8_28 rfl (md := 3) (mj := 161) rfl (by decide) xb50_M (As := [.ref 0, .int 5]) (rest := []) (jk_spl3 (K.at rfl) rfl rfl rfl (Nat.le_of_ble_eq_true rfl) (Nat.le_of_ble_eq_true rfl)) (fun d => xb50_ok (K.fi [0] rfl rfl)) ?_
        rintro r h9 ⟨rfl, K9⟩
        have K : KN h9 [(0, .inl (9, [.ref 1, .ref 3, .ref 4, .ref 29, .ref 281, .ref 325, .ref 343, .ref 327, .int ((x_qrefuse sst 5).2)])), (4, .inl (7, [.ref 343, .int mi, .int shu, .int bus, .ref 5, .ref 6, .ref 7, .ref 8, .ref 9, .ref 10, .ref 11, .ref 12, .ref 13, .ref 14, .ref 15, .int lks, .ref 16, .ref 17, .ref 20])), (5, .inr (.inl (0, rk))), (7, .inr (.inl (0, ph))), (281, .inl (1, [.ref 282, .ref 307, .ref 323, .ref 324])), (343, .inl (2, [.int (nI S), .ref 344, .ref 345, .ref 346, .ref 347, .int (nI n), .ref 348, .ref 349, .ref 350, .ref 351, .ref 352, .ref 353, .ref 354, .int cel, .ref 355, .ref 356, .ref 357, .ref 358])), (346, .inr (.inl (0, tra))), (351, .inr (.inl (0, tto)))] g0 := K.mg K9 rfl rfl
        clear K9
        show j_V jP _ 144 31 lv [.int ((x_qrefuse sst 5).1)] h9 _
        refine j_V.ri xbF8_M xbF8_31 ?_
        exact fqP.yes R0 FA TA (fun x g => KN.off K9 K (lkn (fun z => g z.symm) (lke (lke (lke (lke (lke (lke (lke rfl))))))))) (K.at rfl)
    · replace c5_0 : (x_isTrain (nI n) (nI t)) = 0 := jd_nen c5_0
      exact absurd c5_0 c2

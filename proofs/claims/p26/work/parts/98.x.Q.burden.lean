/-! the class's burden over the heap (layout 327), its answer left free: written by wip/px/gen_hE.py -/
theorem burden_st0 (n : Nat) (th sst : Int32) (w : List Int32) (x1 : Int32) : ∀ (f i : Nat) (v3 v4 : Int32), (m_qburden_l40 n th sst w x1 f i v3 v4).2.2 = 0
  | 0, i, v3, v4 => by
    show (if _ then _ else _ : Int32 × Int32 × Int32).2.2 = 0
    split
    · rfl
    · rfl
  | f + 1, i, v3, v4 => by
    show (if _ then _ else _ : Int32 × Int32 × Int32).2.2 = 0
    split
    · exact burden_st0 n th sst w x1 f (i + 1) _ _
    · exact burden_st0 n th sst w x1 f (i + 1) _ _
theorem burden_st {n S : Nat} {w : List Int32} (H : wf n S w) (th sst x1 : Int32) : (m_qburden n th sst w x1).2.2 = if n = 0 then 5 else 0 := by
  have h5 := H.n5
  unfold m_qburden
  rw [H.gn]
  by_cases c : n = 0
  · rw [if_pos c, if_pos (show nI n = 0 by rw [c]; rfl)]; rfl
  · rw [if_neg c, if_neg (show ¬ nI n = 0 from fun z => c ((nI_eq (b := 0) (by omega) (by decide)).mp z))]
    exact burden_st0 n th sst w x1 n 0 _ _
set_option maxRecDepth 100000 in
theorem xaFA_M : j_meth jP 146 = some (yX9_burden, cX9_burden, 6, (some .int), 1, false, 9) := rfl
set_option maxRecDepth 100000 in
theorem xaFA_0 : j_code jP 146 0 = some (.iconst (-1)) := rfl
set_option maxRecDepth 100000 in
theorem xaFA_1 : j_code jP 146 1 = some (.istore_n 2) := rfl
set_option maxRecDepth 100000 in
theorem xaFA_2 : j_code jP 146 2 = some (.iconst (-1)) := rfl
set_option maxRecDepth 100000 in
theorem xaFA_3 : j_code jP 146 3 = some (.istore_n 3) := rfl
set_option maxRecDepth 100000 in
theorem xaFA_4 : j_code jP 146 4 = some (.iconst 0) := rfl
set_option maxRecDepth 100000 in
theorem xaFA_5 : j_code jP 146 5 = some (.istore 4) := rfl
set_option maxRecDepth 100000 in
theorem xaFA_7 : j_code jP 146 7 = some (.iload 4) := rfl
set_option maxRecDepth 100000 in
theorem xaFA_9 : j_code jP 146 9 = some (.aload_n 0) := rfl
set_option maxRecDepth 100000 in
theorem xaFA_10 : j_code jP 146 10 = some (.getfield 58) := rfl
set_option maxRecDepth 100000 in
theorem xaFA_13 : j_code jP 146 13 = some (.getfield 101) := rfl
set_option maxRecDepth 100000 in
theorem xaFA_16 : j_code jP 146 16 = some (.if_icmp .ge 41) := rfl
set_option maxRecDepth 100000 in
theorem xaFA_19 : j_code jP 146 19 = some (.aload_n 0) := rfl
set_option maxRecDepth 100000 in
theorem xaFA_20 : j_code jP 146 20 = some (.getfield 44) := rfl
set_option maxRecDepth 100000 in
theorem xaFA_23 : j_code jP 146 23 = some (.aload_n 0) := rfl
set_option maxRecDepth 100000 in
theorem xaFA_24 : j_code jP 146 24 = some (.getfield 30) := rfl
set_option maxRecDepth 100000 in
theorem xaFA_27 : j_code jP 146 27 = some (.iload 4) := rfl
set_option maxRecDepth 100000 in
theorem xaFA_29 : j_code jP 146 29 = some (.invokevirtual 350) := rfl
set_option maxRecDepth 100000 in
theorem xaFA_32 : j_code jP 146 32 = some (.istore 5) := rfl
set_option maxRecDepth 100000 in
theorem xaFA_34 : j_code jP 146 34 = some (.iload_n 2) := rfl
set_option maxRecDepth 100000 in
theorem xaFA_35 : j_code jP 146 35 = some (.iconst (-1)) := rfl
set_option maxRecDepth 100000 in
theorem xaFA_36 : j_code jP 146 36 = some (.if_icmp .eq 9) := rfl
set_option maxRecDepth 100000 in
theorem xaFA_39 : j_code jP 146 39 = some (.iload 5) := rfl
set_option maxRecDepth 100000 in
theorem xaFA_41 : j_code jP 146 41 = some (.iload_n 3) := rfl
set_option maxRecDepth 100000 in
theorem xaFA_42 : j_code jP 146 42 = some (.if_icmp .ge 9) := rfl
set_option maxRecDepth 100000 in
theorem xaFA_45 : j_code jP 146 45 = some (.iload 4) := rfl
set_option maxRecDepth 100000 in
theorem xaFA_47 : j_code jP 146 47 = some (.istore_n 2) := rfl
set_option maxRecDepth 100000 in
theorem xaFA_48 : j_code jP 146 48 = some (.iload 5) := rfl
set_option maxRecDepth 100000 in
theorem xaFA_50 : j_code jP 146 50 = some (.istore_n 3) := rfl
set_option maxRecDepth 100000 in
theorem xaFA_51 : j_code jP 146 51 = some (.iinc 4 1) := rfl
set_option maxRecDepth 100000 in
theorem xaFA_54 : j_code jP 146 54 = some (.goto (-47)) := rfl
set_option maxRecDepth 100000 in
theorem xaFA_57 : j_code jP 146 57 = some (.iload_n 2) := rfl
set_option maxRecDepth 100000 in
theorem xaFA_58 : j_code jP 146 58 = some (.iconst (-1)) := rfl
set_option maxRecDepth 100000 in
theorem xaFA_59 : j_code jP 146 59 = some (.if_icmp .ne 11) := rfl
set_option maxRecDepth 100000 in
theorem xaFA_62 : j_code jP 146 62 = some (.aload_n 0) := rfl
set_option maxRecDepth 100000 in
theorem xaFA_63 : j_code jP 146 63 = some (.iconst 5) := rfl
set_option maxRecDepth 100000 in
theorem xaFA_64 : j_code jP 146 64 = some (.invokevirtual 84) := rfl
set_option maxRecDepth 100000 in
theorem xaFA_67 : j_code jP 146 67 = some (.goto 16) := rfl
set_option maxRecDepth 100000 in
theorem xaFA_70 : j_code jP 146 70 = some (.aload_n 0) := rfl
set_option maxRecDepth 100000 in
theorem xaFA_71 : j_code jP 146 71 = some (.iload_n 1) := rfl
set_option maxRecDepth 100000 in
theorem xaFA_72 : j_code jP 146 72 = some (.ifCond .eq 7) := rfl
set_option maxRecDepth 100000 in
theorem xaFA_75 : j_code jP 146 75 = some (.iload_n 3) := rfl
set_option maxRecDepth 100000 in
theorem xaFA_76 : j_code jP 146 76 = some (.goto 4) := rfl
set_option maxRecDepth 100000 in
theorem xaFA_79 : j_code jP 146 79 = some (.iload_n 2) := rfl
set_option maxRecDepth 100000 in
theorem xaFA_80 : j_code jP 146 80 = some (.invokevirtual 104) := rfl
set_option maxRecDepth 100000 in
theorem xaFA_83 : j_code jP 146 83 = some (.ireturn) := rfl
set_option maxRecDepth 1000000 in
theorem hq_burden_A {g0 : J_H} {n S d : Nat} {w : List Int32} {sst : Int32} (x1 : Int32) (R : hX 327 343 n S w sst g0) (Q : hT9 282 0 g0) (C281 : g0[281]? = some (.inl (1, [.ref 282, .ref 307, .ref 323, .ref 324]))) : j_V jP d 146 0 (lv_args 0 [.ref 0, .int x1]) [] g0 (fun rv h' => ∃ v, fqP 327 343 n S w (v, 0, (if n = 0 then 5 else 0 : Int32)) rv g0 h') := by
  have R0 := R
  have C0 := R.1
  have P : hF 327 n S w g0 := ⟨R.2.1, R.2.2, Q, C281⟩
  refine hX.opn R (fun mi shu bus lks rl pev rk sta ph sp ce du he ri us cm lf lkd row sea pms pmm pmt pst pwa prs prr pfa CS hl4 V cel run tra len siz frm tto lst slo wei fit way rid lon CL Y T hlY => ?_)
  have h5 := V.1.n5
  have hl : ∀ (f i : Nat) (b l : Int32) (lv : J_L) (hc : J_H), i + f = n → LK lv [(0, .ref 0), (1, .int x1), (2, .int b), (3, .int l), (4, .int (nI i))] → (b = (-1) ↔ i = 0) → hF 327 n S w hc → (∀ x, (x < 282 ∨ 324 < x) → hc[x]? = g0[x]?) → j_V jP d 146 7 lv [] hc (fun rv h' => ∃ v, fqP 327 343 n S w (v, 0, (if n = 0 then 5 else 0 : Int32)) rv g0 h') := by
    intro f
    induction f with
    | zero =>
      intro i b l lv hc hif L hb4 P FA
      have hin : n = i := by omega
      have e0 : ¬ ((nI i) < (nI n)) := by rw [hin]; exact fun z => absurd (Int32.lt_iff_toInt_lt.mp z) (Int.lt_irrefl _)
      have TA := P.2.2.1
      have K9 : kA hc [(0, .inl (9, [.ref 1, .ref 3, .ref 4, .ref 29, .ref 281, .ref 325, .ref 327, .ref 343, .int sst])), (4, .inl (7, [.ref 327, .int mi, .int shu, .int bus, .ref 5, .ref 6, .ref 7, .ref 8, .ref 9, .ref 10, .ref 11, .ref 12, .ref 13, .ref 14, .ref 15, .int lks, .ref 16, .ref 17, .ref 20])), (5, .inr (.inl (0, rk))), (7, .inr (.inl (0, ph))), (281, .inl (1, [.ref 282, .ref 307, .ref 323, .ref 324])), (327, .inl (2, [.int (nI S), .ref 328, .ref 329, .ref 330, .ref 331, .int (nI n), .ref 332, .ref 333, .ref 334, .ref 335, .ref 336, .ref 337, .ref 338, .int cel, .ref 339, .ref 340, .ref 341, .ref 342])), (330, .inr (.inl (0, tra))), (335, .inr (.inl (0, tto)))] := ⟨(FA 0 (by decide)).trans C0, (FA 4 (by decide)).trans CS.1, (FA 5 (by decide)).trans CS.2.1, (FA 7 (by decide)).trans CS.2.2.2.1, P.2.2.2, (FA 327 (by decide)).trans CL.1, (FA 330 (by decide)).trans CL.2.2.1, (FA 335 (by decide)).trans CL.2.2.2.2.2.2.1, trivial⟩
      have K : KN hc [(0, .inl (9, [.ref 1, .ref 3, .ref 4, .ref 29, .ref 281, .ref 325, .ref 327, .ref 343, .int sst])), (4, .inl (7, [.ref 327, .int mi, .int shu, .int bus, .ref 5, .ref 6, .ref 7, .ref 8, .ref 9, .ref 10, .ref 11, .ref 12, .ref 13, .ref 14, .ref 15, .int lks, .ref 16, .ref 17, .ref 20])), (5, .inr (.inl (0, rk))), (7, .inr (.inl (0, ph))), (281, .inl (1, [.ref 282, .ref 307, .ref 323, .ref 324])), (327, .inl (2, [.int (nI S), .ref 328, .ref 329, .ref 330, .ref 331, .int (nI n), .ref 332, .ref 333, .ref 334, .ref 335, .ref 336, .ref 337, .ref 338, .int cel, .ref 339, .ref 340, .ref 341, .ref 342])), (330, .inr (.inl (0, tra))), (335, .inr (.inl (0, tto)))] hc := K9.K
      refine j_V.ldL xaFA_M xaFA_7 rfl (i := 4) (kd := 0) (v := .int (nI i)) (pcJ := 9) rfl L rfl rfl rfl ?_
      refine j_V.ldL xaFA_M xaFA_9 rfl (i := 0) (kd := 2) (v := .ref 0) (pcJ := 10) rfl L rfl rfl rfl ?_
      refine j_V.getK xaFA_M xaFA_10 (ci := 9) (j := 6) rfl K rfl rfl ?_
      refine j_V.getK xaFA_M xaFA_13 (ci := 2) (j := 5) rfl K rfl rfl ?_
      refine j_V.icmp xaFA_M xaFA_16 (t := 57) rfl (fun c16_0 => ?_) (fun c16_0 => ?_)
      · replace c16_0 : ¬ ((nI i) < (nI n)) := jd_ge c16_0
        refine j_V.ldL xaFA_M xaFA_57 rfl (i := 2) (kd := 0) (v := .int b) (pcJ := 58) rfl L rfl rfl rfl ?_
        refine j_V.one xaFA_M xaFA_58 (by decide) (pcJ := 59) (stJ := [.int (-1), .int b]) rfl ?_
        refine j_V.icmp xaFA_M xaFA_59 (t := 70) rfl (fun c59_0 => ?_) (fun c59_0 => ?_)
        · replace c59_0 : ¬ (b = (-1)) := jd_ne c59_0
          refine j_V.ldL xaFA_M xaFA_70 rfl (i := 0) (kd := 2) (v := .ref 0) (pcJ := 71) rfl L rfl rfl rfl ?_
          refine j_V.ldL xaFA_M xaFA_71 rfl (i := 1) (kd := 0) (v := .int x1) (pcJ := 72) rfl L rfl rfl rfl ?_
          refine j_V.ifc xaFA_M xaFA_72 (t := 79) rfl (fun c72_1 => ?_) (fun c72_1 => ?_)
          · replace c72_1 : x1 = 0 := jd_eq c72_1
            refine j_V.ldL xaFA_M xaFA_79 rfl (i := 2) (kd := 0) (v := .int b) (pcJ := 80) rfl L rfl rfl rfl ?_
            refine j_V.cl xaFA_M xaFA_80 rfl (md := 3) (mj := 159) rfl (by decide) xa49_M (As := [.ref 0, .int b]) (rest := []) (jk_spl3 (K.at rfl) rfl rfl rfl (Nat.le_of_ble_eq_true rfl) (Nat.le_of_ble_eq_true rfl)) (fun d => xa49_ok (K.fi [0] rfl rfl)) ?_
            rintro r h9 ⟨rfl, K9⟩
            have K : KN h9 [(0, .inl (9, [.ref 1, .ref 3, .ref 4, .ref 29, .ref 281, .ref 325, .ref 327, .ref 343, .int ((x_qanswer sst b).2)])), (4, .inl (7, [.ref 327, .int mi, .int shu, .int bus, .ref 5, .ref 6, .ref 7, .ref 8, .ref 9, .ref 10, .ref 11, .ref 12, .ref 13, .ref 14, .ref 15, .int lks, .ref 16, .ref 17, .ref 20])), (5, .inr (.inl (0, rk))), (7, .inr (.inl (0, ph))), (281, .inl (1, [.ref 282, .ref 307, .ref 323, .ref 324])), (327, .inl (2, [.int (nI S), .ref 328, .ref 329, .ref 330, .ref 331, .int (nI n), .ref 332, .ref 333, .ref 334, .ref 335, .ref 336, .ref 337, .ref 338, .int cel, .ref 339, .ref 340, .ref 341, .ref 342])), (330, .inr (.inl (0, tra))), (335, .inr (.inl (0, tto)))] hc := K.mg K9 rfl rfl
            clear K9
            show j_V jP _ 146 83 lv [.int ((x_qanswer sst b).1)] h9 _
            refine j_V.ri xaFA_M xaFA_83 ?_
            rw [if_neg (show ¬ n = 0 from fun z => c59_0 (hb4.mpr (hin.symm.trans z)))]
            refine ⟨((x_qanswer sst b).1), ?_⟩
            exact fqP.yes R0 FA TA (fun x g => KN.off K9 K (lkn (fun z => g z.symm) (lke (lke (lke (lke (lke (lke (lke rfl))))))))) (K.at rfl)
          · replace c72_1 : ¬ (x1 = 0) := jd_eqn c72_1
            refine j_V.ldL xaFA_M xaFA_75 rfl (i := 3) (kd := 0) (v := .int l) (pcJ := 76) rfl L rfl rfl rfl ?_
            refine j_V.gto xaFA_M xaFA_76 (t := 80) rfl ?_
            refine j_V.cl xaFA_M xaFA_80 rfl (md := 3) (mj := 159) rfl (by decide) xa49_M (As := [.ref 0, .int l]) (rest := []) (jk_spl3 (K.at rfl) rfl rfl rfl (Nat.le_of_ble_eq_true rfl) (Nat.le_of_ble_eq_true rfl)) (fun d => xa49_ok (K.fi [0] rfl rfl)) ?_
            rintro r h9 ⟨rfl, K9⟩
            have K : KN h9 [(0, .inl (9, [.ref 1, .ref 3, .ref 4, .ref 29, .ref 281, .ref 325, .ref 327, .ref 343, .int ((x_qanswer sst l).2)])), (4, .inl (7, [.ref 327, .int mi, .int shu, .int bus, .ref 5, .ref 6, .ref 7, .ref 8, .ref 9, .ref 10, .ref 11, .ref 12, .ref 13, .ref 14, .ref 15, .int lks, .ref 16, .ref 17, .ref 20])), (5, .inr (.inl (0, rk))), (7, .inr (.inl (0, ph))), (281, .inl (1, [.ref 282, .ref 307, .ref 323, .ref 324])), (327, .inl (2, [.int (nI S), .ref 328, .ref 329, .ref 330, .ref 331, .int (nI n), .ref 332, .ref 333, .ref 334, .ref 335, .ref 336, .ref 337, .ref 338, .int cel, .ref 339, .ref 340, .ref 341, .ref 342])), (330, .inr (.inl (0, tra))), (335, .inr (.inl (0, tto)))] hc := K.mg K9 rfl rfl
            clear K9
            show j_V jP _ 146 83 lv [.int ((x_qanswer sst l).1)] h9 _
            refine j_V.ri xaFA_M xaFA_83 ?_
            rw [if_neg (show ¬ n = 0 from fun z => c59_0 (hb4.mpr (hin.symm.trans z)))]
            refine ⟨((x_qanswer sst l).1), ?_⟩
            exact fqP.yes R0 FA TA (fun x g => KN.off K9 K (lkn (fun z => g z.symm) (lke (lke (lke (lke (lke (lke (lke rfl))))))))) (K.at rfl)
        · replace c59_0 : b = (-1) := jd_nen c59_0
          refine j_V.ldL xaFA_M xaFA_62 rfl (i := 0) (kd := 2) (v := .ref 0) (pcJ := 63) rfl L rfl rfl rfl ?_
          refine j_V.one xaFA_M xaFA_63 (by decide) (pcJ := 64) (stJ := [.int 5, .ref 0]) rfl ?_
          refine j_V.cl xaFA_M xaFA_64 rfl (md := 3) (mj := 161) rfl (by decide) xa50_M (As := [.ref 0, .int 5]) (rest := []) (jk_spl3 (K.at rfl) rfl rfl rfl (Nat.le_of_ble_eq_true rfl) (Nat.le_of_ble_eq_true rfl)) (fun d => xa50_ok (K.fi [0] rfl rfl)) ?_
          rintro r h9 ⟨rfl, K9⟩
          have K : KN h9 [(0, .inl (9, [.ref 1, .ref 3, .ref 4, .ref 29, .ref 281, .ref 325, .ref 327, .ref 343, .int ((x_qrefuse sst 5).2)])), (4, .inl (7, [.ref 327, .int mi, .int shu, .int bus, .ref 5, .ref 6, .ref 7, .ref 8, .ref 9, .ref 10, .ref 11, .ref 12, .ref 13, .ref 14, .ref 15, .int lks, .ref 16, .ref 17, .ref 20])), (5, .inr (.inl (0, rk))), (7, .inr (.inl (0, ph))), (281, .inl (1, [.ref 282, .ref 307, .ref 323, .ref 324])), (327, .inl (2, [.int (nI S), .ref 328, .ref 329, .ref 330, .ref 331, .int (nI n), .ref 332, .ref 333, .ref 334, .ref 335, .ref 336, .ref 337, .ref 338, .int cel, .ref 339, .ref 340, .ref 341, .ref 342])), (330, .inr (.inl (0, tra))), (335, .inr (.inl (0, tto)))] hc := K.mg K9 rfl rfl
          clear K9
          show j_V jP _ 146 67 lv [.int ((x_qrefuse sst 5).1)] h9 _
          refine j_V.gto xaFA_M xaFA_67 (t := 83) rfl ?_
          refine j_V.ri xaFA_M xaFA_83 ?_
          rw [if_pos (show n = 0 from hin.trans (hb4.mp c59_0))]
          refine ⟨((x_qrefuse sst 5).1), ?_⟩
          exact fqP.yes R0 FA TA (fun x g => KN.off K9 K (lkn (fun z => g z.symm) (lke (lke (lke (lke (lke (lke (lke rfl))))))))) (K.at rfl)
      · replace c16_0 : (nI i) < (nI n) := jd_gen c16_0
        exact absurd c16_0 e0
    | succ f ih =>
      intro i b l lv hc hif L hb4 P FA
      have e0 : (nI i) < (nI n) := nI_lt (a := i) (b := n) (by omega) (by omega)
      have en : (nI i) + 1 = nI (i + 1) := nI_add9 i 1
      have ei1 : ¬ nI i = (-1) := fun z => by have := congrArg Int32.toInt z; rw [nI_toInt (by omega)] at this; have e9 : ((-1 : Int32)).toInt = -1 := rfl; omega
      have TA := P.2.2.1
      have K9 : kA hc [(0, .inl (9, [.ref 1, .ref 3, .ref 4, .ref 29, .ref 281, .ref 325, .ref 327, .ref 343, .int sst])), (4, .inl (7, [.ref 327, .int mi, .int shu, .int bus, .ref 5, .ref 6, .ref 7, .ref 8, .ref 9, .ref 10, .ref 11, .ref 12, .ref 13, .ref 14, .ref 15, .int lks, .ref 16, .ref 17, .ref 20])), (5, .inr (.inl (0, rk))), (7, .inr (.inl (0, ph))), (281, .inl (1, [.ref 282, .ref 307, .ref 323, .ref 324])), (327, .inl (2, [.int (nI S), .ref 328, .ref 329, .ref 330, .ref 331, .int (nI n), .ref 332, .ref 333, .ref 334, .ref 335, .ref 336, .ref 337, .ref 338, .int cel, .ref 339, .ref 340, .ref 341, .ref 342])), (330, .inr (.inl (0, tra))), (335, .inr (.inl (0, tto)))] := ⟨(FA 0 (by decide)).trans C0, (FA 4 (by decide)).trans CS.1, (FA 5 (by decide)).trans CS.2.1, (FA 7 (by decide)).trans CS.2.2.2.1, P.2.2.2, (FA 327 (by decide)).trans CL.1, (FA 330 (by decide)).trans CL.2.2.1, (FA 335 (by decide)).trans CL.2.2.2.2.2.2.1, trivial⟩
      have K : KN hc [(0, .inl (9, [.ref 1, .ref 3, .ref 4, .ref 29, .ref 281, .ref 325, .ref 327, .ref 343, .int sst])), (4, .inl (7, [.ref 327, .int mi, .int shu, .int bus, .ref 5, .ref 6, .ref 7, .ref 8, .ref 9, .ref 10, .ref 11, .ref 12, .ref 13, .ref 14, .ref 15, .int lks, .ref 16, .ref 17, .ref 20])), (5, .inr (.inl (0, rk))), (7, .inr (.inl (0, ph))), (281, .inl (1, [.ref 282, .ref 307, .ref 323, .ref 324])), (327, .inl (2, [.int (nI S), .ref 328, .ref 329, .ref 330, .ref 331, .int (nI n), .ref 332, .ref 333, .ref 334, .ref 335, .ref 336, .ref 337, .ref 338, .int cel, .ref 339, .ref 340, .ref 341, .ref 342])), (330, .inr (.inl (0, tra))), (335, .inr (.inl (0, tto)))] hc := K9.K
      refine j_V.ldL xaFA_M xaFA_7 rfl (i := 4) (kd := 0) (v := .int (nI i)) (pcJ := 9) rfl L rfl rfl rfl ?_
      refine j_V.ldL xaFA_M xaFA_9 rfl (i := 0) (kd := 2) (v := .ref 0) (pcJ := 10) rfl L rfl rfl rfl ?_
      refine j_V.getK xaFA_M xaFA_10 (ci := 9) (j := 6) rfl K rfl rfl ?_
      refine j_V.getK xaFA_M xaFA_13 (ci := 2) (j := 5) rfl K rfl rfl ?_
      refine j_V.icmp xaFA_M xaFA_16 (t := 57) rfl (fun c16_0 => ?_) (fun c16_0 => ?_)
      · replace c16_0 : ¬ ((nI i) < (nI n)) := jd_ge c16_0
        exact absurd e0 c16_0
      · replace c16_0 : (nI i) < (nI n) := jd_gen c16_0
        refine j_V.ldL xaFA_M xaFA_19 rfl (i := 0) (kd := 2) (v := .ref 0) (pcJ := 20) rfl L rfl rfl rfl ?_
        refine j_V.getK xaFA_M xaFA_20 (ci := 9) (j := 4) rfl K rfl rfl ?_
        refine j_V.ldL xaFA_M xaFA_23 rfl (i := 0) (kd := 2) (v := .ref 0) (pcJ := 24) rfl L rfl rfl rfl ?_
        refine j_V.getK xaFA_M xaFA_24 (ci := 9) (j := 2) rfl K rfl rfl ?_
        refine j_V.ldL xaFA_M xaFA_27 rfl (i := 4) (kd := 0) (v := .int (nI i)) (pcJ := 29) rfl L rfl rfl rfl ?_
        refine j_V.cl xaFA_M xaFA_29 rfl (md := 3) (mj := 11) rfl (by decide) fp8_M (As := [.ref 281, .ref 4, .int (nI i)]) (rest := []) (jk_spl3 (K.at rfl) rfl rfl rfl (Nat.le_of_ble_eq_true rfl) (Nat.le_of_ble_eq_true rfl)) (fun d => hp_out_327 P _) ?_
        rintro r9 h21 ⟨⟨v9, rfl⟩, TA, F9⟩
        replace FA : ∀ x, (x < 282 ∨ 324 < x) → h21[x]? = g0[x]? := fun x g => (F9 x (by omega)).trans (FA x g)
        replace P : hF 327 n S w h21 := P.fr (fun x g => F9 x (by omega)) TA
        have K9 : kA h21 [(0, .inl (9, [.ref 1, .ref 3, .ref 4, .ref 29, .ref 281, .ref 325, .ref 327, .ref 343, .int sst])), (4, .inl (7, [.ref 327, .int mi, .int shu, .int bus, .ref 5, .ref 6, .ref 7, .ref 8, .ref 9, .ref 10, .ref 11, .ref 12, .ref 13, .ref 14, .ref 15, .int lks, .ref 16, .ref 17, .ref 20])), (5, .inr (.inl (0, rk))), (7, .inr (.inl (0, ph))), (281, .inl (1, [.ref 282, .ref 307, .ref 323, .ref 324])), (327, .inl (2, [.int (nI S), .ref 328, .ref 329, .ref 330, .ref 331, .int (nI n), .ref 332, .ref 333, .ref 334, .ref 335, .ref 336, .ref 337, .ref 338, .int cel, .ref 339, .ref 340, .ref 341, .ref 342])), (330, .inr (.inl (0, tra))), (335, .inr (.inl (0, tto)))] := ⟨(FA 0 (by decide)).trans C0, (FA 4 (by decide)).trans CS.1, (FA 5 (by decide)).trans CS.2.1, (FA 7 (by decide)).trans CS.2.2.2.1, P.2.2.2, (FA 327 (by decide)).trans CL.1, (FA 330 (by decide)).trans CL.2.2.1, (FA 335 (by decide)).trans CL.2.2.2.2.2.2.1, trivial⟩
        have K : KN h21 [(0, .inl (9, [.ref 1, .ref 3, .ref 4, .ref 29, .ref 281, .ref 325, .ref 327, .ref 343, .int sst])), (4, .inl (7, [.ref 327, .int mi, .int shu, .int bus, .ref 5, .ref 6, .ref 7, .ref 8, .ref 9, .ref 10, .ref 11, .ref 12, .ref 13, .ref 14, .ref 15, .int lks, .ref 16, .ref 17, .ref 20])), (5, .inr (.inl (0, rk))), (7, .inr (.inl (0, ph))), (281, .inl (1, [.ref 282, .ref 307, .ref 323, .ref 324])), (327, .inl (2, [.int (nI S), .ref 328, .ref 329, .ref 330, .ref 331, .int (nI n), .ref 332, .ref 333, .ref 334, .ref 335, .ref 336, .ref 337, .ref 338, .int cel, .ref 339, .ref 340, .ref 341, .ref 342])), (330, .inr (.inl (0, tra))), (335, .inr (.inl (0, tto)))] h21 := K9.K
        show j_V jP _ 146 32 lv [.int v9] h21 _
        refine j_V.stL xaFA_M xaFA_32 rfl (i := 5) (kd := 0) (kl' := [(0, .ref 0), (1, .int x1), (2, .int b), (3, .int l), (4, .int (nI i)), (5, .int v9)]) (pcJ := 34) rfl L rfl (by decide) rfl rfl rfl (fun lv L => ?_)
        refine j_V.ldL xaFA_M xaFA_34 rfl (i := 2) (kd := 0) (v := .int b) (pcJ := 35) rfl L rfl rfl rfl ?_
        refine j_V.one xaFA_M xaFA_35 (by decide) (pcJ := 36) (stJ := [.int (-1), .int b]) rfl ?_
        refine j_V.icmp xaFA_M xaFA_36 (t := 45) rfl (fun c36_0 => ?_) (fun c36_0 => ?_)
        · replace c36_0 : b = (-1) := jd_eq c36_0
          refine j_V.ldL xaFA_M xaFA_45 rfl (i := 4) (kd := 0) (v := .int (nI i)) (pcJ := 47) rfl L rfl rfl rfl ?_
          refine j_V.stL xaFA_M xaFA_47 rfl (i := 2) (kd := 0) (kl' := [(0, .ref 0), (1, .int x1), (2, .int (nI i)), (3, .int l), (4, .int (nI i)), (5, .int v9)]) (pcJ := 48) rfl L rfl (by decide) rfl rfl rfl (fun lv L => ?_)
          refine j_V.ldL xaFA_M xaFA_48 rfl (i := 5) (kd := 0) (v := .int v9) (pcJ := 50) rfl L rfl rfl rfl ?_
          refine j_V.stL xaFA_M xaFA_50 rfl (i := 3) (kd := 0) (kl' := [(0, .ref 0), (1, .int x1), (2, .int (nI i)), (3, .int v9), (4, .int (nI i)), (5, .int v9)]) (pcJ := 51) rfl L rfl (by decide) rfl rfl rfl (fun lv L => ?_)
          refine j_V.inL xaFA_M xaFA_51 (i := 4) (kl' := [(0, .ref 0), (1, .int x1), (2, .int (nI i)), (3, .int v9), (4, .int ((nI i) + 1)), (5, .int v9)]) (pcJ := 54) L rfl rfl rfl rfl (fun lv L => ?_)
          refine j_V.gto xaFA_M xaFA_54 (t := 7) rfl ?_
          rw [en] at L
          exact ih (i + 1) (nI i) v9 _ _ (by omega) (L.sub ⟨rfl, rfl, rfl, rfl, rfl, trivial⟩) ⟨fun z => absurd z ei1, fun z => absurd z (Nat.succ_ne_zero i)⟩ P FA
        · replace c36_0 : ¬ (b = (-1)) := jd_eqn c36_0
          refine j_V.ldL xaFA_M xaFA_39 rfl (i := 5) (kd := 0) (v := .int v9) (pcJ := 41) rfl L rfl rfl rfl ?_
          refine j_V.ldL xaFA_M xaFA_41 rfl (i := 3) (kd := 0) (v := .int l) (pcJ := 42) rfl L rfl rfl rfl ?_
          refine j_V.icmp xaFA_M xaFA_42 (t := 51) rfl (fun c42_1 => ?_) (fun c42_1 => ?_)
          · replace c42_1 : ¬ (v9 < l) := jd_ge c42_1
            refine j_V.inL xaFA_M xaFA_51 (i := 4) (kl' := [(0, .ref 0), (1, .int x1), (2, .int b), (3, .int l), (4, .int ((nI i) + 1)), (5, .int v9)]) (pcJ := 54) L rfl rfl rfl rfl (fun lv L => ?_)
            refine j_V.gto xaFA_M xaFA_54 (t := 7) rfl ?_
            rw [en] at L
            exact ih (i + 1) b l _ _ (by omega) (L.sub ⟨rfl, rfl, rfl, rfl, rfl, trivial⟩) ⟨fun z => absurd z c36_0, fun z => absurd z (Nat.succ_ne_zero i)⟩ P FA
          · replace c42_1 : v9 < l := jd_gen c42_1
            refine j_V.ldL xaFA_M xaFA_45 rfl (i := 4) (kd := 0) (v := .int (nI i)) (pcJ := 47) rfl L rfl rfl rfl ?_
            refine j_V.stL xaFA_M xaFA_47 rfl (i := 2) (kd := 0) (kl' := [(0, .ref 0), (1, .int x1), (2, .int (nI i)), (3, .int l), (4, .int (nI i)), (5, .int v9)]) (pcJ := 48) rfl L rfl (by decide) rfl rfl rfl (fun lv L => ?_)
            refine j_V.ldL xaFA_M xaFA_48 rfl (i := 5) (kd := 0) (v := .int v9) (pcJ := 50) rfl L rfl rfl rfl ?_
            refine j_V.stL xaFA_M xaFA_50 rfl (i := 3) (kd := 0) (kl' := [(0, .ref 0), (1, .int x1), (2, .int (nI i)), (3, .int v9), (4, .int (nI i)), (5, .int v9)]) (pcJ := 51) rfl L rfl (by decide) rfl rfl rfl (fun lv L => ?_)
            refine j_V.inL xaFA_M xaFA_51 (i := 4) (kl' := [(0, .ref 0), (1, .int x1), (2, .int (nI i)), (3, .int v9), (4, .int ((nI i) + 1)), (5, .int v9)]) (pcJ := 54) L rfl rfl rfl rfl (fun lv L => ?_)
            refine j_V.gto xaFA_M xaFA_54 (t := 7) rfl ?_
            rw [en] at L
            exact ih (i + 1) (nI i) v9 _ _ (by omega) (L.sub ⟨rfl, rfl, rfl, rfl, rfl, trivial⟩) ⟨fun z => absurd z ei1, fun z => absurd z (Nat.succ_ne_zero i)⟩ P FA
  have FA : ∀ x, (x < 282 ∨ 324 < x) → g0[x]? = g0[x]? := fun x _ => rfl
  have TA := P.2.2.1
  have K9 : kA g0 [(0, .inl (9, [.ref 1, .ref 3, .ref 4, .ref 29, .ref 281, .ref 325, .ref 327, .ref 343, .int sst])), (4, .inl (7, [.ref 327, .int mi, .int shu, .int bus, .ref 5, .ref 6, .ref 7, .ref 8, .ref 9, .ref 10, .ref 11, .ref 12, .ref 13, .ref 14, .ref 15, .int lks, .ref 16, .ref 17, .ref 20])), (5, .inr (.inl (0, rk))), (7, .inr (.inl (0, ph))), (281, .inl (1, [.ref 282, .ref 307, .ref 323, .ref 324])), (327, .inl (2, [.int (nI S), .ref 328, .ref 329, .ref 330, .ref 331, .int (nI n), .ref 332, .ref 333, .ref 334, .ref 335, .ref 336, .ref 337, .ref 338, .int cel, .ref 339, .ref 340, .ref 341, .ref 342])), (330, .inr (.inl (0, tra))), (335, .inr (.inl (0, tto)))] := ⟨(FA 0 (by decide)).trans C0, (FA 4 (by decide)).trans CS.1, (FA 5 (by decide)).trans CS.2.1, (FA 7 (by decide)).trans CS.2.2.2.1, P.2.2.2, (FA 327 (by decide)).trans CL.1, (FA 330 (by decide)).trans CL.2.2.1, (FA 335 (by decide)).trans CL.2.2.2.2.2.2.1, trivial⟩
  have K : KN g0 [(0, .inl (9, [.ref 1, .ref 3, .ref 4, .ref 29, .ref 281, .ref 325, .ref 327, .ref 343, .int sst])), (4, .inl (7, [.ref 327, .int mi, .int shu, .int bus, .ref 5, .ref 6, .ref 7, .ref 8, .ref 9, .ref 10, .ref 11, .ref 12, .ref 13, .ref 14, .ref 15, .int lks, .ref 16, .ref 17, .ref 20])), (5, .inr (.inl (0, rk))), (7, .inr (.inl (0, ph))), (281, .inl (1, [.ref 282, .ref 307, .ref 323, .ref 324])), (327, .inl (2, [.int (nI S), .ref 328, .ref 329, .ref 330, .ref 331, .int (nI n), .ref 332, .ref 333, .ref 334, .ref 335, .ref 336, .ref 337, .ref 338, .int cel, .ref 339, .ref 340, .ref 341, .ref 342])), (330, .inr (.inl (0, tra))), (335, .inr (.inl (0, tto)))] g0 := K9.K
  show j_V jP d 146 0 [(0, .ref 0), (1, .int x1)] [] g0 _
  obtain ⟨lv, elv, L⟩ : ∃ lv, lv = [(0, .ref 0), (1, .int x1)] ∧ LK lv [(0, .ref 0), (1, .int x1)] := ⟨_, rfl, LK.rf⟩
  rw [← elv]
  clear elv
  refine j_V.one xaFA_M xaFA_0 (by decide) (pcJ := 1) (stJ := [.int (-1)]) rfl ?_
  refine j_V.stL xaFA_M xaFA_1 rfl (i := 2) (kd := 0) (kl' := [(0, .ref 0), (1, .int x1), (2, .int (-1))]) (pcJ := 2) rfl L rfl (by decide) rfl rfl rfl (fun lv L => ?_)
  refine j_V.one xaFA_M xaFA_2 (by decide) (pcJ := 3) (stJ := [.int (-1)]) rfl ?_
  refine j_V.stL xaFA_M xaFA_3 rfl (i := 3) (kd := 0) (kl' := [(0, .ref 0), (1, .int x1), (2, .int (-1)), (3, .int (-1))]) (pcJ := 4) rfl L rfl (by decide) rfl rfl rfl (fun lv L => ?_)
  refine j_V.one xaFA_M xaFA_4 (by decide) (pcJ := 5) (stJ := [.int 0]) rfl ?_
  refine j_V.stL xaFA_M xaFA_5 rfl (i := 4) (kd := 0) (kl' := [(0, .ref 0), (1, .int x1), (2, .int (-1)), (3, .int (-1)), (4, .int 0)]) (pcJ := 7) rfl L rfl (by decide) rfl rfl rfl (fun lv L => ?_)
  exact hl n 0 (-1) (-1) _ _ (by omega) L ⟨fun _ => rfl, fun _ => rfl⟩ P FA

/-! the class's plan over the heap (layout 343): written by wip/px/gen_hC.py -/
set_option maxRecDepth 100000 in
theorem xbF9_M : j_meth jP 141 = some (yX9_plan, cX9_plan, 3, (some .int), 1, false, 9) := rfl
set_option maxRecDepth 100000 in
theorem xbF9_0 : j_code jP 141 0 = some (.iload_n 1) := rfl
set_option maxRecDepth 100000 in
theorem xbF9_1 : j_code jP 141 1 = some (.iconst (-1)) := rfl
set_option maxRecDepth 100000 in
theorem xbF9_2 : j_code jP 141 2 = some (.if_icmp .ge 9) := rfl
set_option maxRecDepth 100000 in
theorem xbF9_5 : j_code jP 141 5 = some (.aload_n 0) := rfl
set_option maxRecDepth 100000 in
theorem xbF9_6 : j_code jP 141 6 = some (.iconst 1) := rfl
set_option maxRecDepth 100000 in
theorem xbF9_7 : j_code jP 141 7 = some (.invokevirtual 84) := rfl
set_option maxRecDepth 100000 in
theorem xbF9_10 : j_code jP 141 10 = some (.ireturn) := rfl
set_option maxRecDepth 100000 in
theorem xbF9_11 : j_code jP 141 11 = some (.iload_n 1) := rfl
set_option maxRecDepth 100000 in
theorem xbF9_12 : j_code jP 141 12 = some (.aload_n 0) := rfl
set_option maxRecDepth 100000 in
theorem xbF9_13 : j_code jP 141 13 = some (.getfield 58) := rfl
set_option maxRecDepth 100000 in
theorem xbF9_16 : j_code jP 141 16 = some (.getfield 101) := rfl
set_option maxRecDepth 100000 in
theorem xbF9_19 : j_code jP 141 19 = some (.if_icmp .lt 9) := rfl
set_option maxRecDepth 100000 in
theorem xbF9_22 : j_code jP 141 22 = some (.aload_n 0) := rfl
set_option maxRecDepth 100000 in
theorem xbF9_23 : j_code jP 141 23 = some (.iconst 5) := rfl
set_option maxRecDepth 100000 in
theorem xbF9_24 : j_code jP 141 24 = some (.invokevirtual 84) := rfl
set_option maxRecDepth 100000 in
theorem xbF9_27 : j_code jP 141 27 = some (.ireturn) := rfl
set_option maxRecDepth 100000 in
theorem xbF9_28 : j_code jP 141 28 = some (.aload_n 0) := rfl
set_option maxRecDepth 100000 in
theorem xbF9_29 : j_code jP 141 29 = some (.getfield 44) := rfl
set_option maxRecDepth 100000 in
theorem xbF9_32 : j_code jP 141 32 = some (.aload_n 0) := rfl
set_option maxRecDepth 100000 in
theorem xbF9_33 : j_code jP 141 33 = some (.getfield 30) := rfl
set_option maxRecDepth 100000 in
theorem xbF9_36 : j_code jP 141 36 = some (.invokevirtual 331) := rfl
set_option maxRecDepth 100000 in
theorem xbF9_39 : j_code jP 141 39 = some (.istore_n 2) := rfl
set_option maxRecDepth 100000 in
theorem xbF9_40 : j_code jP 141 40 = some (.aload_n 0) := rfl
set_option maxRecDepth 100000 in
theorem xbF9_41 : j_code jP 141 41 = some (.iload_n 1) := rfl
set_option maxRecDepth 100000 in
theorem xbF9_42 : j_code jP 141 42 = some (.iconst (-1)) := rfl
set_option maxRecDepth 100000 in
theorem xbF9_43 : j_code jP 141 43 = some (.if_icmp .ne 7) := rfl
set_option maxRecDepth 100000 in
theorem xbF9_46 : j_code jP 141 46 = some (.iload_n 2) := rfl
set_option maxRecDepth 100000 in
theorem xbF9_47 : j_code jP 141 47 = some (.goto 12) := rfl
set_option maxRecDepth 100000 in
theorem xbF9_50 : j_code jP 141 50 = some (.aload_n 0) := rfl
set_option maxRecDepth 100000 in
theorem xbF9_51 : j_code jP 141 51 = some (.getfield 44) := rfl
set_option maxRecDepth 100000 in
theorem xbF9_54 : j_code jP 141 54 = some (.getfield 335) := rfl
set_option maxRecDepth 100000 in
theorem xbF9_57 : j_code jP 141 57 = some (.iload_n 1) := rfl
set_option maxRecDepth 100000 in
theorem xbF9_58 : j_code jP 141 58 = some (.iaload) := rfl
set_option maxRecDepth 100000 in
theorem xbF9_59 : j_code jP 141 59 = some (.invokevirtual 104) := rfl
set_option maxRecDepth 100000 in
theorem xbF9_62 : j_code jP 141 62 = some (.ireturn) := rfl
set_option maxRecDepth 1000000 in
theorem hq_plan_B {g0 : J_H} {n S m d : Nat} {w o9 b9 : List Int32} {sst : Int32} (x1 : Int32) (R : hX 343 327 n S w sst g0) (Q : hT9 282 0 g0) (C281 : g0[281]? = some (.inl (1, [.ref 282, .ref 307, .ref 323, .ref 324]))) (hm : gN w 201 = nI m) (hm9 : m < 2 ^ 29) (C3 : g0[323]? = some (.inr (.inl (0, o9)))) (C4 : g0[324]? = some (.inr (.inl (0, b9)))) (lo9 : o9.length = 5) (lb9 : b9.length = 5) {r : List (List Int32)} (hx : och (fun a => x_nxo a (nI n)) ([0, 1, 2, 3, 4] :: r)) (hA : ∀ a, a ∈ [0, 1, 2, 3, 4] :: r → a.length = 5 ∧ prm n a) (hr : r.length < 120) (hp1 : ∀ o, prm n o → ¬ m_pp n w o = -1) : j_V jP d 141 0 (lv_args 0 [.ref 0, .int x1]) [] g0 (fun rv h' => fqP 343 327 n S w (fpA n (plS (fun a => m_pp n w a) (m_pp n w [0, 1, 2, 3, 4]) [0, 1, 2, 3, 4] r) x1) rv g0 h') := by
  have R0 := R
  have C0 := R.1
  have P : hF 343 n S w g0 := ⟨R.2.1, R.2.2, Q, C281⟩
  have hb : m + 300 < 2 ^ 30 := by omega
  refine hX.opn R (fun mi shu bus lks rl pev rk sta ph sp ce du he ri us cm lf lkd row sea pms pmm pmt pst pwa prs prr pfa CS hl4 V cel run tra len siz frm tto lst slo wei fit way rid lon CL Y T hlY => ?_)
  have h5 := V.1.n5
  by_cases c1 : x1 < (-1)
  · skip
    rw [show fpA n (plS (fun a => m_pp n w a) (m_pp n w [0, 1, 2, 3, 4]) [0, 1, 2, 3, 4] r) x1 = ((-1), 0, 1) by unfold fpA; rw [if_pos c1]]
    have FA : ∀ x, (x < 282 ∨ 324 < x) → g0[x]? = g0[x]? := fun x _ => rfl
    have TA := P.2.2.1
    have K9 : kA g0 [(0, .inl (9, [.ref 1, .ref 3, .ref 4, .ref 29, .ref 281, .ref 325, .ref 343, .ref 327, .int sst])), (4, .inl (7, [.ref 343, .int mi, .int shu, .int bus, .ref 5, .ref 6, .ref 7, .ref 8, .ref 9, .ref 10, .ref 11, .ref 12, .ref 13, .ref 14, .ref 15, .int lks, .ref 16, .ref 17, .ref 20])), (5, .inr (.inl (0, rk))), (7, .inr (.inl (0, ph))), (281, .inl (1, [.ref 282, .ref 307, .ref 323, .ref 324])), (343, .inl (2, [.int (nI S), .ref 344, .ref 345, .ref 346, .ref 347, .int (nI n), .ref 348, .ref 349, .ref 350, .ref 351, .ref 352, .ref 353, .ref 354, .int cel, .ref 355, .ref 356, .ref 357, .ref 358])), (346, .inr (.inl (0, tra))), (351, .inr (.inl (0, tto)))] := ⟨(FA 0 (by decide)).trans C0, (FA 4 (by decide)).trans CS.1, (FA 5 (by decide)).trans CS.2.1, (FA 7 (by decide)).trans CS.2.2.2.1, P.2.2.2, (FA 343 (by decide)).trans CL.1, (FA 346 (by decide)).trans CL.2.2.1, (FA 351 (by decide)).trans CL.2.2.2.2.2.2.1, trivial⟩
    have K : KN g0 [(0, .inl (9, [.ref 1, .ref 3, .ref 4, .ref 29, .ref 281, .ref 325, .ref 343, .ref 327, .int sst])), (4, .inl (7, [.ref 343, .int mi, .int shu, .int bus, .ref 5, .ref 6, .ref 7, .ref 8, .ref 9, .ref 10, .ref 11, .ref 12, .ref 13, .ref 14, .ref 15, .int lks, .ref 16, .ref 17, .ref 20])), (5, .inr (.inl (0, rk))), (7, .inr (.inl (0, ph))), (281, .inl (1, [.ref 282, .ref 307, .ref 323, .ref 324])), (343, .inl (2, [.int (nI S), .ref 344, .ref 345, .ref 346, .ref 347, .int (nI n), .ref 348, .ref 349, .ref 350, .ref 351, .ref 352, .ref 353, .ref 354, .int cel, .ref 355, .ref 356, .ref 357, .ref 358])), (346, .inr (.inl (0, tra))), (351, .inr (.inl (0, tto)))] g0 := K9.K
    show j_V jP d 141 0 [(0, .ref 0), (1, .int x1)] [] g0 _
    obtain ⟨lv, elv, L⟩ : ∃ lv, lv = [(0, .ref 0), (1, .int x1)] ∧ LK lv [(0, .ref 0), (1, .int x1)] := ⟨_, rfl, LK.rf⟩
    rw [← elv]
    clear elv
    refine j_V.ldL xbF9_M xbF9_0 rfl (i := 1) (kd := 0) (v := .int x1) (pcJ := 1) rfl L rfl rfl rfl ?_
    refine j_V.one xbF9_M xbF9_1 (by decide) (pcJ := 2) (stJ := [.int (-1), .int x1]) rfl ?_
    refine j_V.icmp xbF9_M xbF9_2 (t := 11) rfl (fun c2_0 => ?_) (fun c2_0 => ?_)
    · replace c2_0 : ¬ (x1 < (-1)) := jd_ge c2_0
      exact absurd c1 c2_0
    · replace c2_0 : x1 < (-1) := jd_gen c2_0
      refine j_V.ldL xbF9_M xbF9_5 rfl (i := 0) (kd := 2) (v := .ref 0) (pcJ := 6) rfl L rfl rfl rfl ?_
      refine j_V.one xbF9_M xbF9_6 (by decide) (pcJ := 7) (stJ := [.int 1, .ref 0]) rfl ?_
      refine j_V.cl xbF9_M xbF9_7 rfl (md := 3) (mj := 161) rfl (by decide) xb50_M (As := [.ref 0, .int 1]) (rest := []) (jk_spl3 (K.at rfl) rfl rfl rfl (Nat.le_of_ble_eq_true rfl) (Nat.le_of_ble_eq_true rfl)) (fun d => xb50_ok (K.fi [0] rfl rfl)) ?_
      rintro r h9 ⟨rfl, K9⟩
      have K : KN h9 [(0, .inl (9, [.ref 1, .ref 3, .ref 4, .ref 29, .ref 281, .ref 325, .ref 343, .ref 327, .int ((x_qrefuse sst 1).2)])), (4, .inl (7, [.ref 343, .int mi, .int shu, .int bus, .ref 5, .ref 6, .ref 7, .ref 8, .ref 9, .ref 10, .ref 11, .ref 12, .ref 13, .ref 14, .ref 15, .int lks, .ref 16, .ref 17, .ref 20])), (5, .inr (.inl (0, rk))), (7, .inr (.inl (0, ph))), (281, .inl (1, [.ref 282, .ref 307, .ref 323, .ref 324])), (343, .inl (2, [.int (nI S), .ref 344, .ref 345, .ref 346, .ref 347, .int (nI n), .ref 348, .ref 349, .ref 350, .ref 351, .ref 352, .ref 353, .ref 354, .int cel, .ref 355, .ref 356, .ref 357, .ref 358])), (346, .inr (.inl (0, tra))), (351, .inr (.inl (0, tto)))] g0 := K.mg K9 rfl rfl
      clear K9
      show j_V jP _ 141 10 lv [.int ((x_qrefuse sst 1).1)] h9 _
      refine j_V.ri xbF9_M xbF9_10 ?_
      exact fqP.yes R0 FA TA (fun x g => KN.off K9 K (lkn (fun z => g z.symm) (lke (lke (lke (lke (lke (lke (lke rfl))))))))) (K.at rfl)
  by_cases c2 : x1 < (nI n)
  · skip
    have FA : ∀ x, (x < 282 ∨ 324 < x) → g0[x]? = g0[x]? := fun x _ => rfl
    have TA := P.2.2.1
    have K9 : kA g0 [(0, .inl (9, [.ref 1, .ref 3, .ref 4, .ref 29, .ref 281, .ref 325, .ref 343, .ref 327, .int sst])), (4, .inl (7, [.ref 343, .int mi, .int shu, .int bus, .ref 5, .ref 6, .ref 7, .ref 8, .ref 9, .ref 10, .ref 11, .ref 12, .ref 13, .ref 14, .ref 15, .int lks, .ref 16, .ref 17, .ref 20])), (5, .inr (.inl (0, rk))), (7, .inr (.inl (0, ph))), (281, .inl (1, [.ref 282, .ref 307, .ref 323, .ref 324])), (343, .inl (2, [.int (nI S), .ref 344, .ref 345, .ref 346, .ref 347, .int (nI n), .ref 348, .ref 349, .ref 350, .ref 351, .ref 352, .ref 353, .ref 354, .int cel, .ref 355, .ref 356, .ref 357, .ref 358])), (346, .inr (.inl (0, tra))), (351, .inr (.inl (0, tto)))] := ⟨(FA 0 (by decide)).trans C0, (FA 4 (by decide)).trans CS.1, (FA 5 (by decide)).trans CS.2.1, (FA 7 (by decide)).trans CS.2.2.2.1, P.2.2.2, (FA 343 (by decide)).trans CL.1, (FA 346 (by decide)).trans CL.2.2.1, (FA 351 (by decide)).trans CL.2.2.2.2.2.2.1, trivial⟩
    have K : KN g0 [(0, .inl (9, [.ref 1, .ref 3, .ref 4, .ref 29, .ref 281, .ref 325, .ref 343, .ref 327, .int sst])), (4, .inl (7, [.ref 343, .int mi, .int shu, .int bus, .ref 5, .ref 6, .ref 7, .ref 8, .ref 9, .ref 10, .ref 11, .ref 12, .ref 13, .ref 14, .ref 15, .int lks, .ref 16, .ref 17, .ref 20])), (5, .inr (.inl (0, rk))), (7, .inr (.inl (0, ph))), (281, .inl (1, [.ref 282, .ref 307, .ref 323, .ref 324])), (343, .inl (2, [.int (nI S), .ref 344, .ref 345, .ref 346, .ref 347, .int (nI n), .ref 348, .ref 349, .ref 350, .ref 351, .ref 352, .ref 353, .ref 354, .int cel, .ref 355, .ref 356, .ref 357, .ref 358])), (346, .inr (.inl (0, tra))), (351, .inr (.inl (0, tto)))] g0 := K9.K
    show j_V jP d 141 0 [(0, .ref 0), (1, .int x1)] [] g0 _
    obtain ⟨lv, elv, L⟩ : ∃ lv, lv = [(0, .ref 0), (1, .int x1)] ∧ LK lv [(0, .ref 0), (1, .int x1)] := ⟨_, rfl, LK.rf⟩
    rw [← elv]
    clear elv
    refine j_V.ldL xbF9_M xbF9_0 rfl (i := 1) (kd := 0) (v := .int x1) (pcJ := 1) rfl L rfl rfl rfl ?_
    refine j_V.one xbF9_M xbF9_1 (by decide) (pcJ := 2) (stJ := [.int (-1), .int x1]) rfl ?_
    refine j_V.icmp xbF9_M xbF9_2 (t := 11) rfl (fun c2_0 => ?_) (fun c2_0 => ?_)
    · replace c2_0 : ¬ (x1 < (-1)) := jd_ge c2_0
      refine j_V.ldL xbF9_M xbF9_11 rfl (i := 1) (kd := 0) (v := .int x1) (pcJ := 12) rfl L rfl rfl rfl ?_
      refine j_V.ldL xbF9_M xbF9_12 rfl (i := 0) (kd := 2) (v := .ref 0) (pcJ := 13) rfl L rfl rfl rfl ?_
      refine j_V.getK xbF9_M xbF9_13 (ci := 9) (j := 6) rfl K rfl rfl ?_
      refine j_V.getK xbF9_M xbF9_16 (ci := 2) (j := 5) rfl K rfl rfl ?_
      refine j_V.icmp xbF9_M xbF9_19 (t := 28) rfl (fun c19_0 => ?_) (fun c19_0 => ?_)
      · replace c19_0 : x1 < (nI n) := jd_lt c19_0
        refine j_V.ldL xbF9_M xbF9_28 rfl (i := 0) (kd := 2) (v := .ref 0) (pcJ := 29) rfl L rfl rfl rfl ?_
        refine j_V.getK xbF9_M xbF9_29 (ci := 9) (j := 4) rfl K rfl rfl ?_
        refine j_V.ldL xbF9_M xbF9_32 rfl (i := 0) (kd := 2) (v := .ref 0) (pcJ := 33) rfl L rfl rfl rfl ?_
        refine j_V.getK xbF9_M xbF9_33 (ci := 9) (j := 2) rfl K rfl rfl ?_
        refine j_V.cl xbF9_M xbF9_36 rfl (md := 3) (mj := 13) rfl (by decide) fp7_M (As := [.ref 281, .ref 4]) (rest := []) (jk_spl3 (K.at rfl) rfl rfl rfl (Nat.le_of_ble_eq_true rfl) (Nat.le_of_ble_eq_true rfl)) (fun d => hp_plan_343 P hm hb C3 C4 lo9 lb9 hx hA hr hp1) ?_
        rintro r9 h21 ⟨rfl, TA, C4p, -, F9⟩
        replace FA : ∀ x, (x < 282 ∨ 324 < x) → h21[x]? = g0[x]? := fun x g => F9 x (by omega)
        have C281p := (F9 281 (by decide)).trans C281
        have K9 : kA h21 [(0, .inl (9, [.ref 1, .ref 3, .ref 4, .ref 29, .ref 281, .ref 325, .ref 343, .ref 327, .int sst])), (4, .inl (7, [.ref 343, .int mi, .int shu, .int bus, .ref 5, .ref 6, .ref 7, .ref 8, .ref 9, .ref 10, .ref 11, .ref 12, .ref 13, .ref 14, .ref 15, .int lks, .ref 16, .ref 17, .ref 20])), (5, .inr (.inl (0, rk))), (7, .inr (.inl (0, ph))), (281, .inl (1, [.ref 282, .ref 307, .ref 323, .ref 324])), (324, .inr (.inl (0, (plS (fun a => m_pp n w a) (m_pp n w [0, 1, 2, 3, 4]) [0, 1, 2, 3, 4] r).2))), (343, .inl (2, [.int (nI S), .ref 344, .ref 345, .ref 346, .ref 347, .int (nI n), .ref 348, .ref 349, .ref 350, .ref 351, .ref 352, .ref 353, .ref 354, .int cel, .ref 355, .ref 356, .ref 357, .ref 358])), (346, .inr (.inl (0, tra))), (351, .inr (.inl (0, tto)))] := ⟨(FA 0 (by decide)).trans C0, (FA 4 (by decide)).trans CS.1, (FA 5 (by decide)).trans CS.2.1, (FA 7 (by decide)).trans CS.2.2.2.1, C281p, C4p, (FA 343 (by decide)).trans CL.1, (FA 346 (by decide)).trans CL.2.2.1, (FA 351 (by decide)).trans CL.2.2.2.2.2.2.1, trivial⟩
        have K : KN h21 [(0, .inl (9, [.ref 1, .ref 3, .ref 4, .ref 29, .ref 281, .ref 325, .ref 343, .ref 327, .int sst])), (4, .inl (7, [.ref 343, .int mi, .int shu, .int bus, .ref 5, .ref 6, .ref 7, .ref 8, .ref 9, .ref 10, .ref 11, .ref 12, .ref 13, .ref 14, .ref 15, .int lks, .ref 16, .ref 17, .ref 20])), (5, .inr (.inl (0, rk))), (7, .inr (.inl (0, ph))), (281, .inl (1, [.ref 282, .ref 307, .ref 323, .ref 324])), (324, .inr (.inl (0, (plS (fun a => m_pp n w a) (m_pp n w [0, 1, 2, 3, 4]) [0, 1, 2, 3, 4] r).2))), (343, .inl (2, [.int (nI S), .ref 344, .ref 345, .ref 346, .ref 347, .int (nI n), .ref 348, .ref 349, .ref 350, .ref 351, .ref 352, .ref 353, .ref 354, .int cel, .ref 355, .ref 356, .ref 357, .ref 358])), (346, .inr (.inl (0, tra))), (351, .inr (.inl (0, tto)))] h21 := K9.K
        show j_V jP _ 141 39 lv [.int (plS (fun a => m_pp n w a) (m_pp n w [0, 1, 2, 3, 4]) [0, 1, 2, 3, 4] r).1] h21 _
        refine j_V.stL xbF9_M xbF9_39 rfl (i := 2) (kd := 0) (kl' := [(0, .ref 0), (1, .int x1), (2, .int (plS (fun a => m_pp n w a) (m_pp n w [0, 1, 2, 3, 4]) [0, 1, 2, 3, 4] r).1)]) (pcJ := 40) rfl L rfl (by decide) rfl rfl rfl (fun lv L => ?_)
        refine j_V.ldL xbF9_M xbF9_40 rfl (i := 0) (kd := 2) (v := .ref 0) (pcJ := 41) rfl L rfl rfl rfl ?_
        refine j_V.ldL xbF9_M xbF9_41 rfl (i := 1) (kd := 0) (v := .int x1) (pcJ := 42) rfl L rfl rfl rfl ?_
        refine j_V.one xbF9_M xbF9_42 (by decide) (pcJ := 43) (stJ := [.int (-1), .int x1, .ref 0]) rfl ?_
        refine j_V.icmp xbF9_M xbF9_43 (t := 50) rfl (fun c43_0 => ?_) (fun c43_0 => ?_)
        · replace c43_0 : ¬ (x1 = (-1)) := jd_ne c43_0
          refine j_V.ldL xbF9_M xbF9_50 rfl (i := 0) (kd := 2) (v := .ref 0) (pcJ := 51) rfl L rfl rfl rfl ?_
          refine j_V.getK xbF9_M xbF9_51 (ci := 9) (j := 4) rfl K rfl rfl ?_
          refine j_V.getK xbF9_M xbF9_54 (ci := 1) (j := 3) rfl K rfl rfl ?_
          refine j_V.ldL xbF9_M xbF9_57 rfl (i := 1) (kd := 0) (v := .int x1) (pcJ := 58) rfl L rfl rfl rfl ?_
          refine j_V.iaA xbF9_M xbF9_58 K rfl ?_
          refine j_V.cl xbF9_M xbF9_59 rfl (md := 3) (mj := 159) rfl (by decide) xb49_M (As := [.ref 0, .int (gA (plS (fun a => m_pp n w a) (m_pp n w [0, 1, 2, 3, 4]) [0, 1, 2, 3, 4] r).2 x1)]) (rest := []) (jk_spl3 (K.at rfl) rfl rfl rfl (Nat.le_of_ble_eq_true rfl) (Nat.le_of_ble_eq_true rfl)) (fun d => xb49_ok (K.fi [0] rfl rfl)) ?_
          rintro r h9 ⟨rfl, K9⟩
          have K : KN h9 [(0, .inl (9, [.ref 1, .ref 3, .ref 4, .ref 29, .ref 281, .ref 325, .ref 343, .ref 327, .int ((x_qanswer sst (gA (plS (fun a => m_pp n w a) (m_pp n w [0, 1, 2, 3, 4]) [0, 1, 2, 3, 4] r).2 x1)).2)])), (4, .inl (7, [.ref 343, .int mi, .int shu, .int bus, .ref 5, .ref 6, .ref 7, .ref 8, .ref 9, .ref 10, .ref 11, .ref 12, .ref 13, .ref 14, .ref 15, .int lks, .ref 16, .ref 17, .ref 20])), (5, .inr (.inl (0, rk))), (7, .inr (.inl (0, ph))), (281, .inl (1, [.ref 282, .ref 307, .ref 323, .ref 324])), (324, .inr (.inl (0, (plS (fun a => m_pp n w a) (m_pp n w [0, 1, 2, 3, 4]) [0, 1, 2, 3, 4] r).2))), (343, .inl (2, [.int (nI S), .ref 344, .ref 345, .ref 346, .ref 347, .int (nI n), .ref 348, .ref 349, .ref 350, .ref 351, .ref 352, .ref 353, .ref 354, .int cel, .ref 355, .ref 356, .ref 357, .ref 358])), (346, .inr (.inl (0, tra))), (351, .inr (.inl (0, tto)))] h21 := K.mg K9 rfl rfl
          clear K9
          show j_V jP _ 141 62 lv [.int ((x_qanswer sst (gA (plS (fun a => m_pp n w a) (m_pp n w [0, 1, 2, 3, 4]) [0, 1, 2, 3, 4] r).2 x1)).1)] h9 _
          refine j_V.ri xbF9_M xbF9_62 ?_
          rw [show fpA n (plS (fun a => m_pp n w a) (m_pp n w [0, 1, 2, 3, 4]) [0, 1, 2, 3, 4] r) x1 = ((gA (plS (fun a => m_pp n w a) (m_pp n w [0, 1, 2, 3, 4]) [0, 1, 2, 3, 4] r).2 x1), 0, 0) by unfold fpA; rw [if_neg c1, if_pos c2, if_neg c43_0]]
          exact fqP.yes R0 FA TA (fun x g => KN.off K9 K (lkn (fun z => g z.symm) (lke (lke (lke (lke (lke (lke (lke (lke rfl)))))))))) (K.at rfl)
        · replace c43_0 : x1 = (-1) := jd_nen c43_0
          refine j_V.ldL xbF9_M xbF9_46 rfl (i := 2) (kd := 0) (v := .int (plS (fun a => m_pp n w a) (m_pp n w [0, 1, 2, 3, 4]) [0, 1, 2, 3, 4] r).1) (pcJ := 47) rfl L rfl rfl rfl ?_
          refine j_V.gto xbF9_M xbF9_47 (t := 59) rfl ?_
          refine j_V.cl xbF9_M xbF9_59 rfl (md := 3) (mj := 159) rfl (by decide) xb49_M (As := [.ref 0, .int (plS (fun a => m_pp n w a) (m_pp n w [0, 1, 2, 3, 4]) [0, 1, 2, 3, 4] r).1]) (rest := []) (jk_spl3 (K.at rfl) rfl rfl rfl (Nat.le_of_ble_eq_true rfl) (Nat.le_of_ble_eq_true rfl)) (fun d => xb49_ok (K.fi [0] rfl rfl)) ?_
          rintro r h9 ⟨rfl, K9⟩
          have K : KN h9 [(0, .inl (9, [.ref 1, .ref 3, .ref 4, .ref 29, .ref 281, .ref 325, .ref 343, .ref 327, .int ((x_qanswer sst ((plS (fun a => m_pp n w a) (m_pp n w [0, 1, 2, 3, 4]) [0, 1, 2, 3, 4] r).1)).2)])), (4, .inl (7, [.ref 343, .int mi, .int shu, .int bus, .ref 5, .ref 6, .ref 7, .ref 8, .ref 9, .ref 10, .ref 11, .ref 12, .ref 13, .ref 14, .ref 15, .int lks, .ref 16, .ref 17, .ref 20])), (5, .inr (.inl (0, rk))), (7, .inr (.inl (0, ph))), (281, .inl (1, [.ref 282, .ref 307, .ref 323, .ref 324])), (324, .inr (.inl (0, (plS (fun a => m_pp n w a) (m_pp n w [0, 1, 2, 3, 4]) [0, 1, 2, 3, 4] r).2))), (343, .inl (2, [.int (nI S), .ref 344, .ref 345, .ref 346, .ref 347, .int (nI n), .ref 348, .ref 349, .ref 350, .ref 351, .ref 352, .ref 353, .ref 354, .int cel, .ref 355, .ref 356, .ref 357, .ref 358])), (346, .inr (.inl (0, tra))), (351, .inr (.inl (0, tto)))] h21 := K.mg K9 rfl rfl
          clear K9
          show j_V jP _ 141 62 lv [.int ((x_qanswer sst ((plS (fun a => m_pp n w a) (m_pp n w [0, 1, 2, 3, 4]) [0, 1, 2, 3, 4] r).1)).1)] h9 _
          refine j_V.ri xbF9_M xbF9_62 ?_
          rw [show fpA n (plS (fun a => m_pp n w a) (m_pp n w [0, 1, 2, 3, 4]) [0, 1, 2, 3, 4] r) x1 = ((plS (fun a => m_pp n w a) (m_pp n w [0, 1, 2, 3, 4]) [0, 1, 2, 3, 4] r).1, 0, 0) by unfold fpA; rw [if_neg c1, if_pos c2, if_pos c43_0]]
          exact fqP.yes R0 FA TA (fun x g => KN.off K9 K (lkn (fun z => g z.symm) (lke (lke (lke (lke (lke (lke (lke (lke rfl)))))))))) (K.at rfl)
      · replace c19_0 : ¬ (x1 < (nI n)) := jd_ltn c19_0
        exact absurd c2 c19_0
    · replace c2_0 : x1 < (-1) := jd_gen c2_0
      exact absurd c2_0 c1
  · skip
    rw [show fpA n (plS (fun a => m_pp n w a) (m_pp n w [0, 1, 2, 3, 4]) [0, 1, 2, 3, 4] r) x1 = ((-1), 0, 5) by unfold fpA; rw [if_neg c1, if_neg c2]]
    have FA : ∀ x, (x < 282 ∨ 324 < x) → g0[x]? = g0[x]? := fun x _ => rfl
    have TA := P.2.2.1
    have K9 : kA g0 [(0, .inl (9, [.ref 1, .ref 3, .ref 4, .ref 29, .ref 281, .ref 325, .ref 343, .ref 327, .int sst])), (4, .inl (7, [.ref 343, .int mi, .int shu, .int bus, .ref 5, .ref 6, .ref 7, .ref 8, .ref 9, .ref 10, .ref 11, .ref 12, .ref 13, .ref 14, .ref 15, .int lks, .ref 16, .ref 17, .ref 20])), (5, .inr (.inl (0, rk))), (7, .inr (.inl (0, ph))), (281, .inl (1, [.ref 282, .ref 307, .ref 323, .ref 324])), (343, .inl (2, [.int (nI S), .ref 344, .ref 345, .ref 346, .ref 347, .int (nI n), .ref 348, .ref 349, .ref 350, .ref 351, .ref 352, .ref 353, .ref 354, .int cel, .ref 355, .ref 356, .ref 357, .ref 358])), (346, .inr (.inl (0, tra))), (351, .inr (.inl (0, tto)))] := ⟨(FA 0 (by decide)).trans C0, (FA 4 (by decide)).trans CS.1, (FA 5 (by decide)).trans CS.2.1, (FA 7 (by decide)).trans CS.2.2.2.1, P.2.2.2, (FA 343 (by decide)).trans CL.1, (FA 346 (by decide)).trans CL.2.2.1, (FA 351 (by decide)).trans CL.2.2.2.2.2.2.1, trivial⟩
    have K : KN g0 [(0, .inl (9, [.ref 1, .ref 3, .ref 4, .ref 29, .ref 281, .ref 325, .ref 343, .ref 327, .int sst])), (4, .inl (7, [.ref 343, .int mi, .int shu, .int bus, .ref 5, .ref 6, .ref 7, .ref 8, .ref 9, .ref 10, .ref 11, .ref 12, .ref 13, .ref 14, .ref 15, .int lks, .ref 16, .ref 17, .ref 20])), (5, .inr (.inl (0, rk))), (7, .inr (.inl (0, ph))), (281, .inl (1, [.ref 282, .ref 307, .ref 323, .ref 324])), (343, .inl (2, [.int (nI S), .ref 344, .ref 345, .ref 346, .ref 347, .int (nI n), .ref 348, .ref 349, .ref 350, .ref 351, .ref 352, .ref 353, .ref 354, .int cel, .ref 355, .ref 356, .ref 357, .ref 358])), (346, .inr (.inl (0, tra))), (351, .inr (.inl (0, tto)))] g0 := K9.K
    show j_V jP d 141 0 [(0, .ref 0), (1, .int x1)] [] g0 _
    obtain ⟨lv, elv, L⟩ : ∃ lv, lv = [(0, .ref 0), (1, .int x1)] ∧ LK lv [(0, .ref 0), (1, .int x1)] := ⟨_, rfl, LK.rf⟩
    rw [← elv]
    clear elv
    refine j_V.ldL xbF9_M xbF9_0 rfl (i := 1) (kd := 0) (v := .int x1) (pcJ := 1) rfl L rfl rfl rfl ?_
    refine j_V.one xbF9_M xbF9_1 (by decide) (pcJ := 2) (stJ := [.int (-1), .int x1]) rfl ?_
    refine j_V.icmp xbF9_M xbF9_2 (t := 11) rfl (fun c2_0 => ?_) (fun c2_0 => ?_)
    · replace c2_0 : ¬ (x1 < (-1)) := jd_ge c2_0
      refine j_V.ldL xbF9_M xbF9_11 rfl (i := 1) (kd := 0) (v := .int x1) (pcJ := 12) rfl L rfl rfl rfl ?_
      refine j_V.ldL xbF9_M xbF9_12 rfl (i := 0) (kd := 2) (v := .ref 0) (pcJ := 13) rfl L rfl rfl rfl ?_
      refine j_V.getK xbF9_M xbF9_13 (ci := 9) (j := 6) rfl K rfl rfl ?_
      refine j_V.getK xbF9_M xbF9_16 (ci := 2) (j := 5) rfl K rfl rfl ?_
      refine j_V.icmp xbF9_M xbF9_19 (t := 28) rfl (fun c19_0 => ?_) (fun c19_0 => ?_)
      · replace c19_0 : x1 < (nI n) := jd_lt c19_0
        exact absurd c19_0 c2
      · replace c19_0 : ¬ (x1 < (nI n)) := jd_ltn c19_0
        refine j_V.ldL xbF9_M xbF9_22 rfl (i := 0) (kd := 2) (v := .ref 0) (pcJ := 23) rfl L rfl rfl rfl ?_
        refine j_V.one xbF9_M xbF9_23 (by decide) (pcJ := 24) (stJ := [.int 5, .ref 0]) rfl ?_
        refine j_V.cl xbF9_M xbF9_24 rfl (md := 3) (mj := 161) rfl (by decide) xb50_M (As := [.ref 0, .int 5]) (rest := []) (jk_spl3 (K.at rfl) rfl rfl rfl (Nat.le_of_ble_eq_true rfl) (Nat.le_of_ble_eq_true rfl)) (fun d => xb50_ok (K.fi [0] rfl rfl)) ?_
        rintro r h9 ⟨rfl, K9⟩
        have K : KN h9 [(0, .inl (9, [.ref 1, .ref 3, .ref 4, .ref 29, .ref 281, .ref 325, .ref 343, .ref 327, .int ((x_qrefuse sst 5).2)])), (4, .inl (7, [.ref 343, .int mi, .int shu, .int bus, .ref 5, .ref 6, .ref 7, .ref 8, .ref 9, .ref 10, .ref 11, .ref 12, .ref 13, .ref 14, .ref 15, .int lks, .ref 16, .ref 17, .ref 20])), (5, .inr (.inl (0, rk))), (7, .inr (.inl (0, ph))), (281, .inl (1, [.ref 282, .ref 307, .ref 323, .ref 324])), (343, .inl (2, [.int (nI S), .ref 344, .ref 345, .ref 346, .ref 347, .int (nI n), .ref 348, .ref 349, .ref 350, .ref 351, .ref 352, .ref 353, .ref 354, .int cel, .ref 355, .ref 356, .ref 357, .ref 358])), (346, .inr (.inl (0, tra))), (351, .inr (.inl (0, tto)))] g0 := K.mg K9 rfl rfl
        clear K9
        show j_V jP _ 141 27 lv [.int ((x_qrefuse sst 5).1)] h9 _
        refine j_V.ri xbF9_M xbF9_27 ?_
        exact fqP.yes R0 FA TA (fun x g => KN.off K9 K (lkn (fun z => g z.symm) (lke (lke (lke (lke (lke (lke (lke rfl))))))))) (K.at rfl)
    · replace c2_0 : x1 < (-1) := jd_gen c2_0
      exact absurd c2_0 c1

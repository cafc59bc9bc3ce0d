/-! the class's burden over the heap (layout 343), its answer the reference's: written by wip/p36/gen_b.py -/
set_option maxRecDepth 1000000 in
theorem hx_burden_B {g0 : J_H} {n S m d : Nat} {w : List Int32} {sst th sst' : Int32} (x1 : Int32) (R : hX 343 327 n S w sst g0) (Q : hT9 282 0 g0) (C281 : g0[281]? = some (.inl (1, [.ref 282, .ref 307, .ref 323, .ref 324]))) (hm : gN w 201 = nI m) (hb : m + 300 < 2 ^ 30) (hp : ∀ t, t < n → buP n w t < 2147483647) : j_V jP d 146 0 (lv_args 0 [.ref 0, .int x1]) [] g0 (fun rv h' => fqP 343 327 n S w (m_qburden n th sst' w x1) rv g0 h') := by
  have R0 := R
  have C0 := R.1
  have P : hF 343 n S w g0 := ⟨R.2.1, R.2.2, Q, C281⟩
  refine hX.opn R (fun mi shu bus lks rl pev rk sta ph sp ce du he ri us cm lf lkd row sea pms pmm pmt pst pwa prs prr pfa CS hl4 V cel run tra len siz frm tto lst slo wei fit way rid lon CL Y T hlY => ?_)
  have h5 := V.1.n5
  have hl : ∀ (f i : Nat) (b l v3 v4 : Int32) (lv : J_L) (hc : J_H), i + f = n → LK lv [(0, .ref 0), (1, .int x1), (2, .int b), (3, .int l), (4, .int (nI i))] → ((i = 0 ∧ b = (-1) ∧ v4 = 2147483647) ∨ (¬ i = 0 ∧ ¬ b = (-1) ∧ b = v3 ∧ l = v4)) → hF 343 n S w hc → (∀ x, (x < 282 ∨ 324 < x) → hc[x]? = g0[x]?) → j_V jP d 146 7 lv [] hc (fun rv h' => fqP 343 327 n S w (if n = 0 then ((-1 : Int32), (0 : Int32), (5 : Int32)) else m_qburden_l40 n th sst' w x1 f i v3 v4) rv g0 h') := by
    intro f
    induction f with
    | zero =>
      intro i b l v3 v4 lv hc hif L hb4 P FA
      have hin : n = i := by omega
      have e0 : ¬ ((nI i) < (nI n)) := by rw [hin]; exact fun z => absurd (Int32.lt_iff_toInt_lt.mp z) (Int.lt_irrefl _)
      have TA := P.2.2.1
      have K9 : kA hc [(0, .inl (9, [.ref 1, .ref 3, .ref 4, .ref 29, .ref 281, .ref 325, .ref 343, .ref 327, .int sst])), (4, .inl (7, [.ref 343, .int mi, .int shu, .int bus, .ref 5, .ref 6, .ref 7, .ref 8, .ref 9, .ref 10, .ref 11, .ref 12, .ref 13, .ref 14, .ref 15, .int lks, .ref 16, .ref 17, .ref 20])), (5, .inr (.inl (0, rk))), (7, .inr (.inl (0, ph))), (281, .inl (1, [.ref 282, .ref 307, .ref 323, .ref 324])), (343, .inl (2, [.int (nI S), .ref 344, .ref 345, .ref 346, .ref 347, .int (nI n), .ref 348, .ref 349, .ref 350, .ref 351, .ref 352, .ref 353, .ref 354, .int cel, .ref 355, .ref 356, .ref 357, .ref 358])), (346, .inr (.inl (0, tra))), (351, .inr (.inl (0, tto)))] := ⟨(FA 0 (by decide)).trans C0, (FA 4 (by decide)).trans CS.1, (FA 5 (by decide)).trans CS.2.1, (FA 7 (by decide)).trans CS.2.2.2.1, P.2.2.2, (FA 343 (by decide)).trans CL.1, (FA 346 (by decide)).trans CL.2.2.1, (FA 351 (by decide)).trans CL.2.2.2.2.2.2.1, trivial⟩
      have K : KN hc [(0, .inl (9, [.ref 1, .ref 3, .ref 4, .ref 29, .ref 281, .ref 325, .ref 343, .ref 327, .int sst])), (4, .inl (7, [.ref 343, .int mi, .int shu, .int bus, .ref 5, .ref 6, .ref 7, .ref 8, .ref 9, .ref 10, .ref 11, .ref 12, .ref 13, .ref 14, .ref 15, .int lks, .ref 16, .ref 17, .ref 20])), (5, .inr (.inl (0, rk))), (7, .inr (.inl (0, ph))), (281, .inl (1, [.ref 282, .ref 307, .ref 323, .ref 324])), (343, .inl (2, [.int (nI S), .ref 344, .ref 345, .ref 346, .ref 347, .int (nI n), .ref 348, .ref 349, .ref 350, .ref 351, .ref 352, .ref 353, .ref 354, .int cel, .ref 355, .ref 356, .ref 357, .ref 358])), (346, .inr (.inl (0, tra))), (351, .inr (.inl (0, tto)))] hc := K9.K
      refine j_V.ldL xbFA_M xbFA_7 rfl (i := 4) (kd := 0) (v := .int (nI i)) (pcJ := 9) rfl L rfl rfl rfl ?_
      refine j_V.ldL xbFA_M xbFA_9 rfl (i := 0) (kd := 2) (v := .ref 0) (pcJ := 10) rfl L rfl rfl rfl ?_
      refine j_V.getK xbFA_M xbFA_10 (ci := 9) (j := 6) rfl K rfl rfl ?_
      refine j_V.getK xbFA_M xbFA_13 (ci := 2) (j := 5) rfl K rfl rfl ?_
      refine j_V.icmp xbFA_M xbFA_16 (t := 57) rfl (fun c16_0 => ?_) (fun c16_0 => ?_)
      · replace c16_0 : ¬ ((nI i) < (nI n)) := jd_ge c16_0
        refine j_V.ldL xbFA_M xbFA_57 rfl (i := 2) (kd := 0) (v := .int b) (pcJ := 58) rfl L rfl rfl rfl ?_
        refine j_V.one xbFA_M xbFA_58 (by decide) (pcJ := 59) (stJ := [.int (-1), .int b]) rfl ?_
        refine j_V.icmp xbFA_M xbFA_59 (t := 70) rfl (fun c59_0 => ?_) (fun c59_0 => ?_)
        · replace c59_0 : ¬ (b = (-1)) := jd_ne c59_0
          refine j_V.ldL xbFA_M xbFA_70 rfl (i := 0) (kd := 2) (v := .ref 0) (pcJ := 71) rfl L rfl rfl rfl ?_
          refine j_V.ldL xbFA_M xbFA_71 rfl (i := 1) (kd := 0) (v := .int x1) (pcJ := 72) rfl L rfl rfl rfl ?_
          refine j_V.ifc xbFA_M xbFA_72 (t := 79) rfl (fun c72_1 => ?_) (fun c72_1 => ?_)
          · replace c72_1 : x1 = 0 := jd_eq c72_1
            refine j_V.ldL xbFA_M xbFA_79 rfl (i := 2) (kd := 0) (v := .int b) (pcJ := 80) rfl L rfl rfl rfl ?_
            refine j_V.cl xbFA_M xbFA_80 rfl (md := 3) (mj := 159) rfl (by decide) xb49_M (As := [.ref 0, .int b]) (rest := []) (jk_spl3 (K.at rfl) rfl rfl rfl (Nat.le_of_ble_eq_true rfl) (Nat.le_of_ble_eq_true rfl)) (fun d => xb49_ok (K.fi [0] rfl rfl)) ?_
            rintro r h9 ⟨rfl, K9⟩
            have K : KN h9 [(0, .inl (9, [.ref 1, .ref 3, .ref 4, .ref 29, .ref 281, .ref 325, .ref 343, .ref 327, .int ((x_qanswer sst b).2)])), (4, .inl (7, [.ref 343, .int mi, .int shu, .int bus, .ref 5, .ref 6, .ref 7, .ref 8, .ref 9, .ref 10, .ref 11, .ref 12, .ref 13, .ref 14, .ref 15, .int lks, .ref 16, .ref 17, .ref 20])), (5, .inr (.inl (0, rk))), (7, .inr (.inl (0, ph))), (281, .inl (1, [.ref 282, .ref 307, .ref 323, .ref 324])), (343, .inl (2, [.int (nI S), .ref 344, .ref 345, .ref 346, .ref 347, .int (nI n), .ref 348, .ref 349, .ref 350, .ref 351, .ref 352, .ref 353, .ref 354, .int cel, .ref 355, .ref 356, .ref 357, .ref 358])), (346, .inr (.inl (0, tra))), (351, .inr (.inl (0, tto)))] hc := K.mg K9 rfl rfl
            clear K9
            show j_V jP _ 146 83 lv [.int ((x_qanswer sst b).1)] h9 _
            refine j_V.ri xbFA_M xbFA_83 ?_
            obtain ⟨i0, -, eb, el⟩ : ¬ i = 0 ∧ ¬ b = (-1) ∧ b = v3 ∧ l = v4 := by rcases hb4 with z | z; exact absurd z.2.1 c59_0; exact z
            have hn : ¬ n = 0 := fun z => i0 (hin.symm.trans z)
            rw [if_neg hn]
            rw [show m_qburden_l40 n th sst' w x1 0 i v3 v4 = (b, 0, 0) by show (if x1 = 0 then _ else _) = _; rw [if_pos c72_1]; rw [← eb]; rfl]
            exact fqP.yes R0 FA TA (fun x g => KN.off K9 K (lkn (fun z => g z.symm) (lke (lke (lke (lke (lke (lke (lke rfl))))))))) (K.at rfl)
          · replace c72_1 : ¬ (x1 = 0) := jd_eqn c72_1
            refine j_V.ldL xbFA_M xbFA_75 rfl (i := 3) (kd := 0) (v := .int l) (pcJ := 76) rfl L rfl rfl rfl ?_
            refine j_V.gto xbFA_M xbFA_76 (t := 80) rfl ?_
            refine j_V.cl xbFA_M xbFA_80 rfl (md := 3) (mj := 159) rfl (by decide) xb49_M (As := [.ref 0, .int l]) (rest := []) (jk_spl3 (K.at rfl) rfl rfl rfl (Nat.le_of_ble_eq_true rfl) (Nat.le_of_ble_eq_true rfl)) (fun d => xb49_ok (K.fi [0] rfl rfl)) ?_
            rintro r h9 ⟨rfl, K9⟩
            have K : KN h9 [(0, .inl (9, [.ref 1, .ref 3, .ref 4, .ref 29, .ref 281, .ref 325, .ref 343, .ref 327, .int ((x_qanswer sst l).2)])), (4, .inl (7, [.ref 343, .int mi, .int shu, .int bus, .ref 5, .ref 6, .ref 7, .ref 8, .ref 9, .ref 10, .ref 11, .ref 12, .ref 13, .ref 14, .ref 15, .int lks, .ref 16, .ref 17, .ref 20])), (5, .inr (.inl (0, rk))), (7, .inr (.inl (0, ph))), (281, .inl (1, [.ref 282, .ref 307, .ref 323, .ref 324])), (343, .inl (2, [.int (nI S), .ref 344, .ref 345, .ref 346, .ref 347, .int (nI n), .ref 348, .ref 349, .ref 350, .ref 351, .ref 352, .ref 353, .ref 354, .int cel, .ref 355, .ref 356, .ref 357, .ref 358])), (346, .inr (.inl (0, tra))), (351, .inr (.inl (0, tto)))] hc := K.mg K9 rfl rfl
            clear K9
            show j_V jP _ 146 83 lv [.int ((x_qanswer sst l).1)] h9 _
            refine j_V.ri xbFA_M xbFA_83 ?_
            obtain ⟨i0, -, eb, el⟩ : ¬ i = 0 ∧ ¬ b = (-1) ∧ b = v3 ∧ l = v4 := by rcases hb4 with z | z; exact absurd z.2.1 c59_0; exact z
            have hn : ¬ n = 0 := fun z => i0 (hin.symm.trans z)
            rw [if_neg hn]
            rw [show m_qburden_l40 n th sst' w x1 0 i v3 v4 = (l, 0, 0) by show (if x1 = 0 then _ else _) = _; rw [if_neg c72_1]; rw [← el]; rfl]
            exact fqP.yes R0 FA TA (fun x g => KN.off K9 K (lkn (fun z => g z.symm) (lke (lke (lke (lke (lke (lke (lke rfl))))))))) (K.at rfl)
        · replace c59_0 : b = (-1) := jd_nen c59_0
          refine j_V.ldL xbFA_M xbFA_62 rfl (i := 0) (kd := 2) (v := .ref 0) (pcJ := 63) rfl L rfl rfl rfl ?_
          refine j_V.one xbFA_M xbFA_63 (by decide) (pcJ := 64) (stJ := [.int 5, .ref 0]) rfl ?_
          refine j_V.cl xbFA_M xbFA_64 rfl (md := 3) (mj := 161) rfl (by decide) xb50_M (As := [.ref 0, .int 5]) (rest := []) (jk_spl3 (K.at rfl) rfl rfl rfl (Nat.le_of_ble_eq_true rfl) (Nat.le_of_ble_eq_true rfl)) (fun d => xb50_ok (K.fi [0] rfl rfl)) ?_
          rintro r h9 ⟨rfl, K9⟩
          have K : KN h9 [(0, .inl (9, [.ref 1, .ref 3, .ref 4, .ref 29, .ref 281, .ref 325, .ref 343, .ref 327, .int ((x_qrefuse sst 5).2)])), (4, .inl (7, [.ref 343, .int mi, .int shu, .int bus, .ref 5, .ref 6, .ref 7, .ref 8, .ref 9, .ref 10, .ref 11, .ref 12, .ref 13, .ref 14, .ref 15, .int lks, .ref 16, .ref 17, .ref 20])), (5, .inr (.inl (0, rk))), (7, .inr (.inl (0, ph))), (281, .inl (1, [.ref 282, .ref 307, .ref 323, .ref 324])), (343, .inl (2, [.int (nI S), .ref 344, .ref 345, .ref 346, .ref 347, .int (nI n), .ref 348, .ref 349, .ref 350, .ref 351, .ref 352, .ref 353, .ref 354, .int cel, .ref 355, .ref 356, .ref 357, .ref 358])), (346, .inr (.inl (0, tra))), (351, .inr (.inl (0, tto)))] hc := K.mg K9 rfl rfl
          clear K9
          show j_V jP _ 146 67 lv [.int ((x_qrefuse sst 5).1)] h9 _
          refine j_V.gto xbFA_M xbFA_67 (t := 83) rfl ?_
          refine j_V.ri xbFA_M xbFA_83 ?_
          have hn : n = 0 := by rcases hb4 with z | z; exact hin.trans z.1; exact absurd c59_0 z.2.1
          rw [if_pos hn]
          exact fqP.yes R0 FA TA (fun x g => KN.off K9 K (lkn (fun z => g z.symm) (lke (lke (lke (lke (lke (lke (lke rfl))))))))) (K.at rfl)
      · replace c16_0 : (nI i) < (nI n) := jd_gen c16_0
        exact absurd c16_0 e0
    | succ f ih =>
      intro i b l v3 v4 lv hc hif L hb4 P FA
      have hit : i < n := by omega
      have hpi := hp i hit
      have e0 : (nI i) < (nI n) := nI_lt (a := i) (b := n) (by omega) (by omega)
      have en : (nI i) + 1 = nI (i + 1) := nI_add9 i 1
      have ei1 : ¬ nI i = (-1) := fun z => by have := congrArg Int32.toInt z; rw [nI_toInt (by omega)] at this; have e9 : ((-1 : Int32)).toInt = -1 := rfl; omega
      have TA := P.2.2.1
      have K9 : kA hc [(0, .inl (9, [.ref 1, .ref 3, .ref 4, .ref 29, .ref 281, .ref 325, .ref 343, .ref 327, .int sst])), (4, .inl (7, [.ref 343, .int mi, .int shu, .int bus, .ref 5, .ref 6, .ref 7, .ref 8, .ref 9, .ref 10, .ref 11, .ref 12, .ref 13, .ref 14, .ref 15, .int lks, .ref 16, .ref 17, .ref 20])), (5, .inr (.inl (0, rk))), (7, .inr (.inl (0, ph))), (281, .inl (1, [.ref 282, .ref 307, .ref 323, .ref 324])), (343, .inl (2, [.int (nI S), .ref 344, .ref 345, .ref 346, .ref 347, .int (nI n), .ref 348, .ref 349, .ref 350, .ref 351, .ref 352, .ref 353, .ref 354, .int cel, .ref 355, .ref 356, .ref 357, .ref 358])), (346, .inr (.inl (0, tra))), (351, .inr (.inl (0, tto)))] := ⟨(FA 0 (by decide)).trans C0, (FA 4 (by decide)).trans CS.1, (FA 5 (by decide)).trans CS.2.1, (FA 7 (by decide)).trans CS.2.2.2.1, P.2.2.2, (FA 343 (by decide)).trans CL.1, (FA 346 (by decide)).trans CL.2.2.1, (FA 351 (by decide)).trans CL.2.2.2.2.2.2.1, trivial⟩
      have K : KN hc [(0, .inl (9, [.ref 1, .ref 3, .ref 4, .ref 29, .ref 281, .ref 325, .ref 343, .ref 327, .int sst])), (4, .inl (7, [.ref 343, .int mi, .int shu, .int bus, .ref 5, .ref 6, .ref 7, .ref 8, .ref 9, .ref 10, .ref 11, .ref 12, .ref 13, .ref 14, .ref 15, .int lks, .ref 16, .ref 17, .ref 20])), (5, .inr (.inl (0, rk))), (7, .inr (.inl (0, ph))), (281, .inl (1, [.ref 282, .ref 307, .ref 323, .ref 324])), (343, .inl (2, [.int (nI S), .ref 344, .ref 345, .ref 346, .ref 347, .int (nI n), .ref 348, .ref 349, .ref 350, .ref 351, .ref 352, .ref 353, .ref 354, .int cel, .ref 355, .ref 356, .ref 357, .ref 358])), (346, .inr (.inl (0, tra))), (351, .inr (.inl (0, tto)))] hc := K9.K
      refine j_V.ldL xbFA_M xbFA_7 rfl (i := 4) (kd := 0) (v := .int (nI i)) (pcJ := 9) rfl L rfl rfl rfl ?_
      refine j_V.ldL xbFA_M xbFA_9 rfl (i := 0) (kd := 2) (v := .ref 0) (pcJ := 10) rfl L rfl rfl rfl ?_
      refine j_V.getK xbFA_M xbFA_10 (ci := 9) (j := 6) rfl K rfl rfl ?_
      refine j_V.getK xbFA_M xbFA_13 (ci := 2) (j := 5) rfl K rfl rfl ?_
      refine j_V.icmp xbFA_M xbFA_16 (t := 57) rfl (fun c16_0 => ?_) (fun c16_0 => ?_)
      · replace c16_0 : ¬ ((nI i) < (nI n)) := jd_ge c16_0
        exact absurd e0 c16_0
      · replace c16_0 : (nI i) < (nI n) := jd_gen c16_0
        refine j_V.ldL xbFA_M xbFA_19 rfl (i := 0) (kd := 2) (v := .ref 0) (pcJ := 20) rfl L rfl rfl rfl ?_
        refine j_V.getK xbFA_M xbFA_20 (ci := 9) (j := 4) rfl K rfl rfl ?_
        refine j_V.ldL xbFA_M xbFA_23 rfl (i := 0) (kd := 2) (v := .ref 0) (pcJ := 24) rfl L rfl rfl rfl ?_
        refine j_V.getK xbFA_M xbFA_24 (ci := 9) (j := 2) rfl K rfl rfl ?_
        refine j_V.ldL xbFA_M xbFA_27 rfl (i := 4) (kd := 0) (v := .int (nI i)) (pcJ := 29) rfl L rfl rfl rfl ?_
        refine j_V.cl xbFA_M xbFA_29 rfl (md := 3) (mj := 11) rfl (by decide) fp8_M (As := [.ref 281, .ref 4, .int (nI i)]) (rest := []) (jk_spl3 (K.at rfl) rfl rfl rfl (Nat.le_of_ble_eq_true rfl) (Nat.le_of_ble_eq_true rfl)) (fun d => hx_out_343 P hm hb hit) ?_
        rintro r9 h22 ⟨rfl, TA, F9⟩
        replace FA : ∀ x, (x < 282 ∨ 324 < x) → h22[x]? = g0[x]? := fun x g => (F9 x (by omega)).trans (FA x g)
        replace P : hF 343 n S w h22 := P.fr (fun x g => F9 x (by omega)) TA
        have K9 : kA h22 [(0, .inl (9, [.ref 1, .ref 3, .ref 4, .ref 29, .ref 281, .ref 325, .ref 343, .ref 327, .int sst])), (4, .inl (7, [.ref 343, .int mi, .int shu, .int bus, .ref 5, .ref 6, .ref 7, .ref 8, .ref 9, .ref 10, .ref 11, .ref 12, .ref 13, .ref 14, .ref 15, .int lks, .ref 16, .ref 17, .ref 20])), (5, .inr (.inl (0, rk))), (7, .inr (.inl (0, ph))), (281, .inl (1, [.ref 282, .ref 307, .ref 323, .ref 324])), (343, .inl (2, [.int (nI S), .ref 344, .ref 345, .ref 346, .ref 347, .int (nI n), .ref 348, .ref 349, .ref 350, .ref 351, .ref 352, .ref 353, .ref 354, .int cel, .ref 355, .ref 356, .ref 357, .ref 358])), (346, .inr (.inl (0, tra))), (351, .inr (.inl (0, tto)))] := ⟨(FA 0 (by decide)).trans C0, (FA 4 (by decide)).trans CS.1, (FA 5 (by decide)).trans CS.2.1, (FA 7 (by decide)).trans CS.2.2.2.1, P.2.2.2, (FA 343 (by decide)).trans CL.1, (FA 346 (by decide)).trans CL.2.2.1, (FA 351 (by decide)).trans CL.2.2.2.2.2.2.1, trivial⟩
        have K : KN h22 [(0, .inl (9, [.ref 1, .ref 3, .ref 4, .ref 29, .ref 281, .ref 325, .ref 343, .ref 327, .int sst])), (4, .inl (7, [.ref 343, .int mi, .int shu, .int bus, .ref 5, .ref 6, .ref 7, .ref 8, .ref 9, .ref 10, .ref 11, .ref 12, .ref 13, .ref 14, .ref 15, .int lks, .ref 16, .ref 17, .ref 20])), (5, .inr (.inl (0, rk))), (7, .inr (.inl (0, ph))), (281, .inl (1, [.ref 282, .ref 307, .ref 323, .ref 324])), (343, .inl (2, [.int (nI S), .ref 344, .ref 345, .ref 346, .ref 347, .int (nI n), .ref 348, .ref 349, .ref 350, .ref 351, .ref 352, .ref 353, .ref 354, .int cel, .ref 355, .ref 356, .ref 357, .ref 358])), (346, .inr (.inl (0, tra))), (351, .inr (.inl (0, tto)))] h22 := K9.K
        show j_V jP _ 146 32 lv [.int (buP n w i)] h22 _
        refine j_V.stL xbFA_M xbFA_32 rfl (i := 5) (kd := 0) (kl' := [(0, .ref 0), (1, .int x1), (2, .int b), (3, .int l), (4, .int (nI i)), (5, .int (buP n w i))]) (pcJ := 34) rfl L rfl (by decide) rfl rfl rfl (fun lv L => ?_)
        refine j_V.ldL xbFA_M xbFA_34 rfl (i := 2) (kd := 0) (v := .int b) (pcJ := 35) rfl L rfl rfl rfl ?_
        refine j_V.one xbFA_M xbFA_35 (by decide) (pcJ := 36) (stJ := [.int (-1), .int b]) rfl ?_
        refine j_V.icmp xbFA_M xbFA_36 (t := 45) rfl (fun c36_0 => ?_) (fun c36_0 => ?_)
        · replace c36_0 : b = (-1) := jd_eq c36_0
          refine j_V.ldL xbFA_M xbFA_45 rfl (i := 4) (kd := 0) (v := .int (nI i)) (pcJ := 47) rfl L rfl rfl rfl ?_
          refine j_V.stL xbFA_M xbFA_47 rfl (i := 2) (kd := 0) (kl' := [(0, .ref 0), (1, .int x1), (2, .int (nI i)), (3, .int l), (4, .int (nI i)), (5, .int (buP n w i))]) (pcJ := 48) rfl L rfl (by decide) rfl rfl rfl (fun lv L => ?_)
          refine j_V.ldL xbFA_M xbFA_48 rfl (i := 5) (kd := 0) (v := .int (buP n w i)) (pcJ := 50) rfl L rfl rfl rfl ?_
          refine j_V.stL xbFA_M xbFA_50 rfl (i := 3) (kd := 0) (kl' := [(0, .ref 0), (1, .int x1), (2, .int (nI i)), (3, .int (buP n w i)), (4, .int (nI i)), (5, .int (buP n w i))]) (pcJ := 51) rfl L rfl (by decide) rfl rfl rfl (fun lv L => ?_)
          refine j_V.inL xbFA_M xbFA_51 (i := 4) (kl' := [(0, .ref 0), (1, .int x1), (2, .int (nI i)), (3, .int (buP n w i)), (4, .int ((nI i) + 1)), (5, .int (buP n w i))]) (pcJ := 54) L rfl rfl rfl rfl (fun lv L => ?_)
          refine j_V.gto xbFA_M xbFA_54 (t := 7) rfl ?_
          have hv : buP n w i < v4 := by rcases hb4 with z | z; rw [z.2.2]; exact hpi; exact absurd c36_0 z.2.1
          have hv2 : m_price (m_toTheEnd (n - 1) (m_drops w (nI i)) 1) < v4 := hv
          rw [show m_qburden_l40 n th sst' w x1 (f + 1) i v3 v4 = m_qburden_l40 n th sst' w x1 f (i + 1) (nI i) (buP n w i) by show (if m_price (m_toTheEnd (n - 1) (m_drops w (nI i)) 1) < v4 then _ else _) = _; rw [if_pos hv2]; unfold iMn; rw [if_pos hv2]; rfl]
          rw [en] at L
          exact ih (i + 1) (nI i) (buP n w i) (nI i) (buP n w i) _ _ (by omega) (L.sub ⟨rfl, rfl, rfl, rfl, rfl, trivial⟩) (Or.inr ⟨Nat.succ_ne_zero i, ei1, rfl, rfl⟩) P FA
        · replace c36_0 : ¬ (b = (-1)) := jd_eqn c36_0
          refine j_V.ldL xbFA_M xbFA_39 rfl (i := 5) (kd := 0) (v := .int (buP n w i)) (pcJ := 41) rfl L rfl rfl rfl ?_
          refine j_V.ldL xbFA_M xbFA_41 rfl (i := 3) (kd := 0) (v := .int l) (pcJ := 42) rfl L rfl rfl rfl ?_
          refine j_V.icmp xbFA_M xbFA_42 (t := 51) rfl (fun c42_1 => ?_) (fun c42_1 => ?_)
          · replace c42_1 : ¬ ((buP n w i) < l) := jd_ge c42_1
            refine j_V.inL xbFA_M xbFA_51 (i := 4) (kl' := [(0, .ref 0), (1, .int x1), (2, .int b), (3, .int l), (4, .int ((nI i) + 1)), (5, .int (buP n w i))]) (pcJ := 54) L rfl rfl rfl rfl (fun lv L => ?_)
            refine j_V.gto xbFA_M xbFA_54 (t := 7) rfl ?_
            obtain ⟨-, -, -, el⟩ : ¬ i = 0 ∧ ¬ b = (-1) ∧ b = v3 ∧ l = v4 := by rcases hb4 with z | z; exact absurd z.2.1 c36_0; exact z
            have hv := c42_1
            rw [el] at hv
            have hv2 : ¬ m_price (m_toTheEnd (n - 1) (m_drops w (nI i)) 1) < v4 := hv
            rw [show m_qburden_l40 n th sst' w x1 (f + 1) i v3 v4 = m_qburden_l40 n th sst' w x1 f (i + 1) v3 v4 by show (if m_price (m_toTheEnd (n - 1) (m_drops w (nI i)) 1) < v4 then _ else _) = _; rw [if_neg hv2]; unfold iMn; rw [if_neg hv2]]
            rw [en] at L
            exact ih (i + 1) b l v3 v4 _ _ (by omega) (L.sub ⟨rfl, rfl, rfl, rfl, rfl, trivial⟩) (by rcases hb4 with z | z; exact absurd z.2.1 c36_0; exact Or.inr ⟨Nat.succ_ne_zero i, z.2⟩) P FA
          · replace c42_1 : (buP n w i) < l := jd_gen c42_1
            refine j_V.ldL xbFA_M xbFA_45 rfl (i := 4) (kd := 0) (v := .int (nI i)) (pcJ := 47) rfl L rfl rfl rfl ?_
            refine j_V.stL xbFA_M xbFA_47 rfl (i := 2) (kd := 0) (kl' := [(0, .ref 0), (1, .int x1), (2, .int (nI i)), (3, .int l), (4, .int (nI i)), (5, .int (buP n w i))]) (pcJ := 48) rfl L rfl (by decide) rfl rfl rfl (fun lv L => ?_)
            refine j_V.ldL xbFA_M xbFA_48 rfl (i := 5) (kd := 0) (v := .int (buP n w i)) (pcJ := 50) rfl L rfl rfl rfl ?_
            refine j_V.stL xbFA_M xbFA_50 rfl (i := 3) (kd := 0) (kl' := [(0, .ref 0), (1, .int x1), (2, .int (nI i)), (3, .int (buP n w i)), (4, .int (nI i)), (5, .int (buP n w i))]) (pcJ := 51) rfl L rfl (by decide) rfl rfl rfl (fun lv L => ?_)
            refine j_V.inL xbFA_M xbFA_51 (i := 4) (kl' := [(0, .ref 0), (1, .int x1), (2, .int (nI i)), (3, .int (buP n w i)), (4, .int ((nI i) + 1)), (5, .int (buP n w i))]) (pcJ := 54) L rfl rfl rfl rfl (fun lv L => ?_)
            refine j_V.gto xbFA_M xbFA_54 (t := 7) rfl ?_
            obtain ⟨-, -, -, el⟩ : ¬ i = 0 ∧ ¬ b = (-1) ∧ b = v3 ∧ l = v4 := by rcases hb4 with z | z; exact absurd z.2.1 c36_0; exact z
            have hv := c42_1
            rw [el] at hv
            have hv2 : m_price (m_toTheEnd (n - 1) (m_drops w (nI i)) 1) < v4 := hv
            rw [show m_qburden_l40 n th sst' w x1 (f + 1) i v3 v4 = m_qburden_l40 n th sst' w x1 f (i + 1) (nI i) (buP n w i) by show (if m_price (m_toTheEnd (n - 1) (m_drops w (nI i)) 1) < v4 then _ else _) = _; rw [if_pos hv2]; unfold iMn; rw [if_pos hv2]; rfl]
            rw [en] at L
            exact ih (i + 1) (nI i) (buP n w i) (nI i) (buP n w i) _ _ (by omega) (L.sub ⟨rfl, rfl, rfl, rfl, rfl, trivial⟩) (Or.inr ⟨Nat.succ_ne_zero i, ei1, rfl, rfl⟩) P FA
  rw [qburden_0 V.1 th sst' x1]
  have FA : ∀ x, (x < 282 ∨ 324 < x) → g0[x]? = g0[x]? := fun x _ => rfl
  have TA := P.2.2.1
  have K9 : kA g0 [(0, .inl (9, [.ref 1, .ref 3, .ref 4, .ref 29, .ref 281, .ref 325, .ref 343, .ref 327, .int sst])), (4, .inl (7, [.ref 343, .int mi, .int shu, .int bus, .ref 5, .ref 6, .ref 7, .ref 8, .ref 9, .ref 10, .ref 11, .ref 12, .ref 13, .ref 14, .ref 15, .int lks, .ref 16, .ref 17, .ref 20])), (5, .inr (.inl (0, rk))), (7, .inr (.inl (0, ph))), (281, .inl (1, [.ref 282, .ref 307, .ref 323, .ref 324])), (343, .inl (2, [.int (nI S), .ref 344, .ref 345, .ref 346, .ref 347, .int (nI n), .ref 348, .ref 349, .ref 350, .ref 351, .ref 352, .ref 353, .ref 354, .int cel, .ref 355, .ref 356, .ref 357, .ref 358])), (346, .inr (.inl (0, tra))), (351, .inr (.inl (0, tto)))] := ⟨(FA 0 (by decide)).trans C0, (FA 4 (by decide)).trans CS.1, (FA 5 (by decide)).trans CS.2.1, (FA 7 (by decide)).trans CS.2.2.2.1, P.2.2.2, (FA 343 (by decide)).trans CL.1, (FA 346 (by decide)).trans CL.2.2.1, (FA 351 (by decide)).trans CL.2.2.2.2.2.2.1, trivial⟩
  have K : KN g0 [(0, .inl (9, [.ref 1, .ref 3, .ref 4, .ref 29, .ref 281, .ref 325, .ref 343, .ref 327, .int sst])), (4, .inl (7, [.ref 343, .int mi, .int shu, .int bus, .ref 5, .ref 6, .ref 7, .ref 8, .ref 9, .ref 10, .ref 11, .ref 12, .ref 13, .ref 14, .ref 15, .int lks, .ref 16, .ref 17, .ref 20])), (5, .inr (.inl (0, rk))), (7, .inr (.inl (0, ph))), (281, .inl (1, [.ref 282, .ref 307, .ref 323, .ref 324])), (343, .inl (2, [.int (nI S), .ref 344, .ref 345, .ref 346, .ref 347, .int (nI n), .ref 348, .ref 349, .ref 350, .ref 351, .ref 352, .ref 353, .ref 354, .int cel, .ref 355, .ref 356, .ref 357, .ref 358])), (346, .inr (.inl (0, tra))), (351, .inr (.inl (0, tto)))] g0 := K9.K
  show j_V jP d 146 0 [(0, .ref 0), (1, .int x1)] [] g0 _
  obtain ⟨lv, elv, L⟩ : ∃ lv, lv = [(0, .ref 0), (1, .int x1)] ∧ LK lv [(0, .ref 0), (1, .int x1)] := ⟨_, rfl, LK.rf⟩
  rw [← elv]
  clear elv
  refine j_V.one xbFA_M xbFA_0 (by decide) (pcJ := 1) (stJ := [.int (-1)]) rfl ?_
  refine j_V.stL xbFA_M xbFA_1 rfl (i := 2) (kd := 0) (kl' := [(0, .ref 0), (1, .int x1), (2, .int (-1))]) (pcJ := 2) rfl L rfl (by decide) rfl rfl rfl (fun lv L => ?_)
  refine j_V.one xbFA_M xbFA_2 (by decide) (pcJ := 3) (stJ := [.int (-1)]) rfl ?_
  refine j_V.stL xbFA_M xbFA_3 rfl (i := 3) (kd := 0) (kl' := [(0, .ref 0), (1, .int x1), (2, .int (-1)), (3, .int (-1))]) (pcJ := 4) rfl L rfl (by decide) rfl rfl rfl (fun lv L => ?_)
  refine j_V.one xbFA_M xbFA_4 (by decide) (pcJ := 5) (stJ := [.int 0]) rfl ?_
  refine j_V.stL xbFA_M xbFA_5 rfl (i := 4) (kd := 0) (kl' := [(0, .ref 0), (1, .int x1), (2, .int (-1)), (3, .int (-1)), (4, .int 0)]) (pcJ := 7) rfl L rfl (by decide) rfl rfl rfl (fun lv L => ?_)
  exact hl n 0 (-1) (-1) (-1) 2147483647 _ _ (by omega) L (Or.inl ⟨rfl, rfl, rfl⟩) P FA

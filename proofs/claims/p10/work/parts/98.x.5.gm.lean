/-! the reference's queries over the heap: written by wip/px/gen_h1.py -/
theorem m_pz_n : ∀ (f : Nat) (v : Int32), f ≤ 32 → (∀ c, c < 32 - f → tb v c = false) → m_pz f v
  | 0, v, _, h => tb_ext fun c hc => by rw [h c (by omega), tb_0]
  | f + 1, v, hf, h => by
    refine Or.inr (m_pz_n f _ (by omega) (fun c hc => ?_))
    rw [tb_and]
    by_cases e : c < 32 - (f + 1)
    · rw [h c e]; rfl
    · have ec : c = 31 - f := by omega
      cases z : tb v c
      · rfl
      · rw [Bool.true_and]
        have hn : v.toBitVec.toNat % 2 ^ c = 0 := by
          apply Nat.eq_of_testBit_eq
          intro i
          rw [Nat.testBit_mod_two_pow, Nat.zero_testBit]
          by_cases q : i < c
          · rw [decide_eq_true q, Bool.true_and]
            exact h i (by omega)
          · rw [decide_eq_false q, Bool.false_and]
        have hb : v.toBitVec.toNat.testBit c = true := z
        have hlt := v.toBitVec.isLt
        have pos : 0 < v.toBitVec.toNat := by
          rcases Nat.eq_zero_or_pos v.toBitVec.toNat with q | q
          · rw [q, Nat.zero_testBit] at hb; cases hb
          · exact q
        have e1 : (v - 1).toBitVec.toNat = v.toBitVec.toNat - 1 := by
          rw [Int32.toBitVec_sub, BitVec.toNat_sub]
          show (2 ^ 32 - 1 + v.toBitVec.toNat) % 2 ^ 32 = _
          omega
        show (v - 1).toBitVec.toNat.testBit c = false
        rw [e1]
        have p : 0 < 2 ^ c := Nat.two_pow_pos c
        rw [Nat.testBit_eq_decide_div_mod_eq] at hb ⊢
        have hb := of_decide_eq_true hb
        apply decide_eq_false
        have d1 := Nat.div_add_mod v.toBitVec.toNat (2 ^ c)
        rw [hn] at d1
        generalize v.toBitVec.toNat / 2 ^ c = y at d1 hb
        have : (v.toBitVec.toNat - 1) / 2 ^ c = y - 1 := by
          obtain ⟨x, rfl⟩ : ∃ x, y = x + 1 := ⟨y - 1, by omega⟩
          rw [← d1, Nat.add_sub_cancel, Nat.mul_succ, Nat.add_zero]
          rw [Nat.add_sub_assoc p, Nat.add_comm, Nat.add_mul_div_left _ _ p, Nat.div_eq_of_lt (by omega), Nat.zero_add]
        rw [this]
        omega
theorem m_pz32 (v : Int32) : m_pz 32 v := m_pz_n 32 v (Nat.le_refl 32) (fun c hc => absurd hc (by omega))
theorem gm_status {h : J_H} {n S d : Nat} {w kp : List Int32} {sst acs : Int32} (R : hM9 w kp sst acs h) : j_V jP d 168 0 (lv_args 0 [.ref 359]) [] h (fun rv h' => ∃ (th : Int32), rv = some (.int (m_status sst th).1) ∧ hM9 w kp sst acs h' ∧ (∀ a, ¬ (359 ≤ a ∧ a < 371) → h'[a]? = h[a]?)) := by
  obtain ⟨u, th, tm, sd, ot, tk, od, be, ⟨C359, C360, C362, C363, C364, C368, C369, C370⟩, hsd, hot⟩ := R
  have K0 : kA h [(359, .inl (10, [.int th, .ref 360, .ref 361, .ref 362, .ref 363, .ref 364, .ref 365, .ref 366, .ref 367, u 9, .int sst, u 11, u 12, .int acs, u 14, u 15, u 16, u 17, u 18, u 19, u 20, u 21, .ref 368, .int tm, .ref 369, .ref 370, .ref 371, u 27]))] := ⟨C359, trivial⟩
  refine j_V.mono (mp1_ok (u := fun j => [u 0, u 1, u 2, u 3, u 4, u 5, u 6, u 7, u 8, u 9, u 10, u 11, u 12, u 13, u 14, u 15, u 16, u 17, u 18, u 19, u 20, u 21, u 22, .int tm, u 24, u 25, u 26, u 27].getD j .null)  K0.K) ?_
  rintro rv h' ⟨rfl, K⟩
  have F :  (∀ a, ¬ (359 ≤ a ∧ a < 371) → h'[a]? = h[a]?) := fun a ha => KN.off K0 K (lkn (fun z => ha (by omega)) rfl)
  exact ⟨th, rfl, ⟨u, _, tm, sd, ot, tk, od, be, ⟨K.at rfl, (KN.off K0 K (lkn (by decide) rfl)).trans C360, (KN.off K0 K (lkn (by decide) rfl)).trans C362, (KN.off K0 K (lkn (by decide) rfl)).trans C363, (KN.off K0 K (lkn (by decide) rfl)).trans C364, (KN.off K0 K (lkn (by decide) rfl)).trans C368, (KN.off K0 K (lkn (by decide) rfl)).trans C369, (KN.off K0 K (lkn (by decide) rfl)).trans C370⟩, hsd, hot⟩, F⟩
theorem gm_station {h : J_H} {n S d : Nat} {w kp : List Int32} {sst acs : Int32} (R : hM9 w kp sst acs h) (x1 : Int32) (x2 : Int32) : j_V jP d 236 0 (lv_args 0 [.ref 359, .int x1, .int x2]) [] h (fun rv h' => ∃ (th : Int32), rv = some (.int (m_qstation th sst w x1 x2).1) ∧ hM9 w kp (m_qstation th sst w x1 x2).2.2 acs h' ∧ (∀ a, ¬ (359 ≤ a ∧ a < 371) → h'[a]? = h[a]?)) := by
  obtain ⟨u, th, tm, sd, ot, tk, od, be, ⟨C359, C360, C362, C363, C364, C368, C369, C370⟩, hsd, hot⟩ := R
  have K0 : kA h [(359, .inl (10, [.int th, .ref 360, .ref 361, .ref 362, .ref 363, .ref 364, .ref 365, .ref 366, .ref 367, u 9, .int sst, u 11, u 12, .int acs, u 14, u 15, u 16, u 17, u 18, u 19, u 20, u 21, .ref 368, .int tm, .ref 369, .ref 370, .ref 371, u 27])), (360, .inr (.inl (0, w)))] := ⟨C359, C360, trivial⟩
  refine j_V.mono (mq0_ok (u := fun j => [u 0, u 1, u 2, u 3, u 4, u 5, u 6, u 7, u 8, u 9, u 10, u 11, u 12, u 13, u 14, u 15, u 16, u 17, u 18, u 19, u 20, u 21, u 22, .int tm, u 24, u 25, u 26, u 27].getD j .null)  K0.K) ?_
  rintro rv h' ⟨rfl, K⟩
  have F :  (∀ a, ¬ (359 ≤ a ∧ a < 371) → h'[a]? = h[a]?) := fun a ha => KN.off K0 K (lkn (fun z => ha (by omega)) (lke rfl))
  exact ⟨th, rfl, ⟨u, _, tm, sd, ot, tk, od, be, ⟨K.at rfl, K.at rfl, (KN.off K0 K (lkn (by decide) (lke rfl))).trans C362, (KN.off K0 K (lkn (by decide) (lke rfl))).trans C363, (KN.off K0 K (lkn (by decide) (lke rfl))).trans C364, (KN.off K0 K (lkn (by decide) (lke rfl))).trans C368, (KN.off K0 K (lkn (by decide) (lke rfl))).trans C369, (KN.off K0 K (lkn (by decide) (lke rfl))).trans C370⟩, hsd, hot⟩, F⟩
theorem gm_track {h : J_H} {n S d : Nat} {w kp : List Int32} {sst acs : Int32} (R : hM9 w kp sst acs h) (x1 : Int32) (x2 : Int32) (x3 : Int32) : j_V jP d 237 0 (lv_args 0 [.ref 359, .int x1, .int x2, .int x3]) [] h (fun rv h' => ∃ (th : Int32), rv = some (.int (m_qtrack th sst w x1 x2 x3).1) ∧ hM9 w kp (m_qtrack th sst w x1 x2 x3).2.2 acs h' ∧ (∀ a, ¬ (359 ≤ a ∧ a < 371) → h'[a]? = h[a]?)) := by
  obtain ⟨u, th, tm, sd, ot, tk, od, be, ⟨C359, C360, C362, C363, C364, C368, C369, C370⟩, hsd, hot⟩ := R
  have K0 : kA h [(359, .inl (10, [.int th, .ref 360, .ref 361, .ref 362, .ref 363, .ref 364, .ref 365, .ref 366, .ref 367, u 9, .int sst, u 11, u 12, .int acs, u 14, u 15, u 16, u 17, u 18, u 19, u 20, u 21, .ref 368, .int tm, .ref 369, .ref 370, .ref 371, u 27])), (360, .inr (.inl (0, w)))] := ⟨C359, C360, trivial⟩
  refine j_V.mono (mq1_ok (u := fun j => [u 0, u 1, u 2, u 3, u 4, u 5, u 6, u 7, u 8, u 9, u 10, u 11, u 12, u 13, u 14, u 15, u 16, u 17, u 18, u 19, u 20, u 21, u 22, .int tm, u 24, u 25, u 26, u 27].getD j .null)  K0.K) ?_
  rintro rv h' ⟨rfl, K⟩
  have F :  (∀ a, ¬ (359 ≤ a ∧ a < 371) → h'[a]? = h[a]?) := fun a ha => KN.off K0 K (lkn (fun z => ha (by omega)) (lke rfl))
  exact ⟨th, rfl, ⟨u, _, tm, sd, ot, tk, od, be, ⟨K.at rfl, K.at rfl, (KN.off K0 K (lkn (by decide) (lke rfl))).trans C362, (KN.off K0 K (lkn (by decide) (lke rfl))).trans C363, (KN.off K0 K (lkn (by decide) (lke rfl))).trans C364, (KN.off K0 K (lkn (by decide) (lke rfl))).trans C368, (KN.off K0 K (lkn (by decide) (lke rfl))).trans C369, (KN.off K0 K (lkn (by decide) (lke rfl))).trans C370⟩, hsd, hot⟩, F⟩
theorem gm_fits {h : J_H} {n S d : Nat} {w kp : List Int32} {sst acs : Int32} (R : hM9 w kp sst acs h) (x1 : Int32) : j_V jP d 242 0 (lv_args 0 [.ref 359, .int x1]) [] h (fun rv h' => ∃ (th : Int32), rv = some (.int (m_qfits th sst w x1).1) ∧ hM9 w kp (m_qfits th sst w x1).2.2 acs h' ∧ (∀ a, ¬ (359 ≤ a ∧ a < 371) → h'[a]? = h[a]?)) := by
  obtain ⟨u, th, tm, sd, ot, tk, od, be, ⟨C359, C360, C362, C363, C364, C368, C369, C370⟩, hsd, hot⟩ := R
  have K0 : kA h [(359, .inl (10, [.int th, .ref 360, .ref 361, .ref 362, .ref 363, .ref 364, .ref 365, .ref 366, .ref 367, u 9, .int sst, u 11, u 12, .int acs, u 14, u 15, u 16, u 17, u 18, u 19, u 20, u 21, .ref 368, .int tm, .ref 369, .ref 370, .ref 371, u 27])), (360, .inr (.inl (0, w)))] := ⟨C359, C360, trivial⟩
  refine j_V.mono (mq2_ok (u := fun j => [u 0, u 1, u 2, u 3, u 4, u 5, u 6, u 7, u 8, u 9, u 10, u 11, u 12, u 13, u 14, u 15, u 16, u 17, u 18, u 19, u 20, u 21, u 22, .int tm, u 24, u 25, u 26, u 27].getD j .null)  K0.K) ?_
  rintro rv h' ⟨rfl, K⟩
  have F :  (∀ a, ¬ (359 ≤ a ∧ a < 371) → h'[a]? = h[a]?) := fun a ha => KN.off K0 K (lkn (fun z => ha (by omega)) (lke rfl))
  exact ⟨th, rfl, ⟨u, _, tm, sd, ot, tk, od, be, ⟨K.at rfl, K.at rfl, (KN.off K0 K (lkn (by decide) (lke rfl))).trans C362, (KN.off K0 K (lkn (by decide) (lke rfl))).trans C363, (KN.off K0 K (lkn (by decide) (lke rfl))).trans C364, (KN.off K0 K (lkn (by decide) (lke rfl))).trans C368, (KN.off K0 K (lkn (by decide) (lke rfl))).trans C369, (KN.off K0 K (lkn (by decide) (lke rfl))).trans C370⟩, hsd, hot⟩, F⟩
theorem gm_blocks {h : J_H} {n S d : Nat} {w kp : List Int32} {sst acs : Int32} (R : hM9 w kp sst acs h) (x1 : Int32) : j_V jP d 245 0 (lv_args 0 [.ref 359, .int x1]) [] h (fun rv h' => ∃ (th : Int32), rv = some (.int (m_qblocks th sst w x1).1) ∧ hM9 w kp (m_qblocks th sst w x1).2.2 acs h' ∧ (∀ a, ¬ (359 ≤ a ∧ a < 371) → h'[a]? = h[a]?)) := by
  obtain ⟨u, th, tm, sd, ot, tk, od, be, ⟨C359, C360, C362, C363, C364, C368, C369, C370⟩, hsd, hot⟩ := R
  have K0 : kA h [(359, .inl (10, [.int th, .ref 360, .ref 361, .ref 362, .ref 363, .ref 364, .ref 365, .ref 366, .ref 367, u 9, .int sst, u 11, u 12, .int acs, u 14, u 15, u 16, u 17, u 18, u 19, u 20, u 21, .ref 368, .int tm, .ref 369, .ref 370, .ref 371, u 27])), (360, .inr (.inl (0, w)))] := ⟨C359, C360, trivial⟩
  refine j_V.mono (mq3_ok (u := fun j => [u 0, u 1, u 2, u 3, u 4, u 5, u 6, u 7, u 8, u 9, u 10, u 11, u 12, u 13, u 14, u 15, u 16, u 17, u 18, u 19, u 20, u 21, u 22, .int tm, u 24, u 25, u 26, u 27].getD j .null)  K0.K) ?_
  rintro rv h' ⟨rfl, K⟩
  have F :  (∀ a, ¬ (359 ≤ a ∧ a < 371) → h'[a]? = h[a]?) := fun a ha => KN.off K0 K (lkn (fun z => ha (by omega)) (lke rfl))
  exact ⟨th, rfl, ⟨u, _, tm, sd, ot, tk, od, be, ⟨K.at rfl, K.at rfl, (KN.off K0 K (lkn (by decide) (lke rfl))).trans C362, (KN.off K0 K (lkn (by decide) (lke rfl))).trans C363, (KN.off K0 K (lkn (by decide) (lke rfl))).trans C364, (KN.off K0 K (lkn (by decide) (lke rfl))).trans C368, (KN.off K0 K (lkn (by decide) (lke rfl))).trans C369, (KN.off K0 K (lkn (by decide) (lke rfl))).trans C370⟩, hsd, hot⟩, F⟩
theorem gm_section {h : J_H} {n S d : Nat} {w kp : List Int32} {sst acs : Int32} (R : hM9 w kp sst acs h) (x1 : Int32) : j_V jP d 247 0 (lv_args 0 [.ref 359, .int x1]) [] h (fun rv h' => ∃ (th : Int32), rv = some (.int (m_qsection th sst w x1).1) ∧ hM9 w kp (m_qsection th sst w x1).2.2 acs h' ∧ (∀ a, ¬ (359 ≤ a ∧ a < 371) → h'[a]? = h[a]?)) := by
  obtain ⟨u, th, tm, sd, ot, tk, od, be, ⟨C359, C360, C362, C363, C364, C368, C369, C370⟩, hsd, hot⟩ := R
  have K0 : kA h [(359, .inl (10, [.int th, .ref 360, .ref 361, .ref 362, .ref 363, .ref 364, .ref 365, .ref 366, .ref 367, u 9, .int sst, u 11, u 12, .int acs, u 14, u 15, u 16, u 17, u 18, u 19, u 20, u 21, .ref 368, .int tm, .ref 369, .ref 370, .ref 371, u 27])), (360, .inr (.inl (0, w)))] := ⟨C359, C360, trivial⟩
  refine j_V.mono (mq4_ok (u := fun j => [u 0, u 1, u 2, u 3, u 4, u 5, u 6, u 7, u 8, u 9, u 10, u 11, u 12, u 13, u 14, u 15, u 16, u 17, u 18, u 19, u 20, u 21, u 22, .int tm, u 24, u 25, u 26, u 27].getD j .null)  K0.K) ?_
  rintro rv h' ⟨rfl, K⟩
  have F :  (∀ a, ¬ (359 ≤ a ∧ a < 371) → h'[a]? = h[a]?) := fun a ha => KN.off K0 K (lkn (fun z => ha (by omega)) (lke rfl))
  exact ⟨th, rfl, ⟨u, _, tm, sd, ot, tk, od, be, ⟨K.at rfl, K.at rfl, (KN.off K0 K (lkn (by decide) (lke rfl))).trans C362, (KN.off K0 K (lkn (by decide) (lke rfl))).trans C363, (KN.off K0 K (lkn (by decide) (lke rfl))).trans C364, (KN.off K0 K (lkn (by decide) (lke rfl))).trans C368, (KN.off K0 K (lkn (by decide) (lke rfl))).trans C369, (KN.off K0 K (lkn (by decide) (lke rfl))).trans C370⟩, hsd, hot⟩, F⟩
theorem gm_links {h : J_H} {n S d : Nat} {w kp : List Int32} {sst acs : Int32} (R : hM9 w kp sst acs h) (x1 : Int32) (x2 : Int32) : j_V jP d 251 0 (lv_args 0 [.ref 359, .int x1, .int x2]) [] h (fun rv h' => ∃ (th : Int32), rv = some (.int (m_qlinks th sst w x1 x2).1) ∧ hM9 w kp (m_qlinks th sst w x1 x2).2.2 acs h' ∧ (∀ a, ¬ (359 ≤ a ∧ a < 371) → h'[a]? = h[a]?)) := by
  obtain ⟨u, th, tm, sd, ot, tk, od, be, ⟨C359, C360, C362, C363, C364, C368, C369, C370⟩, hsd, hot⟩ := R
  have K0 : kA h [(359, .inl (10, [.int th, .ref 360, .ref 361, .ref 362, .ref 363, .ref 364, .ref 365, .ref 366, .ref 367, u 9, .int sst, u 11, u 12, .int acs, u 14, u 15, u 16, u 17, u 18, u 19, u 20, u 21, .ref 368, .int tm, .ref 369, .ref 370, .ref 371, u 27])), (360, .inr (.inl (0, w)))] := ⟨C359, C360, trivial⟩
  refine j_V.mono (mq5_ok (u := fun j => [u 0, u 1, u 2, u 3, u 4, u 5, u 6, u 7, u 8, u 9, u 10, u 11, u 12, u 13, u 14, u 15, u 16, u 17, u 18, u 19, u 20, u 21, u 22, .int tm, u 24, u 25, u 26, u 27].getD j .null)  K0.K) ?_
  rintro rv h' ⟨rfl, K⟩
  have F :  (∀ a, ¬ (359 ≤ a ∧ a < 371) → h'[a]? = h[a]?) := fun a ha => KN.off K0 K (lkn (fun z => ha (by omega)) (lke rfl))
  exact ⟨th, rfl, ⟨u, _, tm, sd, ot, tk, od, be, ⟨K.at rfl, K.at rfl, (KN.off K0 K (lkn (by decide) (lke rfl))).trans C362, (KN.off K0 K (lkn (by decide) (lke rfl))).trans C363, (KN.off K0 K (lkn (by decide) (lke rfl))).trans C364, (KN.off K0 K (lkn (by decide) (lke rfl))).trans C368, (KN.off K0 K (lkn (by decide) (lke rfl))).trans C369, (KN.off K0 K (lkn (by decide) (lke rfl))).trans C370⟩, hsd, hot⟩, F⟩
theorem gm_time {h : J_H} {n S d : Nat} {w kp : List Int32} {sst acs : Int32} (R : hM9 w kp sst acs h) (x1 : Int32) (x2 : Int32) (x3 : Int32) : j_V jP d 252 0 (lv_args 0 [.ref 359, .int x1, .int x2, .int x3]) [] h (fun rv h' => ∃ (th : Int32), rv = some (.int (m_qtime th sst w x1 x2 x3).1) ∧ hM9 w kp (m_qtime th sst w x1 x2 x3).2.2 acs h' ∧ (∀ a, ¬ (359 ≤ a ∧ a < 371) → h'[a]? = h[a]?)) := by
  obtain ⟨u, th, tm, sd, ot, tk, od, be, ⟨C359, C360, C362, C363, C364, C368, C369, C370⟩, hsd, hot⟩ := R
  have K0 : kA h [(359, .inl (10, [.int th, .ref 360, .ref 361, .ref 362, .ref 363, .ref 364, .ref 365, .ref 366, .ref 367, u 9, .int sst, u 11, u 12, .int acs, u 14, u 15, u 16, u 17, u 18, u 19, u 20, u 21, .ref 368, .int tm, .ref 369, .ref 370, .ref 371, u 27])), (360, .inr (.inl (0, w)))] := ⟨C359, C360, trivial⟩
  refine j_V.mono (mq6_ok (u := fun j => [u 0, u 1, u 2, u 3, u 4, u 5, u 6, u 7, u 8, u 9, u 10, u 11, u 12, u 13, u 14, u 15, u 16, u 17, u 18, u 19, u 20, u 21, u 22, .int tm, u 24, u 25, u 26, u 27].getD j .null)  K0.K) ?_
  rintro rv h' ⟨rfl, K⟩
  have F :  (∀ a, ¬ (359 ≤ a ∧ a < 371) → h'[a]? = h[a]?) := fun a ha => KN.off K0 K (lkn (fun z => ha (by omega)) (lke rfl))
  exact ⟨th, rfl, ⟨u, _, tm, sd, ot, tk, od, be, ⟨K.at rfl, K.at rfl, (KN.off K0 K (lkn (by decide) (lke rfl))).trans C362, (KN.off K0 K (lkn (by decide) (lke rfl))).trans C363, (KN.off K0 K (lkn (by decide) (lke rfl))).trans C364, (KN.off K0 K (lkn (by decide) (lke rfl))).trans C368, (KN.off K0 K (lkn (by decide) (lke rfl))).trans C369, (KN.off K0 K (lkn (by decide) (lke rfl))).trans C370⟩, hsd, hot⟩, F⟩
theorem gm_together {h : J_H} {n S d : Nat} {w kp : List Int32} {sst acs : Int32} (R : hM9 w kp sst acs h) (x1 : Int32) (x2 : Int32) (x3 : Int32) : j_V jP d 253 0 (lv_args 0 [.ref 359, .int x1, .int x2, .int x3]) [] h (fun rv h' => ∃ (th : Int32), rv = some (.int (m_qtogether th sst w x1 x2 x3).1) ∧ hM9 w kp (m_qtogether th sst w x1 x2 x3).2.2 acs h' ∧ (∀ a, ¬ (359 ≤ a ∧ a < 371) → h'[a]? = h[a]?)) := by
  obtain ⟨u, th, tm, sd, ot, tk, od, be, ⟨C359, C360, C362, C363, C364, C368, C369, C370⟩, hsd, hot⟩ := R
  have K0 : kA h [(359, .inl (10, [.int th, .ref 360, .ref 361, .ref 362, .ref 363, .ref 364, .ref 365, .ref 366, .ref 367, u 9, .int sst, u 11, u 12, .int acs, u 14, u 15, u 16, u 17, u 18, u 19, u 20, u 21, .ref 368, .int tm, .ref 369, .ref 370, .ref 371, u 27])), (360, .inr (.inl (0, w)))] := ⟨C359, C360, trivial⟩
  refine j_V.mono (mq7_ok (u := fun j => [u 0, u 1, u 2, u 3, u 4, u 5, u 6, u 7, u 8, u 9, u 10, u 11, u 12, u 13, u 14, u 15, u 16, u 17, u 18, u 19, u 20, u 21, u 22, .int tm, u 24, u 25, u 26, u 27].getD j .null)  K0.K) ?_
  rintro rv h' ⟨rfl, K⟩
  have F :  (∀ a, ¬ (359 ≤ a ∧ a < 371) → h'[a]? = h[a]?) := fun a ha => KN.off K0 K (lkn (fun z => ha (by omega)) (lke rfl))
  exact ⟨th, rfl, ⟨u, _, tm, sd, ot, tk, od, be, ⟨K.at rfl, K.at rfl, (KN.off K0 K (lkn (by decide) (lke rfl))).trans C362, (KN.off K0 K (lkn (by decide) (lke rfl))).trans C363, (KN.off K0 K (lkn (by decide) (lke rfl))).trans C364, (KN.off K0 K (lkn (by decide) (lke rfl))).trans C368, (KN.off K0 K (lkn (by decide) (lke rfl))).trans C369, (KN.off K0 K (lkn (by decide) (lke rfl))).trans C370⟩, hsd, hot⟩, F⟩
theorem gm_stood {h : J_H} {n S d : Nat} {w kp : List Int32} {sst acs : Int32} (R : hM9 w kp sst acs h) (x1 : Int32) : j_V jP d 255 0 (lv_args 0 [.ref 359, .int x1]) [] h (fun rv h' => ∃ (th : Int32), rv = some (.int (m_qstood th sst w x1).1) ∧ hM9 w kp (m_qstood th sst w x1).2.2 acs h' ∧ (∀ a, ¬ (359 ≤ a ∧ a < 371) → h'[a]? = h[a]?)) := by
  obtain ⟨u, th, tm, sd, ot, tk, od, be, ⟨C359, C360, C362, C363, C364, C368, C369, C370⟩, hsd, hot⟩ := R
  have K0 : kA h [(359, .inl (10, [.int th, .ref 360, .ref 361, .ref 362, .ref 363, .ref 364, .ref 365, .ref 366, .ref 367, u 9, .int sst, u 11, u 12, .int acs, u 14, u 15, u 16, u 17, u 18, u 19, u 20, u 21, .ref 368, .int tm, .ref 369, .ref 370, .ref 371, u 27])), (360, .inr (.inl (0, w)))] := ⟨C359, C360, trivial⟩
  refine j_V.mono (mq8_ok (u := fun j => [u 0, u 1, u 2, u 3, u 4, u 5, u 6, u 7, u 8, u 9, u 10, u 11, u 12, u 13, u 14, u 15, u 16, u 17, u 18, u 19, u 20, u 21, u 22, .int tm, u 24, u 25, u 26, u 27].getD j .null)  K0.K) ?_
  rintro rv h' ⟨rfl, K⟩
  have F :  (∀ a, ¬ (359 ≤ a ∧ a < 371) → h'[a]? = h[a]?) := fun a ha => KN.off K0 K (lkn (fun z => ha (by omega)) (lke rfl))
  exact ⟨th, rfl, ⟨u, _, tm, sd, ot, tk, od, be, ⟨K.at rfl, K.at rfl, (KN.off K0 K (lkn (by decide) (lke rfl))).trans C362, (KN.off K0 K (lkn (by decide) (lke rfl))).trans C363, (KN.off K0 K (lkn (by decide) (lke rfl))).trans C364, (KN.off K0 K (lkn (by decide) (lke rfl))).trans C368, (KN.off K0 K (lkn (by decide) (lke rfl))).trans C369, (KN.off K0 K (lkn (by decide) (lke rfl))).trans C370⟩, hsd, hot⟩, F⟩
theorem gm_late {h : J_H} {n S d : Nat} {w kp : List Int32} {sst acs : Int32} (R : hM9 w kp sst acs h) (x1 : Int32) (x2 : Int32) : j_V jP d 256 0 (lv_args 0 [.ref 359, .int x1, .int x2]) [] h (fun rv h' => ∃ (th : Int32), rv = some (.int (m_qlate th sst w x1 x2).1) ∧ hM9 w kp (m_qlate th sst w x1 x2).2.2 acs h' ∧ (∀ a, ¬ (359 ≤ a ∧ a < 371) → h'[a]? = h[a]?)) := by
  obtain ⟨u, th, tm, sd, ot, tk, od, be, ⟨C359, C360, C362, C363, C364, C368, C369, C370⟩, hsd, hot⟩ := R
  have K0 : kA h [(359, .inl (10, [.int th, .ref 360, .ref 361, .ref 362, .ref 363, .ref 364, .ref 365, .ref 366, .ref 367, u 9, .int sst, u 11, u 12, .int acs, u 14, u 15, u 16, u 17, u 18, u 19, u 20, u 21, .ref 368, .int tm, .ref 369, .ref 370, .ref 371, u 27])), (360, .inr (.inl (0, w)))] := ⟨C359, C360, trivial⟩
  refine j_V.mono (mq9_ok (u := fun j => [u 0, u 1, u 2, u 3, u 4, u 5, u 6, u 7, u 8, u 9, u 10, u 11, u 12, u 13, u 14, u 15, u 16, u 17, u 18, u 19, u 20, u 21, u 22, .int tm, u 24, u 25, u 26, u 27].getD j .null)  K0.K) ?_
  rintro rv h' ⟨rfl, K⟩
  have F :  (∀ a, ¬ (359 ≤ a ∧ a < 371) → h'[a]? = h[a]?) := fun a ha => KN.off K0 K (lkn (fun z => ha (by omega)) (lke rfl))
  exact ⟨th, rfl, ⟨u, _, tm, sd, ot, tk, od, be, ⟨K.at rfl, K.at rfl, (KN.off K0 K (lkn (by decide) (lke rfl))).trans C362, (KN.off K0 K (lkn (by decide) (lke rfl))).trans C363, (KN.off K0 K (lkn (by decide) (lke rfl))).trans C364, (KN.off K0 K (lkn (by decide) (lke rfl))).trans C368, (KN.off K0 K (lkn (by decide) (lke rfl))).trans C369, (KN.off K0 K (lkn (by decide) (lke rfl))).trans C370⟩, hsd, hot⟩, F⟩
theorem gm_event {h : J_H} {n S d : Nat} {w kp : List Int32} {sst acs : Int32} (R : hM9 w kp sst acs h) (x1 : Int32) (x2 : Int32) : j_V jP d 257 0 (lv_args 0 [.ref 359, .int x1, .int x2]) [] h (fun rv h' => ∃ (th : Int32), rv = some (.int (m_qevent_ th sst w x1 x2).1) ∧ hM9 w kp (m_qevent_ th sst w x1 x2).2.2 acs h' ∧ (∀ a, ¬ (359 ≤ a ∧ a < 371) → h'[a]? = h[a]?)) := by
  obtain ⟨u, th, tm, sd, ot, tk, od, be, ⟨C359, C360, C362, C363, C364, C368, C369, C370⟩, hsd, hot⟩ := R
  have K0 : kA h [(359, .inl (10, [.int th, .ref 360, .ref 361, .ref 362, .ref 363, .ref 364, .ref 365, .ref 366, .ref 367, u 9, .int sst, u 11, u 12, .int acs, u 14, u 15, u 16, u 17, u 18, u 19, u 20, u 21, .ref 368, .int tm, .ref 369, .ref 370, .ref 371, u 27])), (360, .inr (.inl (0, w)))] := ⟨C359, C360, trivial⟩
  refine j_V.mono (mr0_ok (u := fun j => [u 0, u 1, u 2, u 3, u 4, u 5, u 6, u 7, u 8, u 9, u 10, u 11, u 12, u 13, u 14, u 15, u 16, u 17, u 18, u 19, u 20, u 21, u 22, .int tm, u 24, u 25, u 26, u 27].getD j .null)  K0.K) ?_
  rintro rv h' ⟨rfl, K⟩
  have F :  (∀ a, ¬ (359 ≤ a ∧ a < 371) → h'[a]? = h[a]?) := fun a ha => KN.off K0 K (lkn (fun z => ha (by omega)) (lke rfl))
  exact ⟨th, rfl, ⟨u, _, tm, sd, ot, tk, od, be, ⟨K.at rfl, K.at rfl, (KN.off K0 K (lkn (by decide) (lke rfl))).trans C362, (KN.off K0 K (lkn (by decide) (lke rfl))).trans C363, (KN.off K0 K (lkn (by decide) (lke rfl))).trans C364, (KN.off K0 K (lkn (by decide) (lke rfl))).trans C368, (KN.off K0 K (lkn (by decide) (lke rfl))).trans C369, (KN.off K0 K (lkn (by decide) (lke rfl))).trans C370⟩, hsd, hot⟩, F⟩
theorem gm_use {h : J_H} {n S d : Nat} {w kp : List Int32} {sst acs : Int32} (R : hM9 w kp sst acs h) (x1 : Int32) : j_V jP d 258 0 (lv_args 0 [.ref 359, .int x1]) [] h (fun rv h' => ∃ (th : Int32), rv = some (.int (m_quse th sst w x1).1) ∧ hM9 w kp (m_quse th sst w x1).2.2 acs h' ∧ (∀ a, ¬ (359 ≤ a ∧ a < 371) → h'[a]? = h[a]?)) := by
  obtain ⟨u, th, tm, sd, ot, tk, od, be, ⟨C359, C360, C362, C363, C364, C368, C369, C370⟩, hsd, hot⟩ := R
  have K0 : kA h [(359, .inl (10, [.int th, .ref 360, .ref 361, .ref 362, .ref 363, .ref 364, .ref 365, .ref 366, .ref 367, u 9, .int sst, u 11, u 12, .int acs, u 14, u 15, u 16, u 17, u 18, u 19, u 20, u 21, .ref 368, .int tm, .ref 369, .ref 370, .ref 371, u 27])), (360, .inr (.inl (0, w)))] := ⟨C359, C360, trivial⟩
  refine j_V.mono (mr1_ok (u := fun j => [u 0, u 1, u 2, u 3, u 4, u 5, u 6, u 7, u 8, u 9, u 10, u 11, u 12, u 13, u 14, u 15, u 16, u 17, u 18, u 19, u 20, u 21, u 22, .int tm, u 24, u 25, u 26, u 27].getD j .null)  K0.K) ?_
  rintro rv h' ⟨rfl, K⟩
  have F :  (∀ a, ¬ (359 ≤ a ∧ a < 371) → h'[a]? = h[a]?) := fun a ha => KN.off K0 K (lkn (fun z => ha (by omega)) (lke rfl))
  exact ⟨th, rfl, ⟨u, _, tm, sd, ot, tk, od, be, ⟨K.at rfl, K.at rfl, (KN.off K0 K (lkn (by decide) (lke rfl))).trans C362, (KN.off K0 K (lkn (by decide) (lke rfl))).trans C363, (KN.off K0 K (lkn (by decide) (lke rfl))).trans C364, (KN.off K0 K (lkn (by decide) (lke rfl))).trans C368, (KN.off K0 K (lkn (by decide) (lke rfl))).trans C369, (KN.off K0 K (lkn (by decide) (lke rfl))).trans C370⟩, hsd, hot⟩, F⟩
theorem gm_gone {h : J_H} {n S d : Nat} {w kp : List Int32} {sst acs : Int32} (R : hM9 w kp sst acs h) (x1 : Int32) (x2 : Int32) : j_V jP d 259 0 (lv_args 0 [.ref 359, .int x1, .int x2]) [] h (fun rv h' => ∃ (th : Int32), rv = some (.int (m_qgone th sst w x1 x2).1) ∧ hM9 w kp (m_qgone th sst w x1 x2).2.2 acs h' ∧ (∀ a, ¬ (359 ≤ a ∧ a < 371) → h'[a]? = h[a]?)) := by
  obtain ⟨u, th, tm, sd, ot, tk, od, be, ⟨C359, C360, C362, C363, C364, C368, C369, C370⟩, hsd, hot⟩ := R
  have K0 : kA h [(359, .inl (10, [.int th, .ref 360, .ref 361, .ref 362, .ref 363, .ref 364, .ref 365, .ref 366, .ref 367, u 9, .int sst, u 11, u 12, .int acs, u 14, u 15, u 16, u 17, u 18, u 19, u 20, u 21, .ref 368, .int tm, .ref 369, .ref 370, .ref 371, u 27])), (360, .inr (.inl (0, w)))] := ⟨C359, C360, trivial⟩
  refine j_V.mono (mr2_ok (u := fun j => [u 0, u 1, u 2, u 3, u 4, u 5, u 6, u 7, u 8, u 9, u 10, u 11, u 12, u 13, u 14, u 15, u 16, u 17, u 18, u 19, u 20, u 21, u 22, .int tm, u 24, u 25, u 26, u 27].getD j .null)  K0.K) ?_
  rintro rv h' ⟨rfl, K⟩
  have F :  (∀ a, ¬ (359 ≤ a ∧ a < 371) → h'[a]? = h[a]?) := fun a ha => KN.off K0 K (lkn (fun z => ha (by omega)) (lke rfl))
  exact ⟨th, rfl, ⟨u, _, tm, sd, ot, tk, od, be, ⟨K.at rfl, K.at rfl, (KN.off K0 K (lkn (by decide) (lke rfl))).trans C362, (KN.off K0 K (lkn (by decide) (lke rfl))).trans C363, (KN.off K0 K (lkn (by decide) (lke rfl))).trans C364, (KN.off K0 K (lkn (by decide) (lke rfl))).trans C368, (KN.off K0 K (lkn (by decide) (lke rfl))).trans C369, (KN.off K0 K (lkn (by decide) (lke rfl))).trans C370⟩, hsd, hot⟩, F⟩
theorem gm_waits {h : J_H} {n S d : Nat} {w kp : List Int32} {sst acs : Int32} (R : hM9 w kp sst acs h) (x1 : Int32) : j_V jP d 260 0 (lv_args 0 [.ref 359, .int x1]) [] h (fun rv h' => ∃ (th : Int32), rv = some (.int (m_qwaits th sst w x1).1) ∧ hM9 w kp (m_qwaits th sst w x1).2.2 acs h' ∧ (∀ a, ¬ (359 ≤ a ∧ a < 371) → h'[a]? = h[a]?)) := by
  obtain ⟨u, th, tm, sd, ot, tk, od, be, ⟨C359, C360, C362, C363, C364, C368, C369, C370⟩, hsd, hot⟩ := R
  have K0 : kA h [(359, .inl (10, [.int th, .ref 360, .ref 361, .ref 362, .ref 363, .ref 364, .ref 365, .ref 366, .ref 367, u 9, .int sst, u 11, u 12, .int acs, u 14, u 15, u 16, u 17, u 18, u 19, u 20, u 21, .ref 368, .int tm, .ref 369, .ref 370, .ref 371, u 27])), (360, .inr (.inl (0, w)))] := ⟨C359, C360, trivial⟩
  refine j_V.mono (mr3_ok (u := fun j => [u 0, u 1, u 2, u 3, u 4, u 5, u 6, u 7, u 8, u 9, u 10, u 11, u 12, u 13, u 14, u 15, u 16, u 17, u 18, u 19, u 20, u 21, u 22, .int tm, u 24, u 25, u 26, u 27].getD j .null)  K0.K) ?_
  rintro rv h' ⟨rfl, K⟩
  have F :  (∀ a, ¬ (359 ≤ a ∧ a < 371) → h'[a]? = h[a]?) := fun a ha => KN.off K0 K (lkn (fun z => ha (by omega)) (lke rfl))
  exact ⟨th, rfl, ⟨u, _, tm, sd, ot, tk, od, be, ⟨K.at rfl, K.at rfl, (KN.off K0 K (lkn (by decide) (lke rfl))).trans C362, (KN.off K0 K (lkn (by decide) (lke rfl))).trans C363, (KN.off K0 K (lkn (by decide) (lke rfl))).trans C364, (KN.off K0 K (lkn (by decide) (lke rfl))).trans C368, (KN.off K0 K (lkn (by decide) (lke rfl))).trans C369, (KN.off K0 K (lkn (by decide) (lke rfl))).trans C370⟩, hsd, hot⟩, F⟩
theorem gm_train {h : J_H} {n S d : Nat} {w kp : List Int32} {sst acs : Int32} (H : wf n S w) (R : hM9 w kp sst acs h) (x1 : Int32) (x2 : Int32) : j_V jP d 240 0 (lv_args 0 [.ref 359, .int x1, .int x2]) [] h (fun rv h' => ∃ (th : Int32), rv = some (.int (m_qtrain th sst w x1 x2).1) ∧ hM9 w kp (m_qtrain th sst w x1 x2).2.2 acs h' ∧ (∀ a, ¬ (359 ≤ a ∧ a < 371) → h'[a]? = h[a]?)) := by
  obtain ⟨u, th, tm, sd, ot, tk, od, be, ⟨C359, C360, C362, C363, C364, C368, C369, C370⟩, hsd, hot⟩ := R
  have K0 : kA h [(359, .inl (10, [.int th, .ref 360, .ref 361, .ref 362, .ref 363, .ref 364, .ref 365, .ref 366, .ref 367, u 9, .int sst, u 11, u 12, .int acs, u 14, u 15, u 16, u 17, u 18, u 19, u 20, u 21, .ref 368, .int tm, .ref 369, .ref 370, .ref 371, u 27])), (360, .inr (.inl (0, w))), (362, .inr (.inl (0, sd))), (363, .inr (.inl (0, ot))), (364, .inr (.inl (0, kp))), (368, .inr (.inl (0, tk))), (369, .inr (.inl (0, od))), (370, .inr (.inl (0, be)))] := ⟨C359, C360, C362, C363, C364, C368, C369, C370, trivial⟩
  refine j_V.mono (ms3_ok (u := u) (wf.Inv H.n5) H hsd hot K0.K) ?_
  rintro rv h' ⟨rfl, sd', ot', tk', tm', hsd', hot', K⟩
  have F :  (∀ a, ¬ (359 ≤ a ∧ a < 371) → h'[a]? = h[a]?) := fun a ha => KN.off K0 K (lkn (fun z => ha (by omega)) (lke (lkn (fun z => ha (by omega)) (lkn (fun z => ha (by omega)) (lke (lkn (fun z => ha (by omega)) (lke (lke rfl))))))))
  exact ⟨th, rfl, ⟨u, _, tm', sd', ot', tk', od, be, ⟨K.at rfl, K.at rfl, K.at rfl, K.at rfl, K.at rfl, K.at rfl, K.at rfl, K.at rfl⟩, hsd', hot'⟩, F⟩
theorem gm_many {h : J_H} {n S d : Nat} {w kp : List Int32} {sst acs : Int32} (H : wf n S w) (R : hM9 w kp sst acs h) (x1 : Int32) : j_V jP d 234 0 (lv_args 0 [.ref 359, .int x1]) [] h (fun rv h' => ∃ (th : Int32), rv = some (.int (m_qmany n th sst acs w x1).1) ∧ hM9 w kp (m_qmany n th sst acs w x1).2.2 acs h' ∧ (∀ a, ¬ (359 ≤ a ∧ a < 371) → h'[a]? = h[a]?)) := by
  obtain ⟨u, th, tm, sd, ot, tk, od, be, ⟨C359, C360, C362, C363, C364, C368, C369, C370⟩, hsd, hot⟩ := R
  have K0 : kA h [(359, .inl (10, [.int th, .ref 360, .ref 361, .ref 362, .ref 363, .ref 364, .ref 365, .ref 366, .ref 367, u 9, .int sst, u 11, u 12, .int acs, u 14, u 15, u 16, u 17, u 18, u 19, u 20, u 21, .ref 368, .int tm, .ref 369, .ref 370, .ref 371, u 27])), (360, .inr (.inl (0, w))), (362, .inr (.inl (0, sd))), (363, .inr (.inl (0, ot))), (364, .inr (.inl (0, kp))), (368, .inr (.inl (0, tk))), (369, .inr (.inl (0, od))), (370, .inr (.inl (0, be)))] := ⟨C359, C360, C362, C363, C364, C368, C369, C370, trivial⟩
  refine j_V.mono (ms4_ok (u := u) (wf.Inv H.n5) H hsd hot K0.K) ?_
  rintro rv h' ⟨rfl, sd', ot', tk', tm', hsd', hot', K⟩
  have F :  (∀ a, ¬ (359 ≤ a ∧ a < 371) → h'[a]? = h[a]?) := fun a ha => KN.off K0 K (lkn (fun z => ha (by omega)) (lke (lkn (fun z => ha (by omega)) (lkn (fun z => ha (by omega)) (lke (lkn (fun z => ha (by omega)) (lke (lke rfl))))))))
  exact ⟨th, rfl, ⟨u, _, tm', sd', ot', tk', od, be, ⟨K.at rfl, K.at rfl, K.at rfl, K.at rfl, K.at rfl, K.at rfl, K.at rfl, K.at rfl⟩, hsd', hot'⟩, F⟩
theorem gm_why {h : J_H} {n S d : Nat} {w kp : List Int32} {sst acs : Int32} (H : wf n S w) (R : hM9 w kp sst acs h) (x1 : Int32) : j_V jP d 243 0 (lv_args 0 [.ref 359, .int x1]) [] h (fun rv h' => ∃ (th : Int32), rv = some (.int (m_qwhy n th sst w x1).1) ∧ hM9 w kp (m_qwhy n th sst w x1).2.2 acs h' ∧ (∀ a, ¬ (359 ≤ a ∧ a < 371) → h'[a]? = h[a]?)) := by
  obtain ⟨u, th, tm, sd, ot, tk, od, be, ⟨C359, C360, C362, C363, C364, C368, C369, C370⟩, hsd, hot⟩ := R
  have K0 : kA h [(359, .inl (10, [.int th, .ref 360, .ref 361, .ref 362, .ref 363, .ref 364, .ref 365, .ref 366, .ref 367, u 9, .int sst, u 11, u 12, .int acs, u 14, u 15, u 16, u 17, u 18, u 19, u 20, u 21, .ref 368, .int tm, .ref 369, .ref 370, .ref 371, u 27])), (360, .inr (.inl (0, w))), (362, .inr (.inl (0, sd))), (363, .inr (.inl (0, ot))), (364, .inr (.inl (0, kp))), (368, .inr (.inl (0, tk))), (369, .inr (.inl (0, od))), (370, .inr (.inl (0, be)))] := ⟨C359, C360, C362, C363, C364, C368, C369, C370, trivial⟩
  refine j_V.mono (ms5_ok (u := u) (wf.Inv H.n5) H hsd hot K0.K) ?_
  rintro rv h' ⟨rfl, sd', ot', tk', tm', hsd', hot', K⟩
  have F :  (∀ a, ¬ (359 ≤ a ∧ a < 371) → h'[a]? = h[a]?) := fun a ha => KN.off K0 K (lkn (fun z => ha (by omega)) (lke (lkn (fun z => ha (by omega)) (lkn (fun z => ha (by omega)) (lke (lkn (fun z => ha (by omega)) (lke (lke rfl))))))))
  exact ⟨th, rfl, ⟨u, _, tm', sd', ot', tk', od, be, ⟨K.at rfl, K.at rfl, K.at rfl, K.at rfl, K.at rfl, K.at rfl, K.at rfl, K.at rfl⟩, hsd', hot'⟩, F⟩
theorem gm_through {h : J_H} {n S d : Nat} {w kp : List Int32} {sst acs : Int32} (H : wf n S w) (R : hM9 w kp sst acs h) (x1 : Int32) : j_V jP d 248 0 (lv_args 0 [.ref 359, .int x1]) [] h (fun rv h' => ∃ (th : Int32) (tk : List Int32), rv = some (.int (m_qthrough n th sst w tk x1).1) ∧ hM9 w kp (m_qthrough n th sst w tk x1).2.2 acs h' ∧ (∀ a, ¬ (359 ≤ a ∧ a < 371) → h'[a]? = h[a]?) ∧ h[368]? = some (.inr (.inl (0, tk)))) := by
  obtain ⟨u, th, tm, sd, ot, tk, od, be, ⟨C359, C360, C362, C363, C364, C368, C369, C370⟩, hsd, hot⟩ := R
  have K0 : kA h [(359, .inl (10, [.int th, .ref 360, .ref 361, .ref 362, .ref 363, .ref 364, .ref 365, .ref 366, .ref 367, u 9, .int sst, u 11, u 12, .int acs, u 14, u 15, u 16, u 17, u 18, u 19, u 20, u 21, .ref 368, .int tm, .ref 369, .ref 370, .ref 371, u 27])), (360, .inr (.inl (0, w))), (362, .inr (.inl (0, sd))), (363, .inr (.inl (0, ot))), (364, .inr (.inl (0, kp))), (368, .inr (.inl (0, tk))), (369, .inr (.inl (0, od))), (370, .inr (.inl (0, be)))] := ⟨C359, C360, C362, C363, C364, C368, C369, C370, trivial⟩
  refine j_V.mono (ms6_ok (u := u) (wf.Inv H.n5) H hsd hot K0.K) ?_
  rintro rv h' ⟨rfl, sd', ot', tk', tm', hsd', hot', K⟩
  have F :  (∀ a, ¬ (359 ≤ a ∧ a < 371) → h'[a]? = h[a]?) := fun a ha => KN.off K0 K (lkn (fun z => ha (by omega)) (lke (lkn (fun z => ha (by omega)) (lkn (fun z => ha (by omega)) (lke (lkn (fun z => ha (by omega)) (lke (lke rfl))))))))
  exact ⟨th, tk, rfl, ⟨u, _, tm', sd', ot', tk', od, be, ⟨K.at rfl, K.at rfl, K.at rfl, K.at rfl, K.at rfl, K.at rfl, K.at rfl, K.at rfl⟩, hsd', hot'⟩, F, C368⟩
theorem gm_ends {h : J_H} {n S d : Nat} {w kp : List Int32} {sst acs : Int32} (H : wf n S w) (R : hM9 w kp sst acs h) (x1 : Int32) (x2 : Int32) : j_V jP d 264 0 (lv_args 0 [.ref 359, .int x1, .int x2]) [] h (fun rv h' => ∃ (th : Int32), rv = some (.int (m_qends n th sst w x1 x2).1) ∧ hM9 w kp (m_qends n th sst w x1 x2).2.2 acs h' ∧ (∀ a, ¬ (359 ≤ a ∧ a < 371) → h'[a]? = h[a]?)) := by
  obtain ⟨u, th, tm, sd, ot, tk, od, be, ⟨C359, C360, C362, C363, C364, C368, C369, C370⟩, hsd, hot⟩ := R
  have K0 : kA h [(359, .inl (10, [.int th, .ref 360, .ref 361, .ref 362, .ref 363, .ref 364, .ref 365, .ref 366, .ref 367, u 9, .int sst, u 11, u 12, .int acs, u 14, u 15, u 16, u 17, u 18, u 19, u 20, u 21, .ref 368, .int tm, .ref 369, .ref 370, .ref 371, u 27])), (360, .inr (.inl (0, w))), (362, .inr (.inl (0, sd))), (363, .inr (.inl (0, ot))), (364, .inr (.inl (0, kp))), (368, .inr (.inl (0, tk))), (369, .inr (.inl (0, od))), (370, .inr (.inl (0, be)))] := ⟨C359, C360, C362, C363, C364, C368, C369, C370, trivial⟩
  refine j_V.mono (ms7_ok (u := u) (wf.Inv H.n5) H hsd hot K0.K) ?_
  rintro rv h' ⟨rfl, sd', ot', tk', tm', hsd', hot', K⟩
  have F :  (∀ a, ¬ (359 ≤ a ∧ a < 371) → h'[a]? = h[a]?) := fun a ha => KN.off K0 K (lkn (fun z => ha (by omega)) (lke (lkn (fun z => ha (by omega)) (lkn (fun z => ha (by omega)) (lke (lkn (fun z => ha (by omega)) (lke (lke rfl))))))))
  exact ⟨th, rfl, ⟨u, _, tm', sd', ot', tk', od, be, ⟨K.at rfl, K.at rfl, K.at rfl, K.at rfl, K.at rfl, K.at rfl, K.at rfl, K.at rfl⟩, hsd', hot'⟩, F⟩
theorem gm_when {h : J_H} {n S d : Nat} {w kp : List Int32} {sst acs : Int32} (H : wf n S w) (R : hM9 w kp sst acs h) (x1 : Int32) : j_V jP d 265 0 (lv_args 0 [.ref 359, .int x1]) [] h (fun rv h' => ∃ (th : Int32), rv = some (.int (m_qwhen n th sst w x1).1) ∧ hM9 w kp (m_qwhen n th sst w x1).2.2 acs h' ∧ (∀ a, ¬ (359 ≤ a ∧ a < 371) → h'[a]? = h[a]?)) := by
  obtain ⟨u, th, tm, sd, ot, tk, od, be, ⟨C359, C360, C362, C363, C364, C368, C369, C370⟩, hsd, hot⟩ := R
  have K0 : kA h [(359, .inl (10, [.int th, .ref 360, .ref 361, .ref 362, .ref 363, .ref 364, .ref 365, .ref 366, .ref 367, u 9, .int sst, u 11, u 12, .int acs, u 14, u 15, u 16, u 17, u 18, u 19, u 20, u 21, .ref 368, .int tm, .ref 369, .ref 370, .ref 371, u 27])), (360, .inr (.inl (0, w))), (362, .inr (.inl (0, sd))), (363, .inr (.inl (0, ot))), (364, .inr (.inl (0, kp))), (368, .inr (.inl (0, tk))), (369, .inr (.inl (0, od))), (370, .inr (.inl (0, be)))] := ⟨C359, C360, C362, C363, C364, C368, C369, C370, trivial⟩
  refine j_V.mono (ms8_ok (u := u) (wf.Inv H.n5) H hsd hot K0.K) ?_
  rintro rv h' ⟨rfl, sd', ot', tk', tm', hsd', hot', K⟩
  have F :  (∀ a, ¬ (359 ≤ a ∧ a < 371) → h'[a]? = h[a]?) := fun a ha => KN.off K0 K (lkn (fun z => ha (by omega)) (lke (lkn (fun z => ha (by omega)) (lkn (fun z => ha (by omega)) (lke (lkn (fun z => ha (by omega)) (lke (lke rfl))))))))
  exact ⟨th, rfl, ⟨u, _, tm', sd', ot', tk', od, be, ⟨K.at rfl, K.at rfl, K.at rfl, K.at rfl, K.at rfl, K.at rfl, K.at rfl, K.at rfl⟩, hsd', hot'⟩, F⟩
theorem gm_ahead {h : J_H} {n S d : Nat} {w kp : List Int32} {sst acs : Int32} (H : wf n S w) (R : hM9 w kp sst acs h) (x1 : Int32) (x2 : Int32) (x3 : Int32) : j_V jP d 262 0 (lv_args 0 [.ref 359, .int x1, .int x2, .int x3]) [] h (fun rv h' => ∃ (th : Int32), rv = some (.int (m_qahead n th sst w x1 x2 x3).1) ∧ hM9 w kp (m_qahead n th sst w x1 x2 x3).2.2 acs h' ∧ (∀ a, ¬ (359 ≤ a ∧ a < 371) → h'[a]? = h[a]?)) := by
  obtain ⟨u, th, tm, sd, ot, tk, od, be, ⟨C359, C360, C362, C363, C364, C368, C369, C370⟩, hsd, hot⟩ := R
  have K0 : kA h [(359, .inl (10, [.int th, .ref 360, .ref 361, .ref 362, .ref 363, .ref 364, .ref 365, .ref 366, .ref 367, u 9, .int sst, u 11, u 12, .int acs, u 14, u 15, u 16, u 17, u 18, u 19, u 20, u 21, .ref 368, .int tm, .ref 369, .ref 370, .ref 371, u 27])), (360, .inr (.inl (0, w))), (362, .inr (.inl (0, sd))), (363, .inr (.inl (0, ot))), (364, .inr (.inl (0, kp))), (368, .inr (.inl (0, tk))), (369, .inr (.inl (0, od))), (370, .inr (.inl (0, be)))] := ⟨C359, C360, C362, C363, C364, C368, C369, C370, trivial⟩
  refine j_V.mono (mt0_ok (u := u) (wf.Inv H.n5) wf.Iv2 H hsd hot K0.K) ?_
  rintro rv h' ⟨rfl, sd', ot', tk', tm', hsd', hot', K⟩
  have F :  (∀ a, ¬ (359 ≤ a ∧ a < 371) → h'[a]? = h[a]?) := fun a ha => KN.off K0 K (lkn (fun z => ha (by omega)) (lke (lkn (fun z => ha (by omega)) (lkn (fun z => ha (by omega)) (lke (lkn (fun z => ha (by omega)) (lke (lke rfl))))))))
  exact ⟨th, rfl, ⟨u, _, tm', sd', ot', tk', od, be, ⟨K.at rfl, K.at rfl, K.at rfl, K.at rfl, K.at rfl, K.at rfl, K.at rfl, K.at rfl⟩, hsd', hot'⟩, F⟩
theorem gm_cost {h : J_H} {n S d : Nat} {w kp : List Int32} {sst acs : Int32} (H : wf n S w) (R : hM9 w kp sst acs h) (x1 : Int32) (x2 : Int32) : j_V jP d 271 0 (lv_args 0 [.ref 359, .int x1, .int x2]) [] h (fun rv h' => ∃ (th : Int32), rv = some (.int (m_qcost n th sst w x1 x2).1) ∧ hM9 w kp (m_qcost n th sst w x1 x2).2.2 acs h' ∧ (∀ a, ¬ (359 ≤ a ∧ a < 371) → h'[a]? = h[a]?)) := by
  obtain ⟨u, th, tm, sd, ot, tk, od, be, ⟨C359, C360, C362, C363, C364, C368, C369, C370⟩, hsd, hot⟩ := R
  have K0 : kA h [(359, .inl (10, [.int th, .ref 360, .ref 361, .ref 362, .ref 363, .ref 364, .ref 365, .ref 366, .ref 367, u 9, .int sst, u 11, u 12, .int acs, u 14, u 15, u 16, u 17, u 18, u 19, u 20, u 21, .ref 368, .int tm, .ref 369, .ref 370, .ref 371, u 27])), (360, .inr (.inl (0, w))), (362, .inr (.inl (0, sd))), (363, .inr (.inl (0, ot))), (364, .inr (.inl (0, kp))), (368, .inr (.inl (0, tk))), (369, .inr (.inl (0, od))), (370, .inr (.inl (0, be)))] := ⟨C359, C360, C362, C363, C364, C368, C369, C370, trivial⟩
  refine j_V.mono (mt3_ok (u := u) (wf.Inv H.n5) wf.Iv2 H hsd hot K0.K) ?_
  rintro rv h' ⟨rfl, sd', ot', tk', tm', hsd', hot', K⟩
  have F :  (∀ a, ¬ (359 ≤ a ∧ a < 371) → h'[a]? = h[a]?) := fun a ha => KN.off K0 K (lkn (fun z => ha (by omega)) (lke (lkn (fun z => ha (by omega)) (lkn (fun z => ha (by omega)) (lke (lkn (fun z => ha (by omega)) (lke (lke rfl))))))))
  exact ⟨th, rfl, ⟨u, _, tm', sd', ot', tk', od, be, ⟨K.at rfl, K.at rfl, K.at rfl, K.at rfl, K.at rfl, K.at rfl, K.at rfl, K.at rfl⟩, hsd', hot'⟩, F⟩
theorem gm_slack {h : J_H} {n S d : Nat} {w kp : List Int32} {sst acs : Int32} (H : wf n S w) (R : hM9 w kp sst acs h) (x1 : Int32) : j_V jP d 272 0 (lv_args 0 [.ref 359, .int x1]) [] h (fun rv h' => ∃ (th : Int32), rv = some (.int (m_qslack n th sst w x1).1) ∧ hM9 w kp (m_qslack n th sst w x1).2.2 acs h' ∧ (∀ a, ¬ (359 ≤ a ∧ a < 371) → h'[a]? = h[a]?)) := by
  obtain ⟨u, th, tm, sd, ot, tk, od, be, ⟨C359, C360, C362, C363, C364, C368, C369, C370⟩, hsd, hot⟩ := R
  have K0 : kA h [(359, .inl (10, [.int th, .ref 360, .ref 361, .ref 362, .ref 363, .ref 364, .ref 365, .ref 366, .ref 367, u 9, .int sst, u 11, u 12, .int acs, u 14, u 15, u 16, u 17, u 18, u 19, u 20, u 21, .ref 368, .int tm, .ref 369, .ref 370, .ref 371, u 27])), (360, .inr (.inl (0, w))), (362, .inr (.inl (0, sd))), (363, .inr (.inl (0, ot))), (364, .inr (.inl (0, kp))), (368, .inr (.inl (0, tk))), (369, .inr (.inl (0, od))), (370, .inr (.inl (0, be)))] := ⟨C359, C360, C362, C363, C364, C368, C369, C370, trivial⟩
  refine j_V.mono (mt4_ok (u := u) (wf.Inv H.n5) wf.Iv2 H hsd hot K0.K) ?_
  rintro rv h' ⟨rfl, sd', ot', tk', tm', hsd', hot', K⟩
  have F :  (∀ a, ¬ (359 ≤ a ∧ a < 371) → h'[a]? = h[a]?) := fun a ha => KN.off K0 K (lkn (fun z => ha (by omega)) (lke (lkn (fun z => ha (by omega)) (lkn (fun z => ha (by omega)) (lke (lkn (fun z => ha (by omega)) (lke (lke rfl))))))))
  exact ⟨th, rfl, ⟨u, _, tm', sd', ot', tk', od, be, ⟨K.at rfl, K.at rfl, K.at rfl, K.at rfl, K.at rfl, K.at rfl, K.at rfl, K.at rfl⟩, hsd', hot'⟩, F⟩
theorem gm_swap {h : J_H} {n S d : Nat} {w kp : List Int32} {sst acs : Int32} (H : wf n S w) (R : hM9 w kp sst acs h) (x1 : Int32) (x2 : Int32) : j_V jP d 273 0 (lv_args 0 [.ref 359, .int x1, .int x2]) [] h (fun rv h' => ∃ (th : Int32), rv = some (.int (m_qswap n th sst w x1 x2).1) ∧ hM9 w kp (m_qswap n th sst w x1 x2).2.2 acs h' ∧ (∀ a, ¬ (359 ≤ a ∧ a < 371) → h'[a]? = h[a]?)) := by
  obtain ⟨u, th, tm, sd, ot, tk, od, be, ⟨C359, C360, C362, C363, C364, C368, C369, C370⟩, hsd, hot⟩ := R
  have K0 : kA h [(359, .inl (10, [.int th, .ref 360, .ref 361, .ref 362, .ref 363, .ref 364, .ref 365, .ref 366, .ref 367, u 9, .int sst, u 11, u 12, .int acs, u 14, u 15, u 16, u 17, u 18, u 19, u 20, u 21, .ref 368, .int tm, .ref 369, .ref 370, .ref 371, u 27])), (360, .inr (.inl (0, w))), (362, .inr (.inl (0, sd))), (363, .inr (.inl (0, ot))), (364, .inr (.inl (0, kp))), (368, .inr (.inl (0, tk))), (369, .inr (.inl (0, od))), (370, .inr (.inl (0, be)))] := ⟨C359, C360, C362, C363, C364, C368, C369, C370, trivial⟩
  refine j_V.mono (mt5_ok (u := u) (wf.Inv H.n5) wf.Iv2 H hsd hot K0.K) ?_
  rintro rv h' ⟨rfl, sd', ot', tk', tm', hsd', hot', K⟩
  have F :  (∀ a, ¬ (359 ≤ a ∧ a < 371) → h'[a]? = h[a]?) := fun a ha => KN.off K0 K (lkn (fun z => ha (by omega)) (lke (lkn (fun z => ha (by omega)) (lkn (fun z => ha (by omega)) (lke (lkn (fun z => ha (by omega)) (lke (lke rfl))))))))
  exact ⟨th, rfl, ⟨u, _, tm', sd', ot', tk', od, be, ⟨K.at rfl, K.at rfl, K.at rfl, K.at rfl, K.at rfl, K.at rfl, K.at rfl, K.at rfl⟩, hsd', hot'⟩, F⟩
theorem gm_loop {h : J_H} {n S d : Nat} {w kp : List Int32} {sst acs : Int32} (H : wf n S w) (R : hM9 w kp sst acs h) (x1 : Int32) (x2 : Int32) : j_V jP d 279 0 (lv_args 0 [.ref 359, .int x1, .int x2]) [] h (fun rv h' => ∃ (th : Int32), rv = some (.int (m_qloop n th sst w x1 x2).1) ∧ hM9 w kp (m_qloop n th sst w x1 x2).2.2 acs h' ∧ (∀ a, ¬ (359 ≤ a ∧ a < 371) → h'[a]? = h[a]?)) := by
  obtain ⟨u, th, tm, sd, ot, tk, od, be, ⟨C359, C360, C362, C363, C364, C368, C369, C370⟩, hsd, hot⟩ := R
  have K0 : kA h [(359, .inl (10, [.int th, .ref 360, .ref 361, .ref 362, .ref 363, .ref 364, .ref 365, .ref 366, .ref 367, u 9, .int sst, u 11, u 12, .int acs, u 14, u 15, u 16, u 17, u 18, u 19, u 20, u 21, .ref 368, .int tm, .ref 369, .ref 370, .ref 371, u 27])), (360, .inr (.inl (0, w))), (362, .inr (.inl (0, sd))), (363, .inr (.inl (0, ot))), (364, .inr (.inl (0, kp))), (368, .inr (.inl (0, tk))), (369, .inr (.inl (0, od))), (370, .inr (.inl (0, be)))] := ⟨C359, C360, C362, C363, C364, C368, C369, C370, trivial⟩
  refine j_V.mono (mt7_ok (u := u) (wf.Inv H.n5) wf.Iv2 H hsd hot K0.K) ?_
  rintro rv h' ⟨rfl, sd', ot', tk', tm', hsd', hot', K⟩
  have F :  (∀ a, ¬ (359 ≤ a ∧ a < 371) → h'[a]? = h[a]?) := fun a ha => KN.off K0 K (lkn (fun z => ha (by omega)) (lke (lkn (fun z => ha (by omega)) (lkn (fun z => ha (by omega)) (lke (lkn (fun z => ha (by omega)) (lke (lke rfl))))))))
  exact ⟨th, rfl, ⟨u, _, tm', sd', ot', tk', od, be, ⟨K.at rfl, K.at rfl, K.at rfl, K.at rfl, K.at rfl, K.at rfl, K.at rfl, K.at rfl⟩, hsd', hot'⟩, F⟩
theorem gm_build {h : J_H} {n S d : Nat} {w kp : List Int32} {sst acs : Int32} (H : wf n S w) (R : hM9 w kp sst acs h) : j_V jP d 280 0 (lv_args 0 [.ref 359]) [] h (fun rv h' => ∃ (th : Int32), rv = some (.int (m_qbuild n th sst w).1) ∧ hM9 w kp (m_qbuild n th sst w).2.2 acs h' ∧ (∀ a, ¬ (359 ≤ a ∧ a < 371) → h'[a]? = h[a]?)) := by
  obtain ⟨u, th, tm, sd, ot, tk, od, be, ⟨C359, C360, C362, C363, C364, C368, C369, C370⟩, hsd, hot⟩ := R
  have K0 : kA h [(359, .inl (10, [.int th, .ref 360, .ref 361, .ref 362, .ref 363, .ref 364, .ref 365, .ref 366, .ref 367, u 9, .int sst, u 11, u 12, .int acs, u 14, u 15, u 16, u 17, u 18, u 19, u 20, u 21, .ref 368, .int tm, .ref 369, .ref 370, .ref 371, u 27])), (360, .inr (.inl (0, w))), (362, .inr (.inl (0, sd))), (363, .inr (.inl (0, ot))), (364, .inr (.inl (0, kp))), (368, .inr (.inl (0, tk))), (369, .inr (.inl (0, od))), (370, .inr (.inl (0, be)))] := ⟨C359, C360, C362, C363, C364, C368, C369, C370, trivial⟩
  refine j_V.mono (mt8_ok (u := u) (wf.Inv H.n5) wf.Iv2 H hsd hot K0.K) ?_
  rintro rv h' ⟨rfl, sd', ot', tk', tm', hsd', hot', K⟩
  have F :  (∀ a, ¬ (359 ≤ a ∧ a < 371) → h'[a]? = h[a]?) := fun a ha => KN.off K0 K (lkn (fun z => ha (by omega)) (lke (lkn (fun z => ha (by omega)) (lkn (fun z => ha (by omega)) (lke (lkn (fun z => ha (by omega)) (lke (lke rfl))))))))
  exact ⟨th, rfl, ⟨u, _, tm', sd', ot', tk', od, be, ⟨K.at rfl, K.at rfl, K.at rfl, K.at rfl, K.at rfl, K.at rfl, K.at rfl, K.at rfl⟩, hsd', hot'⟩, F⟩
theorem gm_risks {h : J_H} {n S d : Nat} {w kp : List Int32} {sst acs : Int32} (H : wf n S w) (R : hM9 w kp sst acs h) : j_V jP d 249 0 (lv_args 0 [.ref 359]) [] h (fun rv h' => ∃ (th : Int32), rv = some (.int (m_qrisks n th sst w).1) ∧ hM9 w kp (m_qrisks n th sst w).2.2 acs h' ∧ (∀ a, ¬ (359 ≤ a ∧ a < 371) → h'[a]? = h[a]?)) := by
  obtain ⟨u, th, tm, sd, ot, tk, od, be, ⟨C359, C360, C362, C363, C364, C368, C369, C370⟩, hsd, hot⟩ := R
  have K0 : kA h [(359, .inl (10, [.int th, .ref 360, .ref 361, .ref 362, .ref 363, .ref 364, .ref 365, .ref 366, .ref 367, u 9, .int sst, u 11, u 12, .int acs, u 14, u 15, u 16, u 17, u 18, u 19, u 20, u 21, .ref 368, .int tm, .ref 369, .ref 370, .ref 371, u 27])), (360, .inr (.inl (0, w))), (362, .inr (.inl (0, sd))), (363, .inr (.inl (0, ot))), (364, .inr (.inl (0, kp))), (368, .inr (.inl (0, tk))), (369, .inr (.inl (0, od))), (370, .inr (.inl (0, be)))] := ⟨C359, C360, C362, C363, C364, C368, C369, C370, trivial⟩
  refine j_V.mono (mt9_ok (u := u) (wf.Inv H.n5) wf.Iv2 H hsd hot K0.K) ?_
  rintro rv h' ⟨rfl, sd', ot', tk', tm', hsd', hot', K⟩
  have F :  (∀ a, ¬ (359 ≤ a ∧ a < 371) → h'[a]? = h[a]?) := fun a ha => KN.off K0 K (lkn (fun z => ha (by omega)) (lke (lkn (fun z => ha (by omega)) (lkn (fun z => ha (by omega)) (lke (lkn (fun z => ha (by omega)) (lke (lke rfl))))))))
  exact ⟨th, rfl, ⟨u, _, tm', sd', ot', tk', od, be, ⟨K.at rfl, K.at rfl, K.at rfl, K.at rfl, K.at rfl, K.at rfl, K.at rfl, K.at rfl⟩, hsd', hot'⟩, F⟩
theorem gm_weak {h : J_H} {n S d : Nat} {w kp : List Int32} {sst acs : Int32} (H : wf n S w) (R : hM9 w kp sst acs h) (x1 : Int32) : j_V jP d 250 0 (lv_args 0 [.ref 359, .int x1]) [] h (fun rv h' => ∃ (th : Int32), rv = some (.int (m_qweak n th sst w x1).1) ∧ hM9 w kp (m_qweak n th sst w x1).2.2 acs h' ∧ (∀ a, ¬ (359 ≤ a ∧ a < 371) → h'[a]? = h[a]?)) := by
  obtain ⟨u, th, tm, sd, ot, tk, od, be, ⟨C359, C360, C362, C363, C364, C368, C369, C370⟩, hsd, hot⟩ := R
  have K0 : kA h [(359, .inl (10, [.int th, .ref 360, .ref 361, .ref 362, .ref 363, .ref 364, .ref 365, .ref 366, .ref 367, u 9, .int sst, u 11, u 12, .int acs, u 14, u 15, u 16, u 17, u 18, u 19, u 20, u 21, .ref 368, .int tm, .ref 369, .ref 370, .ref 371, u 27])), (360, .inr (.inl (0, w))), (362, .inr (.inl (0, sd))), (363, .inr (.inl (0, ot))), (364, .inr (.inl (0, kp))), (368, .inr (.inl (0, tk))), (369, .inr (.inl (0, od))), (370, .inr (.inl (0, be)))] := ⟨C359, C360, C362, C363, C364, C368, C369, C370, trivial⟩
  refine j_V.mono (mu0_ok (u := u) (wf.Inv H.n5) wf.Iv2 H hsd hot K0.K) ?_
  rintro rv h' ⟨rfl, sd', ot', tk', tm', hsd', hot', K⟩
  have F :  (∀ a, ¬ (359 ≤ a ∧ a < 371) → h'[a]? = h[a]?) := fun a ha => KN.off K0 K (lkn (fun z => ha (by omega)) (lke (lkn (fun z => ha (by omega)) (lkn (fun z => ha (by omega)) (lke (lkn (fun z => ha (by omega)) (lke (lke rfl))))))))
  exact ⟨th, rfl, ⟨u, _, tm', sd', ot', tk', od, be, ⟨K.at rfl, K.at rfl, K.at rfl, K.at rfl, K.at rfl, K.at rfl, K.at rfl, K.at rfl⟩, hsd', hot'⟩, F⟩
theorem gm_band {h : J_H} {n S d : Nat} {w kp : List Int32} {sst acs : Int32} (H : wf n S w) (R : hM9 w kp sst acs h) (x1 : Int32) (x2 : Int32) : j_V jP d 277 0 (lv_args 0 [.ref 359, .int x1, .int x2]) [] h (fun rv h' => ∃ (th : Int32), rv = some (.int (m_qband n th sst w x1 x2).1) ∧ hM9 w kp (m_qband n th sst w x1 x2).2.2 acs h' ∧ (∀ a, ¬ (359 ≤ a ∧ a < 371) → h'[a]? = h[a]?)) := by
  obtain ⟨u, th, tm, sd, ot, tk, od, be, ⟨C359, C360, C362, C363, C364, C368, C369, C370⟩, hsd, hot⟩ := R
  have K0 : kA h [(359, .inl (10, [.int th, .ref 360, .ref 361, .ref 362, .ref 363, .ref 364, .ref 365, .ref 366, .ref 367, u 9, .int sst, u 11, u 12, .int acs, u 14, u 15, u 16, u 17, u 18, u 19, u 20, u 21, .ref 368, .int tm, .ref 369, .ref 370, .ref 371, u 27])), (360, .inr (.inl (0, w))), (362, .inr (.inl (0, sd))), (363, .inr (.inl (0, ot))), (364, .inr (.inl (0, kp))), (368, .inr (.inl (0, tk))), (369, .inr (.inl (0, od))), (370, .inr (.inl (0, be)))] := ⟨C359, C360, C362, C363, C364, C368, C369, C370, trivial⟩
  refine j_V.mono (mu1_ok (u := u) (wf.Inv H.n5) wf.Iv2 H hsd hot K0.K) ?_
  rintro rv h' ⟨rfl, sd', ot', tk', tm', hsd', hot', K⟩
  have F :  (∀ a, ¬ (359 ≤ a ∧ a < 371) → h'[a]? = h[a]?) := fun a ha => KN.off K0 K (lkn (fun z => ha (by omega)) (lke (lkn (fun z => ha (by omega)) (lkn (fun z => ha (by omega)) (lke (lkn (fun z => ha (by omega)) (lke (lke rfl))))))))
  exact ⟨th, rfl, ⟨u, _, tm', sd', ot', tk', od, be, ⟨K.at rfl, K.at rfl, K.at rfl, K.at rfl, K.at rfl, K.at rfl, K.at rfl, K.at rfl⟩, hsd', hot'⟩, F⟩
theorem gm_passes {h : J_H} {n S d : Nat} {w kp : List Int32} {sst acs : Int32} (H : wf n S w) (R : hM9 w kp sst acs h) (x1 : Int32) (x2 : Int32) : j_V jP d 254 0 (lv_args 0 [.ref 359, .int x1, .int x2]) [] h (fun rv h' => ∃ (th : Int32), rv = some (.int (m_qpasses th sst w x1 x2).1) ∧ hM9 w kp (m_qpasses th sst w x1 x2).2.2 acs h' ∧ (∀ a, ¬ (359 ≤ a ∧ a < 371) → h'[a]? = h[a]?)) := by
  obtain ⟨u, th, tm, sd, ot, tk, od, be, ⟨C359, C360, C362, C363, C364, C368, C369, C370⟩, hsd, hot⟩ := R
  have K0 : kA h [(359, .inl (10, [.int th, .ref 360, .ref 361, .ref 362, .ref 363, .ref 364, .ref 365, .ref 366, .ref 367, u 9, .int sst, u 11, u 12, .int acs, u 14, u 15, u 16, u 17, u 18, u 19, u 20, u 21, .ref 368, .int tm, .ref 369, .ref 370, .ref 371, u 27])), (360, .inr (.inl (0, w))), (362, .inr (.inl (0, sd))), (363, .inr (.inl (0, ot))), (364, .inr (.inl (0, kp))), (368, .inr (.inl (0, tk))), (369, .inr (.inl (0, od))), (370, .inr (.inl (0, be)))] := ⟨C359, C360, C362, C363, C364, C368, C369, C370, trivial⟩
  refine j_V.mono (mu3_ok (u := u) (wf.Inv H.n5) wf.Iv2 H hsd hot (m_pz32 _) K0.K) ?_
  rintro rv h' ⟨rfl, sd', ot', tk', tm', hsd', hot', K⟩
  have F :  (∀ a, ¬ (359 ≤ a ∧ a < 371) → h'[a]? = h[a]?) := fun a ha => KN.off K0 K (lkn (fun z => ha (by omega)) (lke (lkn (fun z => ha (by omega)) (lkn (fun z => ha (by omega)) (lke (lkn (fun z => ha (by omega)) (lke (lke rfl))))))))
  exact ⟨th, rfl, ⟨u, _, tm', sd', ot', tk', od, be, ⟨K.at rfl, K.at rfl, K.at rfl, K.at rfl, K.at rfl, K.at rfl, K.at rfl, K.at rfl⟩, hsd', hot'⟩, F⟩
theorem gm_ring {h : J_H} {n S d : Nat} {w kp : List Int32} {sst acs : Int32} (H : wf n S w) (R : hM9 w kp sst acs h) : j_V jP d 246 0 (lv_args 0 [.ref 359]) [] h (fun rv h' => ∃ (th : Int32), rv = some (.int (m_qring n th sst w).1) ∧ hM9 w kp (m_qring n th sst w).2.2 acs h' ∧ (∀ a, ¬ (359 ≤ a ∧ a < 371) → h'[a]? = h[a]?)) := by
  obtain ⟨u, th, tm, sd, ot, tk, od, be, ⟨C359, C360, C362, C363, C364, C368, C369, C370⟩, hsd, hot⟩ := R
  have K0 : kA h [(359, .inl (10, [.int th, .ref 360, .ref 361, .ref 362, .ref 363, .ref 364, .ref 365, .ref 366, .ref 367, u 9, .int sst, u 11, u 12, .int acs, u 14, u 15, u 16, u 17, u 18, u 19, u 20, u 21, .ref 368, .int tm, .ref 369, .ref 370, .ref 371, u 27])), (360, .inr (.inl (0, w))), (362, .inr (.inl (0, sd))), (363, .inr (.inl (0, ot))), (364, .inr (.inl (0, kp))), (368, .inr (.inl (0, tk))), (369, .inr (.inl (0, od))), (370, .inr (.inl (0, be)))] := ⟨C359, C360, C362, C363, C364, C368, C369, C370, trivial⟩
  refine j_V.mono (mu4_ok (u := u) (wf.Inv H.n5) wf.Iv2 H hsd hot K0.K) ?_
  rintro rv h' ⟨rfl, sd', ot', tk', tm', hsd', hot', K⟩
  have F :  (∀ a, ¬ (359 ≤ a ∧ a < 371) → h'[a]? = h[a]?) := fun a ha => KN.off K0 K (lkn (fun z => ha (by omega)) (lke (lkn (fun z => ha (by omega)) (lkn (fun z => ha (by omega)) (lke (lkn (fun z => ha (by omega)) (lke (lke rfl))))))))
  exact ⟨th, rfl, ⟨u, _, tm', sd', ot', tk', od, be, ⟨K.at rfl, K.at rfl, K.at rfl, K.at rfl, K.at rfl, K.at rfl, K.at rfl, K.at rfl⟩, hsd', hot'⟩, F⟩

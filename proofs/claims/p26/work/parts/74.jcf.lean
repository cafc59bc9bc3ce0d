/-! JC: the run is sound; a method by its nodes -/
section JCF
variable {P : j_P} {X : J_H → Prop} {G : jc_G}
theorem jc_nd1_ok {d mi pc : Nat} {v0 : Int} {h0 h : J_H} {Q : Option Value → J_H → Prop} {ns : List jc_Nd} {n : jc_Nd} {A : jc_A} {L : jc_L} {lv : J_L} {r : jc_R} {t : jc_T} (hE : jc_Ok G.1) (hN : jc_Nok X P G d mi v0 h0 Q) (hns : ja_n2 G.2.2.2.2.2.2.1 pc = some ns) (hn : n ∈ ns) (hj : jc_nd1 G.1 G.2.2.1 G.2.2.2.2.2.2.2.1 G.2.2.2.2.2.2.2.2 A L n = true) (hg : jc_g G.1 X r t A h) (hL : jc_lv r A.1 L lv) (hf : jc_fr G.2.1 h0 h) (hv : ∀ g, G.2.2.2.2.2.2.2.2 = some g → g < A.1 ∧ r g = v0) : j_W P d mi pc lv [] h Q := by
  unfold jc_nd1 at hj
  cases hq : jc_qk L n.2.2.2 && jc_qk A.2.2.1 n.2.2.1.2.2.1 with
  | false => rw [hq] at hj; cases hj
  | true =>
  rw [hq, cond_true] at hj
  split at hj
  · cases hj
  · rename_i A1 h1
    obtain ⟨r1, e1, n1, g1⟩ := jc_mtk_ok hE hg h1
    split at hj
    · cases hj
    · rename_i ps hps
      split at hj
      · cases hj
      · rename_i th hth
        obtain ⟨⟨t', ht'⟩, hp⟩ := jc_arr_ok hE g1 hth
        have hL' := jc_nps_ok (hL.up e1 n1) hps hp
        refine hN pc ns n hns hn _ t' h lv ?_ ht' hL' hf
        rcases Bool.or_eq_true_iff.mp hj with hj | hj
        · exact Or.inl (Nat.le_of_ble_eq_true hj)
        · obtain ⟨j1, j2⟩ := Bool.and_eq_true_iff.mp hj
          refine Or.inr ⟨Nat.eq_of_beq_eq_true j1, ?_⟩
          split at j2
          · rename_i g g' hg1 hg2
            obtain ⟨k1, k2⟩ := Bool.and_eq_true_iff.mp j2
            obtain ⟨k2, k3⟩ := Bool.and_eq_true_iff.mp k2
            have k1 := Nat.eq_of_beq_eq_true k1
            subst k1
            have k2 : Nat.beq g 0 = false := by simpa using k2
            refine ⟨g, hg1, hg2, ?_⟩
            obtain ⟨v1, v2⟩ := hv g hg2
            unfold jc_rT
            rw [k2, cond_false]
            split at k3
            · rename_i u hu
              obtain ⟨u1, u2⟩ := Bool.and_eq_true_iff.mp k3
              have u2 := jc_le_t u2
              rw [hu]
              dsimp only
              rw [Nat.eq_of_beq_eq_true u1, e1 g v1, v2]
              omega
            · cases k3
          · cases j2
theorem jc_cal_ok {d : Nat} {as rest : jc_S} {A : jc_A} {K : jc_S → jc_A → Bool} {c : jc_Cn} {r : jc_R} {t : jc_T} {h : J_H} {asv restv : List Value} (hE : jc_Ok G.1) (hc : jc_Con P G.1 X c) (hj : jc_cal G d as rest A K c = true) (hg : jc_g G.1 X r t A h) (hA : jc_st r A.1 as asv) (hR : jc_st r A.1 rest restv) : c.2.1 + 1 ≤ d ∧ ∀ d', c.2.1 ≤ d' → j_W P d' c.1 0 (lv_args 0 asv) [] h (fun rv h' => ∃ S' A' r' t', K S' A' = true ∧ jc_ext A.1 r r' ∧ A.1 ≤ A'.1 ∧ jc_g G.1 X r' t' A' h' ∧ jc_st r' A'.1 S' (rv.toList ++ restv) ∧ jc_fr G.2.1 h h') := by
  obtain ⟨j1, hj⟩ := Bool.and_eq_true_iff.mp hj
  obtain ⟨j2, hj⟩ := Bool.and_eq_true_iff.mp hj
  refine ⟨Nat.le_of_ble_eq_true j1, fun d' hd' => ?_⟩
  split at hj
  · cases hj
  · rename_i A1 h1
    obtain ⟨r1, e1, n1, g1⟩ := jc_mtk_ok hE hg h1
    split at hj
    · cases hj
    · rename_i ps hps
      split at hj
      · cases hj
      · rename_i th hth
        obtain ⟨⟨t', ht'⟩, hp⟩ := jc_arr_ok hE g1 hth
        have hA' := jc_zip_ok hps (jc_st.up e1 n1 hA) hp
        refine (hc d' hd' _ t' h asv ht' hA').mono ?_
        rintro rv h' ⟨f1, o, o1, r2, t2, g2, an⟩
        obtain ⟨a1, ho⟩ := Bool.and_eq_true_iff.mp (jc_all_ok hj o o1)
        obtain ⟨a2, a3⟩ := Bool.and_eq_true_iff.mp ho
        have hb := jc_back_ok hE g1 g2 (jc_nil_ok a1) (jc_nil_ok a2) f1
        have eb := jc_rb_ext r1 r2 A1.1
        have nb : A1.1 ≤ (jc_back G.1 A1 c.2.2.2.2.1 o.1).1 := Nat.le_add_right _ _
        refine ⟨_, _, _, _, a3, e1.tr eb n1, Nat.le_trans n1 nb, hb, ?_, f1.sb j2⟩
        have hR' := jc_st.up (e1.tr eb n1) (Nat.le_trans n1 nb) hR
        cases ho2 : o.2 with
        | none =>
          rw [ho2] at an
          cases rv with
          | none => exact hR'
          | some v => exact an.elim
        | some s =>
          rw [ho2] at an
          cases rv with
          | none => exact an.elim
          | some v => exact ⟨jc_rn_ok g1.1.2.1 g1.1.1 g2.1.1 an, hR'⟩
theorem jc_run_ok (hE : jc_Ok G.1) (hX : jc_Xo G.1 X) (hT : ∀ mj N' C', ja_n2 G.2.2.2.1 mj = some (N', C') → ∃ M', j_meth P mj = some M' ∧ N' = ja_ab M' ∧ ja_Co P mj C') (hCs : ∀ c ∈ G.2.2.2.2.1, jc_Con P G.1 X c) :
    ∀ (f d : Nat) (nd : Bool) (mi : Nat) (M : j_M) (C : ja_C) (pc : Nat) (L : jc_L) (S : jc_S) (A : jc_A) (K : jc_K) (lv : J_L) (st : List Value) (h : J_H) (r : jc_R) (t : jc_T) (Q : Option Value → J_H → Prop) (h0 : J_H) (v0 : Int),
      j_meth P mi = some M → ja_Co P mi C → jc_run G f d nd mi (ja_ab M) C pc L S A K = true → jc_g G.1 X r t A h → jc_lv r A.1 L lv → jc_st r A.1 S st → jc_fr G.2.1 h0 h → (nd = true → jc_Nok X P G d mi v0 h0 Q) → (nd = true → ∀ g, G.2.2.2.2.2.2.2.2 = some g → g < A.1 ∧ r g = v0) → jc_Kok X G r A.1 h0 K Q → j_W P d mi pc lv st h Q := by
  intro f
  induction f with
  | zero => intro d nd mi M C pc L S A K lv st h r t Q h0 v0 _ _ hj; cases hj
  | succ f ih =>
    intro d nd mi M C pc L S A0 K lv st h r00 t Q h0 v0 hM hC hj hg0 hL0 hS0 hf hN hv hK
    have hj : jc_go G (jc_run G f) d nd mi (ja_ab M) C pc L S A0 K = true := hj
    unfold jc_go at hj
    split at hj
    · cases hj
    · rename_i ins fl cl ct hn
      have he := hC _ _ hn
      have hc := ja_e_code he
      have h9 := jc_sps_ok hE hg0 hL0 hS0 hj
      clear hj
      obtain ⟨A, r, hj, eA, nA, hg⟩ := h9
      have hL := hL0.up eA nA
      have hS := jc_st.up eA nA hS0
      have hv : nd = true → ∀ g, G.2.2.2.2.2.2.2.2 = some g → g < A.1 ∧ r g = v0 := fun z g hg => by
        obtain ⟨v1, v2⟩ := hv z g hg
        exact ⟨Nat.lt_of_lt_of_le v1 nA, by rw [eA g v1]; exact v2⟩
      have hK := hK.up eA nA
      clear hg0 hL0 hS0 eA
      dsimp only at hj
      have go : ∀ (pc : Nat) (L : jc_L) (S : jc_S) (A' : jc_A) (lv : J_L) (st : List Value) (h : J_H) (r' : jc_R) (t' : jc_T), jc_tt G (fun p L S A => jc_run G f d nd mi (ja_ab M) C p L S A K) nd pc L S A' = true → jc_ext A.1 r r' → A.1 ≤ A'.1 → jc_g G.1 X r' t' A' h → jc_lv r' A'.1 L lv → jc_st r' A'.1 S st → jc_fr G.2.1 h0 h → j_W P d mi pc lv st h Q := by
        intro pc L S A' lv st h r' t' hj e1 n1 hg hL hS hf
        have hv' : nd = true → ∀ g, G.2.2.2.2.2.2.2.2 = some g → g < A'.1 ∧ r' g = v0 := fun z g hg => by
          obtain ⟨v1, v2⟩ := hv z g hg
          exact ⟨Nat.lt_of_lt_of_le v1 n1, by rw [e1 g v1]; exact v2⟩
        have go1 : jc_run G f d nd mi (ja_ab M) C pc L S A' K = true → j_W P d mi pc lv st h Q := fun hj => ih d nd mi M C pc L S A' K lv st h r' t' Q h0 v0 hM hC hj hg hL hS hf hN hv' (hK.up e1 n1)
        unfold jc_tt at hj
        cases nd with
        | false => exact go1 hj
        | true =>
          rw [cond_true] at hj
          split at hj
          · rename_i ns hns
            obtain ⟨b1, b2⟩ := Bool.and_eq_true_iff.mp hj
            obtain ⟨n, n1, n2⟩ := jc_any_ok b2
            have e := jc_nil_ok b1
            subst e
            cases st with
            | cons v q => exact hS.elim
            | nil => exact jc_nd1_ok hE (hN rfl) hns n1 n2 hg hL hf (hv' rfl)
          · exact go1 hj
      cases k9 : Nat.beq (j_kd ins) 9 with
      | true =>
        rw [k9, cond_true] at hj
        split at hj
        · rename_i o ho
          obtain ⟨rv, r1, r2⟩ := jc_ret_ok hg hS ho
          exact j_W.ret hM hc (Nat.eq_of_beq_eq_true k9) r1 (hK r t A o h rv hj jc_ext.rf (Nat.le_refl _) hg r2 hf)
        · cases hj
      | false =>
        rw [k9, cond_false] at hj
        cases k10 : Nat.beq (j_kd ins) 10 with
        | true =>
          rw [k10, cond_true] at hj
          have hk := Nat.eq_of_beq_eq_true k10
          split at hj
          · cases hj
          · rename_i md mj
            have hi := ja_e_inv he
            cases m0 : Nat.beq md 0 with
            | true => rw [m0, cond_true] at hj; cases hj
            | false =>
              rw [m0, cond_false] at hj
              cases m1 : Nat.beq md 1 with
              | true =>
                rw [m1, cond_true] at hj
                have e1 := Nat.eq_of_beq_eq_true m1
                subst e1
                split at hj
                · rename_i S' A' ha
                  obtain ⟨stJ, h', r', a1, a2, a3, a4, a5, a6⟩ := jc_acp_ok hE hX hg hS ha
                  exact j_W.acp hM hc hk hi a1 (go _ _ _ _ _ _ _ r' t hj a2 a3 a4 (hL.up a2 a3) a6 (hf.tr a5))
                · cases hj
              | false =>
                rw [m1, cond_false] at hj
                cases m7 : Nat.beq md 7 with
                | true =>
                  rw [m7, cond_true] at hj
                  have e1 := Nat.eq_of_beq_eq_true m7
                  subst e1
                  split at hj
                  · rename_i S' A' ha
                    obtain ⟨stJ, r', a1, a2, a3, a4, a5⟩ := jc_mm_ok hg hS ha
                    exact j_W.max hM hc hk hi a1 (go _ _ _ _ _ _ _ r' t hj a2 a3 a4 (hL.up a2 a3) a5 hf)
                  · cases hj
                | false =>
                  rw [m7, cond_false] at hj
                  cases m8 : Nat.beq md 8 with
                  | true =>
                    rw [m8, cond_true] at hj
                    have e1 := Nat.eq_of_beq_eq_true m8
                    subst e1
                    split at hj
                    · rename_i S' A' ha
                      obtain ⟨stJ, r', a1, a2, a3, a4, a5⟩ := jc_mm_ok hg hS ha
                      exact j_W.min hM hc hk hi a1 (go _ _ _ _ _ _ _ r' t hj a2 a3 a4 (hL.up a2 a3) a5 hf)
                    · cases hj
                  | false =>
                    rw [m8, cond_false] at hj
                    have hmd : md ≠ 0 ∧ md ≠ 1 ∧ md ≠ 7 ∧ md ≠ 8 := ⟨ja_ne m0, ja_ne m1, ja_ne m7, ja_ne m8⟩
                    split at hj
                    · cases hj
                    · rename_i Nm Cm hNm
                      obtain ⟨M', hM', rfl, hC'⟩ := hT _ _ _ hNm
                      obtain ⟨j1, hj⟩ := Bool.and_eq_true_iff.mp hj
                      obtain ⟨s1, s2, s3⟩ := jc_spk_ok hg hS j1
                      split at hj
                      · rename_i c0 cs hcs
                        obtain ⟨c, c1, c2⟩ := jc_any_ok hj
                        rw [← hcs] at c1
                        obtain ⟨c1, q1⟩ := jc_flt_sub c1
                        have q1 := Nat.eq_of_beq_eq_true q1
                        have q2 := hCs c c1
                        obtain ⟨w1, w2⟩ := jc_cal_ok hE q2 c2 hg s2 s3
                        obtain ⟨d', rfl⟩ : ∃ d', d = d' + 1 := ⟨d - 1, by omega⟩
                        have hw := w2 d' (by omega)
                        rw [q1] at hw
                        refine j_W.call hM hc hk hi hmd hM' s1 hw ?_
                        rintro rv h' ⟨S', A', r', t', u1, u2, u3, u4, u5, u6⟩
                        exact go _ _ _ _ _ _ _ r' t' u1 u2 u3 u4 (hL.up u2 u3) u5 (hf.tr u6)
                      · cases d with
                        | zero => cases hj
                        | succ d' =>
                          have hw := ih d' false mj M' Cm 0 _ [] A _ (lv_args 0 (st.take (j_nar md (j_np M'))).reverse) [] h r t (fun rv h' => ∃ r' t' A' o, jc_tt G (fun p L S A => jc_run G f (d' + 1) nd mi (ja_ab M) C p L S A K) nd (pc + 3) L ((match o with
                            | some s => [s]
                            | none => []) ++ S.drop (j_nar md (j_np M'))) A' = true ∧ jc_ext A.1 r r' ∧ A.1 ≤ A'.1 ∧ jc_g G.1 X r' t' A' h' ∧ jc_an r' A'.1 o rv ∧ jc_fr G.2.1 h0 h') h0 0 hM' hC' hj hg (jc_ags_ok s2) trivial hf (fun z => by cases z) (fun z => by cases z) (fun r' t' A' o h' rv k1 k2 k3 k4 k5 k6 => ⟨r', t', A', o, k1, k2, k3, k4, k5, k6⟩)
                          refine j_W.call hM hc hk hi hmd hM' s1 hw ?_
                          rintro rv h' ⟨r', t', A', o, k1, k2, k3, k4, k5, k6⟩
                          refine go _ _ _ _ _ _ _ r' t' k1 k2 k3 k4 (hL.up k2 k3) ?_ k6
                          have s3' := jc_st.up k2 k3 s3
                          cases o with
                          | none =>
                            cases rv with
                            | none => exact s3'
                            | some v => exact k5.elim
                          | some s =>
                            cases rv with
                            | none => exact k5.elim
                            | some v => exact ⟨k5, s3'⟩
        | false =>
          rw [k10, cond_false] at hj
          have hkk : j_kd ins ≠ 9 ∧ j_kd ins ≠ 10 := ⟨ja_ne k9, ja_ne k10⟩
          have he0 := he
          unfold ja_e at he0
          obtain ⟨he0, he4⟩ := Bool.and_eq_true_iff.mp he0
          obtain ⟨he0, -⟩ := Bool.and_eq_true_iff.mp he0
          obtain ⟨-, he2⟩ := Bool.and_eq_true_iff.mp he0
          cases k4 : Nat.beq (j_kd ins) 4 with
          | true =>
            rw [k4, cond_true] at hj
            have hk := Nat.eq_of_beq_eq_true k4
            obtain ⟨p, stJ, S', A', b1, b2, b3, b4, b5⟩ := jc_br_ok hg hS hj
            refine j_W.one hM hc hkk (pcJ := p) (lv' := lv) (stJ := stJ) (h' := h) ?_ (go _ _ _ _ _ _ _ r t b2 (by rw [← b3]; exact jc_ext.rf) (Nat.le_of_eq b3.symm) b4 (by rw [b3]; exact hL) (by rw [b3]; exact b5) hf)
            unfold j_one
            rw [hk]
            simp only [b1, Option.map_some]
          | false =>
            rw [k4, cond_false] at hj
            cases k5 : Nat.beq (j_kd ins) 5 with
            | true =>
              rw [k5, cond_true] at hj
              have hk := Nat.eq_of_beq_eq_true k5
              obtain ⟨stJ, S', A', r', b1, b2, b3, b4, b5, b6⟩ := jc_ald_ok hE hg hS hj
              refine j_W.one hM hc hkk (pcJ := pc + j_ln ins) (lv' := lv) (stJ := stJ) (h' := h) ?_ (go _ _ _ _ _ _ _ r' t b2 b3 b4 b5 (hL.up b3 b4) b6 hf)
              unfold j_one
              rw [hk]
              simp only [b1, Option.map_some]
            | false =>
              rw [k5, cond_false] at hj
              cases k6 : Nat.beq (j_kd ins) 6 with
              | true =>
                rw [k6, cond_true] at hj
                have hk := Nat.eq_of_beq_eq_true k6
                split at hj
                · rename_i S' A' ha
                  obtain ⟨stJ, h', r', b1, b2, b3, b4, b5, b6⟩ := jc_ast_ok hE hX hg hS ha
                  refine j_W.one hM hc hkk (pcJ := pc + j_ln ins) (lv' := lv) (stJ := stJ) (h' := h') ?_ (go _ _ _ _ _ _ _ r' t hj b2 b3 b4 (hL.up b2 b3) b6 (hf.tr b5))
                  unfold j_one
                  rw [hk]
                  simp only [b1, Option.map_some]
                · cases hj
              | false =>
                rw [k6, cond_false] at hj
                cases k7 : Nat.beq (j_kd ins) 7 with
                | true =>
                  rw [k7, cond_true] at hj
                  have hk := Nat.eq_of_beq_eq_true k7
                  split at hj
                  · obtain ⟨stJ, S', A', r', b1, b2, b3, b4, b5, b6⟩ := jc_getf_ok hE hg hS hj
                    refine j_W.one hM hc hkk (pcJ := pc + j_ln (.getfield _)) (lv' := lv) (stJ := stJ) (h' := h) ?_ (go _ _ _ _ _ _ _ r' t b2 b3 b4 b5 (hL.up b3 b4) b6 hf)
                    cases fl with
                    | none => cases b1
                    | some fl =>
                      have hf' : j_fld P mi _ = some fl := of_decide_eq_true he2
                      unfold j_one
                      rw [hk]
                      simp only [j_obj, hf', b1, Option.map_some]
                  · split at hj
                    · rename_i S' A' ha
                      obtain ⟨stJ, h', r', b1, b2, b3, b4, b5, b6⟩ := jc_putf_ok (isI := j_in M) hE hX hg hS ha
                      refine j_W.one hM hc hkk (pcJ := pc + j_ln (.putfield _)) (lv' := lv) (stJ := stJ) (h' := h') ?_ (go _ _ _ _ _ _ _ r' t hj b2 b3 b4 (hL.up b2 b3) b6 (hf.tr b5))
                      cases fl with
                      | none => cases b1
                      | some fl =>
                        have hf' : j_fld P mi _ = some fl := of_decide_eq_true he2
                        unfold j_one
                        rw [hk]
                        simp only [j_obj, hf', b1, Option.map_some]
                    · cases hj
                  · cases hj
                | false =>
                  rw [k7, cond_false] at hj
                  split at hj
                  · rename_i pcJ L' S' A' ho
                    obtain ⟨lv', stJ, r', b1, b2, b3, b4, b5, b6⟩ := jc_one_ok (isI := j_in M) he hg hL hS ho
                    exact j_W.one hM hc hkk b1 (go _ _ _ _ _ _ _ r' t hj b2 b3 b4 b5 b6 hf)
                  · cases hj
end JCF

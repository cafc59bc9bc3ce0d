/-! the class's forecasts over the heap: the trial: written by wip/px/gen_h6.py -/
theorem ht_cp {L n S d : Nat} {w : List Int32} {h : J_H} (R : hS9 4 L 1 n S w h) (Q : hT9 282 0 h) : j_V jP d 61 0 (lv_args 0 [.ref 282, .ref 4]) [] h (fun rv h' => rv = none ∧ hS9 282 L 0 n S w h' ∧ ∀ x, (x < 282 ∨ 307 ≤ x) → h'[x]? = h[x]?) := by
  refine hS9.opn R (fun mis shus buss lkss rls pevs rks stas phs sps ces dus hes ris uss cms lfs lkds rows seas pmss pmms pmts psts pwas prss prrs pfas CS hl V => ?_)
  refine hT9.opn Q (fun ly mi shu bus lks rl pev rk sta ph sp ce du he ri us cm lf lkd row sea pms pmm pmt pst pwa prs prr pfa CT l1 _ => ?_)
  have e_rk : aC 5 rks rk = rks := aC_eq (k := 5) (by decide) hl.1 l1.1
  have e_sta : aC 5 stas sta = stas := aC_eq (k := 5) (by decide) hl.2.1 l1.2.1
  have e_ph : aC 5 phs ph = phs := aC_eq (k := 5) (by decide) V.2.1.1.1.1 l1.2.2.1
  have e_sp : aC 5 sps sp = sps := aC_eq (k := 5) (by decide) V.2.1.1.1.2.1 l1.2.2.2.1
  have e_ce : aC 5 ces ce = ces := aC_eq (k := 5) (by decide) V.2.1.1.1.2.2 l1.2.2.2.2.1
  have e_du : aC 5 dus du = dus := aC_eq (k := 5) (by decide) V.2.1.2.2.2.1.1 l1.2.2.2.2.2.1
  have e_he : aC 5 hes he = hes := aC_eq (k := 5) (by decide) hl.2.2.1 l1.2.2.2.2.2.2.1
  have e_ri : aC 6 ris ri = ris := aC_eq (k := 6) (by decide) V.2.1.2.2.1.1 l1.2.2.2.2.2.2.2.1
  have e_us : aC 6 uss us = uss := aC_eq (k := 6) (by decide) V.2.2.2.2.1.1 l1.2.2.2.2.2.2.2.2.1
  have e_cm : aC (nI cm.length) cms cm = cms := by rw [l1.2.2.2.2.2.2.2.2.2.1]; exact aC_eq (k := 35) (by decide) V.2.1.2.2.2.2.1.1.1 l1.2.2.2.2.2.2.2.2.2.1
  have e_lf : aC (nI lf.length) lfs lf = lfs := by rw [l1.2.2.2.2.2.2.2.2.2.2.1]; exact aC_eq (k := 35) (by decide) V.2.1.2.2.2.2.1.1.2 l1.2.2.2.2.2.2.2.2.2.2.1
  have e_lkd : aC (nI lkd.length) lkds lkd = lkds := by rw [l1.2.2.2.2.2.2.2.2.2.2.2.1]; exact aC_eq (k := 12) (by decide) hl.2.2.2 l1.2.2.2.2.2.2.2.2.2.2.2.1
  have K0 : kA h [(4, .inl (7, [.ref L, .int mis, .int shus, .int buss, .ref 5, .ref 6, .ref 7, .ref 8, .ref 9, .ref 10, .ref 11, .ref 12, .ref 13, .ref 14, .ref 15, .int lkss, .ref 16, .ref 17, .ref 20])), (5, .inr (.inl (0, rks))), (6, .inr (.inl (0, stas))), (7, .inr (.inl (0, phs))), (8, .inr (.inl (0, sps))), (9, .inr (.inl (0, ces))), (10, .inr (.inl (0, dus))), (11, .inr (.inl (0, hes))), (12, .inr (.inl (0, ris))), (13, .inr (.inl (0, uss))), (14, .inr (.inl (0, cms))), (15, .inr (.inl (0, lfs))), (16, .inr (.inl (0, lkds))), (20, .inl (3, [.ref 21, .ref 22, .ref 23, .ref 24, .ref 25, .ref 26, .ref 27, .ref 28, .int pevs, .int 1])), (21, .inr (.inl (0, pmss))), (22, .inr (.inl (0, pmms))), (23, .inr (.inl (0, pmts))), (24, .inr (.inl (0, psts))), (25, .inr (.inl (0, pwas))), (26, .inr (.inl (0, prss))), (27, .inr (.inl (0, prrs))), (28, .inr (.inl (0, pfas))), (282, .inl (7, [ly, .int mi, .int shu, .int bus, .ref 283, .ref 284, .ref 285, .ref 286, .ref 287, .ref 288, .ref 289, .ref 290, .ref 291, .ref 292, .ref 293, .int lks, .ref 294, .ref 295, .ref 298])), (283, .inr (.inl (0, rk))), (284, .inr (.inl (0, sta))), (285, .inr (.inl (0, ph))), (286, .inr (.inl (0, sp))), (287, .inr (.inl (0, ce))), (288, .inr (.inl (0, du))), (289, .inr (.inl (0, he))), (290, .inr (.inl (0, ri))), (291, .inr (.inl (0, us))), (292, .inr (.inl (0, cm))), (293, .inr (.inl (0, lf))), (294, .inr (.inl (0, lkd))), (298, .inl (3, [.ref 299, .ref 300, .ref 301, .ref 302, .ref 303, .ref 304, .ref 305, .ref 306, .int pev, .int 0])), (299, .inr (.inl (0, pms))), (300, .inr (.inl (0, pmm))), (301, .inr (.inl (0, pmt))), (302, .inr (.inl (0, pst))), (303, .inr (.inl (0, pwa))), (304, .inr (.inl (0, prs))), (305, .inr (.inl (0, prr))), (306, .inr (.inl (0, pfa)))] := ⟨CS.1, CS.2.1, CS.2.2.1, CS.2.2.2.1, CS.2.2.2.2.1, CS.2.2.2.2.2.1, CS.2.2.2.2.2.2.1, CS.2.2.2.2.2.2.2.1, CS.2.2.2.2.2.2.2.2.1, CS.2.2.2.2.2.2.2.2.2.1, CS.2.2.2.2.2.2.2.2.2.2.1, CS.2.2.2.2.2.2.2.2.2.2.2.1, CS.2.2.2.2.2.2.2.2.2.2.2.2.1, CS.2.2.2.2.2.2.2.2.2.2.2.2.2.2.2.2.1, CS.2.2.2.2.2.2.2.2.2.2.2.2.2.2.2.2.2.1, CS.2.2.2.2.2.2.2.2.2.2.2.2.2.2.2.2.2.2.1, CS.2.2.2.2.2.2.2.2.2.2.2.2.2.2.2.2.2.2.2.1, CS.2.2.2.2.2.2.2.2.2.2.2.2.2.2.2.2.2.2.2.2.1, CS.2.2.2.2.2.2.2.2.2.2.2.2.2.2.2.2.2.2.2.2.2.1, CS.2.2.2.2.2.2.2.2.2.2.2.2.2.2.2.2.2.2.2.2.2.2.1, CS.2.2.2.2.2.2.2.2.2.2.2.2.2.2.2.2.2.2.2.2.2.2.2.1, CS.2.2.2.2.2.2.2.2.2.2.2.2.2.2.2.2.2.2.2.2.2.2.2.2, CT.1, CT.2.1, CT.2.2.1, CT.2.2.2.1, CT.2.2.2.2.1, CT.2.2.2.2.2.1, CT.2.2.2.2.2.2.1, CT.2.2.2.2.2.2.2.1, CT.2.2.2.2.2.2.2.2.1, CT.2.2.2.2.2.2.2.2.2.1, CT.2.2.2.2.2.2.2.2.2.2.1, CT.2.2.2.2.2.2.2.2.2.2.2.1, CT.2.2.2.2.2.2.2.2.2.2.2.2.1, CT.2.2.2.2.2.2.2.2.2.2.2.2.2.2.2.2.1, CT.2.2.2.2.2.2.2.2.2.2.2.2.2.2.2.2.2.1, CT.2.2.2.2.2.2.2.2.2.2.2.2.2.2.2.2.2.2.1, CT.2.2.2.2.2.2.2.2.2.2.2.2.2.2.2.2.2.2.2.1, CT.2.2.2.2.2.2.2.2.2.2.2.2.2.2.2.2.2.2.2.2.1, CT.2.2.2.2.2.2.2.2.2.2.2.2.2.2.2.2.2.2.2.2.2.1, CT.2.2.2.2.2.2.2.2.2.2.2.2.2.2.2.2.2.2.2.2.2.2.1, CT.2.2.2.2.2.2.2.2.2.2.2.2.2.2.2.2.2.2.2.2.2.2.2.1, CT.2.2.2.2.2.2.2.2.2.2.2.2.2.2.2.2.2.2.2.2.2.2.2.2, trivial⟩
  refine j_V.mono (yts_ok K0.K) ?_
  rintro rv h' ⟨rfl, K⟩
  rw [e_rk, e_sta, e_ph, e_sp, e_ce, e_du, e_he, e_ri, e_us, e_cm, e_lf, e_lkd] at K
  exact ⟨rfl, ⟨mis, shus, buss, lkss, rl, pev, rks, stas, phs, sps, ces, dus, hes, ris, uss, cms, lfs, lkds, row, sea, pms, pmm, pmt, pst, pwa, prs, prr, pfa, ⟨K.at rfl, K.at rfl, K.at rfl, K.at rfl, K.at rfl, K.at rfl, K.at rfl, K.at rfl, K.at rfl, K.at rfl, K.at rfl, K.at rfl, K.at rfl, (K.2.1 295 rfl).trans CT.2.2.2.2.2.2.2.2.2.2.2.2.2.1, (K.2.1 296 rfl).trans CT.2.2.2.2.2.2.2.2.2.2.2.2.2.2.1, (K.2.1 297 rfl).trans CT.2.2.2.2.2.2.2.2.2.2.2.2.2.2.2.1, K.at rfl, K.at rfl, K.at rfl, K.at rfl, K.at rfl, K.at rfl, K.at rfl, K.at rfl, K.at rfl⟩, hl, V.trial l1.2.2.2.2.2.2.2.2.2.2.2.2.2 l1.2.2.2.2.2.2.2.2.2.2.2.2.1⟩, fun x h1 => KN.off K0 K (lke (lke (lke (lke (lke (lke (lke (lke (lke (lke (lke (lke (lke (lke (lke (lke (lke (lke (lke (lke (lke (lke (lkn (by omega) (lkn (by omega) (lkn (by omega) (lkn (by omega) (lkn (by omega) (lkn (by omega) (lkn (by omega) (lkn (by omega) (lkn (by omega) (lkn (by omega) (lkn (by omega) (lkn (by omega) (lkn (by omega) (lkn (by omega) (lkn (by omega) (lkn (by omega) (lkn (by omega) (lkn (by omega) (lkn (by omega) (lkn (by omega) (lkn (by omega) (lkn (by omega) rfl))))))))))))))))))))))))))))))))))))))))))))⟩
/-- what a forecast wants: now, the layout, the trial's shape -/
def hF (L n S : Nat) (w : List Int32) (h : J_H) : Prop := hS9 4 L 1 n S w h ∧ hY9 L n S w h ∧ hT9 282 0 h ∧ h[281]? = some (.inl (1, [.ref 282, .ref 307, .ref 323, .ref 324]))
theorem hF.fr {L n S : Nat} {w : List Int32} {h h' : J_H} (R : hF L n S w h) (F : ∀ x, (x < 282 ∨ 324 < x) → h'[x]? = h[x]?) (Q : hT9 282 0 h') (hL : 324 < L := by decide) : hF L n S w h' :=
  ⟨R.1.fr (fun x _ _ => F x (by omega)), R.2.1.fr (fun x _ _ => F x (by omega)), Q, (F 281 (by decide)).trans R.2.2.2⟩
def pE (n : Nat) (w : List Int32) : Int32 := m_price (m_toTheEnd n w 1)
theorem pE_adv (n : Nat) (w : List Int32) : m_price (m_adv n 1 true 300 w) = pE n w := by
  rw [m_adv_t]; rfl
set_option maxRecDepth 100000 in
theorem fp0_M : j_meth jP 7 = some (yX1_price, cX1_price, 2, (some .int), 1, false, 1) := rfl
set_option maxRecDepth 100000 in
theorem fp0_0 : j_code jP 7 0 = some (.aload_n 0) := rfl
set_option maxRecDepth 100000 in
theorem fp0_1 : j_code jP 7 1 = some (.getfield 14) := rfl
set_option maxRecDepth 100000 in
theorem fp0_4 : j_code jP 7 4 = some (.aload_n 1) := rfl
set_option maxRecDepth 100000 in
theorem fp0_5 : j_code jP 7 5 = some (.invokevirtual 34) := rfl
set_option maxRecDepth 100000 in
theorem fp0_8 : j_code jP 7 8 = some (.aload_n 0) := rfl
set_option maxRecDepth 100000 in
theorem fp0_9 : j_code jP 7 9 = some (.getfield 14) := rfl
set_option maxRecDepth 100000 in
theorem fp0_12 : j_code jP 7 12 = some (.sipush 300) := rfl
set_option maxRecDepth 100000 in
theorem fp0_15 : j_code jP 7 15 = some (.iconst 1) := rfl
set_option maxRecDepth 100000 in
theorem fp0_16 : j_code jP 7 16 = some (.iconst 1) := rfl
set_option maxRecDepth 100000 in
theorem fp0_17 : j_code jP 7 17 = some (.invokevirtual 38) := rfl
set_option maxRecDepth 100000 in
theorem fp0_20 : j_code jP 7 20 = some (.ireturn) := rfl
set_option maxRecDepth 100000 in
theorem fp1_M : j_meth jP 8 = some (yX1_priceHeld, cX1_priceHeld, 4, (some .int), 3, false, 1) := rfl
set_option maxRecDepth 100000 in
theorem fp1_0 : j_code jP 8 0 = some (.aload_n 0) := rfl
set_option maxRecDepth 100000 in
theorem fp1_1 : j_code jP 8 1 = some (.getfield 14) := rfl
set_option maxRecDepth 100000 in
theorem fp1_4 : j_code jP 8 4 = some (.aload_n 1) := rfl
set_option maxRecDepth 100000 in
theorem fp1_5 : j_code jP 8 5 = some (.invokevirtual 34) := rfl
set_option maxRecDepth 100000 in
theorem fp1_8 : j_code jP 8 8 = some (.aload_n 0) := rfl
set_option maxRecDepth 100000 in
theorem fp1_9 : j_code jP 8 9 = some (.getfield 14) := rfl
set_option maxRecDepth 100000 in
theorem fp1_12 : j_code jP 8 12 = some (.getfield 42) := rfl
set_option maxRecDepth 100000 in
theorem fp1_15 : j_code jP 8 15 = some (.iload_n 2) := rfl
set_option maxRecDepth 100000 in
theorem fp1_16 : j_code jP 8 16 = some (.aload_n 1) := rfl
set_option maxRecDepth 100000 in
theorem fp1_17 : j_code jP 8 17 = some (.getfield 45) := rfl
set_option maxRecDepth 100000 in
theorem fp1_20 : j_code jP 8 20 = some (.iload_n 3) := rfl
set_option maxRecDepth 100000 in
theorem fp1_21 : j_code jP 8 21 = some (.iadd) := rfl
set_option maxRecDepth 100000 in
theorem fp1_22 : j_code jP 8 22 = some (.iastore) := rfl
set_option maxRecDepth 100000 in
theorem fp1_23 : j_code jP 8 23 = some (.aload_n 0) := rfl
set_option maxRecDepth 100000 in
theorem fp1_24 : j_code jP 8 24 = some (.getfield 14) := rfl
set_option maxRecDepth 100000 in
theorem fp1_27 : j_code jP 8 27 = some (.sipush 300) := rfl
set_option maxRecDepth 100000 in
theorem fp1_30 : j_code jP 8 30 = some (.iconst 1) := rfl
set_option maxRecDepth 100000 in
theorem fp1_31 : j_code jP 8 31 = some (.iconst 1) := rfl
set_option maxRecDepth 100000 in
theorem fp1_32 : j_code jP 8 32 = some (.invokevirtual 38) := rfl
set_option maxRecDepth 100000 in
theorem fp1_35 : j_code jP 8 35 = some (.ireturn) := rfl
set_option maxRecDepth 100000 in
theorem fp2_M : j_meth jP 9 = some (yX1_priceStarting, cX1_priceStarting, 4, (some .int), 3, false, 1) := rfl
set_option maxRecDepth 100000 in
theorem fp2_0 : j_code jP 9 0 = some (.aload_n 0) := rfl
set_option maxRecDepth 100000 in
theorem fp2_1 : j_code jP 9 1 = some (.getfield 14) := rfl
set_option maxRecDepth 100000 in
theorem fp2_4 : j_code jP 9 4 = some (.aload_n 1) := rfl
set_option maxRecDepth 100000 in
theorem fp2_5 : j_code jP 9 5 = some (.invokevirtual 34) := rfl
set_option maxRecDepth 100000 in
theorem fp2_8 : j_code jP 9 8 = some (.aload_n 0) := rfl
set_option maxRecDepth 100000 in
theorem fp2_9 : j_code jP 9 9 = some (.getfield 14) := rfl
set_option maxRecDepth 100000 in
theorem fp2_12 : j_code jP 9 12 = some (.getfield 49) := rfl
set_option maxRecDepth 100000 in
theorem fp2_15 : j_code jP 9 15 = some (.iload_n 2) := rfl
set_option maxRecDepth 100000 in
theorem fp2_16 : j_code jP 9 16 = some (.iload_n 3) := rfl
set_option maxRecDepth 100000 in
theorem fp2_17 : j_code jP 9 17 = some (.iastore) := rfl
set_option maxRecDepth 100000 in
theorem fp2_18 : j_code jP 9 18 = some (.aload_n 0) := rfl
set_option maxRecDepth 100000 in
theorem fp2_19 : j_code jP 9 19 = some (.getfield 14) := rfl
set_option maxRecDepth 100000 in
theorem fp2_22 : j_code jP 9 22 = some (.sipush 300) := rfl
set_option maxRecDepth 100000 in
theorem fp2_25 : j_code jP 9 25 = some (.iconst 1) := rfl
set_option maxRecDepth 100000 in
theorem fp2_26 : j_code jP 9 26 = some (.iconst 1) := rfl
set_option maxRecDepth 100000 in
theorem fp2_27 : j_code jP 9 27 = some (.invokevirtual 38) := rfl
set_option maxRecDepth 100000 in
theorem fp2_30 : j_code jP 9 30 = some (.ireturn) := rfl
set_option maxRecDepth 100000 in
theorem fp3_M : j_meth jP 5 = some (yX1_afterMinutes, cX1_afterMinutes, 4, (some (.object "SidingLoops$State")), 3, false, 1) := rfl
set_option maxRecDepth 100000 in
theorem fp3_0 : j_code jP 5 0 = some (.aload_n 0) := rfl
set_option maxRecDepth 100000 in
theorem fp3_1 : j_code jP 5 1 = some (.getfield 14) := rfl
set_option maxRecDepth 100000 in
theorem fp3_4 : j_code jP 5 4 = some (.aload_n 1) := rfl
set_option maxRecDepth 100000 in
theorem fp3_5 : j_code jP 5 5 = some (.invokevirtual 34) := rfl
set_option maxRecDepth 100000 in
theorem fp3_8 : j_code jP 5 8 = some (.aload_n 0) := rfl
set_option maxRecDepth 100000 in
theorem fp3_9 : j_code jP 5 9 = some (.getfield 14) := rfl
set_option maxRecDepth 100000 in
theorem fp3_12 : j_code jP 5 12 = some (.iload_n 2) := rfl
set_option maxRecDepth 100000 in
theorem fp3_13 : j_code jP 5 13 = some (.iload_n 3) := rfl
set_option maxRecDepth 100000 in
theorem fp3_14 : j_code jP 5 14 = some (.iconst 0) := rfl
set_option maxRecDepth 100000 in
theorem fp3_15 : j_code jP 5 15 = some (.invokevirtual 38) := rfl
set_option maxRecDepth 100000 in
theorem fp3_18 : j_code jP 5 18 = some (.pop) := rfl
set_option maxRecDepth 100000 in
theorem fp3_19 : j_code jP 5 19 = some (.aload_n 0) := rfl
set_option maxRecDepth 100000 in
theorem fp3_20 : j_code jP 5 20 = some (.getfield 14) := rfl
set_option maxRecDepth 100000 in
theorem fp3_23 : j_code jP 5 23 = some (.areturn) := rfl
set_option maxRecDepth 100000 in
theorem fp4_M : j_meth jP 6 = some (yX1_atEnd, cX1_atEnd, 3, (some (.object "SidingLoops$State")), 2, false, 1) := rfl
set_option maxRecDepth 100000 in
theorem fp4_0 : j_code jP 6 0 = some (.aload_n 0) := rfl
set_option maxRecDepth 100000 in
theorem fp4_1 : j_code jP 6 1 = some (.getfield 14) := rfl
set_option maxRecDepth 100000 in
theorem fp4_4 : j_code jP 6 4 = some (.aload_n 1) := rfl
set_option maxRecDepth 100000 in
theorem fp4_5 : j_code jP 6 5 = some (.invokevirtual 34) := rfl
set_option maxRecDepth 100000 in
theorem fp4_8 : j_code jP 6 8 = some (.aload_n 0) := rfl
set_option maxRecDepth 100000 in
theorem fp4_9 : j_code jP 6 9 = some (.getfield 14) := rfl
set_option maxRecDepth 100000 in
theorem fp4_12 : j_code jP 6 12 = some (.sipush 300) := rfl
set_option maxRecDepth 100000 in
theorem fp4_15 : j_code jP 6 15 = some (.iload_n 2) := rfl
set_option maxRecDepth 100000 in
theorem fp4_16 : j_code jP 6 16 = some (.iconst 1) := rfl
set_option maxRecDepth 100000 in
theorem fp4_17 : j_code jP 6 17 = some (.invokevirtual 38) := rfl
set_option maxRecDepth 100000 in
theorem fp4_20 : j_code jP 6 20 = some (.pop) := rfl
set_option maxRecDepth 100000 in
theorem fp4_21 : j_code jP 6 21 = some (.aload_n 0) := rfl
set_option maxRecDepth 100000 in
theorem fp4_22 : j_code jP 6 22 = some (.getfield 14) := rfl
set_option maxRecDepth 100000 in
theorem fp4_25 : j_code jP 6 25 = some (.areturn) := rfl
set_option maxRecDepth 1000000 in
theorem hp_now_327 {g0 : J_H} {n S m d : Nat} {w : List Int32} (P : hF 327 n S w g0) (hm : gN w 201 = nI m) (hb : m + 300 < 2 ^ 30) : j_V jP d 7 0 (lv_args 0 [.ref 281, .ref 4]) [] g0 (fun rv h' => rv = some (.int (pE n w)) ∧ hT9 282 0 h' ∧ ∀ x, (x < 282 ∨ 307 ≤ x) → h'[x]? = g0[x]?) := by
  obtain ⟨R4, Y4, Q, C281⟩ := P
  have P : hF 327 n S w g0 := ⟨R4, Y4, Q, C281⟩
  refine hT9.opn Q (fun ly miz shuz busz lksz rlz pevz rkz staz phz spz cez duz hez riz usz cmz lfz lkdz rowz seaz pmsz pmmz pmtz pstz pwaz prsz prrz pfaz CT _ _ => ?_)
  have K9 : kA g0 [(281, .inl (1, [.ref 282, .ref 307, .ref 323, .ref 324])), (282, .inl (7, [ly, .int miz, .int shuz, .int busz, .ref 283, .ref 284, .ref 285, .ref 286, .ref 287, .ref 288, .ref 289, .ref 290, .ref 291, .ref 292, .ref 293, .int lksz, .ref 294, .ref 295, .ref 298]))] := ⟨C281, CT.1, trivial⟩
  have K : KN g0 [(281, .inl (1, [.ref 282, .ref 307, .ref 323, .ref 324])), (282, .inl (7, [ly, .int miz, .int shuz, .int busz, .ref 283, .ref 284, .ref 285, .ref 286, .ref 287, .ref 288, .ref 289, .ref 290, .ref 291, .ref 292, .ref 293, .int lksz, .ref 294, .ref 295, .ref 298]))] g0 := K9.K
  show j_V jP d 7 0 [(0, .ref 281), (1, .ref 4)] [] g0 _
  obtain ⟨lv, elv, L9⟩ : ∃ lv, lv = [(0, .ref 281), (1, .ref 4)] ∧ LK lv [(0, .ref 281), (1, .ref 4)] := ⟨_, rfl, LK.rf⟩
  rw [← elv]
  clear elv
  have L := L9
  refine j_V.ldL fp0_M fp0_0 rfl (i := 0) (kd := 2) (v := .ref 281) (pcJ := 1) rfl L rfl rfl rfl ?_
  refine j_V.getK fp0_M fp0_1 (ci := 1) (j := 0) rfl K rfl rfl ?_
  refine j_V.ldL fp0_M fp0_4 rfl (i := 1) (kd := 2) (v := .ref 4) (pcJ := 5) rfl L rfl rfl rfl ?_
  refine j_V.cl fp0_M fp0_5 rfl (md := 3) (mj := 61) rfl (by decide) yts_M (As := [.ref 282, .ref 4]) (rest := []) (jk_spl3 (K.at rfl) rfl rfl rfl (Nat.le_of_ble_eq_true rfl) (Nat.le_of_ble_eq_true rfl)) (fun d => ht_cp R4 Q) ?_
  rintro r h9 ⟨rfl, T9, F9⟩
  refine hS9.opn T9 (fun mi shu bus lks rl pev rk sta ph sp ce du he ri us cm lf lkd row sea pms pmm pmt pst pwa prs prr pfa CS hl4 V => ?_)
  have K9 : kA h9 [(281, .inl (1, [.ref 282, .ref 307, .ref 323, .ref 324])), (282, .inl (7, [.ref 327, .int mi, .int shu, .int bus, .ref 283, .ref 284, .ref 285, .ref 286, .ref 287, .ref 288, .ref 289, .ref 290, .ref 291, .ref 292, .ref 293, .int lks, .ref 294, .ref 295, .ref 298]))] := ⟨(F9 281 (by decide)).trans C281, CS.1, trivial⟩
  have K : KN h9 [(281, .inl (1, [.ref 282, .ref 307, .ref 323, .ref 324])), (282, .inl (7, [.ref 327, .int mi, .int shu, .int bus, .ref 283, .ref 284, .ref 285, .ref 286, .ref 287, .ref 288, .ref 289, .ref 290, .ref 291, .ref 292, .ref 293, .int lks, .ref 294, .ref 295, .ref 298]))] h9 := K9.K
  show j_V jP _ 7 8 lv [] h9 _
  refine j_V.ldL fp0_M fp0_8 rfl (i := 0) (kd := 2) (v := .ref 281) (pcJ := 9) rfl L rfl rfl rfl ?_
  refine j_V.getK fp0_M fp0_9 (ci := 1) (j := 0) rfl K rfl rfl ?_
  refine j_V.one fp0_M fp0_12 (by decide) (pcJ := 15) (stJ := [.int 300, .ref 282]) rfl ?_
  refine j_V.one fp0_M fp0_15 (by decide) (pcJ := 16) (stJ := [.int 1, .int 300, .ref 282]) rfl ?_
  refine j_V.one fp0_M fp0_16 (by decide) (pcJ := 17) (stJ := [.int 1, .int 1, .int 300, .ref 282]) rfl ?_
  have C281x : h9[281]? = some (.inl (1, [.ref 282, .ref 307, .ref 323, .ref 324])) := (F9 281 (by decide)).trans C281
  have T2 := T9
  have Y2 : hY9 327 n S w h9 := Y4.fr (fun x _ _ => F9 x (by omega))
  have hm2 := hm
  refine j_V.cl fp0_M fp0_17 rfl (md := 3) (mj := 92) rfl (by decide) xc45_M (As := [.ref 282, .int 300, .int 1, .int 1]) (rest := []) (jk_spl3 (K.at rfl) rfl rfl rfl (Nat.le_of_ble_eq_true rfl) (Nat.le_of_ble_eq_true rfl)) (fun d => hv_xc (k := 300) (e := true) T2 Y2 hm2 hb 1 _ rfl) ?_
  rintro r h8 ⟨rfl, T8, Y8, -, F8⟩
  refine hS9.opn T8 (fun miq shuq busq lksq rlq pevq rkq staq phq spq ceq duq heq riq usq cmq lfq lkdq rowq seaq pmsq pmmq pmtq pstq pwaq prsq prrq pfaq CS8 _ _ => ?_)
  have K9 : kA h8 [(281, .inl (1, [.ref 282, .ref 307, .ref 323, .ref 324])), (282, .inl (7, [.ref 327, .int miq, .int shuq, .int busq, .ref 283, .ref 284, .ref 285, .ref 286, .ref 287, .ref 288, .ref 289, .ref 290, .ref 291, .ref 292, .ref 293, .int lksq, .ref 294, .ref 295, .ref 298]))] := ⟨(F8 281 (by decide)).trans C281x, CS8.1, trivial⟩
  have K : KN h8 [(281, .inl (1, [.ref 282, .ref 307, .ref 323, .ref 324])), (282, .inl (7, [.ref 327, .int miq, .int shuq, .int busq, .ref 283, .ref 284, .ref 285, .ref 286, .ref 287, .ref 288, .ref 289, .ref 290, .ref 291, .ref 292, .ref 293, .int lksq, .ref 294, .ref 295, .ref 298]))] h8 := K9.K
  show j_V jP _ 7 20 lv [.int (m_price (m_adv n 1 true 300 w))] h8 _
  refine j_V.ri fp0_M fp0_20 ?_
  exact ⟨by rw [pE_adv], T8.sh, fun x g => (F8 x g).trans (F9 x g)⟩
set_option maxRecDepth 1000000 in
theorem hp_after_327 {g0 : J_H} {n S m d : Nat} {w : List Int32} (P : hF 327 n S w g0) (hm : gN w 201 = nI m) {k : Nat} {x3 : Int32} (hb : m + k < 2 ^ 30) : j_V jP d 5 0 (lv_args 0 [.ref 281, .ref 4, .int (nI k), .int x3]) [] g0 (fun rv h' => rv = some (.ref 282) ∧ hS9 282 327 0 n S (m_adv n x3 false k w) h' ∧ hY9 327 n S (m_adv n x3 false k w) h' ∧ ∀ x, (x < 282 ∨ 307 ≤ x) → h'[x]? = g0[x]?) := by
  obtain ⟨R4, Y4, Q, C281⟩ := P
  have P : hF 327 n S w g0 := ⟨R4, Y4, Q, C281⟩
  refine hT9.opn Q (fun ly miz shuz busz lksz rlz pevz rkz staz phz spz cez duz hez riz usz cmz lfz lkdz rowz seaz pmsz pmmz pmtz pstz pwaz prsz prrz pfaz CT _ _ => ?_)
  have K9 : kA g0 [(281, .inl (1, [.ref 282, .ref 307, .ref 323, .ref 324])), (282, .inl (7, [ly, .int miz, .int shuz, .int busz, .ref 283, .ref 284, .ref 285, .ref 286, .ref 287, .ref 288, .ref 289, .ref 290, .ref 291, .ref 292, .ref 293, .int lksz, .ref 294, .ref 295, .ref 298]))] := ⟨C281, CT.1, trivial⟩
  have K : KN g0 [(281, .inl (1, [.ref 282, .ref 307, .ref 323, .ref 324])), (282, .inl (7, [ly, .int miz, .int shuz, .int busz, .ref 283, .ref 284, .ref 285, .ref 286, .ref 287, .ref 288, .ref 289, .ref 290, .ref 291, .ref 292, .ref 293, .int lksz, .ref 294, .ref 295, .ref 298]))] g0 := K9.K
  show j_V jP d 5 0 [(0, .ref 281), (1, .ref 4), (2, .int (nI k)), (3, .int x3)] [] g0 _
  obtain ⟨lv, elv, L9⟩ : ∃ lv, lv = [(0, .ref 281), (1, .ref 4), (2, .int (nI k)), (3, .int x3)] ∧ LK lv [(0, .ref 281), (1, .ref 4), (2, .int (nI k)), (3, .int x3)] := ⟨_, rfl, LK.rf⟩
  rw [← elv]
  clear elv
  have L := L9
  refine j_V.ldL fp3_M fp3_0 rfl (i := 0) (kd := 2) (v := .ref 281) (pcJ := 1) rfl L rfl rfl rfl ?_
  refine j_V.getK fp3_M fp3_1 (ci := 1) (j := 0) rfl K rfl rfl ?_
  refine j_V.ldL fp3_M fp3_4 rfl (i := 1) (kd := 2) (v := .ref 4) (pcJ := 5) rfl L rfl rfl rfl ?_
  refine j_V.cl fp3_M fp3_5 rfl (md := 3) (mj := 61) rfl (by decide) yts_M (As := [.ref 282, .ref 4]) (rest := []) (jk_spl3 (K.at rfl) rfl rfl rfl (Nat.le_of_ble_eq_true rfl) (Nat.le_of_ble_eq_true rfl)) (fun d => ht_cp R4 Q) ?_
  rintro r h9 ⟨rfl, T9, F9⟩
  refine hS9.opn T9 (fun mi shu bus lks rl pev rk sta ph sp ce du he ri us cm lf lkd row sea pms pmm pmt pst pwa prs prr pfa CS hl4 V => ?_)
  have K9 : kA h9 [(281, .inl (1, [.ref 282, .ref 307, .ref 323, .ref 324])), (282, .inl (7, [.ref 327, .int mi, .int shu, .int bus, .ref 283, .ref 284, .ref 285, .ref 286, .ref 287, .ref 288, .ref 289, .ref 290, .ref 291, .ref 292, .ref 293, .int lks, .ref 294, .ref 295, .ref 298]))] := ⟨(F9 281 (by decide)).trans C281, CS.1, trivial⟩
  have K : KN h9 [(281, .inl (1, [.ref 282, .ref 307, .ref 323, .ref 324])), (282, .inl (7, [.ref 327, .int mi, .int shu, .int bus, .ref 283, .ref 284, .ref 285, .ref 286, .ref 287, .ref 288, .ref 289, .ref 290, .ref 291, .ref 292, .ref 293, .int lks, .ref 294, .ref 295, .ref 298]))] h9 := K9.K
  show j_V jP _ 5 8 lv [] h9 _
  refine j_V.ldL fp3_M fp3_8 rfl (i := 0) (kd := 2) (v := .ref 281) (pcJ := 9) rfl L rfl rfl rfl ?_
  refine j_V.getK fp3_M fp3_9 (ci := 1) (j := 0) rfl K rfl rfl ?_
  refine j_V.ldL fp3_M fp3_12 rfl (i := 2) (kd := 0) (v := .int (nI k)) (pcJ := 13) rfl L rfl rfl rfl ?_
  refine j_V.ldL fp3_M fp3_13 rfl (i := 3) (kd := 0) (v := .int x3) (pcJ := 14) rfl L rfl rfl rfl ?_
  refine j_V.one fp3_M fp3_14 (by decide) (pcJ := 15) (stJ := [.int 0, .int x3, .int (nI k), .ref 282]) rfl ?_
  have C281x : h9[281]? = some (.inl (1, [.ref 282, .ref 307, .ref 323, .ref 324])) := (F9 281 (by decide)).trans C281
  have T2 := T9
  have Y2 : hY9 327 n S w h9 := Y4.fr (fun x _ _ => F9 x (by omega))
  have hm2 := hm
  refine j_V.cl fp3_M fp3_15 rfl (md := 3) (mj := 92) rfl (by decide) xc45_M (As := [.ref 282, .int (nI k), .int x3, .int 0]) (rest := []) (jk_spl3 (K.at rfl) rfl rfl rfl (Nat.le_of_ble_eq_true rfl) (Nat.le_of_ble_eq_true rfl)) (fun d => hv_xc (k := k) (e := false) T2 Y2 hm2 hb x3 _ rfl) ?_
  rintro r h8 ⟨rfl, T8, Y8, -, F8⟩
  refine hS9.opn T8 (fun miq shuq busq lksq rlq pevq rkq staq phq spq ceq duq heq riq usq cmq lfq lkdq rowq seaq pmsq pmmq pmtq pstq pwaq prsq prrq pfaq CS8 _ _ => ?_)
  have K9 : kA h8 [(281, .inl (1, [.ref 282, .ref 307, .ref 323, .ref 324])), (282, .inl (7, [.ref 327, .int miq, .int shuq, .int busq, .ref 283, .ref 284, .ref 285, .ref 286, .ref 287, .ref 288, .ref 289, .ref 290, .ref 291, .ref 292, .ref 293, .int lksq, .ref 294, .ref 295, .ref 298]))] := ⟨(F8 281 (by decide)).trans C281x, CS8.1, trivial⟩
  have K : KN h8 [(281, .inl (1, [.ref 282, .ref 307, .ref 323, .ref 324])), (282, .inl (7, [.ref 327, .int miq, .int shuq, .int busq, .ref 283, .ref 284, .ref 285, .ref 286, .ref 287, .ref 288, .ref 289, .ref 290, .ref 291, .ref 292, .ref 293, .int lksq, .ref 294, .ref 295, .ref 298]))] h8 := K9.K
  show j_V jP _ 5 18 lv [.int (m_price (m_adv n x3 false k w))] h8 _
  refine j_V.one fp3_M fp3_18 (by decide) (pcJ := 19) (stJ := []) rfl ?_
  refine j_V.ldL fp3_M fp3_19 rfl (i := 0) (kd := 2) (v := .ref 281) (pcJ := 20) rfl L rfl rfl rfl ?_
  refine j_V.getK fp3_M fp3_20 (ci := 1) (j := 0) rfl K rfl rfl ?_
  refine j_V.ret fp3_M fp3_23 rfl rfl ?_
  exact ⟨rfl, T8, Y8, fun x g => (F8 x g).trans (F9 x g)⟩
set_option maxRecDepth 1000000 in
theorem hp_end_327 {g0 : J_H} {n S m d : Nat} {w : List Int32} (P : hF 327 n S w g0) (hm : gN w 201 = nI m) {x3 : Int32} (hb : m + 300 < 2 ^ 30) : j_V jP d 6 0 (lv_args 0 [.ref 281, .ref 4, .int x3]) [] g0 (fun rv h' => rv = some (.ref 282) ∧ hS9 282 327 0 n S (m_adv n x3 true 300 w) h' ∧ hY9 327 n S (m_adv n x3 true 300 w) h' ∧ ∀ x, (x < 282 ∨ 307 ≤ x) → h'[x]? = g0[x]?) := by
  obtain ⟨R4, Y4, Q, C281⟩ := P
  have P : hF 327 n S w g0 := ⟨R4, Y4, Q, C281⟩
  refine hT9.opn Q (fun ly miz shuz busz lksz rlz pevz rkz staz phz spz cez duz hez riz usz cmz lfz lkdz rowz seaz pmsz pmmz pmtz pstz pwaz prsz prrz pfaz CT _ _ => ?_)
  have K9 : kA g0 [(281, .inl (1, [.ref 282, .ref 307, .ref 323, .ref 324])), (282, .inl (7, [ly, .int miz, .int shuz, .int busz, .ref 283, .ref 284, .ref 285, .ref 286, .ref 287, .ref 288, .ref 289, .ref 290, .ref 291, .ref 292, .ref 293, .int lksz, .ref 294, .ref 295, .ref 298]))] := ⟨C281, CT.1, trivial⟩
  have K : KN g0 [(281, .inl (1, [.ref 282, .ref 307, .ref 323, .ref 324])), (282, .inl (7, [ly, .int miz, .int shuz, .int busz, .ref 283, .ref 284, .ref 285, .ref 286, .ref 287, .ref 288, .ref 289, .ref 290, .ref 291, .ref 292, .ref 293, .int lksz, .ref 294, .ref 295, .ref 298]))] g0 := K9.K
  show j_V jP d 6 0 [(0, .ref 281), (1, .ref 4), (2, .int x3)] [] g0 _
  obtain ⟨lv, elv, L9⟩ : ∃ lv, lv = [(0, .ref 281), (1, .ref 4), (2, .int x3)] ∧ LK lv [(0, .ref 281), (1, .ref 4), (2, .int x3)] := ⟨_, rfl, LK.rf⟩
  rw [← elv]
  clear elv
  have L := L9
  refine j_V.ldL fp4_M fp4_0 rfl (i := 0) (kd := 2) (v := .ref 281) (pcJ := 1) rfl L rfl rfl rfl ?_
  refine j_V.getK fp4_M fp4_1 (ci := 1) (j := 0) rfl K rfl rfl ?_
  refine j_V.ldL fp4_M fp4_4 rfl (i := 1) (kd := 2) (v := .ref 4) (pcJ := 5) rfl L rfl rfl rfl ?_
  refine j_V.cl fp4_M fp4_5 rfl (md := 3) (mj := 61) rfl (by decide) yts_M (As := [.ref 282, .ref 4]) (rest := []) (jk_spl3 (K.at rfl) rfl rfl rfl (Nat.le_of_ble_eq_true rfl) (Nat.le_of_ble_eq_true rfl)) (fun d => ht_cp R4 Q) ?_
  rintro r h9 ⟨rfl, T9, F9⟩
  refine hS9.opn T9 (fun mi shu bus lks rl pev rk sta ph sp ce du he ri us cm lf lkd row sea pms pmm pmt pst pwa prs prr pfa CS hl4 V => ?_)
  have K9 : kA h9 [(281, .inl (1, [.ref 282, .ref 307, .ref 323, .ref 324])), (282, .inl (7, [.ref 327, .int mi, .int shu, .int bus, .ref 283, .ref 284, .ref 285, .ref 286, .ref 287, .ref 288, .ref 289, .ref 290, .ref 291, .ref 292, .ref 293, .int lks, .ref 294, .ref 295, .ref 298]))] := ⟨(F9 281 (by decide)).trans C281, CS.1, trivial⟩
  have K : KN h9 [(281, .inl (1, [.ref 282, .ref 307, .ref 323, .ref 324])), (282, .inl (7, [.ref 327, .int mi, .int shu, .int bus, .ref 283, .ref 284, .ref 285, .ref 286, .ref 287, .ref 288, .ref 289, .ref 290, .ref 291, .ref 292, .ref 293, .int lks, .ref 294, .ref 295, .ref 298]))] h9 := K9.K
  show j_V jP _ 6 8 lv [] h9 _
  refine j_V.ldL fp4_M fp4_8 rfl (i := 0) (kd := 2) (v := .ref 281) (pcJ := 9) rfl L rfl rfl rfl ?_
  refine j_V.getK fp4_M fp4_9 (ci := 1) (j := 0) rfl K rfl rfl ?_
  refine j_V.one fp4_M fp4_12 (by decide) (pcJ := 15) (stJ := [.int 300, .ref 282]) rfl ?_
  refine j_V.ldL fp4_M fp4_15 rfl (i := 2) (kd := 0) (v := .int x3) (pcJ := 16) rfl L rfl rfl rfl ?_
  refine j_V.one fp4_M fp4_16 (by decide) (pcJ := 17) (stJ := [.int 1, .int x3, .int 300, .ref 282]) rfl ?_
  have C281x : h9[281]? = some (.inl (1, [.ref 282, .ref 307, .ref 323, .ref 324])) := (F9 281 (by decide)).trans C281
  have T2 := T9
  have Y2 : hY9 327 n S w h9 := Y4.fr (fun x _ _ => F9 x (by omega))
  have hm2 := hm
  refine j_V.cl fp4_M fp4_17 rfl (md := 3) (mj := 92) rfl (by decide) xc45_M (As := [.ref 282, .int 300, .int x3, .int 1]) (rest := []) (jk_spl3 (K.at rfl) rfl rfl rfl (Nat.le_of_ble_eq_true rfl) (Nat.le_of_ble_eq_true rfl)) (fun d => hv_xc (k := 300) (e := true) T2 Y2 hm2 hb x3 _ rfl) ?_
  rintro r h8 ⟨rfl, T8, Y8, -, F8⟩
  refine hS9.opn T8 (fun miq shuq busq lksq rlq pevq rkq staq phq spq ceq duq heq riq usq cmq lfq lkdq rowq seaq pmsq pmmq pmtq pstq pwaq prsq prrq pfaq CS8 _ _ => ?_)
  have K9 : kA h8 [(281, .inl (1, [.ref 282, .ref 307, .ref 323, .ref 324])), (282, .inl (7, [.ref 327, .int miq, .int shuq, .int busq, .ref 283, .ref 284, .ref 285, .ref 286, .ref 287, .ref 288, .ref 289, .ref 290, .ref 291, .ref 292, .ref 293, .int lksq, .ref 294, .ref 295, .ref 298]))] := ⟨(F8 281 (by decide)).trans C281x, CS8.1, trivial⟩
  have K : KN h8 [(281, .inl (1, [.ref 282, .ref 307, .ref 323, .ref 324])), (282, .inl (7, [.ref 327, .int miq, .int shuq, .int busq, .ref 283, .ref 284, .ref 285, .ref 286, .ref 287, .ref 288, .ref 289, .ref 290, .ref 291, .ref 292, .ref 293, .int lksq, .ref 294, .ref 295, .ref 298]))] h8 := K9.K
  show j_V jP _ 6 20 lv [.int (m_price (m_adv n x3 true 300 w))] h8 _
  refine j_V.one fp4_M fp4_20 (by decide) (pcJ := 21) (stJ := []) rfl ?_
  refine j_V.ldL fp4_M fp4_21 rfl (i := 0) (kd := 2) (v := .ref 281) (pcJ := 22) rfl L rfl rfl rfl ?_
  refine j_V.getK fp4_M fp4_22 (ci := 1) (j := 0) rfl K rfl rfl ?_
  refine j_V.ret fp4_M fp4_25 rfl rfl ?_
  exact ⟨rfl, T8, Y8, fun x g => (F8 x g).trans (F9 x g)⟩
set_option maxRecDepth 1000000 in
theorem hp_held_327 {g0 : J_H} {n S m d : Nat} {w : List Int32} (P : hF 327 n S w g0) (hm : gN w 201 = nI m) {t : Nat} {x3 : Int32} (ht : t < n) (hb : m + 300 < 2 ^ 30) : j_V jP d 8 0 (lv_args 0 [.ref 281, .ref 4, .int (nI t), .int x3]) [] g0 (fun rv h' => rv = some (.int (pE n (w.set (56 + 28 * t + 10) (gN w 201 + x3)))) ∧ hT9 282 0 h' ∧ ∀ x, (x < 282 ∨ 307 ≤ x) → h'[x]? = g0[x]?) := by
  obtain ⟨R4, Y4, Q, C281⟩ := P
  have P : hF 327 n S w g0 := ⟨R4, Y4, Q, C281⟩
  refine hT9.opn Q (fun ly miz shuz busz lksz rlz pevz rkz staz phz spz cez duz hez riz usz cmz lfz lkdz rowz seaz pmsz pmmz pmtz pstz pwaz prsz prrz pfaz CT _ _ => ?_)
  refine hS9.opn R4 (fun miN shuN busN lksN rlN pevN rkN staN phN spN ceN duN heN riN usN cmN lfN lkdN rowN seaN pmsN pmmN pmtN pstN pwaN prsN prrN pfaN CN hln VN => ?_)
  have hmiN : miN = gN w 201 := VN.2.2.1.1
  have K9 : kA g0 [(4, .inl (7, [.ref 327, .int miN, .int shuN, .int busN, .ref 5, .ref 6, .ref 7, .ref 8, .ref 9, .ref 10, .ref 11, .ref 12, .ref 13, .ref 14, .ref 15, .int lksN, .ref 16, .ref 17, .ref 20])), (281, .inl (1, [.ref 282, .ref 307, .ref 323, .ref 324])), (282, .inl (7, [ly, .int miz, .int shuz, .int busz, .ref 283, .ref 284, .ref 285, .ref 286, .ref 287, .ref 288, .ref 289, .ref 290, .ref 291, .ref 292, .ref 293, .int lksz, .ref 294, .ref 295, .ref 298]))] := ⟨CN.1, C281, CT.1, trivial⟩
  have K : KN g0 [(4, .inl (7, [.ref 327, .int miN, .int shuN, .int busN, .ref 5, .ref 6, .ref 7, .ref 8, .ref 9, .ref 10, .ref 11, .ref 12, .ref 13, .ref 14, .ref 15, .int lksN, .ref 16, .ref 17, .ref 20])), (281, .inl (1, [.ref 282, .ref 307, .ref 323, .ref 324])), (282, .inl (7, [ly, .int miz, .int shuz, .int busz, .ref 283, .ref 284, .ref 285, .ref 286, .ref 287, .ref 288, .ref 289, .ref 290, .ref 291, .ref 292, .ref 293, .int lksz, .ref 294, .ref 295, .ref 298]))] g0 := K9.K
  show j_V jP d 8 0 [(0, .ref 281), (1, .ref 4), (2, .int (nI t)), (3, .int x3)] [] g0 _
  obtain ⟨lv, elv, L9⟩ : ∃ lv, lv = [(0, .ref 281), (1, .ref 4), (2, .int (nI t)), (3, .int x3)] ∧ LK lv [(0, .ref 281), (1, .ref 4), (2, .int (nI t)), (3, .int x3)] := ⟨_, rfl, LK.rf⟩
  rw [← elv]
  clear elv
  have L := L9
  refine j_V.ldL fp1_M fp1_0 rfl (i := 0) (kd := 2) (v := .ref 281) (pcJ := 1) rfl L rfl rfl rfl ?_
  refine j_V.getK fp1_M fp1_1 (ci := 1) (j := 0) rfl K rfl rfl ?_
  refine j_V.ldL fp1_M fp1_4 rfl (i := 1) (kd := 2) (v := .ref 4) (pcJ := 5) rfl L rfl rfl rfl ?_
  refine j_V.cl fp1_M fp1_5 rfl (md := 3) (mj := 61) rfl (by decide) yts_M (As := [.ref 282, .ref 4]) (rest := []) (jk_spl3 (K.at rfl) rfl rfl rfl (Nat.le_of_ble_eq_true rfl) (Nat.le_of_ble_eq_true rfl)) (fun d => ht_cp R4 Q) ?_
  rintro r h9 ⟨rfl, T9, F9⟩
  refine hS9.opn T9 (fun mi shu bus lks rl pev rk sta ph sp ce du he ri us cm lf lkd row sea pms pmm pmt pst pwa prs prr pfa CS hl4 V => ?_)
  have K9 : kA h9 [(4, .inl (7, [.ref 327, .int miN, .int shuN, .int busN, .ref 5, .ref 6, .ref 7, .ref 8, .ref 9, .ref 10, .ref 11, .ref 12, .ref 13, .ref 14, .ref 15, .int lksN, .ref 16, .ref 17, .ref 20])), (281, .inl (1, [.ref 282, .ref 307, .ref 323, .ref 324])), (282, .inl (7, [.ref 327, .int mi, .int shu, .int bus, .ref 283, .ref 284, .ref 285, .ref 286, .ref 287, .ref 288, .ref 289, .ref 290, .ref 291, .ref 292, .ref 293, .int lks, .ref 294, .ref 295, .ref 298])), (289, .inr (.inl (0, he)))] := ⟨(F9 4 (by decide)).trans CN.1, (F9 281 (by decide)).trans C281, CS.1, CS.2.2.2.2.2.2.2.1, trivial⟩
  have K : KN h9 [(4, .inl (7, [.ref 327, .int miN, .int shuN, .int busN, .ref 5, .ref 6, .ref 7, .ref 8, .ref 9, .ref 10, .ref 11, .ref 12, .ref 13, .ref 14, .ref 15, .int lksN, .ref 16, .ref 17, .ref 20])), (281, .inl (1, [.ref 282, .ref 307, .ref 323, .ref 324])), (282, .inl (7, [.ref 327, .int mi, .int shu, .int bus, .ref 283, .ref 284, .ref 285, .ref 286, .ref 287, .ref 288, .ref 289, .ref 290, .ref 291, .ref 292, .ref 293, .int lks, .ref 294, .ref 295, .ref 298])), (289, .inr (.inl (0, he)))] h9 := K9.K
  show j_V jP _ 8 8 lv [] h9 _
  refine j_V.ldL fp1_M fp1_8 rfl (i := 0) (kd := 2) (v := .ref 281) (pcJ := 9) rfl L rfl rfl rfl ?_
  refine j_V.getK fp1_M fp1_9 (ci := 1) (j := 0) rfl K rfl rfl ?_
  refine j_V.getK fp1_M fp1_12 (ci := 7) (j := 10) rfl K rfl rfl ?_
  refine j_V.ldL fp1_M fp1_15 rfl (i := 2) (kd := 0) (v := .int (nI t)) (pcJ := 16) rfl L rfl rfl rfl ?_
  refine j_V.ldL fp1_M fp1_16 rfl (i := 1) (kd := 2) (v := .ref 4) (pcJ := 17) rfl L rfl rfl rfl ?_
  refine j_V.getK fp1_M fp1_17 (ci := 7) (j := 1) rfl K rfl rfl ?_
  refine j_V.ldL fp1_M fp1_20 rfl (i := 3) (kd := 0) (v := .int x3) (pcJ := 21) rfl L rfl rfl rfl ?_
  refine j_V.one fp1_M fp1_21 (by decide) (pcJ := 22) (stJ := [.int (miN + x3), .int (nI t), .ref 289]) rfl ?_
  refine j_V.isA fp1_M fp1_22 (k' := [(4, .inl (7, [.ref 327, .int miN, .int shuN, .int busN, .ref 5, .ref 6, .ref 7, .ref 8, .ref 9, .ref 10, .ref 11, .ref 12, .ref 13, .ref 14, .ref 15, .int lksN, .ref 16, .ref 17, .ref 20])), (281, .inl (1, [.ref 282, .ref 307, .ref 323, .ref 324])), (282, .inl (7, [.ref 327, .int mi, .int shu, .int bus, .ref 283, .ref 284, .ref 285, .ref 286, .ref 287, .ref 288, .ref 289, .ref 290, .ref 291, .ref 292, .ref 293, .int lks, .ref 294, .ref 295, .ref 298])), (289, .inr (.inl (0, (sA he (nI t) (miN + x3)))))]) K rfl rfl (fun h K => ?_)
  refine j_V.ldL fp1_M fp1_23 rfl (i := 0) (kd := 2) (v := .ref 281) (pcJ := 24) rfl L rfl rfl rfl ?_
  refine j_V.getK fp1_M fp1_24 (ci := 1) (j := 0) rfl K rfl rfl ?_
  refine j_V.one fp1_M fp1_27 (by decide) (pcJ := 30) (stJ := [.int 300, .ref 282]) rfl ?_
  refine j_V.one fp1_M fp1_30 (by decide) (pcJ := 31) (stJ := [.int 1, .int 300, .ref 282]) rfl ?_
  refine j_V.one fp1_M fp1_31 (by decide) (pcJ := 32) (stJ := [.int 1, .int 1, .int 300, .ref 282]) rfl ?_
  have h5 := V.1.n5
  rw [show sA he (nI t) (miN + x3) = he.set t (miN + x3) from sA_n (by omega)] at K
  have V9 := V.sHeld hl4.2.2.1 ht (miN + x3)
  have VW := V.1
  have st : (∀ s j, s < 7 → j < 5 → fs (w.set (56 + 28 * t + 10) (miN + x3)) s j = fs w s j) ∧ ∀ u j, u < n → j < 6 → j ≠ 3 → ft (w.set (56 + 28 * t + 10) (miN + x3)) u j = ft w u j := ⟨fun s j _ _ => gN_ne (by omega), fun u j _ _ _ => gN_ne (by omega)⟩
  have C281x : h[281]? = some (.inl (1, [.ref 282, .ref 307, .ref 323, .ref 324])) := (K.at rfl)
  have F7 : ∀ x, x ≠ 289 → h[x]? = h9[x]? := fun x g => KN.off K9 K (lke (lke (lke (lkn (fun z => g z.symm) rfl))))
  have T2 : hS9 282 327 0 n S (w.set (56 + 28 * t + 10) (miN + x3)) h := ⟨mi, shu, bus, lks, rl, pev, rk, sta, ph, sp, ce, du, _, ri, us, cm, lf, lkd, row, sea, pms, pmm, pmt, pst, pwa, prs, prr, pfa, ⟨K.at rfl, (K.2.1 283 rfl).trans CS.2.1, (K.2.1 284 rfl).trans CS.2.2.1, (K.2.1 285 rfl).trans CS.2.2.2.1, (K.2.1 286 rfl).trans CS.2.2.2.2.1, (K.2.1 287 rfl).trans CS.2.2.2.2.2.1, (K.2.1 288 rfl).trans CS.2.2.2.2.2.2.1, K.at rfl, (K.2.1 290 rfl).trans CS.2.2.2.2.2.2.2.2.1, (K.2.1 291 rfl).trans CS.2.2.2.2.2.2.2.2.2.1, (K.2.1 292 rfl).trans CS.2.2.2.2.2.2.2.2.2.2.1, (K.2.1 293 rfl).trans CS.2.2.2.2.2.2.2.2.2.2.2.1, (K.2.1 294 rfl).trans CS.2.2.2.2.2.2.2.2.2.2.2.2.1, (K.2.1 295 rfl).trans CS.2.2.2.2.2.2.2.2.2.2.2.2.2.1, (K.2.1 296 rfl).trans CS.2.2.2.2.2.2.2.2.2.2.2.2.2.2.1, (K.2.1 297 rfl).trans CS.2.2.2.2.2.2.2.2.2.2.2.2.2.2.2.1, (K.2.1 298 rfl).trans CS.2.2.2.2.2.2.2.2.2.2.2.2.2.2.2.2.1, (K.2.1 299 rfl).trans CS.2.2.2.2.2.2.2.2.2.2.2.2.2.2.2.2.2.1, (K.2.1 300 rfl).trans CS.2.2.2.2.2.2.2.2.2.2.2.2.2.2.2.2.2.2.1, (K.2.1 301 rfl).trans CS.2.2.2.2.2.2.2.2.2.2.2.2.2.2.2.2.2.2.2.1, (K.2.1 302 rfl).trans CS.2.2.2.2.2.2.2.2.2.2.2.2.2.2.2.2.2.2.2.2.1, (K.2.1 303 rfl).trans CS.2.2.2.2.2.2.2.2.2.2.2.2.2.2.2.2.2.2.2.2.2.1, (K.2.1 304 rfl).trans CS.2.2.2.2.2.2.2.2.2.2.2.2.2.2.2.2.2.2.2.2.2.2.1, (K.2.1 305 rfl).trans CS.2.2.2.2.2.2.2.2.2.2.2.2.2.2.2.2.2.2.2.2.2.2.2.1, (K.2.1 306 rfl).trans CS.2.2.2.2.2.2.2.2.2.2.2.2.2.2.2.2.2.2.2.2.2.2.2.2⟩, ⟨hl4.1, hl4.2.1, (List.length_set ..).trans hl4.2.2.1, hl4.2.2.2⟩, V9⟩
  have Y2 : hY9 327 n S (w.set (56 + 28 * t + 10) (miN + x3)) h := (Y4.to VW.g V9.1.g st.1 st.2).fr (fun x _ _ => (F7 x (by omega)).trans (F9 x (by omega)))
  have hm2 : gN ((w.set (56 + 28 * t + 10) (miN + x3))) 201 = nI m := (gN_ne (by omega)).trans hm
  refine j_V.cl fp1_M fp1_32 rfl (md := 3) (mj := 92) rfl (by decide) xc45_M (As := [.ref 282, .int 300, .int 1, .int 1]) (rest := []) (jk_spl3 (K.at rfl) rfl rfl rfl (Nat.le_of_ble_eq_true rfl) (Nat.le_of_ble_eq_true rfl)) (fun d => hv_xc (k := 300) (e := true) T2 Y2 hm2 hb 1 _ rfl) ?_
  rintro r h8 ⟨rfl, T8, Y8, -, F8⟩
  refine hS9.opn T8 (fun miq shuq busq lksq rlq pevq rkq staq phq spq ceq duq heq riq usq cmq lfq lkdq rowq seaq pmsq pmmq pmtq pstq pwaq prsq prrq pfaq CS8 _ _ => ?_)
  have K9 : kA h8 [(281, .inl (1, [.ref 282, .ref 307, .ref 323, .ref 324])), (282, .inl (7, [.ref 327, .int miq, .int shuq, .int busq, .ref 283, .ref 284, .ref 285, .ref 286, .ref 287, .ref 288, .ref 289, .ref 290, .ref 291, .ref 292, .ref 293, .int lksq, .ref 294, .ref 295, .ref 298]))] := ⟨(F8 281 (by decide)).trans C281x, CS8.1, trivial⟩
  have K : KN h8 [(281, .inl (1, [.ref 282, .ref 307, .ref 323, .ref 324])), (282, .inl (7, [.ref 327, .int miq, .int shuq, .int busq, .ref 283, .ref 284, .ref 285, .ref 286, .ref 287, .ref 288, .ref 289, .ref 290, .ref 291, .ref 292, .ref 293, .int lksq, .ref 294, .ref 295, .ref 298]))] h8 := K9.K
  show j_V jP _ 8 35 lv [.int (m_price (m_adv n 1 true 300 (w.set (56 + 28 * t + 10) (miN + x3))))] h8 _
  refine j_V.ri fp1_M fp1_35 ?_
  exact ⟨by rw [pE_adv, ← hmiN], T8.sh, fun x g => (F8 x g).trans ((F7 x (by omega)).trans (F9 x g))⟩
set_option maxRecDepth 1000000 in
theorem hp_start_327 {g0 : J_H} {n S m d : Nat} {w : List Int32} (P : hF 327 n S w g0) (hm : gN w 201 = nI m) {t : Nat} {x3 : Int32} (ht : t < n) (hb : m + 300 < 2 ^ 30) : j_V jP d 9 0 (lv_args 0 [.ref 281, .ref 4, .int (nI t), .int x3]) [] g0 (fun rv h' => rv = some (.int (pE n (w.set (56 + 28 * t + 3) x3))) ∧ hT9 282 0 h' ∧ ∀ x, (x < 282 ∨ 307 ≤ x) → h'[x]? = g0[x]?) := by
  obtain ⟨R4, Y4, Q, C281⟩ := P
  have P : hF 327 n S w g0 := ⟨R4, Y4, Q, C281⟩
  refine hT9.opn Q (fun ly miz shuz busz lksz rlz pevz rkz staz phz spz cez duz hez riz usz cmz lfz lkdz rowz seaz pmsz pmmz pmtz pstz pwaz prsz prrz pfaz CT _ _ => ?_)
  have K9 : kA g0 [(281, .inl (1, [.ref 282, .ref 307, .ref 323, .ref 324])), (282, .inl (7, [ly, .int miz, .int shuz, .int busz, .ref 283, .ref 284, .ref 285, .ref 286, .ref 287, .ref 288, .ref 289, .ref 290, .ref 291, .ref 292, .ref 293, .int lksz, .ref 294, .ref 295, .ref 298]))] := ⟨C281, CT.1, trivial⟩
  have K : KN g0 [(281, .inl (1, [.ref 282, .ref 307, .ref 323, .ref 324])), (282, .inl (7, [ly, .int miz, .int shuz, .int busz, .ref 283, .ref 284, .ref 285, .ref 286, .ref 287, .ref 288, .ref 289, .ref 290, .ref 291, .ref 292, .ref 293, .int lksz, .ref 294, .ref 295, .ref 298]))] g0 := K9.K
  show j_V jP d 9 0 [(0, .ref 281), (1, .ref 4), (2, .int (nI t)), (3, .int x3)] [] g0 _
  obtain ⟨lv, elv, L9⟩ : ∃ lv, lv = [(0, .ref 281), (1, .ref 4), (2, .int (nI t)), (3, .int x3)] ∧ LK lv [(0, .ref 281), (1, .ref 4), (2, .int (nI t)), (3, .int x3)] := ⟨_, rfl, LK.rf⟩
  rw [← elv]
  clear elv
  have L := L9
  refine j_V.ldL fp2_M fp2_0 rfl (i := 0) (kd := 2) (v := .ref 281) (pcJ := 1) rfl L rfl rfl rfl ?_
  refine j_V.getK fp2_M fp2_1 (ci := 1) (j := 0) rfl K rfl rfl ?_
  refine j_V.ldL fp2_M fp2_4 rfl (i := 1) (kd := 2) (v := .ref 4) (pcJ := 5) rfl L rfl rfl rfl ?_
  refine j_V.cl fp2_M fp2_5 rfl (md := 3) (mj := 61) rfl (by decide) yts_M (As := [.ref 282, .ref 4]) (rest := []) (jk_spl3 (K.at rfl) rfl rfl rfl (Nat.le_of_ble_eq_true rfl) (Nat.le_of_ble_eq_true rfl)) (fun d => ht_cp R4 Q) ?_
  rintro r h9 ⟨rfl, T9, F9⟩
  refine hS9.opn T9 (fun mi shu bus lks rl pev rk sta ph sp ce du he ri us cm lf lkd row sea pms pmm pmt pst pwa prs prr pfa CS hl4 V => ?_)
  have K9 : kA h9 [(281, .inl (1, [.ref 282, .ref 307, .ref 323, .ref 324])), (282, .inl (7, [.ref 327, .int mi, .int shu, .int bus, .ref 283, .ref 284, .ref 285, .ref 286, .ref 287, .ref 288, .ref 289, .ref 290, .ref 291, .ref 292, .ref 293, .int lks, .ref 294, .ref 295, .ref 298])), (284, .inr (.inl (0, sta)))] := ⟨(F9 281 (by decide)).trans C281, CS.1, CS.2.2.1, trivial⟩
  have K : KN h9 [(281, .inl (1, [.ref 282, .ref 307, .ref 323, .ref 324])), (282, .inl (7, [.ref 327, .int mi, .int shu, .int bus, .ref 283, .ref 284, .ref 285, .ref 286, .ref 287, .ref 288, .ref 289, .ref 290, .ref 291, .ref 292, .ref 293, .int lks, .ref 294, .ref 295, .ref 298])), (284, .inr (.inl (0, sta)))] h9 := K9.K
  show j_V jP _ 9 8 lv [] h9 _
  refine j_V.ldL fp2_M fp2_8 rfl (i := 0) (kd := 2) (v := .ref 281) (pcJ := 9) rfl L rfl rfl rfl ?_
  refine j_V.getK fp2_M fp2_9 (ci := 1) (j := 0) rfl K rfl rfl ?_
  refine j_V.getK fp2_M fp2_12 (ci := 7) (j := 5) rfl K rfl rfl ?_
  refine j_V.ldL fp2_M fp2_15 rfl (i := 2) (kd := 0) (v := .int (nI t)) (pcJ := 16) rfl L rfl rfl rfl ?_
  refine j_V.ldL fp2_M fp2_16 rfl (i := 3) (kd := 0) (v := .int x3) (pcJ := 17) rfl L rfl rfl rfl ?_
  refine j_V.isA fp2_M fp2_17 (k' := [(281, .inl (1, [.ref 282, .ref 307, .ref 323, .ref 324])), (282, .inl (7, [.ref 327, .int mi, .int shu, .int bus, .ref 283, .ref 284, .ref 285, .ref 286, .ref 287, .ref 288, .ref 289, .ref 290, .ref 291, .ref 292, .ref 293, .int lks, .ref 294, .ref 295, .ref 298])), (284, .inr (.inl (0, (sA sta (nI t) x3))))]) K rfl rfl (fun h K => ?_)
  refine j_V.ldL fp2_M fp2_18 rfl (i := 0) (kd := 2) (v := .ref 281) (pcJ := 19) rfl L rfl rfl rfl ?_
  refine j_V.getK fp2_M fp2_19 (ci := 1) (j := 0) rfl K rfl rfl ?_
  refine j_V.one fp2_M fp2_22 (by decide) (pcJ := 25) (stJ := [.int 300, .ref 282]) rfl ?_
  refine j_V.one fp2_M fp2_25 (by decide) (pcJ := 26) (stJ := [.int 1, .int 300, .ref 282]) rfl ?_
  refine j_V.one fp2_M fp2_26 (by decide) (pcJ := 27) (stJ := [.int 1, .int 1, .int 300, .ref 282]) rfl ?_
  have h5 := V.1.n5
  rw [show sA sta (nI t) x3 = sta.set t x3 from sA_n (by omega)] at K
  have V9 := V.sStart hl4.2.1 ht x3
  have VW := V.1
  have st : (∀ s j, s < 7 → j < 5 → fs (w.set (56 + 28 * t + 3) x3) s j = fs w s j) ∧ ∀ u j, u < n → j < 6 → j ≠ 3 → ft (w.set (56 + 28 * t + 3) x3) u j = ft w u j := ⟨fun s j _ _ => gN_ne (by omega), fun u j _ _ _ => gN_ne (by omega)⟩
  have C281x : h[281]? = some (.inl (1, [.ref 282, .ref 307, .ref 323, .ref 324])) := (K.at rfl)
  have F7 : ∀ x, x ≠ 284 → h[x]? = h9[x]? := fun x g => KN.off K9 K (lke (lke (lkn (fun z => g z.symm) rfl)))
  have T2 : hS9 282 327 0 n S (w.set (56 + 28 * t + 3) x3) h := ⟨mi, shu, bus, lks, rl, pev, rk, _, ph, sp, ce, du, he, ri, us, cm, lf, lkd, row, sea, pms, pmm, pmt, pst, pwa, prs, prr, pfa, ⟨K.at rfl, (K.2.1 283 rfl).trans CS.2.1, K.at rfl, (K.2.1 285 rfl).trans CS.2.2.2.1, (K.2.1 286 rfl).trans CS.2.2.2.2.1, (K.2.1 287 rfl).trans CS.2.2.2.2.2.1, (K.2.1 288 rfl).trans CS.2.2.2.2.2.2.1, (K.2.1 289 rfl).trans CS.2.2.2.2.2.2.2.1, (K.2.1 290 rfl).trans CS.2.2.2.2.2.2.2.2.1, (K.2.1 291 rfl).trans CS.2.2.2.2.2.2.2.2.2.1, (K.2.1 292 rfl).trans CS.2.2.2.2.2.2.2.2.2.2.1, (K.2.1 293 rfl).trans CS.2.2.2.2.2.2.2.2.2.2.2.1, (K.2.1 294 rfl).trans CS.2.2.2.2.2.2.2.2.2.2.2.2.1, (K.2.1 295 rfl).trans CS.2.2.2.2.2.2.2.2.2.2.2.2.2.1, (K.2.1 296 rfl).trans CS.2.2.2.2.2.2.2.2.2.2.2.2.2.2.1, (K.2.1 297 rfl).trans CS.2.2.2.2.2.2.2.2.2.2.2.2.2.2.2.1, (K.2.1 298 rfl).trans CS.2.2.2.2.2.2.2.2.2.2.2.2.2.2.2.2.1, (K.2.1 299 rfl).trans CS.2.2.2.2.2.2.2.2.2.2.2.2.2.2.2.2.2.1, (K.2.1 300 rfl).trans CS.2.2.2.2.2.2.2.2.2.2.2.2.2.2.2.2.2.2.1, (K.2.1 301 rfl).trans CS.2.2.2.2.2.2.2.2.2.2.2.2.2.2.2.2.2.2.2.1, (K.2.1 302 rfl).trans CS.2.2.2.2.2.2.2.2.2.2.2.2.2.2.2.2.2.2.2.2.1, (K.2.1 303 rfl).trans CS.2.2.2.2.2.2.2.2.2.2.2.2.2.2.2.2.2.2.2.2.2.1, (K.2.1 304 rfl).trans CS.2.2.2.2.2.2.2.2.2.2.2.2.2.2.2.2.2.2.2.2.2.2.1, (K.2.1 305 rfl).trans CS.2.2.2.2.2.2.2.2.2.2.2.2.2.2.2.2.2.2.2.2.2.2.2.1, (K.2.1 306 rfl).trans CS.2.2.2.2.2.2.2.2.2.2.2.2.2.2.2.2.2.2.2.2.2.2.2.2⟩, ⟨hl4.1, (List.length_set ..).trans hl4.2.1, hl4.2.2⟩, V9⟩
  have Y2 : hY9 327 n S (w.set (56 + 28 * t + 3) x3) h := (Y4.to VW.g V9.1.g st.1 st.2).fr (fun x _ _ => (F7 x (by omega)).trans (F9 x (by omega)))
  have hm2 : gN ((w.set (56 + 28 * t + 3) x3)) 201 = nI m := (gN_ne (by omega)).trans hm
  refine j_V.cl fp2_M fp2_27 rfl (md := 3) (mj := 92) rfl (by decide) xc45_M (As := [.ref 282, .int 300, .int 1, .int 1]) (rest := []) (jk_spl3 (K.at rfl) rfl rfl rfl (Nat.le_of_ble_eq_true rfl) (Nat.le_of_ble_eq_true rfl)) (fun d => hv_xc (k := 300) (e := true) T2 Y2 hm2 hb 1 _ rfl) ?_
  rintro r h8 ⟨rfl, T8, Y8, -, F8⟩
  refine hS9.opn T8 (fun miq shuq busq lksq rlq pevq rkq staq phq spq ceq duq heq riq usq cmq lfq lkdq rowq seaq pmsq pmmq pmtq pstq pwaq prsq prrq pfaq CS8 _ _ => ?_)
  have K9 : kA h8 [(281, .inl (1, [.ref 282, .ref 307, .ref 323, .ref 324])), (282, .inl (7, [.ref 327, .int miq, .int shuq, .int busq, .ref 283, .ref 284, .ref 285, .ref 286, .ref 287, .ref 288, .ref 289, .ref 290, .ref 291, .ref 292, .ref 293, .int lksq, .ref 294, .ref 295, .ref 298]))] := ⟨(F8 281 (by decide)).trans C281x, CS8.1, trivial⟩
  have K : KN h8 [(281, .inl (1, [.ref 282, .ref 307, .ref 323, .ref 324])), (282, .inl (7, [.ref 327, .int miq, .int shuq, .int busq, .ref 283, .ref 284, .ref 285, .ref 286, .ref 287, .ref 288, .ref 289, .ref 290, .ref 291, .ref 292, .ref 293, .int lksq, .ref 294, .ref 295, .ref 298]))] h8 := K9.K
  show j_V jP _ 9 30 lv [.int (m_price (m_adv n 1 true 300 (w.set (56 + 28 * t + 3) x3)))] h8 _
  refine j_V.ri fp2_M fp2_30 ?_
  exact ⟨by rw [pE_adv], T8.sh, fun x g => (F8 x g).trans ((F7 x (by omega)).trans (F9 x g))⟩
set_option maxRecDepth 1000000 in
theorem hp_now_343 {g0 : J_H} {n S m d : Nat} {w : List Int32} (P : hF 343 n S w g0) (hm : gN w 201 = nI m) (hb : m + 300 < 2 ^ 30) : j_V jP d 7 0 (lv_args 0 [.ref 281, .ref 4]) [] g0 (fun rv h' => rv = some (.int (pE n w)) ∧ hT9 282 0 h' ∧ ∀ x, (x < 282 ∨ 307 ≤ x) → h'[x]? = g0[x]?) := by
  obtain ⟨R4, Y4, Q, C281⟩ := P
  have P : hF 343 n S w g0 := ⟨R4, Y4, Q, C281⟩
  refine hT9.opn Q (fun ly miz shuz busz lksz rlz pevz rkz staz phz spz cez duz hez riz usz cmz lfz lkdz rowz seaz pmsz pmmz pmtz pstz pwaz prsz prrz pfaz CT _ _ => ?_)
  have K9 : kA g0 [(281, .inl (1, [.ref 282, .ref 307, .ref 323, .ref 324])), (282, .inl (7, [ly, .int miz, .int shuz, .int busz, .ref 283, .ref 284, .ref 285, .ref 286, .ref 287, .ref 288, .ref 289, .ref 290, .ref 291, .ref 292, .ref 293, .int lksz, .ref 294, .ref 295, .ref 298]))] := ⟨C281, CT.1, trivial⟩
  have K : KN g0 [(281, .inl (1, [.ref 282, .ref 307, .ref 323, .ref 324])), (282, .inl (7, [ly, .int miz, .int shuz, .int busz, .ref 283, .ref 284, .ref 285, .ref 286, .ref 287, .ref 288, .ref 289, .ref 290, .ref 291, .ref 292, .ref 293, .int lksz, .ref 294, .ref 295, .ref 298]))] g0 := K9.K
  show j_V jP d 7 0 [(0, .ref 281), (1, .ref 4)] [] g0 _
  obtain ⟨lv, elv, L9⟩ : ∃ lv, lv = [(0, .ref 281), (1, .ref 4)] ∧ LK lv [(0, .ref 281), (1, .ref 4)] := ⟨_, rfl, LK.rf⟩
  rw [← elv]
  clear elv
  have L := L9
  refine j_V.ldL fp0_M fp0_0 rfl (i := 0) (kd := 2) (v := .ref 281) (pcJ := 1) rfl L rfl rfl rfl ?_
  refine j_V.getK fp0_M fp0_1 (ci := 1) (j := 0) rfl K rfl rfl ?_
  refine j_V.ldL fp0_M fp0_4 rfl (i := 1) (kd := 2) (v := .ref 4) (pcJ := 5) rfl L rfl rfl rfl ?_
  refine j_V.cl fp0_M fp0_5 rfl (md := 3) (mj := 61) rfl (by decide) yts_M (As := [.ref 282, .ref 4]) (rest := []) (jk_spl3 (K.at rfl) rfl rfl rfl (Nat.le_of_ble_eq_true rfl) (Nat.le_of_ble_eq_true rfl)) (fun d => ht_cp R4 Q) ?_
  rintro r h9 ⟨rfl, T9, F9⟩
  refine hS9.opn T9 (fun mi shu bus lks rl pev rk sta ph sp ce du he ri us cm lf lkd row sea pms pmm pmt pst pwa prs prr pfa CS hl4 V => ?_)
  have K9 : kA h9 [(281, .inl (1, [.ref 282, .ref 307, .ref 323, .ref 324])), (282, .inl (7, [.ref 343, .int mi, .int shu, .int bus, .ref 283, .ref 284, .ref 285, .ref 286, .ref 287, .ref 288, .ref 289, .ref 290, .ref 291, .ref 292, .ref 293, .int lks, .ref 294, .ref 295, .ref 298]))] := ⟨(F9 281 (by decide)).trans C281, CS.1, trivial⟩
  have K : KN h9 [(281, .inl (1, [.ref 282, .ref 307, .ref 323, .ref 324])), (282, .inl (7, [.ref 343, .int mi, .int shu, .int bus, .ref 283, .ref 284, .ref 285, .ref 286, .ref 287, .ref 288, .ref 289, .ref 290, .ref 291, .ref 292, .ref 293, .int lks, .ref 294, .ref 295, .ref 298]))] h9 := K9.K
  show j_V jP _ 7 8 lv [] h9 _
  refine j_V.ldL fp0_M fp0_8 rfl (i := 0) (kd := 2) (v := .ref 281) (pcJ := 9) rfl L rfl rfl rfl ?_
  refine j_V.getK fp0_M fp0_9 (ci := 1) (j := 0) rfl K rfl rfl ?_
  refine j_V.one fp0_M fp0_12 (by decide) (pcJ := 15) (stJ := [.int 300, .ref 282]) rfl ?_
  refine j_V.one fp0_M fp0_15 (by decide) (pcJ := 16) (stJ := [.int 1, .int 300, .ref 282]) rfl ?_
  refine j_V.one fp0_M fp0_16 (by decide) (pcJ := 17) (stJ := [.int 1, .int 1, .int 300, .ref 282]) rfl ?_
  have C281x : h9[281]? = some (.inl (1, [.ref 282, .ref 307, .ref 323, .ref 324])) := (F9 281 (by decide)).trans C281
  have T2 := T9
  have Y2 : hY9 343 n S w h9 := Y4.fr (fun x _ _ => F9 x (by omega))
  have hm2 := hm
  refine j_V.cl fp0_M fp0_17 rfl (md := 3) (mj := 92) rfl (by decide) xd45_M (As := [.ref 282, .int 300, .int 1, .int 1]) (rest := []) (jk_spl3 (K.at rfl) rfl rfl rfl (Nat.le_of_ble_eq_true rfl) (Nat.le_of_ble_eq_true rfl)) (fun d => hv_xd (k := 300) (e := true) T2 Y2 hm2 hb 1 _ rfl) ?_
  rintro r h8 ⟨rfl, T8, Y8, -, F8⟩
  refine hS9.opn T8 (fun miq shuq busq lksq rlq pevq rkq staq phq spq ceq duq heq riq usq cmq lfq lkdq rowq seaq pmsq pmmq pmtq pstq pwaq prsq prrq pfaq CS8 _ _ => ?_)
  have K9 : kA h8 [(281, .inl (1, [.ref 282, .ref 307, .ref 323, .ref 324])), (282, .inl (7, [.ref 343, .int miq, .int shuq, .int busq, .ref 283, .ref 284, .ref 285, .ref 286, .ref 287, .ref 288, .ref 289, .ref 290, .ref 291, .ref 292, .ref 293, .int lksq, .ref 294, .ref 295, .ref 298]))] := ⟨(F8 281 (by decide)).trans C281x, CS8.1, trivial⟩
  have K : KN h8 [(281, .inl (1, [.ref 282, .ref 307, .ref 323, .ref 324])), (282, .inl (7, [.ref 343, .int miq, .int shuq, .int busq, .ref 283, .ref 284, .ref 285, .ref 286, .ref 287, .ref 288, .ref 289, .ref 290, .ref 291, .ref 292, .ref 293, .int lksq, .ref 294, .ref 295, .ref 298]))] h8 := K9.K
  show j_V jP _ 7 20 lv [.int (m_price (m_adv n 1 true 300 w))] h8 _
  refine j_V.ri fp0_M fp0_20 ?_
  exact ⟨by rw [pE_adv], T8.sh, fun x g => (F8 x g).trans (F9 x g)⟩
set_option maxRecDepth 1000000 in
theorem hp_after_343 {g0 : J_H} {n S m d : Nat} {w : List Int32} (P : hF 343 n S w g0) (hm : gN w 201 = nI m) {k : Nat} {x3 : Int32} (hb : m + k < 2 ^ 30) : j_V jP d 5 0 (lv_args 0 [.ref 281, .ref 4, .int (nI k), .int x3]) [] g0 (fun rv h' => rv = some (.ref 282) ∧ hS9 282 343 0 n S (m_adv n x3 false k w) h' ∧ hY9 343 n S (m_adv n x3 false k w) h' ∧ ∀ x, (x < 282 ∨ 307 ≤ x) → h'[x]? = g0[x]?) := by
  obtain ⟨R4, Y4, Q, C281⟩ := P
  have P : hF 343 n S w g0 := ⟨R4, Y4, Q, C281⟩
  refine hT9.opn Q (fun ly miz shuz busz lksz rlz pevz rkz staz phz spz cez duz hez riz usz cmz lfz lkdz rowz seaz pmsz pmmz pmtz pstz pwaz prsz prrz pfaz CT _ _ => ?_)
  have K9 : kA g0 [(281, .inl (1, [.ref 282, .ref 307, .ref 323, .ref 324])), (282, .inl (7, [ly, .int miz, .int shuz, .int busz, .ref 283, .ref 284, .ref 285, .ref 286, .ref 287, .ref 288, .ref 289, .ref 290, .ref 291, .ref 292, .ref 293, .int lksz, .ref 294, .ref 295, .ref 298]))] := ⟨C281, CT.1, trivial⟩
  have K : KN g0 [(281, .inl (1, [.ref 282, .ref 307, .ref 323, .ref 324])), (282, .inl (7, [ly, .int miz, .int shuz, .int busz, .ref 283, .ref 284, .ref 285, .ref 286, .ref 287, .ref 288, .ref 289, .ref 290, .ref 291, .ref 292, .ref 293, .int lksz, .ref 294, .ref 295, .ref 298]))] g0 := K9.K
  show j_V jP d 5 0 [(0, .ref 281), (1, .ref 4), (2, .int (nI k)), (3, .int x3)] [] g0 _
  obtain ⟨lv, elv, L9⟩ : ∃ lv, lv = [(0, .ref 281), (1, .ref 4), (2, .int (nI k)), (3, .int x3)] ∧ LK lv [(0, .ref 281), (1, .ref 4), (2, .int (nI k)), (3, .int x3)] := ⟨_, rfl, LK.rf⟩
  rw [← elv]
  clear elv
  have L := L9
  refine j_V.ldL fp3_M fp3_0 rfl (i := 0) (kd := 2) (v := .ref 281) (pcJ := 1) rfl L rfl rfl rfl ?_
  refine j_V.getK fp3_M fp3_1 (ci := 1) (j := 0) rfl K rfl rfl ?_
  refine j_V.ldL fp3_M fp3_4 rfl (i := 1) (kd := 2) (v := .ref 4) (pcJ := 5) rfl L rfl rfl rfl ?_
  refine j_V.cl fp3_M fp3_5 rfl (md := 3) (mj := 61) rfl (by decide) yts_M (As := [.ref 282, .ref 4]) (rest := []) (jk_spl3 (K.at rfl) rfl rfl rfl (Nat.le_of_ble_eq_true rfl) (Nat.le_of_ble_eq_true rfl)) (fun d => ht_cp R4 Q) ?_
  rintro r h9 ⟨rfl, T9, F9⟩
  refine hS9.opn T9 (fun mi shu bus lks rl pev rk sta ph sp ce du he ri us cm lf lkd row sea pms pmm pmt pst pwa prs prr pfa CS hl4 V => ?_)
  have K9 : kA h9 [(281, .inl (1, [.ref 282, .ref 307, .ref 323, .ref 324])), (282, .inl (7, [.ref 343, .int mi, .int shu, .int bus, .ref 283, .ref 284, .ref 285, .ref 286, .ref 287, .ref 288, .ref 289, .ref 290, .ref 291, .ref 292, .ref 293, .int lks, .ref 294, .ref 295, .ref 298]))] := ⟨(F9 281 (by decide)).trans C281, CS.1, trivial⟩
  have K : KN h9 [(281, .inl (1, [.ref 282, .ref 307, .ref 323, .ref 324])), (282, .inl (7, [.ref 343, .int mi, .int shu, .int bus, .ref 283, .ref 284, .ref 285, .ref 286, .ref 287, .ref 288, .ref 289, .ref 290, .ref 291, .ref 292, .ref 293, .int lks, .ref 294, .ref 295, .ref 298]))] h9 := K9.K
  show j_V jP _ 5 8 lv [] h9 _
  refine j_V.ldL fp3_M fp3_8 rfl (i := 0) (kd := 2) (v := .ref 281) (pcJ := 9) rfl L rfl rfl rfl ?_
  refine j_V.getK fp3_M fp3_9 (ci := 1) (j := 0) rfl K rfl rfl ?_
  refine j_V.ldL fp3_M fp3_12 rfl (i := 2) (kd := 0) (v := .int (nI k)) (pcJ := 13) rfl L rfl rfl rfl ?_
  refine j_V.ldL fp3_M fp3_13 rfl (i := 3) (kd := 0) (v := .int x3) (pcJ := 14) rfl L rfl rfl rfl ?_
  refine j_V.one fp3_M fp3_14 (by decide) (pcJ := 15) (stJ := [.int 0, .int x3, .int (nI k), .ref 282]) rfl ?_
  have C281x : h9[281]? = some (.inl (1, [.ref 282, .ref 307, .ref 323, .ref 324])) := (F9 281 (by decide)).trans C281
  have T2 := T9
  have Y2 : hY9 343 n S w h9 := Y4.fr (fun x _ _ => F9 x (by omega))
  have hm2 := hm
  refine j_V.cl fp3_M fp3_15 rfl (md := 3) (mj := 92) rfl (by decide) xd45_M (As := [.ref 282, .int (nI k), .int x3, .int 0]) (rest := []) (jk_spl3 (K.at rfl) rfl rfl rfl (Nat.le_of_ble_eq_true rfl) (Nat.le_of_ble_eq_true rfl)) (fun d => hv_xd (k := k) (e := false) T2 Y2 hm2 hb x3 _ rfl) ?_
  rintro r h8 ⟨rfl, T8, Y8, -, F8⟩
  refine hS9.opn T8 (fun miq shuq busq lksq rlq pevq rkq staq phq spq ceq duq heq riq usq cmq lfq lkdq rowq seaq pmsq pmmq pmtq pstq pwaq prsq prrq pfaq CS8 _ _ => ?_)
  have K9 : kA h8 [(281, .inl (1, [.ref 282, .ref 307, .ref 323, .ref 324])), (282, .inl (7, [.ref 343, .int miq, .int shuq, .int busq, .ref 283, .ref 284, .ref 285, .ref 286, .ref 287, .ref 288, .ref 289, .ref 290, .ref 291, .ref 292, .ref 293, .int lksq, .ref 294, .ref 295, .ref 298]))] := ⟨(F8 281 (by decide)).trans C281x, CS8.1, trivial⟩
  have K : KN h8 [(281, .inl (1, [.ref 282, .ref 307, .ref 323, .ref 324])), (282, .inl (7, [.ref 343, .int miq, .int shuq, .int busq, .ref 283, .ref 284, .ref 285, .ref 286, .ref 287, .ref 288, .ref 289, .ref 290, .ref 291, .ref 292, .ref 293, .int lksq, .ref 294, .ref 295, .ref 298]))] h8 := K9.K
  show j_V jP _ 5 18 lv [.int (m_price (m_adv n x3 false k w))] h8 _
  refine j_V.one fp3_M fp3_18 (by decide) (pcJ := 19) (stJ := []) rfl ?_
  refine j_V.ldL fp3_M fp3_19 rfl (i := 0) (kd := 2) (v := .ref 281) (pcJ := 20) rfl L rfl rfl rfl ?_
  refine j_V.getK fp3_M fp3_20 (ci := 1) (j := 0) rfl K rfl rfl ?_
  refine j_V.ret fp3_M fp3_23 rfl rfl ?_
  exact ⟨rfl, T8, Y8, fun x g => (F8 x g).trans (F9 x g)⟩
set_option maxRecDepth 1000000 in
theorem hp_end_343 {g0 : J_H} {n S m d : Nat} {w : List Int32} (P : hF 343 n S w g0) (hm : gN w 201 = nI m) {x3 : Int32} (hb : m + 300 < 2 ^ 30) : j_V jP d 6 0 (lv_args 0 [.ref 281, .ref 4, .int x3]) [] g0 (fun rv h' => rv = some (.ref 282) ∧ hS9 282 343 0 n S (m_adv n x3 true 300 w) h' ∧ hY9 343 n S (m_adv n x3 true 300 w) h' ∧ ∀ x, (x < 282 ∨ 307 ≤ x) → h'[x]? = g0[x]?) := by
  obtain ⟨R4, Y4, Q, C281⟩ := P
  have P : hF 343 n S w g0 := ⟨R4, Y4, Q, C281⟩
  refine hT9.opn Q (fun ly miz shuz busz lksz rlz pevz rkz staz phz spz cez duz hez riz usz cmz lfz lkdz rowz seaz pmsz pmmz pmtz pstz pwaz prsz prrz pfaz CT _ _ => ?_)
  have K9 : kA g0 [(281, .inl (1, [.ref 282, .ref 307, .ref 323, .ref 324])), (282, .inl (7, [ly, .int miz, .int shuz, .int busz, .ref 283, .ref 284, .ref 285, .ref 286, .ref 287, .ref 288, .ref 289, .ref 290, .ref 291, .ref 292, .ref 293, .int lksz, .ref 294, .ref 295, .ref 298]))] := ⟨C281, CT.1, trivial⟩
  have K : KN g0 [(281, .inl (1, [.ref 282, .ref 307, .ref 323, .ref 324])), (282, .inl (7, [ly, .int miz, .int shuz, .int busz, .ref 283, .ref 284, .ref 285, .ref 286, .ref 287, .ref 288, .ref 289, .ref 290, .ref 291, .ref 292, .ref 293, .int lksz, .ref 294, .ref 295, .ref 298]))] g0 := K9.K
  show j_V jP d 6 0 [(0, .ref 281), (1, .ref 4), (2, .int x3)] [] g0 _
  obtain ⟨lv, elv, L9⟩ : ∃ lv, lv = [(0, .ref 281), (1, .ref 4), (2, .int x3)] ∧ LK lv [(0, .ref 281), (1, .ref 4), (2, .int x3)] := ⟨_, rfl, LK.rf⟩
  rw [← elv]
  clear elv
  have L := L9
  refine j_V.ldL fp4_M fp4_0 rfl (i := 0) (kd := 2) (v := .ref 281) (pcJ := 1) rfl L rfl rfl rfl ?_
  refine j_V.getK fp4_M fp4_1 (ci := 1) (j := 0) rfl K rfl rfl ?_
  refine j_V.ldL fp4_M fp4_4 rfl (i := 1) (kd := 2) (v := .ref 4) (pcJ := 5) rfl L rfl rfl rfl ?_
  refine j_V.cl fp4_M fp4_5 rfl (md := 3) (mj := 61) rfl (by decide) yts_M (As := [.ref 282, .ref 4]) (rest := []) (jk_spl3 (K.at rfl) rfl rfl rfl (Nat.le_of_ble_eq_true rfl) (Nat.le_of_ble_eq_true rfl)) (fun d => ht_cp R4 Q) ?_
  rintro r h9 ⟨rfl, T9, F9⟩
  refine hS9.opn T9 (fun mi shu bus lks rl pev rk sta ph sp ce du he ri us cm lf lkd row sea pms pmm pmt pst pwa prs prr pfa CS hl4 V => ?_)
  have K9 : kA h9 [(281, .inl (1, [.ref 282, .ref 307, .ref 323, .ref 324])), (282, .inl (7, [.ref 343, .int mi, .int shu, .int bus, .ref 283, .ref 284, .ref 285, .ref 286, .ref 287, .ref 288, .ref 289, .ref 290, .ref 291, .ref 292, .ref 293, .int lks, .ref 294, .ref 295, .ref 298]))] := ⟨(F9 281 (by decide)).trans C281, CS.1, trivial⟩
  have K : KN h9 [(281, .inl (1, [.ref 282, .ref 307, .ref 323, .ref 324])), (282, .inl (7, [.ref 343, .int mi, .int shu, .int bus, .ref 283, .ref 284, .ref 285, .ref 286, .ref 287, .ref 288, .ref 289, .ref 290, .ref 291, .ref 292, .ref 293, .int lks, .ref 294, .ref 295, .ref 298]))] h9 := K9.K
  show j_V jP _ 6 8 lv [] h9 _
  refine j_V.ldL fp4_M fp4_8 rfl (i := 0) (kd := 2) (v := .ref 281) (pcJ := 9) rfl L rfl rfl rfl ?_
  refine j_V.getK fp4_M fp4_9 (ci := 1) (j := 0) rfl K rfl rfl ?_
  refine j_V.one fp4_M fp4_12 (by decide) (pcJ := 15) (stJ := [.int 300, .ref 282]) rfl ?_
  refine j_V.ldL fp4_M fp4_15 rfl (i := 2) (kd := 0) (v := .int x3) (pcJ := 16) rfl L rfl rfl rfl ?_
  refine j_V.one fp4_M fp4_16 (by decide) (pcJ := 17) (stJ := [.int 1, .int x3, .int 300, .ref 282]) rfl ?_
  have C281x : h9[281]? = some (.inl (1, [.ref 282, .ref 307, .ref 323, .ref 324])) := (F9 281 (by decide)).trans C281
  have T2 := T9
  have Y2 : hY9 343 n S w h9 := Y4.fr (fun x _ _ => F9 x (by omega))
  have hm2 := hm
  refine j_V.cl fp4_M fp4_17 rfl (md := 3) (mj := 92) rfl (by decide) xd45_M (As := [.ref 282, .int 300, .int x3, .int 1]) (rest := []) (jk_spl3 (K.at rfl) rfl rfl rfl (Nat.le_of_ble_eq_true rfl) (Nat.le_of_ble_eq_true rfl)) (fun d => hv_xd (k := 300) (e := true) T2 Y2 hm2 hb x3 _ rfl) ?_
  rintro r h8 ⟨rfl, T8, Y8, -, F8⟩
  refine hS9.opn T8 (fun miq shuq busq lksq rlq pevq rkq staq phq spq ceq duq heq riq usq cmq lfq lkdq rowq seaq pmsq pmmq pmtq pstq pwaq prsq prrq pfaq CS8 _ _ => ?_)
  have K9 : kA h8 [(281, .inl (1, [.ref 282, .ref 307, .ref 323, .ref 324])), (282, .inl (7, [.ref 343, .int miq, .int shuq, .int busq, .ref 283, .ref 284, .ref 285, .ref 286, .ref 287, .ref 288, .ref 289, .ref 290, .ref 291, .ref 292, .ref 293, .int lksq, .ref 294, .ref 295, .ref 298]))] := ⟨(F8 281 (by decide)).trans C281x, CS8.1, trivial⟩
  have K : KN h8 [(281, .inl (1, [.ref 282, .ref 307, .ref 323, .ref 324])), (282, .inl (7, [.ref 343, .int miq, .int shuq, .int busq, .ref 283, .ref 284, .ref 285, .ref 286, .ref 287, .ref 288, .ref 289, .ref 290, .ref 291, .ref 292, .ref 293, .int lksq, .ref 294, .ref 295, .ref 298]))] h8 := K9.K
  show j_V jP _ 6 20 lv [.int (m_price (m_adv n x3 true 300 w))] h8 _
  refine j_V.one fp4_M fp4_20 (by decide) (pcJ := 21) (stJ := []) rfl ?_
  refine j_V.ldL fp4_M fp4_21 rfl (i := 0) (kd := 2) (v := .ref 281) (pcJ := 22) rfl L rfl rfl rfl ?_
  refine j_V.getK fp4_M fp4_22 (ci := 1) (j := 0) rfl K rfl rfl ?_
  refine j_V.ret fp4_M fp4_25 rfl rfl ?_
  exact ⟨rfl, T8, Y8, fun x g => (F8 x g).trans (F9 x g)⟩
set_option maxRecDepth 1000000 in
theorem hp_held_343 {g0 : J_H} {n S m d : Nat} {w : List Int32} (P : hF 343 n S w g0) (hm : gN w 201 = nI m) {t : Nat} {x3 : Int32} (ht : t < n) (hb : m + 300 < 2 ^ 30) : j_V jP d 8 0 (lv_args 0 [.ref 281, .ref 4, .int (nI t), .int x3]) [] g0 (fun rv h' => rv = some (.int (pE n (w.set (56 + 28 * t + 10) (gN w 201 + x3)))) ∧ hT9 282 0 h' ∧ ∀ x, (x < 282 ∨ 307 ≤ x) → h'[x]? = g0[x]?) := by
  obtain ⟨R4, Y4, Q, C281⟩ := P
  have P : hF 343 n S w g0 := ⟨R4, Y4, Q, C281⟩
  refine hT9.opn Q (fun ly miz shuz busz lksz rlz pevz rkz staz phz spz cez duz hez riz usz cmz lfz lkdz rowz seaz pmsz pmmz pmtz pstz pwaz prsz prrz pfaz CT _ _ => ?_)
  refine hS9.opn R4 (fun miN shuN busN lksN rlN pevN rkN staN phN spN ceN duN heN riN usN cmN lfN lkdN rowN seaN pmsN pmmN pmtN pstN pwaN prsN prrN pfaN CN hln VN => ?_)
  have hmiN : miN = gN w 201 := VN.2.2.1.1
  have K9 : kA g0 [(4, .inl (7, [.ref 343, .int miN, .int shuN, .int busN, .ref 5, .ref 6, .ref 7, .ref 8, .ref 9, .ref 10, .ref 11, .ref 12, .ref 13, .ref 14, .ref 15, .int lksN, .ref 16, .ref 17, .ref 20])), (281, .inl (1, [.ref 282, .ref 307, .ref 323, .ref 324])), (282, .inl (7, [ly, .int miz, .int shuz, .int busz, .ref 283, .ref 284, .ref 285, .ref 286, .ref 287, .ref 288, .ref 289, .ref 290, .ref 291, .ref 292, .ref 293, .int lksz, .ref 294, .ref 295, .ref 298]))] := ⟨CN.1, C281, CT.1, trivial⟩
  have K : KN g0 [(4, .inl (7, [.ref 343, .int miN, .int shuN, .int busN, .ref 5, .ref 6, .ref 7, .ref 8, .ref 9, .ref 10, .ref 11, .ref 12, .ref 13, .ref 14, .ref 15, .int lksN, .ref 16, .ref 17, .ref 20])), (281, .inl (1, [.ref 282, .ref 307, .ref 323, .ref 324])), (282, .inl (7, [ly, .int miz, .int shuz, .int busz, .ref 283, .ref 284, .ref 285, .ref 286, .ref 287, .ref 288, .ref 289, .ref 290, .ref 291, .ref 292, .ref 293, .int lksz, .ref 294, .ref 295, .ref 298]))] g0 := K9.K
  show j_V jP d 8 0 [(0, .ref 281), (1, .ref 4), (2, .int (nI t)), (3, .int x3)] [] g0 _
  obtain ⟨lv, elv, L9⟩ : ∃ lv, lv = [(0, .ref 281), (1, .ref 4), (2, .int (nI t)), (3, .int x3)] ∧ LK lv [(0, .ref 281), (1, .ref 4), (2, .int (nI t)), (3, .int x3)] := ⟨_, rfl, LK.rf⟩
  rw [← elv]
  clear elv
  have L := L9
  refine j_V.ldL fp1_M fp1_0 rfl (i := 0) (kd := 2) (v := .ref 281) (pcJ := 1) rfl L rfl rfl rfl ?_
  refine j_V.getK fp1_M fp1_1 (ci := 1) (j := 0) rfl K rfl rfl ?_
  refine j_V.ldL fp1_M fp1_4 rfl (i := 1) (kd := 2) (v := .ref 4) (pcJ := 5) rfl L rfl rfl rfl ?_
  refine j_V.cl fp1_M fp1_5 rfl (md := 3) (mj := 61) rfl (by decide) yts_M (As := [.ref 282, .ref 4]) (rest := []) (jk_spl3 (K.at rfl) rfl rfl rfl (Nat.le_of_ble_eq_true rfl) (Nat.le_of_ble_eq_true rfl)) (fun d => ht_cp R4 Q) ?_
  rintro r h9 ⟨rfl, T9, F9⟩
  refine hS9.opn T9 (fun mi shu bus lks rl pev rk sta ph sp ce du he ri us cm lf lkd row sea pms pmm pmt pst pwa prs prr pfa CS hl4 V => ?_)
  have K9 : kA h9 [(4, .inl (7, [.ref 343, .int miN, .int shuN, .int busN, .ref 5, .ref 6, .ref 7, .ref 8, .ref 9, .ref 10, .ref 11, .ref 12, .ref 13, .ref 14, .ref 15, .int lksN, .ref 16, .ref 17, .ref 20])), (281, .inl (1, [.ref 282, .ref 307, .ref 323, .ref 324])), (282, .inl (7, [.ref 343, .int mi, .int shu, .int bus, .ref 283, .ref 284, .ref 285, .ref 286, .ref 287, .ref 288, .ref 289, .ref 290, .ref 291, .ref 292, .ref 293, .int lks, .ref 294, .ref 295, .ref 298])), (289, .inr (.inl (0, he)))] := ⟨(F9 4 (by decide)).trans CN.1, (F9 281 (by decide)).trans C281, CS.1, CS.2.2.2.2.2.2.2.1, trivial⟩
  have K : KN h9 [(4, .inl (7, [.ref 343, .int miN, .int shuN, .int busN, .ref 5, .ref 6, .ref 7, .ref 8, .ref 9, .ref 10, .ref 11, .ref 12, .ref 13, .ref 14, .ref 15, .int lksN, .ref 16, .ref 17, .ref 20])), (281, .inl (1, [.ref 282, .ref 307, .ref 323, .ref 324])), (282, .inl (7, [.ref 343, .int mi, .int shu, .int bus, .ref 283, .ref 284, .ref 285, .ref 286, .ref 287, .ref 288, .ref 289, .ref 290, .ref 291, .ref 292, .ref 293, .int lks, .ref 294, .ref 295, .ref 298])), (289, .inr (.inl (0, he)))] h9 := K9.K
  show j_V jP _ 8 8 lv [] h9 _
  refine j_V.ldL fp1_M fp1_8 rfl (i := 0) (kd := 2) (v := .ref 281) (pcJ := 9) rfl L rfl rfl rfl ?_
  refine j_V.getK fp1_M fp1_9 (ci := 1) (j := 0) rfl K rfl rfl ?_
  refine j_V.getK fp1_M fp1_12 (ci := 7) (j := 10) rfl K rfl rfl ?_
  refine j_V.ldL fp1_M fp1_15 rfl (i := 2) (kd := 0) (v := .int (nI t)) (pcJ := 16) rfl L rfl rfl rfl ?_
  refine j_V.ldL fp1_M fp1_16 rfl (i := 1) (kd := 2) (v := .ref 4) (pcJ := 17) rfl L rfl rfl rfl ?_
  refine j_V.getK fp1_M fp1_17 (ci := 7) (j := 1) rfl K rfl rfl ?_
  refine j_V.ldL fp1_M fp1_20 rfl (i := 3) (kd := 0) (v := .int x3) (pcJ := 21) rfl L rfl rfl rfl ?_
  refine j_V.one fp1_M fp1_21 (by decide) (pcJ := 22) (stJ := [.int (miN + x3), .int (nI t), .ref 289]) rfl ?_
  refine j_V.isA fp1_M fp1_22 (k' := [(4, .inl (7, [.ref 343, .int miN, .int shuN, .int busN, .ref 5, .ref 6, .ref 7, .ref 8, .ref 9, .ref 10, .ref 11, .ref 12, .ref 13, .ref 14, .ref 15, .int lksN, .ref 16, .ref 17, .ref 20])), (281, .inl (1, [.ref 282, .ref 307, .ref 323, .ref 324])), (282, .inl (7, [.ref 343, .int mi, .int shu, .int bus, .ref 283, .ref 284, .ref 285, .ref 286, .ref 287, .ref 288, .ref 289, .ref 290, .ref 291, .ref 292, .ref 293, .int lks, .ref 294, .ref 295, .ref 298])), (289, .inr (.inl (0, (sA he (nI t) (miN + x3)))))]) K rfl rfl (fun h K => ?_)
  refine j_V.ldL fp1_M fp1_23 rfl (i := 0) (kd := 2) (v := .ref 281) (pcJ := 24) rfl L rfl rfl rfl ?_
  refine j_V.getK fp1_M fp1_24 (ci := 1) (j := 0) rfl K rfl rfl ?_
  refine j_V.one fp1_M fp1_27 (by decide) (pcJ := 30) (stJ := [.int 300, .ref 282]) rfl ?_
  refine j_V.one fp1_M fp1_30 (by decide) (pcJ := 31) (stJ := [.int 1, .int 300, .ref 282]) rfl ?_
  refine j_V.one fp1_M fp1_31 (by decide) (pcJ := 32) (stJ := [.int 1, .int 1, .int 300, .ref 282]) rfl ?_
  have h5 := V.1.n5
  rw [show sA he (nI t) (miN + x3) = he.set t (miN + x3) from sA_n (by omega)] at K
  have V9 := V.sHeld hl4.2.2.1 ht (miN + x3)
  have VW := V.1
  have st : (∀ s j, s < 7 → j < 5 → fs (w.set (56 + 28 * t + 10) (miN + x3)) s j = fs w s j) ∧ ∀ u j, u < n → j < 6 → j ≠ 3 → ft (w.set (56 + 28 * t + 10) (miN + x3)) u j = ft w u j := ⟨fun s j _ _ => gN_ne (by omega), fun u j _ _ _ => gN_ne (by omega)⟩
  have C281x : h[281]? = some (.inl (1, [.ref 282, .ref 307, .ref 323, .ref 324])) := (K.at rfl)
  have F7 : ∀ x, x ≠ 289 → h[x]? = h9[x]? := fun x g => KN.off K9 K (lke (lke (lke (lkn (fun z => g z.symm) rfl))))
  have T2 : hS9 282 343 0 n S (w.set (56 + 28 * t + 10) (miN + x3)) h := ⟨mi, shu, bus, lks, rl, pev, rk, sta, ph, sp, ce, du, _, ri, us, cm, lf, lkd, row, sea, pms, pmm, pmt, pst, pwa, prs, prr, pfa, ⟨K.at rfl, (K.2.1 283 rfl).trans CS.2.1, (K.2.1 284 rfl).trans CS.2.2.1, (K.2.1 285 rfl).trans CS.2.2.2.1, (K.2.1 286 rfl).trans CS.2.2.2.2.1, (K.2.1 287 rfl).trans CS.2.2.2.2.2.1, (K.2.1 288 rfl).trans CS.2.2.2.2.2.2.1, K.at rfl, (K.2.1 290 rfl).trans CS.2.2.2.2.2.2.2.2.1, (K.2.1 291 rfl).trans CS.2.2.2.2.2.2.2.2.2.1, (K.2.1 292 rfl).trans CS.2.2.2.2.2.2.2.2.2.2.1, (K.2.1 293 rfl).trans CS.2.2.2.2.2.2.2.2.2.2.2.1, (K.2.1 294 rfl).trans CS.2.2.2.2.2.2.2.2.2.2.2.2.1, (K.2.1 295 rfl).trans CS.2.2.2.2.2.2.2.2.2.2.2.2.2.1, (K.2.1 296 rfl).trans CS.2.2.2.2.2.2.2.2.2.2.2.2.2.2.1, (K.2.1 297 rfl).trans CS.2.2.2.2.2.2.2.2.2.2.2.2.2.2.2.1, (K.2.1 298 rfl).trans CS.2.2.2.2.2.2.2.2.2.2.2.2.2.2.2.2.1, (K.2.1 299 rfl).trans CS.2.2.2.2.2.2.2.2.2.2.2.2.2.2.2.2.2.1, (K.2.1 300 rfl).trans CS.2.2.2.2.2.2.2.2.2.2.2.2.2.2.2.2.2.2.1, (K.2.1 301 rfl).trans CS.2.2.2.2.2.2.2.2.2.2.2.2.2.2.2.2.2.2.2.1, (K.2.1 302 rfl).trans CS.2.2.2.2.2.2.2.2.2.2.2.2.2.2.2.2.2.2.2.2.1, (K.2.1 303 rfl).trans CS.2.2.2.2.2.2.2.2.2.2.2.2.2.2.2.2.2.2.2.2.2.1, (K.2.1 304 rfl).trans CS.2.2.2.2.2.2.2.2.2.2.2.2.2.2.2.2.2.2.2.2.2.2.1, (K.2.1 305 rfl).trans CS.2.2.2.2.2.2.2.2.2.2.2.2.2.2.2.2.2.2.2.2.2.2.2.1, (K.2.1 306 rfl).trans CS.2.2.2.2.2.2.2.2.2.2.2.2.2.2.2.2.2.2.2.2.2.2.2.2⟩, ⟨hl4.1, hl4.2.1, (List.length_set ..).trans hl4.2.2.1, hl4.2.2.2⟩, V9⟩
  have Y2 : hY9 343 n S (w.set (56 + 28 * t + 10) (miN + x3)) h := (Y4.to VW.g V9.1.g st.1 st.2).fr (fun x _ _ => (F7 x (by omega)).trans (F9 x (by omega)))
  have hm2 : gN ((w.set (56 + 28 * t + 10) (miN + x3))) 201 = nI m := (gN_ne (by omega)).trans hm
  refine j_V.cl fp1_M fp1_32 rfl (md := 3) (mj := 92) rfl (by decide) xd45_M (As := [.ref 282, .int 300, .int 1, .int 1]) (rest := []) (jk_spl3 (K.at rfl) rfl rfl rfl (Nat.le_of_ble_eq_true rfl) (Nat.le_of_ble_eq_true rfl)) (fun d => hv_xd (k := 300) (e := true) T2 Y2 hm2 hb 1 _ rfl) ?_
  rintro r h8 ⟨rfl, T8, Y8, -, F8⟩
  refine hS9.opn T8 (fun miq shuq busq lksq rlq pevq rkq staq phq spq ceq duq heq riq usq cmq lfq lkdq rowq seaq pmsq pmmq pmtq pstq pwaq prsq prrq pfaq CS8 _ _ => ?_)
  have K9 : kA h8 [(281, .inl (1, [.ref 282, .ref 307, .ref 323, .ref 324])), (282, .inl (7, [.ref 343, .int miq, .int shuq, .int busq, .ref 283, .ref 284, .ref 285, .ref 286, .ref 287, .ref 288, .ref 289, .ref 290, .ref 291, .ref 292, .ref 293, .int lksq, .ref 294, .ref 295, .ref 298]))] := ⟨(F8 281 (by decide)).trans C281x, CS8.1, trivial⟩
  have K : KN h8 [(281, .inl (1, [.ref 282, .ref 307, .ref 323, .ref 324])), (282, .inl (7, [.ref 343, .int miq, .int shuq, .int busq, .ref 283, .ref 284, .ref 285, .ref 286, .ref 287, .ref 288, .ref 289, .ref 290, .ref 291, .ref 292, .ref 293, .int lksq, .ref 294, .ref 295, .ref 298]))] h8 := K9.K
  show j_V jP _ 8 35 lv [.int (m_price (m_adv n 1 true 300 (w.set (56 + 28 * t + 10) (miN + x3))))] h8 _
  refine j_V.ri fp1_M fp1_35 ?_
  exact ⟨by rw [pE_adv, ← hmiN], T8.sh, fun x g => (F8 x g).trans ((F7 x (by omega)).trans (F9 x g))⟩
set_option maxRecDepth 1000000 in
theorem hp_start_343 {g0 : J_H} {n S m d : Nat} {w : List Int32} (P : hF 343 n S w g0) (hm : gN w 201 = nI m) {t : Nat} {x3 : Int32} (ht : t < n) (hb : m + 300 < 2 ^ 30) : j_V jP d 9 0 (lv_args 0 [.ref 281, .ref 4, .int (nI t), .int x3]) [] g0 (fun rv h' => rv = some (.int (pE n (w.set (56 + 28 * t + 3) x3))) ∧ hT9 282 0 h' ∧ ∀ x, (x < 282 ∨ 307 ≤ x) → h'[x]? = g0[x]?) := by
  obtain ⟨R4, Y4, Q, C281⟩ := P
  have P : hF 343 n S w g0 := ⟨R4, Y4, Q, C281⟩
  refine hT9.opn Q (fun ly miz shuz busz lksz rlz pevz rkz staz phz spz cez duz hez riz usz cmz lfz lkdz rowz seaz pmsz pmmz pmtz pstz pwaz prsz prrz pfaz CT _ _ => ?_)
  have K9 : kA g0 [(281, .inl (1, [.ref 282, .ref 307, .ref 323, .ref 324])), (282, .inl (7, [ly, .int miz, .int shuz, .int busz, .ref 283, .ref 284, .ref 285, .ref 286, .ref 287, .ref 288, .ref 289, .ref 290, .ref 291, .ref 292, .ref 293, .int lksz, .ref 294, .ref 295, .ref 298]))] := ⟨C281, CT.1, trivial⟩
  have K : KN g0 [(281, .inl (1, [.ref 282, .ref 307, .ref 323, .ref 324])), (282, .inl (7, [ly, .int miz, .int shuz, .int busz, .ref 283, .ref 284, .ref 285, .ref 286, .ref 287, .ref 288, .ref 289, .ref 290, .ref 291, .ref 292, .ref 293, .int lksz, .ref 294, .ref 295, .ref 298]))] g0 := K9.K
  show j_V jP d 9 0 [(0, .ref 281), (1, .ref 4), (2, .int (nI t)), (3, .int x3)] [] g0 _
  obtain ⟨lv, elv, L9⟩ : ∃ lv, lv = [(0, .ref 281), (1, .ref 4), (2, .int (nI t)), (3, .int x3)] ∧ LK lv [(0, .ref 281), (1, .ref 4), (2, .int (nI t)), (3, .int x3)] := ⟨_, rfl, LK.rf⟩
  rw [← elv]
  clear elv
  have L := L9
  refine j_V.ldL fp2_M fp2_0 rfl (i := 0) (kd := 2) (v := .ref 281) (pcJ := 1) rfl L rfl rfl rfl ?_
  refine j_V.getK fp2_M fp2_1 (ci := 1) (j := 0) rfl K rfl rfl ?_
  refine j_V.ldL fp2_M fp2_4 rfl (i := 1) (kd := 2) (v := .ref 4) (pcJ := 5) rfl L rfl rfl rfl ?_
  refine j_V.cl fp2_M fp2_5 rfl (md := 3) (mj := 61) rfl (by decide) yts_M (As := [.ref 282, .ref 4]) (rest := []) (jk_spl3 (K.at rfl) rfl rfl rfl (Nat.le_of_ble_eq_true rfl) (Nat.le_of_ble_eq_true rfl)) (fun d => ht_cp R4 Q) ?_
  rintro r h9 ⟨rfl, T9, F9⟩
  refine hS9.opn T9 (fun mi shu bus lks rl pev rk sta ph sp ce du he ri us cm lf lkd row sea pms pmm pmt pst pwa prs prr pfa CS hl4 V => ?_)
  have K9 : kA h9 [(281, .inl (1, [.ref 282, .ref 307, .ref 323, .ref 324])), (282, .inl (7, [.ref 343, .int mi, .int shu, .int bus, .ref 283, .ref 284, .ref 285, .ref 286, .ref 287, .ref 288, .ref 289, .ref 290, .ref 291, .ref 292, .ref 293, .int lks, .ref 294, .ref 295, .ref 298])), (284, .inr (.inl (0, sta)))] := ⟨(F9 281 (by decide)).trans C281, CS.1, CS.2.2.1, trivial⟩
  have K : KN h9 [(281, .inl (1, [.ref 282, .ref 307, .ref 323, .ref 324])), (282, .inl (7, [.ref 343, .int mi, .int shu, .int bus, .ref 283, .ref 284, .ref 285, .ref 286, .ref 287, .ref 288, .ref 289, .ref 290, .ref 291, .ref 292, .ref 293, .int lks, .ref 294, .ref 295, .ref 298])), (284, .inr (.inl (0, sta)))] h9 := K9.K
  show j_V jP _ 9 8 lv [] h9 _
  refine j_V.ldL fp2_M fp2_8 rfl (i := 0) (kd := 2) (v := .ref 281) (pcJ := 9) rfl L rfl rfl rfl ?_
  refine j_V.getK fp2_M fp2_9 (ci := 1) (j := 0) rfl K rfl rfl ?_
  refine j_V.getK fp2_M fp2_12 (ci := 7) (j := 5) rfl K rfl rfl ?_
  refine j_V.ldL fp2_M fp2_15 rfl (i := 2) (kd := 0) (v := .int (nI t)) (pcJ := 16) rfl L rfl rfl rfl ?_
  refine j_V.ldL fp2_M fp2_16 rfl (i := 3) (kd := 0) (v := .int x3) (pcJ := 17) rfl L rfl rfl rfl ?_
  refine j_V.isA fp2_M fp2_17 (k' := [(281, .inl (1, [.ref 282, .ref 307, .ref 323, .ref 324])), (282, .inl (7, [.ref 343, .int mi, .int shu, .int bus, .ref 283, .ref 284, .ref 285, .ref 286, .ref 287, .ref 288, .ref 289, .ref 290, .ref 291, .ref 292, .ref 293, .int lks, .ref 294, .ref 295, .ref 298])), (284, .inr (.inl (0, (sA sta (nI t) x3))))]) K rfl rfl (fun h K => ?_)
  refine j_V.ldL fp2_M fp2_18 rfl (i := 0) (kd := 2) (v := .ref 281) (pcJ := 19) rfl L rfl rfl rfl ?_
  refine j_V.getK fp2_M fp2_19 (ci := 1) (j := 0) rfl K rfl rfl ?_
  refine j_V.one fp2_M fp2_22 (by decide) (pcJ := 25) (stJ := [.int 300, .ref 282]) rfl ?_
  refine j_V.one fp2_M fp2_25 (by decide) (pcJ := 26) (stJ := [.int 1, .int 300, .ref 282]) rfl ?_
  refine j_V.one fp2_M fp2_26 (by decide) (pcJ := 27) (stJ := [.int 1, .int 1, .int 300, .ref 282]) rfl ?_
  have h5 := V.1.n5
  rw [show sA sta (nI t) x3 = sta.set t x3 from sA_n (by omega)] at K
  have V9 := V.sStart hl4.2.1 ht x3
  have VW := V.1
  have st : (∀ s j, s < 7 → j < 5 → fs (w.set (56 + 28 * t + 3) x3) s j = fs w s j) ∧ ∀ u j, u < n → j < 6 → j ≠ 3 → ft (w.set (56 + 28 * t + 3) x3) u j = ft w u j := ⟨fun s j _ _ => gN_ne (by omega), fun u j _ _ _ => gN_ne (by omega)⟩
  have C281x : h[281]? = some (.inl (1, [.ref 282, .ref 307, .ref 323, .ref 324])) := (K.at rfl)
  have F7 : ∀ x, x ≠ 284 → h[x]? = h9[x]? := fun x g => KN.off K9 K (lke (lke (lkn (fun z => g z.symm) rfl)))
  have T2 : hS9 282 343 0 n S (w.set (56 + 28 * t + 3) x3) h := ⟨mi, shu, bus, lks, rl, pev, rk, _, ph, sp, ce, du, he, ri, us, cm, lf, lkd, row, sea, pms, pmm, pmt, pst, pwa, prs, prr, pfa, ⟨K.at rfl, (K.2.1 283 rfl).trans CS.2.1, K.at rfl, (K.2.1 285 rfl).trans CS.2.2.2.1, (K.2.1 286 rfl).trans CS.2.2.2.2.1, (K.2.1 287 rfl).trans CS.2.2.2.2.2.1, (K.2.1 288 rfl).trans CS.2.2.2.2.2.2.1, (K.2.1 289 rfl).trans CS.2.2.2.2.2.2.2.1, (K.2.1 290 rfl).trans CS.2.2.2.2.2.2.2.2.1, (K.2.1 291 rfl).trans CS.2.2.2.2.2.2.2.2.2.1, (K.2.1 292 rfl).trans CS.2.2.2.2.2.2.2.2.2.2.1, (K.2.1 293 rfl).trans CS.2.2.2.2.2.2.2.2.2.2.2.1, (K.2.1 294 rfl).trans CS.2.2.2.2.2.2.2.2.2.2.2.2.1, (K.2.1 295 rfl).trans CS.2.2.2.2.2.2.2.2.2.2.2.2.2.1, (K.2.1 296 rfl).trans CS.2.2.2.2.2.2.2.2.2.2.2.2.2.2.1, (K.2.1 297 rfl).trans CS.2.2.2.2.2.2.2.2.2.2.2.2.2.2.2.1, (K.2.1 298 rfl).trans CS.2.2.2.2.2.2.2.2.2.2.2.2.2.2.2.2.1, (K.2.1 299 rfl).trans CS.2.2.2.2.2.2.2.2.2.2.2.2.2.2.2.2.2.1, (K.2.1 300 rfl).trans CS.2.2.2.2.2.2.2.2.2.2.2.2.2.2.2.2.2.2.1, (K.2.1 301 rfl).trans CS.2.2.2.2.2.2.2.2.2.2.2.2.2.2.2.2.2.2.2.1, (K.2.1 302 rfl).trans CS.2.2.2.2.2.2.2.2.2.2.2.2.2.2.2.2.2.2.2.2.1, (K.2.1 303 rfl).trans CS.2.2.2.2.2.2.2.2.2.2.2.2.2.2.2.2.2.2.2.2.2.1, (K.2.1 304 rfl).trans CS.2.2.2.2.2.2.2.2.2.2.2.2.2.2.2.2.2.2.2.2.2.2.1, (K.2.1 305 rfl).trans CS.2.2.2.2.2.2.2.2.2.2.2.2.2.2.2.2.2.2.2.2.2.2.2.1, (K.2.1 306 rfl).trans CS.2.2.2.2.2.2.2.2.2.2.2.2.2.2.2.2.2.2.2.2.2.2.2.2⟩, ⟨hl4.1, (List.length_set ..).trans hl4.2.1, hl4.2.2⟩, V9⟩
  have Y2 : hY9 343 n S (w.set (56 + 28 * t + 3) x3) h := (Y4.to VW.g V9.1.g st.1 st.2).fr (fun x _ _ => (F7 x (by omega)).trans (F9 x (by omega)))
  have hm2 : gN ((w.set (56 + 28 * t + 3) x3)) 201 = nI m := (gN_ne (by omega)).trans hm
  refine j_V.cl fp2_M fp2_27 rfl (md := 3) (mj := 92) rfl (by decide) xd45_M (As := [.ref 282, .int 300, .int 1, .int 1]) (rest := []) (jk_spl3 (K.at rfl) rfl rfl rfl (Nat.le_of_ble_eq_true rfl) (Nat.le_of_ble_eq_true rfl)) (fun d => hv_xd (k := 300) (e := true) T2 Y2 hm2 hb 1 _ rfl) ?_
  rintro r h8 ⟨rfl, T8, Y8, -, F8⟩
  refine hS9.opn T8 (fun miq shuq busq lksq rlq pevq rkq staq phq spq ceq duq heq riq usq cmq lfq lkdq rowq seaq pmsq pmmq pmtq pstq pwaq prsq prrq pfaq CS8 _ _ => ?_)
  have K9 : kA h8 [(281, .inl (1, [.ref 282, .ref 307, .ref 323, .ref 324])), (282, .inl (7, [.ref 343, .int miq, .int shuq, .int busq, .ref 283, .ref 284, .ref 285, .ref 286, .ref 287, .ref 288, .ref 289, .ref 290, .ref 291, .ref 292, .ref 293, .int lksq, .ref 294, .ref 295, .ref 298]))] := ⟨(F8 281 (by decide)).trans C281x, CS8.1, trivial⟩
  have K : KN h8 [(281, .inl (1, [.ref 282, .ref 307, .ref 323, .ref 324])), (282, .inl (7, [.ref 343, .int miq, .int shuq, .int busq, .ref 283, .ref 284, .ref 285, .ref 286, .ref 287, .ref 288, .ref 289, .ref 290, .ref 291, .ref 292, .ref 293, .int lksq, .ref 294, .ref 295, .ref 298]))] h8 := K9.K
  show j_V jP _ 9 30 lv [.int (m_price (m_adv n 1 true 300 (w.set (56 + 28 * t + 3) x3)))] h8 _
  refine j_V.ri fp2_M fp2_30 ?_
  exact ⟨by rw [pE_adv], T8.sh, fun x g => (F8 x g).trans ((F7 x (by omega)).trans (F9 x g))⟩
set_option maxRecDepth 100000 in
theorem fp5_M : j_meth jP 10 = some (yX1_priceSwapped, cX1_priceSwapped, 5, (some .int), 3, false, 1) := rfl
set_option maxRecDepth 100000 in
theorem fp5_0 : j_code jP 10 0 = some (.aload_n 0) := rfl
set_option maxRecDepth 100000 in
theorem fp5_1 : j_code jP 10 1 = some (.getfield 14) := rfl
set_option maxRecDepth 100000 in
theorem fp5_4 : j_code jP 10 4 = some (.aload_n 1) := rfl
set_option maxRecDepth 100000 in
theorem fp5_5 : j_code jP 10 5 = some (.invokevirtual 34) := rfl
set_option maxRecDepth 100000 in
theorem fp5_8 : j_code jP 10 8 = some (.iconst 0) := rfl
set_option maxRecDepth 100000 in
theorem fp5_9 : j_code jP 10 9 = some (.istore 4) := rfl
set_option maxRecDepth 100000 in
theorem fp5_11 : j_code jP 10 11 = some (.iload 4) := rfl
set_option maxRecDepth 100000 in
theorem fp5_13 : j_code jP 10 13 = some (.iconst 5) := rfl
set_option maxRecDepth 100000 in
theorem fp5_14 : j_code jP 10 14 = some (.if_icmp .ge 56) := rfl
set_option maxRecDepth 100000 in
theorem fp5_17 : j_code jP 10 17 = some (.aload_n 1) := rfl
set_option maxRecDepth 100000 in
theorem fp5_18 : j_code jP 10 18 = some (.getfield 52) := rfl
set_option maxRecDepth 100000 in
theorem fp5_21 : j_code jP 10 21 = some (.iload 4) := rfl
set_option maxRecDepth 100000 in
theorem fp5_23 : j_code jP 10 23 = some (.iaload) := rfl
set_option maxRecDepth 100000 in
theorem fp5_24 : j_code jP 10 24 = some (.iload_n 2) := rfl
set_option maxRecDepth 100000 in
theorem fp5_25 : j_code jP 10 25 = some (.if_icmp .ne 17) := rfl
set_option maxRecDepth 100000 in
theorem fp5_28 : j_code jP 10 28 = some (.aload_n 0) := rfl
set_option maxRecDepth 100000 in
theorem fp5_29 : j_code jP 10 29 = some (.getfield 14) := rfl
set_option maxRecDepth 100000 in
theorem fp5_32 : j_code jP 10 32 = some (.getfield 52) := rfl
set_option maxRecDepth 100000 in
theorem fp5_35 : j_code jP 10 35 = some (.iload 4) := rfl
set_option maxRecDepth 100000 in
theorem fp5_37 : j_code jP 10 37 = some (.iload_n 3) := rfl
set_option maxRecDepth 100000 in
theorem fp5_38 : j_code jP 10 38 = some (.iastore) := rfl
set_option maxRecDepth 100000 in
theorem fp5_39 : j_code jP 10 39 = some (.goto 25) := rfl
set_option maxRecDepth 100000 in
theorem fp5_42 : j_code jP 10 42 = some (.aload_n 1) := rfl
set_option maxRecDepth 100000 in
theorem fp5_43 : j_code jP 10 43 = some (.getfield 52) := rfl
set_option maxRecDepth 100000 in
theorem fp5_46 : j_code jP 10 46 = some (.iload 4) := rfl
set_option maxRecDepth 100000 in
theorem fp5_48 : j_code jP 10 48 = some (.iaload) := rfl
set_option maxRecDepth 100000 in
theorem fp5_49 : j_code jP 10 49 = some (.iload_n 3) := rfl
set_option maxRecDepth 100000 in
theorem fp5_50 : j_code jP 10 50 = some (.if_icmp .ne 14) := rfl
set_option maxRecDepth 100000 in
theorem fp5_53 : j_code jP 10 53 = some (.aload_n 0) := rfl
set_option maxRecDepth 100000 in
theorem fp5_54 : j_code jP 10 54 = some (.getfield 14) := rfl
set_option maxRecDepth 100000 in
theorem fp5_57 : j_code jP 10 57 = some (.getfield 52) := rfl
set_option maxRecDepth 100000 in
theorem fp5_60 : j_code jP 10 60 = some (.iload 4) := rfl
set_option maxRecDepth 100000 in
theorem fp5_62 : j_code jP 10 62 = some (.iload_n 2) := rfl
set_option maxRecDepth 100000 in
theorem fp5_63 : j_code jP 10 63 = some (.iastore) := rfl
set_option maxRecDepth 100000 in
theorem fp5_64 : j_code jP 10 64 = some (.iinc 4 1) := rfl
set_option maxRecDepth 100000 in
theorem fp5_67 : j_code jP 10 67 = some (.goto (-56)) := rfl
set_option maxRecDepth 100000 in
theorem fp5_70 : j_code jP 10 70 = some (.aload_n 0) := rfl
set_option maxRecDepth 100000 in
theorem fp5_71 : j_code jP 10 71 = some (.getfield 14) := rfl
set_option maxRecDepth 100000 in
theorem fp5_74 : j_code jP 10 74 = some (.sipush 300) := rfl
set_option maxRecDepth 100000 in
theorem fp5_77 : j_code jP 10 77 = some (.iconst 1) := rfl
set_option maxRecDepth 100000 in
theorem fp5_78 : j_code jP 10 78 = some (.iconst 1) := rfl
set_option maxRecDepth 100000 in
theorem fp5_79 : j_code jP 10 79 = some (.invokevirtual 38) := rfl
set_option maxRecDepth 100000 in
theorem fp5_82 : j_code jP 10 82 = some (.ireturn) := rfl
set_option maxRecDepth 100000 in
theorem fp6_M : j_meth jP 12 = some (yX1_priceWithTrack, cX1_priceWithTrack, 4, (some .int), 3, false, 1) := rfl
set_option maxRecDepth 100000 in
theorem fp6_0 : j_code jP 12 0 = some (.aload_n 0) := rfl
set_option maxRecDepth 100000 in
theorem fp6_1 : j_code jP 12 1 = some (.getfield 14) := rfl
set_option maxRecDepth 100000 in
theorem fp6_4 : j_code jP 12 4 = some (.aload_n 1) := rfl
set_option maxRecDepth 100000 in
theorem fp6_5 : j_code jP 12 5 = some (.invokevirtual 34) := rfl
set_option maxRecDepth 100000 in
theorem fp6_8 : j_code jP 12 8 = some (.aload_n 0) := rfl
set_option maxRecDepth 100000 in
theorem fp6_9 : j_code jP 12 9 = some (.getfield 23) := rfl
set_option maxRecDepth 100000 in
theorem fp6_12 : j_code jP 12 12 = some (.aload_n 1) := rfl
set_option maxRecDepth 100000 in
theorem fp6_13 : j_code jP 12 13 = some (.getfield 63) := rfl
set_option maxRecDepth 100000 in
theorem fp6_16 : j_code jP 12 16 = some (.iload_n 2) := rfl
set_option maxRecDepth 100000 in
theorem fp6_17 : j_code jP 12 17 = some (.iload_n 3) := rfl
set_option maxRecDepth 100000 in
theorem fp6_18 : j_code jP 12 18 = some (.invokevirtual 66) := rfl
set_option maxRecDepth 100000 in
theorem fp6_21 : j_code jP 12 21 = some (.aload_n 0) := rfl
set_option maxRecDepth 100000 in
theorem fp6_22 : j_code jP 12 22 = some (.getfield 14) := rfl
set_option maxRecDepth 100000 in
theorem fp6_25 : j_code jP 12 25 = some (.aload_n 0) := rfl
set_option maxRecDepth 100000 in
theorem fp6_26 : j_code jP 12 26 = some (.getfield 23) := rfl
set_option maxRecDepth 100000 in
theorem fp6_29 : j_code jP 12 29 = some (.putfield 63) := rfl
set_option maxRecDepth 100000 in
theorem fp6_32 : j_code jP 12 32 = some (.aload_n 0) := rfl
set_option maxRecDepth 100000 in
theorem fp6_33 : j_code jP 12 33 = some (.getfield 14) := rfl
set_option maxRecDepth 100000 in
theorem fp6_36 : j_code jP 12 36 = some (.sipush 300) := rfl
set_option maxRecDepth 100000 in
theorem fp6_39 : j_code jP 12 39 = some (.iconst 1) := rfl
set_option maxRecDepth 100000 in
theorem fp6_40 : j_code jP 12 40 = some (.iconst 1) := rfl
set_option maxRecDepth 100000 in
theorem fp6_41 : j_code jP 12 41 = some (.invokevirtual 38) := rfl
set_option maxRecDepth 100000 in
theorem fp6_44 : j_code jP 12 44 = some (.ireturn) := rfl
theorem sw_off {n S t q : Nat} {w : List Int32} (H : wf n S w) (ht : t < n) (hq : q < n) : ∀ j, ¬ (196 ≤ j ∧ j < 201) → gN (sA (sA w (196 + m_rankOf w (nI t)) (nI q)) (196 + m_rankOf w (nI q)) (nI t)) j = gN w j := by
  have h5 := H.n5
  obtain ⟨i, hi, e1, -⟩ := rank_at H ht
  obtain ⟨k, hk, e3, -⟩ := rank_at H hq
  intro j hj
  rw [e1, e3, show (196 : Int32) + nI i = nI (196 + i) from nI_add 196 i, show (196 : Int32) + nI k = nI (196 + k) from nI_add 196 k, sA_n (by omega), sA_n (by omega), gN_ne (by omega), gN_ne (by omega)]
def x_swl (rkN : List Int32) (x2 x3 : Int32) : Nat → Nat → List Int32 → List Int32
  | 0, _, rk => rk
  | f + 1, i, rk => x_swl rkN x2 x3 f (i + 1) (if gA rkN (nI i) = x2 then sA rk (nI i) x3 else if gA rkN (nI i) = x3 then sA rk (nI i) x2 else rk)
theorem x_swl_n {rkN : List Int32} {x2 x3 : Int32} : ∀ (f i : Nat) (rk : List Int32), i + f = 5 → rk.length = 5 → (x_swl rkN x2 x3 f i rk).length = 5 ∧ ∀ k, k < 5 → gN (x_swl rkN x2 x3 f i rk) k = if k < i then gN rk k else if gN rkN k = x2 then x3 else if gN rkN k = x3 then x2 else gN rk k
  | 0, i, rk, e, hl => ⟨hl, fun k hk => by rw [if_pos (by omega)]; rfl⟩
  | f + 1, i, rk, e, hl => by
    unfold x_swl
    rw [gA_n (by omega), sA_n (by omega), sA_n (by omega)]
    have hl' : (if gN rkN i = x2 then rk.set i x3 else if gN rkN i = x3 then rk.set i x2 else rk).length = 5 := by
      split
      · rw [List.length_set]; exact hl
      · split
        · rw [List.length_set]; exact hl
        · exact hl
    obtain ⟨a, b⟩ := x_swl_n (rkN := rkN) (x2 := x2) (x3 := x3) f (i + 1) _ (by omega) hl'
    refine ⟨a, fun k hk => ?_⟩
    rw [b k hk]
    by_cases c : k = i
    · subst c
      rw [if_pos (show k < k + 1 by omega), if_neg (show ¬ k < k by omega)]
      by_cases c1 : gN rkN k = x2
      · rw [if_pos c1, if_pos c1, gN_eq (by omega)]
      · rw [if_neg c1, if_neg c1]
        by_cases c2 : gN rkN k = x3
        · rw [if_pos c2, if_pos c2, gN_eq (by omega)]
        · rw [if_neg c2, if_neg c2]
    · have e9 : gN (if gN rkN i = x2 then rk.set i x3 else if gN rkN i = x3 then rk.set i x2 else rk) k = gN rk k := by
        split
        · exact gN_ne (fun z => c z.symm)
        · split
          · exact gN_ne (fun z => c z.symm)
          · rfl
      rw [e9]
      by_cases d : k < i
      · rw [if_pos d, if_pos (by omega)]
      · rw [if_neg d, if_neg (by omega)]
set_option maxRecDepth 1000000 in
theorem hl_swl_327 {d : Nat} {gb : J_H} {x2 x3 miN shuN busN lksN mi shu bus lks : Int32} {rkN : List Int32} {Q : Option Value → J_H → Prop} : ∀ (f i : Nat) (rk : List Int32) {lv : J_L} {h : J_H}, i + f = 5 → LK lv [(0, .ref 281), (1, .ref 4), (2, .int x2), (3, .int x3), (4, .int (nI i))] → KN h [(4, .inl (7, [.ref 327, .int miN, .int shuN, .int busN, .ref 5, .ref 6, .ref 7, .ref 8, .ref 9, .ref 10, .ref 11, .ref 12, .ref 13, .ref 14, .ref 15, .int lksN, .ref 16, .ref 17, .ref 20])), (5, .inr (.inl (0, rkN))), (281, .inl (1, [.ref 282, .ref 307, .ref 323, .ref 324])), (282, .inl (7, [.ref 327, .int mi, .int shu, .int bus, .ref 283, .ref 284, .ref 285, .ref 286, .ref 287, .ref 288, .ref 289, .ref 290, .ref 291, .ref 292, .ref 293, .int lks, .ref 294, .ref 295, .ref 298])), (283, .inr (.inl (0, rk)))] gb → (∀ lv h, LK lv [(0, .ref 281), (1, .ref 4), (2, .int x2), (3, .int x3)] → KN h [(4, .inl (7, [.ref 327, .int miN, .int shuN, .int busN, .ref 5, .ref 6, .ref 7, .ref 8, .ref 9, .ref 10, .ref 11, .ref 12, .ref 13, .ref 14, .ref 15, .int lksN, .ref 16, .ref 17, .ref 20])), (5, .inr (.inl (0, rkN))), (281, .inl (1, [.ref 282, .ref 307, .ref 323, .ref 324])), (282, .inl (7, [.ref 327, .int mi, .int shu, .int bus, .ref 283, .ref 284, .ref 285, .ref 286, .ref 287, .ref 288, .ref 289, .ref 290, .ref 291, .ref 292, .ref 293, .int lks, .ref 294, .ref 295, .ref 298])), (283, .inr (.inl (0, (x_swl rkN x2 x3 f i rk))))] gb → j_V jP d 10 70 lv [] h Q) → j_V jP d 10 11 lv [] h Q := by
  intro f
  induction f with
  | zero =>
    intro i rk lv h e L K kk
    refine j_V.ldL fp5_M fp5_11 rfl (i := 4) (kd := 0) (v := .int (nI i)) (pcJ := 13) rfl L rfl rfl rfl ?_
    refine j_V.one fp5_M fp5_13 (by decide) (pcJ := 14) (stJ := [.int 5, .int (nI i)]) rfl ?_
    refine j_V.icmp fp5_M fp5_14 (t := 70) rfl (fun c14_0 => ?_) (fun c14_0 => ?_)
    · replace c14_0 : ¬ ((nI i) < 5) := jd_ge c14_0
      exact kk _ _ (L.sub ⟨rfl, rfl, rfl, rfl, trivial⟩) K
    · replace c14_0 : (nI i) < 5 := jd_gen c14_0
      exact absurd c14_0 (by rw [show i = 5 by omega]; decide)
  | succ f ih =>
    intro i rk lv h e L K kk
    refine j_V.ldL fp5_M fp5_11 rfl (i := 4) (kd := 0) (v := .int (nI i)) (pcJ := 13) rfl L rfl rfl rfl ?_
    refine j_V.one fp5_M fp5_13 (by decide) (pcJ := 14) (stJ := [.int 5, .int (nI i)]) rfl ?_
    refine j_V.icmp fp5_M fp5_14 (t := 70) rfl (fun c14_0 => ?_) (fun c14_0 => ?_)
    · replace c14_0 : ¬ ((nI i) < 5) := jd_ge c14_0
      exact absurd (show nI i < 5 by rw [show (5 : Int32) = nI 5 from rfl, nI_ltI (by omega) (by omega)]; omega) c14_0
    · replace c14_0 : (nI i) < 5 := jd_gen c14_0
      refine j_V.ldL fp5_M fp5_17 rfl (i := 1) (kd := 2) (v := .ref 4) (pcJ := 18) rfl L rfl rfl rfl ?_
      refine j_V.getK fp5_M fp5_18 (ci := 7) (j := 4) rfl K rfl rfl ?_
      refine j_V.ldL fp5_M fp5_21 rfl (i := 4) (kd := 0) (v := .int (nI i)) (pcJ := 23) rfl L rfl rfl rfl ?_
      refine j_V.iaA fp5_M fp5_23 K rfl ?_
      refine j_V.ldL fp5_M fp5_24 rfl (i := 2) (kd := 0) (v := .int x2) (pcJ := 25) rfl L rfl rfl rfl ?_
      refine j_V.icmp fp5_M fp5_25 (t := 42) rfl (fun c25_0 => ?_) (fun c25_0 => ?_)
      · replace c25_0 : ¬ ((gA rkN (nI i)) = x2) := jd_ne c25_0
        refine j_V.ldL fp5_M fp5_42 rfl (i := 1) (kd := 2) (v := .ref 4) (pcJ := 43) rfl L rfl rfl rfl ?_
        refine j_V.getK fp5_M fp5_43 (ci := 7) (j := 4) rfl K rfl rfl ?_
        refine j_V.ldL fp5_M fp5_46 rfl (i := 4) (kd := 0) (v := .int (nI i)) (pcJ := 48) rfl L rfl rfl rfl ?_
        refine j_V.iaA fp5_M fp5_48 K rfl ?_
        refine j_V.ldL fp5_M fp5_49 rfl (i := 3) (kd := 0) (v := .int x3) (pcJ := 50) rfl L rfl rfl rfl ?_
        refine j_V.icmp fp5_M fp5_50 (t := 64) rfl (fun c50_1 => ?_) (fun c50_1 => ?_)
        · replace c50_1 : ¬ ((gA rkN (nI i)) = x3) := jd_ne c50_1
          refine j_V.inL fp5_M fp5_64 (i := 4) (kl' := [(0, .ref 281), (1, .ref 4), (2, .int x2), (3, .int x3), (4, .int ((nI i) + 1))]) (pcJ := 67) L rfl rfl rfl rfl (fun lv L => ?_)
          refine j_V.gto fp5_M fp5_67 (t := 11) rfl ?_
          rw [nI_1] at L
          rw [show x_swl rkN x2 x3 (f + 1) i rk = x_swl rkN x2 x3 f (i + 1) rk from congrArg (x_swl rkN x2 x3 f (i + 1)) ((if_neg c25_0).trans ((if_neg c50_1).trans (rfl)))] at kk
          exact ih (i + 1) _ (by omega) L K kk
        · replace c50_1 : (gA rkN (nI i)) = x3 := jd_nen c50_1
          refine j_V.ldL fp5_M fp5_53 rfl (i := 0) (kd := 2) (v := .ref 281) (pcJ := 54) rfl L rfl rfl rfl ?_
          refine j_V.getK fp5_M fp5_54 (ci := 1) (j := 0) rfl K rfl rfl ?_
          refine j_V.getK fp5_M fp5_57 (ci := 7) (j := 4) rfl K rfl rfl ?_
          refine j_V.ldL fp5_M fp5_60 rfl (i := 4) (kd := 0) (v := .int (nI i)) (pcJ := 62) rfl L rfl rfl rfl ?_
          refine j_V.ldL fp5_M fp5_62 rfl (i := 2) (kd := 0) (v := .int x2) (pcJ := 63) rfl L rfl rfl rfl ?_
          refine j_V.isA fp5_M fp5_63 (k' := [(4, .inl (7, [.ref 327, .int miN, .int shuN, .int busN, .ref 5, .ref 6, .ref 7, .ref 8, .ref 9, .ref 10, .ref 11, .ref 12, .ref 13, .ref 14, .ref 15, .int lksN, .ref 16, .ref 17, .ref 20])), (5, .inr (.inl (0, rkN))), (281, .inl (1, [.ref 282, .ref 307, .ref 323, .ref 324])), (282, .inl (7, [.ref 327, .int mi, .int shu, .int bus, .ref 283, .ref 284, .ref 285, .ref 286, .ref 287, .ref 288, .ref 289, .ref 290, .ref 291, .ref 292, .ref 293, .int lks, .ref 294, .ref 295, .ref 298])), (283, .inr (.inl (0, (sA rk (nI i) x2))))]) K rfl rfl (fun h K => ?_)
          refine j_V.inL fp5_M fp5_64 (i := 4) (kl' := [(0, .ref 281), (1, .ref 4), (2, .int x2), (3, .int x3), (4, .int ((nI i) + 1))]) (pcJ := 67) L rfl rfl rfl rfl (fun lv L => ?_)
          refine j_V.gto fp5_M fp5_67 (t := 11) rfl ?_
          rw [nI_1] at L
          rw [show x_swl rkN x2 x3 (f + 1) i rk = x_swl rkN x2 x3 f (i + 1) (sA rk (nI i) x2) from congrArg (x_swl rkN x2 x3 f (i + 1)) ((if_neg c25_0).trans ((if_pos c50_1).trans (rfl)))] at kk
          exact ih (i + 1) _ (by omega) L K kk
      · replace c25_0 : (gA rkN (nI i)) = x2 := jd_nen c25_0
        refine j_V.ldL fp5_M fp5_28 rfl (i := 0) (kd := 2) (v := .ref 281) (pcJ := 29) rfl L rfl rfl rfl ?_
        refine j_V.getK fp5_M fp5_29 (ci := 1) (j := 0) rfl K rfl rfl ?_
        refine j_V.getK fp5_M fp5_32 (ci := 7) (j := 4) rfl K rfl rfl ?_
        refine j_V.ldL fp5_M fp5_35 rfl (i := 4) (kd := 0) (v := .int (nI i)) (pcJ := 37) rfl L rfl rfl rfl ?_
        refine j_V.ldL fp5_M fp5_37 rfl (i := 3) (kd := 0) (v := .int x3) (pcJ := 38) rfl L rfl rfl rfl ?_
        refine j_V.isA fp5_M fp5_38 (k' := [(4, .inl (7, [.ref 327, .int miN, .int shuN, .int busN, .ref 5, .ref 6, .ref 7, .ref 8, .ref 9, .ref 10, .ref 11, .ref 12, .ref 13, .ref 14, .ref 15, .int lksN, .ref 16, .ref 17, .ref 20])), (5, .inr (.inl (0, rkN))), (281, .inl (1, [.ref 282, .ref 307, .ref 323, .ref 324])), (282, .inl (7, [.ref 327, .int mi, .int shu, .int bus, .ref 283, .ref 284, .ref 285, .ref 286, .ref 287, .ref 288, .ref 289, .ref 290, .ref 291, .ref 292, .ref 293, .int lks, .ref 294, .ref 295, .ref 298])), (283, .inr (.inl (0, (sA rk (nI i) x3))))]) K rfl rfl (fun h K => ?_)
        refine j_V.gto fp5_M fp5_39 (t := 64) rfl ?_
        refine j_V.inL fp5_M fp5_64 (i := 4) (kl' := [(0, .ref 281), (1, .ref 4), (2, .int x2), (3, .int x3), (4, .int ((nI i) + 1))]) (pcJ := 67) L rfl rfl rfl rfl (fun lv L => ?_)
        refine j_V.gto fp5_M fp5_67 (t := 11) rfl ?_
        rw [nI_1] at L
        rw [show x_swl rkN x2 x3 (f + 1) i rk = x_swl rkN x2 x3 f (i + 1) (sA rk (nI i) x3) from congrArg (x_swl rkN x2 x3 f (i + 1)) ((if_pos c25_0).trans (rfl))] at kk
        exact ih (i + 1) _ (by omega) L K kk
set_option maxRecDepth 1000000 in
theorem hp_swap_327 {g0 : J_H} {n S m d : Nat} {w : List Int32} (P : hF 327 n S w g0) (hm : gN w 201 = nI m) {t q : Nat} (ht : t < n) (hq : q < n) (htq : t ≠ q) (hb : m + 300 < 2 ^ 30) : j_V jP d 10 0 (lv_args 0 [.ref 281, .ref 4, .int (nI t), .int (nI q)]) [] g0 (fun rv h' => rv = some (.int (pE n (sA (sA w (196 + m_rankOf w (nI t)) (nI q)) (196 + m_rankOf w (nI q)) (nI t)))) ∧ hT9 282 0 h' ∧ ∀ x, (x < 282 ∨ 307 ≤ x) → h'[x]? = g0[x]?) := by
  obtain ⟨R4, Y4, Q, C281⟩ := P
  have P : hF 327 n S w g0 := ⟨R4, Y4, Q, C281⟩
  refine hT9.opn Q (fun ly miz shuz busz lksz rlz pevz rkz staz phz spz cez duz hez riz usz cmz lfz lkdz rowz seaz pmsz pmmz pmtz pstz pwaz prsz prrz pfaz CT _ _ => ?_)
  refine hS9.opn R4 (fun miN shuN busN lksN rlN pevN rkN staN phN spN ceN duN heN riN usN cmN lfN lkdN rowN seaN pmsN pmmN pmtN pstN pwaN prsN prrN pfaN CN hln VN => ?_)
  have K9 : kA g0 [(4, .inl (7, [.ref 327, .int miN, .int shuN, .int busN, .ref 5, .ref 6, .ref 7, .ref 8, .ref 9, .ref 10, .ref 11, .ref 12, .ref 13, .ref 14, .ref 15, .int lksN, .ref 16, .ref 17, .ref 20])), (5, .inr (.inl (0, rkN))), (281, .inl (1, [.ref 282, .ref 307, .ref 323, .ref 324])), (282, .inl (7, [ly, .int miz, .int shuz, .int busz, .ref 283, .ref 284, .ref 285, .ref 286, .ref 287, .ref 288, .ref 289, .ref 290, .ref 291, .ref 292, .ref 293, .int lksz, .ref 294, .ref 295, .ref 298]))] := ⟨CN.1, CN.2.1, C281, CT.1, trivial⟩
  have K : KN g0 [(4, .inl (7, [.ref 327, .int miN, .int shuN, .int busN, .ref 5, .ref 6, .ref 7, .ref 8, .ref 9, .ref 10, .ref 11, .ref 12, .ref 13, .ref 14, .ref 15, .int lksN, .ref 16, .ref 17, .ref 20])), (5, .inr (.inl (0, rkN))), (281, .inl (1, [.ref 282, .ref 307, .ref 323, .ref 324])), (282, .inl (7, [ly, .int miz, .int shuz, .int busz, .ref 283, .ref 284, .ref 285, .ref 286, .ref 287, .ref 288, .ref 289, .ref 290, .ref 291, .ref 292, .ref 293, .int lksz, .ref 294, .ref 295, .ref 298]))] g0 := K9.K
  show j_V jP d 10 0 [(0, .ref 281), (1, .ref 4), (2, .int (nI t)), (3, .int (nI q))] [] g0 _
  obtain ⟨lv, elv, L9⟩ : ∃ lv, lv = [(0, .ref 281), (1, .ref 4), (2, .int (nI t)), (3, .int (nI q))] ∧ LK lv [(0, .ref 281), (1, .ref 4), (2, .int (nI t)), (3, .int (nI q))] := ⟨_, rfl, LK.rf⟩
  rw [← elv]
  clear elv
  have L := L9
  refine j_V.ldL fp5_M fp5_0 rfl (i := 0) (kd := 2) (v := .ref 281) (pcJ := 1) rfl L rfl rfl rfl ?_
  refine j_V.getK fp5_M fp5_1 (ci := 1) (j := 0) rfl K rfl rfl ?_
  refine j_V.ldL fp5_M fp5_4 rfl (i := 1) (kd := 2) (v := .ref 4) (pcJ := 5) rfl L rfl rfl rfl ?_
  refine j_V.cl fp5_M fp5_5 rfl (md := 3) (mj := 61) rfl (by decide) yts_M (As := [.ref 282, .ref 4]) (rest := []) (jk_spl3 (K.at rfl) rfl rfl rfl (Nat.le_of_ble_eq_true rfl) (Nat.le_of_ble_eq_true rfl)) (fun d => ht_cp R4 Q) ?_
  rintro r h9 ⟨rfl, T9, F9⟩
  refine hS9.opn T9 (fun mi shu bus lks rl pev rk sta ph sp ce du he ri us cm lf lkd row sea pms pmm pmt pst pwa prs prr pfa CS hl4 V => ?_)
  have K9 : kA h9 [(4, .inl (7, [.ref 327, .int miN, .int shuN, .int busN, .ref 5, .ref 6, .ref 7, .ref 8, .ref 9, .ref 10, .ref 11, .ref 12, .ref 13, .ref 14, .ref 15, .int lksN, .ref 16, .ref 17, .ref 20])), (5, .inr (.inl (0, rkN))), (281, .inl (1, [.ref 282, .ref 307, .ref 323, .ref 324])), (282, .inl (7, [.ref 327, .int mi, .int shu, .int bus, .ref 283, .ref 284, .ref 285, .ref 286, .ref 287, .ref 288, .ref 289, .ref 290, .ref 291, .ref 292, .ref 293, .int lks, .ref 294, .ref 295, .ref 298])), (283, .inr (.inl (0, rk)))] := ⟨(F9 4 (by decide)).trans CN.1, (F9 5 (by decide)).trans CN.2.1, (F9 281 (by decide)).trans C281, CS.1, CS.2.1, trivial⟩
  have K : KN h9 [(4, .inl (7, [.ref 327, .int miN, .int shuN, .int busN, .ref 5, .ref 6, .ref 7, .ref 8, .ref 9, .ref 10, .ref 11, .ref 12, .ref 13, .ref 14, .ref 15, .int lksN, .ref 16, .ref 17, .ref 20])), (5, .inr (.inl (0, rkN))), (281, .inl (1, [.ref 282, .ref 307, .ref 323, .ref 324])), (282, .inl (7, [.ref 327, .int mi, .int shu, .int bus, .ref 283, .ref 284, .ref 285, .ref 286, .ref 287, .ref 288, .ref 289, .ref 290, .ref 291, .ref 292, .ref 293, .int lks, .ref 294, .ref 295, .ref 298])), (283, .inr (.inl (0, rk)))] h9 := K9.K
  show j_V jP _ 10 8 lv [] h9 _
  refine j_V.one fp5_M fp5_8 (by decide) (pcJ := 9) (stJ := [.int 0]) rfl ?_
  refine j_V.stL fp5_M fp5_9 rfl (i := 4) (kd := 0) (kl' := [(0, .ref 281), (1, .ref 4), (2, .int (nI t)), (3, .int (nI q)), (4, .int 0)]) (pcJ := 11) rfl L rfl (by decide) rfl rfl rfl (fun lv L => ?_)
  have K7 := K9
  refine hl_swl_327 5 0 rk rfl L K (fun lv h L K => ?_)
  refine j_V.ldL fp5_M fp5_70 rfl (i := 0) (kd := 2) (v := .ref 281) (pcJ := 71) rfl L rfl rfl rfl ?_
  refine j_V.getK fp5_M fp5_71 (ci := 1) (j := 0) rfl K rfl rfl ?_
  refine j_V.one fp5_M fp5_74 (by decide) (pcJ := 77) (stJ := [.int 300, .ref 282]) rfl ?_
  refine j_V.one fp5_M fp5_77 (by decide) (pcJ := 78) (stJ := [.int 1, .int 300, .ref 282]) rfl ?_
  refine j_V.one fp5_M fp5_78 (by decide) (pcJ := 79) (stJ := [.int 1, .int 1, .int 300, .ref 282]) rfl ?_
  have h5 := V.1.n5
  obtain ⟨sl1, sl2⟩ := x_swl_n (rkN := rkN) (x2 := nI t) (x3 := nI q) 5 0 rk rfl hl4.1
  have V9 := V.swap (rk' := x_swl rkN (nI t) (nI q) 5 0 rk) ht hq htq (fun k hk => by rw [sl2 k (by omega), if_neg (by omega), show gN rkN k = gN rk k from (VN.2.2.1.2.1 k hk).trans (V.2.2.1.2.1 k hk).symm])
  have VW := V.1
  have es : ∀ j, ¬ (196 ≤ j ∧ j < 201) → gN (sA (sA w (196 + m_rankOf w (nI t)) (nI q)) (196 + m_rankOf w (nI q)) (nI t)) j = gN w j := sw_off V.1 ht hq
  have st : (∀ s j, s < 7 → j < 5 → fs (sA (sA w (196 + m_rankOf w (nI t)) (nI q)) (196 + m_rankOf w (nI q)) (nI t)) s j = fs w s j) ∧ ∀ u j, u < n → j < 6 → j ≠ 3 → ft (sA (sA w (196 + m_rankOf w (nI t)) (nI q)) (196 + m_rankOf w (nI q)) (nI t)) u j = ft w u j := ⟨fun s j _ _ => es _ (by omega), fun u j _ _ _ => es _ (by omega)⟩
  have C281x : h[281]? = some (.inl (1, [.ref 282, .ref 307, .ref 323, .ref 324])) := (K.at rfl)
  have F7 : ∀ x, x ≠ 283 → h[x]? = h9[x]? := fun x g => KN.off K7 K (lke (lke (lke (lke (lkn (fun z => g z.symm) rfl)))))
  have T2 : hS9 282 327 0 n S (sA (sA w (196 + m_rankOf w (nI t)) (nI q)) (196 + m_rankOf w (nI q)) (nI t)) h := ⟨mi, shu, bus, lks, rl, pev, _, sta, ph, sp, ce, du, he, ri, us, cm, lf, lkd, row, sea, pms, pmm, pmt, pst, pwa, prs, prr, pfa, ⟨K.at rfl, K.at rfl, (K.2.1 284 rfl).trans CS.2.2.1, (K.2.1 285 rfl).trans CS.2.2.2.1, (K.2.1 286 rfl).trans CS.2.2.2.2.1, (K.2.1 287 rfl).trans CS.2.2.2.2.2.1, (K.2.1 288 rfl).trans CS.2.2.2.2.2.2.1, (K.2.1 289 rfl).trans CS.2.2.2.2.2.2.2.1, (K.2.1 290 rfl).trans CS.2.2.2.2.2.2.2.2.1, (K.2.1 291 rfl).trans CS.2.2.2.2.2.2.2.2.2.1, (K.2.1 292 rfl).trans CS.2.2.2.2.2.2.2.2.2.2.1, (K.2.1 293 rfl).trans CS.2.2.2.2.2.2.2.2.2.2.2.1, (K.2.1 294 rfl).trans CS.2.2.2.2.2.2.2.2.2.2.2.2.1, (K.2.1 295 rfl).trans CS.2.2.2.2.2.2.2.2.2.2.2.2.2.1, (K.2.1 296 rfl).trans CS.2.2.2.2.2.2.2.2.2.2.2.2.2.2.1, (K.2.1 297 rfl).trans CS.2.2.2.2.2.2.2.2.2.2.2.2.2.2.2.1, (K.2.1 298 rfl).trans CS.2.2.2.2.2.2.2.2.2.2.2.2.2.2.2.2.1, (K.2.1 299 rfl).trans CS.2.2.2.2.2.2.2.2.2.2.2.2.2.2.2.2.2.1, (K.2.1 300 rfl).trans CS.2.2.2.2.2.2.2.2.2.2.2.2.2.2.2.2.2.2.1, (K.2.1 301 rfl).trans CS.2.2.2.2.2.2.2.2.2.2.2.2.2.2.2.2.2.2.2.1, (K.2.1 302 rfl).trans CS.2.2.2.2.2.2.2.2.2.2.2.2.2.2.2.2.2.2.2.2.1, (K.2.1 303 rfl).trans CS.2.2.2.2.2.2.2.2.2.2.2.2.2.2.2.2.2.2.2.2.2.1, (K.2.1 304 rfl).trans CS.2.2.2.2.2.2.2.2.2.2.2.2.2.2.2.2.2.2.2.2.2.2.1, (K.2.1 305 rfl).trans CS.2.2.2.2.2.2.2.2.2.2.2.2.2.2.2.2.2.2.2.2.2.2.2.1, (K.2.1 306 rfl).trans CS.2.2.2.2.2.2.2.2.2.2.2.2.2.2.2.2.2.2.2.2.2.2.2.2⟩, ⟨sl1, hl4.2⟩, V9⟩
  have Y2 : hY9 327 n S (sA (sA w (196 + m_rankOf w (nI t)) (nI q)) (196 + m_rankOf w (nI q)) (nI t)) h := (Y4.to VW.g V9.1.g st.1 st.2).fr (fun x _ _ => (F7 x (by omega)).trans (F9 x (by omega)))
  have hm2 : gN (sA (sA w (196 + m_rankOf w (nI t)) (nI q)) (196 + m_rankOf w (nI q)) (nI t)) 201 = nI m := (es 201 (by omega)).trans hm
  refine j_V.cl fp5_M fp5_79 rfl (md := 3) (mj := 92) rfl (by decide) xc45_M (As := [.ref 282, .int 300, .int 1, .int 1]) (rest := []) (jk_spl3 (K.at rfl) rfl rfl rfl (Nat.le_of_ble_eq_true rfl) (Nat.le_of_ble_eq_true rfl)) (fun d => hv_xc (k := 300) (e := true) T2 Y2 hm2 hb 1 _ rfl) ?_
  rintro r h8 ⟨rfl, T8, Y8, -, F8⟩
  refine hS9.opn T8 (fun miq shuq busq lksq rlq pevq rkq staq phq spq ceq duq heq riq usq cmq lfq lkdq rowq seaq pmsq pmmq pmtq pstq pwaq prsq prrq pfaq CS8 _ _ => ?_)
  have K9 : kA h8 [(281, .inl (1, [.ref 282, .ref 307, .ref 323, .ref 324])), (282, .inl (7, [.ref 327, .int miq, .int shuq, .int busq, .ref 283, .ref 284, .ref 285, .ref 286, .ref 287, .ref 288, .ref 289, .ref 290, .ref 291, .ref 292, .ref 293, .int lksq, .ref 294, .ref 295, .ref 298]))] := ⟨(F8 281 (by decide)).trans C281x, CS8.1, trivial⟩
  have K : KN h8 [(281, .inl (1, [.ref 282, .ref 307, .ref 323, .ref 324])), (282, .inl (7, [.ref 327, .int miq, .int shuq, .int busq, .ref 283, .ref 284, .ref 285, .ref 286, .ref 287, .ref 288, .ref 289, .ref 290, .ref 291, .ref 292, .ref 293, .int lksq, .ref 294, .ref 295, .ref 298]))] h8 := K9.K
  show j_V jP _ 10 82 lv [.int (m_price (m_adv n 1 true 300 (sA (sA w (196 + m_rankOf w (nI t)) (nI q)) (196 + m_rankOf w (nI q)) (nI t))))] h8 _
  refine j_V.ri fp5_M fp5_82 ?_
  exact ⟨by rw [pE_adv], T8.sh, fun x g => (F8 x g).trans ((F7 x (by omega)).trans (F9 x g))⟩
set_option maxRecDepth 1000000 in
theorem hl_swl_343 {d : Nat} {gb : J_H} {x2 x3 miN shuN busN lksN mi shu bus lks : Int32} {rkN : List Int32} {Q : Option Value → J_H → Prop} : ∀ (f i : Nat) (rk : List Int32) {lv : J_L} {h : J_H}, i + f = 5 → LK lv [(0, .ref 281), (1, .ref 4), (2, .int x2), (3, .int x3), (4, .int (nI i))] → KN h [(4, .inl (7, [.ref 343, .int miN, .int shuN, .int busN, .ref 5, .ref 6, .ref 7, .ref 8, .ref 9, .ref 10, .ref 11, .ref 12, .ref 13, .ref 14, .ref 15, .int lksN, .ref 16, .ref 17, .ref 20])), (5, .inr (.inl (0, rkN))), (281, .inl (1, [.ref 282, .ref 307, .ref 323, .ref 324])), (282, .inl (7, [.ref 343, .int mi, .int shu, .int bus, .ref 283, .ref 284, .ref 285, .ref 286, .ref 287, .ref 288, .ref 289, .ref 290, .ref 291, .ref 292, .ref 293, .int lks, .ref 294, .ref 295, .ref 298])), (283, .inr (.inl (0, rk)))] gb → (∀ lv h, LK lv [(0, .ref 281), (1, .ref 4), (2, .int x2), (3, .int x3)] → KN h [(4, .inl (7, [.ref 343, .int miN, .int shuN, .int busN, .ref 5, .ref 6, .ref 7, .ref 8, .ref 9, .ref 10, .ref 11, .ref 12, .ref 13, .ref 14, .ref 15, .int lksN, .ref 16, .ref 17, .ref 20])), (5, .inr (.inl (0, rkN))), (281, .inl (1, [.ref 282, .ref 307, .ref 323, .ref 324])), (282, .inl (7, [.ref 343, .int mi, .int shu, .int bus, .ref 283, .ref 284, .ref 285, .ref 286, .ref 287, .ref 288, .ref 289, .ref 290, .ref 291, .ref 292, .ref 293, .int lks, .ref 294, .ref 295, .ref 298])), (283, .inr (.inl (0, (x_swl rkN x2 x3 f i rk))))] gb → j_V jP d 10 70 lv [] h Q) → j_V jP d 10 11 lv [] h Q := by
  intro f
  induction f with
  | zero =>
    intro i rk lv h e L K kk
    refine j_V.ldL fp5_M fp5_11 rfl (i := 4) (kd := 0) (v := .int (nI i)) (pcJ := 13) rfl L rfl rfl rfl ?_
    refine j_V.one fp5_M fp5_13 (by decide) (pcJ := 14) (stJ := [.int 5, .int (nI i)]) rfl ?_
    refine j_V.icmp fp5_M fp5_14 (t := 70) rfl (fun c14_0 => ?_) (fun c14_0 => ?_)
    · replace c14_0 : ¬ ((nI i) < 5) := jd_ge c14_0
      exact kk _ _ (L.sub ⟨rfl, rfl, rfl, rfl, trivial⟩) K
    · replace c14_0 : (nI i) < 5 := jd_gen c14_0
      exact absurd c14_0 (by rw [show i = 5 by omega]; decide)
  | succ f ih =>
    intro i rk lv h e L K kk
    refine j_V.ldL fp5_M fp5_11 rfl (i := 4) (kd := 0) (v := .int (nI i)) (pcJ := 13) rfl L rfl rfl rfl ?_
    refine j_V.one fp5_M fp5_13 (by decide) (pcJ := 14) (stJ := [.int 5, .int (nI i)]) rfl ?_
    refine j_V.icmp fp5_M fp5_14 (t := 70) rfl (fun c14_0 => ?_) (fun c14_0 => ?_)
    · replace c14_0 : ¬ ((nI i) < 5) := jd_ge c14_0
      exact absurd (show nI i < 5 by rw [show (5 : Int32) = nI 5 from rfl, nI_ltI (by omega) (by omega)]; omega) c14_0
    · replace c14_0 : (nI i) < 5 := jd_gen c14_0
      refine j_V.ldL fp5_M fp5_17 rfl (i := 1) (kd := 2) (v := .ref 4) (pcJ := 18) rfl L rfl rfl rfl ?_
      refine j_V.getK fp5_M fp5_18 (ci := 7) (j := 4) rfl K rfl rfl ?_
      refine j_V.ldL fp5_M fp5_21 rfl (i := 4) (kd := 0) (v := .int (nI i)) (pcJ := 23) rfl L rfl rfl rfl ?_
      refine j_V.iaA fp5_M fp5_23 K rfl ?_
      refine j_V.ldL fp5_M fp5_24 rfl (i := 2) (kd := 0) (v := .int x2) (pcJ := 25) rfl L rfl rfl rfl ?_
      refine j_V.icmp fp5_M fp5_25 (t := 42) rfl (fun c25_0 => ?_) (fun c25_0 => ?_)
      · replace c25_0 : ¬ ((gA rkN (nI i)) = x2) := jd_ne c25_0
        refine j_V.ldL fp5_M fp5_42 rfl (i := 1) (kd := 2) (v := .ref 4) (pcJ := 43) rfl L rfl rfl rfl ?_
        refine j_V.getK fp5_M fp5_43 (ci := 7) (j := 4) rfl K rfl rfl ?_
        refine j_V.ldL fp5_M fp5_46 rfl (i := 4) (kd := 0) (v := .int (nI i)) (pcJ := 48) rfl L rfl rfl rfl ?_
        refine j_V.iaA fp5_M fp5_48 K rfl ?_
        refine j_V.ldL fp5_M fp5_49 rfl (i := 3) (kd := 0) (v := .int x3) (pcJ := 50) rfl L rfl rfl rfl ?_
        refine j_V.icmp fp5_M fp5_50 (t := 64) rfl (fun c50_1 => ?_) (fun c50_1 => ?_)
        · replace c50_1 : ¬ ((gA rkN (nI i)) = x3) := jd_ne c50_1
          refine j_V.inL fp5_M fp5_64 (i := 4) (kl' := [(0, .ref 281), (1, .ref 4), (2, .int x2), (3, .int x3), (4, .int ((nI i) + 1))]) (pcJ := 67) L rfl rfl rfl rfl (fun lv L => ?_)
          refine j_V.gto fp5_M fp5_67 (t := 11) rfl ?_
          rw [nI_1] at L
          rw [show x_swl rkN x2 x3 (f + 1) i rk = x_swl rkN x2 x3 f (i + 1) rk from congrArg (x_swl rkN x2 x3 f (i + 1)) ((if_neg c25_0).trans ((if_neg c50_1).trans (rfl)))] at kk
          exact ih (i + 1) _ (by omega) L K kk
        · replace c50_1 : (gA rkN (nI i)) = x3 := jd_nen c50_1
          refine j_V.ldL fp5_M fp5_53 rfl (i := 0) (kd := 2) (v := .ref 281) (pcJ := 54) rfl L rfl rfl rfl ?_
          refine j_V.getK fp5_M fp5_54 (ci := 1) (j := 0) rfl K rfl rfl ?_
          refine j_V.getK fp5_M fp5_57 (ci := 7) (j := 4) rfl K rfl rfl ?_
          refine j_V.ldL fp5_M fp5_60 rfl (i := 4) (kd := 0) (v := .int (nI i)) (pcJ := 62) rfl L rfl rfl rfl ?_
          refine j_V.ldL fp5_M fp5_62 rfl (i := 2) (kd := 0) (v := .int x2) (pcJ := 63) rfl L rfl rfl rfl ?_
          refine j_V.isA fp5_M fp5_63 (k' := [(4, .inl (7, [.ref 343, .int miN, .int shuN, .int busN, .ref 5, .ref 6, .ref 7, .ref 8, .ref 9, .ref 10, .ref 11, .ref 12, .ref 13, .ref 14, .ref 15, .int lksN, .ref 16, .ref 17, .ref 20])), (5, .inr (.inl (0, rkN))), (281, .inl (1, [.ref 282, .ref 307, .ref 323, .ref 324])), (282, .inl (7, [.ref 343, .int mi, .int shu, .int bus, .ref 283, .ref 284, .ref 285, .ref 286, .ref 287, .ref 288, .ref 289, .ref 290, .ref 291, .ref 292, .ref 293, .int lks, .ref 294, .ref 295, .ref 298])), (283, .inr (.inl (0, (sA rk (nI i) x2))))]) K rfl rfl (fun h K => ?_)
          refine j_V.inL fp5_M fp5_64 (i := 4) (kl' := [(0, .ref 281), (1, .ref 4), (2, .int x2), (3, .int x3), (4, .int ((nI i) + 1))]) (pcJ := 67) L rfl rfl rfl rfl (fun lv L => ?_)
          refine j_V.gto fp5_M fp5_67 (t := 11) rfl ?_
          rw [nI_1] at L
          rw [show x_swl rkN x2 x3 (f + 1) i rk = x_swl rkN x2 x3 f (i + 1) (sA rk (nI i) x2) from congrArg (x_swl rkN x2 x3 f (i + 1)) ((if_neg c25_0).trans ((if_pos c50_1).trans (rfl)))] at kk
          exact ih (i + 1) _ (by omega) L K kk
      · replace c25_0 : (gA rkN (nI i)) = x2 := jd_nen c25_0
        refine j_V.ldL fp5_M fp5_28 rfl (i := 0) (kd := 2) (v := .ref 281) (pcJ := 29) rfl L rfl rfl rfl ?_
        refine j_V.getK fp5_M fp5_29 (ci := 1) (j := 0) rfl K rfl rfl ?_
        refine j_V.getK fp5_M fp5_32 (ci := 7) (j := 4) rfl K rfl rfl ?_
        refine j_V.ldL fp5_M fp5_35 rfl (i := 4) (kd := 0) (v := .int (nI i)) (pcJ := 37) rfl L rfl rfl rfl ?_
        refine j_V.ldL fp5_M fp5_37 rfl (i := 3) (kd := 0) (v := .int x3) (pcJ := 38) rfl L rfl rfl rfl ?_
        refine j_V.isA fp5_M fp5_38 (k' := [(4, .inl (7, [.ref 343, .int miN, .int shuN, .int busN, .ref 5, .ref 6, .ref 7, .ref 8, .ref 9, .ref 10, .ref 11, .ref 12, .ref 13, .ref 14, .ref 15, .int lksN, .ref 16, .ref 17, .ref 20])), (5, .inr (.inl (0, rkN))), (281, .inl (1, [.ref 282, .ref 307, .ref 323, .ref 324])), (282, .inl (7, [.ref 343, .int mi, .int shu, .int bus, .ref 283, .ref 284, .ref 285, .ref 286, .ref 287, .ref 288, .ref 289, .ref 290, .ref 291, .ref 292, .ref 293, .int lks, .ref 294, .ref 295, .ref 298])), (283, .inr (.inl (0, (sA rk (nI i) x3))))]) K rfl rfl (fun h K => ?_)
        refine j_V.gto fp5_M fp5_39 (t := 64) rfl ?_
        refine j_V.inL fp5_M fp5_64 (i := 4) (kl' := [(0, .ref 281), (1, .ref 4), (2, .int x2), (3, .int x3), (4, .int ((nI i) + 1))]) (pcJ := 67) L rfl rfl rfl rfl (fun lv L => ?_)
        refine j_V.gto fp5_M fp5_67 (t := 11) rfl ?_
        rw [nI_1] at L
        rw [show x_swl rkN x2 x3 (f + 1) i rk = x_swl rkN x2 x3 f (i + 1) (sA rk (nI i) x3) from congrArg (x_swl rkN x2 x3 f (i + 1)) ((if_pos c25_0).trans (rfl))] at kk
        exact ih (i + 1) _ (by omega) L K kk
set_option maxRecDepth 1000000 in
theorem hp_swap_343 {g0 : J_H} {n S m d : Nat} {w : List Int32} (P : hF 343 n S w g0) (hm : gN w 201 = nI m) {t q : Nat} (ht : t < n) (hq : q < n) (htq : t ≠ q) (hb : m + 300 < 2 ^ 30) : j_V jP d 10 0 (lv_args 0 [.ref 281, .ref 4, .int (nI t), .int (nI q)]) [] g0 (fun rv h' => rv = some (.int (pE n (sA (sA w (196 + m_rankOf w (nI t)) (nI q)) (196 + m_rankOf w (nI q)) (nI t)))) ∧ hT9 282 0 h' ∧ ∀ x, (x < 282 ∨ 307 ≤ x) → h'[x]? = g0[x]?) := by
  obtain ⟨R4, Y4, Q, C281⟩ := P
  have P : hF 343 n S w g0 := ⟨R4, Y4, Q, C281⟩
  refine hT9.opn Q (fun ly miz shuz busz lksz rlz pevz rkz staz phz spz cez duz hez riz usz cmz lfz lkdz rowz seaz pmsz pmmz pmtz pstz pwaz prsz prrz pfaz CT _ _ => ?_)
  refine hS9.opn R4 (fun miN shuN busN lksN rlN pevN rkN staN phN spN ceN duN heN riN usN cmN lfN lkdN rowN seaN pmsN pmmN pmtN pstN pwaN prsN prrN pfaN CN hln VN => ?_)
  have K9 : kA g0 [(4, .inl (7, [.ref 343, .int miN, .int shuN, .int busN, .ref 5, .ref 6, .ref 7, .ref 8, .ref 9, .ref 10, .ref 11, .ref 12, .ref 13, .ref 14, .ref 15, .int lksN, .ref 16, .ref 17, .ref 20])), (5, .inr (.inl (0, rkN))), (281, .inl (1, [.ref 282, .ref 307, .ref 323, .ref 324])), (282, .inl (7, [ly, .int miz, .int shuz, .int busz, .ref 283, .ref 284, .ref 285, .ref 286, .ref 287, .ref 288, .ref 289, .ref 290, .ref 291, .ref 292, .ref 293, .int lksz, .ref 294, .ref 295, .ref 298]))] := ⟨CN.1, CN.2.1, C281, CT.1, trivial⟩
  have K : KN g0 [(4, .inl (7, [.ref 343, .int miN, .int shuN, .int busN, .ref 5, .ref 6, .ref 7, .ref 8, .ref 9, .ref 10, .ref 11, .ref 12, .ref 13, .ref 14, .ref 15, .int lksN, .ref 16, .ref 17, .ref 20])), (5, .inr (.inl (0, rkN))), (281, .inl (1, [.ref 282, .ref 307, .ref 323, .ref 324])), (282, .inl (7, [ly, .int miz, .int shuz, .int busz, .ref 283, .ref 284, .ref 285, .ref 286, .ref 287, .ref 288, .ref 289, .ref 290, .ref 291, .ref 292, .ref 293, .int lksz, .ref 294, .ref 295, .ref 298]))] g0 := K9.K
  show j_V jP d 10 0 [(0, .ref 281), (1, .ref 4), (2, .int (nI t)), (3, .int (nI q))] [] g0 _
  obtain ⟨lv, elv, L9⟩ : ∃ lv, lv = [(0, .ref 281), (1, .ref 4), (2, .int (nI t)), (3, .int (nI q))] ∧ LK lv [(0, .ref 281), (1, .ref 4), (2, .int (nI t)), (3, .int (nI q))] := ⟨_, rfl, LK.rf⟩
  rw [← elv]
  clear elv
  have L := L9
  refine j_V.ldL fp5_M fp5_0 rfl (i := 0) (kd := 2) (v := .ref 281) (pcJ := 1) rfl L rfl rfl rfl ?_
  refine j_V.getK fp5_M fp5_1 (ci := 1) (j := 0) rfl K rfl rfl ?_
  refine j_V.ldL fp5_M fp5_4 rfl (i := 1) (kd := 2) (v := .ref 4) (pcJ := 5) rfl L rfl rfl rfl ?_
  refine j_V.cl fp5_M fp5_5 rfl (md := 3) (mj := 61) rfl (by decide) yts_M (As := [.ref 282, .ref 4]) (rest := []) (jk_spl3 (K.at rfl) rfl rfl rfl (Nat.le_of_ble_eq_true rfl) (Nat.le_of_ble_eq_true rfl)) (fun d => ht_cp R4 Q) ?_
  rintro r h9 ⟨rfl, T9, F9⟩
  refine hS9.opn T9 (fun mi shu bus lks rl pev rk sta ph sp ce du he ri us cm lf lkd row sea pms pmm pmt pst pwa prs prr pfa CS hl4 V => ?_)
  have K9 : kA h9 [(4, .inl (7, [.ref 343, .int miN, .int shuN, .int busN, .ref 5, .ref 6, .ref 7, .ref 8, .ref 9, .ref 10, .ref 11, .ref 12, .ref 13, .ref 14, .ref 15, .int lksN, .ref 16, .ref 17, .ref 20])), (5, .inr (.inl (0, rkN))), (281, .inl (1, [.ref 282, .ref 307, .ref 323, .ref 324])), (282, .inl (7, [.ref 343, .int mi, .int shu, .int bus, .ref 283, .ref 284, .ref 285, .ref 286, .ref 287, .ref 288, .ref 289, .ref 290, .ref 291, .ref 292, .ref 293, .int lks, .ref 294, .ref 295, .ref 298])), (283, .inr (.inl (0, rk)))] := ⟨(F9 4 (by decide)).trans CN.1, (F9 5 (by decide)).trans CN.2.1, (F9 281 (by decide)).trans C281, CS.1, CS.2.1, trivial⟩
  have K : KN h9 [(4, .inl (7, [.ref 343, .int miN, .int shuN, .int busN, .ref 5, .ref 6, .ref 7, .ref 8, .ref 9, .ref 10, .ref 11, .ref 12, .ref 13, .ref 14, .ref 15, .int lksN, .ref 16, .ref 17, .ref 20])), (5, .inr (.inl (0, rkN))), (281, .inl (1, [.ref 282, .ref 307, .ref 323, .ref 324])), (282, .inl (7, [.ref 343, .int mi, .int shu, .int bus, .ref 283, .ref 284, .ref 285, .ref 286, .ref 287, .ref 288, .ref 289, .ref 290, .ref 291, .ref 292, .ref 293, .int lks, .ref 294, .ref 295, .ref 298])), (283, .inr (.inl (0, rk)))] h9 := K9.K
  show j_V jP _ 10 8 lv [] h9 _
  refine j_V.one fp5_M fp5_8 (by decide) (pcJ := 9) (stJ := [.int 0]) rfl ?_
  refine j_V.stL fp5_M fp5_9 rfl (i := 4) (kd := 0) (kl' := [(0, .ref 281), (1, .ref 4), (2, .int (nI t)), (3, .int (nI q)), (4, .int 0)]) (pcJ := 11) rfl L rfl (by decide) rfl rfl rfl (fun lv L => ?_)
  have K7 := K9
  refine hl_swl_343 5 0 rk rfl L K (fun lv h L K => ?_)
  refine j_V.ldL fp5_M fp5_70 rfl (i := 0) (kd := 2) (v := .ref 281) (pcJ := 71) rfl L rfl rfl rfl ?_
  refine j_V.getK fp5_M fp5_71 (ci := 1) (j := 0) rfl K rfl rfl ?_
  refine j_V.one fp5_M fp5_74 (by decide) (pcJ := 77) (stJ := [.int 300, .ref 282]) rfl ?_
  refine j_V.one fp5_M fp5_77 (by decide) (pcJ := 78) (stJ := [.int 1, .int 300, .ref 282]) rfl ?_
  refine j_V.one fp5_M fp5_78 (by decide) (pcJ := 79) (stJ := [.int 1, .int 1, .int 300, .ref 282]) rfl ?_
  have h5 := V.1.n5
  obtain ⟨sl1, sl2⟩ := x_swl_n (rkN := rkN) (x2 := nI t) (x3 := nI q) 5 0 rk rfl hl4.1
  have V9 := V.swap (rk' := x_swl rkN (nI t) (nI q) 5 0 rk) ht hq htq (fun k hk => by rw [sl2 k (by omega), if_neg (by omega), show gN rkN k = gN rk k from (VN.2.2.1.2.1 k hk).trans (V.2.2.1.2.1 k hk).symm])
  have VW := V.1
  have es : ∀ j, ¬ (196 ≤ j ∧ j < 201) → gN (sA (sA w (196 + m_rankOf w (nI t)) (nI q)) (196 + m_rankOf w (nI q)) (nI t)) j = gN w j := sw_off V.1 ht hq
  have st : (∀ s j, s < 7 → j < 5 → fs (sA (sA w (196 + m_rankOf w (nI t)) (nI q)) (196 + m_rankOf w (nI q)) (nI t)) s j = fs w s j) ∧ ∀ u j, u < n → j < 6 → j ≠ 3 → ft (sA (sA w (196 + m_rankOf w (nI t)) (nI q)) (196 + m_rankOf w (nI q)) (nI t)) u j = ft w u j := ⟨fun s j _ _ => es _ (by omega), fun u j _ _ _ => es _ (by omega)⟩
  have C281x : h[281]? = some (.inl (1, [.ref 282, .ref 307, .ref 323, .ref 324])) := (K.at rfl)
  have F7 : ∀ x, x ≠ 283 → h[x]? = h9[x]? := fun x g => KN.off K7 K (lke (lke (lke (lke (lkn (fun z => g z.symm) rfl)))))
  have T2 : hS9 282 343 0 n S (sA (sA w (196 + m_rankOf w (nI t)) (nI q)) (196 + m_rankOf w (nI q)) (nI t)) h := ⟨mi, shu, bus, lks, rl, pev, _, sta, ph, sp, ce, du, he, ri, us, cm, lf, lkd, row, sea, pms, pmm, pmt, pst, pwa, prs, prr, pfa, ⟨K.at rfl, K.at rfl, (K.2.1 284 rfl).trans CS.2.2.1, (K.2.1 285 rfl).trans CS.2.2.2.1, (K.2.1 286 rfl).trans CS.2.2.2.2.1, (K.2.1 287 rfl).trans CS.2.2.2.2.2.1, (K.2.1 288 rfl).trans CS.2.2.2.2.2.2.1, (K.2.1 289 rfl).trans CS.2.2.2.2.2.2.2.1, (K.2.1 290 rfl).trans CS.2.2.2.2.2.2.2.2.1, (K.2.1 291 rfl).trans CS.2.2.2.2.2.2.2.2.2.1, (K.2.1 292 rfl).trans CS.2.2.2.2.2.2.2.2.2.2.1, (K.2.1 293 rfl).trans CS.2.2.2.2.2.2.2.2.2.2.2.1, (K.2.1 294 rfl).trans CS.2.2.2.2.2.2.2.2.2.2.2.2.1, (K.2.1 295 rfl).trans CS.2.2.2.2.2.2.2.2.2.2.2.2.2.1, (K.2.1 296 rfl).trans CS.2.2.2.2.2.2.2.2.2.2.2.2.2.2.1, (K.2.1 297 rfl).trans CS.2.2.2.2.2.2.2.2.2.2.2.2.2.2.2.1, (K.2.1 298 rfl).trans CS.2.2.2.2.2.2.2.2.2.2.2.2.2.2.2.2.1, (K.2.1 299 rfl).trans CS.2.2.2.2.2.2.2.2.2.2.2.2.2.2.2.2.2.1, (K.2.1 300 rfl).trans CS.2.2.2.2.2.2.2.2.2.2.2.2.2.2.2.2.2.2.1, (K.2.1 301 rfl).trans CS.2.2.2.2.2.2.2.2.2.2.2.2.2.2.2.2.2.2.2.1, (K.2.1 302 rfl).trans CS.2.2.2.2.2.2.2.2.2.2.2.2.2.2.2.2.2.2.2.2.1, (K.2.1 303 rfl).trans CS.2.2.2.2.2.2.2.2.2.2.2.2.2.2.2.2.2.2.2.2.2.1, (K.2.1 304 rfl).trans CS.2.2.2.2.2.2.2.2.2.2.2.2.2.2.2.2.2.2.2.2.2.2.1, (K.2.1 305 rfl).trans CS.2.2.2.2.2.2.2.2.2.2.2.2.2.2.2.2.2.2.2.2.2.2.2.1, (K.2.1 306 rfl).trans CS.2.2.2.2.2.2.2.2.2.2.2.2.2.2.2.2.2.2.2.2.2.2.2.2⟩, ⟨sl1, hl4.2⟩, V9⟩
  have Y2 : hY9 343 n S (sA (sA w (196 + m_rankOf w (nI t)) (nI q)) (196 + m_rankOf w (nI q)) (nI t)) h := (Y4.to VW.g V9.1.g st.1 st.2).fr (fun x _ _ => (F7 x (by omega)).trans (F9 x (by omega)))
  have hm2 : gN (sA (sA w (196 + m_rankOf w (nI t)) (nI q)) (196 + m_rankOf w (nI q)) (nI t)) 201 = nI m := (es 201 (by omega)).trans hm
  refine j_V.cl fp5_M fp5_79 rfl (md := 3) (mj := 92) rfl (by decide) xd45_M (As := [.ref 282, .int 300, .int 1, .int 1]) (rest := []) (jk_spl3 (K.at rfl) rfl rfl rfl (Nat.le_of_ble_eq_true rfl) (Nat.le_of_ble_eq_true rfl)) (fun d => hv_xd (k := 300) (e := true) T2 Y2 hm2 hb 1 _ rfl) ?_
  rintro r h8 ⟨rfl, T8, Y8, -, F8⟩
  refine hS9.opn T8 (fun miq shuq busq lksq rlq pevq rkq staq phq spq ceq duq heq riq usq cmq lfq lkdq rowq seaq pmsq pmmq pmtq pstq pwaq prsq prrq pfaq CS8 _ _ => ?_)
  have K9 : kA h8 [(281, .inl (1, [.ref 282, .ref 307, .ref 323, .ref 324])), (282, .inl (7, [.ref 343, .int miq, .int shuq, .int busq, .ref 283, .ref 284, .ref 285, .ref 286, .ref 287, .ref 288, .ref 289, .ref 290, .ref 291, .ref 292, .ref 293, .int lksq, .ref 294, .ref 295, .ref 298]))] := ⟨(F8 281 (by decide)).trans C281x, CS8.1, trivial⟩
  have K : KN h8 [(281, .inl (1, [.ref 282, .ref 307, .ref 323, .ref 324])), (282, .inl (7, [.ref 343, .int miq, .int shuq, .int busq, .ref 283, .ref 284, .ref 285, .ref 286, .ref 287, .ref 288, .ref 289, .ref 290, .ref 291, .ref 292, .ref 293, .int lksq, .ref 294, .ref 295, .ref 298]))] h8 := K9.K
  show j_V jP _ 10 82 lv [.int (m_price (m_adv n 1 true 300 (sA (sA w (196 + m_rankOf w (nI t)) (nI q)) (196 + m_rankOf w (nI q)) (nI t))))] h8 _
  refine j_V.ri fp5_M fp5_82 ?_
  exact ⟨by rw [pE_adv], T8.sh, fun x g => (F8 x g).trans ((F7 x (by omega)).trans (F9 x g))⟩
theorem lyT.addT {n S s : Nat} {w run tra len siz frm tto slo wei : List Int32} {x : Int32} (T : lyT n S w run tra len siz frm tto slo wei) (H : wf n S w) (hs : s < S) (hm : mN w s < 3) (l2 : tra.length = 7) (l3 : len.length = 21) : lyT n S (m_addTrack w (nI s) x) run (tra.set s (nI (mN w s + 1))) (len.set (3 * s + mN w s) x) siz frm tto slo wei := by
  have hS := H.S7
  have h5 := H.n5
  have hlw := H.len
  have ej := (H.addTrack (s := s) (by omega) hm x).2.1
  have e := addT_n H (s := s) (by omega) hm x
  have g : ∀ r k, r < 7 → k < 5 → fs (m_addTrack w (nI s) x) r k = if r = s ∧ k = 1 then nI (mN w s + 1) else if r = s ∧ k = 2 + mN w s then x else fs w r k := fun r k hr hk => by
    rw [e]
    show gN _ (8 * r + k) = _
    by_cases c1 : r = s ∧ k = 1
    · rw [if_pos c1, c1.1, c1.2, gN_eq (by rw [List.length_set]; omega)]
    · rw [if_neg c1, gN_ne (by omega)]
      by_cases c2 : r = s ∧ k = 2 + mN w s
      · rw [if_pos c2, c2.1, c2.2, show 8 * s + (2 + mN w s) = 8 * s + 2 + mN w s by omega, gN_eq (by omega)]
      · rw [if_neg c2, gN_ne (by omega)]
        rfl
  refine ⟨fun r hr => ?_, fun t ht => ?_⟩
  · obtain ⟨a, b, c⟩ := T.1 r hr
    have hm' := (H.St (s := r) (by omega)).2.1
    refine ⟨?_, ?_, fun k hk => ?_⟩
    · rw [g r 0 (by omega) (by decide), if_neg (by omega), if_neg (by omega)]; exact a
    · rw [g r 1 (by omega) (by decide)]
      by_cases q : r = s
      · rw [if_pos ⟨q, rfl⟩, q, gN_eq (by omega)]
      · rw [if_neg (fun z => q z.1), if_neg (fun z => q z.1), gN_ne (fun z => q z.symm)]; exact b
    · have em : mN (m_addTrack w (nI s) x) r = if r = s then mN w s + 1 else mN w r := by
        show nV (fs (m_addTrack w (nI s) x) r 1) = _
        rw [g r 1 (by omega) (by decide)]
        by_cases q : r = s
        · rw [if_pos ⟨q, rfl⟩, if_pos q, nV_n (by omega)]
        · rw [if_neg (fun z => q z.1), if_neg (fun z => q z.1), if_neg q]; rfl
      rw [em] at hk
      by_cases q : r = s
      · rw [if_pos q] at hk
        subst q
        rw [g r (2 + k) (by omega) (by omega), if_neg (by omega)]
        by_cases q2 : k = mN w r
        · rw [if_pos ⟨rfl, by omega⟩, q2, gN_eq (by omega)]
        · rw [if_neg (by omega), gN_ne (by omega)]; exact c k (by omega)
      · rw [if_neg q] at hk
        rw [g r (2 + k) (by omega) (by omega), if_neg (fun z => q z.1), if_neg (fun z => q z.1), gN_ne (by omega)]
        exact c k hk
  · have f : ∀ k, ft (m_addTrack w (nI s) x) t k = ft w t k := fun k => ej _ (by omega)
    rw [f, f, f, f, f]; exact T.2 t ht
theorem hZ9.opn {L : Nat} {h : J_H} {P : Prop} (R : hZ9 L h) (k : ∀ (ns nt cel : Int32) (run tra len siz frm tto lst slo wei fit way rid lon : List Int32), hYc L h ns nt cel run tra len siz frm tto lst slo wei fit way rid lon → (run.length = 7 ∧ tra.length = 7 ∧ len.length = 21 ∧ siz.length = 5 ∧ frm.length = 5 ∧ tto.length = 5 ∧ lst.length = 5 ∧ slo.length = 5 ∧ wei.length = 5 ∧ fit.length = 5 ∧ way.length = 35 ∧ rid.length = 30 ∧ lon.length = 5) → P) : P := by
  obtain ⟨ns, nt, cel, run, tra, len, siz, frm, tto, lst, slo, wei, fit, way, rid, lon, CL, l⟩ := R
  exact k ns nt cel run tra len siz frm tto lst slo wei fit way rid lon CL l
theorem sf_len {cel : Int32} {len siz : List Int32} {v1 : Int32} : ∀ (f : Nat) (v : Int32) (fit : List Int32), (x_settleFit_l9 cel len siz v1 f v fit).length = fit.length
  | 0, _, _ => rfl
  | f + 1, v, fit => by
    unfold x_settleFit_l9
    split
    · exact sf_len f _ _
    · split
      · exact sf_len f _ _
      · dsimp only
        rw [sf_len f]; exact List.length_set ..
theorem sw69_len {tto : List Int32} {v1 : Int32} : ∀ (f : Nat) (v : Int32) (rid lon way : List Int32), (x_settleWay_l69 tto v1 f v rid lon way).1 = rid ∧ (x_settleWay_l69 tto v1 f v rid lon way).2.1 = lon ∧ (x_settleWay_l69 tto v1 f v rid lon way).2.2.length = way.length
  | 0, _, _, _, _ => ⟨rfl, rfl, rfl⟩
  | f + 1, v, rid, lon, way => by
    unfold x_settleWay_l69
    obtain ⟨a, b, c⟩ := sw69_len (tto := tto) (v1 := v1) f (v + 1) rid lon (sA way ((v1 * 7) + v) (x_wayb (lpN (iMx v (gA tto v1)) ((iMn v (gA tto v1)) + 1)) ((iMn v (gA tto v1)) + 1) 0))
    exact ⟨a, b, c.trans (List.length_set ..)⟩
theorem sw2_len {ns : Int32} {run frm tto slo : List Int32} {v1 : Int32} : ∀ (f : Nat) (v : Int32) (rid lon way : List Int32), (x_settleWay_l2 ns run frm tto slo v1 f v rid lon way).1.length = rid.length ∧ (x_settleWay_l2 ns run frm tto slo v1 f v rid lon way).2.1.length = lon.length ∧ (x_settleWay_l2 ns run frm tto slo v1 f v rid lon way).2.2.length = way.length
  | 0, _, rid, lon, way => by
    unfold x_settleWay_l2
    dsimp only
    obtain ⟨a, b, c⟩ := sw69_len (tto := tto) (v1 := v1) (lpN ns 0) 0 rid (sA lon v1 (x_rideTo frm rid v1 (gA tto v1))) way
    exact ⟨by rw [a], by rw [b]; exact List.length_set .., c⟩
  | f + 1, v, rid, lon, way => by
    unfold x_settleWay_l2
    dsimp only
    obtain ⟨a, b, c⟩ := sw2_len (ns := ns) (run := run) (frm := frm) (tto := tto) (slo := slo) (v1 := v1) f (v + 1) (sA rid ((v1 * 6) + v) ((((gA run (v + 1)) * (2 + (gA slo v1))) + 1) / 2)) lon way
    exact ⟨a.trans (List.length_set ..), b, c⟩
theorem s37_len {ns cel : Int32} {run len siz frm tto slo : List Int32} : ∀ (f : Nat) (v : Int32) (fit rid lon way : List Int32), (x_settle_l37 ns run len siz frm tto slo f v cel fit rid lon way).2.1.length = fit.length ∧ (x_settle_l37 ns run len siz frm tto slo f v cel fit rid lon way).2.2.1.length = rid.length ∧ (x_settle_l37 ns run len siz frm tto slo f v cel fit rid lon way).2.2.2.1.length = lon.length ∧ (x_settle_l37 ns run len siz frm tto slo f v cel fit rid lon way).2.2.2.2.length = way.length
  | 0, _, _, _, _, _ => ⟨rfl, rfl, rfl, rfl⟩
  | f + 1, v, fit, rid, lon, way => by
    unfold x_settle_l37
    dsimp only
    obtain ⟨a, b, c, d⟩ := s37_len (ns := ns) (cel := cel) (run := run) (len := len) (siz := siz) (frm := frm) (tto := tto) (slo := slo) f (v + 1) (x_settleFit cel len siz fit v) (x_settleWay ns run frm tto slo way rid lon v).1 (x_settleWay ns run frm tto slo way rid lon v).2.1 (x_settleWay ns run frm tto slo way rid lon v).2.2
    have e : (x_settleFit cel len siz fit v).length = fit.length := by
      unfold x_settleFit
      dsimp only
      rw [sf_len]; exact List.length_set ..
    obtain ⟨p, q, r⟩ := sw2_len (ns := ns) (run := run) (frm := frm) (tto := tto) (slo := slo) (v1 := v) (lpN (ns - 1) 0) 0 rid lon way
    exact ⟨a.trans e, b.trans p, c.trans q, d.trans r⟩
theorem s7_len {ns nt : Int32} {run tra len siz frm tto slo : List Int32} : ∀ (f : Nat) (v cel : Int32) (fit rid lon way : List Int32), (x_settle_l7 ns nt run tra len siz frm tto slo f v cel fit rid lon way).2.1.length = fit.length ∧ (x_settle_l7 ns nt run tra len siz frm tto slo f v cel fit rid lon way).2.2.1.length = rid.length ∧ (x_settle_l7 ns nt run tra len siz frm tto slo f v cel fit rid lon way).2.2.2.1.length = lon.length ∧ (x_settle_l7 ns nt run tra len siz frm tto slo f v cel fit rid lon way).2.2.2.2.length = way.length
  | 0, _, _, _, _, _, _ => s37_len _ _ _ _ _ _
  | f + 1, v, cel, fit, rid, lon, way => s7_len f _ _ _ _ _ _
theorem se_len {ns nt cel cel' : Int32} {run tra len siz frm tto slo fit way rid lon fit' rid' lon' way' : List Int32} (e : x_settle ns nt run tra len siz frm tto slo fit way rid lon cel = (cel', fit', rid', lon', way')) (l1 : fit.length = 5) (l2 : way.length = 35) (l3 : rid.length = 30) (l4 : lon.length = 5) : fit'.length = 5 ∧ way'.length = 35 ∧ rid'.length = 30 ∧ lon'.length = 5 := by
  have h := s7_len (ns := ns) (nt := nt) (run := run) (tra := tra) (len := len) (siz := siz) (frm := frm) (tto := tto) (slo := slo) (lpN ns 0) 0 0 fit rid lon way
  rw [show x_settle_l7 ns nt run tra len siz frm tto slo (lpN ns 0) 0 0 fit rid lon way = _ from e] at h
  exact ⟨h.1.trans l1, h.2.2.2.trans l2, h.2.1.trans l3, h.2.2.1.trans l4⟩
theorem hc_cw_327 {h : J_H} {n S s d : Nat} {w : List Int32} (Y9 : hY9 327 n S w h) (Z : hZ9 307 h) (H : wf n S w) (hs : s < S) (hm3 : mN w s < 3) (x : Int32) : j_V jP d 25 0 (lv_args 0 [.ref 307, .ref 327, .int (nI s), .int x]) [] h (fun rv h' => rv = none ∧ hY9 307 n S (m_addTrack w (nI s) x) h' ∧ ∀ y, (y < 307 ∨ 323 ≤ y) → h'[y]? = h[y]?) := by
  refine hY9.opn Y9 (fun cels runs tras lens sizs frms ttos lsts slos weis fits ways rids lons CS Y T lS => ?_)
  refine hZ9.opn Z (fun ns nt cel run tra len siz frm tto lst slo wei fit way rid lon CZ lZ => ?_)
  have hS := H.S7
  have e_run : aC 7 runs run = runs := aC_eq (k := 7) (by decide) lS.1 lZ.1
  have e_tra : aC 7 tras tra = tras := aC_eq (k := 7) (by decide) lS.2.1 lZ.2.1
  have e_len : aC 21 lens len = lens := aC_eq (k := 21) (by decide) lS.2.2.1 lZ.2.2.1
  have e_siz : aC 5 sizs siz = sizs := aC_eq (k := 5) (by decide) lS.2.2.2.1 lZ.2.2.2.1
  have e_frm : aC 5 frms frm = frms := aC_eq (k := 5) (by decide) lS.2.2.2.2.1 lZ.2.2.2.2.1
  have e_tto : aC 5 ttos tto = ttos := aC_eq (k := 5) (by decide) lS.2.2.2.2.2.1 lZ.2.2.2.2.2.1
  have e_slo : aC 5 slos slo = slos := aC_eq (k := 5) (by decide) lS.2.2.2.2.2.2.2.1 lZ.2.2.2.2.2.2.2.1
  have e_wei : aC 5 weis wei = weis := aC_eq (k := 5) (by decide) lS.2.2.2.2.2.2.2.2.1 lZ.2.2.2.2.2.2.2.2.1
  have em : gN tras s = nI (mN w s) := (T.1 s hs).2.1.trans (H.St (s := s) (by omega)).1
  have T9 := T.addT (x := x) H hs hm3 lS.2.1 lS.2.2.1
  have W9 := (H.addTrack (s := s) (by omega) hm3 x).1
  obtain ⟨cel', fit', rid', lon', way', es, Y'⟩ := se_qY (cel := cel) W9.g T9 lZ.2.2.2.2.2.2.2.2.2.1 lZ.2.2.2.2.2.2.2.2.2.2.1 lZ.2.2.2.2.2.2.2.2.2.2.2.1 lZ.2.2.2.2.2.2.2.2.2.2.2.2
  have ec : x_copyWithTrack cel run tra len siz frm tto slo wei fit way rid lon (nI S) runs tras lens (nI n) sizs frms ttos slos weis ns nt (nI s) x = (nI S, nI n, runs, tras.set s (nI (mN w s + 1)), lens.set (3 * s + mN w s) x, sizs, frms, ttos, slos, weis, cel', fit', rid', lon', way') := by
    unfold x_copyWithTrack
    dsimp only
    rw [e_run, e_tra, e_len, e_siz, e_frm, e_tto, e_slo, e_wei, gA_n (by omega), em, if_pos (show nI (mN w s) < 3 from nI_lt (a := mN w s) (b := 3) (by omega) (by omega)), i3x, sA_n (by omega), sA_n (by omega), nI_1, es]
  have K0 : kA h [(307, .inl (2, [.int ns, .ref 308, .ref 309, .ref 310, .ref 311, .int nt, .ref 312, .ref 313, .ref 314, .ref 315, .ref 316, .ref 317, .ref 318, .int cel, .ref 319, .ref 320, .ref 321, .ref 322])), (309, .inr (.inl (0, run))), (310, .inr (.inl (0, tra))), (311, .inr (.inl (0, len))), (313, .inr (.inl (0, siz))), (314, .inr (.inl (0, frm))), (315, .inr (.inl (0, tto))), (317, .inr (.inl (0, slo))), (318, .inr (.inl (0, wei))), (319, .inr (.inl (0, fit))), (320, .inr (.inl (0, way))), (321, .inr (.inl (0, rid))), (322, .inr (.inl (0, lon))), (327, .inl (2, [.int (nI S), .ref 328, .ref 329, .ref 330, .ref 331, .int (nI n), .ref 332, .ref 333, .ref 334, .ref 335, .ref 336, .ref 337, .ref 338, .int cels, .ref 339, .ref 340, .ref 341, .ref 342])), (329, .inr (.inl (0, runs))), (330, .inr (.inl (0, tras))), (331, .inr (.inl (0, lens))), (333, .inr (.inl (0, sizs))), (334, .inr (.inl (0, frms))), (335, .inr (.inl (0, ttos))), (337, .inr (.inl (0, slos))), (338, .inr (.inl (0, weis)))] := ⟨CZ.1, CZ.2.1, CZ.2.2.1, CZ.2.2.2.1, CZ.2.2.2.2.1, CZ.2.2.2.2.2.1, CZ.2.2.2.2.2.2.1, CZ.2.2.2.2.2.2.2.2.1, CZ.2.2.2.2.2.2.2.2.2.1, CZ.2.2.2.2.2.2.2.2.2.2.1, CZ.2.2.2.2.2.2.2.2.2.2.2.1, CZ.2.2.2.2.2.2.2.2.2.2.2.2.1, CZ.2.2.2.2.2.2.2.2.2.2.2.2.2, CS.1, CS.2.1, CS.2.2.1, CS.2.2.2.1, CS.2.2.2.2.1, CS.2.2.2.2.2.1, CS.2.2.2.2.2.2.1, CS.2.2.2.2.2.2.2.2.1, CS.2.2.2.2.2.2.2.2.2.1, trivial⟩
  refine j_V.mono (xecw_ok K0.K) ?_
  rintro rv h' ⟨rfl, K⟩
  rw [ec] at K
  dsimp only at K
  have sl := se_len es lZ.2.2.2.2.2.2.2.2.2.1 lZ.2.2.2.2.2.2.2.2.2.2.1 lZ.2.2.2.2.2.2.2.2.2.2.2.1 lZ.2.2.2.2.2.2.2.2.2.2.2.2
  exact ⟨rfl, ⟨cel', runs, tras.set s (nI (mN w s + 1)), lens.set (3 * s + mN w s) x, sizs, frms, ttos, lst, slos, weis, fit', way', rid', lon', ⟨K.at rfl, K.at rfl, K.at rfl, K.at rfl, K.at rfl, K.at rfl, K.at rfl, (K.2.1 316 rfl).trans CZ.2.2.2.2.2.2.2.1, K.at rfl, K.at rfl, K.at rfl, K.at rfl, K.at rfl, K.at rfl⟩, Y', T9, ⟨lS.1, (List.length_set ..).trans lS.2.1, (List.length_set ..).trans lS.2.2.1, lS.2.2.2.1, lS.2.2.2.2.1, lS.2.2.2.2.2.1, lZ.2.2.2.2.2.2.1, lS.2.2.2.2.2.2.2.1, lS.2.2.2.2.2.2.2.2.1, sl.1, sl.2.1, sl.2.2.1, sl.2.2.2⟩⟩, fun y g => KN.off K0 K (lkn (by omega) (lkn (by omega) (lkn (by omega) (lkn (by omega) (lkn (by omega) (lkn (by omega) (lkn (by omega) (lkn (by omega) (lkn (by omega) (lkn (by omega) (lkn (by omega) (lkn (by omega) (lkn (by omega) (lke (lke (lke (lke (lke (lke (lke (lke (lke rfl))))))))))))))))))))))⟩
theorem hc_cw_343 {h : J_H} {n S s d : Nat} {w : List Int32} (Y9 : hY9 343 n S w h) (Z : hZ9 307 h) (H : wf n S w) (hs : s < S) (hm3 : mN w s < 3) (x : Int32) : j_V jP d 25 0 (lv_args 0 [.ref 307, .ref 343, .int (nI s), .int x]) [] h (fun rv h' => rv = none ∧ hY9 307 n S (m_addTrack w (nI s) x) h' ∧ ∀ y, (y < 307 ∨ 323 ≤ y) → h'[y]? = h[y]?) := by
  refine hY9.opn Y9 (fun cels runs tras lens sizs frms ttos lsts slos weis fits ways rids lons CS Y T lS => ?_)
  refine hZ9.opn Z (fun ns nt cel run tra len siz frm tto lst slo wei fit way rid lon CZ lZ => ?_)
  have hS := H.S7
  have e_run : aC 7 runs run = runs := aC_eq (k := 7) (by decide) lS.1 lZ.1
  have e_tra : aC 7 tras tra = tras := aC_eq (k := 7) (by decide) lS.2.1 lZ.2.1
  have e_len : aC 21 lens len = lens := aC_eq (k := 21) (by decide) lS.2.2.1 lZ.2.2.1
  have e_siz : aC 5 sizs siz = sizs := aC_eq (k := 5) (by decide) lS.2.2.2.1 lZ.2.2.2.1
  have e_frm : aC 5 frms frm = frms := aC_eq (k := 5) (by decide) lS.2.2.2.2.1 lZ.2.2.2.2.1
  have e_tto : aC 5 ttos tto = ttos := aC_eq (k := 5) (by decide) lS.2.2.2.2.2.1 lZ.2.2.2.2.2.1
  have e_slo : aC 5 slos slo = slos := aC_eq (k := 5) (by decide) lS.2.2.2.2.2.2.2.1 lZ.2.2.2.2.2.2.2.1
  have e_wei : aC 5 weis wei = weis := aC_eq (k := 5) (by decide) lS.2.2.2.2.2.2.2.2.1 lZ.2.2.2.2.2.2.2.2.1
  have em : gN tras s = nI (mN w s) := (T.1 s hs).2.1.trans (H.St (s := s) (by omega)).1
  have T9 := T.addT (x := x) H hs hm3 lS.2.1 lS.2.2.1
  have W9 := (H.addTrack (s := s) (by omega) hm3 x).1
  obtain ⟨cel', fit', rid', lon', way', es, Y'⟩ := se_qY (cel := cel) W9.g T9 lZ.2.2.2.2.2.2.2.2.2.1 lZ.2.2.2.2.2.2.2.2.2.2.1 lZ.2.2.2.2.2.2.2.2.2.2.2.1 lZ.2.2.2.2.2.2.2.2.2.2.2.2
  have ec : x_copyWithTrack cel run tra len siz frm tto slo wei fit way rid lon (nI S) runs tras lens (nI n) sizs frms ttos slos weis ns nt (nI s) x = (nI S, nI n, runs, tras.set s (nI (mN w s + 1)), lens.set (3 * s + mN w s) x, sizs, frms, ttos, slos, weis, cel', fit', rid', lon', way') := by
    unfold x_copyWithTrack
    dsimp only
    rw [e_run, e_tra, e_len, e_siz, e_frm, e_tto, e_slo, e_wei, gA_n (by omega), em, if_pos (show nI (mN w s) < 3 from nI_lt (a := mN w s) (b := 3) (by omega) (by omega)), i3x, sA_n (by omega), sA_n (by omega), nI_1, es]
  have K0 : kA h [(307, .inl (2, [.int ns, .ref 308, .ref 309, .ref 310, .ref 311, .int nt, .ref 312, .ref 313, .ref 314, .ref 315, .ref 316, .ref 317, .ref 318, .int cel, .ref 319, .ref 320, .ref 321, .ref 322])), (309, .inr (.inl (0, run))), (310, .inr (.inl (0, tra))), (311, .inr (.inl (0, len))), (313, .inr (.inl (0, siz))), (314, .inr (.inl (0, frm))), (315, .inr (.inl (0, tto))), (317, .inr (.inl (0, slo))), (318, .inr (.inl (0, wei))), (319, .inr (.inl (0, fit))), (320, .inr (.inl (0, way))), (321, .inr (.inl (0, rid))), (322, .inr (.inl (0, lon))), (343, .inl (2, [.int (nI S), .ref 344, .ref 345, .ref 346, .ref 347, .int (nI n), .ref 348, .ref 349, .ref 350, .ref 351, .ref 352, .ref 353, .ref 354, .int cels, .ref 355, .ref 356, .ref 357, .ref 358])), (345, .inr (.inl (0, runs))), (346, .inr (.inl (0, tras))), (347, .inr (.inl (0, lens))), (349, .inr (.inl (0, sizs))), (350, .inr (.inl (0, frms))), (351, .inr (.inl (0, ttos))), (353, .inr (.inl (0, slos))), (354, .inr (.inl (0, weis)))] := ⟨CZ.1, CZ.2.1, CZ.2.2.1, CZ.2.2.2.1, CZ.2.2.2.2.1, CZ.2.2.2.2.2.1, CZ.2.2.2.2.2.2.1, CZ.2.2.2.2.2.2.2.2.1, CZ.2.2.2.2.2.2.2.2.2.1, CZ.2.2.2.2.2.2.2.2.2.2.1, CZ.2.2.2.2.2.2.2.2.2.2.2.1, CZ.2.2.2.2.2.2.2.2.2.2.2.2.1, CZ.2.2.2.2.2.2.2.2.2.2.2.2.2, CS.1, CS.2.1, CS.2.2.1, CS.2.2.2.1, CS.2.2.2.2.1, CS.2.2.2.2.2.1, CS.2.2.2.2.2.2.1, CS.2.2.2.2.2.2.2.2.1, CS.2.2.2.2.2.2.2.2.2.1, trivial⟩
  refine j_V.mono (xecx_ok K0.K) ?_
  rintro rv h' ⟨rfl, K⟩
  rw [ec] at K
  dsimp only at K
  have sl := se_len es lZ.2.2.2.2.2.2.2.2.2.1 lZ.2.2.2.2.2.2.2.2.2.2.1 lZ.2.2.2.2.2.2.2.2.2.2.2.1 lZ.2.2.2.2.2.2.2.2.2.2.2.2
  exact ⟨rfl, ⟨cel', runs, tras.set s (nI (mN w s + 1)), lens.set (3 * s + mN w s) x, sizs, frms, ttos, lst, slos, weis, fit', way', rid', lon', ⟨K.at rfl, K.at rfl, K.at rfl, K.at rfl, K.at rfl, K.at rfl, K.at rfl, (K.2.1 316 rfl).trans CZ.2.2.2.2.2.2.2.1, K.at rfl, K.at rfl, K.at rfl, K.at rfl, K.at rfl, K.at rfl⟩, Y', T9, ⟨lS.1, (List.length_set ..).trans lS.2.1, (List.length_set ..).trans lS.2.2.1, lS.2.2.2.1, lS.2.2.2.2.1, lS.2.2.2.2.2.1, lZ.2.2.2.2.2.2.1, lS.2.2.2.2.2.2.2.1, lS.2.2.2.2.2.2.2.2.1, sl.1, sl.2.1, sl.2.2.1, sl.2.2.2⟩⟩, fun y g => KN.off K0 K (lkn (by omega) (lkn (by omega) (lkn (by omega) (lkn (by omega) (lkn (by omega) (lkn (by omega) (lkn (by omega) (lkn (by omega) (lkn (by omega) (lkn (by omega) (lkn (by omega) (lkn (by omega) (lkn (by omega) (lke (lke (lke (lke (lke (lke (lke (lke (lke rfl))))))))))))))))))))))⟩
set_option maxRecDepth 1000000 in
theorem hp_track_327 {g0 : J_H} {n S m d : Nat} {w : List Int32} (P : hF 327 n S w g0) (hm : gN w 201 = nI m) {s : Nat} {x3 : Int32} (hs : s < S) (hm3 : mN w s < 3) (Z : hZ9 307 g0) (hb : m + 300 < 2 ^ 30) : j_V jP d 12 0 (lv_args 0 [.ref 281, .ref 4, .int (nI s), .int x3]) [] g0 (fun rv h' => rv = some (.int (pE n (m_addTrack w (nI s) x3))) ∧ hT9 282 0 h' ∧ hZ9 307 h' ∧ ∀ x, (x < 282 ∨ 323 ≤ x) → h'[x]? = g0[x]?) := by
  obtain ⟨R4, Y4, Q, C281⟩ := P
  have P : hF 327 n S w g0 := ⟨R4, Y4, Q, C281⟩
  refine hT9.opn Q (fun ly miz shuz busz lksz rlz pevz rkz staz phz spz cez duz hez riz usz cmz lfz lkdz rowz seaz pmsz pmmz pmtz pstz pwaz prsz prrz pfaz CT _ _ => ?_)
  refine hS9.opn R4 (fun miN shuN busN lksN rlN pevN rkN staN phN spN ceN duN heN riN usN cmN lfN lkdN rowN seaN pmsN pmmN pmtN pstN pwaN prsN prrN pfaN CN hln VN => ?_)
  have K9 : kA g0 [(4, .inl (7, [.ref 327, .int miN, .int shuN, .int busN, .ref 5, .ref 6, .ref 7, .ref 8, .ref 9, .ref 10, .ref 11, .ref 12, .ref 13, .ref 14, .ref 15, .int lksN, .ref 16, .ref 17, .ref 20])), (281, .inl (1, [.ref 282, .ref 307, .ref 323, .ref 324])), (282, .inl (7, [ly, .int miz, .int shuz, .int busz, .ref 283, .ref 284, .ref 285, .ref 286, .ref 287, .ref 288, .ref 289, .ref 290, .ref 291, .ref 292, .ref 293, .int lksz, .ref 294, .ref 295, .ref 298]))] := ⟨CN.1, C281, CT.1, trivial⟩
  have K : KN g0 [(4, .inl (7, [.ref 327, .int miN, .int shuN, .int busN, .ref 5, .ref 6, .ref 7, .ref 8, .ref 9, .ref 10, .ref 11, .ref 12, .ref 13, .ref 14, .ref 15, .int lksN, .ref 16, .ref 17, .ref 20])), (281, .inl (1, [.ref 282, .ref 307, .ref 323, .ref 324])), (282, .inl (7, [ly, .int miz, .int shuz, .int busz, .ref 283, .ref 284, .ref 285, .ref 286, .ref 287, .ref 288, .ref 289, .ref 290, .ref 291, .ref 292, .ref 293, .int lksz, .ref 294, .ref 295, .ref 298]))] g0 := K9.K
  show j_V jP d 12 0 [(0, .ref 281), (1, .ref 4), (2, .int (nI s)), (3, .int x3)] [] g0 _
  obtain ⟨lv, elv, L9⟩ : ∃ lv, lv = [(0, .ref 281), (1, .ref 4), (2, .int (nI s)), (3, .int x3)] ∧ LK lv [(0, .ref 281), (1, .ref 4), (2, .int (nI s)), (3, .int x3)] := ⟨_, rfl, LK.rf⟩
  rw [← elv]
  clear elv
  have L := L9
  refine j_V.ldL fp6_M fp6_0 rfl (i := 0) (kd := 2) (v := .ref 281) (pcJ := 1) rfl L rfl rfl rfl ?_
  refine j_V.getK fp6_M fp6_1 (ci := 1) (j := 0) rfl K rfl rfl ?_
  refine j_V.ldL fp6_M fp6_4 rfl (i := 1) (kd := 2) (v := .ref 4) (pcJ := 5) rfl L rfl rfl rfl ?_
  refine j_V.cl fp6_M fp6_5 rfl (md := 3) (mj := 61) rfl (by decide) yts_M (As := [.ref 282, .ref 4]) (rest := []) (jk_spl3 (K.at rfl) rfl rfl rfl (Nat.le_of_ble_eq_true rfl) (Nat.le_of_ble_eq_true rfl)) (fun d => ht_cp R4 Q) ?_
  rintro r h9 ⟨rfl, T9, F9⟩
  refine hS9.opn T9 (fun mi shu bus lks rl pev rk sta ph sp ce du he ri us cm lf lkd row sea pms pmm pmt pst pwa prs prr pfa CS hl4 V => ?_)
  have K9 : kA h9 [(4, .inl (7, [.ref 327, .int miN, .int shuN, .int busN, .ref 5, .ref 6, .ref 7, .ref 8, .ref 9, .ref 10, .ref 11, .ref 12, .ref 13, .ref 14, .ref 15, .int lksN, .ref 16, .ref 17, .ref 20])), (281, .inl (1, [.ref 282, .ref 307, .ref 323, .ref 324])), (282, .inl (7, [.ref 327, .int mi, .int shu, .int bus, .ref 283, .ref 284, .ref 285, .ref 286, .ref 287, .ref 288, .ref 289, .ref 290, .ref 291, .ref 292, .ref 293, .int lks, .ref 294, .ref 295, .ref 298]))] := ⟨(F9 4 (by decide)).trans CN.1, (F9 281 (by decide)).trans C281, CS.1, trivial⟩
  have K : KN h9 [(4, .inl (7, [.ref 327, .int miN, .int shuN, .int busN, .ref 5, .ref 6, .ref 7, .ref 8, .ref 9, .ref 10, .ref 11, .ref 12, .ref 13, .ref 14, .ref 15, .int lksN, .ref 16, .ref 17, .ref 20])), (281, .inl (1, [.ref 282, .ref 307, .ref 323, .ref 324])), (282, .inl (7, [.ref 327, .int mi, .int shu, .int bus, .ref 283, .ref 284, .ref 285, .ref 286, .ref 287, .ref 288, .ref 289, .ref 290, .ref 291, .ref 292, .ref 293, .int lks, .ref 294, .ref 295, .ref 298]))] h9 := K9.K
  show j_V jP _ 12 8 lv [] h9 _
  refine j_V.ldL fp6_M fp6_8 rfl (i := 0) (kd := 2) (v := .ref 281) (pcJ := 9) rfl L rfl rfl rfl ?_
  refine j_V.getK fp6_M fp6_9 (ci := 1) (j := 1) rfl K rfl rfl ?_
  refine j_V.ldL fp6_M fp6_12 rfl (i := 1) (kd := 2) (v := .ref 4) (pcJ := 13) rfl L rfl rfl rfl ?_
  refine j_V.getK fp6_M fp6_13 (ci := 7) (j := 0) rfl K rfl rfl ?_
  refine j_V.ldL fp6_M fp6_16 rfl (i := 2) (kd := 0) (v := .int (nI s)) (pcJ := 17) rfl L rfl rfl rfl ?_
  refine j_V.ldL fp6_M fp6_17 rfl (i := 3) (kd := 0) (v := .int x3) (pcJ := 18) rfl L rfl rfl rfl ?_
  have Z7 : hZ9 307 h9 := Z.fr (fun x _ _ => F9 x (by omega))
  have Y7 : hY9 327 n S w h9 := Y4.fr (fun x _ _ => F9 x (by omega))
  obtain ⟨c7, hc7⟩ : ∃ c, h9[307]? = some (.inl (2, c)) := by
    refine hZ9.opn Z7 (fun ns nt cel run tra len siz frm tto lst slo wei fit way rid lon CZ lZ => ⟨_, CZ.1⟩)
  refine j_V.cl fp6_M fp6_18 rfl (md := 3) (mj := 25) rfl (by decide) xecw_M (As := [.ref 307, .ref 327, .int (nI s), .int x3]) (rest := []) (jk_spl3 hc7 rfl rfl rfl (Nat.le_of_ble_eq_true rfl) (Nat.le_of_ble_eq_true rfl)) (fun d => hc_cw_327 Y7 Z7 V.1 hs hm3 _) ?_
  rintro r h7 ⟨rfl, YW, F7⟩
  have K9 : kA h7 [(281, .inl (1, [.ref 282, .ref 307, .ref 323, .ref 324])), (282, .inl (7, [.ref 327, .int mi, .int shu, .int bus, .ref 283, .ref 284, .ref 285, .ref 286, .ref 287, .ref 288, .ref 289, .ref 290, .ref 291, .ref 292, .ref 293, .int lks, .ref 294, .ref 295, .ref 298]))] := ⟨(F7 281 (by decide)).trans ((F9 281 (by decide)).trans C281), (F7 282 (by decide)).trans CS.1, trivial⟩
  have K : KN h7 [(281, .inl (1, [.ref 282, .ref 307, .ref 323, .ref 324])), (282, .inl (7, [.ref 327, .int mi, .int shu, .int bus, .ref 283, .ref 284, .ref 285, .ref 286, .ref 287, .ref 288, .ref 289, .ref 290, .ref 291, .ref 292, .ref 293, .int lks, .ref 294, .ref 295, .ref 298]))] h7 := K9.K
  show j_V jP _ 12 21 lv [] h7 _
  refine j_V.ldL fp6_M fp6_21 rfl (i := 0) (kd := 2) (v := .ref 281) (pcJ := 22) rfl L rfl rfl rfl ?_
  refine j_V.getK fp6_M fp6_22 (ci := 1) (j := 0) rfl K rfl rfl ?_
  refine j_V.ldL fp6_M fp6_25 rfl (i := 0) (kd := 2) (v := .ref 281) (pcJ := 26) rfl L rfl rfl rfl ?_
  refine j_V.getK fp6_M fp6_26 (ci := 1) (j := 1) rfl K rfl rfl ?_
  refine j_V.putK fp6_M fp6_29 (ci := 7) (j := 0) (k' := [(281, .inl (1, [.ref 282, .ref 307, .ref 323, .ref 324])), (282, .inl (7, [.ref 307, .int mi, .int shu, .int bus, .ref 283, .ref 284, .ref 285, .ref 286, .ref 287, .ref 288, .ref 289, .ref 290, .ref 291, .ref 292, .ref 293, .int lks, .ref 294, .ref 295, .ref 298]))]) rfl K rfl (Nat.le_of_ble_eq_true rfl) rfl (Or.inl rfl) rfl rfl (fun h K => ?_)
  refine j_V.ldL fp6_M fp6_32 rfl (i := 0) (kd := 2) (v := .ref 281) (pcJ := 33) rfl L rfl rfl rfl ?_
  refine j_V.getK fp6_M fp6_33 (ci := 1) (j := 0) rfl K rfl rfl ?_
  refine j_V.one fp6_M fp6_36 (by decide) (pcJ := 39) (stJ := [.int 300, .ref 282]) rfl ?_
  refine j_V.one fp6_M fp6_39 (by decide) (pcJ := 40) (stJ := [.int 1, .int 300, .ref 282]) rfl ?_
  refine j_V.one fp6_M fp6_40 (by decide) (pcJ := 41) (stJ := [.int 1, .int 1, .int 300, .ref 282]) rfl ?_
  have C281x : h[281]? = some (.inl (1, [.ref 282, .ref 307, .ref 323, .ref 324])) := (K.at rfl)
  obtain ⟨W9, es, es5⟩ := V.1.addTrack (s := s) (by have := V.1.S7; omega) hm3 x3
  have V9 := V.stat W9 es es5
  have F6 : ∀ x, x ≠ 282 → h[x]? = h7[x]? := fun x g => KN.off K9 K (lke (lkn (fun z => g z.symm) rfl))
  have T2 : hS9 282 307 0 n S (m_addTrack w (nI s) x3) h := ⟨mi, shu, bus, lks, rl, pev, rk, sta, ph, sp, ce, du, he, ri, us, cm, lf, lkd, row, sea, pms, pmm, pmt, pst, pwa, prs, prr, pfa, ⟨K.at rfl, (F6 283 (by decide)).trans ((F7 283 (by decide)).trans CS.2.1), (F6 284 (by decide)).trans ((F7 284 (by decide)).trans CS.2.2.1), (F6 285 (by decide)).trans ((F7 285 (by decide)).trans CS.2.2.2.1), (F6 286 (by decide)).trans ((F7 286 (by decide)).trans CS.2.2.2.2.1), (F6 287 (by decide)).trans ((F7 287 (by decide)).trans CS.2.2.2.2.2.1), (F6 288 (by decide)).trans ((F7 288 (by decide)).trans CS.2.2.2.2.2.2.1), (F6 289 (by decide)).trans ((F7 289 (by decide)).trans CS.2.2.2.2.2.2.2.1), (F6 290 (by decide)).trans ((F7 290 (by decide)).trans CS.2.2.2.2.2.2.2.2.1), (F6 291 (by decide)).trans ((F7 291 (by decide)).trans CS.2.2.2.2.2.2.2.2.2.1), (F6 292 (by decide)).trans ((F7 292 (by decide)).trans CS.2.2.2.2.2.2.2.2.2.2.1), (F6 293 (by decide)).trans ((F7 293 (by decide)).trans CS.2.2.2.2.2.2.2.2.2.2.2.1), (F6 294 (by decide)).trans ((F7 294 (by decide)).trans CS.2.2.2.2.2.2.2.2.2.2.2.2.1), (F6 295 (by decide)).trans ((F7 295 (by decide)).trans CS.2.2.2.2.2.2.2.2.2.2.2.2.2.1), (F6 296 (by decide)).trans ((F7 296 (by decide)).trans CS.2.2.2.2.2.2.2.2.2.2.2.2.2.2.1), (F6 297 (by decide)).trans ((F7 297 (by decide)).trans CS.2.2.2.2.2.2.2.2.2.2.2.2.2.2.2.1), (F6 298 (by decide)).trans ((F7 298 (by decide)).trans CS.2.2.2.2.2.2.2.2.2.2.2.2.2.2.2.2.1), (F6 299 (by decide)).trans ((F7 299 (by decide)).trans CS.2.2.2.2.2.2.2.2.2.2.2.2.2.2.2.2.2.1), (F6 300 (by decide)).trans ((F7 300 (by decide)).trans CS.2.2.2.2.2.2.2.2.2.2.2.2.2.2.2.2.2.2.1), (F6 301 (by decide)).trans ((F7 301 (by decide)).trans CS.2.2.2.2.2.2.2.2.2.2.2.2.2.2.2.2.2.2.2.1), (F6 302 (by decide)).trans ((F7 302 (by decide)).trans CS.2.2.2.2.2.2.2.2.2.2.2.2.2.2.2.2.2.2.2.2.1), (F6 303 (by decide)).trans ((F7 303 (by decide)).trans CS.2.2.2.2.2.2.2.2.2.2.2.2.2.2.2.2.2.2.2.2.2.1), (F6 304 (by decide)).trans ((F7 304 (by decide)).trans CS.2.2.2.2.2.2.2.2.2.2.2.2.2.2.2.2.2.2.2.2.2.2.1), (F6 305 (by decide)).trans ((F7 305 (by decide)).trans CS.2.2.2.2.2.2.2.2.2.2.2.2.2.2.2.2.2.2.2.2.2.2.2.1), (F6 306 (by decide)).trans ((F7 306 (by decide)).trans CS.2.2.2.2.2.2.2.2.2.2.2.2.2.2.2.2.2.2.2.2.2.2.2.2)⟩, hl4, V9⟩
  have Y2 : hY9 307 n S (m_addTrack w (nI s) x3) h := YW.fr (fun x _ _ => F6 x (by omega))
  have hm2 : gN (m_addTrack w (nI s) x3) 201 = nI m := (es 201 (by omega)).trans hm
  refine j_V.cl fp6_M fp6_41 rfl (md := 3) (mj := 92) rfl (by decide) xe45_M (As := [.ref 282, .int 300, .int 1, .int 1]) (rest := []) (jk_spl3 (K.at rfl) rfl rfl rfl (Nat.le_of_ble_eq_true rfl) (Nat.le_of_ble_eq_true rfl)) (fun d => hv_xe (k := 300) (e := true) T2 Y2 hm2 hb 1 _ rfl) ?_
  rintro r h8 ⟨rfl, T8, Y8, -, F8⟩
  refine hS9.opn T8 (fun miq shuq busq lksq rlq pevq rkq staq phq spq ceq duq heq riq usq cmq lfq lkdq rowq seaq pmsq pmmq pmtq pstq pwaq prsq prrq pfaq CS8 _ _ => ?_)
  have K9 : kA h8 [(281, .inl (1, [.ref 282, .ref 307, .ref 323, .ref 324])), (282, .inl (7, [.ref 307, .int miq, .int shuq, .int busq, .ref 283, .ref 284, .ref 285, .ref 286, .ref 287, .ref 288, .ref 289, .ref 290, .ref 291, .ref 292, .ref 293, .int lksq, .ref 294, .ref 295, .ref 298]))] := ⟨(F8 281 (by decide)).trans C281x, CS8.1, trivial⟩
  have K : KN h8 [(281, .inl (1, [.ref 282, .ref 307, .ref 323, .ref 324])), (282, .inl (7, [.ref 307, .int miq, .int shuq, .int busq, .ref 283, .ref 284, .ref 285, .ref 286, .ref 287, .ref 288, .ref 289, .ref 290, .ref 291, .ref 292, .ref 293, .int lksq, .ref 294, .ref 295, .ref 298]))] h8 := K9.K
  show j_V jP _ 12 44 lv [.int (m_price (m_adv n 1 true 300 (m_addTrack w (nI s) x3)))] h8 _
  refine j_V.ri fp6_M fp6_44 ?_
  exact ⟨by rw [pE_adv], T8.sh, Y8.sh, fun x g => (F8 x (by omega)).trans ((F6 x (by omega)).trans ((F7 x (by omega)).trans (F9 x (by omega))))⟩
set_option maxRecDepth 1000000 in
theorem hp_track_343 {g0 : J_H} {n S m d : Nat} {w : List Int32} (P : hF 343 n S w g0) (hm : gN w 201 = nI m) {s : Nat} {x3 : Int32} (hs : s < S) (hm3 : mN w s < 3) (Z : hZ9 307 g0) (hb : m + 300 < 2 ^ 30) : j_V jP d 12 0 (lv_args 0 [.ref 281, .ref 4, .int (nI s), .int x3]) [] g0 (fun rv h' => rv = some (.int (pE n (m_addTrack w (nI s) x3))) ∧ hT9 282 0 h' ∧ hZ9 307 h' ∧ ∀ x, (x < 282 ∨ 323 ≤ x) → h'[x]? = g0[x]?) := by
  obtain ⟨R4, Y4, Q, C281⟩ := P
  have P : hF 343 n S w g0 := ⟨R4, Y4, Q, C281⟩
  refine hT9.opn Q (fun ly miz shuz busz lksz rlz pevz rkz staz phz spz cez duz hez riz usz cmz lfz lkdz rowz seaz pmsz pmmz pmtz pstz pwaz prsz prrz pfaz CT _ _ => ?_)
  refine hS9.opn R4 (fun miN shuN busN lksN rlN pevN rkN staN phN spN ceN duN heN riN usN cmN lfN lkdN rowN seaN pmsN pmmN pmtN pstN pwaN prsN prrN pfaN CN hln VN => ?_)
  have K9 : kA g0 [(4, .inl (7, [.ref 343, .int miN, .int shuN, .int busN, .ref 5, .ref 6, .ref 7, .ref 8, .ref 9, .ref 10, .ref 11, .ref 12, .ref 13, .ref 14, .ref 15, .int lksN, .ref 16, .ref 17, .ref 20])), (281, .inl (1, [.ref 282, .ref 307, .ref 323, .ref 324])), (282, .inl (7, [ly, .int miz, .int shuz, .int busz, .ref 283, .ref 284, .ref 285, .ref 286, .ref 287, .ref 288, .ref 289, .ref 290, .ref 291, .ref 292, .ref 293, .int lksz, .ref 294, .ref 295, .ref 298]))] := ⟨CN.1, C281, CT.1, trivial⟩
  have K : KN g0 [(4, .inl (7, [.ref 343, .int miN, .int shuN, .int busN, .ref 5, .ref 6, .ref 7, .ref 8, .ref 9, .ref 10, .ref 11, .ref 12, .ref 13, .ref 14, .ref 15, .int lksN, .ref 16, .ref 17, .ref 20])), (281, .inl (1, [.ref 282, .ref 307, .ref 323, .ref 324])), (282, .inl (7, [ly, .int miz, .int shuz, .int busz, .ref 283, .ref 284, .ref 285, .ref 286, .ref 287, .ref 288, .ref 289, .ref 290, .ref 291, .ref 292, .ref 293, .int lksz, .ref 294, .ref 295, .ref 298]))] g0 := K9.K
  show j_V jP d 12 0 [(0, .ref 281), (1, .ref 4), (2, .int (nI s)), (3, .int x3)] [] g0 _
  obtain ⟨lv, elv, L9⟩ : ∃ lv, lv = [(0, .ref 281), (1, .ref 4), (2, .int (nI s)), (3, .int x3)] ∧ LK lv [(0, .ref 281), (1, .ref 4), (2, .int (nI s)), (3, .int x3)] := ⟨_, rfl, LK.rf⟩
  rw [← elv]
  clear elv
  have L := L9
  refine j_V.ldL fp6_M fp6_0 rfl (i := 0) (kd := 2) (v := .ref 281) (pcJ := 1) rfl L rfl rfl rfl ?_
  refine j_V.getK fp6_M fp6_1 (ci := 1) (j := 0) rfl K rfl rfl ?_
  refine j_V.ldL fp6_M fp6_4 rfl (i := 1) (kd := 2) (v := .ref 4) (pcJ := 5) rfl L rfl rfl rfl ?_
  refine j_V.cl fp6_M fp6_5 rfl (md := 3) (mj := 61) rfl (by decide) yts_M (As := [.ref 282, .ref 4]) (rest := []) (jk_spl3 (K.at rfl) rfl rfl rfl (Nat.le_of_ble_eq_true rfl) (Nat.le_of_ble_eq_true rfl)) (fun d => ht_cp R4 Q) ?_
  rintro r h9 ⟨rfl, T9, F9⟩
  refine hS9.opn T9 (fun mi shu bus lks rl pev rk sta ph sp ce du he ri us cm lf lkd row sea pms pmm pmt pst pwa prs prr pfa CS hl4 V => ?_)
  have K9 : kA h9 [(4, .inl (7, [.ref 343, .int miN, .int shuN, .int busN, .ref 5, .ref 6, .ref 7, .ref 8, .ref 9, .ref 10, .ref 11, .ref 12, .ref 13, .ref 14, .ref 15, .int lksN, .ref 16, .ref 17, .ref 20])), (281, .inl (1, [.ref 282, .ref 307, .ref 323, .ref 324])), (282, .inl (7, [.ref 343, .int mi, .int shu, .int bus, .ref 283, .ref 284, .ref 285, .ref 286, .ref 287, .ref 288, .ref 289, .ref 290, .ref 291, .ref 292, .ref 293, .int lks, .ref 294, .ref 295, .ref 298]))] := ⟨(F9 4 (by decide)).trans CN.1, (F9 281 (by decide)).trans C281, CS.1, trivial⟩
  have K : KN h9 [(4, .inl (7, [.ref 343, .int miN, .int shuN, .int busN, .ref 5, .ref 6, .ref 7, .ref 8, .ref 9, .ref 10, .ref 11, .ref 12, .ref 13, .ref 14, .ref 15, .int lksN, .ref 16, .ref 17, .ref 20])), (281, .inl (1, [.ref 282, .ref 307, .ref 323, .ref 324])), (282, .inl (7, [.ref 343, .int mi, .int shu, .int bus, .ref 283, .ref 284, .ref 285, .ref 286, .ref 287, .ref 288, .ref 289, .ref 290, .ref 291, .ref 292, .ref 293, .int lks, .ref 294, .ref 295, .ref 298]))] h9 := K9.K
  show j_V jP _ 12 8 lv [] h9 _
  refine j_V.ldL fp6_M fp6_8 rfl (i := 0) (kd := 2) (v := .ref 281) (pcJ := 9) rfl L rfl rfl rfl ?_
  refine j_V.getK fp6_M fp6_9 (ci := 1) (j := 1) rfl K rfl rfl ?_
  refine j_V.ldL fp6_M fp6_12 rfl (i := 1) (kd := 2) (v := .ref 4) (pcJ := 13) rfl L rfl rfl rfl ?_
  refine j_V.getK fp6_M fp6_13 (ci := 7) (j := 0) rfl K rfl rfl ?_
  refine j_V.ldL fp6_M fp6_16 rfl (i := 2) (kd := 0) (v := .int (nI s)) (pcJ := 17) rfl L rfl rfl rfl ?_
  refine j_V.ldL fp6_M fp6_17 rfl (i := 3) (kd := 0) (v := .int x3) (pcJ := 18) rfl L rfl rfl rfl ?_
  have Z7 : hZ9 307 h9 := Z.fr (fun x _ _ => F9 x (by omega))
  have Y7 : hY9 343 n S w h9 := Y4.fr (fun x _ _ => F9 x (by omega))
  obtain ⟨c7, hc7⟩ : ∃ c, h9[307]? = some (.inl (2, c)) := by
    refine hZ9.opn Z7 (fun ns nt cel run tra len siz frm tto lst slo wei fit way rid lon CZ lZ => ⟨_, CZ.1⟩)
  refine j_V.cl fp6_M fp6_18 rfl (md := 3) (mj := 25) rfl (by decide) xecx_M (As := [.ref 307, .ref 343, .int (nI s), .int x3]) (rest := []) (jk_spl3 hc7 rfl rfl rfl (Nat.le_of_ble_eq_true rfl) (Nat.le_of_ble_eq_true rfl)) (fun d => hc_cw_343 Y7 Z7 V.1 hs hm3 _) ?_
  rintro r h7 ⟨rfl, YW, F7⟩
  have K9 : kA h7 [(281, .inl (1, [.ref 282, .ref 307, .ref 323, .ref 324])), (282, .inl (7, [.ref 343, .int mi, .int shu, .int bus, .ref 283, .ref 284, .ref 285, .ref 286, .ref 287, .ref 288, .ref 289, .ref 290, .ref 291, .ref 292, .ref 293, .int lks, .ref 294, .ref 295, .ref 298]))] := ⟨(F7 281 (by decide)).trans ((F9 281 (by decide)).trans C281), (F7 282 (by decide)).trans CS.1, trivial⟩
  have K : KN h7 [(281, .inl (1, [.ref 282, .ref 307, .ref 323, .ref 324])), (282, .inl (7, [.ref 343, .int mi, .int shu, .int bus, .ref 283, .ref 284, .ref 285, .ref 286, .ref 287, .ref 288, .ref 289, .ref 290, .ref 291, .ref 292, .ref 293, .int lks, .ref 294, .ref 295, .ref 298]))] h7 := K9.K
  show j_V jP _ 12 21 lv [] h7 _
  refine j_V.ldL fp6_M fp6_21 rfl (i := 0) (kd := 2) (v := .ref 281) (pcJ := 22) rfl L rfl rfl rfl ?_
  refine j_V.getK fp6_M fp6_22 (ci := 1) (j := 0) rfl K rfl rfl ?_
  refine j_V.ldL fp6_M fp6_25 rfl (i := 0) (kd := 2) (v := .ref 281) (pcJ := 26) rfl L rfl rfl rfl ?_
  refine j_V.getK fp6_M fp6_26 (ci := 1) (j := 1) rfl K rfl rfl ?_
  refine j_V.putK fp6_M fp6_29 (ci := 7) (j := 0) (k' := [(281, .inl (1, [.ref 282, .ref 307, .ref 323, .ref 324])), (282, .inl (7, [.ref 307, .int mi, .int shu, .int bus, .ref 283, .ref 284, .ref 285, .ref 286, .ref 287, .ref 288, .ref 289, .ref 290, .ref 291, .ref 292, .ref 293, .int lks, .ref 294, .ref 295, .ref 298]))]) rfl K rfl (Nat.le_of_ble_eq_true rfl) rfl (Or.inl rfl) rfl rfl (fun h K => ?_)
  refine j_V.ldL fp6_M fp6_32 rfl (i := 0) (kd := 2) (v := .ref 281) (pcJ := 33) rfl L rfl rfl rfl ?_
  refine j_V.getK fp6_M fp6_33 (ci := 1) (j := 0) rfl K rfl rfl ?_
  refine j_V.one fp6_M fp6_36 (by decide) (pcJ := 39) (stJ := [.int 300, .ref 282]) rfl ?_
  refine j_V.one fp6_M fp6_39 (by decide) (pcJ := 40) (stJ := [.int 1, .int 300, .ref 282]) rfl ?_
  refine j_V.one fp6_M fp6_40 (by decide) (pcJ := 41) (stJ := [.int 1, .int 1, .int 300, .ref 282]) rfl ?_
  have C281x : h[281]? = some (.inl (1, [.ref 282, .ref 307, .ref 323, .ref 324])) := (K.at rfl)
  obtain ⟨W9, es, es5⟩ := V.1.addTrack (s := s) (by have := V.1.S7; omega) hm3 x3
  have V9 := V.stat W9 es es5
  have F6 : ∀ x, x ≠ 282 → h[x]? = h7[x]? := fun x g => KN.off K9 K (lke (lkn (fun z => g z.symm) rfl))
  have T2 : hS9 282 307 0 n S (m_addTrack w (nI s) x3) h := ⟨mi, shu, bus, lks, rl, pev, rk, sta, ph, sp, ce, du, he, ri, us, cm, lf, lkd, row, sea, pms, pmm, pmt, pst, pwa, prs, prr, pfa, ⟨K.at rfl, (F6 283 (by decide)).trans ((F7 283 (by decide)).trans CS.2.1), (F6 284 (by decide)).trans ((F7 284 (by decide)).trans CS.2.2.1), (F6 285 (by decide)).trans ((F7 285 (by decide)).trans CS.2.2.2.1), (F6 286 (by decide)).trans ((F7 286 (by decide)).trans CS.2.2.2.2.1), (F6 287 (by decide)).trans ((F7 287 (by decide)).trans CS.2.2.2.2.2.1), (F6 288 (by decide)).trans ((F7 288 (by decide)).trans CS.2.2.2.2.2.2.1), (F6 289 (by decide)).trans ((F7 289 (by decide)).trans CS.2.2.2.2.2.2.2.1), (F6 290 (by decide)).trans ((F7 290 (by decide)).trans CS.2.2.2.2.2.2.2.2.1), (F6 291 (by decide)).trans ((F7 291 (by decide)).trans CS.2.2.2.2.2.2.2.2.2.1), (F6 292 (by decide)).trans ((F7 292 (by decide)).trans CS.2.2.2.2.2.2.2.2.2.2.1), (F6 293 (by decide)).trans ((F7 293 (by decide)).trans CS.2.2.2.2.2.2.2.2.2.2.2.1), (F6 294 (by decide)).trans ((F7 294 (by decide)).trans CS.2.2.2.2.2.2.2.2.2.2.2.2.1), (F6 295 (by decide)).trans ((F7 295 (by decide)).trans CS.2.2.2.2.2.2.2.2.2.2.2.2.2.1), (F6 296 (by decide)).trans ((F7 296 (by decide)).trans CS.2.2.2.2.2.2.2.2.2.2.2.2.2.2.1), (F6 297 (by decide)).trans ((F7 297 (by decide)).trans CS.2.2.2.2.2.2.2.2.2.2.2.2.2.2.2.1), (F6 298 (by decide)).trans ((F7 298 (by decide)).trans CS.2.2.2.2.2.2.2.2.2.2.2.2.2.2.2.2.1), (F6 299 (by decide)).trans ((F7 299 (by decide)).trans CS.2.2.2.2.2.2.2.2.2.2.2.2.2.2.2.2.2.1), (F6 300 (by decide)).trans ((F7 300 (by decide)).trans CS.2.2.2.2.2.2.2.2.2.2.2.2.2.2.2.2.2.2.1), (F6 301 (by decide)).trans ((F7 301 (by decide)).trans CS.2.2.2.2.2.2.2.2.2.2.2.2.2.2.2.2.2.2.2.1), (F6 302 (by decide)).trans ((F7 302 (by decide)).trans CS.2.2.2.2.2.2.2.2.2.2.2.2.2.2.2.2.2.2.2.2.1), (F6 303 (by decide)).trans ((F7 303 (by decide)).trans CS.2.2.2.2.2.2.2.2.2.2.2.2.2.2.2.2.2.2.2.2.2.1), (F6 304 (by decide)).trans ((F7 304 (by decide)).trans CS.2.2.2.2.2.2.2.2.2.2.2.2.2.2.2.2.2.2.2.2.2.2.1), (F6 305 (by decide)).trans ((F7 305 (by decide)).trans CS.2.2.2.2.2.2.2.2.2.2.2.2.2.2.2.2.2.2.2.2.2.2.2.1), (F6 306 (by decide)).trans ((F7 306 (by decide)).trans CS.2.2.2.2.2.2.2.2.2.2.2.2.2.2.2.2.2.2.2.2.2.2.2.2)⟩, hl4, V9⟩
  have Y2 : hY9 307 n S (m_addTrack w (nI s) x3) h := YW.fr (fun x _ _ => F6 x (by omega))
  have hm2 : gN (m_addTrack w (nI s) x3) 201 = nI m := (es 201 (by omega)).trans hm
  refine j_V.cl fp6_M fp6_41 rfl (md := 3) (mj := 92) rfl (by decide) xe45_M (As := [.ref 282, .int 300, .int 1, .int 1]) (rest := []) (jk_spl3 (K.at rfl) rfl rfl rfl (Nat.le_of_ble_eq_true rfl) (Nat.le_of_ble_eq_true rfl)) (fun d => hv_xe (k := 300) (e := true) T2 Y2 hm2 hb 1 _ rfl) ?_
  rintro r h8 ⟨rfl, T8, Y8, -, F8⟩
  refine hS9.opn T8 (fun miq shuq busq lksq rlq pevq rkq staq phq spq ceq duq heq riq usq cmq lfq lkdq rowq seaq pmsq pmmq pmtq pstq pwaq prsq prrq pfaq CS8 _ _ => ?_)
  have K9 : kA h8 [(281, .inl (1, [.ref 282, .ref 307, .ref 323, .ref 324])), (282, .inl (7, [.ref 307, .int miq, .int shuq, .int busq, .ref 283, .ref 284, .ref 285, .ref 286, .ref 287, .ref 288, .ref 289, .ref 290, .ref 291, .ref 292, .ref 293, .int lksq, .ref 294, .ref 295, .ref 298]))] := ⟨(F8 281 (by decide)).trans C281x, CS8.1, trivial⟩
  have K : KN h8 [(281, .inl (1, [.ref 282, .ref 307, .ref 323, .ref 324])), (282, .inl (7, [.ref 307, .int miq, .int shuq, .int busq, .ref 283, .ref 284, .ref 285, .ref 286, .ref 287, .ref 288, .ref 289, .ref 290, .ref 291, .ref 292, .ref 293, .int lksq, .ref 294, .ref 295, .ref 298]))] h8 := K9.K
  show j_V jP _ 12 44 lv [.int (m_price (m_adv n 1 true 300 (m_addTrack w (nI s) x3)))] h8 _
  refine j_V.ri fp6_M fp6_44 ?_
  exact ⟨by rw [pE_adv], T8.sh, Y8.sh, fun x g => (F8 x (by omega)).trans ((F6 x (by omega)).trans ((F7 x (by omega)).trans (F9 x (by omega))))⟩

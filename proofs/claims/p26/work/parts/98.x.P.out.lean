/-! the trial behind remove, told by its shape alone: written by wip/px/gen_hD.py -/
def hU9 (L : Nat) (h : J_H) : Prop := ∃ (mi shu bus lks rl pev : Int32) (rk sta ph sp ce du he ri us cm lf lkd row sea pms pmm pmt pst pwa prs prr pfa : List Int32), hSc 282 h (.ref L) mi shu bus lks rl pev 0 rk sta ph sp ce du he ri us cm lf lkd row sea pms pmm pmt pst pwa prs prr pfa ∧ (rk.length = 5 ∧ sta.length = 5 ∧ ph.length = 5 ∧ sp.length = 5 ∧ ce.length = 5 ∧ du.length = 5 ∧ he.length = 5 ∧ ri.length = 6 ∧ us.length = 6 ∧ cm.length = 35 ∧ lf.length = 35 ∧ lkd.length = 12 ∧ row.length = 5 ∧ sea.length = 5)
theorem hU9.opn {L : Nat} {h : J_H} {P : Prop} (R : hU9 L h) (k : ∀ (mi shu bus lks rl pev : Int32) (rk sta ph sp ce du he ri us cm lf lkd row sea pms pmm pmt pst pwa prs prr pfa : List Int32), hSc 282 h (.ref L) mi shu bus lks rl pev 0 rk sta ph sp ce du he ri us cm lf lkd row sea pms pmm pmt pst pwa prs prr pfa → (rk.length = 5 ∧ sta.length = 5 ∧ ph.length = 5 ∧ sp.length = 5 ∧ ce.length = 5 ∧ du.length = 5 ∧ he.length = 5 ∧ ri.length = 6 ∧ us.length = 6 ∧ cm.length = 35 ∧ lf.length = 35 ∧ lkd.length = 12 ∧ row.length = 5 ∧ sea.length = 5) → P) : P := by
  obtain ⟨mi, shu, bus, lks, rl, pev, rk, sta, ph, sp, ce, du, he, ri, us, cm, lf, lkd, row, sea, pms, pmm, pmt, pst, pwa, prs, prr, pfa, C, l⟩ := R
  exact k mi shu bus lks rl pev rk sta ph sp ce du he ri us cm lf lkd row sea pms pmm pmt pst pwa prs prr pfa C l
theorem hU9.sh {L : Nat} {h : J_H} (R : hU9 L h) : hT9 282 0 h := by
  obtain ⟨mi, shu, bus, lks, rl, pev, rk, sta, ph, sp, ce, du, he, ri, us, cm, lf, lkd, row, sea, pms, pmm, pmt, pst, pwa, prs, prr, pfa, C, l⟩ := R
  exact ⟨_, mi, shu, bus, lks, rl, pev, rk, sta, ph, sp, ce, du, he, ri, us, cm, lf, lkd, row, sea, pms, pmm, pmt, pst, pwa, prs, prr, pfa, C, l, fun z => absurd rfl z⟩
theorem hS9.u {L n S : Nat} {w : List Int32} {h : J_H} (R : hS9 282 L 0 n S w h) : hU9 L h := by
  obtain ⟨mi, shu, bus, lks, rl, pev, rk, sta, ph, sp, ce, du, he, ri, us, cm, lf, lkd, row, sea, pms, pmm, pmt, pst, pwa, prs, prr, pfa, C, ⟨l1, l2, l3, l4⟩, V⟩ := R
  exact ⟨mi, shu, bus, lks, rl, pev, rk, sta, ph, sp, ce, du, he, ri, us, cm, lf, lkd, row, sea, pms, pmm, pmt, pst, pwa, prs, prr, pfa, C, ⟨l1, l2, V.2.1.1.1.1, V.2.1.1.1.2.1, V.2.1.1.1.2.2, V.2.1.2.2.2.1.1, l3, V.2.1.2.2.1.1, V.2.2.2.2.1.1, V.2.1.2.2.2.2.1.1.1, V.2.1.2.2.2.2.1.1.2, l4, V.2.2.2.2.2.2.2.2, V.2.2.2.2.2.2.2.1⟩⟩
theorem hw_rem_327 {h : J_H} {n S d : Nat} {w : List Int32} (R : hU9 327 h) (Q : hY9 327 n S w h) (x1 : Int32) : j_V jP d 101 0 (lv_args 0 [.ref 282, .int x1]) [] h (fun rv h' => rv = none ∧ hU9 327 h' ∧ ∀ x, (x < 282 ∨ 307 ≤ x) → h'[x]? = h[x]?) := by
  refine hU9.opn R (fun mi shu bus lks rl pev rk sta ph sp ce du he ri us cm lf lkd row sea pms pmm pmt pst pwa prs prr pfa CS l1 => ?_)
  refine hY9.opn Q (fun cel run tra len siz frm tto lst slo wei fit way rid lon CL Y T hlY => ?_)
  have K0 : kA h [(282, .inl (7, [.ref 327, .int mi, .int shu, .int bus, .ref 283, .ref 284, .ref 285, .ref 286, .ref 287, .ref 288, .ref 289, .ref 290, .ref 291, .ref 292, .ref 293, .int lks, .ref 294, .ref 295, .ref 298])), (285, .inr (.inl (0, ph))), (286, .inr (.inl (0, sp))), (287, .inr (.inl (0, ce))), (290, .inr (.inl (0, ri))), (327, .inl (2, [.int (nI S), .ref 328, .ref 329, .ref 330, .ref 331, .int (nI n), .ref 332, .ref 333, .ref 334, .ref 335, .ref 336, .ref 337, .ref 338, .int cel, .ref 339, .ref 340, .ref 341, .ref 342])), (335, .inr (.inl (0, tto)))] := ⟨CS.1, CS.2.2.2.1, CS.2.2.2.2.1, CS.2.2.2.2.2.1, CS.2.2.2.2.2.2.2.2.1, CL.1, CL.2.2.2.2.2.2.1, trivial⟩
  refine j_V.mono (j_V.sm (xc34_ok K0.K)) ?_
  rintro rv h' ⟨⟨rfl, K⟩, sm⟩
  exact ⟨rfl, ⟨_, _, _, _, _, _, _, _, _, _, _, _, _, _, _, _, _, _, _, _, _, _, _, _, _, _, _, _, ⟨K.at rfl, (K.2.1 283 rfl).trans CS.2.1, (K.2.1 284 rfl).trans CS.2.2.1, K.at rfl, K.at rfl, K.at rfl, (K.2.1 288 rfl).trans CS.2.2.2.2.2.2.1, (K.2.1 289 rfl).trans CS.2.2.2.2.2.2.2.1, K.at rfl, (K.2.1 291 rfl).trans CS.2.2.2.2.2.2.2.2.2.1, (K.2.1 292 rfl).trans CS.2.2.2.2.2.2.2.2.2.2.1, (K.2.1 293 rfl).trans CS.2.2.2.2.2.2.2.2.2.2.2.1, (K.2.1 294 rfl).trans CS.2.2.2.2.2.2.2.2.2.2.2.2.1, (K.2.1 295 rfl).trans CS.2.2.2.2.2.2.2.2.2.2.2.2.2.1, (K.2.1 296 rfl).trans CS.2.2.2.2.2.2.2.2.2.2.2.2.2.2.1, (K.2.1 297 rfl).trans CS.2.2.2.2.2.2.2.2.2.2.2.2.2.2.2.1, (K.2.1 298 rfl).trans CS.2.2.2.2.2.2.2.2.2.2.2.2.2.2.2.2.1, (K.2.1 299 rfl).trans CS.2.2.2.2.2.2.2.2.2.2.2.2.2.2.2.2.2.1, (K.2.1 300 rfl).trans CS.2.2.2.2.2.2.2.2.2.2.2.2.2.2.2.2.2.2.1, (K.2.1 301 rfl).trans CS.2.2.2.2.2.2.2.2.2.2.2.2.2.2.2.2.2.2.2.1, (K.2.1 302 rfl).trans CS.2.2.2.2.2.2.2.2.2.2.2.2.2.2.2.2.2.2.2.2.1, (K.2.1 303 rfl).trans CS.2.2.2.2.2.2.2.2.2.2.2.2.2.2.2.2.2.2.2.2.2.1, (K.2.1 304 rfl).trans CS.2.2.2.2.2.2.2.2.2.2.2.2.2.2.2.2.2.2.2.2.2.2.1, (K.2.1 305 rfl).trans CS.2.2.2.2.2.2.2.2.2.2.2.2.2.2.2.2.2.2.2.2.2.2.2.1, (K.2.1 306 rfl).trans CS.2.2.2.2.2.2.2.2.2.2.2.2.2.2.2.2.2.2.2.2.2.2.2.2⟩, ⟨l1.1, l1.2.1, (sm.arr CS.2.2.2.1 (K.at rfl)).trans l1.2.2.1, (sm.arr CS.2.2.2.2.1 (K.at rfl)).trans l1.2.2.2.1, (sm.arr CS.2.2.2.2.2.1 (K.at rfl)).trans l1.2.2.2.2.1, l1.2.2.2.2.2.1, l1.2.2.2.2.2.2.1, (sm.arr CS.2.2.2.2.2.2.2.2.1 (K.at rfl)).trans l1.2.2.2.2.2.2.2.1, l1.2.2.2.2.2.2.2.2.1, l1.2.2.2.2.2.2.2.2.2.1, l1.2.2.2.2.2.2.2.2.2.2.1, l1.2.2.2.2.2.2.2.2.2.2.2.1, l1.2.2.2.2.2.2.2.2.2.2.2.2.1, l1.2.2.2.2.2.2.2.2.2.2.2.2.2⟩⟩, fun x g => KN.off K0 K (lkn (by omega) (lkn (by omega) (lkn (by omega) (lkn (by omega) (lkn (by omega) (lke (lke rfl)))))))⟩
theorem hw_adv_327 {h : J_H} {n S d : Nat} {w : List Int32} (R : hU9 327 h) (Q : hY9 327 n S w h) (x1 x2 x3 : Int32) : j_V jP d 92 0 (lv_args 0 [.ref 282, .int x1, .int x2, .int x3]) [] h (fun rv h' => (∃ v, rv = some (.int v)) ∧ hU9 327 h' ∧ ∀ x, (x < 282 ∨ 307 ≤ x) → h'[x]? = h[x]?) := by
  refine hU9.opn R (fun mi shu bus lks rl pev rk sta ph sp ce du he ri us cm lf lkd row sea pms pmm pmt pst pwa prs prr pfa CS l1 => ?_)
  refine hY9.opn Q (fun cel run tra len siz frm tto lst slo wei fit way rid lon CL Y T hlY => ?_)
  have K0 : kA h [(282, .inl (7, [.ref 327, .int mi, .int shu, .int bus, .ref 283, .ref 284, .ref 285, .ref 286, .ref 287, .ref 288, .ref 289, .ref 290, .ref 291, .ref 292, .ref 293, .int lks, .ref 294, .ref 295, .ref 298])), (283, .inr (.inl (0, rk))), (284, .inr (.inl (0, sta))), (285, .inr (.inl (0, ph))), (286, .inr (.inl (0, sp))), (287, .inr (.inl (0, ce))), (288, .inr (.inl (0, du))), (289, .inr (.inl (0, he))), (290, .inr (.inl (0, ri))), (291, .inr (.inl (0, us))), (292, .inr (.inl (0, cm))), (293, .inr (.inl (0, lf))), (294, .inr (.inl (0, lkd))), (295, .inl (5, [.ref 296, .int rl, .ref 297])), (296, .inr (.inl (0, row))), (297, .inr (.inl (0, sea))), (298, .inl (3, [.ref 299, .ref 300, .ref 301, .ref 302, .ref 303, .ref 304, .ref 305, .ref 306, .int pev, .int 0])), (299, .inr (.inl (0, pms))), (300, .inr (.inl (0, pmm))), (301, .inr (.inl (0, pmt))), (302, .inr (.inl (0, pst))), (303, .inr (.inl (0, pwa))), (304, .inr (.inl (0, prs))), (305, .inr (.inl (0, prr))), (306, .inr (.inl (0, pfa))), (327, .inl (2, [.int (nI S), .ref 328, .ref 329, .ref 330, .ref 331, .int (nI n), .ref 332, .ref 333, .ref 334, .ref 335, .ref 336, .ref 337, .ref 338, .int cel, .ref 339, .ref 340, .ref 341, .ref 342])), (331, .inr (.inl (0, len))), (334, .inr (.inl (0, frm))), (335, .inr (.inl (0, tto))), (338, .inr (.inl (0, wei))), (339, .inr (.inl (0, fit))), (340, .inr (.inl (0, way))), (341, .inr (.inl (0, rid))), (342, .inr (.inl (0, lon)))] := ⟨CS.1, CS.2.1, CS.2.2.1, CS.2.2.2.1, CS.2.2.2.2.1, CS.2.2.2.2.2.1, CS.2.2.2.2.2.2.1, CS.2.2.2.2.2.2.2.1, CS.2.2.2.2.2.2.2.2.1, CS.2.2.2.2.2.2.2.2.2.1, CS.2.2.2.2.2.2.2.2.2.2.1, CS.2.2.2.2.2.2.2.2.2.2.2.1, CS.2.2.2.2.2.2.2.2.2.2.2.2.1, CS.2.2.2.2.2.2.2.2.2.2.2.2.2.1, CS.2.2.2.2.2.2.2.2.2.2.2.2.2.2.1, CS.2.2.2.2.2.2.2.2.2.2.2.2.2.2.2.1, CS.2.2.2.2.2.2.2.2.2.2.2.2.2.2.2.2.1, CS.2.2.2.2.2.2.2.2.2.2.2.2.2.2.2.2.2.1, CS.2.2.2.2.2.2.2.2.2.2.2.2.2.2.2.2.2.2.1, CS.2.2.2.2.2.2.2.2.2.2.2.2.2.2.2.2.2.2.2.1, CS.2.2.2.2.2.2.2.2.2.2.2.2.2.2.2.2.2.2.2.2.1, CS.2.2.2.2.2.2.2.2.2.2.2.2.2.2.2.2.2.2.2.2.2.1, CS.2.2.2.2.2.2.2.2.2.2.2.2.2.2.2.2.2.2.2.2.2.2.1, CS.2.2.2.2.2.2.2.2.2.2.2.2.2.2.2.2.2.2.2.2.2.2.2.1, CS.2.2.2.2.2.2.2.2.2.2.2.2.2.2.2.2.2.2.2.2.2.2.2.2, CL.1, CL.2.2.2.1, CL.2.2.2.2.2.1, CL.2.2.2.2.2.2.1, CL.2.2.2.2.2.2.2.2.2.1, CL.2.2.2.2.2.2.2.2.2.2.1, CL.2.2.2.2.2.2.2.2.2.2.2.1, CL.2.2.2.2.2.2.2.2.2.2.2.2.1, CL.2.2.2.2.2.2.2.2.2.2.2.2.2, trivial⟩
  refine j_V.mono (j_V.sm (xc45_ok K0.K)) ?_
  rintro rv h' ⟨⟨rfl, K⟩, sm⟩
  exact ⟨⟨_, rfl⟩, ⟨_, _, _, _, _, _, _, _, _, _, _, _, _, _, _, _, _, _, _, _, _, _, _, _, _, _, _, _, ⟨K.at rfl, K.at rfl, K.at rfl, K.at rfl, K.at rfl, K.at rfl, K.at rfl, K.at rfl, K.at rfl, K.at rfl, K.at rfl, K.at rfl, K.at rfl, K.at rfl, K.at rfl, K.at rfl, K.at rfl, K.at rfl, K.at rfl, K.at rfl, K.at rfl, K.at rfl, K.at rfl, K.at rfl, K.at rfl⟩, ⟨(sm.arr CS.2.1 (K.at rfl)).trans l1.1, (sm.arr CS.2.2.1 (K.at rfl)).trans l1.2.1, (sm.arr CS.2.2.2.1 (K.at rfl)).trans l1.2.2.1, (sm.arr CS.2.2.2.2.1 (K.at rfl)).trans l1.2.2.2.1, (sm.arr CS.2.2.2.2.2.1 (K.at rfl)).trans l1.2.2.2.2.1, (sm.arr CS.2.2.2.2.2.2.1 (K.at rfl)).trans l1.2.2.2.2.2.1, (sm.arr CS.2.2.2.2.2.2.2.1 (K.at rfl)).trans l1.2.2.2.2.2.2.1, (sm.arr CS.2.2.2.2.2.2.2.2.1 (K.at rfl)).trans l1.2.2.2.2.2.2.2.1, (sm.arr CS.2.2.2.2.2.2.2.2.2.1 (K.at rfl)).trans l1.2.2.2.2.2.2.2.2.1, (sm.arr CS.2.2.2.2.2.2.2.2.2.2.1 (K.at rfl)).trans l1.2.2.2.2.2.2.2.2.2.1, (sm.arr CS.2.2.2.2.2.2.2.2.2.2.2.1 (K.at rfl)).trans l1.2.2.2.2.2.2.2.2.2.2.1, (sm.arr CS.2.2.2.2.2.2.2.2.2.2.2.2.1 (K.at rfl)).trans l1.2.2.2.2.2.2.2.2.2.2.2.1, (sm.arr CS.2.2.2.2.2.2.2.2.2.2.2.2.2.2.1 (K.at rfl)).trans l1.2.2.2.2.2.2.2.2.2.2.2.2.1, (sm.arr CS.2.2.2.2.2.2.2.2.2.2.2.2.2.2.2.1 (K.at rfl)).trans l1.2.2.2.2.2.2.2.2.2.2.2.2.2⟩⟩, fun x g => KN.off K0 K (lkn (by omega) (lkn (by omega) (lkn (by omega) (lkn (by omega) (lkn (by omega) (lkn (by omega) (lkn (by omega) (lkn (by omega) (lkn (by omega) (lkn (by omega) (lkn (by omega) (lkn (by omega) (lkn (by omega) (lkn (by omega) (lkn (by omega) (lkn (by omega) (lkn (by omega) (lkn (by omega) (lkn (by omega) (lkn (by omega) (lkn (by omega) (lkn (by omega) (lkn (by omega) (lkn (by omega) (lkn (by omega) (lke (lke (lke (lke (lke (lke (lke (lke (lke rfl))))))))))))))))))))))))))))))))))⟩
theorem hw_price_327 {h : J_H} {n S d : Nat} {w : List Int32} (R : hU9 327 h) (Q : hY9 327 n S w h) (x1 : Int32) : j_V jP d 65 0 (lv_args 0 [.ref 282, .int x1]) [] h (fun rv h' => (∃ v, rv = some (.int v)) ∧ h' = h) := by
  refine hU9.opn R (fun mi shu bus lks rl pev rk sta ph sp ce du he ri us cm lf lkd row sea pms pmm pmt pst pwa prs prr pfa CS l1 => ?_)
  refine hY9.opn Q (fun cel run tra len siz frm tto lst slo wei fit way rid lon CL Y T hlY => ?_)
  have K0 : kA h [(282, .inl (7, [.ref 327, .int mi, .int shu, .int bus, .ref 283, .ref 284, .ref 285, .ref 286, .ref 287, .ref 288, .ref 289, .ref 290, .ref 291, .ref 292, .ref 293, .int lks, .ref 294, .ref 295, .ref 298])), (284, .inr (.inl (0, sta))), (285, .inr (.inl (0, ph))), (292, .inr (.inl (0, cm))), (327, .inl (2, [.int (nI S), .ref 328, .ref 329, .ref 330, .ref 331, .int (nI n), .ref 332, .ref 333, .ref 334, .ref 335, .ref 336, .ref 337, .ref 338, .int cel, .ref 339, .ref 340, .ref 341, .ref 342])), (335, .inr (.inl (0, tto))), (338, .inr (.inl (0, wei))), (342, .inr (.inl (0, lon)))] := ⟨CS.1, CS.2.2.1, CS.2.2.2.1, CS.2.2.2.2.2.2.2.2.2.2.1, CL.1, CL.2.2.2.2.2.2.1, CL.2.2.2.2.2.2.2.2.2.1, CL.2.2.2.2.2.2.2.2.2.2.2.2.2, trivial⟩
  exact j_V.mono (xc06_ok K0.K) (fun rv h' z => ⟨⟨_, z.1⟩, z.2⟩)
theorem hw_rem_343 {h : J_H} {n S d : Nat} {w : List Int32} (R : hU9 343 h) (Q : hY9 343 n S w h) (x1 : Int32) : j_V jP d 101 0 (lv_args 0 [.ref 282, .int x1]) [] h (fun rv h' => rv = none ∧ hU9 343 h' ∧ ∀ x, (x < 282 ∨ 307 ≤ x) → h'[x]? = h[x]?) := by
  refine hU9.opn R (fun mi shu bus lks rl pev rk sta ph sp ce du he ri us cm lf lkd row sea pms pmm pmt pst pwa prs prr pfa CS l1 => ?_)
  refine hY9.opn Q (fun cel run tra len siz frm tto lst slo wei fit way rid lon CL Y T hlY => ?_)
  have K0 : kA h [(282, .inl (7, [.ref 343, .int mi, .int shu, .int bus, .ref 283, .ref 284, .ref 285, .ref 286, .ref 287, .ref 288, .ref 289, .ref 290, .ref 291, .ref 292, .ref 293, .int lks, .ref 294, .ref 295, .ref 298])), (285, .inr (.inl (0, ph))), (286, .inr (.inl (0, sp))), (287, .inr (.inl (0, ce))), (290, .inr (.inl (0, ri))), (343, .inl (2, [.int (nI S), .ref 344, .ref 345, .ref 346, .ref 347, .int (nI n), .ref 348, .ref 349, .ref 350, .ref 351, .ref 352, .ref 353, .ref 354, .int cel, .ref 355, .ref 356, .ref 357, .ref 358])), (351, .inr (.inl (0, tto)))] := ⟨CS.1, CS.2.2.2.1, CS.2.2.2.2.1, CS.2.2.2.2.2.1, CS.2.2.2.2.2.2.2.2.1, CL.1, CL.2.2.2.2.2.2.1, trivial⟩
  refine j_V.mono (j_V.sm (xd34_ok K0.K)) ?_
  rintro rv h' ⟨⟨rfl, K⟩, sm⟩
  exact ⟨rfl, ⟨_, _, _, _, _, _, _, _, _, _, _, _, _, _, _, _, _, _, _, _, _, _, _, _, _, _, _, _, ⟨K.at rfl, (K.2.1 283 rfl).trans CS.2.1, (K.2.1 284 rfl).trans CS.2.2.1, K.at rfl, K.at rfl, K.at rfl, (K.2.1 288 rfl).trans CS.2.2.2.2.2.2.1, (K.2.1 289 rfl).trans CS.2.2.2.2.2.2.2.1, K.at rfl, (K.2.1 291 rfl).trans CS.2.2.2.2.2.2.2.2.2.1, (K.2.1 292 rfl).trans CS.2.2.2.2.2.2.2.2.2.2.1, (K.2.1 293 rfl).trans CS.2.2.2.2.2.2.2.2.2.2.2.1, (K.2.1 294 rfl).trans CS.2.2.2.2.2.2.2.2.2.2.2.2.1, (K.2.1 295 rfl).trans CS.2.2.2.2.2.2.2.2.2.2.2.2.2.1, (K.2.1 296 rfl).trans CS.2.2.2.2.2.2.2.2.2.2.2.2.2.2.1, (K.2.1 297 rfl).trans CS.2.2.2.2.2.2.2.2.2.2.2.2.2.2.2.1, (K.2.1 298 rfl).trans CS.2.2.2.2.2.2.2.2.2.2.2.2.2.2.2.2.1, (K.2.1 299 rfl).trans CS.2.2.2.2.2.2.2.2.2.2.2.2.2.2.2.2.2.1, (K.2.1 300 rfl).trans CS.2.2.2.2.2.2.2.2.2.2.2.2.2.2.2.2.2.2.1, (K.2.1 301 rfl).trans CS.2.2.2.2.2.2.2.2.2.2.2.2.2.2.2.2.2.2.2.1, (K.2.1 302 rfl).trans CS.2.2.2.2.2.2.2.2.2.2.2.2.2.2.2.2.2.2.2.2.1, (K.2.1 303 rfl).trans CS.2.2.2.2.2.2.2.2.2.2.2.2.2.2.2.2.2.2.2.2.2.1, (K.2.1 304 rfl).trans CS.2.2.2.2.2.2.2.2.2.2.2.2.2.2.2.2.2.2.2.2.2.2.1, (K.2.1 305 rfl).trans CS.2.2.2.2.2.2.2.2.2.2.2.2.2.2.2.2.2.2.2.2.2.2.2.1, (K.2.1 306 rfl).trans CS.2.2.2.2.2.2.2.2.2.2.2.2.2.2.2.2.2.2.2.2.2.2.2.2⟩, ⟨l1.1, l1.2.1, (sm.arr CS.2.2.2.1 (K.at rfl)).trans l1.2.2.1, (sm.arr CS.2.2.2.2.1 (K.at rfl)).trans l1.2.2.2.1, (sm.arr CS.2.2.2.2.2.1 (K.at rfl)).trans l1.2.2.2.2.1, l1.2.2.2.2.2.1, l1.2.2.2.2.2.2.1, (sm.arr CS.2.2.2.2.2.2.2.2.1 (K.at rfl)).trans l1.2.2.2.2.2.2.2.1, l1.2.2.2.2.2.2.2.2.1, l1.2.2.2.2.2.2.2.2.2.1, l1.2.2.2.2.2.2.2.2.2.2.1, l1.2.2.2.2.2.2.2.2.2.2.2.1, l1.2.2.2.2.2.2.2.2.2.2.2.2.1, l1.2.2.2.2.2.2.2.2.2.2.2.2.2⟩⟩, fun x g => KN.off K0 K (lkn (by omega) (lkn (by omega) (lkn (by omega) (lkn (by omega) (lkn (by omega) (lke (lke rfl)))))))⟩
theorem hw_adv_343 {h : J_H} {n S d : Nat} {w : List Int32} (R : hU9 343 h) (Q : hY9 343 n S w h) (x1 x2 x3 : Int32) : j_V jP d 92 0 (lv_args 0 [.ref 282, .int x1, .int x2, .int x3]) [] h (fun rv h' => (∃ v, rv = some (.int v)) ∧ hU9 343 h' ∧ ∀ x, (x < 282 ∨ 307 ≤ x) → h'[x]? = h[x]?) := by
  refine hU9.opn R (fun mi shu bus lks rl pev rk sta ph sp ce du he ri us cm lf lkd row sea pms pmm pmt pst pwa prs prr pfa CS l1 => ?_)
  refine hY9.opn Q (fun cel run tra len siz frm tto lst slo wei fit way rid lon CL Y T hlY => ?_)
  have K0 : kA h [(282, .inl (7, [.ref 343, .int mi, .int shu, .int bus, .ref 283, .ref 284, .ref 285, .ref 286, .ref 287, .ref 288, .ref 289, .ref 290, .ref 291, .ref 292, .ref 293, .int lks, .ref 294, .ref 295, .ref 298])), (283, .inr (.inl (0, rk))), (284, .inr (.inl (0, sta))), (285, .inr (.inl (0, ph))), (286, .inr (.inl (0, sp))), (287, .inr (.inl (0, ce))), (288, .inr (.inl (0, du))), (289, .inr (.inl (0, he))), (290, .inr (.inl (0, ri))), (291, .inr (.inl (0, us))), (292, .inr (.inl (0, cm))), (293, .inr (.inl (0, lf))), (294, .inr (.inl (0, lkd))), (295, .inl (5, [.ref 296, .int rl, .ref 297])), (296, .inr (.inl (0, row))), (297, .inr (.inl (0, sea))), (298, .inl (3, [.ref 299, .ref 300, .ref 301, .ref 302, .ref 303, .ref 304, .ref 305, .ref 306, .int pev, .int 0])), (299, .inr (.inl (0, pms))), (300, .inr (.inl (0, pmm))), (301, .inr (.inl (0, pmt))), (302, .inr (.inl (0, pst))), (303, .inr (.inl (0, pwa))), (304, .inr (.inl (0, prs))), (305, .inr (.inl (0, prr))), (306, .inr (.inl (0, pfa))), (343, .inl (2, [.int (nI S), .ref 344, .ref 345, .ref 346, .ref 347, .int (nI n), .ref 348, .ref 349, .ref 350, .ref 351, .ref 352, .ref 353, .ref 354, .int cel, .ref 355, .ref 356, .ref 357, .ref 358])), (347, .inr (.inl (0, len))), (350, .inr (.inl (0, frm))), (351, .inr (.inl (0, tto))), (354, .inr (.inl (0, wei))), (355, .inr (.inl (0, fit))), (356, .inr (.inl (0, way))), (357, .inr (.inl (0, rid))), (358, .inr (.inl (0, lon)))] := ⟨CS.1, CS.2.1, CS.2.2.1, CS.2.2.2.1, CS.2.2.2.2.1, CS.2.2.2.2.2.1, CS.2.2.2.2.2.2.1, CS.2.2.2.2.2.2.2.1, CS.2.2.2.2.2.2.2.2.1, CS.2.2.2.2.2.2.2.2.2.1, CS.2.2.2.2.2.2.2.2.2.2.1, CS.2.2.2.2.2.2.2.2.2.2.2.1, CS.2.2.2.2.2.2.2.2.2.2.2.2.1, CS.2.2.2.2.2.2.2.2.2.2.2.2.2.1, CS.2.2.2.2.2.2.2.2.2.2.2.2.2.2.1, CS.2.2.2.2.2.2.2.2.2.2.2.2.2.2.2.1, CS.2.2.2.2.2.2.2.2.2.2.2.2.2.2.2.2.1, CS.2.2.2.2.2.2.2.2.2.2.2.2.2.2.2.2.2.1, CS.2.2.2.2.2.2.2.2.2.2.2.2.2.2.2.2.2.2.1, CS.2.2.2.2.2.2.2.2.2.2.2.2.2.2.2.2.2.2.2.1, CS.2.2.2.2.2.2.2.2.2.2.2.2.2.2.2.2.2.2.2.2.1, CS.2.2.2.2.2.2.2.2.2.2.2.2.2.2.2.2.2.2.2.2.2.1, CS.2.2.2.2.2.2.2.2.2.2.2.2.2.2.2.2.2.2.2.2.2.2.1, CS.2.2.2.2.2.2.2.2.2.2.2.2.2.2.2.2.2.2.2.2.2.2.2.1, CS.2.2.2.2.2.2.2.2.2.2.2.2.2.2.2.2.2.2.2.2.2.2.2.2, CL.1, CL.2.2.2.1, CL.2.2.2.2.2.1, CL.2.2.2.2.2.2.1, CL.2.2.2.2.2.2.2.2.2.1, CL.2.2.2.2.2.2.2.2.2.2.1, CL.2.2.2.2.2.2.2.2.2.2.2.1, CL.2.2.2.2.2.2.2.2.2.2.2.2.1, CL.2.2.2.2.2.2.2.2.2.2.2.2.2, trivial⟩
  refine j_V.mono (j_V.sm (xd45_ok K0.K)) ?_
  rintro rv h' ⟨⟨rfl, K⟩, sm⟩
  exact ⟨⟨_, rfl⟩, ⟨_, _, _, _, _, _, _, _, _, _, _, _, _, _, _, _, _, _, _, _, _, _, _, _, _, _, _, _, ⟨K.at rfl, K.at rfl, K.at rfl, K.at rfl, K.at rfl, K.at rfl, K.at rfl, K.at rfl, K.at rfl, K.at rfl, K.at rfl, K.at rfl, K.at rfl, K.at rfl, K.at rfl, K.at rfl, K.at rfl, K.at rfl, K.at rfl, K.at rfl, K.at rfl, K.at rfl, K.at rfl, K.at rfl, K.at rfl⟩, ⟨(sm.arr CS.2.1 (K.at rfl)).trans l1.1, (sm.arr CS.2.2.1 (K.at rfl)).trans l1.2.1, (sm.arr CS.2.2.2.1 (K.at rfl)).trans l1.2.2.1, (sm.arr CS.2.2.2.2.1 (K.at rfl)).trans l1.2.2.2.1, (sm.arr CS.2.2.2.2.2.1 (K.at rfl)).trans l1.2.2.2.2.1, (sm.arr CS.2.2.2.2.2.2.1 (K.at rfl)).trans l1.2.2.2.2.2.1, (sm.arr CS.2.2.2.2.2.2.2.1 (K.at rfl)).trans l1.2.2.2.2.2.2.1, (sm.arr CS.2.2.2.2.2.2.2.2.1 (K.at rfl)).trans l1.2.2.2.2.2.2.2.1, (sm.arr CS.2.2.2.2.2.2.2.2.2.1 (K.at rfl)).trans l1.2.2.2.2.2.2.2.2.1, (sm.arr CS.2.2.2.2.2.2.2.2.2.2.1 (K.at rfl)).trans l1.2.2.2.2.2.2.2.2.2.1, (sm.arr CS.2.2.2.2.2.2.2.2.2.2.2.1 (K.at rfl)).trans l1.2.2.2.2.2.2.2.2.2.2.1, (sm.arr CS.2.2.2.2.2.2.2.2.2.2.2.2.1 (K.at rfl)).trans l1.2.2.2.2.2.2.2.2.2.2.2.1, (sm.arr CS.2.2.2.2.2.2.2.2.2.2.2.2.2.2.1 (K.at rfl)).trans l1.2.2.2.2.2.2.2.2.2.2.2.2.1, (sm.arr CS.2.2.2.2.2.2.2.2.2.2.2.2.2.2.2.1 (K.at rfl)).trans l1.2.2.2.2.2.2.2.2.2.2.2.2.2⟩⟩, fun x g => KN.off K0 K (lkn (by omega) (lkn (by omega) (lkn (by omega) (lkn (by omega) (lkn (by omega) (lkn (by omega) (lkn (by omega) (lkn (by omega) (lkn (by omega) (lkn (by omega) (lkn (by omega) (lkn (by omega) (lkn (by omega) (lkn (by omega) (lkn (by omega) (lkn (by omega) (lkn (by omega) (lkn (by omega) (lkn (by omega) (lkn (by omega) (lkn (by omega) (lkn (by omega) (lkn (by omega) (lkn (by omega) (lkn (by omega) (lke (lke (lke (lke (lke (lke (lke (lke (lke rfl))))))))))))))))))))))))))))))))))⟩
theorem hw_price_343 {h : J_H} {n S d : Nat} {w : List Int32} (R : hU9 343 h) (Q : hY9 343 n S w h) (x1 : Int32) : j_V jP d 65 0 (lv_args 0 [.ref 282, .int x1]) [] h (fun rv h' => (∃ v, rv = some (.int v)) ∧ h' = h) := by
  refine hU9.opn R (fun mi shu bus lks rl pev rk sta ph sp ce du he ri us cm lf lkd row sea pms pmm pmt pst pwa prs prr pfa CS l1 => ?_)
  refine hY9.opn Q (fun cel run tra len siz frm tto lst slo wei fit way rid lon CL Y T hlY => ?_)
  have K0 : kA h [(282, .inl (7, [.ref 343, .int mi, .int shu, .int bus, .ref 283, .ref 284, .ref 285, .ref 286, .ref 287, .ref 288, .ref 289, .ref 290, .ref 291, .ref 292, .ref 293, .int lks, .ref 294, .ref 295, .ref 298])), (284, .inr (.inl (0, sta))), (285, .inr (.inl (0, ph))), (292, .inr (.inl (0, cm))), (343, .inl (2, [.int (nI S), .ref 344, .ref 345, .ref 346, .ref 347, .int (nI n), .ref 348, .ref 349, .ref 350, .ref 351, .ref 352, .ref 353, .ref 354, .int cel, .ref 355, .ref 356, .ref 357, .ref 358])), (351, .inr (.inl (0, tto))), (354, .inr (.inl (0, wei))), (358, .inr (.inl (0, lon)))] := ⟨CS.1, CS.2.2.1, CS.2.2.2.1, CS.2.2.2.2.2.2.2.2.2.2.1, CL.1, CL.2.2.2.2.2.2.1, CL.2.2.2.2.2.2.2.2.2.1, CL.2.2.2.2.2.2.2.2.2.2.2.2.2, trivial⟩
  exact j_V.mono (xd06_ok K0.K) (fun rv h' z => ⟨⟨_, z.1⟩, z.2⟩)
set_option maxRecDepth 100000 in
theorem fp8_M : j_meth jP 11 = some (yX1_priceWithout, cX1_priceWithout, 3, (some .int), 2, false, 1) := rfl
set_option maxRecDepth 100000 in
theorem fp8_0 : j_code jP 11 0 = some (.aload_n 0) := rfl
set_option maxRecDepth 100000 in
theorem fp8_1 : j_code jP 11 1 = some (.getfield 14) := rfl
set_option maxRecDepth 100000 in
theorem fp8_4 : j_code jP 11 4 = some (.aload_n 1) := rfl
set_option maxRecDepth 100000 in
theorem fp8_5 : j_code jP 11 5 = some (.invokevirtual 34) := rfl
set_option maxRecDepth 100000 in
theorem fp8_8 : j_code jP 11 8 = some (.aload_n 0) := rfl
set_option maxRecDepth 100000 in
theorem fp8_9 : j_code jP 11 9 = some (.getfield 14) := rfl
set_option maxRecDepth 100000 in
theorem fp8_12 : j_code jP 11 12 = some (.iload_n 2) := rfl
set_option maxRecDepth 100000 in
theorem fp8_13 : j_code jP 11 13 = some (.invokevirtual 55) := rfl
set_option maxRecDepth 100000 in
theorem fp8_16 : j_code jP 11 16 = some (.aload_n 0) := rfl
set_option maxRecDepth 100000 in
theorem fp8_17 : j_code jP 11 17 = some (.getfield 14) := rfl
set_option maxRecDepth 100000 in
theorem fp8_20 : j_code jP 11 20 = some (.sipush 300) := rfl
set_option maxRecDepth 100000 in
theorem fp8_23 : j_code jP 11 23 = some (.iconst 1) := rfl
set_option maxRecDepth 100000 in
theorem fp8_24 : j_code jP 11 24 = some (.iconst 1) := rfl
set_option maxRecDepth 100000 in
theorem fp8_25 : j_code jP 11 25 = some (.invokevirtual 38) := rfl
set_option maxRecDepth 100000 in
theorem fp8_28 : j_code jP 11 28 = some (.pop) := rfl
set_option maxRecDepth 100000 in
theorem fp8_29 : j_code jP 11 29 = some (.aload_n 0) := rfl
set_option maxRecDepth 100000 in
theorem fp8_30 : j_code jP 11 30 = some (.getfield 14) := rfl
set_option maxRecDepth 100000 in
theorem fp8_33 : j_code jP 11 33 = some (.iload_n 2) := rfl
set_option maxRecDepth 100000 in
theorem fp8_34 : j_code jP 11 34 = some (.invokevirtual 59) := rfl
set_option maxRecDepth 100000 in
theorem fp8_37 : j_code jP 11 37 = some (.ireturn) := rfl
set_option maxRecDepth 1000000 in
theorem hp_out_327 {g0 : J_H} {n S d : Nat} {w : List Int32} (P : hF 327 n S w g0) (x2 : Int32) : j_V jP d 11 0 (lv_args 0 [.ref 281, .ref 4, .int x2]) [] g0 (fun rv h' => (∃ v, rv = some (.int v)) ∧ hT9 282 0 h' ∧ ∀ x, (x < 282 ∨ 307 ≤ x) → h'[x]? = g0[x]?) := by
  obtain ⟨R4, Y4, Q, C281⟩ := P
  refine hT9.opn Q (fun ly miz shuz busz lksz rlz pevz rkz staz phz spz cez duz hez riz usz cmz lfz lkdz rowz seaz pmsz pmmz pmtz pstz pwaz prsz prrz pfaz CT _ _ => ?_)
  have K9 : kA g0 [(281, .inl (1, [.ref 282, .ref 307, .ref 323, .ref 324])), (282, .inl (7, [ly, .int miz, .int shuz, .int busz, .ref 283, .ref 284, .ref 285, .ref 286, .ref 287, .ref 288, .ref 289, .ref 290, .ref 291, .ref 292, .ref 293, .int lksz, .ref 294, .ref 295, .ref 298]))] := ⟨C281, CT.1, trivial⟩
  have K : KN g0 [(281, .inl (1, [.ref 282, .ref 307, .ref 323, .ref 324])), (282, .inl (7, [ly, .int miz, .int shuz, .int busz, .ref 283, .ref 284, .ref 285, .ref 286, .ref 287, .ref 288, .ref 289, .ref 290, .ref 291, .ref 292, .ref 293, .int lksz, .ref 294, .ref 295, .ref 298]))] g0 := K9.K
  show j_V jP d 11 0 [(0, .ref 281), (1, .ref 4), (2, .int x2)] [] g0 _
  obtain ⟨lv, elv, L9⟩ : ∃ lv, lv = [(0, .ref 281), (1, .ref 4), (2, .int x2)] ∧ LK lv [(0, .ref 281), (1, .ref 4), (2, .int x2)] := ⟨_, rfl, LK.rf⟩
  rw [← elv]
  clear elv
  have L := L9
  refine j_V.ldL fp8_M fp8_0 rfl (i := 0) (kd := 2) (v := .ref 281) (pcJ := 1) rfl L rfl rfl rfl ?_
  refine j_V.getK fp8_M fp8_1 (ci := 1) (j := 0) rfl K rfl rfl ?_
  refine j_V.ldL fp8_M fp8_4 rfl (i := 1) (kd := 2) (v := .ref 4) (pcJ := 5) rfl L rfl rfl rfl ?_
  refine j_V.cl fp8_M fp8_5 rfl (md := 3) (mj := 61) rfl (by decide) yts_M (As := [.ref 282, .ref 4]) (rest := []) (jk_spl3 (K.at rfl) rfl rfl rfl (Nat.le_of_ble_eq_true rfl) (Nat.le_of_ble_eq_true rfl)) (fun d => ht_cp R4 Q) ?_
  rintro r h9 ⟨rfl, T9, Fh9⟩
  have U9 := T9.u
  have Y9 : hY9 327 n S w h9 := Y4.fr (fun x _ _ => Fh9 x (by omega))
  refine hU9.opn U9 (fun mi shu bus lks rl pev rk sta ph sp ce du he ri us cm lf lkd row sea pms pmm pmt pst pwa prs prr pfa CS _ => ?_)
  have K9 : kA h9 [(281, .inl (1, [.ref 282, .ref 307, .ref 323, .ref 324])), (282, .inl (7, [.ref 327, .int mi, .int shu, .int bus, .ref 283, .ref 284, .ref 285, .ref 286, .ref 287, .ref 288, .ref 289, .ref 290, .ref 291, .ref 292, .ref 293, .int lks, .ref 294, .ref 295, .ref 298]))] := ⟨(Fh9 281 (by decide)).trans C281, CS.1, trivial⟩
  have K : KN h9 [(281, .inl (1, [.ref 282, .ref 307, .ref 323, .ref 324])), (282, .inl (7, [.ref 327, .int mi, .int shu, .int bus, .ref 283, .ref 284, .ref 285, .ref 286, .ref 287, .ref 288, .ref 289, .ref 290, .ref 291, .ref 292, .ref 293, .int lks, .ref 294, .ref 295, .ref 298]))] h9 := K9.K
  show j_V jP _ 11 8 lv [] h9 _
  refine j_V.ldL fp8_M fp8_8 rfl (i := 0) (kd := 2) (v := .ref 281) (pcJ := 9) rfl L rfl rfl rfl ?_
  refine j_V.getK fp8_M fp8_9 (ci := 1) (j := 0) rfl K rfl rfl ?_
  refine j_V.ldL fp8_M fp8_12 rfl (i := 2) (kd := 0) (v := .int x2) (pcJ := 13) rfl L rfl rfl rfl ?_
  refine j_V.cl fp8_M fp8_13 rfl (md := 3) (mj := 101) rfl (by decide) xc34_M (As := [.ref 282, .int x2]) (rest := []) (jk_spl3 (K.at rfl) rfl rfl rfl (Nat.le_of_ble_eq_true rfl) (Nat.le_of_ble_eq_true rfl)) (fun d => hw_rem_327 U9 Y9 _) ?_
  rintro r h8 ⟨rfl, U8, F8⟩
  have Fh8 : ∀ x, (x < 282 ∨ 307 ≤ x) → h8[x]? = g0[x]? := fun x g => (F8 x g).trans (Fh9 x g)
  have Y8 : hY9 327 n S w h8 := Y9.fr (fun x _ _ => F8 x (by omega))
  refine hU9.opn U8 (fun mi shu bus lks rl pev rk sta ph sp ce du he ri us cm lf lkd row sea pms pmm pmt pst pwa prs prr pfa CS _ => ?_)
  have K9 : kA h8 [(281, .inl (1, [.ref 282, .ref 307, .ref 323, .ref 324])), (282, .inl (7, [.ref 327, .int mi, .int shu, .int bus, .ref 283, .ref 284, .ref 285, .ref 286, .ref 287, .ref 288, .ref 289, .ref 290, .ref 291, .ref 292, .ref 293, .int lks, .ref 294, .ref 295, .ref 298]))] := ⟨(Fh8 281 (by decide)).trans C281, CS.1, trivial⟩
  have K : KN h8 [(281, .inl (1, [.ref 282, .ref 307, .ref 323, .ref 324])), (282, .inl (7, [.ref 327, .int mi, .int shu, .int bus, .ref 283, .ref 284, .ref 285, .ref 286, .ref 287, .ref 288, .ref 289, .ref 290, .ref 291, .ref 292, .ref 293, .int lks, .ref 294, .ref 295, .ref 298]))] h8 := K9.K
  show j_V jP _ 11 16 lv [] h8 _
  refine j_V.ldL fp8_M fp8_16 rfl (i := 0) (kd := 2) (v := .ref 281) (pcJ := 17) rfl L rfl rfl rfl ?_
  refine j_V.getK fp8_M fp8_17 (ci := 1) (j := 0) rfl K rfl rfl ?_
  refine j_V.one fp8_M fp8_20 (by decide) (pcJ := 23) (stJ := [.int 300, .ref 282]) rfl ?_
  refine j_V.one fp8_M fp8_23 (by decide) (pcJ := 24) (stJ := [.int 1, .int 300, .ref 282]) rfl ?_
  refine j_V.one fp8_M fp8_24 (by decide) (pcJ := 25) (stJ := [.int 1, .int 1, .int 300, .ref 282]) rfl ?_
  refine j_V.cl fp8_M fp8_25 rfl (md := 3) (mj := 92) rfl (by decide) xc45_M (As := [.ref 282, .int 300, .int 1, .int 1]) (rest := []) (jk_spl3 (K.at rfl) rfl rfl rfl (Nat.le_of_ble_eq_true rfl) (Nat.le_of_ble_eq_true rfl)) (fun d => hw_adv_327 U8 Y8 _ _ _) ?_
  rintro r h7 ⟨⟨v7, rfl⟩, U7, F7⟩
  have Fh7 : ∀ x, (x < 282 ∨ 307 ≤ x) → h7[x]? = g0[x]? := fun x g => (F7 x g).trans (Fh8 x g)
  have Y7 : hY9 327 n S w h7 := Y8.fr (fun x _ _ => F7 x (by omega))
  refine hU9.opn U7 (fun mi shu bus lks rl pev rk sta ph sp ce du he ri us cm lf lkd row sea pms pmm pmt pst pwa prs prr pfa CS _ => ?_)
  have K9 : kA h7 [(281, .inl (1, [.ref 282, .ref 307, .ref 323, .ref 324])), (282, .inl (7, [.ref 327, .int mi, .int shu, .int bus, .ref 283, .ref 284, .ref 285, .ref 286, .ref 287, .ref 288, .ref 289, .ref 290, .ref 291, .ref 292, .ref 293, .int lks, .ref 294, .ref 295, .ref 298]))] := ⟨(Fh7 281 (by decide)).trans C281, CS.1, trivial⟩
  have K : KN h7 [(281, .inl (1, [.ref 282, .ref 307, .ref 323, .ref 324])), (282, .inl (7, [.ref 327, .int mi, .int shu, .int bus, .ref 283, .ref 284, .ref 285, .ref 286, .ref 287, .ref 288, .ref 289, .ref 290, .ref 291, .ref 292, .ref 293, .int lks, .ref 294, .ref 295, .ref 298]))] h7 := K9.K
  show j_V jP _ 11 28 lv [.int v7] h7 _
  refine j_V.one fp8_M fp8_28 (by decide) (pcJ := 29) (stJ := []) rfl ?_
  refine j_V.ldL fp8_M fp8_29 rfl (i := 0) (kd := 2) (v := .ref 281) (pcJ := 30) rfl L rfl rfl rfl ?_
  refine j_V.getK fp8_M fp8_30 (ci := 1) (j := 0) rfl K rfl rfl ?_
  refine j_V.ldL fp8_M fp8_33 rfl (i := 2) (kd := 0) (v := .int x2) (pcJ := 34) rfl L rfl rfl rfl ?_
  refine j_V.cl fp8_M fp8_34 rfl (md := 3) (mj := 65) rfl (by decide) xc06_M (As := [.ref 282, .int x2]) (rest := []) (jk_spl3 (K.at rfl) rfl rfl rfl (Nat.le_of_ble_eq_true rfl) (Nat.le_of_ble_eq_true rfl)) (fun d => hw_price_327 U7 Y7 _) ?_
  rintro r hz ⟨⟨v6, rfl⟩, ez⟩
  rw [ez]
  show j_V jP _ 11 37 lv [.int v6] h7 _
  refine j_V.ri fp8_M fp8_37 ?_
  exact ⟨⟨_, rfl⟩, U7.sh, Fh7⟩
set_option maxRecDepth 1000000 in
theorem hp_out_343 {g0 : J_H} {n S d : Nat} {w : List Int32} (P : hF 343 n S w g0) (x2 : Int32) : j_V jP d 11 0 (lv_args 0 [.ref 281, .ref 4, .int x2]) [] g0 (fun rv h' => (∃ v, rv = some (.int v)) ∧ hT9 282 0 h' ∧ ∀ x, (x < 282 ∨ 307 ≤ x) → h'[x]? = g0[x]?) := by
  obtain ⟨R4, Y4, Q, C281⟩ := P
  refine hT9.opn Q (fun ly miz shuz busz lksz rlz pevz rkz staz phz spz cez duz hez riz usz cmz lfz lkdz rowz seaz pmsz pmmz pmtz pstz pwaz prsz prrz pfaz CT _ _ => ?_)
  have K9 : kA g0 [(281, .inl (1, [.ref 282, .ref 307, .ref 323, .ref 324])), (282, .inl (7, [ly, .int miz, .int shuz, .int busz, .ref 283, .ref 284, .ref 285, .ref 286, .ref 287, .ref 288, .ref 289, .ref 290, .ref 291, .ref 292, .ref 293, .int lksz, .ref 294, .ref 295, .ref 298]))] := ⟨C281, CT.1, trivial⟩
  have K : KN g0 [(281, .inl (1, [.ref 282, .ref 307, .ref 323, .ref 324])), (282, .inl (7, [ly, .int miz, .int shuz, .int busz, .ref 283, .ref 284, .ref 285, .ref 286, .ref 287, .ref 288, .ref 289, .ref 290, .ref 291, .ref 292, .ref 293, .int lksz, .ref 294, .ref 295, .ref 298]))] g0 := K9.K
  show j_V jP d 11 0 [(0, .ref 281), (1, .ref 4), (2, .int x2)] [] g0 _
  obtain ⟨lv, elv, L9⟩ : ∃ lv, lv = [(0, .ref 281), (1, .ref 4), (2, .int x2)] ∧ LK lv [(0, .ref 281), (1, .ref 4), (2, .int x2)] := ⟨_, rfl, LK.rf⟩
  rw [← elv]
  clear elv
  have L := L9
  refine j_V.ldL fp8_M fp8_0 rfl (i := 0) (kd := 2) (v := .ref 281) (pcJ := 1) rfl L rfl rfl rfl ?_
  refine j_V.getK fp8_M fp8_1 (ci := 1) (j := 0) rfl K rfl rfl ?_
  refine j_V.ldL fp8_M fp8_4 rfl (i := 1) (kd := 2) (v := .ref 4) (pcJ := 5) rfl L rfl rfl rfl ?_
  refine j_V.cl fp8_M fp8_5 rfl (md := 3) (mj := 61) rfl (by decide) yts_M (As := [.ref 282, .ref 4]) (rest := []) (jk_spl3 (K.at rfl) rfl rfl rfl (Nat.le_of_ble_eq_true rfl) (Nat.le_of_ble_eq_true rfl)) (fun d => ht_cp R4 Q) ?_
  rintro r h9 ⟨rfl, T9, Fh9⟩
  have U9 := T9.u
  have Y9 : hY9 343 n S w h9 := Y4.fr (fun x _ _ => Fh9 x (by omega))
  refine hU9.opn U9 (fun mi shu bus lks rl pev rk sta ph sp ce du he ri us cm lf lkd row sea pms pmm pmt pst pwa prs prr pfa CS _ => ?_)
  have K9 : kA h9 [(281, .inl (1, [.ref 282, .ref 307, .ref 323, .ref 324])), (282, .inl (7, [.ref 343, .int mi, .int shu, .int bus, .ref 283, .ref 284, .ref 285, .ref 286, .ref 287, .ref 288, .ref 289, .ref 290, .ref 291, .ref 292, .ref 293, .int lks, .ref 294, .ref 295, .ref 298]))] := ⟨(Fh9 281 (by decide)).trans C281, CS.1, trivial⟩
  have K : KN h9 [(281, .inl (1, [.ref 282, .ref 307, .ref 323, .ref 324])), (282, .inl (7, [.ref 343, .int mi, .int shu, .int bus, .ref 283, .ref 284, .ref 285, .ref 286, .ref 287, .ref 288, .ref 289, .ref 290, .ref 291, .ref 292, .ref 293, .int lks, .ref 294, .ref 295, .ref 298]))] h9 := K9.K
  show j_V jP _ 11 8 lv [] h9 _
  refine j_V.ldL fp8_M fp8_8 rfl (i := 0) (kd := 2) (v := .ref 281) (pcJ := 9) rfl L rfl rfl rfl ?_
  refine j_V.getK fp8_M fp8_9 (ci := 1) (j := 0) rfl K rfl rfl ?_
  refine j_V.ldL fp8_M fp8_12 rfl (i := 2) (kd := 0) (v := .int x2) (pcJ := 13) rfl L rfl rfl rfl ?_
  refine j_V.cl fp8_M fp8_13 rfl (md := 3) (mj := 101) rfl (by decide) xd34_M (As := [.ref 282, .int x2]) (rest := []) (jk_spl3 (K.at rfl) rfl rfl rfl (Nat.le_of_ble_eq_true rfl) (Nat.le_of_ble_eq_true rfl)) (fun d => hw_rem_343 U9 Y9 _) ?_
  rintro r h8 ⟨rfl, U8, F8⟩
  have Fh8 : ∀ x, (x < 282 ∨ 307 ≤ x) → h8[x]? = g0[x]? := fun x g => (F8 x g).trans (Fh9 x g)
  have Y8 : hY9 343 n S w h8 := Y9.fr (fun x _ _ => F8 x (by omega))
  refine hU9.opn U8 (fun mi shu bus lks rl pev rk sta ph sp ce du he ri us cm lf lkd row sea pms pmm pmt pst pwa prs prr pfa CS _ => ?_)
  have K9 : kA h8 [(281, .inl (1, [.ref 282, .ref 307, .ref 323, .ref 324])), (282, .inl (7, [.ref 343, .int mi, .int shu, .int bus, .ref 283, .ref 284, .ref 285, .ref 286, .ref 287, .ref 288, .ref 289, .ref 290, .ref 291, .ref 292, .ref 293, .int lks, .ref 294, .ref 295, .ref 298]))] := ⟨(Fh8 281 (by decide)).trans C281, CS.1, trivial⟩
  have K : KN h8 [(281, .inl (1, [.ref 282, .ref 307, .ref 323, .ref 324])), (282, .inl (7, [.ref 343, .int mi, .int shu, .int bus, .ref 283, .ref 284, .ref 285, .ref 286, .ref 287, .ref 288, .ref 289, .ref 290, .ref 291, .ref 292, .ref 293, .int lks, .ref 294, .ref 295, .ref 298]))] h8 := K9.K
  show j_V jP _ 11 16 lv [] h8 _
  refine j_V.ldL fp8_M fp8_16 rfl (i := 0) (kd := 2) (v := .ref 281) (pcJ := 17) rfl L rfl rfl rfl ?_
  refine j_V.getK fp8_M fp8_17 (ci := 1) (j := 0) rfl K rfl rfl ?_
  refine j_V.one fp8_M fp8_20 (by decide) (pcJ := 23) (stJ := [.int 300, .ref 282]) rfl ?_
  refine j_V.one fp8_M fp8_23 (by decide) (pcJ := 24) (stJ := [.int 1, .int 300, .ref 282]) rfl ?_
  refine j_V.one fp8_M fp8_24 (by decide) (pcJ := 25) (stJ := [.int 1, .int 1, .int 300, .ref 282]) rfl ?_
  refine j_V.cl fp8_M fp8_25 rfl (md := 3) (mj := 92) rfl (by decide) xd45_M (As := [.ref 282, .int 300, .int 1, .int 1]) (rest := []) (jk_spl3 (K.at rfl) rfl rfl rfl (Nat.le_of_ble_eq_true rfl) (Nat.le_of_ble_eq_true rfl)) (fun d => hw_adv_343 U8 Y8 _ _ _) ?_
  rintro r h7 ⟨⟨v7, rfl⟩, U7, F7⟩
  have Fh7 : ∀ x, (x < 282 ∨ 307 ≤ x) → h7[x]? = g0[x]? := fun x g => (F7 x g).trans (Fh8 x g)
  have Y7 : hY9 343 n S w h7 := Y8.fr (fun x _ _ => F7 x (by omega))
  refine hU9.opn U7 (fun mi shu bus lks rl pev rk sta ph sp ce du he ri us cm lf lkd row sea pms pmm pmt pst pwa prs prr pfa CS _ => ?_)
  have K9 : kA h7 [(281, .inl (1, [.ref 282, .ref 307, .ref 323, .ref 324])), (282, .inl (7, [.ref 343, .int mi, .int shu, .int bus, .ref 283, .ref 284, .ref 285, .ref 286, .ref 287, .ref 288, .ref 289, .ref 290, .ref 291, .ref 292, .ref 293, .int lks, .ref 294, .ref 295, .ref 298]))] := ⟨(Fh7 281 (by decide)).trans C281, CS.1, trivial⟩
  have K : KN h7 [(281, .inl (1, [.ref 282, .ref 307, .ref 323, .ref 324])), (282, .inl (7, [.ref 343, .int mi, .int shu, .int bus, .ref 283, .ref 284, .ref 285, .ref 286, .ref 287, .ref 288, .ref 289, .ref 290, .ref 291, .ref 292, .ref 293, .int lks, .ref 294, .ref 295, .ref 298]))] h7 := K9.K
  show j_V jP _ 11 28 lv [.int v7] h7 _
  refine j_V.one fp8_M fp8_28 (by decide) (pcJ := 29) (stJ := []) rfl ?_
  refine j_V.ldL fp8_M fp8_29 rfl (i := 0) (kd := 2) (v := .ref 281) (pcJ := 30) rfl L rfl rfl rfl ?_
  refine j_V.getK fp8_M fp8_30 (ci := 1) (j := 0) rfl K rfl rfl ?_
  refine j_V.ldL fp8_M fp8_33 rfl (i := 2) (kd := 0) (v := .int x2) (pcJ := 34) rfl L rfl rfl rfl ?_
  refine j_V.cl fp8_M fp8_34 rfl (md := 3) (mj := 65) rfl (by decide) xd06_M (As := [.ref 282, .int x2]) (rest := []) (jk_spl3 (K.at rfl) rfl rfl rfl (Nat.le_of_ble_eq_true rfl) (Nat.le_of_ble_eq_true rfl)) (fun d => hw_price_343 U7 Y7 _) ?_
  rintro r hz ⟨⟨v6, rfl⟩, ez⟩
  rw [ez]
  show j_V jP _ 11 37 lv [.int v6] h7 _
  refine j_V.ri fp8_M fp8_37 ?_
  exact ⟨⟨_, rfl⟩, U7.sh, Fh7⟩

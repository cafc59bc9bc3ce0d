/-! the trial behind remove, told by the block with that train DONE: written by wip/p36/gen_o.py -/
theorem hS9.w {s L n S : Nat} {pk : Int32} {w : List Int32} {h : J_H} (R : hS9 s L pk n S w h) : wf n S w := by
  obtain ⟨mi, shu, bus, lks, rl, pev, rk, sta, ph, sp, ce, du, he, ri, us, cm, lf, lkd, row, sea, pms, pmm, pmt, pst, pwa, prs, prr, pfa, C, l, V⟩ := R
  exact V.1
theorem hY9.rm {L n S t : Nat} {w : List Int32} {h : J_H} (R : hY9 L n S w h) (H : wf n S w) (ht : t < n) : hY9 L n S (rmW w t) h :=
  R.to H.g (H.rmV ht).g (fun s k hs hk => rmW_o (Or.inl (by omega))) (fun u k _ hk _ => rmW_k H.len (by have := H.n5; omega) (by omega) (by omega) (by omega) (by omega))
theorem hx_rem_327 {h : J_H} {n S t d : Nat} {w : List Int32} (R : hS9 282 327 0 n S w h) (Q : hY9 327 n S w h) (ht : t < n) : j_V jP d 101 0 (lv_args 0 [.ref 282, .int (nI t)]) [] h (fun rv h' => rv = none ∧ hS9 282 327 0 n S (rmW w t) h' ∧ ∀ x, (x < 282 ∨ 307 ≤ x) → h'[x]? = h[x]?) := by
  refine hS9.opn R (fun mi shu bus lks rl pev rk sta ph sp ce du he ri us cm lf lkd row sea pms pmm pmt pst pwa prs prr pfa CS hl V => ?_)
  refine hY9.opn Q (fun cel run tra len siz frm tto lst slo wei fit way rid lon CL Y T hlY => ?_)
  have K0 : kA h [(282, .inl (7, [.ref 327, .int mi, .int shu, .int bus, .ref 283, .ref 284, .ref 285, .ref 286, .ref 287, .ref 288, .ref 289, .ref 290, .ref 291, .ref 292, .ref 293, .int lks, .ref 294, .ref 295, .ref 298])), (285, .inr (.inl (0, ph))), (286, .inr (.inl (0, sp))), (287, .inr (.inl (0, ce))), (290, .inr (.inl (0, ri))), (327, .inl (2, [.int (nI S), .ref 328, .ref 329, .ref 330, .ref 331, .int (nI n), .ref 332, .ref 333, .ref 334, .ref 335, .ref 336, .ref 337, .ref 338, .int cel, .ref 339, .ref 340, .ref 341, .ref 342])), (335, .inr (.inl (0, tto)))] := ⟨CS.1, CS.2.2.2.1, CS.2.2.2.2.1, CS.2.2.2.2.2.1, CS.2.2.2.2.2.2.2.2.1, CL.1, CL.2.2.2.2.2.2.1, trivial⟩
  refine j_V.mono (xc34_ok K0.K) ?_
  rintro rv h' ⟨rfl, K⟩
  exact ⟨rfl, ⟨mi, shu, _, lks, rl, pev, rk, sta, _, sp, _, du, he, _, us, cm, lf, lkd, row, sea, pms, pmm, pmt, pst, pwa, prs, prr, pfa, ⟨K.at rfl, (K.2.1 283 rfl).trans CS.2.1, (K.2.1 284 rfl).trans CS.2.2.1, K.at rfl, K.at rfl, K.at rfl, (K.2.1 288 rfl).trans CS.2.2.2.2.2.2.1, (K.2.1 289 rfl).trans CS.2.2.2.2.2.2.2.1, K.at rfl, (K.2.1 291 rfl).trans CS.2.2.2.2.2.2.2.2.2.1, (K.2.1 292 rfl).trans CS.2.2.2.2.2.2.2.2.2.2.1, (K.2.1 293 rfl).trans CS.2.2.2.2.2.2.2.2.2.2.2.1, (K.2.1 294 rfl).trans CS.2.2.2.2.2.2.2.2.2.2.2.2.1, (K.2.1 295 rfl).trans CS.2.2.2.2.2.2.2.2.2.2.2.2.2.1, (K.2.1 296 rfl).trans CS.2.2.2.2.2.2.2.2.2.2.2.2.2.2.1, (K.2.1 297 rfl).trans CS.2.2.2.2.2.2.2.2.2.2.2.2.2.2.2.1, (K.2.1 298 rfl).trans CS.2.2.2.2.2.2.2.2.2.2.2.2.2.2.2.2.1, (K.2.1 299 rfl).trans CS.2.2.2.2.2.2.2.2.2.2.2.2.2.2.2.2.2.1, (K.2.1 300 rfl).trans CS.2.2.2.2.2.2.2.2.2.2.2.2.2.2.2.2.2.2.1, (K.2.1 301 rfl).trans CS.2.2.2.2.2.2.2.2.2.2.2.2.2.2.2.2.2.2.2.1, (K.2.1 302 rfl).trans CS.2.2.2.2.2.2.2.2.2.2.2.2.2.2.2.2.2.2.2.2.1, (K.2.1 303 rfl).trans CS.2.2.2.2.2.2.2.2.2.2.2.2.2.2.2.2.2.2.2.2.2.1, (K.2.1 304 rfl).trans CS.2.2.2.2.2.2.2.2.2.2.2.2.2.2.2.2.2.2.2.2.2.2.1, (K.2.1 305 rfl).trans CS.2.2.2.2.2.2.2.2.2.2.2.2.2.2.2.2.2.2.2.2.2.2.2.1, (K.2.1 306 rfl).trans CS.2.2.2.2.2.2.2.2.2.2.2.2.2.2.2.2.2.2.2.2.2.2.2.2⟩, hl, x_rem V Y ht rfl⟩, fun x g => KN.off K0 K (lkn (by omega) (lkn (by omega) (lkn (by omega) (lkn (by omega) (lkn (by omega) (lke (lke rfl)))))))⟩
theorem hx_price_327 {h : J_H} {n S t d : Nat} {w : List Int32} (R : hS9 282 327 0 n S w h) (Q : hY9 327 n S w h) (ht : t < n) : j_V jP d 65 0 (lv_args 0 [.ref 282, .int (nI t)]) [] h (fun rv h' => rv = some (.int (prX n w t)) ∧ h' = h) := by
  refine hS9.opn R (fun mi shu bus lks rl pev rk sta ph sp ce du he ri us cm lf lkd row sea pms pmm pmt pst pwa prs prr pfa CS hl V => ?_)
  refine hY9.opn Q (fun cel run tra len siz frm tto lst slo wei fit way rid lon CL Y T hlY => ?_)
  have K0 : kA h [(282, .inl (7, [.ref 327, .int mi, .int shu, .int bus, .ref 283, .ref 284, .ref 285, .ref 286, .ref 287, .ref 288, .ref 289, .ref 290, .ref 291, .ref 292, .ref 293, .int lks, .ref 294, .ref 295, .ref 298])), (284, .inr (.inl (0, sta))), (285, .inr (.inl (0, ph))), (292, .inr (.inl (0, cm))), (327, .inl (2, [.int (nI S), .ref 328, .ref 329, .ref 330, .ref 331, .int (nI n), .ref 332, .ref 333, .ref 334, .ref 335, .ref 336, .ref 337, .ref 338, .int cel, .ref 339, .ref 340, .ref 341, .ref 342])), (335, .inr (.inl (0, tto))), (338, .inr (.inl (0, wei))), (342, .inr (.inl (0, lon)))] := ⟨CS.1, CS.2.2.1, CS.2.2.2.1, CS.2.2.2.2.2.2.2.2.2.2.1, CL.1, CL.2.2.2.2.2.2.1, CL.2.2.2.2.2.2.2.2.2.1, CL.2.2.2.2.2.2.2.2.2.2.2.2.2, trivial⟩
  exact j_V.mono (xc06_ok K0.K) (fun rv h' z => ⟨z.1.trans (by rw [x_prX V.1 V.2.1.1 V.2.1.2.2.2.2.1 V.2.1.2.2.2.2.2.1 V.2.2.1 Y ht]), z.2⟩)
theorem hx_rem_343 {h : J_H} {n S t d : Nat} {w : List Int32} (R : hS9 282 343 0 n S w h) (Q : hY9 343 n S w h) (ht : t < n) : j_V jP d 101 0 (lv_args 0 [.ref 282, .int (nI t)]) [] h (fun rv h' => rv = none ∧ hS9 282 343 0 n S (rmW w t) h' ∧ ∀ x, (x < 282 ∨ 307 ≤ x) → h'[x]? = h[x]?) := by
  refine hS9.opn R (fun mi shu bus lks rl pev rk sta ph sp ce du he ri us cm lf lkd row sea pms pmm pmt pst pwa prs prr pfa CS hl V => ?_)
  refine hY9.opn Q (fun cel run tra len siz frm tto lst slo wei fit way rid lon CL Y T hlY => ?_)
  have K0 : kA h [(282, .inl (7, [.ref 343, .int mi, .int shu, .int bus, .ref 283, .ref 284, .ref 285, .ref 286, .ref 287, .ref 288, .ref 289, .ref 290, .ref 291, .ref 292, .ref 293, .int lks, .ref 294, .ref 295, .ref 298])), (285, .inr (.inl (0, ph))), (286, .inr (.inl (0, sp))), (287, .inr (.inl (0, ce))), (290, .inr (.inl (0, ri))), (343, .inl (2, [.int (nI S), .ref 344, .ref 345, .ref 346, .ref 347, .int (nI n), .ref 348, .ref 349, .ref 350, .ref 351, .ref 352, .ref 353, .ref 354, .int cel, .ref 355, .ref 356, .ref 357, .ref 358])), (351, .inr (.inl (0, tto)))] := ⟨CS.1, CS.2.2.2.1, CS.2.2.2.2.1, CS.2.2.2.2.2.1, CS.2.2.2.2.2.2.2.2.1, CL.1, CL.2.2.2.2.2.2.1, trivial⟩
  refine j_V.mono (xd34_ok K0.K) ?_
  rintro rv h' ⟨rfl, K⟩
  exact ⟨rfl, ⟨mi, shu, _, lks, rl, pev, rk, sta, _, sp, _, du, he, _, us, cm, lf, lkd, row, sea, pms, pmm, pmt, pst, pwa, prs, prr, pfa, ⟨K.at rfl, (K.2.1 283 rfl).trans CS.2.1, (K.2.1 284 rfl).trans CS.2.2.1, K.at rfl, K.at rfl, K.at rfl, (K.2.1 288 rfl).trans CS.2.2.2.2.2.2.1, (K.2.1 289 rfl).trans CS.2.2.2.2.2.2.2.1, K.at rfl, (K.2.1 291 rfl).trans CS.2.2.2.2.2.2.2.2.2.1, (K.2.1 292 rfl).trans CS.2.2.2.2.2.2.2.2.2.2.1, (K.2.1 293 rfl).trans CS.2.2.2.2.2.2.2.2.2.2.2.1, (K.2.1 294 rfl).trans CS.2.2.2.2.2.2.2.2.2.2.2.2.1, (K.2.1 295 rfl).trans CS.2.2.2.2.2.2.2.2.2.2.2.2.2.1, (K.2.1 296 rfl).trans CS.2.2.2.2.2.2.2.2.2.2.2.2.2.2.1, (K.2.1 297 rfl).trans CS.2.2.2.2.2.2.2.2.2.2.2.2.2.2.2.1, (K.2.1 298 rfl).trans CS.2.2.2.2.2.2.2.2.2.2.2.2.2.2.2.2.1, (K.2.1 299 rfl).trans CS.2.2.2.2.2.2.2.2.2.2.2.2.2.2.2.2.2.1, (K.2.1 300 rfl).trans CS.2.2.2.2.2.2.2.2.2.2.2.2.2.2.2.2.2.2.1, (K.2.1 301 rfl).trans CS.2.2.2.2.2.2.2.2.2.2.2.2.2.2.2.2.2.2.2.1, (K.2.1 302 rfl).trans CS.2.2.2.2.2.2.2.2.2.2.2.2.2.2.2.2.2.2.2.2.1, (K.2.1 303 rfl).trans CS.2.2.2.2.2.2.2.2.2.2.2.2.2.2.2.2.2.2.2.2.2.1, (K.2.1 304 rfl).trans CS.2.2.2.2.2.2.2.2.2.2.2.2.2.2.2.2.2.2.2.2.2.2.1, (K.2.1 305 rfl).trans CS.2.2.2.2.2.2.2.2.2.2.2.2.2.2.2.2.2.2.2.2.2.2.2.1, (K.2.1 306 rfl).trans CS.2.2.2.2.2.2.2.2.2.2.2.2.2.2.2.2.2.2.2.2.2.2.2.2⟩, hl, x_rem V Y ht rfl⟩, fun x g => KN.off K0 K (lkn (by omega) (lkn (by omega) (lkn (by omega) (lkn (by omega) (lkn (by omega) (lke (lke rfl)))))))⟩
theorem hx_price_343 {h : J_H} {n S t d : Nat} {w : List Int32} (R : hS9 282 343 0 n S w h) (Q : hY9 343 n S w h) (ht : t < n) : j_V jP d 65 0 (lv_args 0 [.ref 282, .int (nI t)]) [] h (fun rv h' => rv = some (.int (prX n w t)) ∧ h' = h) := by
  refine hS9.opn R (fun mi shu bus lks rl pev rk sta ph sp ce du he ri us cm lf lkd row sea pms pmm pmt pst pwa prs prr pfa CS hl V => ?_)
  refine hY9.opn Q (fun cel run tra len siz frm tto lst slo wei fit way rid lon CL Y T hlY => ?_)
  have K0 : kA h [(282, .inl (7, [.ref 343, .int mi, .int shu, .int bus, .ref 283, .ref 284, .ref 285, .ref 286, .ref 287, .ref 288, .ref 289, .ref 290, .ref 291, .ref 292, .ref 293, .int lks, .ref 294, .ref 295, .ref 298])), (284, .inr (.inl (0, sta))), (285, .inr (.inl (0, ph))), (292, .inr (.inl (0, cm))), (343, .inl (2, [.int (nI S), .ref 344, .ref 345, .ref 346, .ref 347, .int (nI n), .ref 348, .ref 349, .ref 350, .ref 351, .ref 352, .ref 353, .ref 354, .int cel, .ref 355, .ref 356, .ref 357, .ref 358])), (351, .inr (.inl (0, tto))), (354, .inr (.inl (0, wei))), (358, .inr (.inl (0, lon)))] := ⟨CS.1, CS.2.2.1, CS.2.2.2.1, CS.2.2.2.2.2.2.2.2.2.2.1, CL.1, CL.2.2.2.2.2.2.1, CL.2.2.2.2.2.2.2.2.2.1, CL.2.2.2.2.2.2.2.2.2.2.2.2.2, trivial⟩
  exact j_V.mono (xd06_ok K0.K) (fun rv h' z => ⟨z.1.trans (by rw [x_prX V.1 V.2.1.1 V.2.1.2.2.2.2.1 V.2.1.2.2.2.2.2.1 V.2.2.1 Y ht]), z.2⟩)
/-- BURDEN's price, told by the reference -/
def buP (n : Nat) (w : List Int32) (t : Nat) : Int32 := m_price (m_toTheEnd (n - 1) (m_drops w (nI t)) 1)
theorem buP_e {n S t : Nat} {w : List Int32} (H : wf n S w) (ht : t < n) : prX n (m_adv n 1 true 300 (rmW w t)) t = buP n w t := by
  obtain ⟨m, rfl⟩ : ∃ m, n = m + 1 := ⟨n - 1, by omega⟩
  rw [m_adv_t]
  exact (burden_price H ht).symm
set_option maxRecDepth 1000000 in
theorem hx_out_327 {g0 : J_H} {n S m t d : Nat} {w : List Int32} (P : hF 327 n S w g0) (hm : gN w 201 = nI m) (hb : m + 300 < 2 ^ 30) (ht : t < n) : j_V jP d 11 0 (lv_args 0 [.ref 281, .ref 4, .int (nI t)]) [] g0 (fun rv h' => rv = some (.int (buP n w t)) ∧ hT9 282 0 h' ∧ ∀ x, (x < 282 ∨ 307 ≤ x) → h'[x]? = g0[x]?) := by
  obtain ⟨R4, Y4, Q, C281⟩ := P
  have H := R4.w
  refine hT9.opn Q (fun ly miz shuz busz lksz rlz pevz rkz staz phz spz cez duz hez riz usz cmz lfz lkdz rowz seaz pmsz pmmz pmtz pstz pwaz prsz prrz pfaz CT _ _ => ?_)
  have K9 : kA g0 [(281, .inl (1, [.ref 282, .ref 307, .ref 323, .ref 324])), (282, .inl (7, [ly, .int miz, .int shuz, .int busz, .ref 283, .ref 284, .ref 285, .ref 286, .ref 287, .ref 288, .ref 289, .ref 290, .ref 291, .ref 292, .ref 293, .int lksz, .ref 294, .ref 295, .ref 298]))] := ⟨C281, CT.1, trivial⟩
  have K : KN g0 [(281, .inl (1, [.ref 282, .ref 307, .ref 323, .ref 324])), (282, .inl (7, [ly, .int miz, .int shuz, .int busz, .ref 283, .ref 284, .ref 285, .ref 286, .ref 287, .ref 288, .ref 289, .ref 290, .ref 291, .ref 292, .ref 293, .int lksz, .ref 294, .ref 295, .ref 298]))] g0 := K9.K
  show j_V jP d 11 0 [(0, .ref 281), (1, .ref 4), (2, .int (nI t))] [] g0 _
  obtain ⟨lv, elv, L9⟩ : ∃ lv, lv = [(0, .ref 281), (1, .ref 4), (2, .int (nI t))] ∧ LK lv [(0, .ref 281), (1, .ref 4), (2, .int (nI t))] := ⟨_, rfl, LK.rf⟩
  rw [← elv]
  clear elv
  have L := L9
  refine j_V.ldL fp8_M fp8_0 rfl (i := 0) (kd := 2) (v := .ref 281) (pcJ := 1) rfl L rfl rfl rfl ?_
  refine j_V.getK fp8_M fp8_1 (ci := 1) (j := 0) rfl K rfl rfl ?_
  refine j_V.ldL fp8_M fp8_4 rfl (i := 1) (kd := 2) (v := .ref 4) (pcJ := 5) rfl L rfl rfl rfl ?_
  refine j_V.cl fp8_M fp8_5 rfl (md := 3) (mj := 61) rfl (by decide) yts_M (As := [.ref 282, .ref 4]) (rest := []) (jk_spl3 (K.at rfl) rfl rfl rfl (Nat.le_of_ble_eq_true rfl) (Nat.le_of_ble_eq_true rfl)) (fun d => ht_cp R4 Q) ?_
  rintro r h9 ⟨rfl, T9, Fh9⟩
  have Y9 : hY9 327 n S w h9 := Y4.fr (fun x _ _ => Fh9 x (by omega))
  refine hU9.opn T9.u (fun mi shu bus lks rl pev rk sta ph sp ce du he ri us cm lf lkd row sea pms pmm pmt pst pwa prs prr pfa CS _ => ?_)
  have K9 : kA h9 [(281, .inl (1, [.ref 282, .ref 307, .ref 323, .ref 324])), (282, .inl (7, [.ref 327, .int mi, .int shu, .int bus, .ref 283, .ref 284, .ref 285, .ref 286, .ref 287, .ref 288, .ref 289, .ref 290, .ref 291, .ref 292, .ref 293, .int lks, .ref 294, .ref 295, .ref 298]))] := ⟨(Fh9 281 (by decide)).trans C281, CS.1, trivial⟩
  have K : KN h9 [(281, .inl (1, [.ref 282, .ref 307, .ref 323, .ref 324])), (282, .inl (7, [.ref 327, .int mi, .int shu, .int bus, .ref 283, .ref 284, .ref 285, .ref 286, .ref 287, .ref 288, .ref 289, .ref 290, .ref 291, .ref 292, .ref 293, .int lks, .ref 294, .ref 295, .ref 298]))] h9 := K9.K
  show j_V jP _ 11 8 lv [] h9 _
  refine j_V.ldL fp8_M fp8_8 rfl (i := 0) (kd := 2) (v := .ref 281) (pcJ := 9) rfl L rfl rfl rfl ?_
  refine j_V.getK fp8_M fp8_9 (ci := 1) (j := 0) rfl K rfl rfl ?_
  refine j_V.ldL fp8_M fp8_12 rfl (i := 2) (kd := 0) (v := .int (nI t)) (pcJ := 13) rfl L rfl rfl rfl ?_
  refine j_V.cl fp8_M fp8_13 rfl (md := 3) (mj := 101) rfl (by decide) xc34_M (As := [.ref 282, .int (nI t)]) (rest := []) (jk_spl3 (K.at rfl) rfl rfl rfl (Nat.le_of_ble_eq_true rfl) (Nat.le_of_ble_eq_true rfl)) (fun d => hx_rem_327 T9 Y9 ht) ?_
  rintro r h8 ⟨rfl, T8, F8⟩
  have Fh8 : ∀ x, (x < 282 ∨ 307 ≤ x) → h8[x]? = g0[x]? := fun x g => (F8 x g).trans (Fh9 x g)
  have Y8 : hY9 327 n S (rmW w t) h8 := (Y9.fr (fun x _ _ => F8 x (by omega))).rm H ht
  refine hU9.opn T8.u (fun mi shu bus lks rl pev rk sta ph sp ce du he ri us cm lf lkd row sea pms pmm pmt pst pwa prs prr pfa CS _ => ?_)
  have K9 : kA h8 [(281, .inl (1, [.ref 282, .ref 307, .ref 323, .ref 324])), (282, .inl (7, [.ref 327, .int mi, .int shu, .int bus, .ref 283, .ref 284, .ref 285, .ref 286, .ref 287, .ref 288, .ref 289, .ref 290, .ref 291, .ref 292, .ref 293, .int lks, .ref 294, .ref 295, .ref 298]))] := ⟨(Fh8 281 (by decide)).trans C281, CS.1, trivial⟩
  have K : KN h8 [(281, .inl (1, [.ref 282, .ref 307, .ref 323, .ref 324])), (282, .inl (7, [.ref 327, .int mi, .int shu, .int bus, .ref 283, .ref 284, .ref 285, .ref 286, .ref 287, .ref 288, .ref 289, .ref 290, .ref 291, .ref 292, .ref 293, .int lks, .ref 294, .ref 295, .ref 298]))] h8 := K9.K
  show j_V jP _ 11 16 lv [] h8 _
  refine j_V.ldL fp8_M fp8_16 rfl (i := 0) (kd := 2) (v := .ref 281) (pcJ := 17) rfl L rfl rfl rfl ?_
  refine j_V.getK fp8_M fp8_17 (ci := 1) (j := 0) rfl K rfl rfl ?_
  refine j_V.one fp8_M fp8_20 (by decide) (pcJ := 23) (stJ := [.int 300, .ref 282]) rfl ?_
  refine j_V.one fp8_M fp8_23 (by decide) (pcJ := 24) (stJ := [.int 1, .int 300, .ref 282]) rfl ?_
  refine j_V.one fp8_M fp8_24 (by decide) (pcJ := 25) (stJ := [.int 1, .int 1, .int 300, .ref 282]) rfl ?_
  have hm8 : gN (rmW w t) 201 = nI m := (rmW_o (Or.inr (by have := H.n5; omega))).trans hm
  refine j_V.cl fp8_M fp8_25 rfl (md := 3) (mj := 92) rfl (by decide) xc45_M (As := [.ref 282, .int 300, .int 1, .int 1]) (rest := []) (jk_spl3 (K.at rfl) rfl rfl rfl (Nat.le_of_ble_eq_true rfl) (Nat.le_of_ble_eq_true rfl)) (fun d => hv_xc (k := 300) (e := true) T8 Y8 hm8 hb 1 _ rfl) ?_
  rintro r h7 ⟨rfl, T7, Y7, -, F7⟩
  have Fh7 : ∀ x, (x < 282 ∨ 307 ≤ x) → h7[x]? = g0[x]? := fun x g => (F7 x g).trans (Fh8 x g)
  refine hU9.opn T7.u (fun mi shu bus lks rl pev rk sta ph sp ce du he ri us cm lf lkd row sea pms pmm pmt pst pwa prs prr pfa CS _ => ?_)
  have K9 : kA h7 [(281, .inl (1, [.ref 282, .ref 307, .ref 323, .ref 324])), (282, .inl (7, [.ref 327, .int mi, .int shu, .int bus, .ref 283, .ref 284, .ref 285, .ref 286, .ref 287, .ref 288, .ref 289, .ref 290, .ref 291, .ref 292, .ref 293, .int lks, .ref 294, .ref 295, .ref 298]))] := ⟨(Fh7 281 (by decide)).trans C281, CS.1, trivial⟩
  have K : KN h7 [(281, .inl (1, [.ref 282, .ref 307, .ref 323, .ref 324])), (282, .inl (7, [.ref 327, .int mi, .int shu, .int bus, .ref 283, .ref 284, .ref 285, .ref 286, .ref 287, .ref 288, .ref 289, .ref 290, .ref 291, .ref 292, .ref 293, .int lks, .ref 294, .ref 295, .ref 298]))] h7 := K9.K
  show j_V jP _ 11 28 lv [.int (m_price (m_adv n 1 true 300 (rmW w t)))] h7 _
  refine j_V.one fp8_M fp8_28 (by decide) (pcJ := 29) (stJ := []) rfl ?_
  refine j_V.ldL fp8_M fp8_29 rfl (i := 0) (kd := 2) (v := .ref 281) (pcJ := 30) rfl L rfl rfl rfl ?_
  refine j_V.getK fp8_M fp8_30 (ci := 1) (j := 0) rfl K rfl rfl ?_
  refine j_V.ldL fp8_M fp8_33 rfl (i := 2) (kd := 0) (v := .int (nI t)) (pcJ := 34) rfl L rfl rfl rfl ?_
  refine j_V.cl fp8_M fp8_34 rfl (md := 3) (mj := 65) rfl (by decide) xc06_M (As := [.ref 282, .int (nI t)]) (rest := []) (jk_spl3 (K.at rfl) rfl rfl rfl (Nat.le_of_ble_eq_true rfl) (Nat.le_of_ble_eq_true rfl)) (fun d => hx_price_327 T7 Y7 ht) ?_
  rintro r hz ⟨rfl, ez⟩
  rw [ez]
  show j_V jP _ 11 37 lv [.int (prX n (m_adv n 1 true 300 (rmW w t)) t)] h7 _
  refine j_V.ri fp8_M fp8_37 ?_
  exact ⟨by rw [buP_e H ht], T7.sh, Fh7⟩
set_option maxRecDepth 1000000 in
theorem hx_out_343 {g0 : J_H} {n S m t d : Nat} {w : List Int32} (P : hF 343 n S w g0) (hm : gN w 201 = nI m) (hb : m + 300 < 2 ^ 30) (ht : t < n) : j_V jP d 11 0 (lv_args 0 [.ref 281, .ref 4, .int (nI t)]) [] g0 (fun rv h' => rv = some (.int (buP n w t)) ∧ hT9 282 0 h' ∧ ∀ x, (x < 282 ∨ 307 ≤ x) → h'[x]? = g0[x]?) := by
  obtain ⟨R4, Y4, Q, C281⟩ := P
  have H := R4.w
  refine hT9.opn Q (fun ly miz shuz busz lksz rlz pevz rkz staz phz spz cez duz hez riz usz cmz lfz lkdz rowz seaz pmsz pmmz pmtz pstz pwaz prsz prrz pfaz CT _ _ => ?_)
  have K9 : kA g0 [(281, .inl (1, [.ref 282, .ref 307, .ref 323, .ref 324])), (282, .inl (7, [ly, .int miz, .int shuz, .int busz, .ref 283, .ref 284, .ref 285, .ref 286, .ref 287, .ref 288, .ref 289, .ref 290, .ref 291, .ref 292, .ref 293, .int lksz, .ref 294, .ref 295, .ref 298]))] := ⟨C281, CT.1, trivial⟩
  have K : KN g0 [(281, .inl (1, [.ref 282, .ref 307, .ref 323, .ref 324])), (282, .inl (7, [ly, .int miz, .int shuz, .int busz, .ref 283, .ref 284, .ref 285, .ref 286, .ref 287, .ref 288, .ref 289, .ref 290, .ref 291, .ref 292, .ref 293, .int lksz, .ref 294, .ref 295, .ref 298]))] g0 := K9.K
  show j_V jP d 11 0 [(0, .ref 281), (1, .ref 4), (2, .int (nI t))] [] g0 _
  obtain ⟨lv, elv, L9⟩ : ∃ lv, lv = [(0, .ref 281), (1, .ref 4), (2, .int (nI t))] ∧ LK lv [(0, .ref 281), (1, .ref 4), (2, .int (nI t))] := ⟨_, rfl, LK.rf⟩
  rw [← elv]
  clear elv
  have L := L9
  refine j_V.ldL fp8_M fp8_0 rfl (i := 0) (kd := 2) (v := .ref 281) (pcJ := 1) rfl L rfl rfl rfl ?_
  refine j_V.getK fp8_M fp8_1 (ci := 1) (j := 0) rfl K rfl rfl ?_
  refine j_V.ldL fp8_M fp8_4 rfl (i := 1) (kd := 2) (v := .ref 4) (pcJ := 5) rfl L rfl rfl rfl ?_
  refine j_V.cl fp8_M fp8_5 rfl (md := 3) (mj := 61) rfl (by decide) yts_M (As := [.ref 282, .ref 4]) (rest := []) (jk_spl3 (K.at rfl) rfl rfl rfl (Nat.le_of_ble_eq_true rfl) (Nat.le_of_ble_eq_true rfl)) (fun d => ht_cp R4 Q) ?_
  rintro r h9 ⟨rfl, T9, Fh9⟩
  have Y9 : hY9 343 n S w h9 := Y4.fr (fun x _ _ => Fh9 x (by omega))
  refine hU9.opn T9.u (fun mi shu bus lks rl pev rk sta ph sp ce du he ri us cm lf lkd row sea pms pmm pmt pst pwa prs prr pfa CS _ => ?_)
  have K9 : kA h9 [(281, .inl (1, [.ref 282, .ref 307, .ref 323, .ref 324])), (282, .inl (7, [.ref 343, .int mi, .int shu, .int bus, .ref 283, .ref 284, .ref 285, .ref 286, .ref 287, .ref 288, .ref 289, .ref 290, .ref 291, .ref 292, .ref 293, .int lks, .ref 294, .ref 295, .ref 298]))] := ⟨(Fh9 281 (by decide)).trans C281, CS.1, trivial⟩
  have K : KN h9 [(281, .inl (1, [.ref 282, .ref 307, .ref 323, .ref 324])), (282, .inl (7, [.ref 343, .int mi, .int shu, .int bus, .ref 283, .ref 284, .ref 285, .ref 286, .ref 287, .ref 288, .ref 289, .ref 290, .ref 291, .ref 292, .ref 293, .int lks, .ref 294, .ref 295, .ref 298]))] h9 := K9.K
  show j_V jP _ 11 8 lv [] h9 _
  refine j_V.ldL fp8_M fp8_8 rfl (i := 0) (kd := 2) (v := .ref 281) (pcJ := 9) rfl L rfl rfl rfl ?_
  refine j_V.getK fp8_M fp8_9 (ci := 1) (j := 0) rfl K rfl rfl ?_
  refine j_V.ldL fp8_M fp8_12 rfl (i := 2) (kd := 0) (v := .int (nI t)) (pcJ := 13) rfl L rfl rfl rfl ?_
  refine j_V.cl fp8_M fp8_13 rfl (md := 3) (mj := 101) rfl (by decide) xd34_M (As := [.ref 282, .int (nI t)]) (rest := []) (jk_spl3 (K.at rfl) rfl rfl rfl (Nat.le_of_ble_eq_true rfl) (Nat.le_of_ble_eq_true rfl)) (fun d => hx_rem_343 T9 Y9 ht) ?_
  rintro r h8 ⟨rfl, T8, F8⟩
  have Fh8 : ∀ x, (x < 282 ∨ 307 ≤ x) → h8[x]? = g0[x]? := fun x g => (F8 x g).trans (Fh9 x g)
  have Y8 : hY9 343 n S (rmW w t) h8 := (Y9.fr (fun x _ _ => F8 x (by omega))).rm H ht
  refine hU9.opn T8.u (fun mi shu bus lks rl pev rk sta ph sp ce du he ri us cm lf lkd row sea pms pmm pmt pst pwa prs prr pfa CS _ => ?_)
  have K9 : kA h8 [(281, .inl (1, [.ref 282, .ref 307, .ref 323, .ref 324])), (282, .inl (7, [.ref 343, .int mi, .int shu, .int bus, .ref 283, .ref 284, .ref 285, .ref 286, .ref 287, .ref 288, .ref 289, .ref 290, .ref 291, .ref 292, .ref 293, .int lks, .ref 294, .ref 295, .ref 298]))] := ⟨(Fh8 281 (by decide)).trans C281, CS.1, trivial⟩
  have K : KN h8 [(281, .inl (1, [.ref 282, .ref 307, .ref 323, .ref 324])), (282, .inl (7, [.ref 343, .int mi, .int shu, .int bus, .ref 283, .ref 284, .ref 285, .ref 286, .ref 287, .ref 288, .ref 289, .ref 290, .ref 291, .ref 292, .ref 293, .int lks, .ref 294, .ref 295, .ref 298]))] h8 := K9.K
  show j_V jP _ 11 16 lv [] h8 _
  refine j_V.ldL fp8_M fp8_16 rfl (i := 0) (kd := 2) (v := .ref 281) (pcJ := 17) rfl L rfl rfl rfl ?_
  refine j_V.getK fp8_M fp8_17 (ci := 1) (j := 0) rfl K rfl rfl ?_
  refine j_V.one fp8_M fp8_20 (by decide) (pcJ := 23) (stJ := [.int 300, .ref 282]) rfl ?_
  refine j_V.one fp8_M fp8_23 (by decide) (pcJ := 24) (stJ := [.int 1, .int 300, .ref 282]) rfl ?_
  refine j_V.one fp8_M fp8_24 (by decide) (pcJ := 25) (stJ := [.int 1, .int 1, .int 300, .ref 282]) rfl ?_
  have hm8 : gN (rmW w t) 201 = nI m := (rmW_o (Or.inr (by have := H.n5; omega))).trans hm
  refine j_V.cl fp8_M fp8_25 rfl (md := 3) (mj := 92) rfl (by decide) xd45_M (As := [.ref 282, .int 300, .int 1, .int 1]) (rest := []) (jk_spl3 (K.at rfl) rfl rfl rfl (Nat.le_of_ble_eq_true rfl) (Nat.le_of_ble_eq_true rfl)) (fun d => hv_xd (k := 300) (e := true) T8 Y8 hm8 hb 1 _ rfl) ?_
  rintro r h7 ⟨rfl, T7, Y7, -, F7⟩
  have Fh7 : ∀ x, (x < 282 ∨ 307 ≤ x) → h7[x]? = g0[x]? := fun x g => (F7 x g).trans (Fh8 x g)
  refine hU9.opn T7.u (fun mi shu bus lks rl pev rk sta ph sp ce du he ri us cm lf lkd row sea pms pmm pmt pst pwa prs prr pfa CS _ => ?_)
  have K9 : kA h7 [(281, .inl (1, [.ref 282, .ref 307, .ref 323, .ref 324])), (282, .inl (7, [.ref 343, .int mi, .int shu, .int bus, .ref 283, .ref 284, .ref 285, .ref 286, .ref 287, .ref 288, .ref 289, .ref 290, .ref 291, .ref 292, .ref 293, .int lks, .ref 294, .ref 295, .ref 298]))] := ⟨(Fh7 281 (by decide)).trans C281, CS.1, trivial⟩
  have K : KN h7 [(281, .inl (1, [.ref 282, .ref 307, .ref 323, .ref 324])), (282, .inl (7, [.ref 343, .int mi, .int shu, .int bus, .ref 283, .ref 284, .ref 285, .ref 286, .ref 287, .ref 288, .ref 289, .ref 290, .ref 291, .ref 292, .ref 293, .int lks, .ref 294, .ref 295, .ref 298]))] h7 := K9.K
  show j_V jP _ 11 28 lv [.int (m_price (m_adv n 1 true 300 (rmW w t)))] h7 _
  refine j_V.one fp8_M fp8_28 (by decide) (pcJ := 29) (stJ := []) rfl ?_
  refine j_V.ldL fp8_M fp8_29 rfl (i := 0) (kd := 2) (v := .ref 281) (pcJ := 30) rfl L rfl rfl rfl ?_
  refine j_V.getK fp8_M fp8_30 (ci := 1) (j := 0) rfl K rfl rfl ?_
  refine j_V.ldL fp8_M fp8_33 rfl (i := 2) (kd := 0) (v := .int (nI t)) (pcJ := 34) rfl L rfl rfl rfl ?_
  refine j_V.cl fp8_M fp8_34 rfl (md := 3) (mj := 65) rfl (by decide) xd06_M (As := [.ref 282, .int (nI t)]) (rest := []) (jk_spl3 (K.at rfl) rfl rfl rfl (Nat.le_of_ble_eq_true rfl) (Nat.le_of_ble_eq_true rfl)) (fun d => hx_price_343 T7 Y7 ht) ?_
  rintro r hz ⟨rfl, ez⟩
  rw [ez]
  show j_V jP _ 11 37 lv [.int (prX n (m_adv n 1 true 300 (rmW w t)) t)] h7 _
  refine j_V.ri fp8_M fp8_37 ?_
  exact ⟨by rw [buP_e H ht], T7.sh, Fh7⟩

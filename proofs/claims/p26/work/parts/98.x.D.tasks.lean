/-! what is asked of the trial: written by wip/px/gen_h7.py -/
theorem x_use_n {w us : List Int32} (K : qK w us) : x_allUse us = m_allUse w := by
  have g : ∀ k, k < 6 → gA us (nI k) = gA w (204 + nI k) := fun k hk => by
    rw [gA_n (by omega), K.2 k hk, show (204 : Int32) + nI k = nI (204 + k) from nI_add 204 k, gA_n (by omega)]
  have l : ∀ (f i : Nat) (v : Int32), i + f = 6 → x_allUse_l4 us f (nI i) v = m_allUse_l4 w f (nI i) v := by
    intro f
    induction f with
    | zero => intro i v e; rfl
    | succ f ih =>
      intro i v e
      unfold x_allUse_l4 m_allUse_l4
      rw [nI_1, g i (by omega), ih (i + 1) _ (by omega)]
  exact l 6 0 0 rfl
theorem tq_cnt_327 {h : J_H} {n S d : Nat} {w : List Int32} (T : hS9 282 327 0 n S w h) (Y9 : hY9 327 n S w h) (x1 : Int32) : j_V jP d 62 0 (lv_args 0 [.ref 282, .int x1]) [] h (fun rv h' => rv = some (.int (m_howMany w x1)) ∧ h' = h) := by
  refine hS9.opn T (fun mi shu bus lks rl pev rk sta ph sp ce du he ri us cm lf lkd row sea pms pmm pmt pst pwa prs prr pfa CS hl4 V => ?_)
  refine hY9.opn Y9 (fun cel run tra len siz frm tto lst slo wei fit way rid lon CL Y TT hlY => ?_)
  have K0 : kA h [(282, .inl (7, [.ref 327, .int mi, .int shu, .int bus, .ref 283, .ref 284, .ref 285, .ref 286, .ref 287, .ref 288, .ref 289, .ref 290, .ref 291, .ref 292, .ref 293, .int lks, .ref 294, .ref 295, .ref 298])), (285, .inr (.inl (0, ph))), (327, .inl (2, [.int (nI S), .ref 328, .ref 329, .ref 330, .ref 331, .int (nI n), .ref 332, .ref 333, .ref 334, .ref 335, .ref 336, .ref 337, .ref 338, .int cel, .ref 339, .ref 340, .ref 341, .ref 342]))] := ⟨CS.1, CS.2.2.2.1, CL.1, trivial⟩
  refine j_V.mono (xc03_ok K0.K) ?_
  rintro rv h' ⟨rfl, rfl⟩
  exact ⟨by rw [x_cnt V.1.g V.2.1.1 x1], rfl⟩
theorem tq_price_327 {h : J_H} {n S d : Nat} {w : List Int32} (T : hS9 282 327 0 n S w h) (Y9 : hY9 327 n S w h) : j_V jP d 65 0 (lv_args 0 [.ref 282, .int (-1)]) [] h (fun rv h' => rv = some (.int (m_price w)) ∧ h' = h) := by
  refine hS9.opn T (fun mi shu bus lks rl pev rk sta ph sp ce du he ri us cm lf lkd row sea pms pmm pmt pst pwa prs prr pfa CS hl4 V => ?_)
  refine hY9.opn Y9 (fun cel run tra len siz frm tto lst slo wei fit way rid lon CL Y TT hlY => ?_)
  have K0 : kA h [(282, .inl (7, [.ref 327, .int mi, .int shu, .int bus, .ref 283, .ref 284, .ref 285, .ref 286, .ref 287, .ref 288, .ref 289, .ref 290, .ref 291, .ref 292, .ref 293, .int lks, .ref 294, .ref 295, .ref 298])), (284, .inr (.inl (0, sta))), (285, .inr (.inl (0, ph))), (292, .inr (.inl (0, cm))), (327, .inl (2, [.int (nI S), .ref 328, .ref 329, .ref 330, .ref 331, .int (nI n), .ref 332, .ref 333, .ref 334, .ref 335, .ref 336, .ref 337, .ref 338, .int cel, .ref 339, .ref 340, .ref 341, .ref 342])), (335, .inr (.inl (0, tto))), (338, .inr (.inl (0, wei))), (342, .inr (.inl (0, lon)))] := ⟨CS.1, CS.2.2.1, CS.2.2.2.1, CS.2.2.2.2.2.2.2.2.2.2.1, CL.1, CL.2.2.2.2.2.2.1, CL.2.2.2.2.2.2.2.2.2.1, CL.2.2.2.2.2.2.2.2.2.2.2.2.2, trivial⟩
  refine j_V.mono (xc06_ok K0.K) ?_
  rintro rv h' ⟨rfl, rfl⟩
  exact ⟨by rw [x_pri V.1 V.2.1.1 V.2.1.2.2.2.2.1 V.2.1.2.2.2.2.2.1 V.2.2.1 Y], rfl⟩
theorem tq_stuck_327 {h : J_H} {n S d : Nat} {w : List Int32} (T : hS9 282 327 0 n S w h) (Y9 : hY9 327 n S w h) : j_V jP d 78 0 (lv_args 0 [.ref 282]) [] h (fun rv h' => rv = some (.int (m_isStuck w)) ∧ h' = h) := by
  refine hS9.opn T (fun mi shu bus lks rl pev rk sta ph sp ce du he ri us cm lf lkd row sea pms pmm pmt pst pwa prs prr pfa CS hl4 V => ?_)
  refine hY9.opn Y9 (fun cel run tra len siz frm tto lst slo wei fit way rid lon CL Y TT hlY => ?_)
  have K0 : kA h [(282, .inl (7, [.ref 327, .int mi, .int shu, .int bus, .ref 283, .ref 284, .ref 285, .ref 286, .ref 287, .ref 288, .ref 289, .ref 290, .ref 291, .ref 292, .ref 293, .int lks, .ref 294, .ref 295, .ref 298])), (285, .inr (.inl (0, ph))), (286, .inr (.inl (0, sp))), (290, .inr (.inl (0, ri))), (327, .inl (2, [.int (nI S), .ref 328, .ref 329, .ref 330, .ref 331, .int (nI n), .ref 332, .ref 333, .ref 334, .ref 335, .ref 336, .ref 337, .ref 338, .int cel, .ref 339, .ref 340, .ref 341, .ref 342])), (331, .inr (.inl (0, len))), (334, .inr (.inl (0, frm))), (335, .inr (.inl (0, tto))), (339, .inr (.inl (0, fit)))] := ⟨CS.1, CS.2.2.2.1, CS.2.2.2.2.1, CS.2.2.2.2.2.2.2.2.1, CL.1, CL.2.2.2.1, CL.2.2.2.2.2.1, CL.2.2.2.2.2.2.1, CL.2.2.2.2.2.2.2.2.2.2.1, trivial⟩
  refine j_V.mono (xc21_ok K0.K) ?_
  rintro rv h' ⟨rfl, rfl⟩
  exact ⟨by rw [x_stuck V.1.g V.2.1.1 V.2.1.2.1 V.2.2.2.1 V.2.1.2.2.1 Y], rfl⟩
theorem tq_use_327 {h : J_H} {n S d : Nat} {w : List Int32} (T : hS9 282 327 0 n S w h) (Y9 : hY9 327 n S w h) : j_V jP d 66 0 (lv_args 0 [.ref 282]) [] h (fun rv h' => rv = some (.int (m_allUse w)) ∧ h' = h) := by
  refine hS9.opn T (fun mi shu bus lks rl pev rk sta ph sp ce du he ri us cm lf lkd row sea pms pmm pmt pst pwa prs prr pfa CS hl4 V => ?_)
  refine hY9.opn Y9 (fun cel run tra len siz frm tto lst slo wei fit way rid lon CL Y TT hlY => ?_)
  have K0 : kA h [(282, .inl (7, [.ref 327, .int mi, .int shu, .int bus, .ref 283, .ref 284, .ref 285, .ref 286, .ref 287, .ref 288, .ref 289, .ref 290, .ref 291, .ref 292, .ref 293, .int lks, .ref 294, .ref 295, .ref 298])), (291, .inr (.inl (0, us)))] := ⟨CS.1, CS.2.2.2.2.2.2.2.2.2.1, trivial⟩
  refine j_V.mono (xc07_ok K0.K) ?_
  rintro rv h' ⟨rfl, rfl⟩
  exact ⟨by rw [x_use_n V.2.2.2.2.1], rfl⟩
theorem tq_safe_327 {h : J_H} {n S d : Nat} {w : List Int32} (T : hS9 282 327 0 n S w h) (Y9 : hY9 327 n S w h) : j_V jP d 76 0 (lv_args 0 [.ref 282]) [] h (fun rv h' => rv = some (.int (m_isSafe w n)) ∧ hS9 282 327 0 n S w h' ∧ ∀ x, (x < 282 ∨ 307 ≤ x) → h'[x]? = h[x]?) := by
  have T0 := T
  refine hS9.opn T (fun mi shu bus lks rl pev rk sta ph sp ce du he ri us cm lf lkd row sea pms pmm pmt pst pwa prs prr pfa CS hl4 V => ?_)
  refine hY9.opn Y9 (fun cel run tra len siz frm tto lst slo wei fit way rid lon CL Y TT hlY => ?_)
  have K0 : kA h [(282, .inl (7, [.ref 327, .int mi, .int shu, .int bus, .ref 283, .ref 284, .ref 285, .ref 286, .ref 287, .ref 288, .ref 289, .ref 290, .ref 291, .ref 292, .ref 293, .int lks, .ref 294, .ref 295, .ref 298])), (287, .inr (.inl (0, ce))), (295, .inl (5, [.ref 296, .int rl, .ref 297])), (296, .inr (.inl (0, row))), (297, .inr (.inl (0, sea))), (327, .inl (2, [.int (nI S), .ref 328, .ref 329, .ref 330, .ref 331, .int (nI n), .ref 332, .ref 333, .ref 334, .ref 335, .ref 336, .ref 337, .ref 338, .int cel, .ref 339, .ref 340, .ref 341, .ref 342])), (339, .inr (.inl (0, fit))), (340, .inr (.inl (0, way)))] := ⟨CS.1, CS.2.2.2.2.2.1, CS.2.2.2.2.2.2.2.2.2.2.2.2.2.1, CS.2.2.2.2.2.2.2.2.2.2.2.2.2.2.1, CS.2.2.2.2.2.2.2.2.2.2.2.2.2.2.2.1, CL.1, CL.2.2.2.2.2.2.2.2.2.2.1, CL.2.2.2.2.2.2.2.2.2.2.2.1, trivial⟩
  obtain ⟨sea', row', k', e1, e2, e3⟩ := x_safe (rl := rl) (tk := [0, 0, 0, 0, 0]) V.1.g V.1.D.1 V.2.1.1 V.2.2.2.1 Y V.2.2.2.2.2.2.2.1 V.2.2.2.2.2.2.2.2 rfl
  refine j_V.mono (xc40_ok K0.K) ?_
  rintro rv h' ⟨rfl, K⟩
  rw [e1] at K ⊢
  dsimp only at K ⊢
  have F : ∀ x, x ≠ 295 → x ≠ 296 → x ≠ 297 → h'[x]? = h[x]? := fun x g5 g6 g7 => KN.off K0 K (lke (lke (lkn (fun z => g5 z.symm) (lkn (fun z => g6 z.symm) (lkn (fun z => g7 z.symm) (lke (lke (lke rfl))))))))
  exact ⟨rfl, T0.sf (fun a _ _ h1 h2 h3 => F a h1 h2 h3) (K.at rfl) (K.at rfl) (K.at rfl) e2 e3.1, fun x h1 => F x (by omega) (by omega) (by omega)⟩
theorem tq_cnt_343 {h : J_H} {n S d : Nat} {w : List Int32} (T : hS9 282 343 0 n S w h) (Y9 : hY9 343 n S w h) (x1 : Int32) : j_V jP d 62 0 (lv_args 0 [.ref 282, .int x1]) [] h (fun rv h' => rv = some (.int (m_howMany w x1)) ∧ h' = h) := by
  refine hS9.opn T (fun mi shu bus lks rl pev rk sta ph sp ce du he ri us cm lf lkd row sea pms pmm pmt pst pwa prs prr pfa CS hl4 V => ?_)
  refine hY9.opn Y9 (fun cel run tra len siz frm tto lst slo wei fit way rid lon CL Y TT hlY => ?_)
  have K0 : kA h [(282, .inl (7, [.ref 343, .int mi, .int shu, .int bus, .ref 283, .ref 284, .ref 285, .ref 286, .ref 287, .ref 288, .ref 289, .ref 290, .ref 291, .ref 292, .ref 293, .int lks, .ref 294, .ref 295, .ref 298])), (285, .inr (.inl (0, ph))), (343, .inl (2, [.int (nI S), .ref 344, .ref 345, .ref 346, .ref 347, .int (nI n), .ref 348, .ref 349, .ref 350, .ref 351, .ref 352, .ref 353, .ref 354, .int cel, .ref 355, .ref 356, .ref 357, .ref 358]))] := ⟨CS.1, CS.2.2.2.1, CL.1, trivial⟩
  refine j_V.mono (xd03_ok K0.K) ?_
  rintro rv h' ⟨rfl, rfl⟩
  exact ⟨by rw [x_cnt V.1.g V.2.1.1 x1], rfl⟩
theorem tq_price_343 {h : J_H} {n S d : Nat} {w : List Int32} (T : hS9 282 343 0 n S w h) (Y9 : hY9 343 n S w h) : j_V jP d 65 0 (lv_args 0 [.ref 282, .int (-1)]) [] h (fun rv h' => rv = some (.int (m_price w)) ∧ h' = h) := by
  refine hS9.opn T (fun mi shu bus lks rl pev rk sta ph sp ce du he ri us cm lf lkd row sea pms pmm pmt pst pwa prs prr pfa CS hl4 V => ?_)
  refine hY9.opn Y9 (fun cel run tra len siz frm tto lst slo wei fit way rid lon CL Y TT hlY => ?_)
  have K0 : kA h [(282, .inl (7, [.ref 343, .int mi, .int shu, .int bus, .ref 283, .ref 284, .ref 285, .ref 286, .ref 287, .ref 288, .ref 289, .ref 290, .ref 291, .ref 292, .ref 293, .int lks, .ref 294, .ref 295, .ref 298])), (284, .inr (.inl (0, sta))), (285, .inr (.inl (0, ph))), (292, .inr (.inl (0, cm))), (343, .inl (2, [.int (nI S), .ref 344, .ref 345, .ref 346, .ref 347, .int (nI n), .ref 348, .ref 349, .ref 350, .ref 351, .ref 352, .ref 353, .ref 354, .int cel, .ref 355, .ref 356, .ref 357, .ref 358])), (351, .inr (.inl (0, tto))), (354, .inr (.inl (0, wei))), (358, .inr (.inl (0, lon)))] := ⟨CS.1, CS.2.2.1, CS.2.2.2.1, CS.2.2.2.2.2.2.2.2.2.2.1, CL.1, CL.2.2.2.2.2.2.1, CL.2.2.2.2.2.2.2.2.2.1, CL.2.2.2.2.2.2.2.2.2.2.2.2.2, trivial⟩
  refine j_V.mono (xd06_ok K0.K) ?_
  rintro rv h' ⟨rfl, rfl⟩
  exact ⟨by rw [x_pri V.1 V.2.1.1 V.2.1.2.2.2.2.1 V.2.1.2.2.2.2.2.1 V.2.2.1 Y], rfl⟩
theorem tq_stuck_343 {h : J_H} {n S d : Nat} {w : List Int32} (T : hS9 282 343 0 n S w h) (Y9 : hY9 343 n S w h) : j_V jP d 78 0 (lv_args 0 [.ref 282]) [] h (fun rv h' => rv = some (.int (m_isStuck w)) ∧ h' = h) := by
  refine hS9.opn T (fun mi shu bus lks rl pev rk sta ph sp ce du he ri us cm lf lkd row sea pms pmm pmt pst pwa prs prr pfa CS hl4 V => ?_)
  refine hY9.opn Y9 (fun cel run tra len siz frm tto lst slo wei fit way rid lon CL Y TT hlY => ?_)
  have K0 : kA h [(282, .inl (7, [.ref 343, .int mi, .int shu, .int bus, .ref 283, .ref 284, .ref 285, .ref 286, .ref 287, .ref 288, .ref 289, .ref 290, .ref 291, .ref 292, .ref 293, .int lks, .ref 294, .ref 295, .ref 298])), (285, .inr (.inl (0, ph))), (286, .inr (.inl (0, sp))), (290, .inr (.inl (0, ri))), (343, .inl (2, [.int (nI S), .ref 344, .ref 345, .ref 346, .ref 347, .int (nI n), .ref 348, .ref 349, .ref 350, .ref 351, .ref 352, .ref 353, .ref 354, .int cel, .ref 355, .ref 356, .ref 357, .ref 358])), (347, .inr (.inl (0, len))), (350, .inr (.inl (0, frm))), (351, .inr (.inl (0, tto))), (355, .inr (.inl (0, fit)))] := ⟨CS.1, CS.2.2.2.1, CS.2.2.2.2.1, CS.2.2.2.2.2.2.2.2.1, CL.1, CL.2.2.2.1, CL.2.2.2.2.2.1, CL.2.2.2.2.2.2.1, CL.2.2.2.2.2.2.2.2.2.2.1, trivial⟩
  refine j_V.mono (xd21_ok K0.K) ?_
  rintro rv h' ⟨rfl, rfl⟩
  exact ⟨by rw [x_stuck V.1.g V.2.1.1 V.2.1.2.1 V.2.2.2.1 V.2.1.2.2.1 Y], rfl⟩
theorem tq_use_343 {h : J_H} {n S d : Nat} {w : List Int32} (T : hS9 282 343 0 n S w h) (Y9 : hY9 343 n S w h) : j_V jP d 66 0 (lv_args 0 [.ref 282]) [] h (fun rv h' => rv = some (.int (m_allUse w)) ∧ h' = h) := by
  refine hS9.opn T (fun mi shu bus lks rl pev rk sta ph sp ce du he ri us cm lf lkd row sea pms pmm pmt pst pwa prs prr pfa CS hl4 V => ?_)
  refine hY9.opn Y9 (fun cel run tra len siz frm tto lst slo wei fit way rid lon CL Y TT hlY => ?_)
  have K0 : kA h [(282, .inl (7, [.ref 343, .int mi, .int shu, .int bus, .ref 283, .ref 284, .ref 285, .ref 286, .ref 287, .ref 288, .ref 289, .ref 290, .ref 291, .ref 292, .ref 293, .int lks, .ref 294, .ref 295, .ref 298])), (291, .inr (.inl (0, us)))] := ⟨CS.1, CS.2.2.2.2.2.2.2.2.2.1, trivial⟩
  refine j_V.mono (xd07_ok K0.K) ?_
  rintro rv h' ⟨rfl, rfl⟩
  exact ⟨by rw [x_use_n V.2.2.2.2.1], rfl⟩
theorem tq_safe_343 {h : J_H} {n S d : Nat} {w : List Int32} (T : hS9 282 343 0 n S w h) (Y9 : hY9 343 n S w h) : j_V jP d 76 0 (lv_args 0 [.ref 282]) [] h (fun rv h' => rv = some (.int (m_isSafe w n)) ∧ hS9 282 343 0 n S w h' ∧ ∀ x, (x < 282 ∨ 307 ≤ x) → h'[x]? = h[x]?) := by
  have T0 := T
  refine hS9.opn T (fun mi shu bus lks rl pev rk sta ph sp ce du he ri us cm lf lkd row sea pms pmm pmt pst pwa prs prr pfa CS hl4 V => ?_)
  refine hY9.opn Y9 (fun cel run tra len siz frm tto lst slo wei fit way rid lon CL Y TT hlY => ?_)
  have K0 : kA h [(282, .inl (7, [.ref 343, .int mi, .int shu, .int bus, .ref 283, .ref 284, .ref 285, .ref 286, .ref 287, .ref 288, .ref 289, .ref 290, .ref 291, .ref 292, .ref 293, .int lks, .ref 294, .ref 295, .ref 298])), (287, .inr (.inl (0, ce))), (295, .inl (5, [.ref 296, .int rl, .ref 297])), (296, .inr (.inl (0, row))), (297, .inr (.inl (0, sea))), (343, .inl (2, [.int (nI S), .ref 344, .ref 345, .ref 346, .ref 347, .int (nI n), .ref 348, .ref 349, .ref 350, .ref 351, .ref 352, .ref 353, .ref 354, .int cel, .ref 355, .ref 356, .ref 357, .ref 358])), (355, .inr (.inl (0, fit))), (356, .inr (.inl (0, way)))] := ⟨CS.1, CS.2.2.2.2.2.1, CS.2.2.2.2.2.2.2.2.2.2.2.2.2.1, CS.2.2.2.2.2.2.2.2.2.2.2.2.2.2.1, CS.2.2.2.2.2.2.2.2.2.2.2.2.2.2.2.1, CL.1, CL.2.2.2.2.2.2.2.2.2.2.1, CL.2.2.2.2.2.2.2.2.2.2.2.1, trivial⟩
  obtain ⟨sea', row', k', e1, e2, e3⟩ := x_safe (rl := rl) (tk := [0, 0, 0, 0, 0]) V.1.g V.1.D.1 V.2.1.1 V.2.2.2.1 Y V.2.2.2.2.2.2.2.1 V.2.2.2.2.2.2.2.2 rfl
  refine j_V.mono (xd40_ok K0.K) ?_
  rintro rv h' ⟨rfl, K⟩
  rw [e1] at K ⊢
  dsimp only at K ⊢
  have F : ∀ x, x ≠ 295 → x ≠ 296 → x ≠ 297 → h'[x]? = h[x]? := fun x g5 g6 g7 => KN.off K0 K (lke (lke (lkn (fun z => g5 z.symm) (lkn (fun z => g6 z.symm) (lkn (fun z => g7 z.symm) (lke (lke (lke rfl))))))))
  exact ⟨rfl, T0.sf (fun a _ _ h1 h2 h3 => F a h1 h2 h3) (K.at rfl) (K.at rfl) (K.at rfl) e2 e3.1, fun x h1 => F x (by omega) (by omega) (by omega)⟩

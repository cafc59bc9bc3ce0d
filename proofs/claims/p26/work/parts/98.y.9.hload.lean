/-! the class's load over the heap: written by wip/py/gen_hL.py -/
theorem jk_no {B x : Nat} (h1 : 29 < x) (h2 : x < B ∨ B + 16 ≤ x) : ∀ {k : jk_K}, k.all (fun q => Nat.ble q.1 29 || (Nat.ble B q.1 && Nat.ble (q.1 + 1) (B + 16))) = true → jk_lk k x = none
  | [], _ => rfl
  | q :: k, h => by
    obtain ⟨a, b⟩ := Bool.and_eq_true_iff.mp (show ((Nat.ble q.1 29 || (Nat.ble B q.1 && Nat.ble (q.1 + 1) (B + 16))) && k.all (fun q => Nat.ble q.1 29 || (Nat.ble B q.1 && Nat.ble (q.1 + 1) (B + 16)))) = true from h)
    have e : q.1 ≠ x := by
      rcases Bool.or_eq_true_iff.mp a with z | z
      · have := Nat.le_of_ble_eq_true z; omega
      · obtain ⟨z1, z2⟩ := Bool.and_eq_true_iff.mp z
        have := Nat.le_of_ble_eq_true z1
        have := Nat.le_of_ble_eq_true z2
        omega
    show (match Nat.beq q.1 x with | true => some q.2 | false => jk_lk k x) = none
    rw [jc_nbeq e]
    exact jk_no h1 h2 b
set_option maxRecDepth 100000 in
theorem hl_load_A {h : J_H} {n0 S0 aa e d : Nat} {w1 l fit way rid lon : List Int32} {sst en nx kd pl nu fa pb sx tx ce9 e9 a9 : Int32} {wo : Int64} {vb : Value} {s : rSP} {t : rTP} {C : rY} (R : hX 343 327 n0 S0 w1 sst h) (C29 : h[29]? = some (.inl (0, [.ref 30, .int e9, .int a9]))) (C1 : h[1]? = some (.inl (8, [.ref 2, .int (nI aa), .int en, .int nx, .int kd, .int pl, .long wo, .int nu]))) (C2 : h[2]? = some (.inr (.inl (1, l)))) (C3 : h[3]? = some (.inl (4, [.ref 1, vb, .int fa, .int pb]))) (N0 : h[327]? = some (.inl (2, [.int sx, .ref 328, .ref 329, .ref 330, .ref 331, .int tx, .ref 332, .ref 333, .ref 334, .ref 335, .ref 336, .ref 337, .ref 338, .int ce9, .ref 339, .ref 340, .ref 341, .ref 342]))) (N1 : h[328]? = some (.inr (.inr (.inl s.2.1)))) (N2 : h[329]? = some (.inr (.inl (0, s.2.2.1)))) (N3 : h[330]? = some (.inr (.inl (0, s.2.2.2.1)))) (N4 : h[331]? = some (.inr (.inl (0, s.2.2.2.2)))) (N5 : h[332]? = some (.inr (.inr (.inl t.2.1)))) (N6 : h[333]? = some (.inr (.inl (0, t.2.2.1)))) (N7 : h[334]? = some (.inr (.inl (0, t.2.2.2.1)))) (N8 : h[335]? = some (.inr (.inl (0, t.2.2.2.2.1)))) (N9 : h[336]? = some (.inr (.inl (0, t.2.2.2.2.2.1)))) (N10 : h[337]? = some (.inr (.inl (0, t.2.2.2.2.2.2.1)))) (N11 : h[338]? = some (.inr (.inl (0, t.2.2.2.2.2.2.2)))) (N12 : h[339]? = some (.inr (.inl (0, fit)))) (N13 : h[340]? = some (.inr (.inl (0, way)))) (N14 : h[341]? = some (.inr (.inl (0, rid)))) (N15 : h[342]? = some (.inr (.inl (0, lon)))) (hl : l.length = 700) (ha : e ≤ aa) (ha7 : aa ≤ 700) (hs : wS s) (ht : w9T t) (h1 : s.1 = 0) (h2 : t.1 = 0) (lf9 : fit.length = 5) (lw9 : way.length = 35) (lr9 : rid.length = 30) (lo9 : lon.length = 5) (hC : rdL l e (-1) (e + 1) (0, kd, pl, wo, nu) s t = C) : j_V jP (d + 1 + 1 + 1 + 1 + 1 + 1) 114 0 (lv_args 0 [.ref 0, .int (nI e)]) [] h (fun rv h' => (C.1.1 = 0 ∧ rv = some (.int (nI C.2.2.2.1)) ∧ (∀ rd : List Int32, rd.length = 602 → gN rd 202 = nI C.2.2.1.1 → gN rd 203 = nI C.2.2.2.1 → dR rd C.2.2.1 C.2.2.2 → wS C.2.2.1 → w9T C.2.2.2 → hX 327 343 C.2.2.2.1 C.2.2.1.1 (ldW C.2.2.2.1 rd) 0 h') ∧ h'[29]? = some (.inl (0, [.ref 30, .int e9, .int 0])) ∧ (h'[328]? = some (.inr (.inr (.inl C.2.2.1.2.1))) ∧ h'[332]? = some (.inr (.inr (.inl C.2.2.2.2.1)))) ∧ h'[3]? = some (.inl (4, [.ref 1, .ref 327, .int C.1.1, .int C.1.2])) ∧ ∀ x, 29 < x → (x < 327 ∨ 359 ≤ x) → h'[x]? = h[x]?) ∨ (C.1.1 ≠ 0 ∧ rv = some (.int (-1)) ∧ hX 343 327 n0 S0 w1 9 h' ∧ h'[3]? = some (.inl (4, [.ref 1, .ref 327, .int C.1.1, .int C.1.2])) ∧ ∀ x, 29 ≤ x → (x < 327 ∨ 343 ≤ x) → h'[x]? = h[x]?)) := by
  have R0 := R
  have c0 := R.1
  refine hX.opn R (fun mi shu bus lks rl pev rk sta ph sp ce du he ri us cm lf lkd row sea pms pmm pmt pst pwa prs prr pfa CS hl4 V cel0 run0 tra0 len0 siz0 frm0 tto0 lst0 slo0 wei0 fit0 way0 rid0 lon0 CL0 Y0 T0 hlY0 => ?_)
  have q := (V.2.2.2.2.2.1.on (show ¬ (1 : Int32) = 0 by decide)).1
  have g9 := V.2.1.2.2.2.2.2.2.resolve_left (show ¬ (1 : Int32) = 0 by decide)
  have K0 : kA h [(0, .inl (9, [.ref 1, .ref 3, .ref 4, .ref 29, .ref 281, .ref 325, .ref 343, .ref 327, .int sst])), (1, .inl (8, [.ref 2, .int (nI aa), .int en, .int nx, .int kd, .int pl, .long wo, .int nu])), (2, .inr (.inl (1, l))), (3, .inl (4, [.ref 1, vb, .int fa, .int pb])), (4, .inl (7, [.ref 343, .int mi, .int shu, .int bus, .ref 5, .ref 6, .ref 7, .ref 8, .ref 9, .ref 10, .ref 11, .ref 12, .ref 13, .ref 14, .ref 15, .int lks, .ref 16, .ref 17, .ref 20])), (5, .inr (.inl (0, rk))), (6, .inr (.inl (0, sta))), (7, .inr (.inl (0, ph))), (8, .inr (.inl (0, sp))), (9, .inr (.inl (0, ce))), (10, .inr (.inl (0, du))), (11, .inr (.inl (0, he))), (12, .inr (.inl (0, ri))), (13, .inr (.inl (0, us))), (14, .inr (.inl (0, cm))), (15, .inr (.inl (0, lf))), (20, .inl (3, [.ref 21, .ref 22, .ref 23, .ref 24, .ref 25, .ref 26, .ref 27, .ref 28, .int pev, .int 1])), (21, .inr (.inl (0, pms))), (22, .inr (.inl (0, pmm))), (23, .inr (.inl (0, pmt))), (24, .inr (.inl (0, pst))), (25, .inr (.inl (0, pwa))), (26, .inr (.inl (0, prs))), (29, .inl (0, [.ref 30, .int e9, .int a9])), (327, .inl (2, [.int sx, .ref 328, .ref 329, .ref 330, .ref 331, .int tx, .ref 332, .ref 333, .ref 334, .ref 335, .ref 336, .ref 337, .ref 338, .int ce9, .ref 339, .ref 340, .ref 341, .ref 342])), (328, .inr (.inr (.inl s.2.1))), (329, .inr (.inl (0, s.2.2.1))), (330, .inr (.inl (0, s.2.2.2.1))), (331, .inr (.inl (0, s.2.2.2.2))), (332, .inr (.inr (.inl t.2.1))), (333, .inr (.inl (0, t.2.2.1))), (334, .inr (.inl (0, t.2.2.2.1))), (335, .inr (.inl (0, t.2.2.2.2.1))), (336, .inr (.inl (0, t.2.2.2.2.2.1))), (337, .inr (.inl (0, t.2.2.2.2.2.2.1))), (338, .inr (.inl (0, t.2.2.2.2.2.2.2))), (339, .inr (.inl (0, fit))), (340, .inr (.inl (0, way))), (341, .inr (.inl (0, rid))), (342, .inr (.inl (0, lon)))] := ⟨c0, C1, C2, C3, CS.1, CS.2.1, CS.2.2.1, CS.2.2.2.1, CS.2.2.2.2.1, CS.2.2.2.2.2.1, CS.2.2.2.2.2.2.1, CS.2.2.2.2.2.2.2.1, CS.2.2.2.2.2.2.2.2.1, CS.2.2.2.2.2.2.2.2.2.1, CS.2.2.2.2.2.2.2.2.2.2.1, CS.2.2.2.2.2.2.2.2.2.2.2.1, CS.2.2.2.2.2.2.2.2.2.2.2.2.2.2.2.2.1, CS.2.2.2.2.2.2.2.2.2.2.2.2.2.2.2.2.2.1, CS.2.2.2.2.2.2.2.2.2.2.2.2.2.2.2.2.2.2.1, CS.2.2.2.2.2.2.2.2.2.2.2.2.2.2.2.2.2.2.2.1, CS.2.2.2.2.2.2.2.2.2.2.2.2.2.2.2.2.2.2.2.2.1, CS.2.2.2.2.2.2.2.2.2.2.2.2.2.2.2.2.2.2.2.2.2.1, CS.2.2.2.2.2.2.2.2.2.2.2.2.2.2.2.2.2.2.2.2.2.2.1, C29, N0, N1, N2, N3, N4, N5, N6, N7, N8, N9, N10, N11, N12, N13, N14, N15, trivial⟩
  refine j_V.mono (j_V.sm (xl2_okA (u := fun j => ([.ref 0, .ref 0, .ref 0, .ref 0, .ref 281, .ref 325, .ref 0, .ref 0, .int sst] : List Value).getD j .null) hl ha ha7 hs ht h1 h2 hC K0.K)) ?_
  rintro rv h' ⟨⟨z, rfl, K⟩ | ⟨z, rfl, K⟩, sm⟩
  · refine Or.inl ⟨z, rfl, fun rd r1 r2 r3 r4 r5 r6 => ?_, K.at (a := 29) rfl, ⟨K.at (a := 328) rfl, K.at (a := 332) rfl⟩, K.at (a := 3) rfl, fun x x1 x2 => K.2.1 x ?_⟩
    · have H : ldH C.2.2.2.1 C.2.2.1.1 rd C.2.2.1.2.1 C.2.2.2.2.1 C.2.2.1.2.2.1 C.2.2.1.2.2.2.1 C.2.2.1.2.2.2.2 C.2.2.2.2.2.1 C.2.2.2.2.2.2.1 C.2.2.2.2.2.2.2.1 C.2.2.2.2.2.2.2.2.1 C.2.2.2.2.2.2.2.2.2.1 C.2.2.2.2.2.2.2.2.2.2 := ⟨⟨r6.1, r5.1⟩, r1, r2, r3, r4⟩
      obtain ⟨c', f', d', l', y', eF, Y⟩ := se_qY (cel := ce9) H.qwf.g H.qlyT lf9 lw9 lr9 lo9
      have eF : xldF C fit way rid lon ce9 = (c', f', d', l', y') := eF
      rw [eF] at K
      have L0 : f'.length = _ := (sm.arr N12 (K.at (a := 339) rfl)).trans lf9
      have L1 : y'.length = _ := (sm.arr N13 (K.at (a := 340) rfl)).trans lw9
      have L2 : d'.length = _ := (sm.arr N14 (K.at (a := 341) rfl)).trans lr9
      have L3 : l'.length = _ := (sm.arr N15 (K.at (a := 342) rfl)).trans lo9
      refine ⟨K.at (a := 0) rfl, ⟨0, 0, 0, 0, rl, 0, _, _, _, _, _, _, _, _, _, _, _, lkd, row, sea, _, _, _, _, _, _, prr, pfa, ⟨K.at (a := 4) rfl, K.at (a := 5) rfl, K.at (a := 6) rfl, K.at (a := 7) rfl, K.at (a := 8) rfl, K.at (a := 9) rfl, K.at (a := 10) rfl, K.at (a := 11) rfl, K.at (a := 12) rfl, K.at (a := 13) rfl, K.at (a := 14) rfl, K.at (a := 15) rfl, (K.2.1 16 rfl).trans CS.2.2.2.2.2.2.2.2.2.2.2.2.1, (K.2.1 17 rfl).trans CS.2.2.2.2.2.2.2.2.2.2.2.2.2.1, (K.2.1 18 rfl).trans CS.2.2.2.2.2.2.2.2.2.2.2.2.2.2.1, (K.2.1 19 rfl).trans CS.2.2.2.2.2.2.2.2.2.2.2.2.2.2.2.1, K.at (a := 20) rfl, K.at (a := 21) rfl, K.at (a := 22) rfl, K.at (a := 23) rfl, K.at (a := 24) rfl, K.at (a := 25) rfl, K.at (a := 26) rfl, (K.2.1 27 rfl).trans CS.2.2.2.2.2.2.2.2.2.2.2.2.2.2.2.2.2.2.2.2.2.2.2.1, (K.2.1 28 rfl).trans CS.2.2.2.2.2.2.2.2.2.2.2.2.2.2.2.2.2.2.2.2.2.2.2.2⟩, ⟨?_, ?_, ?_, hl4.2.2.2⟩, H.qrV r6.2.2.2.2.2.2.2 hl4.1 hl4.2.1 V.2.1.1.1.1 V.2.1.1.1.2.1 V.2.1.1.1.2.2 V.2.1.2.2.2.1.1 hl4.2.2.1 V.2.1.2.2.1.1 V.2.2.2.2.1.1 V.2.1.2.2.2.2.1.1.1 V.2.1.2.2.2.2.1.1.2 q.1 q.2.1 q.2.2.1 q.2.2.2.1 q.2.2.2.2 g9.1.2.1 g9.1.2.2 g9.1.1 V.2.2.2.2.2.2.2.1 V.2.2.2.2.2.2.2.2⟩, c', _, _, _, _, _, _, _, _, _, f', y', d', l', ⟨K.at (a := 327) rfl, K.at (a := 329) rfl, K.at (a := 330) rfl, K.at (a := 331) rfl, K.at (a := 333) rfl, K.at (a := 334) rfl, K.at (a := 335) rfl, K.at (a := 336) rfl, K.at (a := 337) rfl, K.at (a := 338) rfl, K.at (a := 339) rfl, K.at (a := 340) rfl, K.at (a := 341) rfl, K.at (a := 342) rfl⟩, Y, H.qlyT, ⟨r5.2.2.1, r5.2.2.2.1, r5.2.2.2.2, r6.2.2.1, r6.2.2.2.1, r6.2.2.2.2.1, r6.2.2.2.2.2.1, r6.2.2.2.2.2.2.1, r6.2.2.2.2.2.2.2, L0, L1, L2, L3⟩⟩
      · exact (rw_all H.1.1 hl4.1 (fun t ht => by
          obtain ⟨y, y1, y2, y3⟩ := (H.qtr ht).2.2.2.2.1
          exact y3.trans y2.symm)).1
      · rw [aC_len]; exact hl4.2.1
      · rw [fL_len (by omega)]; exact hl4.2.2.1
    · exact jk_no (B := 327) (by omega) (by omega) rfl
  · refine Or.inr ⟨z, rfl, ⟨K.at (a := 0) rfl, R0.2.1.fr (fun x x1 x2 => KN.off K0 K ?_), R0.2.2.fr (fun x x1 x2 => K.2.1 x ?_)⟩, K.at (a := 3) rfl, fun x x1 x2 => ?_⟩
    · rw [show x = 4 + (x - 4) by omega]
      have hx : x - 4 < 25 := by omega
      generalize x - 4 = k at hx
      match k, hx with
      | 0, _ => rfl
      | 1, _ => rfl
      | 2, _ => rfl
      | 3, _ => rfl
      | 4, _ => rfl
      | 5, _ => rfl
      | 6, _ => rfl
      | 7, _ => rfl
      | 8, _ => rfl
      | 9, _ => rfl
      | 10, _ => rfl
      | 11, _ => rfl
      | 12, _ => rfl
      | 13, _ => rfl
      | 14, _ => rfl
      | 15, _ => rfl
      | 16, _ => rfl
      | 17, _ => rfl
      | 18, _ => rfl
      | 19, _ => rfl
      | 20, _ => rfl
      | 21, _ => rfl
      | 22, _ => rfl
      | 23, _ => rfl
      | 24, _ => rfl
      | k + 25, hk => exact absurd hk (by omega)
    · exact jk_no (B := 327) (by omega) (by omega) rfl
    · by_cases g : x = 29
      · rw [g, K.at (a := 29) rfl]; exact C29.symm
      · exact K.2.1 x (jk_no (B := 327) (by omega) (by omega) rfl)
set_option maxRecDepth 100000 in
theorem hl_load_B {h : J_H} {n0 S0 aa e d : Nat} {w1 l fit way rid lon : List Int32} {sst en nx kd pl nu fa pb sx tx ce9 e9 a9 : Int32} {wo : Int64} {vb : Value} {s : rSP} {t : rTP} {C : rY} (R : hX 327 343 n0 S0 w1 sst h) (C29 : h[29]? = some (.inl (0, [.ref 30, .int e9, .int a9]))) (C1 : h[1]? = some (.inl (8, [.ref 2, .int (nI aa), .int en, .int nx, .int kd, .int pl, .long wo, .int nu]))) (C2 : h[2]? = some (.inr (.inl (1, l)))) (C3 : h[3]? = some (.inl (4, [.ref 1, vb, .int fa, .int pb]))) (N0 : h[343]? = some (.inl (2, [.int sx, .ref 344, .ref 345, .ref 346, .ref 347, .int tx, .ref 348, .ref 349, .ref 350, .ref 351, .ref 352, .ref 353, .ref 354, .int ce9, .ref 355, .ref 356, .ref 357, .ref 358]))) (N1 : h[344]? = some (.inr (.inr (.inl s.2.1)))) (N2 : h[345]? = some (.inr (.inl (0, s.2.2.1)))) (N3 : h[346]? = some (.inr (.inl (0, s.2.2.2.1)))) (N4 : h[347]? = some (.inr (.inl (0, s.2.2.2.2)))) (N5 : h[348]? = some (.inr (.inr (.inl t.2.1)))) (N6 : h[349]? = some (.inr (.inl (0, t.2.2.1)))) (N7 : h[350]? = some (.inr (.inl (0, t.2.2.2.1)))) (N8 : h[351]? = some (.inr (.inl (0, t.2.2.2.2.1)))) (N9 : h[352]? = some (.inr (.inl (0, t.2.2.2.2.2.1)))) (N10 : h[353]? = some (.inr (.inl (0, t.2.2.2.2.2.2.1)))) (N11 : h[354]? = some (.inr (.inl (0, t.2.2.2.2.2.2.2)))) (N12 : h[355]? = some (.inr (.inl (0, fit)))) (N13 : h[356]? = some (.inr (.inl (0, way)))) (N14 : h[357]? = some (.inr (.inl (0, rid)))) (N15 : h[358]? = some (.inr (.inl (0, lon)))) (hl : l.length = 700) (ha : e ≤ aa) (ha7 : aa ≤ 700) (hs : wS s) (ht : w9T t) (h1 : s.1 = 0) (h2 : t.1 = 0) (lf9 : fit.length = 5) (lw9 : way.length = 35) (lr9 : rid.length = 30) (lo9 : lon.length = 5) (hC : rdL l e (-1) (e + 1) (0, kd, pl, wo, nu) s t = C) : j_V jP (d + 1 + 1 + 1 + 1 + 1 + 1) 114 0 (lv_args 0 [.ref 0, .int (nI e)]) [] h (fun rv h' => (C.1.1 = 0 ∧ rv = some (.int (nI C.2.2.2.1)) ∧ (∀ rd : List Int32, rd.length = 602 → gN rd 202 = nI C.2.2.1.1 → gN rd 203 = nI C.2.2.2.1 → dR rd C.2.2.1 C.2.2.2 → wS C.2.2.1 → w9T C.2.2.2 → hX 343 327 C.2.2.2.1 C.2.2.1.1 (ldW C.2.2.2.1 rd) 0 h') ∧ h'[29]? = some (.inl (0, [.ref 30, .int e9, .int 0])) ∧ (h'[344]? = some (.inr (.inr (.inl C.2.2.1.2.1))) ∧ h'[348]? = some (.inr (.inr (.inl C.2.2.2.2.1)))) ∧ h'[3]? = some (.inl (4, [.ref 1, .ref 343, .int C.1.1, .int C.1.2])) ∧ ∀ x, 29 < x → (x < 327 ∨ 359 ≤ x) → h'[x]? = h[x]?) ∨ (C.1.1 ≠ 0 ∧ rv = some (.int (-1)) ∧ hX 327 343 n0 S0 w1 9 h' ∧ h'[3]? = some (.inl (4, [.ref 1, .ref 343, .int C.1.1, .int C.1.2])) ∧ ∀ x, 29 ≤ x → (x < 343 ∨ 359 ≤ x) → h'[x]? = h[x]?)) := by
  have R0 := R
  have c0 := R.1
  refine hX.opn R (fun mi shu bus lks rl pev rk sta ph sp ce du he ri us cm lf lkd row sea pms pmm pmt pst pwa prs prr pfa CS hl4 V cel0 run0 tra0 len0 siz0 frm0 tto0 lst0 slo0 wei0 fit0 way0 rid0 lon0 CL0 Y0 T0 hlY0 => ?_)
  have q := (V.2.2.2.2.2.1.on (show ¬ (1 : Int32) = 0 by decide)).1
  have g9 := V.2.1.2.2.2.2.2.2.resolve_left (show ¬ (1 : Int32) = 0 by decide)
  have K0 : kA h [(0, .inl (9, [.ref 1, .ref 3, .ref 4, .ref 29, .ref 281, .ref 325, .ref 327, .ref 343, .int sst])), (1, .inl (8, [.ref 2, .int (nI aa), .int en, .int nx, .int kd, .int pl, .long wo, .int nu])), (2, .inr (.inl (1, l))), (3, .inl (4, [.ref 1, vb, .int fa, .int pb])), (4, .inl (7, [.ref 327, .int mi, .int shu, .int bus, .ref 5, .ref 6, .ref 7, .ref 8, .ref 9, .ref 10, .ref 11, .ref 12, .ref 13, .ref 14, .ref 15, .int lks, .ref 16, .ref 17, .ref 20])), (5, .inr (.inl (0, rk))), (6, .inr (.inl (0, sta))), (7, .inr (.inl (0, ph))), (8, .inr (.inl (0, sp))), (9, .inr (.inl (0, ce))), (10, .inr (.inl (0, du))), (11, .inr (.inl (0, he))), (12, .inr (.inl (0, ri))), (13, .inr (.inl (0, us))), (14, .inr (.inl (0, cm))), (15, .inr (.inl (0, lf))), (20, .inl (3, [.ref 21, .ref 22, .ref 23, .ref 24, .ref 25, .ref 26, .ref 27, .ref 28, .int pev, .int 1])), (21, .inr (.inl (0, pms))), (22, .inr (.inl (0, pmm))), (23, .inr (.inl (0, pmt))), (24, .inr (.inl (0, pst))), (25, .inr (.inl (0, pwa))), (26, .inr (.inl (0, prs))), (29, .inl (0, [.ref 30, .int e9, .int a9])), (343, .inl (2, [.int sx, .ref 344, .ref 345, .ref 346, .ref 347, .int tx, .ref 348, .ref 349, .ref 350, .ref 351, .ref 352, .ref 353, .ref 354, .int ce9, .ref 355, .ref 356, .ref 357, .ref 358])), (344, .inr (.inr (.inl s.2.1))), (345, .inr (.inl (0, s.2.2.1))), (346, .inr (.inl (0, s.2.2.2.1))), (347, .inr (.inl (0, s.2.2.2.2))), (348, .inr (.inr (.inl t.2.1))), (349, .inr (.inl (0, t.2.2.1))), (350, .inr (.inl (0, t.2.2.2.1))), (351, .inr (.inl (0, t.2.2.2.2.1))), (352, .inr (.inl (0, t.2.2.2.2.2.1))), (353, .inr (.inl (0, t.2.2.2.2.2.2.1))), (354, .inr (.inl (0, t.2.2.2.2.2.2.2))), (355, .inr (.inl (0, fit))), (356, .inr (.inl (0, way))), (357, .inr (.inl (0, rid))), (358, .inr (.inl (0, lon)))] := ⟨c0, C1, C2, C3, CS.1, CS.2.1, CS.2.2.1, CS.2.2.2.1, CS.2.2.2.2.1, CS.2.2.2.2.2.1, CS.2.2.2.2.2.2.1, CS.2.2.2.2.2.2.2.1, CS.2.2.2.2.2.2.2.2.1, CS.2.2.2.2.2.2.2.2.2.1, CS.2.2.2.2.2.2.2.2.2.2.1, CS.2.2.2.2.2.2.2.2.2.2.2.1, CS.2.2.2.2.2.2.2.2.2.2.2.2.2.2.2.2.1, CS.2.2.2.2.2.2.2.2.2.2.2.2.2.2.2.2.2.1, CS.2.2.2.2.2.2.2.2.2.2.2.2.2.2.2.2.2.2.1, CS.2.2.2.2.2.2.2.2.2.2.2.2.2.2.2.2.2.2.2.1, CS.2.2.2.2.2.2.2.2.2.2.2.2.2.2.2.2.2.2.2.2.1, CS.2.2.2.2.2.2.2.2.2.2.2.2.2.2.2.2.2.2.2.2.2.1, CS.2.2.2.2.2.2.2.2.2.2.2.2.2.2.2.2.2.2.2.2.2.2.1, C29, N0, N1, N2, N3, N4, N5, N6, N7, N8, N9, N10, N11, N12, N13, N14, N15, trivial⟩
  refine j_V.mono (j_V.sm (xl2_okB (u := fun j => ([.ref 0, .ref 0, .ref 0, .ref 0, .ref 281, .ref 325, .ref 0, .ref 0, .int sst] : List Value).getD j .null) hl ha ha7 hs ht h1 h2 hC K0.K)) ?_
  rintro rv h' ⟨⟨z, rfl, K⟩ | ⟨z, rfl, K⟩, sm⟩
  · refine Or.inl ⟨z, rfl, fun rd r1 r2 r3 r4 r5 r6 => ?_, K.at (a := 29) rfl, ⟨K.at (a := 344) rfl, K.at (a := 348) rfl⟩, K.at (a := 3) rfl, fun x x1 x2 => K.2.1 x ?_⟩
    · have H : ldH C.2.2.2.1 C.2.2.1.1 rd C.2.2.1.2.1 C.2.2.2.2.1 C.2.2.1.2.2.1 C.2.2.1.2.2.2.1 C.2.2.1.2.2.2.2 C.2.2.2.2.2.1 C.2.2.2.2.2.2.1 C.2.2.2.2.2.2.2.1 C.2.2.2.2.2.2.2.2.1 C.2.2.2.2.2.2.2.2.2.1 C.2.2.2.2.2.2.2.2.2.2 := ⟨⟨r6.1, r5.1⟩, r1, r2, r3, r4⟩
      obtain ⟨c', f', d', l', y', eF, Y⟩ := se_qY (cel := ce9) H.qwf.g H.qlyT lf9 lw9 lr9 lo9
      have eF : xldF C fit way rid lon ce9 = (c', f', d', l', y') := eF
      rw [eF] at K
      have L0 : f'.length = _ := (sm.arr N12 (K.at (a := 355) rfl)).trans lf9
      have L1 : y'.length = _ := (sm.arr N13 (K.at (a := 356) rfl)).trans lw9
      have L2 : d'.length = _ := (sm.arr N14 (K.at (a := 357) rfl)).trans lr9
      have L3 : l'.length = _ := (sm.arr N15 (K.at (a := 358) rfl)).trans lo9
      refine ⟨K.at (a := 0) rfl, ⟨0, 0, 0, 0, rl, 0, _, _, _, _, _, _, _, _, _, _, _, lkd, row, sea, _, _, _, _, _, _, prr, pfa, ⟨K.at (a := 4) rfl, K.at (a := 5) rfl, K.at (a := 6) rfl, K.at (a := 7) rfl, K.at (a := 8) rfl, K.at (a := 9) rfl, K.at (a := 10) rfl, K.at (a := 11) rfl, K.at (a := 12) rfl, K.at (a := 13) rfl, K.at (a := 14) rfl, K.at (a := 15) rfl, (K.2.1 16 rfl).trans CS.2.2.2.2.2.2.2.2.2.2.2.2.1, (K.2.1 17 rfl).trans CS.2.2.2.2.2.2.2.2.2.2.2.2.2.1, (K.2.1 18 rfl).trans CS.2.2.2.2.2.2.2.2.2.2.2.2.2.2.1, (K.2.1 19 rfl).trans CS.2.2.2.2.2.2.2.2.2.2.2.2.2.2.2.1, K.at (a := 20) rfl, K.at (a := 21) rfl, K.at (a := 22) rfl, K.at (a := 23) rfl, K.at (a := 24) rfl, K.at (a := 25) rfl, K.at (a := 26) rfl, (K.2.1 27 rfl).trans CS.2.2.2.2.2.2.2.2.2.2.2.2.2.2.2.2.2.2.2.2.2.2.2.1, (K.2.1 28 rfl).trans CS.2.2.2.2.2.2.2.2.2.2.2.2.2.2.2.2.2.2.2.2.2.2.2.2⟩, ⟨?_, ?_, ?_, hl4.2.2.2⟩, H.qrV r6.2.2.2.2.2.2.2 hl4.1 hl4.2.1 V.2.1.1.1.1 V.2.1.1.1.2.1 V.2.1.1.1.2.2 V.2.1.2.2.2.1.1 hl4.2.2.1 V.2.1.2.2.1.1 V.2.2.2.2.1.1 V.2.1.2.2.2.2.1.1.1 V.2.1.2.2.2.2.1.1.2 q.1 q.2.1 q.2.2.1 q.2.2.2.1 q.2.2.2.2 g9.1.2.1 g9.1.2.2 g9.1.1 V.2.2.2.2.2.2.2.1 V.2.2.2.2.2.2.2.2⟩, c', _, _, _, _, _, _, _, _, _, f', y', d', l', ⟨K.at (a := 343) rfl, K.at (a := 345) rfl, K.at (a := 346) rfl, K.at (a := 347) rfl, K.at (a := 349) rfl, K.at (a := 350) rfl, K.at (a := 351) rfl, K.at (a := 352) rfl, K.at (a := 353) rfl, K.at (a := 354) rfl, K.at (a := 355) rfl, K.at (a := 356) rfl, K.at (a := 357) rfl, K.at (a := 358) rfl⟩, Y, H.qlyT, ⟨r5.2.2.1, r5.2.2.2.1, r5.2.2.2.2, r6.2.2.1, r6.2.2.2.1, r6.2.2.2.2.1, r6.2.2.2.2.2.1, r6.2.2.2.2.2.2.1, r6.2.2.2.2.2.2.2, L0, L1, L2, L3⟩⟩
      · exact (rw_all H.1.1 hl4.1 (fun t ht => by
          obtain ⟨y, y1, y2, y3⟩ := (H.qtr ht).2.2.2.2.1
          exact y3.trans y2.symm)).1
      · rw [aC_len]; exact hl4.2.1
      · rw [fL_len (by omega)]; exact hl4.2.2.1
    · exact jk_no (B := 343) (by omega) (by omega) rfl
  · refine Or.inr ⟨z, rfl, ⟨K.at (a := 0) rfl, R0.2.1.fr (fun x x1 x2 => KN.off K0 K ?_), R0.2.2.fr (fun x x1 x2 => K.2.1 x ?_)⟩, K.at (a := 3) rfl, fun x x1 x2 => ?_⟩
    · rw [show x = 4 + (x - 4) by omega]
      have hx : x - 4 < 25 := by omega
      generalize x - 4 = k at hx
      match k, hx with
      | 0, _ => rfl
      | 1, _ => rfl
      | 2, _ => rfl
      | 3, _ => rfl
      | 4, _ => rfl
      | 5, _ => rfl
      | 6, _ => rfl
      | 7, _ => rfl
      | 8, _ => rfl
      | 9, _ => rfl
      | 10, _ => rfl
      | 11, _ => rfl
      | 12, _ => rfl
      | 13, _ => rfl
      | 14, _ => rfl
      | 15, _ => rfl
      | 16, _ => rfl
      | 17, _ => rfl
      | 18, _ => rfl
      | 19, _ => rfl
      | 20, _ => rfl
      | 21, _ => rfl
      | 22, _ => rfl
      | 23, _ => rfl
      | 24, _ => rfl
      | k + 25, hk => exact absurd hk (by omega)
    · exact jk_no (B := 343) (by omega) (by omega) rfl
    · by_cases g : x = 29
      · rw [g, K.at (a := 29) rfl]; exact C29.symm
      · exact K.2.1 x (jk_no (B := 343) (by omega) (by omega) rfl)

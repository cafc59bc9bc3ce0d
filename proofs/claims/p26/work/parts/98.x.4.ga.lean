/-! queries over the heap, both sides: written by wip/px/gen_h1.py -/
/-- the class's object, its state now, the layout told -/
def hX (L L' n S : Nat) (w : List Int32) (sst : Int32) (h : J_H) : Prop := h[0]? = some (.inl (9, [.ref 1, .ref 3, .ref 4, .ref 29, .ref 281, .ref 325, .ref L, .ref L', .int sst])) ∧ hS9 4 L 1 n S w h ∧ hY9 L n S w h
theorem hX.st {L L' n S : Nat} {w : List Int32} {sst st : Int32} {h h' : J_H} (R : hX L L' n S w sst h) (F : ∀ a, a ≠ 0 → h'[a]? = h[a]?) (c : h'[0]? = some (.inl (9, [.ref 1, .ref 3, .ref 4, .ref 29, .ref 281, .ref 325, .ref L, .ref L', .int st]))) (hL : 28 < L := by decide) : hX L L' n S w st h' :=
  ⟨c, R.2.1.fr (fun a h1 h2 => F a (by omega)), R.2.2.fr (fun a h1 h2 => F a (by omega))⟩
theorem hX.sf {L L' n S : Nat} {w : List Int32} {sst st rl' : Int32} {row' sea' : List Int32} {h h' : J_H} (R : hX L L' n S w sst h) (F : ∀ a, a ≠ 0 ∧ a ≠ 17 ∧ a ≠ 18 ∧ a ≠ 19 → h'[a]? = h[a]?) (c : h'[0]? = some (.inl (9, [.ref 1, .ref 3, .ref 4, .ref 29, .ref 281, .ref 325, .ref L, .ref L', .int st]))) (c1 : h'[17]? = some (.inl (5, [.ref 18, .int rl', .ref 19]))) (c2 : h'[18]? = some (.inr (.inl (0, row')))) (c3 : h'[19]? = some (.inr (.inl (0, sea')))) (l1 : sea'.length = 5) (l2 : row'.length = 5) (hL : 28 < L := by decide) : hX L L' n S w st h' :=
  ⟨c, R.2.1.sf (fun a h1 h2 h3 h4 h5 => F a (by omega)) c1 c2 c3 l1 l2, R.2.2.fr (fun a h1 h2 => F a (by omega))⟩
theorem hX.opn {L L' n S : Nat} {w : List Int32} {sst : Int32} {h : J_H} {P : Prop} (R : hX L L' n S w sst h) (k : ∀ (mi shu bus lks rl pev : Int32) (rk sta ph sp ce du he ri us cm lf lkd row sea pms pmm pmt pst pwa prs prr pfa : List Int32), hSc 4 h (.ref L) mi shu bus lks rl pev 1 rk sta ph sp ce du he ri us cm lf lkd row sea pms pmm pmt pst pwa prs prr pfa → (rk.length = 5 ∧ sta.length = 5 ∧ he.length = 5 ∧ lkd.length = 12) → rV n S w shu lks rk sta he lkd 1 sea row bus ph sp ce du ri cm lf pfa pev prs prr mi us pms pmm pmt pst pwa → ∀ (cel : Int32) (run tra len siz frm tto lst slo wei fit way rid lon : List Int32), hYc L h (nI S) (nI n) cel run tra len siz frm tto lst slo wei fit way rid lon → qY n S w tra len frm tto wei fit way rid lon cel → lyT n S w run tra len siz frm tto slo wei → (run.length = 7 ∧ tra.length = 7 ∧ len.length = 21 ∧ siz.length = 5 ∧ frm.length = 5 ∧ tto.length = 5 ∧ lst.length = 5 ∧ slo.length = 5 ∧ wei.length = 5 ∧ fit.length = 5 ∧ way.length = 35 ∧ rid.length = 30 ∧ lon.length = 5) → P) : P := by
  obtain ⟨-, ⟨mi, shu, bus, lks, rl, pev, rk, sta, ph, sp, ce, du, he, ri, us, cm, lf, lkd, row, sea, pms, pmm, pmt, pst, pwa, prs, prr, pfa, CS, l, V⟩, cel, run, tra, len, siz, frm, tto, lst, slo, wei, fit, way, rid, lon, CL, Y, T, l2⟩ := R
  exact k mi shu bus lks rl pev rk sta ph sp ce du he ri us cm lf lkd row sea pms pmm pmt pst pwa prs prr pfa CS l V cel run tra len siz frm tto lst slo wei fit way rid lon CL Y T l2
theorem ga_time_A {h : J_H} {n S m D d : Nat} {w tk : List Int32} {sst th sst' acne acs : Int32} (R : hX 327 343 n S w sst h) (X : wX n S w m D) (hb : m < 2 ^ 30 ∧ D < 2 ^ 30) (x1 : Int32) (x2 : Int32) (x3 : Int32) : j_V jP d 129 0 (lv_args 0 [.ref 0, .int x1, .int x2, .int x3]) [] h (fun rv h' => ∃ v st, rv = some (.int v) ∧ (v = (m_qtime th sst' w x1 x2 x3).1 ∧ st = (m_qtime th sst' w x1 x2 x3).2.2) ∧ hX 327 343 n S w st h' ∧ (∀ a, a ≠ 0 → h'[a]? = h[a]?)) := by
  have R0 := R
  have C0 := R.1
  refine hX.opn R (fun mi shu bus lks rl pev rk sta ph sp ce du he ri us cm lf lkd row sea pms pmm pmt pst pwa prs prr pfa CS hl4 V cel run tra len siz frm tto lst slo wei fit way rid lon CL Y T hlY => ?_)
  have E := eq_time (th := th) (sst' := sst') (sst := sst) V.1.g V.2.1.2.2.2.2.1 x1 x2 x3
  have K0 : kA h [(0, .inl (9, [.ref 1, .ref 3, .ref 4, .ref 29, .ref 281, .ref 325, .ref 327, .ref 343, .int sst])), (4, .inl (7, [.ref 327, .int mi, .int shu, .int bus, .ref 5, .ref 6, .ref 7, .ref 8, .ref 9, .ref 10, .ref 11, .ref 12, .ref 13, .ref 14, .ref 15, .int lks, .ref 16, .ref 17, .ref 20])), (14, .inr (.inl (0, cm))), (15, .inr (.inl (0, lf))), (327, .inl (2, [.int (nI S), .ref 328, .ref 329, .ref 330, .ref 331, .int (nI n), .ref 332, .ref 333, .ref 334, .ref 335, .ref 336, .ref 337, .ref 338, .int cel, .ref 339, .ref 340, .ref 341, .ref 342]))] := ⟨C0, CS.1, CS.2.2.2.2.2.2.2.2.2.2.1, CS.2.2.2.2.2.2.2.2.2.2.2.1, CL.1, trivial⟩
  refine j_V.mono (xa59_ok K0.K) ?_
  rintro rv h' ⟨rfl, K⟩
  have F : (∀ a, a ≠ 0 → h'[a]? = h[a]?) := fun a ha => KN.off K0 K (lkn (fun z => ha z.symm) (lke (lke (lke (lke rfl)))))
  exact ⟨_, _, rfl, ⟨E.1, E.2⟩, R0.st F (K.at rfl), F⟩
theorem ga_time_B {h : J_H} {n S m D d : Nat} {w tk : List Int32} {sst th sst' acne acs : Int32} (R : hX 343 327 n S w sst h) (X : wX n S w m D) (hb : m < 2 ^ 30 ∧ D < 2 ^ 30) (x1 : Int32) (x2 : Int32) (x3 : Int32) : j_V jP d 129 0 (lv_args 0 [.ref 0, .int x1, .int x2, .int x3]) [] h (fun rv h' => ∃ v st, rv = some (.int v) ∧ (v = (m_qtime th sst' w x1 x2 x3).1 ∧ st = (m_qtime th sst' w x1 x2 x3).2.2) ∧ hX 343 327 n S w st h' ∧ (∀ a, a ≠ 0 → h'[a]? = h[a]?)) := by
  have R0 := R
  have C0 := R.1
  refine hX.opn R (fun mi shu bus lks rl pev rk sta ph sp ce du he ri us cm lf lkd row sea pms pmm pmt pst pwa prs prr pfa CS hl4 V cel run tra len siz frm tto lst slo wei fit way rid lon CL Y T hlY => ?_)
  have E := eq_time (th := th) (sst' := sst') (sst := sst) V.1.g V.2.1.2.2.2.2.1 x1 x2 x3
  have K0 : kA h [(0, .inl (9, [.ref 1, .ref 3, .ref 4, .ref 29, .ref 281, .ref 325, .ref 343, .ref 327, .int sst])), (4, .inl (7, [.ref 343, .int mi, .int shu, .int bus, .ref 5, .ref 6, .ref 7, .ref 8, .ref 9, .ref 10, .ref 11, .ref 12, .ref 13, .ref 14, .ref 15, .int lks, .ref 16, .ref 17, .ref 20])), (14, .inr (.inl (0, cm))), (15, .inr (.inl (0, lf))), (343, .inl (2, [.int (nI S), .ref 344, .ref 345, .ref 346, .ref 347, .int (nI n), .ref 348, .ref 349, .ref 350, .ref 351, .ref 352, .ref 353, .ref 354, .int cel, .ref 355, .ref 356, .ref 357, .ref 358]))] := ⟨C0, CS.1, CS.2.2.2.2.2.2.2.2.2.2.1, CS.2.2.2.2.2.2.2.2.2.2.2.1, CL.1, trivial⟩
  refine j_V.mono (xb59_ok K0.K) ?_
  rintro rv h' ⟨rfl, K⟩
  have F : (∀ a, a ≠ 0 → h'[a]? = h[a]?) := fun a ha => KN.off K0 K (lkn (fun z => ha z.symm) (lke (lke (lke (lke rfl)))))
  exact ⟨_, _, rfl, ⟨E.1, E.2⟩, R0.st F (K.at rfl), F⟩
theorem ga_section_A {h : J_H} {n S m D d : Nat} {w tk : List Int32} {sst th sst' acne acs : Int32} (R : hX 327 343 n S w sst h) (X : wX n S w m D) (hb : m < 2 ^ 30 ∧ D < 2 ^ 30) (x1 : Int32) : j_V jP d 128 0 (lv_args 0 [.ref 0, .int x1]) [] h (fun rv h' => ∃ v st, rv = some (.int v) ∧ (v = (m_qsection th sst' w x1).1 ∧ st = (m_qsection th sst' w x1).2.2) ∧ hX 327 343 n S w st h' ∧ (∀ a, a ≠ 0 → h'[a]? = h[a]?)) := by
  have R0 := R
  have C0 := R.1
  refine hX.opn R (fun mi shu bus lks rl pev rk sta ph sp ce du he ri us cm lf lkd row sea pms pmm pmt pst pwa prs prr pfa CS hl4 V cel run tra len siz frm tto lst slo wei fit way rid lon CL Y T hlY => ?_)
  have E := eq_section (th := th) (sst' := sst') (sst := sst) V.1.g V.2.1.2.2.1 x1
  have K0 : kA h [(0, .inl (9, [.ref 1, .ref 3, .ref 4, .ref 29, .ref 281, .ref 325, .ref 327, .ref 343, .int sst])), (4, .inl (7, [.ref 327, .int mi, .int shu, .int bus, .ref 5, .ref 6, .ref 7, .ref 8, .ref 9, .ref 10, .ref 11, .ref 12, .ref 13, .ref 14, .ref 15, .int lks, .ref 16, .ref 17, .ref 20])), (12, .inr (.inl (0, ri))), (327, .inl (2, [.int (nI S), .ref 328, .ref 329, .ref 330, .ref 331, .int (nI n), .ref 332, .ref 333, .ref 334, .ref 335, .ref 336, .ref 337, .ref 338, .int cel, .ref 339, .ref 340, .ref 341, .ref 342]))] := ⟨C0, CS.1, CS.2.2.2.2.2.2.2.2.1, CL.1, trivial⟩
  refine j_V.mono (xa58_ok K0.K) ?_
  rintro rv h' ⟨rfl, K⟩
  have F : (∀ a, a ≠ 0 → h'[a]? = h[a]?) := fun a ha => KN.off K0 K (lkn (fun z => ha z.symm) (lke (lke (lke rfl))))
  exact ⟨_, _, rfl, ⟨E.1, E.2⟩, R0.st F (K.at rfl), F⟩
theorem ga_section_B {h : J_H} {n S m D d : Nat} {w tk : List Int32} {sst th sst' acne acs : Int32} (R : hX 343 327 n S w sst h) (X : wX n S w m D) (hb : m < 2 ^ 30 ∧ D < 2 ^ 30) (x1 : Int32) : j_V jP d 128 0 (lv_args 0 [.ref 0, .int x1]) [] h (fun rv h' => ∃ v st, rv = some (.int v) ∧ (v = (m_qsection th sst' w x1).1 ∧ st = (m_qsection th sst' w x1).2.2) ∧ hX 343 327 n S w st h' ∧ (∀ a, a ≠ 0 → h'[a]? = h[a]?)) := by
  have R0 := R
  have C0 := R.1
  refine hX.opn R (fun mi shu bus lks rl pev rk sta ph sp ce du he ri us cm lf lkd row sea pms pmm pmt pst pwa prs prr pfa CS hl4 V cel run tra len siz frm tto lst slo wei fit way rid lon CL Y T hlY => ?_)
  have E := eq_section (th := th) (sst' := sst') (sst := sst) V.1.g V.2.1.2.2.1 x1
  have K0 : kA h [(0, .inl (9, [.ref 1, .ref 3, .ref 4, .ref 29, .ref 281, .ref 325, .ref 343, .ref 327, .int sst])), (4, .inl (7, [.ref 343, .int mi, .int shu, .int bus, .ref 5, .ref 6, .ref 7, .ref 8, .ref 9, .ref 10, .ref 11, .ref 12, .ref 13, .ref 14, .ref 15, .int lks, .ref 16, .ref 17, .ref 20])), (12, .inr (.inl (0, ri))), (343, .inl (2, [.int (nI S), .ref 344, .ref 345, .ref 346, .ref 347, .int (nI n), .ref 348, .ref 349, .ref 350, .ref 351, .ref 352, .ref 353, .ref 354, .int cel, .ref 355, .ref 356, .ref 357, .ref 358]))] := ⟨C0, CS.1, CS.2.2.2.2.2.2.2.2.1, CL.1, trivial⟩
  refine j_V.mono (xb58_ok K0.K) ?_
  rintro rv h' ⟨rfl, K⟩
  have F : (∀ a, a ≠ 0 → h'[a]? = h[a]?) := fun a ha => KN.off K0 K (lkn (fun z => ha z.symm) (lke (lke (lke rfl))))
  exact ⟨_, _, rfl, ⟨E.1, E.2⟩, R0.st F (K.at rfl), F⟩
theorem ga_use_A {h : J_H} {n S m D d : Nat} {w tk : List Int32} {sst th sst' acne acs : Int32} (R : hX 327 343 n S w sst h) (X : wX n S w m D) (hb : m < 2 ^ 30 ∧ D < 2 ^ 30) (x1 : Int32) : j_V jP d 135 0 (lv_args 0 [.ref 0, .int x1]) [] h (fun rv h' => ∃ v st, rv = some (.int v) ∧ (v = (m_quse th sst' w x1).1 ∧ st = (m_quse th sst' w x1).2.2) ∧ hX 327 343 n S w st h' ∧ (∀ a, a ≠ 0 → h'[a]? = h[a]?)) := by
  have R0 := R
  have C0 := R.1
  refine hX.opn R (fun mi shu bus lks rl pev rk sta ph sp ce du he ri us cm lf lkd row sea pms pmm pmt pst pwa prs prr pfa CS hl4 V cel run tra len siz frm tto lst slo wei fit way rid lon CL Y T hlY => ?_)
  have E := eq_use (th := th) (sst' := sst') (sst := sst) V.1.g V.2.2.2.2.1 x1
  have K0 : kA h [(0, .inl (9, [.ref 1, .ref 3, .ref 4, .ref 29, .ref 281, .ref 325, .ref 327, .ref 343, .int sst])), (4, .inl (7, [.ref 327, .int mi, .int shu, .int bus, .ref 5, .ref 6, .ref 7, .ref 8, .ref 9, .ref 10, .ref 11, .ref 12, .ref 13, .ref 14, .ref 15, .int lks, .ref 16, .ref 17, .ref 20])), (13, .inr (.inl (0, us))), (327, .inl (2, [.int (nI S), .ref 328, .ref 329, .ref 330, .ref 331, .int (nI n), .ref 332, .ref 333, .ref 334, .ref 335, .ref 336, .ref 337, .ref 338, .int cel, .ref 339, .ref 340, .ref 341, .ref 342]))] := ⟨C0, CS.1, CS.2.2.2.2.2.2.2.2.2.1, CL.1, trivial⟩
  refine j_V.mono (xa65_ok K0.K) ?_
  rintro rv h' ⟨rfl, K⟩
  have F : (∀ a, a ≠ 0 → h'[a]? = h[a]?) := fun a ha => KN.off K0 K (lkn (fun z => ha z.symm) (lke (lke (lke rfl))))
  exact ⟨_, _, rfl, ⟨E.1, E.2⟩, R0.st F (K.at rfl), F⟩
theorem ga_use_B {h : J_H} {n S m D d : Nat} {w tk : List Int32} {sst th sst' acne acs : Int32} (R : hX 343 327 n S w sst h) (X : wX n S w m D) (hb : m < 2 ^ 30 ∧ D < 2 ^ 30) (x1 : Int32) : j_V jP d 135 0 (lv_args 0 [.ref 0, .int x1]) [] h (fun rv h' => ∃ v st, rv = some (.int v) ∧ (v = (m_quse th sst' w x1).1 ∧ st = (m_quse th sst' w x1).2.2) ∧ hX 343 327 n S w st h' ∧ (∀ a, a ≠ 0 → h'[a]? = h[a]?)) := by
  have R0 := R
  have C0 := R.1
  refine hX.opn R (fun mi shu bus lks rl pev rk sta ph sp ce du he ri us cm lf lkd row sea pms pmm pmt pst pwa prs prr pfa CS hl4 V cel run tra len siz frm tto lst slo wei fit way rid lon CL Y T hlY => ?_)
  have E := eq_use (th := th) (sst' := sst') (sst := sst) V.1.g V.2.2.2.2.1 x1
  have K0 : kA h [(0, .inl (9, [.ref 1, .ref 3, .ref 4, .ref 29, .ref 281, .ref 325, .ref 343, .ref 327, .int sst])), (4, .inl (7, [.ref 343, .int mi, .int shu, .int bus, .ref 5, .ref 6, .ref 7, .ref 8, .ref 9, .ref 10, .ref 11, .ref 12, .ref 13, .ref 14, .ref 15, .int lks, .ref 16, .ref 17, .ref 20])), (13, .inr (.inl (0, us))), (343, .inl (2, [.int (nI S), .ref 344, .ref 345, .ref 346, .ref 347, .int (nI n), .ref 348, .ref 349, .ref 350, .ref 351, .ref 352, .ref 353, .ref 354, .int cel, .ref 355, .ref 356, .ref 357, .ref 358]))] := ⟨C0, CS.1, CS.2.2.2.2.2.2.2.2.2.1, CL.1, trivial⟩
  refine j_V.mono (xb65_ok K0.K) ?_
  rintro rv h' ⟨rfl, K⟩
  have F : (∀ a, a ≠ 0 → h'[a]? = h[a]?) := fun a ha => KN.off K0 K (lkn (fun z => ha z.symm) (lke (lke (lke rfl))))
  exact ⟨_, _, rfl, ⟨E.1, E.2⟩, R0.st F (K.at rfl), F⟩
theorem ga_waits_A {h : J_H} {n S m D d : Nat} {w tk : List Int32} {sst th sst' acne acs : Int32} (R : hX 327 343 n S w sst h) (X : wX n S w m D) (hb : m < 2 ^ 30 ∧ D < 2 ^ 30) (x1 : Int32) : j_V jP d 137 0 (lv_args 0 [.ref 0, .int x1]) [] h (fun rv h' => ∃ v st, rv = some (.int v) ∧ (v = (m_qwaits th sst' w x1).1 ∧ st = (m_qwaits th sst' w x1).2.2) ∧ hX 327 343 n S w st h' ∧ (∀ a, a ≠ 0 → h'[a]? = h[a]?)) := by
  have R0 := R
  have C0 := R.1
  refine hX.opn R (fun mi shu bus lks rl pev rk sta ph sp ce du he ri us cm lf lkd row sea pms pmm pmt pst pwa prs prr pfa CS hl4 V cel run tra len siz frm tto lst slo wei fit way rid lon CL Y T hlY => ?_)
  have E := eq_waits (th := th) (sst' := sst') (sst := sst) V.1.g V.2.2.2.2.2.1 (show ¬ (1 : Int32) = 0 by decide) x1
  have K0 : kA h [(0, .inl (9, [.ref 1, .ref 3, .ref 4, .ref 29, .ref 281, .ref 325, .ref 327, .ref 343, .int sst])), (4, .inl (7, [.ref 327, .int mi, .int shu, .int bus, .ref 5, .ref 6, .ref 7, .ref 8, .ref 9, .ref 10, .ref 11, .ref 12, .ref 13, .ref 14, .ref 15, .int lks, .ref 16, .ref 17, .ref 20])), (20, .inl (3, [.ref 21, .ref 22, .ref 23, .ref 24, .ref 25, .ref 26, .ref 27, .ref 28, .int pev, .int 1])), (25, .inr (.inl (0, pwa))), (327, .inl (2, [.int (nI S), .ref 328, .ref 329, .ref 330, .ref 331, .int (nI n), .ref 332, .ref 333, .ref 334, .ref 335, .ref 336, .ref 337, .ref 338, .int cel, .ref 339, .ref 340, .ref 341, .ref 342]))] := ⟨C0, CS.1, CS.2.2.2.2.2.2.2.2.2.2.2.2.2.2.2.2.1, CS.2.2.2.2.2.2.2.2.2.2.2.2.2.2.2.2.2.2.2.2.2.1, CL.1, trivial⟩
  refine j_V.mono (xa67_ok K0.K) ?_
  rintro rv h' ⟨rfl, K⟩
  have F : (∀ a, a ≠ 0 → h'[a]? = h[a]?) := fun a ha => KN.off K0 K (lkn (fun z => ha z.symm) (lke (lke (lke (lke rfl)))))
  exact ⟨_, _, rfl, ⟨E.1, E.2⟩, R0.st F (K.at rfl), F⟩
theorem ga_waits_B {h : J_H} {n S m D d : Nat} {w tk : List Int32} {sst th sst' acne acs : Int32} (R : hX 343 327 n S w sst h) (X : wX n S w m D) (hb : m < 2 ^ 30 ∧ D < 2 ^ 30) (x1 : Int32) : j_V jP d 137 0 (lv_args 0 [.ref 0, .int x1]) [] h (fun rv h' => ∃ v st, rv = some (.int v) ∧ (v = (m_qwaits th sst' w x1).1 ∧ st = (m_qwaits th sst' w x1).2.2) ∧ hX 343 327 n S w st h' ∧ (∀ a, a ≠ 0 → h'[a]? = h[a]?)) := by
  have R0 := R
  have C0 := R.1
  refine hX.opn R (fun mi shu bus lks rl pev rk sta ph sp ce du he ri us cm lf lkd row sea pms pmm pmt pst pwa prs prr pfa CS hl4 V cel run tra len siz frm tto lst slo wei fit way rid lon CL Y T hlY => ?_)
  have E := eq_waits (th := th) (sst' := sst') (sst := sst) V.1.g V.2.2.2.2.2.1 (show ¬ (1 : Int32) = 0 by decide) x1
  have K0 : kA h [(0, .inl (9, [.ref 1, .ref 3, .ref 4, .ref 29, .ref 281, .ref 325, .ref 343, .ref 327, .int sst])), (4, .inl (7, [.ref 343, .int mi, .int shu, .int bus, .ref 5, .ref 6, .ref 7, .ref 8, .ref 9, .ref 10, .ref 11, .ref 12, .ref 13, .ref 14, .ref 15, .int lks, .ref 16, .ref 17, .ref 20])), (20, .inl (3, [.ref 21, .ref 22, .ref 23, .ref 24, .ref 25, .ref 26, .ref 27, .ref 28, .int pev, .int 1])), (25, .inr (.inl (0, pwa))), (343, .inl (2, [.int (nI S), .ref 344, .ref 345, .ref 346, .ref 347, .int (nI n), .ref 348, .ref 349, .ref 350, .ref 351, .ref 352, .ref 353, .ref 354, .int cel, .ref 355, .ref 356, .ref 357, .ref 358]))] := ⟨C0, CS.1, CS.2.2.2.2.2.2.2.2.2.2.2.2.2.2.2.2.1, CS.2.2.2.2.2.2.2.2.2.2.2.2.2.2.2.2.2.2.2.2.2.1, CL.1, trivial⟩
  refine j_V.mono (xb67_ok K0.K) ?_
  rintro rv h' ⟨rfl, K⟩
  have F : (∀ a, a ≠ 0 → h'[a]? = h[a]?) := fun a ha => KN.off K0 K (lkn (fun z => ha z.symm) (lke (lke (lke (lke rfl)))))
  exact ⟨_, _, rfl, ⟨E.1, E.2⟩, R0.st F (K.at rfl), F⟩
theorem ga_stood_A {h : J_H} {n S m D d : Nat} {w tk : List Int32} {sst th sst' acne acs : Int32} (R : hX 327 343 n S w sst h) (X : wX n S w m D) (hb : m < 2 ^ 30 ∧ D < 2 ^ 30) (x1 : Int32) : j_V jP d 132 0 (lv_args 0 [.ref 0, .int x1]) [] h (fun rv h' => ∃ v st, rv = some (.int v) ∧ (v = (m_qstood th sst' w x1).1 ∧ st = (m_qstood th sst' w x1).2.2) ∧ hX 327 343 n S w st h' ∧ (∀ a, a ≠ 0 → h'[a]? = h[a]?)) := by
  have R0 := R
  have C0 := R.1
  refine hX.opn R (fun mi shu bus lks rl pev rk sta ph sp ce du he ri us cm lf lkd row sea pms pmm pmt pst pwa prs prr pfa CS hl4 V cel run tra len siz frm tto lst slo wei fit way rid lon CL Y T hlY => ?_)
  have E := eq_stood (th := th) (sst' := sst') (sst := sst) V.1.g V.2.2.2.2.2.1 (show ¬ (1 : Int32) = 0 by decide) x1
  have K0 : kA h [(0, .inl (9, [.ref 1, .ref 3, .ref 4, .ref 29, .ref 281, .ref 325, .ref 327, .ref 343, .int sst])), (4, .inl (7, [.ref 327, .int mi, .int shu, .int bus, .ref 5, .ref 6, .ref 7, .ref 8, .ref 9, .ref 10, .ref 11, .ref 12, .ref 13, .ref 14, .ref 15, .int lks, .ref 16, .ref 17, .ref 20])), (20, .inl (3, [.ref 21, .ref 22, .ref 23, .ref 24, .ref 25, .ref 26, .ref 27, .ref 28, .int pev, .int 1])), (24, .inr (.inl (0, pst))), (327, .inl (2, [.int (nI S), .ref 328, .ref 329, .ref 330, .ref 331, .int (nI n), .ref 332, .ref 333, .ref 334, .ref 335, .ref 336, .ref 337, .ref 338, .int cel, .ref 339, .ref 340, .ref 341, .ref 342]))] := ⟨C0, CS.1, CS.2.2.2.2.2.2.2.2.2.2.2.2.2.2.2.2.1, CS.2.2.2.2.2.2.2.2.2.2.2.2.2.2.2.2.2.2.2.2.1, CL.1, trivial⟩
  refine j_V.mono (xa62_ok K0.K) ?_
  rintro rv h' ⟨rfl, K⟩
  have F : (∀ a, a ≠ 0 → h'[a]? = h[a]?) := fun a ha => KN.off K0 K (lkn (fun z => ha z.symm) (lke (lke (lke (lke rfl)))))
  exact ⟨_, _, rfl, ⟨E.1, E.2⟩, R0.st F (K.at rfl), F⟩
theorem ga_stood_B {h : J_H} {n S m D d : Nat} {w tk : List Int32} {sst th sst' acne acs : Int32} (R : hX 343 327 n S w sst h) (X : wX n S w m D) (hb : m < 2 ^ 30 ∧ D < 2 ^ 30) (x1 : Int32) : j_V jP d 132 0 (lv_args 0 [.ref 0, .int x1]) [] h (fun rv h' => ∃ v st, rv = some (.int v) ∧ (v = (m_qstood th sst' w x1).1 ∧ st = (m_qstood th sst' w x1).2.2) ∧ hX 343 327 n S w st h' ∧ (∀ a, a ≠ 0 → h'[a]? = h[a]?)) := by
  have R0 := R
  have C0 := R.1
  refine hX.opn R (fun mi shu bus lks rl pev rk sta ph sp ce du he ri us cm lf lkd row sea pms pmm pmt pst pwa prs prr pfa CS hl4 V cel run tra len siz frm tto lst slo wei fit way rid lon CL Y T hlY => ?_)
  have E := eq_stood (th := th) (sst' := sst') (sst := sst) V.1.g V.2.2.2.2.2.1 (show ¬ (1 : Int32) = 0 by decide) x1
  have K0 : kA h [(0, .inl (9, [.ref 1, .ref 3, .ref 4, .ref 29, .ref 281, .ref 325, .ref 343, .ref 327, .int sst])), (4, .inl (7, [.ref 343, .int mi, .int shu, .int bus, .ref 5, .ref 6, .ref 7, .ref 8, .ref 9, .ref 10, .ref 11, .ref 12, .ref 13, .ref 14, .ref 15, .int lks, .ref 16, .ref 17, .ref 20])), (20, .inl (3, [.ref 21, .ref 22, .ref 23, .ref 24, .ref 25, .ref 26, .ref 27, .ref 28, .int pev, .int 1])), (24, .inr (.inl (0, pst))), (343, .inl (2, [.int (nI S), .ref 344, .ref 345, .ref 346, .ref 347, .int (nI n), .ref 348, .ref 349, .ref 350, .ref 351, .ref 352, .ref 353, .ref 354, .int cel, .ref 355, .ref 356, .ref 357, .ref 358]))] := ⟨C0, CS.1, CS.2.2.2.2.2.2.2.2.2.2.2.2.2.2.2.2.1, CS.2.2.2.2.2.2.2.2.2.2.2.2.2.2.2.2.2.2.2.2.1, CL.1, trivial⟩
  refine j_V.mono (xb62_ok K0.K) ?_
  rintro rv h' ⟨rfl, K⟩
  have F : (∀ a, a ≠ 0 → h'[a]? = h[a]?) := fun a ha => KN.off K0 K (lkn (fun z => ha z.symm) (lke (lke (lke (lke rfl)))))
  exact ⟨_, _, rfl, ⟨E.1, E.2⟩, R0.st F (K.at rfl), F⟩
theorem ga_together_A {h : J_H} {n S m D d : Nat} {w tk : List Int32} {sst th sst' acne acs : Int32} (R : hX 327 343 n S w sst h) (X : wX n S w m D) (hb : m < 2 ^ 30 ∧ D < 2 ^ 30) (x1 : Int32) (x2 : Int32) (x3 : Int32) : j_V jP d 130 0 (lv_args 0 [.ref 0, .int x1, .int x2, .int x3]) [] h (fun rv h' => ∃ v st, rv = some (.int v) ∧ (v = (m_qtogether th sst' w x1 x2 x3).1 ∧ st = (m_qtogether th sst' w x1 x2 x3).2.2) ∧ hX 327 343 n S w st h' ∧ (∀ a, a ≠ 0 → h'[a]? = h[a]?)) := by
  have R0 := R
  have C0 := R.1
  refine hX.opn R (fun mi shu bus lks rl pev rk sta ph sp ce du he ri us cm lf lkd row sea pms pmm pmt pst pwa prs prr pfa CS hl4 V cel run tra len siz frm tto lst slo wei fit way rid lon CL Y T hlY => ?_)
  have E := eq_together (th := th) (sst' := sst') (sst := sst) V.1.g V.2.2.2.2.2.1 V.1.P (show ¬ (1 : Int32) = 0 by decide) (fun k hk => X.2.2.ww hk) x1 x2 x3
  have K0 : kA h [(0, .inl (9, [.ref 1, .ref 3, .ref 4, .ref 29, .ref 281, .ref 325, .ref 327, .ref 343, .int sst])), (4, .inl (7, [.ref 327, .int mi, .int shu, .int bus, .ref 5, .ref 6, .ref 7, .ref 8, .ref 9, .ref 10, .ref 11, .ref 12, .ref 13, .ref 14, .ref 15, .int lks, .ref 16, .ref 17, .ref 20])), (20, .inl (3, [.ref 21, .ref 22, .ref 23, .ref 24, .ref 25, .ref 26, .ref 27, .ref 28, .int pev, .int 1])), (21, .inr (.inl (0, pms))), (22, .inr (.inl (0, pmm))), (327, .inl (2, [.int (nI S), .ref 328, .ref 329, .ref 330, .ref 331, .int (nI n), .ref 332, .ref 333, .ref 334, .ref 335, .ref 336, .ref 337, .ref 338, .int cel, .ref 339, .ref 340, .ref 341, .ref 342]))] := ⟨C0, CS.1, CS.2.2.2.2.2.2.2.2.2.2.2.2.2.2.2.2.1, CS.2.2.2.2.2.2.2.2.2.2.2.2.2.2.2.2.2.1, CS.2.2.2.2.2.2.2.2.2.2.2.2.2.2.2.2.2.2.1, CL.1, trivial⟩
  refine j_V.mono (xa60_ok K0.K) ?_
  rintro rv h' ⟨rfl, K⟩
  have F : (∀ a, a ≠ 0 → h'[a]? = h[a]?) := fun a ha => KN.off K0 K (lkn (fun z => ha z.symm) (lke (lke (lke (lke (lke rfl))))))
  exact ⟨_, _, rfl, ⟨E.1, E.2⟩, R0.st F (K.at rfl), F⟩
theorem ga_together_B {h : J_H} {n S m D d : Nat} {w tk : List Int32} {sst th sst' acne acs : Int32} (R : hX 343 327 n S w sst h) (X : wX n S w m D) (hb : m < 2 ^ 30 ∧ D < 2 ^ 30) (x1 : Int32) (x2 : Int32) (x3 : Int32) : j_V jP d 130 0 (lv_args 0 [.ref 0, .int x1, .int x2, .int x3]) [] h (fun rv h' => ∃ v st, rv = some (.int v) ∧ (v = (m_qtogether th sst' w x1 x2 x3).1 ∧ st = (m_qtogether th sst' w x1 x2 x3).2.2) ∧ hX 343 327 n S w st h' ∧ (∀ a, a ≠ 0 → h'[a]? = h[a]?)) := by
  have R0 := R
  have C0 := R.1
  refine hX.opn R (fun mi shu bus lks rl pev rk sta ph sp ce du he ri us cm lf lkd row sea pms pmm pmt pst pwa prs prr pfa CS hl4 V cel run tra len siz frm tto lst slo wei fit way rid lon CL Y T hlY => ?_)
  have E := eq_together (th := th) (sst' := sst') (sst := sst) V.1.g V.2.2.2.2.2.1 V.1.P (show ¬ (1 : Int32) = 0 by decide) (fun k hk => X.2.2.ww hk) x1 x2 x3
  have K0 : kA h [(0, .inl (9, [.ref 1, .ref 3, .ref 4, .ref 29, .ref 281, .ref 325, .ref 343, .ref 327, .int sst])), (4, .inl (7, [.ref 343, .int mi, .int shu, .int bus, .ref 5, .ref 6, .ref 7, .ref 8, .ref 9, .ref 10, .ref 11, .ref 12, .ref 13, .ref 14, .ref 15, .int lks, .ref 16, .ref 17, .ref 20])), (20, .inl (3, [.ref 21, .ref 22, .ref 23, .ref 24, .ref 25, .ref 26, .ref 27, .ref 28, .int pev, .int 1])), (21, .inr (.inl (0, pms))), (22, .inr (.inl (0, pmm))), (343, .inl (2, [.int (nI S), .ref 344, .ref 345, .ref 346, .ref 347, .int (nI n), .ref 348, .ref 349, .ref 350, .ref 351, .ref 352, .ref 353, .ref 354, .int cel, .ref 355, .ref 356, .ref 357, .ref 358]))] := ⟨C0, CS.1, CS.2.2.2.2.2.2.2.2.2.2.2.2.2.2.2.2.1, CS.2.2.2.2.2.2.2.2.2.2.2.2.2.2.2.2.2.1, CS.2.2.2.2.2.2.2.2.2.2.2.2.2.2.2.2.2.2.1, CL.1, trivial⟩
  refine j_V.mono (xb60_ok K0.K) ?_
  rintro rv h' ⟨rfl, K⟩
  have F : (∀ a, a ≠ 0 → h'[a]? = h[a]?) := fun a ha => KN.off K0 K (lkn (fun z => ha z.symm) (lke (lke (lke (lke (lke rfl))))))
  exact ⟨_, _, rfl, ⟨E.1, E.2⟩, R0.st F (K.at rfl), F⟩
theorem ga_event_A {h : J_H} {n S m D d : Nat} {w tk : List Int32} {sst th sst' acne acs : Int32} (R : hX 327 343 n S w sst h) (X : wX n S w m D) (hb : m < 2 ^ 30 ∧ D < 2 ^ 30) (x1 : Int32) (x2 : Int32) : j_V jP d 134 0 (lv_args 0 [.ref 0, .int x1, .int x2]) [] h (fun rv h' => ∃ v st, rv = some (.int v) ∧ (v = (m_qevent_ th sst' w x1 x2).1 ∧ st = (m_qevent_ th sst' w x1 x2).2.2) ∧ hX 327 343 n S w st h' ∧ (∀ a, a ≠ 0 → h'[a]? = h[a]?)) := by
  have R0 := R
  have C0 := R.1
  refine hX.opn R (fun mi shu bus lks rl pev rk sta ph sp ce du he ri us cm lf lkd row sea pms pmm pmt pst pwa prs prr pfa CS hl4 V cel run tra len siz frm tto lst slo wei fit way rid lon CL Y T hlY => ?_)
  have E := eq_event (th := th) (sst' := sst') (sst := sst) V.1.g V.2.1.2.2.2.2.2.2 (show ¬ (1 : Int32) = 0 by decide) x1 x2
  have K0 : kA h [(0, .inl (9, [.ref 1, .ref 3, .ref 4, .ref 29, .ref 281, .ref 325, .ref 327, .ref 343, .int sst])), (4, .inl (7, [.ref 327, .int mi, .int shu, .int bus, .ref 5, .ref 6, .ref 7, .ref 8, .ref 9, .ref 10, .ref 11, .ref 12, .ref 13, .ref 14, .ref 15, .int lks, .ref 16, .ref 17, .ref 20])), (20, .inl (3, [.ref 21, .ref 22, .ref 23, .ref 24, .ref 25, .ref 26, .ref 27, .ref 28, .int pev, .int 1])), (28, .inr (.inl (0, pfa)))] := ⟨C0, CS.1, CS.2.2.2.2.2.2.2.2.2.2.2.2.2.2.2.2.1, CS.2.2.2.2.2.2.2.2.2.2.2.2.2.2.2.2.2.2.2.2.2.2.2.2, trivial⟩
  refine j_V.mono (xa64_ok K0.K) ?_
  rintro rv h' ⟨rfl, K⟩
  have F : (∀ a, a ≠ 0 → h'[a]? = h[a]?) := fun a ha => KN.off K0 K (lkn (fun z => ha z.symm) (lke (lke (lke rfl))))
  exact ⟨_, _, rfl, ⟨E.1, E.2⟩, R0.st F (K.at rfl), F⟩
theorem ga_event_B {h : J_H} {n S m D d : Nat} {w tk : List Int32} {sst th sst' acne acs : Int32} (R : hX 343 327 n S w sst h) (X : wX n S w m D) (hb : m < 2 ^ 30 ∧ D < 2 ^ 30) (x1 : Int32) (x2 : Int32) : j_V jP d 134 0 (lv_args 0 [.ref 0, .int x1, .int x2]) [] h (fun rv h' => ∃ v st, rv = some (.int v) ∧ (v = (m_qevent_ th sst' w x1 x2).1 ∧ st = (m_qevent_ th sst' w x1 x2).2.2) ∧ hX 343 327 n S w st h' ∧ (∀ a, a ≠ 0 → h'[a]? = h[a]?)) := by
  have R0 := R
  have C0 := R.1
  refine hX.opn R (fun mi shu bus lks rl pev rk sta ph sp ce du he ri us cm lf lkd row sea pms pmm pmt pst pwa prs prr pfa CS hl4 V cel run tra len siz frm tto lst slo wei fit way rid lon CL Y T hlY => ?_)
  have E := eq_event (th := th) (sst' := sst') (sst := sst) V.1.g V.2.1.2.2.2.2.2.2 (show ¬ (1 : Int32) = 0 by decide) x1 x2
  have K0 : kA h [(0, .inl (9, [.ref 1, .ref 3, .ref 4, .ref 29, .ref 281, .ref 325, .ref 343, .ref 327, .int sst])), (4, .inl (7, [.ref 343, .int mi, .int shu, .int bus, .ref 5, .ref 6, .ref 7, .ref 8, .ref 9, .ref 10, .ref 11, .ref 12, .ref 13, .ref 14, .ref 15, .int lks, .ref 16, .ref 17, .ref 20])), (20, .inl (3, [.ref 21, .ref 22, .ref 23, .ref 24, .ref 25, .ref 26, .ref 27, .ref 28, .int pev, .int 1])), (28, .inr (.inl (0, pfa)))] := ⟨C0, CS.1, CS.2.2.2.2.2.2.2.2.2.2.2.2.2.2.2.2.1, CS.2.2.2.2.2.2.2.2.2.2.2.2.2.2.2.2.2.2.2.2.2.2.2.2, trivial⟩
  refine j_V.mono (xb64_ok K0.K) ?_
  rintro rv h' ⟨rfl, K⟩
  have F : (∀ a, a ≠ 0 → h'[a]? = h[a]?) := fun a ha => KN.off K0 K (lkn (fun z => ha z.symm) (lke (lke (lke rfl))))
  exact ⟨_, _, rfl, ⟨E.1, E.2⟩, R0.st F (K.at rfl), F⟩
theorem ga_gone_A {h : J_H} {n S m D d : Nat} {w tk : List Int32} {sst th sst' acne acs : Int32} (R : hX 327 343 n S w sst h) (X : wX n S w m D) (hb : m < 2 ^ 30 ∧ D < 2 ^ 30) (x1 : Int32) (x2 : Int32) : j_V jP d 136 0 (lv_args 0 [.ref 0, .int x1, .int x2]) [] h (fun rv h' => ∃ v st, rv = some (.int v) ∧ (v = (m_qgone th sst' w x1 x2).1 ∧ st = (m_qgone th sst' w x1 x2).2.2) ∧ hX 327 343 n S w st h' ∧ (∀ a, a ≠ 0 → h'[a]? = h[a]?)) := by
  have R0 := R
  have C0 := R.1
  refine hX.opn R (fun mi shu bus lks rl pev rk sta ph sp ce du he ri us cm lf lkd row sea pms pmm pmt pst pwa prs prr pfa CS hl4 V cel run tra len siz frm tto lst slo wei fit way rid lon CL Y T hlY => ?_)
  have E := eq_gone (th := th) (sst' := sst') (sst := sst) V.1.g V.2.1.2.2.2.2.2.2 (show ¬ (1 : Int32) = 0 by decide) x1 x2
  have K0 : kA h [(0, .inl (9, [.ref 1, .ref 3, .ref 4, .ref 29, .ref 281, .ref 325, .ref 327, .ref 343, .int sst])), (4, .inl (7, [.ref 327, .int mi, .int shu, .int bus, .ref 5, .ref 6, .ref 7, .ref 8, .ref 9, .ref 10, .ref 11, .ref 12, .ref 13, .ref 14, .ref 15, .int lks, .ref 16, .ref 17, .ref 20])), (20, .inl (3, [.ref 21, .ref 22, .ref 23, .ref 24, .ref 25, .ref 26, .ref 27, .ref 28, .int pev, .int 1])), (26, .inr (.inl (0, prs))), (27, .inr (.inl (0, prr))), (327, .inl (2, [.int (nI S), .ref 328, .ref 329, .ref 330, .ref 331, .int (nI n), .ref 332, .ref 333, .ref 334, .ref 335, .ref 336, .ref 337, .ref 338, .int cel, .ref 339, .ref 340, .ref 341, .ref 342]))] := ⟨C0, CS.1, CS.2.2.2.2.2.2.2.2.2.2.2.2.2.2.2.2.1, CS.2.2.2.2.2.2.2.2.2.2.2.2.2.2.2.2.2.2.2.2.2.2.1, CS.2.2.2.2.2.2.2.2.2.2.2.2.2.2.2.2.2.2.2.2.2.2.2.1, CL.1, trivial⟩
  refine j_V.mono (xa66_ok K0.K) ?_
  rintro rv h' ⟨rfl, K⟩
  have F : (∀ a, a ≠ 0 → h'[a]? = h[a]?) := fun a ha => KN.off K0 K (lkn (fun z => ha z.symm) (lke (lke (lke (lke (lke rfl))))))
  exact ⟨_, _, rfl, ⟨E.1, E.2⟩, R0.st F (K.at rfl), F⟩
theorem ga_gone_B {h : J_H} {n S m D d : Nat} {w tk : List Int32} {sst th sst' acne acs : Int32} (R : hX 343 327 n S w sst h) (X : wX n S w m D) (hb : m < 2 ^ 30 ∧ D < 2 ^ 30) (x1 : Int32) (x2 : Int32) : j_V jP d 136 0 (lv_args 0 [.ref 0, .int x1, .int x2]) [] h (fun rv h' => ∃ v st, rv = some (.int v) ∧ (v = (m_qgone th sst' w x1 x2).1 ∧ st = (m_qgone th sst' w x1 x2).2.2) ∧ hX 343 327 n S w st h' ∧ (∀ a, a ≠ 0 → h'[a]? = h[a]?)) := by
  have R0 := R
  have C0 := R.1
  refine hX.opn R (fun mi shu bus lks rl pev rk sta ph sp ce du he ri us cm lf lkd row sea pms pmm pmt pst pwa prs prr pfa CS hl4 V cel run tra len siz frm tto lst slo wei fit way rid lon CL Y T hlY => ?_)
  have E := eq_gone (th := th) (sst' := sst') (sst := sst) V.1.g V.2.1.2.2.2.2.2.2 (show ¬ (1 : Int32) = 0 by decide) x1 x2
  have K0 : kA h [(0, .inl (9, [.ref 1, .ref 3, .ref 4, .ref 29, .ref 281, .ref 325, .ref 343, .ref 327, .int sst])), (4, .inl (7, [.ref 343, .int mi, .int shu, .int bus, .ref 5, .ref 6, .ref 7, .ref 8, .ref 9, .ref 10, .ref 11, .ref 12, .ref 13, .ref 14, .ref 15, .int lks, .ref 16, .ref 17, .ref 20])), (20, .inl (3, [.ref 21, .ref 22, .ref 23, .ref 24, .ref 25, .ref 26, .ref 27, .ref 28, .int pev, .int 1])), (26, .inr (.inl (0, prs))), (27, .inr (.inl (0, prr))), (343, .inl (2, [.int (nI S), .ref 344, .ref 345, .ref 346, .ref 347, .int (nI n), .ref 348, .ref 349, .ref 350, .ref 351, .ref 352, .ref 353, .ref 354, .int cel, .ref 355, .ref 356, .ref 357, .ref 358]))] := ⟨C0, CS.1, CS.2.2.2.2.2.2.2.2.2.2.2.2.2.2.2.2.1, CS.2.2.2.2.2.2.2.2.2.2.2.2.2.2.2.2.2.2.2.2.2.2.1, CS.2.2.2.2.2.2.2.2.2.2.2.2.2.2.2.2.2.2.2.2.2.2.2.1, CL.1, trivial⟩
  refine j_V.mono (xb66_ok K0.K) ?_
  rintro rv h' ⟨rfl, K⟩
  have F : (∀ a, a ≠ 0 → h'[a]? = h[a]?) := fun a ha => KN.off K0 K (lkn (fun z => ha z.symm) (lke (lke (lke (lke (lke rfl))))))
  exact ⟨_, _, rfl, ⟨E.1, E.2⟩, R0.st F (K.at rfl), F⟩
theorem ga_links_A {h : J_H} {n S m D d : Nat} {w tk : List Int32} {sst th sst' acne acs : Int32} (R : hX 327 343 n S w sst h) (x1 : Int32) (x2 : Int32) : j_V jP d 125 0 (lv_args 0 [.ref 0, .int x1, .int x2]) [] h (fun rv h' => ∃ v st, rv = some (.int v) ∧ (v = (m_qlinks th sst' w x1 x2).1 ∧ st = (m_qlinks th sst' w x1 x2).2.2) ∧ hX 327 343 n S w st h' ∧ (∀ a, a ≠ 0 → h'[a]? = h[a]?)) := by
  have R0 := R
  have C0 := R.1
  refine hX.opn R (fun mi shu bus lks rl pev rk sta ph sp ce du he ri us cm lf lkd row sea pms pmm pmt pst pwa prs prr pfa CS hl4 V cel run tra len siz frm tto lst slo wei fit way rid lon CL Y T hlY => ?_)
  have E := eq_links (th := th) (sst' := sst') (sst := sst) V.1 V.2.1.1 V.2.1.2.2.2.2.1 V.2.2.1 x1 x2
  have K0 : kA h [(0, .inl (9, [.ref 1, .ref 3, .ref 4, .ref 29, .ref 281, .ref 325, .ref 327, .ref 343, .int sst])), (4, .inl (7, [.ref 327, .int mi, .int shu, .int bus, .ref 5, .ref 6, .ref 7, .ref 8, .ref 9, .ref 10, .ref 11, .ref 12, .ref 13, .ref 14, .ref 15, .int lks, .ref 16, .ref 17, .ref 20])), (7, .inr (.inl (0, ph))), (8, .inr (.inl (0, sp))), (14, .inr (.inl (0, cm))), (16, .inr (.inl (0, lkd)))] := ⟨C0, CS.1, CS.2.2.2.1, CS.2.2.2.2.1, CS.2.2.2.2.2.2.2.2.2.2.1, CS.2.2.2.2.2.2.2.2.2.2.2.2.1, trivial⟩
  refine j_V.mono (xa56_ok K0.K) ?_
  rintro rv h' ⟨rfl, K⟩
  have F : (∀ a, a ≠ 0 → h'[a]? = h[a]?) := fun a ha => KN.off K0 K (lkn (fun z => ha z.symm) (lke (lke (lke (lke (lke rfl))))))
  exact ⟨_, _, rfl, ⟨E.1, E.2⟩, R0.st F (K.at rfl), F⟩
theorem ga_links_B {h : J_H} {n S m D d : Nat} {w tk : List Int32} {sst th sst' acne acs : Int32} (R : hX 343 327 n S w sst h) (x1 : Int32) (x2 : Int32) : j_V jP d 125 0 (lv_args 0 [.ref 0, .int x1, .int x2]) [] h (fun rv h' => ∃ v st, rv = some (.int v) ∧ (v = (m_qlinks th sst' w x1 x2).1 ∧ st = (m_qlinks th sst' w x1 x2).2.2) ∧ hX 343 327 n S w st h' ∧ (∀ a, a ≠ 0 → h'[a]? = h[a]?)) := by
  have R0 := R
  have C0 := R.1
  refine hX.opn R (fun mi shu bus lks rl pev rk sta ph sp ce du he ri us cm lf lkd row sea pms pmm pmt pst pwa prs prr pfa CS hl4 V cel run tra len siz frm tto lst slo wei fit way rid lon CL Y T hlY => ?_)
  have E := eq_links (th := th) (sst' := sst') (sst := sst) V.1 V.2.1.1 V.2.1.2.2.2.2.1 V.2.2.1 x1 x2
  have K0 : kA h [(0, .inl (9, [.ref 1, .ref 3, .ref 4, .ref 29, .ref 281, .ref 325, .ref 343, .ref 327, .int sst])), (4, .inl (7, [.ref 343, .int mi, .int shu, .int bus, .ref 5, .ref 6, .ref 7, .ref 8, .ref 9, .ref 10, .ref 11, .ref 12, .ref 13, .ref 14, .ref 15, .int lks, .ref 16, .ref 17, .ref 20])), (7, .inr (.inl (0, ph))), (8, .inr (.inl (0, sp))), (14, .inr (.inl (0, cm))), (16, .inr (.inl (0, lkd)))] := ⟨C0, CS.1, CS.2.2.2.1, CS.2.2.2.2.1, CS.2.2.2.2.2.2.2.2.2.2.1, CS.2.2.2.2.2.2.2.2.2.2.2.2.1, trivial⟩
  refine j_V.mono (xb56_ok K0.K) ?_
  rintro rv h' ⟨rfl, K⟩
  have F : (∀ a, a ≠ 0 → h'[a]? = h[a]?) := fun a ha => KN.off K0 K (lkn (fun z => ha z.symm) (lke (lke (lke (lke (lke rfl))))))
  exact ⟨_, _, rfl, ⟨E.1, E.2⟩, R0.st F (K.at rfl), F⟩
theorem ga_fits_A {h : J_H} {n S m D d : Nat} {w tk : List Int32} {sst th sst' acne acs : Int32} (R : hX 327 343 n S w sst h) (X : wX n S w m D) (hb : m < 2 ^ 30 ∧ D < 2 ^ 30) (x1 : Int32) : j_V jP d 120 0 (lv_args 0 [.ref 0, .int x1]) [] h (fun rv h' => ∃ v st, rv = some (.int v) ∧ (v = (m_qfits th sst' w x1).1 ∧ st = (m_qfits th sst' w x1).2.2) ∧ hX 327 343 n S w st h' ∧ (∀ a, a ≠ 0 → h'[a]? = h[a]?)) := by
  have R0 := R
  have C0 := R.1
  refine hX.opn R (fun mi shu bus lks rl pev rk sta ph sp ce du he ri us cm lf lkd row sea pms pmm pmt pst pwa prs prr pfa CS hl4 V cel run tra len siz frm tto lst slo wei fit way rid lon CL Y T hlY => ?_)
  have E := eq_fits (th := th) (sst' := sst') (sst := sst) V.1.g Y x1
  have K0 : kA h [(0, .inl (9, [.ref 1, .ref 3, .ref 4, .ref 29, .ref 281, .ref 325, .ref 327, .ref 343, .int sst])), (327, .inl (2, [.int (nI S), .ref 328, .ref 329, .ref 330, .ref 331, .int (nI n), .ref 332, .ref 333, .ref 334, .ref 335, .ref 336, .ref 337, .ref 338, .int cel, .ref 339, .ref 340, .ref 341, .ref 342])), (330, .inr (.inl (0, tra))), (339, .inr (.inl (0, fit)))] := ⟨C0, CL.1, CL.2.2.1, CL.2.2.2.2.2.2.2.2.2.2.1, trivial⟩
  refine j_V.mono (xa55_ok K0.K) ?_
  rintro rv h' ⟨rfl, K⟩
  have F : (∀ a, a ≠ 0 → h'[a]? = h[a]?) := fun a ha => KN.off K0 K (lkn (fun z => ha z.symm) (lke (lke (lke rfl))))
  exact ⟨_, _, rfl, ⟨E.1, E.2⟩, R0.st F (K.at rfl), F⟩
theorem ga_fits_B {h : J_H} {n S m D d : Nat} {w tk : List Int32} {sst th sst' acne acs : Int32} (R : hX 343 327 n S w sst h) (X : wX n S w m D) (hb : m < 2 ^ 30 ∧ D < 2 ^ 30) (x1 : Int32) : j_V jP d 120 0 (lv_args 0 [.ref 0, .int x1]) [] h (fun rv h' => ∃ v st, rv = some (.int v) ∧ (v = (m_qfits th sst' w x1).1 ∧ st = (m_qfits th sst' w x1).2.2) ∧ hX 343 327 n S w st h' ∧ (∀ a, a ≠ 0 → h'[a]? = h[a]?)) := by
  have R0 := R
  have C0 := R.1
  refine hX.opn R (fun mi shu bus lks rl pev rk sta ph sp ce du he ri us cm lf lkd row sea pms pmm pmt pst pwa prs prr pfa CS hl4 V cel run tra len siz frm tto lst slo wei fit way rid lon CL Y T hlY => ?_)
  have E := eq_fits (th := th) (sst' := sst') (sst := sst) V.1.g Y x1
  have K0 : kA h [(0, .inl (9, [.ref 1, .ref 3, .ref 4, .ref 29, .ref 281, .ref 325, .ref 343, .ref 327, .int sst])), (343, .inl (2, [.int (nI S), .ref 344, .ref 345, .ref 346, .ref 347, .int (nI n), .ref 348, .ref 349, .ref 350, .ref 351, .ref 352, .ref 353, .ref 354, .int cel, .ref 355, .ref 356, .ref 357, .ref 358])), (346, .inr (.inl (0, tra))), (355, .inr (.inl (0, fit)))] := ⟨C0, CL.1, CL.2.2.1, CL.2.2.2.2.2.2.2.2.2.2.1, trivial⟩
  refine j_V.mono (xb55_ok K0.K) ?_
  rintro rv h' ⟨rfl, K⟩
  have F : (∀ a, a ≠ 0 → h'[a]? = h[a]?) := fun a ha => KN.off K0 K (lkn (fun z => ha z.symm) (lke (lke (lke rfl))))
  exact ⟨_, _, rfl, ⟨E.1, E.2⟩, R0.st F (K.at rfl), F⟩
theorem ga_late_A {h : J_H} {n S m D d : Nat} {w tk : List Int32} {sst th sst' acne acs : Int32} (R : hX 327 343 n S w sst h) (X : wX n S w m D) (hb : m < 2 ^ 30 ∧ D < 2 ^ 30) (x1 : Int32) (x2 : Int32) : j_V jP d 133 0 (lv_args 0 [.ref 0, .int x1, .int x2]) [] h (fun rv h' => ∃ v st, rv = some (.int v) ∧ (v = (m_qlate th sst' w x1 x2).1 ∧ st = (m_qlate th sst' w x1 x2).2.2) ∧ hX 327 343 n S w st h' ∧ (∀ a, a ≠ 0 → h'[a]? = h[a]?)) := by
  have R0 := R
  have C0 := R.1
  refine hX.opn R (fun mi shu bus lks rl pev rk sta ph sp ce du he ri us cm lf lkd row sea pms pmm pmt pst pwa prs prr pfa CS hl4 V cel run tra len siz frm tto lst slo wei fit way rid lon CL Y T hlY => ?_)
  have E := eq_late (th := th) (sst' := sst') (sst := sst) V.1.g V.2.1.2.2.2.2.1 V.2.2.1 Y x1 x2
  have K0 : kA h [(0, .inl (9, [.ref 1, .ref 3, .ref 4, .ref 29, .ref 281, .ref 325, .ref 327, .ref 343, .int sst])), (4, .inl (7, [.ref 327, .int mi, .int shu, .int bus, .ref 5, .ref 6, .ref 7, .ref 8, .ref 9, .ref 10, .ref 11, .ref 12, .ref 13, .ref 14, .ref 15, .int lks, .ref 16, .ref 17, .ref 20])), (6, .inr (.inl (0, sta))), (14, .inr (.inl (0, cm))), (327, .inl (2, [.int (nI S), .ref 328, .ref 329, .ref 330, .ref 331, .int (nI n), .ref 332, .ref 333, .ref 334, .ref 335, .ref 336, .ref 337, .ref 338, .int cel, .ref 339, .ref 340, .ref 341, .ref 342])), (334, .inr (.inl (0, frm))), (341, .inr (.inl (0, rid)))] := ⟨C0, CS.1, CS.2.2.1, CS.2.2.2.2.2.2.2.2.2.2.1, CL.1, CL.2.2.2.2.2.1, CL.2.2.2.2.2.2.2.2.2.2.2.2.1, trivial⟩
  refine j_V.mono (xa63_ok K0.K) ?_
  rintro rv h' ⟨rfl, K⟩
  have F : (∀ a, a ≠ 0 → h'[a]? = h[a]?) := fun a ha => KN.off K0 K (lkn (fun z => ha z.symm) (lke (lke (lke (lke (lke (lke rfl)))))))
  exact ⟨_, _, rfl, ⟨E.1, E.2⟩, R0.st F (K.at rfl), F⟩
theorem ga_late_B {h : J_H} {n S m D d : Nat} {w tk : List Int32} {sst th sst' acne acs : Int32} (R : hX 343 327 n S w sst h) (X : wX n S w m D) (hb : m < 2 ^ 30 ∧ D < 2 ^ 30) (x1 : Int32) (x2 : Int32) : j_V jP d 133 0 (lv_args 0 [.ref 0, .int x1, .int x2]) [] h (fun rv h' => ∃ v st, rv = some (.int v) ∧ (v = (m_qlate th sst' w x1 x2).1 ∧ st = (m_qlate th sst' w x1 x2).2.2) ∧ hX 343 327 n S w st h' ∧ (∀ a, a ≠ 0 → h'[a]? = h[a]?)) := by
  have R0 := R
  have C0 := R.1
  refine hX.opn R (fun mi shu bus lks rl pev rk sta ph sp ce du he ri us cm lf lkd row sea pms pmm pmt pst pwa prs prr pfa CS hl4 V cel run tra len siz frm tto lst slo wei fit way rid lon CL Y T hlY => ?_)
  have E := eq_late (th := th) (sst' := sst') (sst := sst) V.1.g V.2.1.2.2.2.2.1 V.2.2.1 Y x1 x2
  have K0 : kA h [(0, .inl (9, [.ref 1, .ref 3, .ref 4, .ref 29, .ref 281, .ref 325, .ref 343, .ref 327, .int sst])), (4, .inl (7, [.ref 343, .int mi, .int shu, .int bus, .ref 5, .ref 6, .ref 7, .ref 8, .ref 9, .ref 10, .ref 11, .ref 12, .ref 13, .ref 14, .ref 15, .int lks, .ref 16, .ref 17, .ref 20])), (6, .inr (.inl (0, sta))), (14, .inr (.inl (0, cm))), (343, .inl (2, [.int (nI S), .ref 344, .ref 345, .ref 346, .ref 347, .int (nI n), .ref 348, .ref 349, .ref 350, .ref 351, .ref 352, .ref 353, .ref 354, .int cel, .ref 355, .ref 356, .ref 357, .ref 358])), (350, .inr (.inl (0, frm))), (357, .inr (.inl (0, rid)))] := ⟨C0, CS.1, CS.2.2.1, CS.2.2.2.2.2.2.2.2.2.2.1, CL.1, CL.2.2.2.2.2.1, CL.2.2.2.2.2.2.2.2.2.2.2.2.1, trivial⟩
  refine j_V.mono (xb63_ok K0.K) ?_
  rintro rv h' ⟨rfl, K⟩
  have F : (∀ a, a ≠ 0 → h'[a]? = h[a]?) := fun a ha => KN.off K0 K (lkn (fun z => ha z.symm) (lke (lke (lke (lke (lke (lke rfl)))))))
  exact ⟨_, _, rfl, ⟨E.1, E.2⟩, R0.st F (K.at rfl), F⟩
theorem ga_station_A {h : J_H} {n S m D d : Nat} {w tk : List Int32} {sst th sst' acne acs : Int32} (R : hX 327 343 n S w sst h) (X : wX n S w m D) (hb : m < 2 ^ 30 ∧ D < 2 ^ 30) (x1 : Int32) (x2 : Int32) : j_V jP d 117 0 (lv_args 0 [.ref 0, .int x1, .int x2]) [] h (fun rv h' => ∃ v st, rv = some (.int v) ∧ (v = (m_qstation th sst' w x1 x2).1 ∧ st = (m_qstation th sst' w x1 x2).2.2) ∧ hX 327 343 n S w st h' ∧ (∀ a, a ≠ 0 → h'[a]? = h[a]?)) := by
  have R0 := R
  have C0 := R.1
  refine hX.opn R (fun mi shu bus lks rl pev rk sta ph sp ce du he ri us cm lf lkd row sea pms pmm pmt pst pwa prs prr pfa CS hl4 V cel run tra len siz frm tto lst slo wei fit way rid lon CL Y T hlY => ?_)
  have E := eq_station (th := th) (sst' := sst') (sst := sst) V.1.g V.2.1.1 V.2.1.2.1 V.2.2.2.1 Y (fun s hs => (T.1 s hs).1) x1 x2
  have K0 : kA h [(0, .inl (9, [.ref 1, .ref 3, .ref 4, .ref 29, .ref 281, .ref 325, .ref 327, .ref 343, .int sst])), (4, .inl (7, [.ref 327, .int mi, .int shu, .int bus, .ref 5, .ref 6, .ref 7, .ref 8, .ref 9, .ref 10, .ref 11, .ref 12, .ref 13, .ref 14, .ref 15, .int lks, .ref 16, .ref 17, .ref 20])), (7, .inr (.inl (0, ph))), (8, .inr (.inl (0, sp))), (327, .inl (2, [.int (nI S), .ref 328, .ref 329, .ref 330, .ref 331, .int (nI n), .ref 332, .ref 333, .ref 334, .ref 335, .ref 336, .ref 337, .ref 338, .int cel, .ref 339, .ref 340, .ref 341, .ref 342])), (329, .inr (.inl (0, run))), (330, .inr (.inl (0, tra))), (331, .inr (.inl (0, len)))] := ⟨C0, CS.1, CS.2.2.2.1, CS.2.2.2.2.1, CL.1, CL.2.1, CL.2.2.1, CL.2.2.2.1, trivial⟩
  refine j_V.mono (xa53_ok K0.K) ?_
  rintro rv h' ⟨rfl, K⟩
  have F : (∀ a, a ≠ 0 → h'[a]? = h[a]?) := fun a ha => KN.off K0 K (lkn (fun z => ha z.symm) (lke (lke (lke (lke (lke (lke (lke rfl))))))))
  exact ⟨_, _, rfl, ⟨E.1, E.2⟩, R0.st F (K.at rfl), F⟩
theorem ga_station_B {h : J_H} {n S m D d : Nat} {w tk : List Int32} {sst th sst' acne acs : Int32} (R : hX 343 327 n S w sst h) (X : wX n S w m D) (hb : m < 2 ^ 30 ∧ D < 2 ^ 30) (x1 : Int32) (x2 : Int32) : j_V jP d 117 0 (lv_args 0 [.ref 0, .int x1, .int x2]) [] h (fun rv h' => ∃ v st, rv = some (.int v) ∧ (v = (m_qstation th sst' w x1 x2).1 ∧ st = (m_qstation th sst' w x1 x2).2.2) ∧ hX 343 327 n S w st h' ∧ (∀ a, a ≠ 0 → h'[a]? = h[a]?)) := by
  have R0 := R
  have C0 := R.1
  refine hX.opn R (fun mi shu bus lks rl pev rk sta ph sp ce du he ri us cm lf lkd row sea pms pmm pmt pst pwa prs prr pfa CS hl4 V cel run tra len siz frm tto lst slo wei fit way rid lon CL Y T hlY => ?_)
  have E := eq_station (th := th) (sst' := sst') (sst := sst) V.1.g V.2.1.1 V.2.1.2.1 V.2.2.2.1 Y (fun s hs => (T.1 s hs).1) x1 x2
  have K0 : kA h [(0, .inl (9, [.ref 1, .ref 3, .ref 4, .ref 29, .ref 281, .ref 325, .ref 343, .ref 327, .int sst])), (4, .inl (7, [.ref 343, .int mi, .int shu, .int bus, .ref 5, .ref 6, .ref 7, .ref 8, .ref 9, .ref 10, .ref 11, .ref 12, .ref 13, .ref 14, .ref 15, .int lks, .ref 16, .ref 17, .ref 20])), (7, .inr (.inl (0, ph))), (8, .inr (.inl (0, sp))), (343, .inl (2, [.int (nI S), .ref 344, .ref 345, .ref 346, .ref 347, .int (nI n), .ref 348, .ref 349, .ref 350, .ref 351, .ref 352, .ref 353, .ref 354, .int cel, .ref 355, .ref 356, .ref 357, .ref 358])), (345, .inr (.inl (0, run))), (346, .inr (.inl (0, tra))), (347, .inr (.inl (0, len)))] := ⟨C0, CS.1, CS.2.2.2.1, CS.2.2.2.2.1, CL.1, CL.2.1, CL.2.2.1, CL.2.2.2.1, trivial⟩
  refine j_V.mono (xb53_ok K0.K) ?_
  rintro rv h' ⟨rfl, K⟩
  have F : (∀ a, a ≠ 0 → h'[a]? = h[a]?) := fun a ha => KN.off K0 K (lkn (fun z => ha z.symm) (lke (lke (lke (lke (lke (lke (lke rfl))))))))
  exact ⟨_, _, rfl, ⟨E.1, E.2⟩, R0.st F (K.at rfl), F⟩
theorem ga_track_A {h : J_H} {n S m D d : Nat} {w tk : List Int32} {sst th sst' acne acs : Int32} (R : hX 327 343 n S w sst h) (X : wX n S w m D) (hb : m < 2 ^ 30 ∧ D < 2 ^ 30) (x1 : Int32) (x2 : Int32) (x3 : Int32) : j_V jP d 118 0 (lv_args 0 [.ref 0, .int x1, .int x2, .int x3]) [] h (fun rv h' => ∃ v st, rv = some (.int v) ∧ (v = (m_qtrack th sst' w x1 x2 x3).1 ∧ st = (m_qtrack th sst' w x1 x2 x3).2.2) ∧ hX 327 343 n S w st h' ∧ (∀ a, a ≠ 0 → h'[a]? = h[a]?)) := by
  have R0 := R
  have C0 := R.1
  refine hX.opn R (fun mi shu bus lks rl pev rk sta ph sp ce du he ri us cm lf lkd row sea pms pmm pmt pst pwa prs prr pfa CS hl4 V cel run tra len siz frm tto lst slo wei fit way rid lon CL Y T hlY => ?_)
  have E := eq_track (th := th) (sst' := sst') (sst := sst) V.1.g V.2.1.1 V.2.2.2.1 Y x1 x2 x3
  have K0 : kA h [(0, .inl (9, [.ref 1, .ref 3, .ref 4, .ref 29, .ref 281, .ref 325, .ref 327, .ref 343, .int sst])), (4, .inl (7, [.ref 327, .int mi, .int shu, .int bus, .ref 5, .ref 6, .ref 7, .ref 8, .ref 9, .ref 10, .ref 11, .ref 12, .ref 13, .ref 14, .ref 15, .int lks, .ref 16, .ref 17, .ref 20])), (9, .inr (.inl (0, ce))), (327, .inl (2, [.int (nI S), .ref 328, .ref 329, .ref 330, .ref 331, .int (nI n), .ref 332, .ref 333, .ref 334, .ref 335, .ref 336, .ref 337, .ref 338, .int cel, .ref 339, .ref 340, .ref 341, .ref 342])), (330, .inr (.inl (0, tra))), (331, .inr (.inl (0, len)))] := ⟨C0, CS.1, CS.2.2.2.2.2.1, CL.1, CL.2.2.1, CL.2.2.2.1, trivial⟩
  refine j_V.mono (xa72_ok K0.K) ?_
  rintro rv h' ⟨rfl, K⟩
  have F : (∀ a, a ≠ 0 → h'[a]? = h[a]?) := fun a ha => KN.off K0 K (lkn (fun z => ha z.symm) (lke (lke (lke (lke (lke rfl))))))
  exact ⟨_, _, rfl, ⟨E.1, E.2⟩, R0.st F (K.at rfl), F⟩
theorem ga_track_B {h : J_H} {n S m D d : Nat} {w tk : List Int32} {sst th sst' acne acs : Int32} (R : hX 343 327 n S w sst h) (X : wX n S w m D) (hb : m < 2 ^ 30 ∧ D < 2 ^ 30) (x1 : Int32) (x2 : Int32) (x3 : Int32) : j_V jP d 118 0 (lv_args 0 [.ref 0, .int x1, .int x2, .int x3]) [] h (fun rv h' => ∃ v st, rv = some (.int v) ∧ (v = (m_qtrack th sst' w x1 x2 x3).1 ∧ st = (m_qtrack th sst' w x1 x2 x3).2.2) ∧ hX 343 327 n S w st h' ∧ (∀ a, a ≠ 0 → h'[a]? = h[a]?)) := by
  have R0 := R
  have C0 := R.1
  refine hX.opn R (fun mi shu bus lks rl pev rk sta ph sp ce du he ri us cm lf lkd row sea pms pmm pmt pst pwa prs prr pfa CS hl4 V cel run tra len siz frm tto lst slo wei fit way rid lon CL Y T hlY => ?_)
  have E := eq_track (th := th) (sst' := sst') (sst := sst) V.1.g V.2.1.1 V.2.2.2.1 Y x1 x2 x3
  have K0 : kA h [(0, .inl (9, [.ref 1, .ref 3, .ref 4, .ref 29, .ref 281, .ref 325, .ref 343, .ref 327, .int sst])), (4, .inl (7, [.ref 343, .int mi, .int shu, .int bus, .ref 5, .ref 6, .ref 7, .ref 8, .ref 9, .ref 10, .ref 11, .ref 12, .ref 13, .ref 14, .ref 15, .int lks, .ref 16, .ref 17, .ref 20])), (9, .inr (.inl (0, ce))), (343, .inl (2, [.int (nI S), .ref 344, .ref 345, .ref 346, .ref 347, .int (nI n), .ref 348, .ref 349, .ref 350, .ref 351, .ref 352, .ref 353, .ref 354, .int cel, .ref 355, .ref 356, .ref 357, .ref 358])), (346, .inr (.inl (0, tra))), (347, .inr (.inl (0, len)))] := ⟨C0, CS.1, CS.2.2.2.2.2.1, CL.1, CL.2.2.1, CL.2.2.2.1, trivial⟩
  refine j_V.mono (xb72_ok K0.K) ?_
  rintro rv h' ⟨rfl, K⟩
  have F : (∀ a, a ≠ 0 → h'[a]? = h[a]?) := fun a ha => KN.off K0 K (lkn (fun z => ha z.symm) (lke (lke (lke (lke (lke rfl))))))
  exact ⟨_, _, rfl, ⟨E.1, E.2⟩, R0.st F (K.at rfl), F⟩
theorem ga_passes_A {h : J_H} {n S m D d : Nat} {w tk : List Int32} {sst th sst' acne acs : Int32} (R : hX 327 343 n S w sst h) (X : wX n S w m D) (hb : m < 2 ^ 30 ∧ D < 2 ^ 30) (x1 : Int32) (x2 : Int32) : j_V jP d 131 0 (lv_args 0 [.ref 0, .int x1, .int x2]) [] h (fun rv h' => ∃ v st, rv = some (.int v) ∧ (v = (m_qpasses th sst' w x1 x2).1 ∧ st = (m_qpasses th sst' w x1 x2).2.2) ∧ hX 327 343 n S w st h' ∧ (∀ a, a ≠ 0 → h'[a]? = h[a]?)) := by
  have R0 := R
  have C0 := R.1
  refine hX.opn R (fun mi shu bus lks rl pev rk sta ph sp ce du he ri us cm lf lkd row sea pms pmm pmt pst pwa prs prr pfa CS hl4 V cel run tra len siz frm tto lst slo wei fit way rid lon CL Y T hlY => ?_)
  have E := eq_passes (th := th) (sst' := sst') (sst := sst) V.1.g V.2.2.2.2.2.1 (X.wZ V.1 hb) (show ¬ (1 : Int32) = 0 by decide) x1 x2
  have K0 : kA h [(0, .inl (9, [.ref 1, .ref 3, .ref 4, .ref 29, .ref 281, .ref 325, .ref 327, .ref 343, .int sst])), (4, .inl (7, [.ref 327, .int mi, .int shu, .int bus, .ref 5, .ref 6, .ref 7, .ref 8, .ref 9, .ref 10, .ref 11, .ref 12, .ref 13, .ref 14, .ref 15, .int lks, .ref 16, .ref 17, .ref 20])), (20, .inl (3, [.ref 21, .ref 22, .ref 23, .ref 24, .ref 25, .ref 26, .ref 27, .ref 28, .int pev, .int 1])), (23, .inr (.inl (0, pmt))), (327, .inl (2, [.int (nI S), .ref 328, .ref 329, .ref 330, .ref 331, .int (nI n), .ref 332, .ref 333, .ref 334, .ref 335, .ref 336, .ref 337, .ref 338, .int cel, .ref 339, .ref 340, .ref 341, .ref 342]))] := ⟨C0, CS.1, CS.2.2.2.2.2.2.2.2.2.2.2.2.2.2.2.2.1, CS.2.2.2.2.2.2.2.2.2.2.2.2.2.2.2.2.2.2.2.1, CL.1, trivial⟩
  refine j_V.mono (xa61_ok K0.K) ?_
  rintro rv h' ⟨rfl, K⟩
  have F : (∀ a, a ≠ 0 → h'[a]? = h[a]?) := fun a ha => KN.off K0 K (lkn (fun z => ha z.symm) (lke (lke (lke (lke rfl)))))
  exact ⟨_, _, rfl, ⟨E.1, E.2⟩, R0.st F (K.at rfl), F⟩
theorem ga_passes_B {h : J_H} {n S m D d : Nat} {w tk : List Int32} {sst th sst' acne acs : Int32} (R : hX 343 327 n S w sst h) (X : wX n S w m D) (hb : m < 2 ^ 30 ∧ D < 2 ^ 30) (x1 : Int32) (x2 : Int32) : j_V jP d 131 0 (lv_args 0 [.ref 0, .int x1, .int x2]) [] h (fun rv h' => ∃ v st, rv = some (.int v) ∧ (v = (m_qpasses th sst' w x1 x2).1 ∧ st = (m_qpasses th sst' w x1 x2).2.2) ∧ hX 343 327 n S w st h' ∧ (∀ a, a ≠ 0 → h'[a]? = h[a]?)) := by
  have R0 := R
  have C0 := R.1
  refine hX.opn R (fun mi shu bus lks rl pev rk sta ph sp ce du he ri us cm lf lkd row sea pms pmm pmt pst pwa prs prr pfa CS hl4 V cel run tra len siz frm tto lst slo wei fit way rid lon CL Y T hlY => ?_)
  have E := eq_passes (th := th) (sst' := sst') (sst := sst) V.1.g V.2.2.2.2.2.1 (X.wZ V.1 hb) (show ¬ (1 : Int32) = 0 by decide) x1 x2
  have K0 : kA h [(0, .inl (9, [.ref 1, .ref 3, .ref 4, .ref 29, .ref 281, .ref 325, .ref 343, .ref 327, .int sst])), (4, .inl (7, [.ref 343, .int mi, .int shu, .int bus, .ref 5, .ref 6, .ref 7, .ref 8, .ref 9, .ref 10, .ref 11, .ref 12, .ref 13, .ref 14, .ref 15, .int lks, .ref 16, .ref 17, .ref 20])), (20, .inl (3, [.ref 21, .ref 22, .ref 23, .ref 24, .ref 25, .ref 26, .ref 27, .ref 28, .int pev, .int 1])), (23, .inr (.inl (0, pmt))), (343, .inl (2, [.int (nI S), .ref 344, .ref 345, .ref 346, .ref 347, .int (nI n), .ref 348, .ref 349, .ref 350, .ref 351, .ref 352, .ref 353, .ref 354, .int cel, .ref 355, .ref 356, .ref 357, .ref 358]))] := ⟨C0, CS.1, CS.2.2.2.2.2.2.2.2.2.2.2.2.2.2.2.2.1, CS.2.2.2.2.2.2.2.2.2.2.2.2.2.2.2.2.2.2.2.1, CL.1, trivial⟩
  refine j_V.mono (xb61_ok K0.K) ?_
  rintro rv h' ⟨rfl, K⟩
  have F : (∀ a, a ≠ 0 → h'[a]? = h[a]?) := fun a ha => KN.off K0 K (lkn (fun z => ha z.symm) (lke (lke (lke (lke rfl)))))
  exact ⟨_, _, rfl, ⟨E.1, E.2⟩, R0.st F (K.at rfl), F⟩
theorem ga_train_A {h : J_H} {n S m D d : Nat} {w tk : List Int32} {sst th sst' acne acs : Int32} (R : hX 327 343 n S w sst h) (X : wX n S w m D) (hb : m < 2 ^ 30 ∧ D < 2 ^ 30) (x1 : Int32) (x2 : Int32) : j_V jP d 119 0 (lv_args 0 [.ref 0, .int x1, .int x2]) [] h (fun rv h' => ∃ v st, rv = some (.int v) ∧ (v = (m_qtrain th sst' w x1 x2).1 ∧ st = (m_qtrain th sst' w x1 x2).2.2) ∧ hX 327 343 n S w st h' ∧ (∀ a, a ≠ 0 → h'[a]? = h[a]?)) := by
  have R0 := R
  have C0 := R.1
  refine hX.opn R (fun mi shu bus lks rl pev rk sta ph sp ce du he ri us cm lf lkd row sea pms pmm pmt pst pwa prs prr pfa CS hl4 V cel run tra len siz frm tto lst slo wei fit way rid lon CL Y T hlY => ?_)
  have E := eq_train (th := th) (sst' := sst') (sst := sst) V.1 V.2.1.1 V.2.1.2.2.2.1 V.2.1.2.2.2.2.1 V.2.1.2.2.2.2.2.1 V.2.2.1 Y (fun t ht => ⟨(T.2 t ht).1, (T.2 t ht).2.2.2.1⟩) (X.wZ V.1 hb) x1 x2
  have K0 : kA h [(0, .inl (9, [.ref 1, .ref 3, .ref 4, .ref 29, .ref 281, .ref 325, .ref 327, .ref 343, .int sst])), (4, .inl (7, [.ref 327, .int mi, .int shu, .int bus, .ref 5, .ref 6, .ref 7, .ref 8, .ref 9, .ref 10, .ref 11, .ref 12, .ref 13, .ref 14, .ref 15, .int lks, .ref 16, .ref 17, .ref 20])), (5, .inr (.inl (0, rk))), (6, .inr (.inl (0, sta))), (7, .inr (.inl (0, ph))), (8, .inr (.inl (0, sp))), (9, .inr (.inl (0, ce))), (10, .inr (.inl (0, du))), (11, .inr (.inl (0, he))), (14, .inr (.inl (0, cm))), (327, .inl (2, [.int (nI S), .ref 328, .ref 329, .ref 330, .ref 331, .int (nI n), .ref 332, .ref 333, .ref 334, .ref 335, .ref 336, .ref 337, .ref 338, .int cel, .ref 339, .ref 340, .ref 341, .ref 342])), (333, .inr (.inl (0, siz))), (334, .inr (.inl (0, frm))), (335, .inr (.inl (0, tto))), (337, .inr (.inl (0, slo))), (338, .inr (.inl (0, wei))), (342, .inr (.inl (0, lon)))] := ⟨C0, CS.1, CS.2.1, CS.2.2.1, CS.2.2.2.1, CS.2.2.2.2.1, CS.2.2.2.2.2.1, CS.2.2.2.2.2.2.1, CS.2.2.2.2.2.2.2.1, CS.2.2.2.2.2.2.2.2.2.2.1, CL.1, CL.2.2.2.2.1, CL.2.2.2.2.2.1, CL.2.2.2.2.2.2.1, CL.2.2.2.2.2.2.2.2.1, CL.2.2.2.2.2.2.2.2.2.1, CL.2.2.2.2.2.2.2.2.2.2.2.2.2, trivial⟩
  refine j_V.mono (xa54_ok K0.K) ?_
  rintro rv h' ⟨rfl, K⟩
  have F : (∀ a, a ≠ 0 → h'[a]? = h[a]?) := fun a ha => KN.off K0 K (lkn (fun z => ha z.symm) (lke (lke (lke (lke (lke (lke (lke (lke (lke (lke (lke (lke (lke (lke (lke (lke rfl)))))))))))))))))
  exact ⟨_, _, rfl, ⟨E.1, E.2⟩, R0.st F (K.at rfl), F⟩
theorem ga_train_B {h : J_H} {n S m D d : Nat} {w tk : List Int32} {sst th sst' acne acs : Int32} (R : hX 343 327 n S w sst h) (X : wX n S w m D) (hb : m < 2 ^ 30 ∧ D < 2 ^ 30) (x1 : Int32) (x2 : Int32) : j_V jP d 119 0 (lv_args 0 [.ref 0, .int x1, .int x2]) [] h (fun rv h' => ∃ v st, rv = some (.int v) ∧ (v = (m_qtrain th sst' w x1 x2).1 ∧ st = (m_qtrain th sst' w x1 x2).2.2) ∧ hX 343 327 n S w st h' ∧ (∀ a, a ≠ 0 → h'[a]? = h[a]?)) := by
  have R0 := R
  have C0 := R.1
  refine hX.opn R (fun mi shu bus lks rl pev rk sta ph sp ce du he ri us cm lf lkd row sea pms pmm pmt pst pwa prs prr pfa CS hl4 V cel run tra len siz frm tto lst slo wei fit way rid lon CL Y T hlY => ?_)
  have E := eq_train (th := th) (sst' := sst') (sst := sst) V.1 V.2.1.1 V.2.1.2.2.2.1 V.2.1.2.2.2.2.1 V.2.1.2.2.2.2.2.1 V.2.2.1 Y (fun t ht => ⟨(T.2 t ht).1, (T.2 t ht).2.2.2.1⟩) (X.wZ V.1 hb) x1 x2
  have K0 : kA h [(0, .inl (9, [.ref 1, .ref 3, .ref 4, .ref 29, .ref 281, .ref 325, .ref 343, .ref 327, .int sst])), (4, .inl (7, [.ref 343, .int mi, .int shu, .int bus, .ref 5, .ref 6, .ref 7, .ref 8, .ref 9, .ref 10, .ref 11, .ref 12, .ref 13, .ref 14, .ref 15, .int lks, .ref 16, .ref 17, .ref 20])), (5, .inr (.inl (0, rk))), (6, .inr (.inl (0, sta))), (7, .inr (.inl (0, ph))), (8, .inr (.inl (0, sp))), (9, .inr (.inl (0, ce))), (10, .inr (.inl (0, du))), (11, .inr (.inl (0, he))), (14, .inr (.inl (0, cm))), (343, .inl (2, [.int (nI S), .ref 344, .ref 345, .ref 346, .ref 347, .int (nI n), .ref 348, .ref 349, .ref 350, .ref 351, .ref 352, .ref 353, .ref 354, .int cel, .ref 355, .ref 356, .ref 357, .ref 358])), (349, .inr (.inl (0, siz))), (350, .inr (.inl (0, frm))), (351, .inr (.inl (0, tto))), (353, .inr (.inl (0, slo))), (354, .inr (.inl (0, wei))), (358, .inr (.inl (0, lon)))] := ⟨C0, CS.1, CS.2.1, CS.2.2.1, CS.2.2.2.1, CS.2.2.2.2.1, CS.2.2.2.2.2.1, CS.2.2.2.2.2.2.1, CS.2.2.2.2.2.2.2.1, CS.2.2.2.2.2.2.2.2.2.2.1, CL.1, CL.2.2.2.2.1, CL.2.2.2.2.2.1, CL.2.2.2.2.2.2.1, CL.2.2.2.2.2.2.2.2.1, CL.2.2.2.2.2.2.2.2.2.1, CL.2.2.2.2.2.2.2.2.2.2.2.2.2, trivial⟩
  refine j_V.mono (xb54_ok K0.K) ?_
  rintro rv h' ⟨rfl, K⟩
  have F : (∀ a, a ≠ 0 → h'[a]? = h[a]?) := fun a ha => KN.off K0 K (lkn (fun z => ha z.symm) (lke (lke (lke (lke (lke (lke (lke (lke (lke (lke (lke (lke (lke (lke (lke (lke rfl)))))))))))))))))
  exact ⟨_, _, rfl, ⟨E.1, E.2⟩, R0.st F (K.at rfl), F⟩
theorem ga_blocks_A {h : J_H} {n S m D d : Nat} {w tk : List Int32} {sst th sst' acne acs : Int32} (R : hX 327 343 n S w sst h) (X : wX n S w m D) (hb : m < 2 ^ 30 ∧ D < 2 ^ 30) (x1 : Int32) : j_V jP d 126 0 (lv_args 0 [.ref 0, .int x1]) [] h (fun rv h' => ∃ v st, rv = some (.int v) ∧ (v = (m_qblocks th sst' w x1).1 ∧ st = (m_qblocks th sst' w x1).2.2) ∧ hX 327 343 n S w st h' ∧ (∀ a, a ≠ 0 → h'[a]? = h[a]?)) := by
  have R0 := R
  have C0 := R.1
  refine hX.opn R (fun mi shu bus lks rl pev rk sta ph sp ce du he ri us cm lf lkd row sea pms pmm pmt pst pwa prs prr pfa CS hl4 V cel run tra len siz frm tto lst slo wei fit way rid lon CL Y T hlY => ?_)
  have E := eq_blocks (th := th) (sst' := sst') (sst := sst) V.1.g V.2.1.1 V.2.1.2.1 V.2.2.2.1 V.2.1.2.2.1 Y x1
  have K0 : kA h [(0, .inl (9, [.ref 1, .ref 3, .ref 4, .ref 29, .ref 281, .ref 325, .ref 327, .ref 343, .int sst])), (4, .inl (7, [.ref 327, .int mi, .int shu, .int bus, .ref 5, .ref 6, .ref 7, .ref 8, .ref 9, .ref 10, .ref 11, .ref 12, .ref 13, .ref 14, .ref 15, .int lks, .ref 16, .ref 17, .ref 20])), (7, .inr (.inl (0, ph))), (8, .inr (.inl (0, sp))), (9, .inr (.inl (0, ce))), (12, .inr (.inl (0, ri))), (327, .inl (2, [.int (nI S), .ref 328, .ref 329, .ref 330, .ref 331, .int (nI n), .ref 332, .ref 333, .ref 334, .ref 335, .ref 336, .ref 337, .ref 338, .int cel, .ref 339, .ref 340, .ref 341, .ref 342])), (330, .inr (.inl (0, tra))), (331, .inr (.inl (0, len))), (334, .inr (.inl (0, frm))), (335, .inr (.inl (0, tto))), (339, .inr (.inl (0, fit)))] := ⟨C0, CS.1, CS.2.2.2.1, CS.2.2.2.2.1, CS.2.2.2.2.2.1, CS.2.2.2.2.2.2.2.2.1, CL.1, CL.2.2.1, CL.2.2.2.1, CL.2.2.2.2.2.1, CL.2.2.2.2.2.2.1, CL.2.2.2.2.2.2.2.2.2.2.1, trivial⟩
  refine j_V.mono (xa57_ok K0.K) ?_
  rintro rv h' ⟨rfl, K⟩
  have F : (∀ a, a ≠ 0 → h'[a]? = h[a]?) := fun a ha => KN.off K0 K (lkn (fun z => ha z.symm) (lke (lke (lke (lke (lke (lke (lke (lke (lke (lke (lke rfl))))))))))))
  exact ⟨_, _, rfl, ⟨E.1, E.2⟩, R0.st F (K.at rfl), F⟩
theorem ga_blocks_B {h : J_H} {n S m D d : Nat} {w tk : List Int32} {sst th sst' acne acs : Int32} (R : hX 343 327 n S w sst h) (X : wX n S w m D) (hb : m < 2 ^ 30 ∧ D < 2 ^ 30) (x1 : Int32) : j_V jP d 126 0 (lv_args 0 [.ref 0, .int x1]) [] h (fun rv h' => ∃ v st, rv = some (.int v) ∧ (v = (m_qblocks th sst' w x1).1 ∧ st = (m_qblocks th sst' w x1).2.2) ∧ hX 343 327 n S w st h' ∧ (∀ a, a ≠ 0 → h'[a]? = h[a]?)) := by
  have R0 := R
  have C0 := R.1
  refine hX.opn R (fun mi shu bus lks rl pev rk sta ph sp ce du he ri us cm lf lkd row sea pms pmm pmt pst pwa prs prr pfa CS hl4 V cel run tra len siz frm tto lst slo wei fit way rid lon CL Y T hlY => ?_)
  have E := eq_blocks (th := th) (sst' := sst') (sst := sst) V.1.g V.2.1.1 V.2.1.2.1 V.2.2.2.1 V.2.1.2.2.1 Y x1
  have K0 : kA h [(0, .inl (9, [.ref 1, .ref 3, .ref 4, .ref 29, .ref 281, .ref 325, .ref 343, .ref 327, .int sst])), (4, .inl (7, [.ref 343, .int mi, .int shu, .int bus, .ref 5, .ref 6, .ref 7, .ref 8, .ref 9, .ref 10, .ref 11, .ref 12, .ref 13, .ref 14, .ref 15, .int lks, .ref 16, .ref 17, .ref 20])), (7, .inr (.inl (0, ph))), (8, .inr (.inl (0, sp))), (9, .inr (.inl (0, ce))), (12, .inr (.inl (0, ri))), (343, .inl (2, [.int (nI S), .ref 344, .ref 345, .ref 346, .ref 347, .int (nI n), .ref 348, .ref 349, .ref 350, .ref 351, .ref 352, .ref 353, .ref 354, .int cel, .ref 355, .ref 356, .ref 357, .ref 358])), (346, .inr (.inl (0, tra))), (347, .inr (.inl (0, len))), (350, .inr (.inl (0, frm))), (351, .inr (.inl (0, tto))), (355, .inr (.inl (0, fit)))] := ⟨C0, CS.1, CS.2.2.2.1, CS.2.2.2.2.1, CS.2.2.2.2.2.1, CS.2.2.2.2.2.2.2.2.1, CL.1, CL.2.2.1, CL.2.2.2.1, CL.2.2.2.2.2.1, CL.2.2.2.2.2.2.1, CL.2.2.2.2.2.2.2.2.2.2.1, trivial⟩
  refine j_V.mono (xb57_ok K0.K) ?_
  rintro rv h' ⟨rfl, K⟩
  have F : (∀ a, a ≠ 0 → h'[a]? = h[a]?) := fun a ha => KN.off K0 K (lkn (fun z => ha z.symm) (lke (lke (lke (lke (lke (lke (lke (lke (lke (lke (lke rfl))))))))))))
  exact ⟨_, _, rfl, ⟨E.1, E.2⟩, R0.st F (K.at rfl), F⟩
theorem ga_ring_A {h : J_H} {n S m D d : Nat} {w tk : List Int32} {sst th sst' acne acs : Int32} (R : hX 327 343 n S w sst h) (X : wX n S w m D) (hb : m < 2 ^ 30 ∧ D < 2 ^ 30) : j_V jP d 127 0 (lv_args 0 [.ref 0]) [] h (fun rv h' => ∃ v st, rv = some (.int v) ∧ (v = (m_qring n th sst' w).1 ∧ st = (m_qring n th sst' w).2.2) ∧ hX 327 343 n S w st h' ∧ (∀ a, a ≠ 0 → h'[a]? = h[a]?)) := by
  have R0 := R
  have C0 := R.1
  refine hX.opn R (fun mi shu bus lks rl pev rk sta ph sp ce du he ri us cm lf lkd row sea pms pmm pmt pst pwa prs prr pfa CS hl4 V cel run tra len siz frm tto lst slo wei fit way rid lon CL Y T hlY => ?_)
  have E := eq_ring (th := th) (sst' := sst') (sst := sst) V.1.g V.2.1.1 V.2.1.2.1 V.2.2.2.1 V.2.1.2.2.1 Y 
  have K0 : kA h [(0, .inl (9, [.ref 1, .ref 3, .ref 4, .ref 29, .ref 281, .ref 325, .ref 327, .ref 343, .int sst])), (4, .inl (7, [.ref 327, .int mi, .int shu, .int bus, .ref 5, .ref 6, .ref 7, .ref 8, .ref 9, .ref 10, .ref 11, .ref 12, .ref 13, .ref 14, .ref 15, .int lks, .ref 16, .ref 17, .ref 20])), (7, .inr (.inl (0, ph))), (8, .inr (.inl (0, sp))), (9, .inr (.inl (0, ce))), (12, .inr (.inl (0, ri))), (327, .inl (2, [.int (nI S), .ref 328, .ref 329, .ref 330, .ref 331, .int (nI n), .ref 332, .ref 333, .ref 334, .ref 335, .ref 336, .ref 337, .ref 338, .int cel, .ref 339, .ref 340, .ref 341, .ref 342])), (330, .inr (.inl (0, tra))), (331, .inr (.inl (0, len))), (334, .inr (.inl (0, frm))), (335, .inr (.inl (0, tto))), (339, .inr (.inl (0, fit)))] := ⟨C0, CS.1, CS.2.2.2.1, CS.2.2.2.2.1, CS.2.2.2.2.2.1, CS.2.2.2.2.2.2.2.2.1, CL.1, CL.2.2.1, CL.2.2.2.1, CL.2.2.2.2.2.1, CL.2.2.2.2.2.2.1, CL.2.2.2.2.2.2.2.2.2.2.1, trivial⟩
  refine j_V.mono (xa76_ok K0.K) ?_
  rintro rv h' ⟨rfl, K⟩
  have F : (∀ a, a ≠ 0 → h'[a]? = h[a]?) := fun a ha => KN.off K0 K (lkn (fun z => ha z.symm) (lke (lke (lke (lke (lke (lke (lke (lke (lke (lke (lke rfl))))))))))))
  exact ⟨_, _, rfl, ⟨E.1, E.2⟩, R0.st F (K.at rfl), F⟩
theorem ga_ring_B {h : J_H} {n S m D d : Nat} {w tk : List Int32} {sst th sst' acne acs : Int32} (R : hX 343 327 n S w sst h) (X : wX n S w m D) (hb : m < 2 ^ 30 ∧ D < 2 ^ 30) : j_V jP d 127 0 (lv_args 0 [.ref 0]) [] h (fun rv h' => ∃ v st, rv = some (.int v) ∧ (v = (m_qring n th sst' w).1 ∧ st = (m_qring n th sst' w).2.2) ∧ hX 343 327 n S w st h' ∧ (∀ a, a ≠ 0 → h'[a]? = h[a]?)) := by
  have R0 := R
  have C0 := R.1
  refine hX.opn R (fun mi shu bus lks rl pev rk sta ph sp ce du he ri us cm lf lkd row sea pms pmm pmt pst pwa prs prr pfa CS hl4 V cel run tra len siz frm tto lst slo wei fit way rid lon CL Y T hlY => ?_)
  have E := eq_ring (th := th) (sst' := sst') (sst := sst) V.1.g V.2.1.1 V.2.1.2.1 V.2.2.2.1 V.2.1.2.2.1 Y 
  have K0 : kA h [(0, .inl (9, [.ref 1, .ref 3, .ref 4, .ref 29, .ref 281, .ref 325, .ref 343, .ref 327, .int sst])), (4, .inl (7, [.ref 343, .int mi, .int shu, .int bus, .ref 5, .ref 6, .ref 7, .ref 8, .ref 9, .ref 10, .ref 11, .ref 12, .ref 13, .ref 14, .ref 15, .int lks, .ref 16, .ref 17, .ref 20])), (7, .inr (.inl (0, ph))), (8, .inr (.inl (0, sp))), (9, .inr (.inl (0, ce))), (12, .inr (.inl (0, ri))), (343, .inl (2, [.int (nI S), .ref 344, .ref 345, .ref 346, .ref 347, .int (nI n), .ref 348, .ref 349, .ref 350, .ref 351, .ref 352, .ref 353, .ref 354, .int cel, .ref 355, .ref 356, .ref 357, .ref 358])), (346, .inr (.inl (0, tra))), (347, .inr (.inl (0, len))), (350, .inr (.inl (0, frm))), (351, .inr (.inl (0, tto))), (355, .inr (.inl (0, fit)))] := ⟨C0, CS.1, CS.2.2.2.1, CS.2.2.2.2.1, CS.2.2.2.2.2.1, CS.2.2.2.2.2.2.2.2.1, CL.1, CL.2.2.1, CL.2.2.2.1, CL.2.2.2.2.2.1, CL.2.2.2.2.2.2.1, CL.2.2.2.2.2.2.2.2.2.2.1, trivial⟩
  refine j_V.mono (xb76_ok K0.K) ?_
  rintro rv h' ⟨rfl, K⟩
  have F : (∀ a, a ≠ 0 → h'[a]? = h[a]?) := fun a ha => KN.off K0 K (lkn (fun z => ha z.symm) (lke (lke (lke (lke (lke (lke (lke (lke (lke (lke (lke rfl))))))))))))
  exact ⟨_, _, rfl, ⟨E.1, E.2⟩, R0.st F (K.at rfl), F⟩
theorem ga_why_A {h : J_H} {n S m D d : Nat} {w tk : List Int32} {sst th sst' acne acs : Int32} (R : hX 327 343 n S w sst h) (x1 : Int32) : j_V jP d 121 0 (lv_args 0 [.ref 0, .int x1]) [] h (fun rv h' => ∃ v st, rv = some (.int v) ∧ (v = (m_qwhy n th sst' w x1).1 ∧ st = (m_qwhy n th sst' w x1).2.2) ∧ hX 327 343 n S w st h' ∧ (∀ a, a ≠ 0 ∧ a ≠ 17 ∧ a ≠ 18 ∧ a ≠ 19 → h'[a]? = h[a]?)) := by
  have R0 := R
  have C0 := R.1
  refine hX.opn R (fun mi shu bus lks rl pev rk sta ph sp ce du he ri us cm lf lkd row sea pms pmm pmt pst pwa prs prr pfa CS hl4 V cel run tra len siz frm tto lst slo wei fit way rid lon CL Y T hlY => ?_)
  have E := eq_why (th := th) (sst' := sst') (sst := sst) (rl := rl) V.1 V.2.1.1 V.2.1.2.1 V.2.2.2.1 V.2.1.2.2.1 Y V.2.2.2.2.2.2.2.1 V.2.2.2.2.2.2.2.2 x1
  have K0 : kA h [(0, .inl (9, [.ref 1, .ref 3, .ref 4, .ref 29, .ref 281, .ref 325, .ref 327, .ref 343, .int sst])), (4, .inl (7, [.ref 327, .int mi, .int shu, .int bus, .ref 5, .ref 6, .ref 7, .ref 8, .ref 9, .ref 10, .ref 11, .ref 12, .ref 13, .ref 14, .ref 15, .int lks, .ref 16, .ref 17, .ref 20])), (7, .inr (.inl (0, ph))), (8, .inr (.inl (0, sp))), (9, .inr (.inl (0, ce))), (12, .inr (.inl (0, ri))), (17, .inl (5, [.ref 18, .int rl, .ref 19])), (18, .inr (.inl (0, row))), (19, .inr (.inl (0, sea))), (327, .inl (2, [.int (nI S), .ref 328, .ref 329, .ref 330, .ref 331, .int (nI n), .ref 332, .ref 333, .ref 334, .ref 335, .ref 336, .ref 337, .ref 338, .int cel, .ref 339, .ref 340, .ref 341, .ref 342])), (331, .inr (.inl (0, len))), (334, .inr (.inl (0, frm))), (335, .inr (.inl (0, tto))), (339, .inr (.inl (0, fit))), (340, .inr (.inl (0, way)))] := ⟨C0, CS.1, CS.2.2.2.1, CS.2.2.2.2.1, CS.2.2.2.2.2.1, CS.2.2.2.2.2.2.2.2.1, CS.2.2.2.2.2.2.2.2.2.2.2.2.2.1, CS.2.2.2.2.2.2.2.2.2.2.2.2.2.2.1, CS.2.2.2.2.2.2.2.2.2.2.2.2.2.2.2.1, CL.1, CL.2.2.2.1, CL.2.2.2.2.2.1, CL.2.2.2.2.2.2.1, CL.2.2.2.2.2.2.2.2.2.2.1, CL.2.2.2.2.2.2.2.2.2.2.2.1, trivial⟩
  refine j_V.mono (xa68_ok K0.K) ?_
  rintro rv h' ⟨rfl, K⟩
  have F : (∀ a, a ≠ 0 ∧ a ≠ 17 ∧ a ≠ 18 ∧ a ≠ 19 → h'[a]? = h[a]?) := fun a ha => KN.off K0 K (lkn (fun z => ha.1 z.symm) (lke (lke (lke (lke (lke (lkn (fun z => ha.2.1 z.symm) (lkn (fun z => ha.2.2.1 z.symm) (lkn (fun z => ha.2.2.2 z.symm) (lke (lke (lke (lke (lke (lke rfl)))))))))))))))
  exact ⟨_, _, rfl, ⟨E.1, E.2.1⟩, R0.sf F (K.at rfl) (K.at rfl) (K.at rfl) (K.at rfl) E.2.2.1 E.2.2.2, F⟩
theorem ga_why_B {h : J_H} {n S m D d : Nat} {w tk : List Int32} {sst th sst' acne acs : Int32} (R : hX 343 327 n S w sst h) (x1 : Int32) : j_V jP d 121 0 (lv_args 0 [.ref 0, .int x1]) [] h (fun rv h' => ∃ v st, rv = some (.int v) ∧ (v = (m_qwhy n th sst' w x1).1 ∧ st = (m_qwhy n th sst' w x1).2.2) ∧ hX 343 327 n S w st h' ∧ (∀ a, a ≠ 0 ∧ a ≠ 17 ∧ a ≠ 18 ∧ a ≠ 19 → h'[a]? = h[a]?)) := by
  have R0 := R
  have C0 := R.1
  refine hX.opn R (fun mi shu bus lks rl pev rk sta ph sp ce du he ri us cm lf lkd row sea pms pmm pmt pst pwa prs prr pfa CS hl4 V cel run tra len siz frm tto lst slo wei fit way rid lon CL Y T hlY => ?_)
  have E := eq_why (th := th) (sst' := sst') (sst := sst) (rl := rl) V.1 V.2.1.1 V.2.1.2.1 V.2.2.2.1 V.2.1.2.2.1 Y V.2.2.2.2.2.2.2.1 V.2.2.2.2.2.2.2.2 x1
  have K0 : kA h [(0, .inl (9, [.ref 1, .ref 3, .ref 4, .ref 29, .ref 281, .ref 325, .ref 343, .ref 327, .int sst])), (4, .inl (7, [.ref 343, .int mi, .int shu, .int bus, .ref 5, .ref 6, .ref 7, .ref 8, .ref 9, .ref 10, .ref 11, .ref 12, .ref 13, .ref 14, .ref 15, .int lks, .ref 16, .ref 17, .ref 20])), (7, .inr (.inl (0, ph))), (8, .inr (.inl (0, sp))), (9, .inr (.inl (0, ce))), (12, .inr (.inl (0, ri))), (17, .inl (5, [.ref 18, .int rl, .ref 19])), (18, .inr (.inl (0, row))), (19, .inr (.inl (0, sea))), (343, .inl (2, [.int (nI S), .ref 344, .ref 345, .ref 346, .ref 347, .int (nI n), .ref 348, .ref 349, .ref 350, .ref 351, .ref 352, .ref 353, .ref 354, .int cel, .ref 355, .ref 356, .ref 357, .ref 358])), (347, .inr (.inl (0, len))), (350, .inr (.inl (0, frm))), (351, .inr (.inl (0, tto))), (355, .inr (.inl (0, fit))), (356, .inr (.inl (0, way)))] := ⟨C0, CS.1, CS.2.2.2.1, CS.2.2.2.2.1, CS.2.2.2.2.2.1, CS.2.2.2.2.2.2.2.2.1, CS.2.2.2.2.2.2.2.2.2.2.2.2.2.1, CS.2.2.2.2.2.2.2.2.2.2.2.2.2.2.1, CS.2.2.2.2.2.2.2.2.2.2.2.2.2.2.2.1, CL.1, CL.2.2.2.1, CL.2.2.2.2.2.1, CL.2.2.2.2.2.2.1, CL.2.2.2.2.2.2.2.2.2.2.1, CL.2.2.2.2.2.2.2.2.2.2.2.1, trivial⟩
  refine j_V.mono (xb68_ok K0.K) ?_
  rintro rv h' ⟨rfl, K⟩
  have F : (∀ a, a ≠ 0 ∧ a ≠ 17 ∧ a ≠ 18 ∧ a ≠ 19 → h'[a]? = h[a]?) := fun a ha => KN.off K0 K (lkn (fun z => ha.1 z.symm) (lke (lke (lke (lke (lke (lkn (fun z => ha.2.1 z.symm) (lkn (fun z => ha.2.2.1 z.symm) (lkn (fun z => ha.2.2.2 z.symm) (lke (lke (lke (lke (lke (lke rfl)))))))))))))))
  exact ⟨_, _, rfl, ⟨E.1, E.2.1⟩, R0.sf F (K.at rfl) (K.at rfl) (K.at rfl) (K.at rfl) E.2.2.1 E.2.2.2, F⟩
theorem ga_risks_A {h : J_H} {n S m D d : Nat} {w tk : List Int32} {sst th sst' acne acs : Int32} (R : hX 327 343 n S w sst h) : j_V jP d 123 0 (lv_args 0 [.ref 0]) [] h (fun rv h' => ∃ v st, rv = some (.int v) ∧ (v = (m_qrisks n th sst' w).1 ∧ st = (m_qrisks n th sst' w).2.2) ∧ hX 327 343 n S w st h' ∧ (∀ a, a ≠ 0 ∧ a ≠ 17 ∧ a ≠ 18 ∧ a ≠ 19 → h'[a]? = h[a]?)) := by
  have R0 := R
  have C0 := R.1
  refine hX.opn R (fun mi shu bus lks rl pev rk sta ph sp ce du he ri us cm lf lkd row sea pms pmm pmt pst pwa prs prr pfa CS hl4 V cel run tra len siz frm tto lst slo wei fit way rid lon CL Y T hlY => ?_)
  have E := eq_risks (th := th) (sst' := sst') (sst := sst) (rl := rl) V.1 V.2.1.1 V.2.1.2.1 V.2.2.2.1 V.2.1.2.2.1 Y V.2.2.2.2.2.2.2.1 V.2.2.2.2.2.2.2.2 
  have K0 : kA h [(0, .inl (9, [.ref 1, .ref 3, .ref 4, .ref 29, .ref 281, .ref 325, .ref 327, .ref 343, .int sst])), (4, .inl (7, [.ref 327, .int mi, .int shu, .int bus, .ref 5, .ref 6, .ref 7, .ref 8, .ref 9, .ref 10, .ref 11, .ref 12, .ref 13, .ref 14, .ref 15, .int lks, .ref 16, .ref 17, .ref 20])), (7, .inr (.inl (0, ph))), (8, .inr (.inl (0, sp))), (9, .inr (.inl (0, ce))), (12, .inr (.inl (0, ri))), (17, .inl (5, [.ref 18, .int rl, .ref 19])), (18, .inr (.inl (0, row))), (19, .inr (.inl (0, sea))), (327, .inl (2, [.int (nI S), .ref 328, .ref 329, .ref 330, .ref 331, .int (nI n), .ref 332, .ref 333, .ref 334, .ref 335, .ref 336, .ref 337, .ref 338, .int cel, .ref 339, .ref 340, .ref 341, .ref 342])), (331, .inr (.inl (0, len))), (334, .inr (.inl (0, frm))), (335, .inr (.inl (0, tto))), (339, .inr (.inl (0, fit))), (340, .inr (.inl (0, way)))] := ⟨C0, CS.1, CS.2.2.2.1, CS.2.2.2.2.1, CS.2.2.2.2.2.1, CS.2.2.2.2.2.2.2.2.1, CS.2.2.2.2.2.2.2.2.2.2.2.2.2.1, CS.2.2.2.2.2.2.2.2.2.2.2.2.2.2.1, CS.2.2.2.2.2.2.2.2.2.2.2.2.2.2.2.1, CL.1, CL.2.2.2.1, CL.2.2.2.2.2.1, CL.2.2.2.2.2.2.1, CL.2.2.2.2.2.2.2.2.2.2.1, CL.2.2.2.2.2.2.2.2.2.2.2.1, trivial⟩
  refine j_V.mono (xa70_ok K0.K) ?_
  rintro rv h' ⟨rfl, K⟩
  have F : (∀ a, a ≠ 0 ∧ a ≠ 17 ∧ a ≠ 18 ∧ a ≠ 19 → h'[a]? = h[a]?) := fun a ha => KN.off K0 K (lkn (fun z => ha.1 z.symm) (lke (lke (lke (lke (lke (lkn (fun z => ha.2.1 z.symm) (lkn (fun z => ha.2.2.1 z.symm) (lkn (fun z => ha.2.2.2 z.symm) (lke (lke (lke (lke (lke (lke rfl)))))))))))))))
  exact ⟨_, _, rfl, ⟨E.1, E.2.1⟩, R0.sf F (K.at rfl) (K.at rfl) (K.at rfl) (K.at rfl) E.2.2.1 E.2.2.2, F⟩
theorem ga_risks_B {h : J_H} {n S m D d : Nat} {w tk : List Int32} {sst th sst' acne acs : Int32} (R : hX 343 327 n S w sst h) : j_V jP d 123 0 (lv_args 0 [.ref 0]) [] h (fun rv h' => ∃ v st, rv = some (.int v) ∧ (v = (m_qrisks n th sst' w).1 ∧ st = (m_qrisks n th sst' w).2.2) ∧ hX 343 327 n S w st h' ∧ (∀ a, a ≠ 0 ∧ a ≠ 17 ∧ a ≠ 18 ∧ a ≠ 19 → h'[a]? = h[a]?)) := by
  have R0 := R
  have C0 := R.1
  refine hX.opn R (fun mi shu bus lks rl pev rk sta ph sp ce du he ri us cm lf lkd row sea pms pmm pmt pst pwa prs prr pfa CS hl4 V cel run tra len siz frm tto lst slo wei fit way rid lon CL Y T hlY => ?_)
  have E := eq_risks (th := th) (sst' := sst') (sst := sst) (rl := rl) V.1 V.2.1.1 V.2.1.2.1 V.2.2.2.1 V.2.1.2.2.1 Y V.2.2.2.2.2.2.2.1 V.2.2.2.2.2.2.2.2 
  have K0 : kA h [(0, .inl (9, [.ref 1, .ref 3, .ref 4, .ref 29, .ref 281, .ref 325, .ref 343, .ref 327, .int sst])), (4, .inl (7, [.ref 343, .int mi, .int shu, .int bus, .ref 5, .ref 6, .ref 7, .ref 8, .ref 9, .ref 10, .ref 11, .ref 12, .ref 13, .ref 14, .ref 15, .int lks, .ref 16, .ref 17, .ref 20])), (7, .inr (.inl (0, ph))), (8, .inr (.inl (0, sp))), (9, .inr (.inl (0, ce))), (12, .inr (.inl (0, ri))), (17, .inl (5, [.ref 18, .int rl, .ref 19])), (18, .inr (.inl (0, row))), (19, .inr (.inl (0, sea))), (343, .inl (2, [.int (nI S), .ref 344, .ref 345, .ref 346, .ref 347, .int (nI n), .ref 348, .ref 349, .ref 350, .ref 351, .ref 352, .ref 353, .ref 354, .int cel, .ref 355, .ref 356, .ref 357, .ref 358])), (347, .inr (.inl (0, len))), (350, .inr (.inl (0, frm))), (351, .inr (.inl (0, tto))), (355, .inr (.inl (0, fit))), (356, .inr (.inl (0, way)))] := ⟨C0, CS.1, CS.2.2.2.1, CS.2.2.2.2.1, CS.2.2.2.2.2.1, CS.2.2.2.2.2.2.2.2.1, CS.2.2.2.2.2.2.2.2.2.2.2.2.2.1, CS.2.2.2.2.2.2.2.2.2.2.2.2.2.2.1, CS.2.2.2.2.2.2.2.2.2.2.2.2.2.2.2.1, CL.1, CL.2.2.2.1, CL.2.2.2.2.2.1, CL.2.2.2.2.2.2.1, CL.2.2.2.2.2.2.2.2.2.2.1, CL.2.2.2.2.2.2.2.2.2.2.2.1, trivial⟩
  refine j_V.mono (xb70_ok K0.K) ?_
  rintro rv h' ⟨rfl, K⟩
  have F : (∀ a, a ≠ 0 ∧ a ≠ 17 ∧ a ≠ 18 ∧ a ≠ 19 → h'[a]? = h[a]?) := fun a ha => KN.off K0 K (lkn (fun z => ha.1 z.symm) (lke (lke (lke (lke (lke (lkn (fun z => ha.2.1 z.symm) (lkn (fun z => ha.2.2.1 z.symm) (lkn (fun z => ha.2.2.2 z.symm) (lke (lke (lke (lke (lke (lke rfl)))))))))))))))
  exact ⟨_, _, rfl, ⟨E.1, E.2.1⟩, R0.sf F (K.at rfl) (K.at rfl) (K.at rfl) (K.at rfl) E.2.2.1 E.2.2.2, F⟩
theorem ga_through_A {h : J_H} {n S m D d : Nat} {w tk : List Int32} {sst th sst' acne acs : Int32} (R : hX 327 343 n S w sst h) (htk : tk.length = 5) (x1 : Int32) : j_V jP d 122 0 (lv_args 0 [.ref 0, .int x1]) [] h (fun rv h' => ∃ v st, rv = some (.int v) ∧ (v = (m_qthrough n th sst' w tk x1).1 ∧ st = (m_qthrough n th sst' w tk x1).2.2) ∧ hX 327 343 n S w st h' ∧ (∀ a, a ≠ 0 ∧ a ≠ 17 ∧ a ≠ 18 ∧ a ≠ 19 → h'[a]? = h[a]?)) := by
  have R0 := R
  have C0 := R.1
  refine hX.opn R (fun mi shu bus lks rl pev rk sta ph sp ce du he ri us cm lf lkd row sea pms pmm pmt pst pwa prs prr pfa CS hl4 V cel run tra len siz frm tto lst slo wei fit way rid lon CL Y T hlY => ?_)
  have E := eq_through (th := th) (sst' := sst') (sst := sst) (rl := rl) V.1 V.2.1.1 V.2.2.2.1 Y htk V.2.2.2.2.2.2.2.1 V.2.2.2.2.2.2.2.2 x1
  have K0 : kA h [(0, .inl (9, [.ref 1, .ref 3, .ref 4, .ref 29, .ref 281, .ref 325, .ref 327, .ref 343, .int sst])), (4, .inl (7, [.ref 327, .int mi, .int shu, .int bus, .ref 5, .ref 6, .ref 7, .ref 8, .ref 9, .ref 10, .ref 11, .ref 12, .ref 13, .ref 14, .ref 15, .int lks, .ref 16, .ref 17, .ref 20])), (9, .inr (.inl (0, ce))), (17, .inl (5, [.ref 18, .int rl, .ref 19])), (18, .inr (.inl (0, row))), (19, .inr (.inl (0, sea))), (327, .inl (2, [.int (nI S), .ref 328, .ref 329, .ref 330, .ref 331, .int (nI n), .ref 332, .ref 333, .ref 334, .ref 335, .ref 336, .ref 337, .ref 338, .int cel, .ref 339, .ref 340, .ref 341, .ref 342])), (339, .inr (.inl (0, fit))), (340, .inr (.inl (0, way)))] := ⟨C0, CS.1, CS.2.2.2.2.2.1, CS.2.2.2.2.2.2.2.2.2.2.2.2.2.1, CS.2.2.2.2.2.2.2.2.2.2.2.2.2.2.1, CS.2.2.2.2.2.2.2.2.2.2.2.2.2.2.2.1, CL.1, CL.2.2.2.2.2.2.2.2.2.2.1, CL.2.2.2.2.2.2.2.2.2.2.2.1, trivial⟩
  refine j_V.mono (xa69_ok K0.K) ?_
  rintro rv h' ⟨rfl, K⟩
  have F : (∀ a, a ≠ 0 ∧ a ≠ 17 ∧ a ≠ 18 ∧ a ≠ 19 → h'[a]? = h[a]?) := fun a ha => KN.off K0 K (lkn (fun z => ha.1 z.symm) (lke (lke (lkn (fun z => ha.2.1 z.symm) (lkn (fun z => ha.2.2.1 z.symm) (lkn (fun z => ha.2.2.2 z.symm) (lke (lke (lke rfl)))))))))
  exact ⟨_, _, rfl, ⟨E.1, E.2.1⟩, R0.sf F (K.at rfl) (K.at rfl) (K.at rfl) (K.at rfl) E.2.2.1 E.2.2.2, F⟩
theorem ga_through_B {h : J_H} {n S m D d : Nat} {w tk : List Int32} {sst th sst' acne acs : Int32} (R : hX 343 327 n S w sst h) (htk : tk.length = 5) (x1 : Int32) : j_V jP d 122 0 (lv_args 0 [.ref 0, .int x1]) [] h (fun rv h' => ∃ v st, rv = some (.int v) ∧ (v = (m_qthrough n th sst' w tk x1).1 ∧ st = (m_qthrough n th sst' w tk x1).2.2) ∧ hX 343 327 n S w st h' ∧ (∀ a, a ≠ 0 ∧ a ≠ 17 ∧ a ≠ 18 ∧ a ≠ 19 → h'[a]? = h[a]?)) := by
  have R0 := R
  have C0 := R.1
  refine hX.opn R (fun mi shu bus lks rl pev rk sta ph sp ce du he ri us cm lf lkd row sea pms pmm pmt pst pwa prs prr pfa CS hl4 V cel run tra len siz frm tto lst slo wei fit way rid lon CL Y T hlY => ?_)
  have E := eq_through (th := th) (sst' := sst') (sst := sst) (rl := rl) V.1 V.2.1.1 V.2.2.2.1 Y htk V.2.2.2.2.2.2.2.1 V.2.2.2.2.2.2.2.2 x1
  have K0 : kA h [(0, .inl (9, [.ref 1, .ref 3, .ref 4, .ref 29, .ref 281, .ref 325, .ref 343, .ref 327, .int sst])), (4, .inl (7, [.ref 343, .int mi, .int shu, .int bus, .ref 5, .ref 6, .ref 7, .ref 8, .ref 9, .ref 10, .ref 11, .ref 12, .ref 13, .ref 14, .ref 15, .int lks, .ref 16, .ref 17, .ref 20])), (9, .inr (.inl (0, ce))), (17, .inl (5, [.ref 18, .int rl, .ref 19])), (18, .inr (.inl (0, row))), (19, .inr (.inl (0, sea))), (343, .inl (2, [.int (nI S), .ref 344, .ref 345, .ref 346, .ref 347, .int (nI n), .ref 348, .ref 349, .ref 350, .ref 351, .ref 352, .ref 353, .ref 354, .int cel, .ref 355, .ref 356, .ref 357, .ref 358])), (355, .inr (.inl (0, fit))), (356, .inr (.inl (0, way)))] := ⟨C0, CS.1, CS.2.2.2.2.2.1, CS.2.2.2.2.2.2.2.2.2.2.2.2.2.1, CS.2.2.2.2.2.2.2.2.2.2.2.2.2.2.1, CS.2.2.2.2.2.2.2.2.2.2.2.2.2.2.2.1, CL.1, CL.2.2.2.2.2.2.2.2.2.2.1, CL.2.2.2.2.2.2.2.2.2.2.2.1, trivial⟩
  refine j_V.mono (xb69_ok K0.K) ?_
  rintro rv h' ⟨rfl, K⟩
  have F : (∀ a, a ≠ 0 ∧ a ≠ 17 ∧ a ≠ 18 ∧ a ≠ 19 → h'[a]? = h[a]?) := fun a ha => KN.off K0 K (lkn (fun z => ha.1 z.symm) (lke (lke (lkn (fun z => ha.2.1 z.symm) (lkn (fun z => ha.2.2.1 z.symm) (lkn (fun z => ha.2.2.2 z.symm) (lke (lke (lke rfl)))))))))
  exact ⟨_, _, rfl, ⟨E.1, E.2.1⟩, R0.sf F (K.at rfl) (K.at rfl) (K.at rfl) (K.at rfl) E.2.2.1 E.2.2.2, F⟩
theorem ga_weak_A {h : J_H} {n S m D d : Nat} {w tk : List Int32} {sst th sst' acne acs : Int32} (R : hX 327 343 n S w sst h) (x1 : Int32) : j_V jP d 124 0 (lv_args 0 [.ref 0, .int x1]) [] h (fun rv h' => ∃ v st, rv = some (.int v) ∧ (v = (m_qweak n th sst' w x1).1 ∧ st = (m_qweak n th sst' w x1).2.2) ∧ hX 327 343 n S w st h' ∧ (∀ a, a ≠ 0 ∧ a ≠ 17 ∧ a ≠ 18 ∧ a ≠ 19 → h'[a]? = h[a]?)) := by
  have R0 := R
  have C0 := R.1
  refine hX.opn R (fun mi shu bus lks rl pev rk sta ph sp ce du he ri us cm lf lkd row sea pms pmm pmt pst pwa prs prr pfa CS hl4 V cel run tra len siz frm tto lst slo wei fit way rid lon CL Y T hlY => ?_)
  have E := eq_weak (th := th) (sst' := sst') (sst := sst) (rl := rl) V.1 V.2.1.1 V.2.2.2.1 Y V.2.2.2.2.2.2.2.1 V.2.2.2.2.2.2.2.2 x1
  have K0 : kA h [(0, .inl (9, [.ref 1, .ref 3, .ref 4, .ref 29, .ref 281, .ref 325, .ref 327, .ref 343, .int sst])), (4, .inl (7, [.ref 327, .int mi, .int shu, .int bus, .ref 5, .ref 6, .ref 7, .ref 8, .ref 9, .ref 10, .ref 11, .ref 12, .ref 13, .ref 14, .ref 15, .int lks, .ref 16, .ref 17, .ref 20])), (9, .inr (.inl (0, ce))), (17, .inl (5, [.ref 18, .int rl, .ref 19])), (18, .inr (.inl (0, row))), (19, .inr (.inl (0, sea))), (327, .inl (2, [.int (nI S), .ref 328, .ref 329, .ref 330, .ref 331, .int (nI n), .ref 332, .ref 333, .ref 334, .ref 335, .ref 336, .ref 337, .ref 338, .int cel, .ref 339, .ref 340, .ref 341, .ref 342])), (330, .inr (.inl (0, tra))), (339, .inr (.inl (0, fit))), (340, .inr (.inl (0, way)))] := ⟨C0, CS.1, CS.2.2.2.2.2.1, CS.2.2.2.2.2.2.2.2.2.2.2.2.2.1, CS.2.2.2.2.2.2.2.2.2.2.2.2.2.2.1, CS.2.2.2.2.2.2.2.2.2.2.2.2.2.2.2.1, CL.1, CL.2.2.1, CL.2.2.2.2.2.2.2.2.2.2.1, CL.2.2.2.2.2.2.2.2.2.2.2.1, trivial⟩
  refine j_V.mono (xa71_ok K0.K) ?_
  rintro rv h' ⟨rfl, K⟩
  have F : (∀ a, a ≠ 0 ∧ a ≠ 17 ∧ a ≠ 18 ∧ a ≠ 19 → h'[a]? = h[a]?) := fun a ha => KN.off K0 K (lkn (fun z => ha.1 z.symm) (lke (lke (lkn (fun z => ha.2.1 z.symm) (lkn (fun z => ha.2.2.1 z.symm) (lkn (fun z => ha.2.2.2 z.symm) (lke (lke (lke (lke rfl))))))))))
  exact ⟨_, _, rfl, ⟨E.1, E.2.1⟩, R0.sf F (K.at rfl) (K.at rfl) (K.at rfl) (K.at rfl) E.2.2.1 E.2.2.2, F⟩
theorem ga_weak_B {h : J_H} {n S m D d : Nat} {w tk : List Int32} {sst th sst' acne acs : Int32} (R : hX 343 327 n S w sst h) (x1 : Int32) : j_V jP d 124 0 (lv_args 0 [.ref 0, .int x1]) [] h (fun rv h' => ∃ v st, rv = some (.int v) ∧ (v = (m_qweak n th sst' w x1).1 ∧ st = (m_qweak n th sst' w x1).2.2) ∧ hX 343 327 n S w st h' ∧ (∀ a, a ≠ 0 ∧ a ≠ 17 ∧ a ≠ 18 ∧ a ≠ 19 → h'[a]? = h[a]?)) := by
  have R0 := R
  have C0 := R.1
  refine hX.opn R (fun mi shu bus lks rl pev rk sta ph sp ce du he ri us cm lf lkd row sea pms pmm pmt pst pwa prs prr pfa CS hl4 V cel run tra len siz frm tto lst slo wei fit way rid lon CL Y T hlY => ?_)
  have E := eq_weak (th := th) (sst' := sst') (sst := sst) (rl := rl) V.1 V.2.1.1 V.2.2.2.1 Y V.2.2.2.2.2.2.2.1 V.2.2.2.2.2.2.2.2 x1
  have K0 : kA h [(0, .inl (9, [.ref 1, .ref 3, .ref 4, .ref 29, .ref 281, .ref 325, .ref 343, .ref 327, .int sst])), (4, .inl (7, [.ref 343, .int mi, .int shu, .int bus, .ref 5, .ref 6, .ref 7, .ref 8, .ref 9, .ref 10, .ref 11, .ref 12, .ref 13, .ref 14, .ref 15, .int lks, .ref 16, .ref 17, .ref 20])), (9, .inr (.inl (0, ce))), (17, .inl (5, [.ref 18, .int rl, .ref 19])), (18, .inr (.inl (0, row))), (19, .inr (.inl (0, sea))), (343, .inl (2, [.int (nI S), .ref 344, .ref 345, .ref 346, .ref 347, .int (nI n), .ref 348, .ref 349, .ref 350, .ref 351, .ref 352, .ref 353, .ref 354, .int cel, .ref 355, .ref 356, .ref 357, .ref 358])), (346, .inr (.inl (0, tra))), (355, .inr (.inl (0, fit))), (356, .inr (.inl (0, way)))] := ⟨C0, CS.1, CS.2.2.2.2.2.1, CS.2.2.2.2.2.2.2.2.2.2.2.2.2.1, CS.2.2.2.2.2.2.2.2.2.2.2.2.2.2.1, CS.2.2.2.2.2.2.2.2.2.2.2.2.2.2.2.1, CL.1, CL.2.2.1, CL.2.2.2.2.2.2.2.2.2.2.1, CL.2.2.2.2.2.2.2.2.2.2.2.1, trivial⟩
  refine j_V.mono (xb71_ok K0.K) ?_
  rintro rv h' ⟨rfl, K⟩
  have F : (∀ a, a ≠ 0 ∧ a ≠ 17 ∧ a ≠ 18 ∧ a ≠ 19 → h'[a]? = h[a]?) := fun a ha => KN.off K0 K (lkn (fun z => ha.1 z.symm) (lke (lke (lkn (fun z => ha.2.1 z.symm) (lkn (fun z => ha.2.2.1 z.symm) (lkn (fun z => ha.2.2.2 z.symm) (lke (lke (lke (lke rfl))))))))))
  exact ⟨_, _, rfl, ⟨E.1, E.2.1⟩, R0.sf F (K.at rfl) (K.at rfl) (K.at rfl) (K.at rfl) E.2.2.1 E.2.2.2, F⟩
theorem ga_many_A {h : J_H} {n S m D d : Nat} {w tk : List Int32} {sst th sst' acne acs : Int32} (R : hX 327 343 n S w sst h) (X : wX n S w m D) (hb : m < 2 ^ 30 ∧ D < 2 ^ 30) (C29 : h[29]? = some (.inl (0, [.ref 30, .int acne, .int acs]))) (x1 : Int32) : j_V jP d 116 0 (lv_args 0 [.ref 0, .int x1]) [] h (fun rv h' => ∃ v st, rv = some (.int v) ∧ (v = (m_qmany n th sst' acs w x1).1 ∧ st = (m_qmany n th sst' acs w x1).2.2) ∧ hX 327 343 n S w st h' ∧ (∀ a, a ≠ 0 ∧ a ≠ 17 ∧ a ≠ 18 ∧ a ≠ 19 → h'[a]? = h[a]?)) := by
  have R0 := R
  have C0 := R.1
  refine hX.opn R (fun mi shu bus lks rl pev rk sta ph sp ce du he ri us cm lf lkd row sea pms pmm pmt pst pwa prs prr pfa CS hl4 V cel run tra len siz frm tto lst slo wei fit way rid lon CL Y T hlY => ?_)
  have E := eq_many (th := th) (sst' := sst') (sst := sst) (rl := rl) (acco := acs) (acs := acs) V.1 V.2.1.1 V.2.1.2.1 V.2.2.2.1 V.2.1.2.2.1 V.2.1.2.2.2.2.1 V.2.1.2.2.2.2.2.1 V.2.2.1 Y V.2.2.2.2.2.2.2.1 V.2.2.2.2.2.2.2.2 rfl (x_gd V.1 V.2.1.1 V.2.1.2.2.2.2.1 V.2.1.2.2.2.2.2.1 V.2.2.1 Y (X.wZ V.1 hb)) x1
  have K0 : kA h [(0, .inl (9, [.ref 1, .ref 3, .ref 4, .ref 29, .ref 281, .ref 325, .ref 327, .ref 343, .int sst])), (4, .inl (7, [.ref 327, .int mi, .int shu, .int bus, .ref 5, .ref 6, .ref 7, .ref 8, .ref 9, .ref 10, .ref 11, .ref 12, .ref 13, .ref 14, .ref 15, .int lks, .ref 16, .ref 17, .ref 20])), (6, .inr (.inl (0, sta))), (7, .inr (.inl (0, ph))), (8, .inr (.inl (0, sp))), (9, .inr (.inl (0, ce))), (12, .inr (.inl (0, ri))), (14, .inr (.inl (0, cm))), (17, .inl (5, [.ref 18, .int rl, .ref 19])), (18, .inr (.inl (0, row))), (19, .inr (.inl (0, sea))), (29, .inl (0, [.ref 30, .int acne, .int acs])), (327, .inl (2, [.int (nI S), .ref 328, .ref 329, .ref 330, .ref 331, .int (nI n), .ref 332, .ref 333, .ref 334, .ref 335, .ref 336, .ref 337, .ref 338, .int cel, .ref 339, .ref 340, .ref 341, .ref 342])), (331, .inr (.inl (0, len))), (334, .inr (.inl (0, frm))), (335, .inr (.inl (0, tto))), (338, .inr (.inl (0, wei))), (339, .inr (.inl (0, fit))), (340, .inr (.inl (0, way))), (342, .inr (.inl (0, lon)))] := ⟨C0, CS.1, CS.2.2.1, CS.2.2.2.1, CS.2.2.2.2.1, CS.2.2.2.2.2.1, CS.2.2.2.2.2.2.2.2.1, CS.2.2.2.2.2.2.2.2.2.2.1, CS.2.2.2.2.2.2.2.2.2.2.2.2.2.1, CS.2.2.2.2.2.2.2.2.2.2.2.2.2.2.1, CS.2.2.2.2.2.2.2.2.2.2.2.2.2.2.2.1, C29, CL.1, CL.2.2.2.1, CL.2.2.2.2.2.1, CL.2.2.2.2.2.2.1, CL.2.2.2.2.2.2.2.2.2.1, CL.2.2.2.2.2.2.2.2.2.2.1, CL.2.2.2.2.2.2.2.2.2.2.2.1, CL.2.2.2.2.2.2.2.2.2.2.2.2.2, trivial⟩
  refine j_V.mono (xa75_ok K0.K) ?_
  rintro rv h' ⟨rfl, K⟩
  have F : (∀ a, a ≠ 0 ∧ a ≠ 17 ∧ a ≠ 18 ∧ a ≠ 19 → h'[a]? = h[a]?) := fun a ha => KN.off K0 K (lkn (fun z => ha.1 z.symm) (lke (lke (lke (lke (lke (lke (lke (lkn (fun z => ha.2.1 z.symm) (lkn (fun z => ha.2.2.1 z.symm) (lkn (fun z => ha.2.2.2 z.symm) (lke (lke (lke (lke (lke (lke (lke (lke (lke rfl))))))))))))))))))))
  exact ⟨_, _, rfl, ⟨E.1, E.2.1⟩, R0.sf F (K.at rfl) (K.at rfl) (K.at rfl) (K.at rfl) E.2.2.1 E.2.2.2, F⟩
theorem ga_many_B {h : J_H} {n S m D d : Nat} {w tk : List Int32} {sst th sst' acne acs : Int32} (R : hX 343 327 n S w sst h) (X : wX n S w m D) (hb : m < 2 ^ 30 ∧ D < 2 ^ 30) (C29 : h[29]? = some (.inl (0, [.ref 30, .int acne, .int acs]))) (x1 : Int32) : j_V jP d 116 0 (lv_args 0 [.ref 0, .int x1]) [] h (fun rv h' => ∃ v st, rv = some (.int v) ∧ (v = (m_qmany n th sst' acs w x1).1 ∧ st = (m_qmany n th sst' acs w x1).2.2) ∧ hX 343 327 n S w st h' ∧ (∀ a, a ≠ 0 ∧ a ≠ 17 ∧ a ≠ 18 ∧ a ≠ 19 → h'[a]? = h[a]?)) := by
  have R0 := R
  have C0 := R.1
  refine hX.opn R (fun mi shu bus lks rl pev rk sta ph sp ce du he ri us cm lf lkd row sea pms pmm pmt pst pwa prs prr pfa CS hl4 V cel run tra len siz frm tto lst slo wei fit way rid lon CL Y T hlY => ?_)
  have E := eq_many (th := th) (sst' := sst') (sst := sst) (rl := rl) (acco := acs) (acs := acs) V.1 V.2.1.1 V.2.1.2.1 V.2.2.2.1 V.2.1.2.2.1 V.2.1.2.2.2.2.1 V.2.1.2.2.2.2.2.1 V.2.2.1 Y V.2.2.2.2.2.2.2.1 V.2.2.2.2.2.2.2.2 rfl (x_gd V.1 V.2.1.1 V.2.1.2.2.2.2.1 V.2.1.2.2.2.2.2.1 V.2.2.1 Y (X.wZ V.1 hb)) x1
  have K0 : kA h [(0, .inl (9, [.ref 1, .ref 3, .ref 4, .ref 29, .ref 281, .ref 325, .ref 343, .ref 327, .int sst])), (4, .inl (7, [.ref 343, .int mi, .int shu, .int bus, .ref 5, .ref 6, .ref 7, .ref 8, .ref 9, .ref 10, .ref 11, .ref 12, .ref 13, .ref 14, .ref 15, .int lks, .ref 16, .ref 17, .ref 20])), (6, .inr (.inl (0, sta))), (7, .inr (.inl (0, ph))), (8, .inr (.inl (0, sp))), (9, .inr (.inl (0, ce))), (12, .inr (.inl (0, ri))), (14, .inr (.inl (0, cm))), (17, .inl (5, [.ref 18, .int rl, .ref 19])), (18, .inr (.inl (0, row))), (19, .inr (.inl (0, sea))), (29, .inl (0, [.ref 30, .int acne, .int acs])), (343, .inl (2, [.int (nI S), .ref 344, .ref 345, .ref 346, .ref 347, .int (nI n), .ref 348, .ref 349, .ref 350, .ref 351, .ref 352, .ref 353, .ref 354, .int cel, .ref 355, .ref 356, .ref 357, .ref 358])), (347, .inr (.inl (0, len))), (350, .inr (.inl (0, frm))), (351, .inr (.inl (0, tto))), (354, .inr (.inl (0, wei))), (355, .inr (.inl (0, fit))), (356, .inr (.inl (0, way))), (358, .inr (.inl (0, lon)))] := ⟨C0, CS.1, CS.2.2.1, CS.2.2.2.1, CS.2.2.2.2.1, CS.2.2.2.2.2.1, CS.2.2.2.2.2.2.2.2.1, CS.2.2.2.2.2.2.2.2.2.2.1, CS.2.2.2.2.2.2.2.2.2.2.2.2.2.1, CS.2.2.2.2.2.2.2.2.2.2.2.2.2.2.1, CS.2.2.2.2.2.2.2.2.2.2.2.2.2.2.2.1, C29, CL.1, CL.2.2.2.1, CL.2.2.2.2.2.1, CL.2.2.2.2.2.2.1, CL.2.2.2.2.2.2.2.2.2.1, CL.2.2.2.2.2.2.2.2.2.2.1, CL.2.2.2.2.2.2.2.2.2.2.2.1, CL.2.2.2.2.2.2.2.2.2.2.2.2.2, trivial⟩
  refine j_V.mono (xb75_ok K0.K) ?_
  rintro rv h' ⟨rfl, K⟩
  have F : (∀ a, a ≠ 0 ∧ a ≠ 17 ∧ a ≠ 18 ∧ a ≠ 19 → h'[a]? = h[a]?) := fun a ha => KN.off K0 K (lkn (fun z => ha.1 z.symm) (lke (lke (lke (lke (lke (lke (lke (lkn (fun z => ha.2.1 z.symm) (lkn (fun z => ha.2.2.1 z.symm) (lkn (fun z => ha.2.2.2 z.symm) (lke (lke (lke (lke (lke (lke (lke (lke (lke rfl))))))))))))))))))))
  exact ⟨_, _, rfl, ⟨E.1, E.2.1⟩, R0.sf F (K.at rfl) (K.at rfl) (K.at rfl) (K.at rfl) E.2.2.1 E.2.2.2, F⟩

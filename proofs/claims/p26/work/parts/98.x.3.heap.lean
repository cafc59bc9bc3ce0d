/-! what the heap tells of states, layouts, the reference: written by wip/px/gen_h0.py -/
def kA (h : J_H) : jk_K → Prop
  | [] => True
  | q :: k => h[q.1]? = some q.2 ∧ kA h k
theorem kA.lk {h : J_H} : ∀ {k : jk_K}, kA h k → ∀ a c, jk_lk k a = some c → h[a]? = some c
  | [], _, _, _, hc => by cases hc
  | q :: k, hk, a, c, hc => by
    have hc : (match Nat.beq q.1 a with | true => some q.2 | false => jk_lk k a) = some c := hc
    by_cases e : q.1 = a
    · rw [show Nat.beq q.1 a = true from Nat.beq_eq.mpr e] at hc
      cases hc
      rw [← e]; exact hk.1
    · rw [show Nat.beq q.1 a = false from Bool.eq_false_iff.mpr fun z => e (Nat.beq_eq.mp z)] at hc
      exact hk.2.lk a c hc
theorem kA.K {h : J_H} {k : jk_K} (hk : kA h k) : KN h k h := ⟨hk.lk, fun _ _ => rfl, rfl⟩
theorem lke {q : Nat × J_C} {k k' : jk_K} {a : Nat} (h : jk_lk k a = jk_lk k' a) : jk_lk (q :: k) a = jk_lk (q :: k') a := by
  show (match Nat.beq q.1 a with | true => some q.2 | false => jk_lk k a) = (match Nat.beq q.1 a with | true => some q.2 | false => jk_lk k' a)
  rw [h]
theorem lkn {x : Nat} {c c' : J_C} {k k' : jk_K} {a : Nat} (hx : x ≠ a) (h : jk_lk k a = jk_lk k' a) : jk_lk ((x, c) :: k) a = jk_lk ((x, c') :: k') a := by
  show (match Nat.beq x a with | true => some c | false => jk_lk k a) = (match Nat.beq x a with | true => some c' | false => jk_lk k' a)
  rw [show Nat.beq x a = false from Bool.eq_false_iff.mpr fun z => hx (Nat.beq_eq.mp z)]
  exact h
/-- a cell that the row leaves as it is -/
theorem KN.off {h h' : J_H} {k k' : jk_K} (hk : kA h k) (K : KN h' k' h) {a : Nat} (e : jk_lk k a = jk_lk k' a) : h'[a]? = h[a]? := by
  cases z : jk_lk k' a with
  | none => exact K.2.1 a z
  | some c => rw [K.1 a c z, hk.lk a c (e.trans z)]
/-- the cells of a state at s -/
def hSc (s : Nat) (h : J_H) (ly : Value) (mi shu bus lks rl pev pk : Int32) (rk sta ph sp ce du he ri us cm lf lkd row sea pms pmm pmt pst pwa prs prr pfa : List Int32) : Prop :=
  h[s]? = some (.inl (7, [ly, .int mi, .int shu, .int bus, .ref (s + 1), .ref (s + 2), .ref (s + 3), .ref (s + 4), .ref (s + 5), .ref (s + 6), .ref (s + 7), .ref (s + 8), .ref (s + 9), .ref (s + 10), .ref (s + 11), .int lks, .ref (s + 12), .ref (s + 13), .ref (s + 16)])) ∧ h[s + 1]? = some (.inr (.inl (0, rk))) ∧ h[s + 2]? = some (.inr (.inl (0, sta))) ∧ h[s + 3]? = some (.inr (.inl (0, ph))) ∧ h[s + 4]? = some (.inr (.inl (0, sp))) ∧ h[s + 5]? = some (.inr (.inl (0, ce))) ∧ h[s + 6]? = some (.inr (.inl (0, du))) ∧ h[s + 7]? = some (.inr (.inl (0, he))) ∧ h[s + 8]? = some (.inr (.inl (0, ri))) ∧ h[s + 9]? = some (.inr (.inl (0, us))) ∧ h[s + 10]? = some (.inr (.inl (0, cm))) ∧ h[s + 11]? = some (.inr (.inl (0, lf))) ∧ h[s + 12]? = some (.inr (.inl (0, lkd))) ∧ h[s + 13]? = some (.inl (5, [.ref (s + 14), .int rl, .ref (s + 15)])) ∧ h[s + 14]? = some (.inr (.inl (0, row))) ∧ h[s + 15]? = some (.inr (.inl (0, sea))) ∧ h[s + 16]? = some (.inl (3, [.ref (s + 17), .ref (s + 18), .ref (s + 19), .ref (s + 20), .ref (s + 21), .ref (s + 22), .ref (s + 23), .ref (s + 24), .int pev, .int pk])) ∧ h[s + 17]? = some (.inr (.inl (0, pms))) ∧ h[s + 18]? = some (.inr (.inl (0, pmm))) ∧ h[s + 19]? = some (.inr (.inl (0, pmt))) ∧ h[s + 20]? = some (.inr (.inl (0, pst))) ∧ h[s + 21]? = some (.inr (.inl (0, pwa))) ∧ h[s + 22]? = some (.inr (.inl (0, prs))) ∧ h[s + 23]? = some (.inr (.inl (0, prr))) ∧ h[s + 24]? = some (.inr (.inl (0, pfa)))
/-- a state at s, of the layout at L, told by the block w -/
def hS9 (s L : Nat) (pk : Int32) (n S : Nat) (w : List Int32) (h : J_H) : Prop := ∃ (mi shu bus lks rl pev : Int32) (rk sta ph sp ce du he ri us cm lf lkd row sea pms pmm pmt pst pwa prs prr pfa : List Int32), hSc s h (.ref L) mi shu bus lks rl pev pk rk sta ph sp ce du he ri us cm lf lkd row sea pms pmm pmt pst pwa prs prr pfa ∧ (rk.length = 5 ∧ sta.length = 5 ∧ he.length = 5 ∧ lkd.length = 12) ∧ rV n S w shu lks rk sta he lkd pk sea row bus ph sp ce du ri cm lf pfa pev prs prr mi us pms pmm pmt pst pwa
/-- the shape of a state at s -/
def hT9 (s : Nat) (pk : Int32) (h : J_H) : Prop := ∃ (ly : Value) (mi shu bus lks rl pev : Int32) (rk sta ph sp ce du he ri us cm lf lkd row sea pms pmm pmt pst pwa prs prr pfa : List Int32), hSc s h ly mi shu bus lks rl pev pk rk sta ph sp ce du he ri us cm lf lkd row sea pms pmm pmt pst pwa prs prr pfa ∧ (rk.length = 5 ∧ sta.length = 5 ∧ ph.length = 5 ∧ sp.length = 5 ∧ ce.length = 5 ∧ du.length = 5 ∧ he.length = 5 ∧ ri.length = 6 ∧ us.length = 6 ∧ cm.length = 35 ∧ lf.length = 35 ∧ lkd.length = 12 ∧ row.length = 5 ∧ sea.length = 5) ∧ (¬ pk = 0 → (pms.length = 25 ∧ pmm.length = 25 ∧ pmt.length = 25 ∧ pst.length = 7 ∧ pwa.length = 5 ∧ prs.length = 6 ∧ prr.length = 30 ∧ pfa.length = 260))
theorem hSc.fr {s : Nat} {h h' : J_H} {ly : Value} {mi shu bus lks rl pev pk : Int32} {rk sta ph sp ce du he ri us cm lf lkd row sea pms pmm pmt pst pwa prs prr pfa : List Int32} (C : hSc s h ly mi shu bus lks rl pev pk rk sta ph sp ce du he ri us cm lf lkd row sea pms pmm pmt pst pwa prs prr pfa) (F : ∀ a, s ≤ a → a < s + 25 → h'[a]? = h[a]?) : hSc s h' ly mi shu bus lks rl pev pk rk sta ph sp ce du he ri us cm lf lkd row sea pms pmm pmt pst pwa prs prr pfa := by
  obtain ⟨c0, c1, c2, c3, c4, c5, c6, c7, c8, c9, c10, c11, c12, c13, c14, c15, c16, c17, c18, c19, c20, c21, c22, c23, c24⟩ := C
  exact ⟨(F _ (by omega) (by omega)).trans c0, (F _ (by omega) (by omega)).trans c1, (F _ (by omega) (by omega)).trans c2, (F _ (by omega) (by omega)).trans c3, (F _ (by omega) (by omega)).trans c4, (F _ (by omega) (by omega)).trans c5, (F _ (by omega) (by omega)).trans c6, (F _ (by omega) (by omega)).trans c7, (F _ (by omega) (by omega)).trans c8, (F _ (by omega) (by omega)).trans c9, (F _ (by omega) (by omega)).trans c10, (F _ (by omega) (by omega)).trans c11, (F _ (by omega) (by omega)).trans c12, (F _ (by omega) (by omega)).trans c13, (F _ (by omega) (by omega)).trans c14, (F _ (by omega) (by omega)).trans c15, (F _ (by omega) (by omega)).trans c16, (F _ (by omega) (by omega)).trans c17, (F _ (by omega) (by omega)).trans c18, (F _ (by omega) (by omega)).trans c19, (F _ (by omega) (by omega)).trans c20, (F _ (by omega) (by omega)).trans c21, (F _ (by omega) (by omega)).trans c22, (F _ (by omega) (by omega)).trans c23, (F _ (by omega) (by omega)).trans c24⟩
theorem hS9.fr {s L n S : Nat} {pk : Int32} {w : List Int32} {h h' : J_H} (R : hS9 s L pk n S w h) (F : ∀ a, s ≤ a → a < s + 25 → h'[a]? = h[a]?) : hS9 s L pk n S w h' := by
  obtain ⟨mi, shu, bus, lks, rl, pev, rk, sta, ph, sp, ce, du, he, ri, us, cm, lf, lkd, row, sea, pms, pmm, pmt, pst, pwa, prs, prr, pfa, C, l, V⟩ := R
  exact ⟨mi, shu, bus, lks, rl, pev, rk, sta, ph, sp, ce, du, he, ri, us, cm, lf, lkd, row, sea, pms, pmm, pmt, pst, pwa, prs, prr, pfa, C.fr F, l, V⟩
theorem hT9.fr {s : Nat} {pk : Int32} {h h' : J_H} (R : hT9 s pk h) (F : ∀ a, s ≤ a → a < s + 25 → h'[a]? = h[a]?) : hT9 s pk h' := by
  obtain ⟨ly, mi, shu, bus, lks, rl, pev, rk, sta, ph, sp, ce, du, he, ri, us, cm, lf, lkd, row, sea, pms, pmm, pmt, pst, pwa, prs, prr, pfa, C, l, V⟩ := R
  exact ⟨ly, mi, shu, bus, lks, rl, pev, rk, sta, ph, sp, ce, du, he, ri, us, cm, lf, lkd, row, sea, pms, pmm, pmt, pst, pwa, prs, prr, pfa, C.fr F, l, V⟩
/-- a state that is told has its shape -/
theorem hS9.sh {s L n S : Nat} {pk : Int32} {w : List Int32} {h : J_H} (R : hS9 s L pk n S w h) : hT9 s pk h := by
  obtain ⟨mi, shu, bus, lks, rl, pev, rk, sta, ph, sp, ce, du, he, ri, us, cm, lf, lkd, row, sea, pms, pmm, pmt, pst, pwa, prs, prr, pfa, C, ⟨l1, l2, l3, l4⟩, V⟩ := R
  refine ⟨_, mi, shu, bus, lks, rl, pev, rk, sta, ph, sp, ce, du, he, ri, us, cm, lf, lkd, row, sea, pms, pmm, pmt, pst, pwa, prs, prr, pfa, C, ⟨l1, l2, V.2.1.1.1.1, V.2.1.1.1.2.1, V.2.1.1.1.2.2, V.2.1.2.2.2.1.1, l3, V.2.1.2.2.1.1, V.2.2.2.2.1.1, V.2.1.2.2.2.2.1.1.1, V.2.1.2.2.2.2.1.1.2, l4, V.2.2.2.2.2.2.2.2, V.2.2.2.2.2.2.2.1⟩, fun hp => ?_⟩
  have q := (V.2.2.2.2.2.1.on hp).1
  rcases V.2.1.2.2.2.2.2.2 with g | g
  · exact absurd g hp
  · exact ⟨q.1, q.2.1, q.2.2.1, q.2.2.2.1, q.2.2.2.2, g.1.2.1, g.1.2.2, g.1.1⟩
/-- rows of safety alone are written -/
theorem hS9.sf {s L n S : Nat} {pk : Int32} {w : List Int32} {h h' : J_H} {rl' : Int32} {row' sea' : List Int32} (R : hS9 s L pk n S w h) (F : ∀ a, s ≤ a → a < s + 25 → a ≠ s + 13 → a ≠ s + 14 → a ≠ s + 15 → h'[a]? = h[a]?) (c1 : h'[s + 13]? = some (.inl (5, [.ref (s + 14), .int rl', .ref (s + 15)]))) (c2 : h'[s + 14]? = some (.inr (.inl (0, row')))) (c3 : h'[s + 15]? = some (.inr (.inl (0, sea')))) (l1 : sea'.length = 5) (l2 : row'.length = 5) : hS9 s L pk n S w h' := by
  obtain ⟨mi, shu, bus, lks, rl, pev, rk, sta, ph, sp, ce, du, he, ri, us, cm, lf, lkd, row, sea, pms, pmm, pmt, pst, pwa, prs, prr, pfa, ⟨c_0, c_1, c_2, c_3, c_4, c_5, c_6, c_7, c_8, c_9, c_10, c_11, c_12, c_13, c_14, c_15, c_16, c_17, c_18, c_19, c_20, c_21, c_22, c_23, c_24⟩, l, ⟨v1, v2, v3, v4, v5, v6, v7, -, -⟩⟩ := R
  exact ⟨mi, shu, bus, lks, rl', pev, rk, sta, ph, sp, ce, du, he, ri, us, cm, lf, lkd, row', sea', pms, pmm, pmt, pst, pwa, prs, prr, pfa, ⟨(F _ (by omega) (by omega) (by omega) (by omega) (by omega)).trans c_0, (F _ (by omega) (by omega) (by omega) (by omega) (by omega)).trans c_1, (F _ (by omega) (by omega) (by omega) (by omega) (by omega)).trans c_2, (F _ (by omega) (by omega) (by omega) (by omega) (by omega)).trans c_3, (F _ (by omega) (by omega) (by omega) (by omega) (by omega)).trans c_4, (F _ (by omega) (by omega) (by omega) (by omega) (by omega)).trans c_5, (F _ (by omega) (by omega) (by omega) (by omega) (by omega)).trans c_6, (F _ (by omega) (by omega) (by omega) (by omega) (by omega)).trans c_7, (F _ (by omega) (by omega) (by omega) (by omega) (by omega)).trans c_8, (F _ (by omega) (by omega) (by omega) (by omega) (by omega)).trans c_9, (F _ (by omega) (by omega) (by omega) (by omega) (by omega)).trans c_10, (F _ (by omega) (by omega) (by omega) (by omega) (by omega)).trans c_11, (F _ (by omega) (by omega) (by omega) (by omega) (by omega)).trans c_12, c1, c2, c3, (F _ (by omega) (by omega) (by omega) (by omega) (by omega)).trans c_16, (F _ (by omega) (by omega) (by omega) (by omega) (by omega)).trans c_17, (F _ (by omega) (by omega) (by omega) (by omega) (by omega)).trans c_18, (F _ (by omega) (by omega) (by omega) (by omega) (by omega)).trans c_19, (F _ (by omega) (by omega) (by omega) (by omega) (by omega)).trans c_20, (F _ (by omega) (by omega) (by omega) (by omega) (by omega)).trans c_21, (F _ (by omega) (by omega) (by omega) (by omega) (by omega)).trans c_22, (F _ (by omega) (by omega) (by omega) (by omega) (by omega)).trans c_23, (F _ (by omega) (by omega) (by omega) (by omega) (by omega)).trans c_24⟩, l, ⟨v1, v2, v3, v4, v5, v6, v7, l1, l2⟩⟩
/-- the cells of a layout at L -/
def hYc (L : Nat) (h : J_H) (ns nt cel : Int32) (run tra len siz frm tto lst slo wei fit way rid lon : List Int32) : Prop :=
  h[L]? = some (.inl (2, [.int ns, .ref (L + 1), .ref (L + 2), .ref (L + 3), .ref (L + 4), .int nt, .ref (L + 5), .ref (L + 6), .ref (L + 7), .ref (L + 8), .ref (L + 9), .ref (L + 10), .ref (L + 11), .int cel, .ref (L + 12), .ref (L + 13), .ref (L + 14), .ref (L + 15)])) ∧ h[L + 2]? = some (.inr (.inl (0, run))) ∧ h[L + 3]? = some (.inr (.inl (0, tra))) ∧ h[L + 4]? = some (.inr (.inl (0, len))) ∧ h[L + 6]? = some (.inr (.inl (0, siz))) ∧ h[L + 7]? = some (.inr (.inl (0, frm))) ∧ h[L + 8]? = some (.inr (.inl (0, tto))) ∧ h[L + 9]? = some (.inr (.inl (0, lst))) ∧ h[L + 10]? = some (.inr (.inl (0, slo))) ∧ h[L + 11]? = some (.inr (.inl (0, wei))) ∧ h[L + 12]? = some (.inr (.inl (0, fit))) ∧ h[L + 13]? = some (.inr (.inl (0, way))) ∧ h[L + 14]? = some (.inr (.inl (0, rid))) ∧ h[L + 15]? = some (.inr (.inl (0, lon)))
/-- a layout at L, told by the block w -/
def hY9 (L n S : Nat) (w : List Int32) (h : J_H) : Prop := ∃ (cel : Int32) (run tra len siz frm tto lst slo wei fit way rid lon : List Int32), hYc L h (nI S) (nI n) cel run tra len siz frm tto lst slo wei fit way rid lon ∧ qY n S w tra len frm tto wei fit way rid lon cel ∧ lyT n S w run tra len siz frm tto slo wei ∧ (run.length = 7 ∧ tra.length = 7 ∧ len.length = 21 ∧ siz.length = 5 ∧ frm.length = 5 ∧ tto.length = 5 ∧ lst.length = 5 ∧ slo.length = 5 ∧ wei.length = 5 ∧ fit.length = 5 ∧ way.length = 35 ∧ rid.length = 30 ∧ lon.length = 5)
/-- the shape of a layout at L -/
def hZ9 (L : Nat) (h : J_H) : Prop := ∃ (ns nt cel : Int32) (run tra len siz frm tto lst slo wei fit way rid lon : List Int32), hYc L h ns nt cel run tra len siz frm tto lst slo wei fit way rid lon ∧ (run.length = 7 ∧ tra.length = 7 ∧ len.length = 21 ∧ siz.length = 5 ∧ frm.length = 5 ∧ tto.length = 5 ∧ lst.length = 5 ∧ slo.length = 5 ∧ wei.length = 5 ∧ fit.length = 5 ∧ way.length = 35 ∧ rid.length = 30 ∧ lon.length = 5)
theorem hY9.fr {L n S : Nat} {w : List Int32} {h h' : J_H} (R : hY9 L n S w h) (F : ∀ a, L ≤ a → a < L + 16 → h'[a]? = h[a]?) : hY9 L n S w h' := by
  obtain ⟨cel, run, tra, len, siz, frm, tto, lst, slo, wei, fit, way, rid, lon, ⟨c0, c1, c2, c3, c4, c5, c6, c7, c8, c9, c10, c11, c12, c13⟩, Y, T, l⟩ := R
  exact ⟨cel, run, tra, len, siz, frm, tto, lst, slo, wei, fit, way, rid, lon, ⟨(F _ (by omega) (by omega)).trans c0, (F _ (by omega) (by omega)).trans c1, (F _ (by omega) (by omega)).trans c2, (F _ (by omega) (by omega)).trans c3, (F _ (by omega) (by omega)).trans c4, (F _ (by omega) (by omega)).trans c5, (F _ (by omega) (by omega)).trans c6, (F _ (by omega) (by omega)).trans c7, (F _ (by omega) (by omega)).trans c8, (F _ (by omega) (by omega)).trans c9, (F _ (by omega) (by omega)).trans c10, (F _ (by omega) (by omega)).trans c11, (F _ (by omega) (by omega)).trans c12, (F _ (by omega) (by omega)).trans c13⟩, Y, T, l⟩
theorem hZ9.fr {L : Nat} {h h' : J_H} (R : hZ9 L h) (F : ∀ a, L ≤ a → a < L + 16 → h'[a]? = h[a]?) : hZ9 L h' := by
  obtain ⟨ns, nt, cel, run, tra, len, siz, frm, tto, lst, slo, wei, fit, way, rid, lon, ⟨c0, c1, c2, c3, c4, c5, c6, c7, c8, c9, c10, c11, c12, c13⟩, l⟩ := R
  exact ⟨ns, nt, cel, run, tra, len, siz, frm, tto, lst, slo, wei, fit, way, rid, lon, ⟨(F _ (by omega) (by omega)).trans c0, (F _ (by omega) (by omega)).trans c1, (F _ (by omega) (by omega)).trans c2, (F _ (by omega) (by omega)).trans c3, (F _ (by omega) (by omega)).trans c4, (F _ (by omega) (by omega)).trans c5, (F _ (by omega) (by omega)).trans c6, (F _ (by omega) (by omega)).trans c7, (F _ (by omega) (by omega)).trans c8, (F _ (by omega) (by omega)).trans c9, (F _ (by omega) (by omega)).trans c10, (F _ (by omega) (by omega)).trans c11, (F _ (by omega) (by omega)).trans c12, (F _ (by omega) (by omega)).trans c13⟩, l⟩
theorem hY9.sh {L n S : Nat} {w : List Int32} {h : J_H} (R : hY9 L n S w h) : hZ9 L h := by
  obtain ⟨cel, run, tra, len, siz, frm, tto, lst, slo, wei, fit, way, rid, lon, C, Y, T, l⟩ := R
  exact ⟨_, _, cel, run, tra, len, siz, frm, tto, lst, slo, wei, fit, way, rid, lon, C, l⟩
theorem lyT.sF {n S : Nat} {w w' run tra len siz frm tto slo wei : List Int32} (T : lyT n S w run tra len siz frm tto slo wei) (h5 : n ≤ 5) (hS : S ≤ 7) (h3 : ∀ s, s < 7 → mN w s ≤ 3) (h1 : ∀ s k, s < 7 → k < 5 → fs w' s k = fs w s k) (h2 : ∀ t k, t < n → k < 6 → k ≠ 3 → ft w' t k = ft w t k) : lyT n S w' run tra len siz frm tto slo wei := by
  refine ⟨fun s hs => ?_, fun t ht => ?_⟩
  · have em : mN w' s = mN w s := congrArg nV (h1 s 1 (by omega) (by decide))
    obtain ⟨a, b, c⟩ := T.1 s hs
    refine ⟨a.trans (h1 s 0 (by omega) (by decide)).symm, b.trans (h1 s 1 (by omega) (by decide)).symm, fun k hk => ?_⟩
    rw [em] at hk
    have := h3 s (by omega)
    exact (c k hk).trans (h1 s (2 + k) (by omega) (by omega)).symm
  · obtain ⟨a, b, c, d, e⟩ := T.2 t ht
    exact ⟨a.trans (h2 t 0 ht (by omega) (by omega)).symm, b.trans (h2 t 1 ht (by omega) (by omega)).symm, c.trans (h2 t 2 ht (by omega) (by omega)).symm, d.trans (h2 t 4 ht (by omega) (by omega)).symm, e.trans (h2 t 5 ht (by omega) (by omega)).symm⟩
/-- told by another block that is alike there -/
theorem hY9.to {L n S : Nat} {w w' : List Int32} {h : J_H} (R : hY9 L n S w h) (H : wg n S w) (H' : wg n S w') (h1 : ∀ s k, s < 7 → k < 5 → fs w' s k = fs w s k) (h2 : ∀ t k, t < n → k < 6 → k ≠ 3 → ft w' t k = ft w t k) : hY9 L n S w' h := by
  obtain ⟨cel, run, tra, len, siz, frm, tto, lst, slo, wei, fit, way, rid, lon, C, Y, T, l⟩ := R
  exact ⟨cel, run, tra, len, siz, frm, tto, lst, slo, wei, fit, way, rid, lon, C, Y.frame ⟨h1, fun t k ht hk => h2 t k ht (by omega) (by omega)⟩ H H', T.sF H.n5 H.S7 (fun s hs => (H.St hs).2.1) h1 h2, l⟩
/-- the reference's cells -/
def hMc (h : J_H) (u : Nat → Value) (th sst acs tm : Int32) (w sd ot kp tk od be : List Int32) : Prop :=
  h[359]? = some (.inl (10, [.int th, .ref 360, .ref 361, .ref 362, .ref 363, .ref 364, .ref 365, .ref 366, .ref 367, u 9, .int sst, u 11, u 12, .int acs, u 14, u 15, u 16, u 17, u 18, u 19, u 20, u 21, .ref 368, .int tm, .ref 369, .ref 370, .ref 371, u 27])) ∧ h[360]? = some (.inr (.inl (0, w))) ∧ h[362]? = some (.inr (.inl (0, sd))) ∧ h[363]? = some (.inr (.inl (0, ot))) ∧ h[364]? = some (.inr (.inl (0, kp))) ∧ h[368]? = some (.inr (.inl (0, tk))) ∧ h[369]? = some (.inr (.inl (0, od))) ∧ h[370]? = some (.inr (.inl (0, be)))
def hM9 (w kp : List Int32) (sst acs : Int32) (h : J_H) : Prop := ∃ (u : Nat → Value) (th tm : Int32) (sd ot tk od be : List Int32), hMc h u th sst acs tm w sd ot kp tk od be ∧ sd.length = 602 ∧ ot.length = 602
theorem hM9.fr {w kp : List Int32} {sst acs : Int32} {h h' : J_H} (R : hM9 w kp sst acs h) (F : ∀ a, 359 ≤ a → a < 371 → h'[a]? = h[a]?) : hM9 w kp sst acs h' := by
  obtain ⟨u, th, tm, sd, ot, tk, od, be, ⟨c0, c1, c2, c3, c4, c5, c6, c7⟩, l⟩ := R
  exact ⟨u, th, tm, sd, ot, tk, od, be, ⟨(F _ (by decide) (by decide)).trans c0, (F _ (by decide) (by decide)).trans c1, (F _ (by decide) (by decide)).trans c2, (F _ (by decide) (by decide)).trans c3, (F _ (by decide) (by decide)).trans c4, (F _ (by decide) (by decide)).trans c5, (F _ (by decide) (by decide)).trans c6, (F _ (by decide) (by decide)).trans c7⟩, l⟩

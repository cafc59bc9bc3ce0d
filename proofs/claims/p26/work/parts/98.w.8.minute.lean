/-! times over a whole minute -/
def eO (w' w : List Int32) (t : Nat) : Prop := ∀ j, j < 196 → (j < 56 + 28 * t ∨ 84 + 28 * t ≤ j) → gN w' j = gN w j
def wT (n : Nat) (w : List Int32) (m D : Nat) (g : Nat → Nat) : Prop := gN w 201 = nI m ∧ ∀ t, t < n → tw w t m D (g t)
section WT
variable {n S : Nat} {w w' : List Int32} {t u m D g : Nat} {care : Int32}
theorem wN.mF (N : wN n S w) (hS : S ≤ 7) (F : mF n w' w) : wN n S w' := by
  refine ⟨fun s h1 h2 => ?_, fun t ht => ?_⟩
  · rw [show fs w' s 0 = fs w s 0 from F.1 _ (by omega)]; exact N.1 s h1 h2
  · rw [F.2.2.2.2 t 4 ht (by omega)]; exact N.2 t ht
theorem tw.oth (T : tw w u m D g) (h : wTr S w u) (hS : S ≤ 7) (O : eO w' w t) (hu : u < 5) (ht : t < 5) (hne : u ≠ t) : tw w' u m D g :=
  T.same h hS ⟨fun k hk => O _ (by omega) (by omega), fun k hk => O _ (by omega) (by omega)⟩ (fun k hk => O _ (by omega) (by omega))
theorem tw.up0 (T : tw w t m D g) (h : ¬ ft w t 6 = 2) (g' : Nat) : tw w t m D g' := by
  obtain ⟨s, s1, s2, a, b, c⟩ := T
  exact ⟨s, s1, s2, a, fun e => absurd e h, c⟩
theorem tw.up1 (T : tw w t m D g) (hm : gN w 201 = nI m) (hb : m < 2 ^ 30 ∧ D < 2 ^ 30) (h : gN w 201 < ft w t 9) : tw w t m D 1 := by
  obtain ⟨s, s1, s2, a, b, c⟩ := T
  refine ⟨s, s1, s2, a, fun e => ?_, c⟩
  obtain ⟨d, d1, d2, d3, d4⟩ := b e
  rw [hm, d1, nI_ltI (by omega) (by omega)] at h
  exact ⟨d, d1, d2, by omega, d4⟩
theorem ar_eO {e : Nat} (hn : nxT w t < 7) (he : e < 65) : eO (arW w e t) w t := fun j h1 h2 => by
  rw [arW_o hn h2, evW_ne (by omega) he]
theorem wT.mA1 (T : tw w t m D 0) (H : wf n S w) (ht : t < n) (hm : gN w 201 = nI m) (hb : m < 2 ^ 30 ∧ D < 2 ^ 30) : tw (m_mA1 w (nI t)) t m D 1 ∧ ∀ u g, u < n → u ≠ t → tw w u m D g → tw (m_mA1 w (nI t)) u m D g := by
  have h5 := H.n5
  have hS := H.S7
  have hT := H.T ht
  rw [mA1_n H ht]
  by_cases c : ft w t 6 = 2
  · rw [if_pos c]
    by_cases d : gN w 201 < ft w t 9
    · rw [if_pos d]; exact ⟨T.up1 hm hb d, fun u g _ _ z => z⟩
    · rw [if_neg d]
      have hn := (hT.next hS (by omega) (Or.inr c)).2.2.1
      have he : sumN (eV w) n < 65 := by
        have := sumN_lt (f := eV w) (c := 1) (d := 13) ht (fun u hu => ((H.T hu).qeV hS).1) (by have := (hT.qeV hS).2 (by rw [c]; decide); omega)
        omega
      have a := (H.arr ht c).1
      have O : eO (m_arrives w (nI t)) w t := by rw [a]; exact ar_eO (by omega) he
      have r := fun k (hk : k < 28) => arW_t (w := w) (t := t) (e := sumN (eV w) n) H.len (by omega) he (by omega) hk
      rw [← a] at r
      have F : kF (m_arrives w (nI t)) w t := ⟨fun k hk => O _ (by omega) (by omega), fun k hk => by
        rw [r k (by omega), if_neg (by omega), if_neg (by omega), if_neg (by omega), if_neg (by omega)]⟩
      refine ⟨T.ar hT hS hm hb c d F ?_ ?_ ?_ (by omega) 1, fun u g hu hne z => z.oth (H.T hu) hS O (by omega) (by omega) hne⟩
      · rw [r 6 (by decide), if_neg (by omega), if_pos rfl]
      · rw [r 7 (by decide), if_neg (by omega), if_neg (by omega), if_neg (by omega), if_pos rfl]
      · intro q
        rw [r 11 (by decide), if_pos ⟨rfl, q⟩]
  · rw [if_neg c]; exact ⟨T.up0 c 1, fun u g _ _ z => z⟩
theorem wT.mA (hb : m < 2 ^ 30 ∧ D < 2 ^ 30) : ∀ (f i : Nat) (w : List Int32), i + f = n → wf n S w → wT n w m D (fun u => if u < i then 1 else 0) → wT n (m_mA f i w) m D (fun _ => 1)
  | 0, i, w, e, H, T => ⟨T.1, fun t ht => by
    have this : tw w t m D (if t < i then 1 else 0) := T.2 t ht
    rw [if_pos (by omega)] at this
    exact this⟩
  | f + 1, i, w, e, H, T => by
    have h5 := H.n5
    have W := H.mA1 (t := i) (by omega)
    have F := mA1_mF H (t := i) (by omega)
    have Ti : tw w i m D (if i < i then 1 else 0) := T.2 i (by omega)
    rw [if_neg (by omega)] at Ti
    obtain ⟨a, b⟩ := wT.mA1 Ti H (by omega) T.1 hb
    refine wT.mA hb f (i + 1) (m_mA1 w (nI i)) (by omega) W ⟨?_, fun u hu => ?_⟩
    · rw [F.2.1 201 (by omega) (by omega)]; exact T.1
    · show tw (m_mA1 w (nI i)) u m D (if u < i + 1 then 1 else 0)
      by_cases c : u = i
      · rw [c, if_pos (by omega)]; exact a
      · have := b u (if u < i then 1 else 0) hu c (T.2 u hu)
        by_cases d : u < i
        · rw [if_pos (by omega)]; rw [if_pos d] at this; exact this
        · rw [if_neg (by omega)]; rw [if_neg d] at this; exact this
theorem may0 (ht : t < 100) (c : ft w t 6 = 0) (h : ¬ m_may w (nI t) = 0) : ¬ gN w 201 < ft w t 3 := by
  intro z
  apply h
  unfold m_may
  rw [m_of6 ht, if_pos c, m_of3 ht, gA_201, if_pos z]
theorem wT.tr (T : wT n w m D (fun _ => 1)) (N : wN n S w) (H : wf n S w) (ht : t < n) (hb : m < 2 ^ 30) (hD : m + 76 ≤ D) : wT n (m_tr n w care t) m D (fun _ => 1) := by
  have h5 := H.n5
  have hS := H.S7
  have hT := H.T ht
  by_cases hm : mv n w care t
  · have F0 := H.sets_mF ht hm.2.2.1
    rw [m_tr_mv hm]
    have key : eO (m_sets w (nI t)) w t ∧ tw (m_sets w (nI t)) t m D 1 := by
      rcases H.whyNot0 ht hm.2.2.1 with ⟨c0, -, e⟩ | ⟨c1, -, -, e⟩
      · have he : sumN (eV w) n < 65 := by
          have := sumN_lt (f := eV w) (c := 1) (d := 13) ht (fun u hu => ((H.T hu).qeV hS).1) (by have := (hT.qeV hS).2 (by rw [c0]; decide); omega)
          omega
        have hf := hT.1.2
        have O : eO (m_sets w (nI t)) w t := fun j h1 h2 => by rw [e, cmW_o (by omega) h2, evW_ne (by omega) he]
        have r := fun k (hk : k < 28) => cmW_t (w := w) (t := t) (e := sumN (eV w) n) (b := tF n w t (fR w t)) H.len (by omega) he (by omega) hk
        rw [← e] at r
        have F : kF (m_sets w (nI t)) w t := ⟨fun k hk => O _ (by omega) (by omega), fun k hk => by
          rw [r k (by omega), if_neg (by omega), if_neg (by omega), if_neg (by omega), if_neg (by omega)]⟩
        refine ⟨O, (T.2 t ht).cm hT hS F ?_ ?_ (fun s hs es => ?_) 1⟩
        · rw [r 6 (by decide), if_neg (by omega), if_pos rfl]
        · rw [r 7 (by decide), if_neg (by omega), if_neg (by omega), if_pos rfl]
        · have z := may0 (by omega) c0 hm.2.1
          rw [T.1, es, nI_ltI (by omega) (by omega)] at z
          omega
      · have he : sumN (eV w) n < 65 := by
          have := sumN_lt (f := eV w) (c := 1) (d := 13) ht (fun u hu => ((H.T hu).qeV hS).1) (by have := (hT.qeV hS).2 (by rw [c1]; decide); omega)
          omega
        have ha := (hT.2.2.2.2.1 (by rw [c1]; decide)).2
        generalize (if nxT w t = tO w t then (-1 : Int32) else eb (tF n w t (nxT w t))) = b at e
        generalize sumN (gV w (sC w t)) n = g at e
        have O : eO (m_sets w (nI t)) w t := fun j h1 h2 => by
          rw [e]
          unfold lvW
          rw [gN_ne (by omega), gN_ne (by omega), gN_ne (by omega), gN_ne (by omega), gN_ne (by omega), gN_ne (by omega), evW_ne (by omega) he]
        have r := fun k (hk : k < 28) => lvW_t (w := w) (t := t) (e := sumN (eV w) n) (b := b) (g := g) H.len (by omega) he (by omega) hk
        rw [← e] at r
        have F : kF (m_sets w (nI t)) w t := ⟨fun k hk => O _ (by omega) (by omega), fun k hk => by
          rw [r k (by omega), if_neg (by omega), if_neg (by omega), if_neg (by omega), if_neg (by omega)]⟩
        refine ⟨O, (T.2 t ht).lv N hT hS ht (by omega) T.1 c1 F ?_ ?_ ?_ hD⟩
        · rw [r 6 (by decide), if_neg (by omega), if_neg (by omega), if_pos rfl]
        · rw [r 7 (by decide), if_neg (by omega), if_neg (by omega), if_neg (by omega), if_neg (by omega)]
        · rw [r 9 (by decide), if_neg (by omega), if_pos rfl]
    refine ⟨by rw [F0.2.1 201 (by omega) (by omega)]; exact T.1, fun u hu => ?_⟩
    by_cases c : u = t
    · rw [c]; exact key.2
    · exact (T.2 u hu).oth (H.T hu) hS key.1 (by omega) (by omega) c
  · rw [m_tr_no hm]; exact T
theorem wT.mM (hb : m < 2 ^ 30) (hD : m + 76 ≤ D) : ∀ (f k : Nat) (w : List Int32), k + f = n → wf n S w → wN n S w → wT n w m D (fun _ => 1) → wT n (m_mM n care f k w) m D (fun _ => 1)
  | 0, k, w, e, H, N, T => T
  | f + 1, k, w, e, H, N, T => by
    have W := H.mM1 (k := k) (by omega) care
    obtain ⟨t, ht, et⟩ := H.R.1 k (by omega)
    have e1 : m_mM1 w n care (nI k) = m_tr n w care t := mM1_n H (by omega) et
    refine wT.mM hb hD f (k + 1) (m_mM1 w n care (nI k)) (by omega) W ?_ ?_
    · rw [e1]; exact N.mF H.S7 (tr_mF H ht)
    · rw [e1]; exact T.tr N H ht hb hD
theorem tw.next (T : tw w t m D 1) : tw w t (m + 1) D 0 := by
  obtain ⟨s, s1, s2, a, b, c⟩ := T
  refine ⟨s, s1, s2, fun e => ?_, fun e => ?_, fun e => ?_⟩
  · have := a e
    omega
  · obtain ⟨d, d1, d2, d3, d4⟩ := b e
    exact ⟨d, d1, d2, by omega, d4⟩
  · obtain ⟨x, x1, x2, x3⟩ := c e
    exact ⟨x, x1, x2, by omega⟩
theorem tw.eF (T : tw w t m D g) (h : wTr S w t) (hS : S ≤ 7) (E : eF w' w) (ht : t < 5) : tw w' t m D g :=
  T.same h hS ⟨fun k hk => E.j (by omega), fun k hk => E.p t ht k (by omega) (by omega)⟩ (fun k hk => E.p t ht k (by omega) (by omega))
theorem wN.eF (N : wN n S w) (hS : S ≤ 7) (h5 : n ≤ 5) (E : eF w' w) : wN n S w' := by
  refine ⟨fun s h1 h2 => ?_, fun t ht => ?_⟩
  · rw [show fs w' s 0 = fs w s 0 from E.j (by omega)]; exact N.1 s h1 h2
  · rw [E.p t (by omega) 4 (by decide) (by decide)]; exact N.2 t ht
theorem wT.end (T : wT n w m D (fun _ => 1)) (N : wN n S w) (H : wf n S w) : wT n (m_end n w) (m + 1) D (fun _ => 0) ∧ wN n S (m_end n w) := by
  have h5 := H.n5
  have E := (eR.step H (eR.rf H.len) H).2
  refine ⟨⟨?_, fun t ht => ?_⟩, N.eF H.S7 h5 E.1⟩
  · rw [E.2.1, T.1, nI_add]
  · exact ((T.2 t ht).eF (H.T ht) H.S7 E.1 (by omega)).next
/-- a minute -/
theorem wT.minute (T : wT n w m D (fun _ => 0)) (N : wN n S w) (H : wf n S w) (hb : D < 2 ^ 30) (hD : m + 76 ≤ D) : wT n (m_minute n w care) (m + 1) D (fun _ => 0) ∧ wN n S (m_minute n w care) ∧ wf n S (m_minute n w care) := by
  obtain ⟨a, b⟩ := mA_mF n 0 w (Nat.zero_add n) H
  obtain ⟨c, d⟩ := mM_mF (care := care) n 0 (m_mA n 0 w) (Nat.zero_add n) b
  have T1 := wT.mA (by omega) n 0 w (Nat.zero_add n) H (m := m) (D := D) ⟨T.1, fun t ht => by
    show tw w t m D (if t < 0 then 1 else 0)
    rw [if_neg (by omega)]
    exact T.2 t ht⟩
  have N1 := N.mF H.S7 a
  have T2 := wT.mM (care := care) (by omega) hD n 0 (m_mA n 0 w) (Nat.zero_add n) b N1 T1
  obtain ⟨T3, N3⟩ := T2.end (N1.mF H.S7 c) d
  exact ⟨T3, N3, (eR.step d (eR.rf d.len) d).1⟩
/-- DUE and DELAY at rest -/
theorem wT.due (T : wT n w m D (fun _ => 0)) (hb : D < 2 ^ 30) (ht : t < n) (c : ft w t 6 = 2) : ¬ ft w t 9 - gN w 201 = -1 := by
  obtain ⟨s, s1, s2, -, b, -⟩ := T.2 t ht
  obtain ⟨d, d1, d2, d3, d4⟩ := b c
  rw [T.1, d1, sub_nI (by omega)]
  exact nI_nn (by omega)
theorem wT.delay (T : wT n w m D (fun _ => 0)) (N : wN n S w) (H : wf n S w) (hb : m < 2 ^ 30) (ht : t < n) (c : ft w t 6 = 3) : ¬ m_delayOf w (nI t) < 0 := by
  have h5 := H.n5
  obtain ⟨s, s1, s2, -, -, b⟩ := T.2 t ht
  obtain ⟨e, e1, e2, e3⟩ := b c
  unfold m_delayOf
  rw [m_of11 (by omega), m_of3 (by omega), e1, s2, lone_n N h5 H.S7 (H.T ht) ht, sub_nI (by omega), sub_nI (by omega)]
  exact nI_pos (by omega)
theorem wT.wZ (T : wT n w m D (fun _ => 0)) (N : wN n S w) (H : wf n S w) (hb : m < 2 ^ 30 ∧ D < 2 ^ 30) (hp : ∀ k, k < 25 → ∃ v, v < 128 ∧ gN w (570 + k) = nI v) : wZ n w :=
  ⟨by rw [T.1]; exact nI_pos (by omega), fun t ht c => T.due hb.2 ht c, fun t ht c => T.delay N H hb.1 ht c, hp⟩
end WT

/-! what minutes leave as it is; CAME at TO is none till DONE -/
def zF (n : Nat) (w' w : List Int32) : Prop := (∀ j, j < 56 → gN w' j = gN w j) ∧ (∀ j, 196 ≤ j → j < 201 → gN w' j = gN w j) ∧ (∀ j, 296 ≤ j → j < 309 → gN w' j = gN w j) ∧ ∀ u k, u < n → (k < 6 ∨ k = 10) → ft w' u k = ft w u k
def wC (n : Nat) (w : List Int32) : Prop := ∀ t, t < n → ¬ ft w t 6 = 3 → ft w t (13 + tO w t) = -1
section ZF
variable {n S : Nat} {w w' w'' : List Int32} {care : Int32} {t : Nat}
theorem zF.rf : zF n w w := ⟨fun _ _ => rfl, fun _ _ _ => rfl, fun _ _ _ => rfl, fun _ _ _ _ => rfl⟩
theorem zF.tr (a : zF n w' w) (b : zF n w'' w') : zF n w'' w :=
  ⟨fun j h => (b.1 j h).trans (a.1 j h), fun j h1 h2 => (b.2.1 j h1 h2).trans (a.2.1 j h1 h2), fun j h1 h2 => (b.2.2.1 j h1 h2).trans (a.2.2.1 j h1 h2), fun u k h1 h2 => (b.2.2.2 u k h1 h2).trans (a.2.2.2 u k h1 h2)⟩
theorem mF.zF (F : mF n w' w) : zF n w' w := ⟨F.1, fun j h1 h2 => F.2.1 j h1 (by omega), fun j h1 h2 => F.2.2.1 j (by omega) h2, fun u k h1 h2 => F.2.2.2.2 u k h1 (by omega)⟩
theorem eF.zF (E : eF w' w) (h5 : n ≤ 5) : zF n w' w := ⟨fun j h => E.j (by omega), fun j h1 h2 => E.j (by omega), fun j h1 h2 => E.j (by omega), fun u k h1 h2 => E.p u (by omega) k (by omega) (by omega)⟩
theorem zF.minute (H : wf n S w) : zF n (m_minute n w care) w ∧ wf n S (m_minute n w care) := by
  obtain ⟨a, b⟩ := mA_mF n 0 w (Nat.zero_add n) H
  obtain ⟨c, d⟩ := mM_mF (care := care) n 0 (m_mA n 0 w) (Nat.zero_add n) b
  obtain ⟨e, f⟩ := eR.step d (eR.rf d.len) d
  exact ⟨((a.tr c).zF).tr (f.1.zF H.n5), e⟩
theorem zF.adv {e : Bool} : ∀ (r : Nat) (w : List Int32), wf n S w → zF n (m_adv n care e r w) w ∧ wf n S (m_adv n care e r w)
  | 0, w, H => ⟨zF.rf, H⟩
  | r + 1, w, H => by
    unfold m_adv
    by_cases c : e = true ∧ ¬ (m_howMany w 3 < gA w 203 ∧ m_isStuck w = 0)
    · rw [if_pos c]; exact ⟨zF.rf, H⟩
    · rw [if_neg c]
      obtain ⟨a, b⟩ := zF.minute (care := care) H
      obtain ⟨c, d⟩ := zF.adv r (m_minute n w care) b
      exact ⟨a.tr c, d⟩
theorem zF.tO (F : zF n w' w) (ht : t < n) : tO w' t = tO w t := congrArg nV (F.2.2.2 t 2 ht (by omega))
theorem wC.mA1 (C : wC n w) (H : wf n S w) (ht : t < n) : wC n (m_mA1 w (nI t)) := by
  have h5 := H.n5
  have hS := H.S7
  have hT := H.T ht
  have Z := (mA1_mF H ht).zF
  intro u hu h6
  have ho := (H.T hu).2.1.2
  rw [Z.tO hu]
  rw [mA1_n H ht] at h6 ⊢
  by_cases c : ft w t 6 = 2
  · rw [if_pos c] at h6 ⊢
    by_cases d : gN w 201 < ft w t 9
    · rw [if_pos d] at h6 ⊢; exact C u hu h6
    · rw [if_neg d] at h6 ⊢
      have hn := (hT.next hS (by omega) (Or.inr c)).2.2.1
      have he : sumN (eV w) n < 65 := by
        have := sumN_lt (f := eV w) (c := 1) (d := 13) ht (fun u hu => ((H.T hu).qeV hS).1) (by have := (hT.qeV hS).2 (by rw [c]; decide); omega)
        omega
      have a := (H.arr ht c).1
      by_cases q : u = t
      · subst q
        have r := fun k (hk : k < 28) => arW_t (w := w) (t := u) (e := sumN (eV w) n) H.len (by omega) he (by omega) hk
        rw [a] at h6 ⊢
        rw [r 6 (by decide), if_neg (by omega), if_pos rfl] at h6
        by_cases z : nxT w u = tO w u
        · rw [if_pos z] at h6; exact absurd rfl h6
        · rw [r _ (by omega), if_neg (by omega), if_neg (by omega), if_neg (by omega), if_neg (by omega)]
          exact C u hu (by rw [c]; decide)
      · have O : eO (m_arrives w (nI t)) w t := by rw [a]; exact ar_eO (by omega) he
        rw [show ft (m_arrives w (nI t)) u 6 = ft w u 6 from O _ (by omega) (by omega)] at h6
        rw [show ft (m_arrives w (nI t)) u (13 + tO w u) = ft w u (13 + tO w u) from O _ (by omega) (by omega)]
        exact C u hu h6
  · rw [if_neg c] at h6 ⊢; exact C u hu h6
theorem wC.mA : ∀ (f i : Nat) (w : List Int32), i + f = n → wf n S w → wC n w → wC n (m_mA f i w)
  | 0, i, w, e, H, C => C
  | f + 1, i, w, e, H, C => wC.mA f (i + 1) (m_mA1 w (nI i)) (by omega) (H.mA1 (t := i) (by omega)) (C.mA1 H (t := i) (by omega))
theorem wC.tr (C : wC n w) (H : wf n S w) (ht : t < n) : wC n (m_tr n w care t) := by
  have h5 := H.n5
  have hS := H.S7
  have hT := H.T ht
  by_cases hm : mv n w care t
  · have Z := (H.sets_mF ht hm.2.2.1).zF
    rw [m_tr_mv hm]
    intro u hu h6
    have ho := (H.T hu).2.1.2
    rw [Z.tO hu]
    rcases H.whyNot0 ht hm.2.2.1 with ⟨c0, -, e⟩ | ⟨c1, -, -, e⟩
    · have he : sumN (eV w) n < 65 := by
        have := sumN_lt (f := eV w) (c := 1) (d := 13) ht (fun u hu => ((H.T hu).qeV hS).1) (by have := (hT.qeV hS).2 (by rw [c0]; decide); omega)
        omega
      have hf := hT.1.2
      have hne := hT.2.2.1
      by_cases q : u = t
      · subst q
        have r := fun k (hk : k < 28) => cmW_t (w := w) (t := u) (e := sumN (eV w) n) (b := tF n w u (fR w u)) H.len (by omega) he (by omega) hk
        rw [e, r _ (by omega), if_neg (by omega), if_neg (by omega), if_neg (by omega), if_neg (by omega)]
        exact C u hu (by rw [c0]; decide)
      · have O : eO (m_sets w (nI t)) w t := fun j h1 h2 => by rw [e, cmW_o (by omega) h2, evW_ne (by omega) he]
        rw [show ft (m_sets w (nI t)) u 6 = ft w u 6 from O _ (by omega) (by omega)] at h6
        rw [show ft (m_sets w (nI t)) u (13 + tO w u) = ft w u (13 + tO w u) from O _ (by omega) (by omega)]
        exact C u hu h6
    · have he : sumN (eV w) n < 65 := by
        have := sumN_lt (f := eV w) (c := 1) (d := 13) ht (fun u hu => ((H.T hu).qeV hS).1) (by have := (hT.qeV hS).2 (by rw [c1]; decide); omega)
        omega
      have ha := (hT.2.2.2.2.1 (by rw [c1]; decide)).2
      generalize (if nxT w t = tO w t then (-1 : Int32) else eb (tF n w t (nxT w t))) = b at e
      generalize sumN (gV w (sC w t)) n = g at e
      by_cases q : u = t
      · subst q
        have r := fun k (hk : k < 28) => lvW_t (w := w) (t := u) (e := sumN (eV w) n) (b := b) (g := g) H.len (by omega) he (by omega) hk
        rw [e, r _ (by omega), if_neg (by omega), if_neg (by omega), if_neg (by omega), if_neg (by omega)]
        exact C u hu (by rw [c1]; decide)
      · have O : eO (m_sets w (nI t)) w t := fun j h1 h2 => by
          rw [e]
          unfold lvW
          rw [gN_ne (by omega), gN_ne (by omega), gN_ne (by omega), gN_ne (by omega), gN_ne (by omega), gN_ne (by omega), evW_ne (by omega) he]
        rw [show ft (m_sets w (nI t)) u 6 = ft w u 6 from O _ (by omega) (by omega)] at h6
        rw [show ft (m_sets w (nI t)) u (13 + tO w u) = ft w u (13 + tO w u) from O _ (by omega) (by omega)]
        exact C u hu h6
  · rw [m_tr_no hm]; exact C
theorem wC.mM : ∀ (f k : Nat) (w : List Int32), k + f = n → wf n S w → wC n w → wC n (m_mM n care f k w)
  | 0, k, w, e, H, C => C
  | f + 1, k, w, e, H, C => by
    have W := H.mM1 (k := k) (by omega) care
    obtain ⟨t, ht, et⟩ := H.R.1 k (by omega)
    have e1 : m_mM1 w n care (nI k) = m_tr n w care t := mM1_n H (by omega) et
    exact wC.mM f (k + 1) (m_mM1 w n care (nI k)) (by omega) W (by rw [e1]; exact C.tr H ht)
/-- over a whole minute -/
theorem wC.minute (C : wC n w) (H : wf n S w) : wC n (m_minute n w care) := by
  have h5 := H.n5
  obtain ⟨a, b⟩ := mA_mF n 0 w (Nat.zero_add n) H
  obtain ⟨c, d⟩ := mM_mF (care := care) n 0 (m_mA n 0 w) (Nat.zero_add n) b
  have C2 := wC.mM (care := care) n 0 (m_mA n 0 w) (Nat.zero_add n) b (wC.mA n 0 w (Nat.zero_add n) H C)
  have E := (eR.step d (eR.rf d.len) d).2.1
  have e0 : m_minute n w care = m_end n (m_mM n care n 0 (m_mA n 0 w)) := rfl
  rw [e0]
  generalize m_mM n care n 0 (m_mA n 0 w) = w1 at d C2 E
  intro t ht h6
  have ho := (d.T ht).2.1.2
  have hS := d.S7
  rw [(E.zF h5).tO ht, E.p t (by omega) _ (by omega) (by omega)]
  rw [E.p t (by omega) 6 (by decide) (by decide)] at h6
  exact C2 t ht h6
theorem wC.adv {e : Bool} : ∀ (r : Nat) (w : List Int32), wf n S w → wC n w → wC n (m_adv n care e r w)
  | 0, w, H, C => C
  | r + 1, w, H, C => by
    unfold m_adv
    by_cases c : e = true ∧ ¬ (m_howMany w 3 < gA w 203 ∧ m_isStuck w = 0)
    · rw [if_pos c]; exact C
    · rw [if_neg c]
      exact wC.adv r (m_minute n w care) (zF.minute (care := care) H).2 (C.minute H)
/-- acts keep it -/
theorem wC.aF (C : wC n w) (F : aF w' w) (h5 : n ≤ 5) (hT : ∀ t, t < n → tO w t < 7) : wC n w' := fun t ht h6 => by
  have p := F.p (t := t) (by omega)
  rw [p 6 (by decide)] at h6
  rw [p.qtO, F.f (by omega) (by have := hT t ht; omega) (by omega)]
  exact C t ht h6
end ZF

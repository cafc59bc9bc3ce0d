/-! coming in, going, arriving, at numbers; what holds is kept -/
def rN (w : List Int32) (t k : Nat) : Int32 := (fs w (k + 1) 0 * (2 + ft w t 4) + 1) / 2
section W3
variable {n S : Nat} {w w' : List Int32} {t e : Nat}
theorem m_puts3 {v : Int32} (ht : t < 100) : m_puts w (nI t) 3 v = w.set (56 + 28 * t + 3) v := m_puts_n (k := 3) ht (by decide)
theorem m_puts6 {v : Int32} (ht : t < 100) : m_puts w (nI t) 6 v = w.set (56 + 28 * t + 6) v := m_puts_n (k := 6) ht (by decide)
theorem m_puts7 {v : Int32} (ht : t < 100) : m_puts w (nI t) 7 v = w.set (56 + 28 * t + 7) v := m_puts_n (k := 7) ht (by decide)
theorem m_puts8 {v : Int32} (ht : t < 100) : m_puts w (nI t) 8 v = w.set (56 + 28 * t + 8) v := m_puts_n (k := 8) ht (by decide)
theorem m_puts9 {v : Int32} (ht : t < 100) : m_puts w (nI t) 9 v = w.set (56 + 28 * t + 9) v := m_puts_n (k := 9) ht (by decide)
theorem m_puts10 {v : Int32} (ht : t < 100) : m_puts w (nI t) 10 v = w.set (56 + 28 * t + 10) v := m_puts_n (k := 10) ht (by decide)
theorem m_puts11 {v : Int32} (ht : t < 100) : m_puts w (nI t) 11 v = w.set (56 + 28 * t + 11) v := m_puts_n (k := 11) ht (by decide)
theorem m_puts12 {v : Int32} (ht : t < 100) : m_puts w (nI t) 12 v = w.set (56 + 28 * t + 12) v := m_puts_n (k := 12) ht (by decide)
theorem m_puts13 {v : Int32} (ht : t < 100) {s : Nat} (hs : s < 7) : m_puts w (nI t) (13 + nI s) v = w.set (56 + 28 * t + (13 + s)) v := by
  rw [show (13 : Int32) + nI s = nI (13 + s) from nI_add 13 s, m_puts_n ht (by omega)]
theorem m_puts20 {v : Int32} (ht : t < 100) {s : Nat} (hs : s < 7) : m_puts w (nI t) (20 + nI s) v = w.set (56 + 28 * t + (20 + s)) v := by
  rw [show (20 : Int32) + nI s = nI (20 + s) from nI_add 20 s, m_puts_n ht (by omega)]
theorem m_runOf_n {k : Nat} (ht : t < 100) (hk : k < 50) : m_runOf w (nI t) (nI k) = rN w t k := by
  unfold m_runOf rN
  rw [nI_1, m_st0 (by omega), m_of4 ht]
theorem wg.same (H : wg n S w) (hl : w'.length = 602) (h : ∀ j, j < 204 → gN w' j = gN w j) : wg n S w' := by
  have h5 := H.n5
  refine ⟨⟨hl, ?_, h5, ?_, H.S7⟩, fun s hs => (sS_of fun j hj => h j (by omega)).qwS hs (H.St hs), fun u hu => sT.qwT (fun k hk => h _ (by omega)) (sS_of fun j hj => h j (by omega)) H.S7 (H.T hu)⟩
  · rw [h 203 (by omega)]; exact H.A.2.1
  · rw [h 202 (by omega)]; exact H.A.2.2.2.1
theorem fnd_atC (h : ∀ u, u < n → cL w' u = cL w u) (c : Nat) : fnd (atC w' c) n 0 = fnd (atC w c) n 0 :=
  fnd_congr fun u _ hu => by unfold atC; rw [h u (by omega)]
theorem tF_congr {s : Nat} (hc : ∀ u, u < n → cL w' u = cL w u) (h0 : ft w' t 0 = ft w t 0) (hs : ∀ k, k < 8 → fs w' s k = fs w s k) (h3 : mN w s ≤ 3) : tF n w' t s = tF n w t s := by
  unfold tF
  have em : mN w' s = mN w s := congrArg nV (hs 1 (by decide))
  rw [em]
  refine (bst_congr (fun k h1 h2 => ?_) (fun k h1 h2 => ?_) (Or.inl rfl))
  · unfold okT
    rw [hs (5 + k) (by omega), hs (2 + k) (by omega), h0, fnd_atC hc]
  · exact hs (2 + k) (by omega)
theorem onS_congr (h : ∀ u, u < n → sT w' w u) (k : Nat) : fnd (onS w' k) n 0 = fnd (onS w k) n 0 :=
  fnd_congr fun u _ hu => by
    have := h u (by omega)
    unfold onS
    rw [this.qsC, this 6 (by decide)]
def cmW (w : List Int32) (e t b : Nat) : List Int32 := ((((evW w e (nI t) 0 (nI (fR w t))).set (56 + 28 * t + 8) (eb b)).set (56 + 28 * t + 7) (nI (fR w t))).set (56 + 28 * t + 6) 1).set (56 + 28 * t + (13 + fR w t)) (gN w 201)
theorem sets0 (H : wg n S w) (ht : t < n) (h6 : ft w t 6 = 0) (h9 : gN w 309 = nI e) (he : e < 65) : m_sets w (nI t) = cmW w e t (tF n w t (fR w t)) := by
  have h5 := H.n5
  have hS := H.S7
  have hT := H.T ht
  have hf : fR w t < 7 := by have := hT.1.2; omega
  unfold m_sets
  rw [m_of6 (by omega), h6, if_pos rfl, if_pos rfl, m_of1 (by omega), hT.1.1, ev_n h9 he]
  generalize ez : evW w e (nI t) 0 (nI (fR w t)) = z
  have hz : ∀ j, j < 204 → gN z j = gN w j := fun j hj => by rw [← ez]; exact evW_ne (by omega) he
  have lz : z.length = 602 := by rw [← ez, evW_len]; exact H.len
  have tz : ∀ k, k < 28 → ft z t k = ft w t k := fun k hk => hz _ (by omega)
  dsimp only
  rw [m_of6 (by omega), tz 6 (by decide), h6, if_pos rfl, m_of1 (by omega), tz 1 (by decide), hT.1.1]
  rw [(H.same lz hz).trackFor ht hf, tF_congr (w := w) (w' := z) (fun u hu => sT.qcL (fun k hk => hz _ (by omega))) (tz 0 (by decide)) (fun k hk => hz _ (by omega)) (H.St hf).2.1]
  rw [m_puts8 (by omega), m_of1 (by omega)]
  have e1 : ft (z.set (56 + 28 * t + 8) (eb (tF n w t (fR w t)))) t 1 = nI (fR w t) := by
    unfold ft
    rw [gN_ne (by omega)]
    exact (tz 1 (by decide)).trans hT.1.1
  rw [e1, m_puts7 (by omega), m_puts6 (by omega), m_of1 (by omega)]
  have e2 : ft (((z.set (56 + 28 * t + 8) (eb (tF n w t (fR w t)))).set (56 + 28 * t + 7) (nI (fR w t))).set (56 + 28 * t + 6) 1) t 1 = nI (fR w t) := by
    unfold ft
    rw [gN_ne (by omega), gN_ne (by omega), gN_ne (by omega)]
    exact (tz 1 (by decide)).trans hT.1.1
  rw [e2, m_puts13 (by omega) hf, gA_201, gN_ne (by omega), gN_ne (by omega), gN_ne (by omega), hz 201 (by decide), ← ez]
  rfl
def lvW (w : List Int32) (e t : Nat) (b : Int32) (g : Nat) : List Int32 := ((((((evW w e (nI t) 1 (nI (atT w t))).set (56 + 28 * t + 8) b).set (56 + 28 * t + 6) 2).set (56 + 28 * t + 9) (gN w 201 + rN w t (sC w t))).set (56 + 28 * t + (20 + atT w t)) (gN w 201)).set (216 + 5 * sC w t + g) (nI t)).set (210 + sC w t) (nI (g + 1))
theorem sets1 {g : Nat} (H : wg n S w) (ht : t < n) (h6 : ft w t 6 = 1) (h9 : gN w 309 = nI e) (he : e < 65) (hg : gN w (210 + sC w t) = nI g) (hg5 : g < 5) : m_sets w (nI t) = lvW w e t (if nxT w t = tO w t then -1 else eb (tF n w t (nxT w t))) g := by
  have h5 := H.n5
  have hS := H.S7
  have hT := H.T ht
  obtain ⟨x1, x2, x3, x4, x5⟩ := hT.next hS (by omega) (Or.inl h6)
  have h7 := hT.2.2.2.2.1 (by rw [h6]; decide)
  have ha : atT w t < 7 := by omega
  unfold m_sets
  rw [m_of6 (by omega), h6]
  simp only [show ¬ (1 : Int32) = 0 by decide, if_false]
  rw [m_of7 (by omega), h7.1, ev_n h9 he]
  generalize ez : evW w e (nI t) 1 (nI (atT w t)) = z
  have hz : ∀ j, j < 309 → gN z j = gN w j := fun j hj => by rw [← ez]; exact evW_ne (by omega) he
  have lz : z.length = 602 := by rw [← ez, evW_len]; exact H.len
  have tz : sT z w t := fun k hk => hz _ (by omega)
  have Z := H.same lz (fun j hj => hz j (by omega))
  have h6z : ft z t 6 = 1 := (tz 6 (by decide)).trans h6
  obtain ⟨y1, y2, y3, y4, y5⟩ := (Z.T ht).next hS (by omega) (Or.inl h6z)
  rw [m_of6 (by omega), h6z, if_neg (by decide), y1, y2, tz.qnX, tz.qsC, m_of2 (by omega), tz 2 (by decide), hT.2.1.1, Z.trackFor ht (by omega), tF_congr (w := w) (w' := z) (fun u hu => sT.qcL (fun k hk => hz _ (by omega))) (tz 0 (by decide)) (fun k hk => hz _ (by omega)) (H.St (by omega)).2.1]
  have ec : (if nI (nxT w t) = nI (tO w t) then (-1 : Int32) else eb (tF n w t (nxT w t))) = if nxT w t = tO w t then -1 else eb (tF n w t (nxT w t)) := by
    by_cases c : nxT w t = tO w t
    · rw [if_pos c, c, if_pos rfl]
    · rw [if_neg c, if_neg (fun q => c ((nI_eq (by omega) (by have := hT.2.1.2; omega)).mp q))]
  rw [ec]
  generalize (if nxT w t = tO w t then (-1 : Int32) else eb (tF n w t (nxT w t))) = b
  rw [m_puts8 (by omega), m_puts6 (by omega), m_runOf_n (by omega) (by omega), m_puts9 (by omega), gA_201, gN_ne (by omega), gN_ne (by omega), hz 201 (by decide)]
  have er : rN ((z.set (56 + 28 * t + 8) b).set (56 + 28 * t + 6) 2) t (sC w t) = rN w t (sC w t) := by
    unfold rN fs ft
    rw [gN_ne (by omega), gN_ne (by omega), gN_ne (by omega), gN_ne (by omega), hz _ (by omega), hz _ (by omega)]
  rw [er, m_of7 (by omega)]
  have e7 : ft (((z.set (56 + 28 * t + 8) b).set (56 + 28 * t + 6) 2).set (56 + 28 * t + 9) (gN w 201 + rN w t (sC w t))) t 7 = nI (atT w t) := by
    unfold ft
    rw [gN_ne (by omega), gN_ne (by omega), gN_ne (by omega)]
    exact (tz 7 (by decide)).trans h7.1
  rw [e7, m_puts20 (by omega) ha, gA_201]
  rw [gN_ne (by omega), gN_ne (by omega), gN_ne (by omega), hz 201 (by decide)]
  rw [show (210 : Int32) + nI (sC w t) = nI (210 + sC w t) from nI_add 210 _, gA_n (by omega)]
  rw [gN_ne (by omega), gN_ne (by omega), gN_ne (by omega), gN_ne (by omega), hz (210 + sC w t) (by omega), hg]
  rw [show (216 : Int32) + 5 * nI (sC w t) + nI g = nI (216 + 5 * sC w t + g) by
    show nI 216 + nI 5 * nI (sC w t) + nI g = _
    rw [nI_mul, nI_add, nI_add]]
  simp only [sA_n (show 216 + 5 * sC w t + g < 2 ^ 31 by omega), sA_n (show 210 + sC w t < 2 ^ 31 by omega), gA_n (show 210 + sC w t < 2 ^ 31 by omega)]
  rw [gN_ne (by omega), gN_ne (by omega), gN_ne (by omega), gN_ne (by omega), gN_ne (by omega), hz (210 + sC w t) (by omega), hg, nI_1, ← ez]
  rfl
def arW (w : List Int32) (e t : Nat) : List Int32 := if nxT w t = tO w t then ((((evW w e (nI t) 2 (nI (nxT w t))).set (56 + 28 * t + 7) (nI (nxT w t))).set (56 + 28 * t + (13 + nxT w t)) (gN w 201)).set (56 + 28 * t + 6) 3).set (56 + 28 * t + 11) (gN w 201) else (((evW w e (nI t) 2 (nI (nxT w t))).set (56 + 28 * t + 7) (nI (nxT w t))).set (56 + 28 * t + (13 + nxT w t)) (gN w 201)).set (56 + 28 * t + 6) 1
theorem arrives_n (H : wg n S w) (ht : t < n) (h6 : ft w t 6 = 2) (h9 : gN w 309 = nI e) (he : e < 65) : m_arrives w (nI t) = arW w e t := by
  have h5 := H.n5
  have hS := H.S7
  have hT := H.T ht
  obtain ⟨x1, x2, x3, x4, x5⟩ := hT.next hS (by omega) (Or.inr h6)
  unfold m_arrives arW
  rw [x1, ev_n h9 he, m_of2 (by omega), hT.2.1.1]
  generalize ez : evW w e (nI t) 2 (nI (nxT w t)) = z
  have hz : ∀ j, j < 309 → gN z j = gN w j := fun j hj => by rw [← ez]; exact evW_ne (by omega) he
  dsimp only
  rw [m_puts7 (by omega), m_puts13 (by omega) (by omega), m_puts6 (by omega), gA_201, gN_ne (by omega), hz 201 (by decide), m_puts11 (by omega), gA_201]
  rw [gN_ne (by omega), gN_ne (by omega), gN_ne (by omega), hz 201 (by decide)]
  by_cases c : nxT w t = tO w t
  · rw [if_pos c, c, if_pos rfl, if_neg (by decide), if_neg (by decide)]
  · have c2 : ¬ nI (nxT w t) = nI (tO w t) := fun q => c ((nI_eq (by omega) (by have := hT.2.1.2; omega)).mp q)
    rw [if_neg c, if_neg c2, if_pos rfl, if_pos rfl]
/-! read -/
theorem cmW_t {b : Nat} (hl : w.length = 602) (ht : t < 5) (he : e < 65) (hf : fR w t < 7) {k : Nat} (hk : k < 28) : ft (cmW w e t b) t k = if k = 13 + fR w t then gN w 201 else if k = 6 then 1 else if k = 7 then nI (fR w t) else if k = 8 then eb b else ft w t k := by
  unfold cmW
  show gN _ (56 + 28 * t + k) = _
  rw [gN_s (by simp only [List.length_set, evW_len]; omega), gN_s (by simp only [List.length_set, evW_len]; omega), gN_s (by simp only [List.length_set, evW_len]; omega), gN_s (by simp only [evW_len]; omega), evW_ne (by omega) he]
  by_cases h1 : k = 13 + fR w t
  · rw [if_pos h1, if_pos (by omega)]
  rw [if_neg h1, if_neg (by omega)]
  by_cases h2 : k = 6
  · rw [if_pos h2, if_pos (by omega)]
  rw [if_neg h2, if_neg (by omega)]
  by_cases h3 : k = 7
  · rw [if_pos h3, if_pos (by omega)]
  rw [if_neg h3, if_neg (by omega)]
  by_cases h4 : k = 8
  · rw [if_pos h4, if_pos (by omega)]
  rw [if_neg h4, if_neg (by omega)]
  rfl
theorem cmW_o {b : Nat} (hf : fR w t < 7) {j : Nat} (hj : j < 56 + 28 * t ∨ 84 + 28 * t ≤ j) : gN (cmW w e t b) j = gN (evW w e (nI t) 0 (nI (fR w t))) j := by
  unfold cmW
  rw [gN_ne (by omega), gN_ne (by omega), gN_ne (by omega), gN_ne (by omega)]
theorem cmW_len {b : Nat} : (cmW w e t b).length = w.length := by unfold cmW; simp only [List.length_set, evW_len]
theorem lvW_t {b : Int32} {g : Nat} (hl : w.length = 602) (ht : t < 5) (he : e < 65) (ha : atT w t < 7) {k : Nat} (hk : k < 28) : ft (lvW w e t b g) t k = if k = 20 + atT w t then gN w 201 else if k = 9 then gN w 201 + rN w t (sC w t) else if k = 6 then 2 else if k = 8 then b else ft w t k := by
  unfold lvW
  show gN _ (56 + 28 * t + k) = _
  rw [gN_ne (by omega), gN_ne (by omega)]
  rw [gN_s (by simp only [List.length_set, evW_len]; omega), gN_s (by simp only [List.length_set, evW_len]; omega), gN_s (by simp only [List.length_set, evW_len]; omega), gN_s (by simp only [evW_len]; omega), evW_ne (by omega) he]
  by_cases h1 : k = 20 + atT w t
  · rw [if_pos h1, if_pos (by omega)]
  rw [if_neg h1, if_neg (by omega)]
  by_cases h2 : k = 9
  · rw [if_pos h2, if_pos (by omega)]
  rw [if_neg h2, if_neg (by omega)]
  by_cases h3 : k = 6
  · rw [if_pos h3, if_pos (by omega)]
  rw [if_neg h3, if_neg (by omega)]
  by_cases h4 : k = 8
  · rw [if_pos h4, if_pos (by omega)]
  rw [if_neg h4, if_neg (by omega)]
  rfl
theorem lvW_o {b : Int32} {g : Nat} (hl : w.length = 602) (ha : atT w t < 7) (hs : sC w t < 6) (hg : g < 5) {j : Nat} (hj : j < 56 + 28 * t ∨ 84 + 28 * t ≤ j) : gN (lvW w e t b g) j = if j = 210 + sC w t then nI (g + 1) else if j = 216 + 5 * sC w t + g then nI t else gN (evW w e (nI t) 1 (nI (atT w t))) j := by
  unfold lvW
  rw [gN_s (by simp only [List.length_set, evW_len]; omega), gN_s (by simp only [List.length_set, evW_len]; omega), gN_ne (by omega), gN_ne (by omega), gN_ne (by omega), gN_ne (by omega)]
  by_cases h1 : j = 210 + sC w t
  · rw [if_pos h1, if_pos (by omega)]
  rw [if_neg h1, if_neg (by omega)]
  by_cases h2 : j = 216 + 5 * sC w t + g
  · rw [if_pos h2, if_pos (by omega)]
  rw [if_neg h2, if_neg (by omega)]
theorem lvW_len {b : Int32} {g : Nat} : (lvW w e t b g).length = w.length := by unfold lvW; simp only [List.length_set, evW_len]
theorem arW_t (hl : w.length = 602) (ht : t < 5) (he : e < 65) (hn : nxT w t < 7) {k : Nat} (hk : k < 28) : ft (arW w e t) t k = if k = 11 ∧ nxT w t = tO w t then gN w 201 else if k = 6 then (if nxT w t = tO w t then 3 else 1) else if k = 13 + nxT w t then gN w 201 else if k = 7 then nI (nxT w t) else ft w t k := by
  unfold arW
  by_cases c : nxT w t = tO w t
  · rw [if_pos c, if_pos c]
    show gN _ (56 + 28 * t + k) = _
    rw [gN_s (by simp only [List.length_set, evW_len]; omega), gN_s (by simp only [List.length_set, evW_len]; omega), gN_s (by simp only [List.length_set, evW_len]; omega), gN_s (by simp only [evW_len]; omega), evW_ne (by omega) he]
    by_cases h1 : k = 11
    · rw [if_pos (show k = 11 ∧ nxT w t = tO w t from ⟨h1, c⟩), if_pos (by omega)]
    rw [if_neg (show ¬ (k = 11 ∧ nxT w t = tO w t) from fun z => h1 z.1), if_neg (by omega)]
    by_cases h2 : k = 6
    · rw [if_pos h2, if_pos (by omega)]
    rw [if_neg h2, if_neg (by omega)]
    by_cases h3 : k = 13 + nxT w t
    · rw [if_pos h3, if_pos (by omega)]
    rw [if_neg h3, if_neg (by omega)]
    by_cases h4 : k = 7
    · rw [if_pos h4, if_pos (by omega)]
    rw [if_neg h4, if_neg (by omega)]
    rfl
  · rw [if_neg c, if_neg c, if_neg (fun z => c z.2)]
    show gN _ (56 + 28 * t + k) = _
    rw [gN_s (by simp only [List.length_set, evW_len]; omega), gN_s (by simp only [List.length_set, evW_len]; omega), gN_s (by simp only [evW_len]; omega), evW_ne (by omega) he]
    by_cases h2 : k = 6
    · rw [if_pos h2, if_pos (by omega)]
    rw [if_neg h2, if_neg (by omega)]
    by_cases h3 : k = 13 + nxT w t
    · rw [if_pos h3, if_pos (by omega)]
    rw [if_neg h3, if_neg (by omega)]
    by_cases h4 : k = 7
    · rw [if_pos h4, if_pos (by omega)]
    rw [if_neg h4, if_neg (by omega)]
    rfl
theorem arW_o (hn : nxT w t < 7) {j : Nat} (hj : j < 56 + 28 * t ∨ 84 + 28 * t ≤ j) : gN (arW w e t) j = gN (evW w e (nI t) 2 (nI (nxT w t))) j := by
  unfold arW
  by_cases c : nxT w t = tO w t
  · rw [if_pos c, gN_ne (by omega), gN_ne (by omega), gN_ne (by omega), gN_ne (by omega)]
  · rw [if_neg c, gN_ne (by omega), gN_ne (by omega), gN_ne (by omega)]
theorem arW_len : (arW w e t).length = w.length := by unfold arW; split <;> simp only [List.length_set, evW_len]
end W3

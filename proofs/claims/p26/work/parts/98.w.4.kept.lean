/-! kept blocks: what keeps() and undo() come to -/
theorem gN_ext {a b : List Int32} (h1 : a.length = b.length) (h : ∀ j, j < a.length → gN a j = gN b j) : a = b := by
  apply List.ext_getElem h1
  intro i hi hj
  have := h i hi
  unfold gN at this
  rw [List.getD_eq_getElem?_getD, List.getD_eq_getElem?_getD, List.getElem?_eq_getElem hi, List.getElem?_eq_getElem hj] at this
  exact this
/-- the block kept at i -/
def bk (kp : List Int32) (i : Nat) : List Int32 := (List.range 602).map (fun j => gN kp (602 * i + j))
theorem bk_len (kp : List Int32) (i : Nat) : (bk kp i).length = 602 := by
  unfold bk
  rw [List.length_map, List.length_range]
theorem bk_gN (kp : List Int32) (i : Nat) {j : Nat} (hj : j < 602) : gN (bk kp i) j = gN kp (602 * i + j) := by
  unfold bk gN
  rw [List.getD_eq_getElem?_getD, List.getElem?_map, List.getElem?_range hj]
  rfl
theorem bk_eq {w kp : List Int32} {i : Nat} (hw : w.length = 602) (h : ∀ j, j < 602 → gN kp (602 * i + j) = gN w j) : bk kp i = w :=
  gN_ext (by rw [bk_len, hw]) (fun j hj => by
    rw [bk_len] at hj
    rw [bk_gN kp i hj, h j hj])
theorem bk_of {kp kp' : List Int32} {i i' : Nat} (h : ∀ j, j < 602 → gN kp' (602 * i' + j) = gN kp (602 * i + j)) : bk kp' i' = bk kp i :=
  bk_eq (bk_len _ _) (fun j hj => by rw [h j hj, bk_gN kp i hj])
theorem keeps54 {w : List Int32} {a : Nat} (ha : a < 10) : ∀ (f j : Nat) (kp : List Int32), j + f = 602 → kp.length = 6020 → ∃ kp', m_keeps_l54 w f (nI j) kp (nI a) = (kp', nI (a + 1)) ∧ kp'.length = 6020 ∧ ∀ x, gN kp' x = if 602 * a + j ≤ x ∧ x < 602 * a + 602 then gN w (x - 602 * a) else gN kp x
  | 0, j, kp, e, hl => ⟨kp, by unfold m_keeps_l54; rw [nI_1], hl, fun x => by rw [if_neg (by omega)]⟩
  | f + 1, j, kp, e, hl => by
    unfold m_keeps_l54
    dsimp only
    have e1 : (602 : Int32) * nI a + nI j = nI (602 * a + j) := by
      show nI 602 * nI a + nI j = _
      rw [nI_mul, nI_add]
    rw [e1, nI_1, sA_n (by omega), gA_n (by omega)]
    obtain ⟨kp', h1, h2, h3⟩ := keeps54 ha f (j + 1) (kp.set (602 * a + j) (gN w j)) (by omega) (by rw [List.length_set]; exact hl)
    refine ⟨kp', h1, h2, fun x => ?_⟩
    rw [h3 x]
    by_cases c : 602 * a + (j + 1) ≤ x ∧ x < 602 * a + 602
    · rw [if_pos c, if_pos (by omega)]
    · rw [if_neg c]
      by_cases d : x = 602 * a + j
      · rw [if_pos (by omega), d, gN_eq (by omega), show 602 * a + j - 602 * a = j by omega]
      · rw [if_neg (by omega), gN_ne (fun z => d z.symm)]
set_option maxRecDepth 100000 in
theorem keeps13 {w : List Int32} {acs : Int32} : ∀ (f v : Nat) (kp : List Int32), 602 ≤ v → v + f = 6020 → kp.length = 6020 → ∃ kp', m_keeps_l13 w f (nI v) kp acs = m_keeps_l54 w 602 0 kp' (acs - 1) ∧ kp'.length = 6020 ∧ ∀ x, gN kp' x = if v - 602 ≤ x ∧ x < 5418 then gN kp (x + 602) else gN kp x
  | 0, v, kp, h6, e, hl => ⟨kp, by
    unfold m_keeps_l13
    rw [show lpN 602 0 = 602 from lpN_n0 (n := 602) (by decide)], hl, fun x => by rw [if_neg (by omega)]⟩
  | f + 1, v, kp, h6, e, hl => by
    unfold m_keeps_l13
    dsimp only
    have e1 : nI v - 602 = nI (v - 602) := sub_nI (b := 602) h6
    rw [e1, nI_1, sA_n (by omega), gA_n (by omega)]
    obtain ⟨kp', h1, h2, h3⟩ := keeps13 (acs := acs) f (v + 1) (kp.set (v - 602) (gN kp v)) (by omega) (by omega) (by rw [List.length_set]; exact hl)
    refine ⟨kp', h1, h2, fun x => ?_⟩
    rw [h3 x]
    by_cases c : v + 1 - 602 ≤ x ∧ x < 5418
    · rw [if_pos c, if_pos (by omega), gN_ne (by omega)]
    · rw [if_neg c]
      by_cases d : x = v - 602
      · rw [if_pos (by omega), d, gN_eq (by omega), show v - 602 + 602 = v by omega]
      · rw [if_neg (by omega), gN_ne (fun z => d z.symm)]
set_option maxRecDepth 100000 in
/-- keeps(): one block more, or the oldest goes -/
theorem keeps_n {w kp : List Int32} {a : Nat} (ha : a ≤ 10) (hw : w.length = 602) (hl : kp.length = 6020) : ∃ kp', m_keeps (nI a) w kp = (kp', nI (if a = 10 then 10 else a + 1)) ∧ kp'.length = 6020 ∧ bk kp' (if a = 10 then 9 else a) = w ∧ ∀ i, i < (if a = 10 then 9 else a) → bk kp' i = bk kp (if a = 10 then i + 1 else i) := by
  unfold m_keeps
  by_cases c : a = 10
  · subst c
    rw [if_pos rfl, if_pos rfl, if_pos (show nI 10 = 10 from rfl), show lpN 6020 602 = 5418 from lpN_nn (n := 6020) (i := 602) (by decide) (by decide)]
    obtain ⟨k1, h1, h2, h3⟩ := keeps13 (w := w) (acs := nI 10) 5418 602 kp (by omega) (by omega) hl
    obtain ⟨k2, g1, g2, g3⟩ := keeps54 (w := w) (a := 9) (by decide) 602 0 k1 (by omega) h2
    rw [show m_keeps_l13 w 5418 602 kp (nI 10) = _ from h1, show nI 10 - 1 = nI 9 from nI_sub1 (by decide), show m_keeps_l54 w 602 0 k1 (nI 9) = _ from g1]
    refine ⟨k2, rfl, g2, bk_eq hw (fun j hj => ?_), fun i hi => ?_⟩
    · rw [g3, if_pos (by omega), show 602 * 9 + j - 602 * 9 = j by omega]
    · rw [if_pos rfl]
      refine bk_of (fun j hj => ?_)
      rw [g3, if_neg (by omega), h3, if_pos (by omega), show 602 * i + j + 602 = 602 * (i + 1) + j by omega]
  · have d : ¬ nI a = 10 := fun z => c ((nI_eq (b := 10) (by omega) (by decide)).mp z)
    rw [if_neg d, if_neg c, if_neg c, show lpN 602 0 = 602 from lpN_n0 (n := 602) (by decide)]
    obtain ⟨k2, g1, g2, g3⟩ := keeps54 (w := w) (a := a) (by omega) 602 0 kp (by omega) hl
    rw [show m_keeps_l54 w 602 0 kp (nI a) = _ from g1]
    refine ⟨k2, rfl, g2, bk_eq hw (fun j hj => ?_), fun i hi => ?_⟩
    · rw [g3, if_pos (by omega), show 602 * a + j - 602 * a = j by omega]
    · rw [if_neg c]
      refine bk_of (fun j hj => ?_)
      rw [g3, if_neg (by omega)]
theorem undo25 {kp : List Int32} {a : Nat} (ha : a < 10) {th sst : Int32} : ∀ (f v : Nat) (w : List Int32), v + f = 602 → w.length = 602 → ∃ w', m_undo_l25 kp f (nI v) th sst (nI a) w = (nI a, 0, 0, nI a, w') ∧ w'.length = 602 ∧ ∀ x, gN w' x = if v ≤ x ∧ x < 602 then gN kp (602 * a + x) else gN w x
  | 0, v, w, e, hl => ⟨w, rfl, hl, fun x => by rw [if_neg (by omega)]⟩
  | f + 1, v, w, e, hl => by
    unfold m_undo_l25
    dsimp only
    have e1 : (602 : Int32) * nI a + nI v = nI (602 * a + v) := by
      show nI 602 * nI a + nI v = _
      rw [nI_mul, nI_add]
    rw [e1, nI_1, sA_n (by omega), gA_n (by omega)]
    obtain ⟨w', h1, h2, h3⟩ := undo25 ha (th := th) (sst := sst) f (v + 1) (w.set v (gN kp (602 * a + v))) (by omega) (by rw [List.length_set]; exact hl)
    refine ⟨w', h1, h2, fun x => ?_⟩
    rw [h3 x]
    by_cases c : v + 1 ≤ x ∧ x < 602
    · rw [if_pos c, if_pos (by omega)]
    · rw [if_neg c]
      by_cases d : x = v
      · rw [if_pos (by omega), d, gN_eq (by omega)]
      · rw [if_neg (by omega), gN_ne (fun z => d z.symm)]
/-- undo(): the newest block is back -/
theorem undo_n {w kp : List Int32} {a : Nat} (ha : a ≤ 10) (hw : w.length = 602) {th sst : Int32} : m_undo th sst (nI a) w kp = if a = 0 then (-1, 0, 5, 0, w) else (nI (a - 1), 0, 0, nI (a - 1), bk kp (a - 1)) := by
  unfold m_undo
  by_cases c : a = 0
  · subst c
    rw [if_pos (show nI 0 = 0 from rfl), if_pos rfl]
    rfl
  · have d : ¬ nI a = 0 := fun z => c ((nI_eq (b := 0) (by omega) (by decide)).mp z)
    rw [if_neg d, if_neg c]
    dsimp only
    rw [nI_sub1 (by omega), show lpN 602 0 = 602 from lpN_n0 (n := 602) (by decide)]
    obtain ⟨w', h1, h2, h3⟩ := undo25 (kp := kp) (a := a - 1) (by omega) (th := th) (sst := sst) 602 0 w (by omega) hw
    rw [show m_undo_l25 kp 602 0 th sst (nI (a - 1)) w = _ from h1]
    have : w' = bk kp (a - 1) := (bk_eq h2 (fun j hj => by rw [h3, if_pos (by omega)])).symm
    rw [this]

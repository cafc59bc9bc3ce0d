/-! both go on alike: moves, minutes, to the end -/
theorem lkI_congr {w' w : List Int32} (h4 : nV (gN w 296) ≤ 4) (h : ∀ j, 296 ≤ j → j < 309 → gN w' j = gN w j) {k a s q : Nat} : lkI w' k a s q ↔ lkI w k a s q := by
  unfold lkI
  rw [h 296 (by omega) (by omega)]
  constructor
  · rintro ⟨h1, h2, h3, h5⟩
    exact ⟨h1, (h _ (by omega) (by omega)).symm.trans h2, (h _ (by omega) (by omega)).symm.trans h3, (h _ (by omega) (by omega)).symm.trans h5⟩
  · rintro ⟨h1, h2, h3, h5⟩
    exact ⟨h1, (h _ (by omega) (by omega)).trans h2, (h _ (by omega) (by omega)).trans h3, (h _ (by omega) (by omega)).trans h5⟩
section DT
variable {m S t p : Nat} {v w v' w' : List Int32} {u : Nat} {care : Int32}
theorem dS.L2 (D : dS m S t p v w) (hv : ∀ j, 296 ≤ j → j < 309 → gN v' j = gN v j) (hw : ∀ j, 296 ≤ j → j < 309 → gN w' j = gN w j) : ∀ a s q, a < m → s < 7 → q < m → ((∃ k, lkI w' k a s q) ↔ ∃ k, lkI v' k (sg t a) s (sg t q)) := fun a s q h1 h2 h3 => by
  have e := D.L a s q h1 h2 h3
  constructor
  · rintro ⟨k, y⟩
    obtain ⟨k', y'⟩ := e.mp ⟨k, (lkI_congr D.W.lk4 hw).mp y⟩
    exact ⟨k', (lkI_congr D.V.lk4 hv).mpr y'⟩
  · rintro ⟨k, y⟩
    obtain ⟨k', y'⟩ := e.mpr ⟨k, (lkI_congr D.V.lk4 hv).mp y⟩
    exact ⟨k', (lkI_congr D.W.lk4 hw).mpr y'⟩
theorem dS.upd (D : dS m S t p v w) (hu : u < m) (V' : wf (m + 1) S v') (W' : wf m S w') (hv : mF (m + 1) v' v) (hw : mF m w' w) (ov : ∀ r, r < m + 1 → r ≠ sg t u → sT v' v r) (ow : ∀ r, r < m → r ≠ u → sT w' w r) (e : ∀ k, k < 28 → k ≠ 12 → ft w' u k = ft v' (sg t u) k) : dS m S t p v' w' := by
  have h5 := D.n5
  have hp := D.pm
  refine ⟨V', W', D.2.2.1, ?_, fun j hj => ?_, fun r k hr hk h12 => ?_, ?_, ⟨?_, fun k hk => ?_⟩, D.L2 (fun j a b => hv.2.2.1 j (by omega) b) (fun j a b => hw.2.2.1 j (by omega) b)⟩
  · rw [ov t (by have := D.tm; omega) (fun z => sg_ne t u z.symm) 6 (by decide)]; exact D.d3
  · rw [hw.1 j hj, hv.1 j hj]; exact D.lo hj
  · by_cases c : r = u
    · rw [c]; exact e k hk h12
    · rw [ow r hr c k hk, ov (sg t r) (sg_lt hr) (fun z => c (sg_inj z)) k hk]
      exact D.T hr hk h12
  · rw [hw.2.1 201 (by omega) (by omega), hv.2.1 201 (by omega) (by omega)]; exact D.now
  · rw [hv.2.1 (196 + p) (by omega) (by omega)]; exact D.rk.1
  · obtain ⟨x, h1, h2, h3⟩ := D.rk.2 k hk
    have := sg_lt (t := p) hk
    exact ⟨x, h1, by rw [hw.2.1 (196 + k) (by omega) (by omega)]; exact h2, by rw [hv.2.1 (196 + sg p k) (by omega) (by omega)]; exact h3⟩
theorem dS.sets (D : dS m S t p v w) (hu : u < m) (hw : m_whyNot w (nI u) = 0) : dS m S t p (m_sets v (nI (sg t u))) (m_sets w (nI u)) := by
  have h5 := D.n5
  have hS := D.W.S7
  have hsu := sg_lt (t := t) hu
  have hv : m_whyNot v (nI (sg t u)) = 0 := (D.why hu).symm.trans hw
  have hT := D.W.T hu
  refine D.upd hu (D.V.sets hsu hv) (D.W.sets hu hw) (D.V.sets_mF hsu hv) (D.W.sets_mF hu hw) (fun r h1 h2 => D.V.sets_o hsu hv h1 h2) (fun r h1 h2 => D.W.sets_o hu hw h1 h2) (fun k hk h12 => ?_)
  have e6 := D.T hu (k := 6) (by decide) (by decide)
  have hf : fR w u < 7 := by have := hT.1.2; omega
  rcases D.W.whyNot0 hu hw with ⟨c0, cb, e⟩ | ⟨c1, cn, cb, e⟩
  · rcases D.V.whyNot0 hsu hv with ⟨c0', cb', e'⟩ | ⟨c1', -, -, -⟩
    · rw [e, e', cmW_t D.W.len (by omega) (D.W.ev65 hu (by rw [c0]; decide)) hf hk, cmW_t D.V.len (by omega) (D.V.ev65 hsu (by rw [c0']; decide)) (by rw [← D.qfR hu]; exact hf) hk, ← D.qfR hu, ← D.qtF hu hf, ← D.now, ← D.T hu hk h12]
    · rw [← e6, c0] at c1'; exact absurd c1' (by decide)
  · rcases D.V.whyNot0 hsu hv with ⟨c0', -, -⟩ | ⟨c1', cn', cb', e'⟩
    · rw [← e6, c1] at c0'; exact absurd c0' (by decide)
    · have ha : atT w u < 7 := by have := (hT.2.2.2.2.1 (by rw [c1]; decide)).2; omega
      obtain ⟨-, -, x3, x4, x5⟩ := hT.next hS (by omega) (Or.inl c1)
      rw [e, e', lvW_t D.W.len (by omega) (D.W.ev65 hu (by rw [c1]; decide)) ha hk, lvW_t D.V.len (by omega) (D.V.ev65 hsu (by rw [c1']; decide)) (by rw [← D.qaT hu]; exact ha) hk, ← D.qaT hu, ← D.qsC hu, ← D.qrN hu x4, ← D.qnX hu, ← D.qtO hu, ← D.qtF hu (show nxT w u < 7 by omega), ← D.now, ← D.T hu hk h12]
theorem dS.arr (D : dS m S t p v w) (hu : u < m) (h6 : ft w u 6 = 2) : dS m S t p (m_arrives v (nI (sg t u))) (m_arrives w (nI u)) := by
  have h5 := D.n5
  have hS := D.W.S7
  have hsu := sg_lt (t := t) hu
  have h6v : ft v (sg t u) 6 = 2 := (D.T hu (by decide) (by decide)).symm.trans h6
  have hT := D.W.T hu
  obtain ⟨-, -, x3, x4, x5⟩ := hT.next hS (by omega) (Or.inr h6)
  refine D.upd hu (D.V.arr hsu h6v).2 (D.W.arr hu h6).2 (D.V.arr_mF hsu h6v) (D.W.arr_mF hu h6) (fun r h1 h2 => D.V.arr_o hsu h6v h1 h2) (fun r h1 h2 => D.W.arr_o hu h6 h1 h2) (fun k hk h12 => ?_)
  rw [(D.W.arr hu h6).1, (D.V.arr hsu h6v).1, arW_t D.W.len (by omega) (D.W.ev65 hu (by rw [h6]; decide)) (by omega) hk, arW_t D.V.len (by omega) (D.V.ev65 hsu (by rw [h6v]; decide)) (by rw [← D.qnX hu]; omega) hk, ← D.qnX hu, ← D.qtO hu, ← D.now, ← D.T hu hk h12]
theorem dS.mA1 (D : dS m S t p v w) (hu : u < m) : dS m S t p (m_mA1 v (nI (sg t u))) (m_mA1 w (nI u)) := by
  rw [mA1_n D.W hu, mA1_n D.V (sg_lt hu), ← D.T hu (k := 6) (by decide) (by decide), ← D.T hu (k := 9) (by decide) (by decide), ← D.now]
  by_cases c : ft w u 6 = 2
  · rw [if_pos c, if_pos c]
    by_cases d : gN w 201 < ft w u 9
    · rw [if_pos d, if_pos d]; exact D
    · rw [if_neg d, if_neg d]; exact D.arr hu c
  · rw [if_neg c, if_neg c]; exact D
theorem dS.mA (D : dS m S t p v w) : dS m S t p (m_mA (m + 1) 0 v) (m_mA m 0 w) := by
  rw [mA_lq, mA_lq]
  refine lq_sim (R := dS m S t p) D.tm (fun u x y hu D => D.mA1 hu) (fun x y D => ?_) D
  rw [mA1_n D.V (by have := D.tm; omega), D.d3, if_neg (by decide)]
  exact D
theorem dS.qmv (D : dS m S t p v w) (hu : u < m) : mv m w care u ↔ mv (m + 1) v care (sg t u) := by
  unfold mv
  rw [D.held hu, D.may hu, D.why hu]
  constructor
  · rintro ⟨a, b, c, d⟩
    exact ⟨a, b, c, d.imp id (fun z y => z ((D.sets hu ((D.why hu).trans c)).safe.mpr y))⟩
  · rintro ⟨a, b, c, d⟩
    exact ⟨a, b, c, d.imp id (fun z y => z ((D.sets hu ((D.why hu).trans c)).safe.mp y))⟩
theorem dS.tr (D : dS m S t p v w) (hu : u < m) (care : Int32) : dS m S t p (m_tr (m + 1) v care (sg t u)) (m_tr m w care u) := by
  by_cases c : mv m w care u
  · rw [m_tr_mv c, m_tr_mv ((D.qmv hu).mp c)]
    exact D.sets hu c.2.2.1
  · rw [m_tr_no c, m_tr_no (fun z => c ((D.qmv hu).mpr z))]
    exact D
theorem dS.mM (D : dS m S t p v w) (care : Int32) : dS m S t p (m_mM (m + 1) care (m + 1) 0 v) (m_mM m care m 0 w) := by
  rw [mM_lq, mM_lq]
  refine lq_sim (R := dS m S t p) D.pm (fun u x y hu D => ?_) (fun x y D => ?_) D
  · obtain ⟨r, h1, h2, h3⟩ := D.rk.2 u hu
    rw [mM1_n D.W hu h2, mM1_n D.V (sg_lt hu) h3]
    exact D.tr h1 care
  · have : p < m + 1 := by have := D.pm; omega
    rw [mM1_n D.V this D.rk.1, m_tr_no (fun z => by have := z.2.2.1; rw [D.whyt] at this; exact absurd this (by decide))]
    exact D
theorem dS.fin (D : dS m S t p v w) : dS m S t p (m_end (m + 1) v) (m_end m w) := by
  have h5 := D.n5
  have hp := D.pm
  have ht := D.tm
  obtain ⟨W', R'⟩ := ends_R D.W 1
  obtain ⟨V', Q'⟩ := ends_R D.V 1
  change wf m S (m_end m w) at W'
  change eR m 1 (m_end m w) w at R'
  change wf (m + 1) S (m_end (m + 1) v) at V'
  change eR (m + 1) 1 (m_end (m + 1) v) v at Q'
  generalize m_end m w = w' at *
  generalize m_end (m + 1) v = v' at *
  refine ⟨V', W', D.2.2.1, ?_, fun j hj => ?_, fun r k hr hk h12 => ?_, ?_, ⟨?_, fun k hk => ?_⟩, D.L2 (fun j a b => Q'.1.j (by omega)) (fun j a b => R'.1.j (by omega))⟩
  · rw [Q'.1.p t (by omega) 6 (by decide) (by decide)]; exact D.d3
  · rw [R'.1.lo hj, Q'.1.lo hj]; exact D.lo hj
  · have := sg_lt (t := t) hr
    rw [R'.1.p r (by omega) k hk h12, Q'.1.p (sg t r) (by omega) k hk h12]
    exact D.T hr hk h12
  · rw [R'.2.1, Q'.2.1, D.now]
  · rw [Q'.1.j (by omega)]; exact D.rk.1
  · obtain ⟨x, h1, h2, h3⟩ := D.rk.2 k hk
    have := sg_lt (t := p) hk
    exact ⟨x, h1, by rw [R'.1.j (by omega)]; exact h2, by rw [Q'.1.j (by omega)]; exact h3⟩
theorem dS.mnt (D : dS m S t p v w) (care : Int32) : dS m S t p (m_minute (m + 1) v care) (m_minute m w care) := (D.mA.mM care).fin
/-! sums over the trains -/
theorem sumN_sg {g : Nat → Nat} {t : Nat} : ∀ {m : Nat}, t ≤ m → sumN g (m + 1) = sumN (fun u => g (sg t u)) m + g t
  | 0, h => by
    have : t = 0 := by omega
    rw [this]
    rfl
  | m + 1, h => by
    by_cases c : t = m + 1
    · rw [c]
      show sumN g (m + 1) + g (m + 1) = _
      rw [sumN_congr (n := m + 1) (f := g) (f' := fun u => g (sg (m + 1) u)) (fun u hu => by show g (sg (m + 1) u) = g u; rw [show sg (m + 1) u = u from if_pos hu])]
    · have ih := sumN_sg (g := g) (t := t) (m := m) (by omega)
      show sumN g (m + 1) + g (m + 1) = (sumN (fun u => g (sg t u)) m + g (sg t m)) + g t
      rw [ih, show sg t m = m + 1 from if_neg (by omega)]
      omega
theorem cnt_l {n : Nat} (H : wg n S w) {x : Int32} : ∀ (f i : Nat), i + f = n → m_howMany_l4 w x f (nI i) (nI (sumN (fun u => bN (decide (ft w u 6 = x))) i)) = nI (sumN (fun u => bN (decide (ft w u 6 = x))) n)
  | 0, i, e => by rw [show i = n by omega]; rfl
  | f + 1, i, e => by
    have h5 := H.n5
    unfold m_howMany_l4
    rw [nI_1, m_of6 (by omega)]
    have ih := cnt_l H (x := x) f (i + 1) (by omega)
    rw [show sumN (fun u => bN (decide (ft w u 6 = x))) (i + 1) = sumN (fun u => bN (decide (ft w u 6 = x))) i + bN (decide (ft w i 6 = x)) from rfl] at ih
    by_cases c : ft w i 6 = x
    · rw [decide_eq_true c, show bN true = 1 from rfl] at ih
      rw [if_pos c, nI_1]
      exact ih
    · rw [decide_eq_false c, show bN false = 0 from rfl, Nat.add_zero] at ih
      rw [if_neg c, Int32.add_zero]
      exact ih
theorem cnt_n {n : Nat} (H : wg n S w) (x : Int32) : m_howMany w x = nI (sumN (fun u => bN (decide (ft w u 6 = x))) n) := by
  unfold m_howMany
  rw [H.gn, lpN_n0 (by have := H.n5; omega)]
  exact cnt_l H n 0 (Nat.zero_add n)
theorem dS.more (D : dS m S t p v w) : m_howMany w 3 < gA w 203 ↔ m_howMany v 3 < gA v 203 := by
  have h5 := D.n5
  rw [howMany_lt D.W.g, howMany_lt D.V.g, cnt_n D.W.g, cnt_n D.V.g, sumN_sg D.tm]
  have e : sumN (fun u => bN (decide (ft v (sg t u) 6 = 3))) m = sumN (fun u => bN (decide (ft w u 6 = 3))) m := sumN_congr (fun u hu => by rw [D.T hu (k := 6) (by decide) (by decide)])
  rw [e, decide_eq_true D.d3, show bN true = 1 from rfl]
  have hb : sumN (fun u => bN (decide (ft w u 6 = 3))) m ≤ 1 * m := sumN_le (fun u _ => by unfold bN; split <;> omega)
  generalize sumN (fun u => bN (decide (ft w u 6 = 3))) m = c at *
  rw [nI_eq (by omega) (by omega), nI_eq (by omega) (by omega)]
  omega
theorem stk_l {n : Nat} (H : wg n S w) : ∀ (f i : Nat) (x : Int32), i + f = n → (m_isStuck_l4 w f (nI i) x = 0 ↔ (∃ u, i ≤ u ∧ u < n ∧ (ft w u 6 = 2 ∨ m_whyNot w (nI u) = 0)) ∨ (x = 0 ∧ ∀ u, i ≤ u → u < n → ¬ ft w u 6 = 1))
  | 0, i, x, e => by
    unfold m_isStuck_l4
    exact ⟨fun z => Or.inr ⟨z, fun u a b => absurd b (by omega)⟩, fun z => by
      rcases z with ⟨u, a, b, -⟩ | z
      · omega
      · exact z.1⟩
  | f + 1, i, x, e => by
    have h5 := H.n5
    unfold m_isStuck_l4
    rw [m_of6 (by omega), nI_1]
    by_cases c2 : ft w i 6 = 2
    · rw [if_pos c2]
      exact ⟨fun _ => Or.inl ⟨i, Nat.le_refl i, by omega, Or.inl c2⟩, fun _ => rfl⟩
    rw [if_neg c2]
    by_cases c0 : m_whyNot w (nI i) = 0
    · rw [if_pos c0]
      exact ⟨fun _ => Or.inl ⟨i, Nat.le_refl i, by omega, Or.inr c0⟩, fun _ => rfl⟩
    rw [if_neg c0, stk_l H f (i + 1) _ (by omega)]
    have e1 : (∃ u, i + 1 ≤ u ∧ u < n ∧ (ft w u 6 = 2 ∨ m_whyNot w (nI u) = 0)) ↔ ∃ u, i ≤ u ∧ u < n ∧ (ft w u 6 = 2 ∨ m_whyNot w (nI u) = 0) := by
      constructor
      · rintro ⟨u, a, b, z⟩; exact ⟨u, by omega, b, z⟩
      · rintro ⟨u, a, b, z⟩
        by_cases d : u = i
        · rw [d] at z
          rcases z with z | z
          · exact absurd z c2
          · exact absurd z c0
        · exact ⟨u, by omega, b, z⟩
    rw [e1]
    have e2 : ((if x = 0 then (if ft w i 6 = 1 then (1 : Int32) else 0) else 1) = 0 ∧ ∀ u, i + 1 ≤ u → u < n → ¬ ft w u 6 = 1) ↔ (x = 0 ∧ ∀ u, i ≤ u → u < n → ¬ ft w u 6 = 1) := by
      by_cases d : x = 0
      · rw [if_pos d]
        by_cases d1 : ft w i 6 = 1
        · rw [if_pos d1]
          exact ⟨fun z => absurd z.1 (by decide), fun z => absurd d1 (z.2 i (Nat.le_refl i) (by omega))⟩
        · rw [if_neg d1]
          refine ⟨fun z => ⟨d, fun u a b => ?_⟩, fun z => ⟨rfl, fun u a b => z.2 u (by omega) b⟩⟩
          by_cases q : u = i
          · rw [q]; exact d1
          · exact z.2 u (by omega) b
      · rw [if_neg d]
        exact ⟨fun z => absurd z.1 (by decide), fun z => absurd z.1 d⟩
    rw [e2]
theorem dS.stuck (D : dS m S t p v w) : m_isStuck w = 0 ↔ m_isStuck v = 0 := by
  have h5 := D.n5
  unfold m_isStuck
  rw [D.W.gn, D.V.gn, lpN_n0 (by omega), lpN_n0 (by omega)]
  show m_isStuck_l4 w m (nI 0) 0 = 0 ↔ m_isStuck_l4 v (m + 1) (nI 0) 0 = 0
  rw [stk_l D.W.g m 0 _ (Nat.zero_add m), stk_l D.V.g (m + 1) 0 _ (Nat.zero_add (m + 1))]
  constructor
  · rintro (⟨u, -, b, z⟩ | ⟨-, z⟩)
    · exact Or.inl ⟨sg t u, Nat.zero_le _, sg_lt b, by rw [← D.T b (k := 6) (by decide) (by decide), ← D.why b]; exact z⟩
    · refine Or.inr ⟨rfl, fun r _ hr => ?_⟩
      by_cases c : r = t
      · rw [c, D.d3]; decide
      · obtain ⟨u, a, b⟩ := sg_on hr D.tm c
        rw [← b, ← D.T a (k := 6) (by decide) (by decide)]
        exact z u (Nat.zero_le u) a
  · rintro (⟨r, -, hr, z⟩ | ⟨-, z⟩)
    · by_cases c : r = t
      · rw [c, D.d3, D.whyt] at z
        rcases z with z | z <;> exact absurd z (by decide)
      · obtain ⟨u, a, b⟩ := sg_on hr D.tm c
        rw [← b, ← D.T a (k := 6) (by decide) (by decide), ← D.why a] at z
        exact Or.inl ⟨u, Nat.zero_le u, a, z⟩
    · exact Or.inr ⟨rfl, fun u _ hu => by rw [D.T hu (k := 6) (by decide) (by decide)]; exact z _ (Nat.zero_le _) (sg_lt hu)⟩
theorem dS.tte (care : Int32) : ∀ (f : Nat) {v w : List Int32}, dS m S t p v w → dS m S t p (m_tte (m + 1) care f v) (m_tte m care f w)
  | 0, _, _, D => D
  | f + 1, v, w, D => by
    unfold m_tte
    by_cases c : m_howMany w 3 < gA w 203
    · rw [if_pos c, if_pos (D.more.mp c)]
      by_cases d : m_isStuck w = 0
      · rw [if_pos d, if_pos (D.stuck.mp d)]
        exact dS.tte care f (D.mnt care)
      · rw [if_neg d, if_neg (fun z => d (D.stuck.mpr z))]
        exact D
    · rw [if_neg c, if_neg (fun z => c (D.more.mpr z))]
      exact D
/-! prices -/
theorem dS.lone_l (D : dS m S t p v w) (hu : u < m) : ∀ (f k : Nat) (x : Int32), k + f < 7 → m_loneOf_l18 w (nI u) f (nI k) x = m_loneOf_l18 v (nI (sg t u)) f (nI k) x
  | 0, _, _, _ => rfl
  | f + 1, k, x, e => by
    have h5 := D.n5
    have hsu := sg_lt (t := t) hu
    unfold m_loneOf_l18
    rw [nI_1, m_runOf_n (by omega) (by omega), m_runOf_n (by omega) (by omega), D.qrN hu (by omega)]
    exact dS.lone_l D hu f (k + 1) _ (by omega)
theorem dS.lone (D : dS m S t p v w) (hu : u < m) : m_loneOf w (nI u) = m_loneOf v (nI (sg t u)) := by
  have h5 := D.n5
  have hS := D.W.S7
  have hsu := sg_lt (t := t) hu
  have hT := D.W.T hu
  rw [hT.lone hS (by omega), (D.V.T hsu).lone hS (by omega), ← D.qfR hu, ← D.qtO hu]
  have h1 := hT.1.2
  have h2 := hT.2.1.2
  exact D.lone_l hu _ _ _ (by omega)
/-- what a train's delay costs -/
def pT (w : List Int32) (u : Nat) : Int32 := ft w u 5 * (if ft w u 6 = 3 then m_delayOf w (nI u) else 1000)
/-- the price of all but one -/
def prX (n : Nat) (w : List Int32) (t : Nat) : Int32 := lq (fun i a => if i = t then a else a + pT w i) n 0 0
theorem price_lq {n : Nat} (H : wg n S w) : ∀ (f i : Nat) (a : Int32), i + f = n → m_price_l4 w f (nI i) a = lq (fun i a => a + pT w i) f i a
  | 0, _, _, _ => rfl
  | f + 1, i, a, e => by
    have h5 := H.n5
    unfold m_price_l4
    rw [nI_1, m_of5 (by omega), m_of6 (by omega)]
    exact price_lq H f (i + 1) _ (by omega)
theorem dS.qpT (D : dS m S t p v w) (hu : u < m) : pT w u = pT v (sg t u) := by
  have h5 := D.n5
  have hsu := sg_lt (t := t) hu
  unfold pT m_delayOf
  rw [m_of11 (by omega), m_of11 (by omega), m_of3 (by omega), m_of3 (by omega), D.lone hu, D.T hu (k := 5) (by decide) (by decide), D.T hu (k := 6) (by decide) (by decide), D.T hu (k := 11) (by decide) (by decide), D.T hu (k := 3) (by decide) (by decide)]
theorem dS.price (D : dS m S t p v w) : m_price w = prX (m + 1) v t := by
  have h5 := D.n5
  unfold m_price prX
  rw [D.W.gn, lpN_n0 (by omega), show (0 : Int32) = nI 0 from rfl, price_lq D.W.g m 0 _ (Nat.zero_add m)]
  refine (lq_sim (R := fun a b => b = a) D.tm (fun u x y hu h => ?_) (fun x y h => ?_) rfl)
  · show y + pT w u = if sg t u = t then x else x + pT v (sg t u)
    rw [if_neg (sg_ne t u), D.qpT hu, h]
  · show y = if t = t then x else _
    rw [if_pos rfl]; exact h
end DT

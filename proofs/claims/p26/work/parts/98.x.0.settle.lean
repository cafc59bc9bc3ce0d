/-! a layout settled: its rows tell what follows -/
/-- what a layout's rows tell of the block -/
def lyT (n S : Nat) (w run tra len siz frm tto slo wei : List Int32) : Prop :=
  (∀ s, s < S → gN run s = fs w s 0 ∧ gN tra s = fs w s 1 ∧ ∀ k, k < mN w s → gN len (3 * s + k) = fs w s (2 + k)) ∧
  (∀ t, t < n → gN siz t = ft w t 0 ∧ gN frm t = ft w t 1 ∧ gN tto t = ft w t 2 ∧ gN slo t = ft w t 4 ∧ gN wei t = ft w t 5)
section SE
variable {n S : Nat} {w run tra len siz frm tto slo wei fit way rid lon : List Int32} {cel : Int32} {t : Nat}
theorem se_cells (H : wg n S w) (T : lyT n S w run tra len siz frm tto slo wei) {s c : Nat} (hs : s < S) (hc : c < 32) : tb (x_cellsOf tra (nI s)) c = decide (3 * s ≤ c ∧ c < 3 * s + mN w s) := by
  have hS := H.S7
  have hw := H.St (s := s) (by omega)
  unfold x_cellsOf
  have e : nI s * 3 = nI (3 * s) := by
    show nI s * nI 3 = _
    rw [nI_mul]
    congr 1
    omega
  rw [gA_n (by omega), (T.1 s hs).2.1, hw.1, e, tb_shl (by omega) hc, tb_ones (by have := hw.2.1; omega) (by omega)]
  by_cases d : 3 * s ≤ c
  · rw [decide_eq_true d, Bool.true_and]
    by_cases d2 : c - 3 * s < mN w s
    · rw [decide_eq_true d2, decide_eq_true ⟨d, by omega⟩]
    · rw [decide_eq_false d2, decide_eq_false (fun z => d2 (by omega))]
  · rw [decide_eq_false d, Bool.false_and, decide_eq_false (fun z => d z.1)]
/-- which cells there are, of the first stations -/
def seC (w : List Int32) (i : Nat) (cel : Int32) : Prop := ∀ c, c < 32 → (tb cel c = true ↔ c < 21 ∧ c / 3 < i ∧ c % 3 < mN w (c / 3))
theorem se_l7 (H : wg n S w) (T : lyT n S w run tra len siz frm tto slo wei) {ns nt : Int32} : ∀ (f i : Nat) (cel : Int32), i + f = S → seC w i cel → ∃ cel', x_settle_l7 ns nt run tra len siz frm tto slo f (nI i) cel fit rid lon way = x_settle_l37 ns run len siz frm tto slo (lpN nt 0) 0 cel' fit rid lon way ∧ seC w S cel'
  | 0, i, cel, e, h => ⟨cel, rfl, by rw [← show i = S by omega]; exact h⟩
  | f + 1, i, cel, e, h => by
    have hS := H.S7
    have hm := (H.St (s := i) (by omega)).2.1
    unfold x_settle_l7
    dsimp only
    rw [nI_1]
    refine se_l7 H T f (i + 1) _ (by omega) (fun c hc => ?_)
    rw [tb_or, se_cells H T (by omega) hc, Bool.or_eq_true, h c hc, decide_eq_true_iff]
    constructor
    · rintro (⟨a, b, d⟩ | ⟨a, b⟩)
      · exact ⟨a, by omega, d⟩
      · have : c / 3 = i := by omega
        rw [this]
        omega
    · rintro ⟨a, b, d⟩
      by_cases q : c / 3 = i
      · rw [q] at d
        exact Or.inr (by omega)
      · exact Or.inl ⟨a, by omega, d⟩
theorem se_fit (ht : t < 5) (hl : 5 ≤ fit.length) : ∀ (f c : Nat) (fit : List Int32), 5 ≤ fit.length → c + f = 21 → ∃ B, x_settleFit_l9 cel len siz (nI t) f (nI c) fit = fit.set t B ∧ ∀ d, d < 32 → (tb B d = true ↔ tb (gN fit t) d = true ∨ c ≤ d ∧ d < 21 ∧ tb cel d = true ∧ ¬ gN len d < gN siz t)
  | 0, c, fit, hf, e => ⟨gN fit t, by
    unfold x_settleFit_l9
    exact (gN_ext (by rw [List.length_set]) (fun j hj => by
      by_cases q : j = t
      · rw [q, gN_eq (by omega)]
      · rw [gN_ne (fun z => q z.symm)])).symm, fun d hd => ⟨Or.inl, fun z => z.resolve_right (by omega)⟩⟩
  | f + 1, c, fit, hf, e => by
    unfold x_settleFit_l9
    rw [nI_1, gA_n (by omega), gA_n (l := siz) (by omega), sA_n (by omega), gA_n (l := fit) (by omega)]
    by_cases c1 : (cel >>> (nI c &&& 31)) &&& 1 = 0
    · rw [if_pos c1]
      obtain ⟨B, h1, h2⟩ := se_fit ht hl f (c + 1) fit hf (by omega)
      refine ⟨B, h1, fun d hd => ?_⟩
      rw [h2 d hd]
      have := (tb_b0 (by omega)).mp c1
      constructor
      · rintro (z | ⟨z1, z2⟩)
        · exact Or.inl z
        · exact Or.inr ⟨by omega, z2⟩
      · rintro (z | ⟨z1, z2, z3, z4⟩)
        · exact Or.inl z
        · refine Or.inr ⟨?_, z2, z3, z4⟩
          by_cases q : c = d
          · rw [← q, this] at z3; cases z3
          · omega
    · rw [if_neg c1]
      have c1' : tb cel c = true := by
        cases z : tb cel c
        · exact absurd ((tb_b0 (by omega)).mpr z) c1
        · rfl
      by_cases c2 : gN len c < gN siz t
      · rw [if_pos c2]
        obtain ⟨B, h1, h2⟩ := se_fit ht hl f (c + 1) fit hf (by omega)
        refine ⟨B, h1, fun d hd => ?_⟩
        rw [h2 d hd]
        constructor
        · rintro (z | ⟨z1, z2⟩)
          · exact Or.inl z
          · exact Or.inr ⟨by omega, z2⟩
        · rintro (z | ⟨z1, z2, z3, z4⟩)
          · exact Or.inl z
          · refine Or.inr ⟨?_, z2, z3, z4⟩
            by_cases q : c = d
            · rw [← q] at z4; exact absurd c2 z4
            · omega
      · rw [if_neg c2]
        dsimp only
        obtain ⟨B, h1, h2⟩ := se_fit ht hl f (c + 1) (fit.set t (gN fit t ||| (1 <<< (nI c &&& 31)))) (by rw [List.length_set]; exact hf) (by omega)
        refine ⟨B, by rw [h1, List.set_set], fun d hd => ?_⟩
        rw [h2 d hd, gN_eq (by omega), tb_or, tb_one (by omega) hd, Bool.or_eq_true, decide_eq_true_iff]
        constructor
        · rintro ((z | z) | ⟨z1, z2⟩)
          · exact Or.inl z
          · rw [← z]; exact Or.inr ⟨Nat.le_refl _, by omega, c1', c2⟩
          · exact Or.inr ⟨by omega, z2⟩
        · rintro (z | ⟨z1, z2, z3, z4⟩)
          · exact Or.inl (Or.inl z)
          · by_cases q : c = d
            · exact Or.inl (Or.inr q)
            · exact Or.inr ⟨by omega, z2, z3, z4⟩
theorem se_wayb : ∀ (f b : Nat) (v : Int32), b + f ≤ 7 → ∀ d, d < 32 → (tb (x_wayb f (nI b) v) d = true ↔ tb v d = true ∨ d % 3 = 0 ∧ b ≤ d / 3 ∧ d / 3 < b + f)
  | 0, b, v, e, d, hd => ⟨Or.inl, fun z => z.resolve_right (by omega)⟩
  | f + 1, b, v, e, d, hd => by
    unfold x_wayb
    have e3 : nI b * 3 = nI (3 * b) := by
      show nI b * nI 3 = _
      rw [nI_mul]
      congr 1
      omega
    rw [nI_1, e3, se_wayb f (b + 1) _ (by omega) d hd, tb_or, tb_one (by omega) hd, Bool.or_eq_true, decide_eq_true_iff]
    constructor
    · rintro ((z | z) | z)
      · exact Or.inl z
      · exact Or.inr (by omega)
      · exact Or.inr (by omega)
    · rintro (z | z)
      · exact Or.inl (Or.inl z)
      · by_cases q : 3 * b = d
        · exact Or.inl (Or.inr q)
        · exact Or.inr (by omega)
theorem se_l69 (hS : S ≤ 7) (ht : t < 5) {q : Nat} (hq : q < 7) (hto : gN tto t = nI q) {rid lon : List Int32} : ∀ (f i : Nat) (way : List Int32), i + f = S → way.length = 35 → ∃ way', x_settleWay_l69 tto (nI t) f (nI i) rid lon way = (rid, lon, way') ∧ way'.length = 35 ∧ (∀ j, (j < 7 * t + i ∨ 7 * t + S ≤ j) → gN way' j = gN way j) ∧ ∀ s, i ≤ s → s < S → ∀ d, d < 32 → (tb (gN way' (7 * t + s)) d = true ↔ d % 3 = 0 ∧ min s q < d / 3 ∧ d / 3 < max s q)
  | 0, i, way, e, hl => ⟨way, rfl, hl, fun j _ => rfl, fun s h1 h2 => absurd h2 (by omega)⟩
  | f + 1, i, way, e, hl => by
    unfold x_settleWay_l69
    dsimp only
    rw [nI_1, i67, gA_n (by omega), hto, sA_n (by omega), iMx_n (by omega) (by omega), iMn_n (by omega) (by omega), nI_1, lpN_nn (by omega) (by omega)]
    obtain ⟨way', h1, h2, h3, h4⟩ := se_l69 hS ht hq hto (rid := rid) (lon := lon) f (i + 1) (way.set (7 * t + i) (x_wayb (max i q - (min i q + 1)) (nI (min i q + 1)) 0)) (by omega) (by rw [List.length_set]; exact hl)
    refine ⟨way', h1, h2, fun j hj => by rw [h3 j (by omega), gN_ne (by omega)], fun s g1 g2 d hd => ?_⟩
    by_cases c : s = i
    · rw [c, h3 _ (by omega), gN_eq (by omega), se_wayb _ _ _ (by omega) d hd, tb_0]
      constructor
      · rintro (z | z)
        · cases z
        · omega
      · intro z
        exact Or.inr (by omega)
    · exact h4 s (by omega) g2 d hd
theorem se_l2 (T : lyT n S w run tra len siz frm tto slo wei) (hS : S ≤ 7) (h5 : n ≤ 5) (ht : t < n) {ns : Int32} {lon way : List Int32} : ∀ (f k : Nat) (rid : List Int32), k + f = S - 1 → rid.length = 30 → ∃ rid', x_settleWay_l2 ns run frm tto slo (nI t) f (nI k) rid lon way = x_settleWay_l69 tto (nI t) (lpN ns 0) 0 rid' (lon.set t (x_rideTo frm rid' (nI t) (gN tto t))) way ∧ rid'.length = 30 ∧ (∀ j, (j < 6 * t + k ∨ 6 * t + 6 ≤ j) → gN rid' j = gN rid j) ∧ ∀ i, k ≤ i → i + 1 < S → gN rid' (6 * t + i) = rN w t i
  | 0, k, rid, e, hl => ⟨rid, by
    unfold x_settleWay_l2
    dsimp only
    rw [sA_n (by omega), gA_n (by omega)], hl, fun _ _ => rfl, fun i h1 h2 => absurd h2 (by omega)⟩
  | f + 1, k, rid, e, hl => by
    unfold x_settleWay_l2
    dsimp only
    rw [nI_1, i67x, sA_n (by omega), gA_n (by omega), gA_n (l := slo) (by omega), (T.1 (k + 1) (by omega)).1, (T.2 t ht).2.2.2.1]
    obtain ⟨rid', h1, h2, h3, h4⟩ := se_l2 T hS h5 ht (ns := ns) (lon := lon) (way := way) f (k + 1) (rid.set (6 * t + k) ((fs w (k + 1) 0 * (2 + ft w t 4) + 1) / 2)) (by omega) (by rw [List.length_set]; exact hl)
    refine ⟨rid', h1, h2, fun j hj => by rw [h3 j (by omega), gN_ne (by omega)], fun i g1 g2 => ?_⟩
    by_cases c : i = k
    · rw [c, h3 _ (by omega), gN_eq (by omega)]
      rfl
    · exact h4 i (by omega) g2
theorem se_ride (hS : S ≤ 7) (ht : t < 5) (hr : ∀ i, i + 1 < S → gN rid (6 * t + i) = rN w t i) {x : Int32} : ∀ (f k : Nat) (v : Int32), k + f < S → x_rideTo_l14 rid (nI t) x f (nI k) v = m_loneOf_l18 w (nI t) f (nI k) v
  | 0, _, _, _ => rfl
  | f + 1, k, v, e => by
    unfold x_rideTo_l14 m_loneOf_l18
    rw [nI_1, i67x, gA_n (by omega), hr k (by omega), m_runOf_n (by omega) (by omega)]
    exact se_ride hS ht hr f (k + 1) _ (by omega)
/-- what is settled of a train -/
def seT (S : Nat) (w len siz fit way rid lon : List Int32) (cel : Int32) (t : Nat) : Prop :=
  (∀ d, d < 32 → (tb (gN fit t) d = true ↔ d < 21 ∧ tb cel d = true ∧ ¬ gN len d < gN siz t)) ∧
  (∀ s, s < S → ∀ d, d < 32 → (tb (gN way (7 * t + s)) d = true ↔ d % 3 = 0 ∧ min s (tO w t) < d / 3 ∧ d / 3 < max s (tO w t))) ∧
  (∀ k, k + 1 < S → gN rid (6 * t + k) = rN w t k) ∧ gN lon t = m_loneOf w (nI t)
theorem se_way (H : wg n S w) (T : lyT n S w run tra len siz frm tto slo wei) (ht : t < n) (h1 : way.length = 35) (h2 : rid.length = 30) (h3 : lon.length = 5) : ∃ rid' lon' way', x_settleWay (nI S) run frm tto slo way rid lon (nI t) = (rid', lon', way') ∧ (way'.length = 35 ∧ rid'.length = 30 ∧ lon'.length = 5) ∧ (∀ u, u ≠ t → u < 5 → (∀ s, s < 7 → gN way' (7 * u + s) = gN way (7 * u + s)) ∧ (∀ k, k < 6 → gN rid' (6 * u + k) = gN rid (6 * u + k)) ∧ gN lon' u = gN lon u) ∧ (∀ s, s < S → ∀ d, d < 32 → (tb (gN way' (7 * t + s)) d = true ↔ d % 3 = 0 ∧ min s (tO w t) < d / 3 ∧ d / 3 < max s (tO w t))) ∧ (∀ k, k + 1 < S → gN rid' (6 * t + k) = rN w t k) ∧ gN lon' t = m_loneOf w (nI t) := by
  have h5 := H.n5
  have hS := H.S7
  have hT := H.T ht
  have ho := hT.2.1
  have e0 : lpN (nI S - 1) 0 = S - 1 := by
    have : (nI S - 1).toInt = (S : Int) - 1 := predn (k := 1) (by omega) (by decide)
    unfold lpN
    rw [this, show (0 : Int32).toInt = 0 from rfl]
    omega
  have hto : gN tto t = nI (tO w t) := (T.2 t ht).2.2.1.trans ho.1
  unfold x_settleWay
  rw [e0]
  obtain ⟨rid', a1, a2, a3, a4⟩ := se_l2 T hS h5 ht (ns := nI S) (lon := lon) (way := way) (S - 1) 0 rid (Nat.zero_add _) h2
  obtain ⟨way', b1, b2, b3, b4⟩ := se_l69 (S := S) hS (show t < 5 by omega) (q := tO w t) (by omega) hto (rid := rid') (lon := lon.set t (x_rideTo frm rid' (nI t) (gN tto t))) S 0 way (Nat.zero_add _) h1
  rw [show x_settleWay_l2 (nI S) run frm tto slo (nI t) (S - 1) 0 rid lon way = _ from a1, lpN_n0 (by omega)]
  refine ⟨rid', _, way', b1, ⟨b2, a2, by rw [List.length_set]; exact h3⟩, fun u hu hu5 => ⟨fun s hs => b3 _ (by omega), fun k hk => a3 _ (by omega), gN_ne (fun z => hu z.symm)⟩, fun s hs d hd => b4 s (Nat.zero_le s) hs d hd, fun k hk => a4 k (Nat.zero_le k) hk, ?_⟩
  rw [gN_eq (by omega)]
  unfold x_rideTo m_loneOf
  rw [gA_n (by omega), (T.2 t ht).2.1, hto, m_of1 (by omega), m_of2 (by omega), hT.1.1, ho.1, iMx_n (by have := hT.1.2; omega) (by omega), iMn_n (by have := hT.1.2; omega) (by omega), lpN_nn (by have := hT.1.2; omega) (by omega)]
  exact se_ride hS (by omega) (fun i hi => a4 i (Nat.zero_le i) hi) _ _ 0 (by have := hT.1.2; omega)
theorem se_l37 (H : wg n S w) (T : lyT n S w run tra len siz frm tto slo wei) : ∀ (f i : Nat) (fit rid lon way : List Int32), i + f = n → fit.length = 5 → way.length = 35 → rid.length = 30 → lon.length = 5 → (∀ t, t < i → seT S w len siz fit way rid lon cel t) → ∃ fit' rid' lon' way', x_settle_l37 (nI S) run len siz frm tto slo f (nI i) cel fit rid lon way = (cel, fit', rid', lon', way') ∧ ∀ t, t < n → seT S w len siz fit' way' rid' lon' cel t
  | 0, i, fit, rid, lon, way, e, g1, g2, g3, g4, h => ⟨fit, rid, lon, way, rfl, fun t ht => h t (by omega)⟩
  | f + 1, i, fit, rid, lon, way, e, g1, g2, g3, g4, h => by
    have h5 := H.n5
    unfold x_settle_l37
    dsimp only
    rw [nI_1]
    obtain ⟨rid', lon', way', a1, ⟨a2, a3, a4⟩, a5, a6, a7, a8⟩ := se_way H T (t := i) (by omega) g2 g3 g4
    have hF : ∃ B, x_settleFit cel len siz fit (nI i) = fit.set i B ∧ ∀ d, d < 32 → (tb B d = true ↔ d < 21 ∧ tb cel d = true ∧ ¬ gN len d < gN siz i) := by
      unfold x_settleFit
      dsimp only
      rw [sA_n (by omega), show lpN 21 0 = 21 from lpN_n0 (n := 21) (by decide)]
      obtain ⟨B, h1, h2⟩ := se_fit (cel := cel) (len := len) (siz := siz) (t := i) (by omega) (fit := fit) (by omega) 21 0 (fit.set i 0) (by rw [List.length_set]; omega) (by omega)
      refine ⟨B, (show x_settleFit_l9 cel len siz (nI i) 21 0 (fit.set i 0) = _ from h1).trans (List.set_set ..), fun d hd => ?_⟩
      rw [h2 d hd, gN_eq (by omega), tb_0]
      constructor
      · rintro (z | z)
        · cases z
        · exact z.2
      · exact fun z => Or.inr ⟨Nat.zero_le d, z⟩
    obtain ⟨B, b1, b2⟩ := hF
    rw [a1, b1]
    refine se_l37 H T f (i + 1) (fit.set i B) rid' lon' way' (by omega) (by rw [List.length_set]; exact g1) a2 a3 a4 (fun t ht => ?_)
    by_cases c : t = i
    · subst c
      exact ⟨by rw [gN_eq (by omega)]; exact b2, a6, a7, a8⟩
    · obtain ⟨c1, c2, c3, c4⟩ := h t (by omega)
      obtain ⟨d1, d2, d3⟩ := a5 t c (by omega)
      have hS := H.S7
      exact ⟨by rw [gN_ne (fun z => c z.symm)]; exact c1, fun s hs => by rw [d1 s (by omega)]; exact c2 s hs, fun k hk => by rw [d2 k (by omega)]; exact c3 k hk, by rw [d3]; exact c4⟩
/-- a layout settled -/
theorem se_qY (H : wg n S w) (T : lyT n S w run tra len siz frm tto slo wei) (g1 : fit.length = 5) (g2 : way.length = 35) (g3 : rid.length = 30) (g4 : lon.length = 5) : ∃ cel' fit' rid' lon' way', x_settle (nI S) (nI n) run tra len siz frm tto slo fit way rid lon cel = (cel', fit', rid', lon', way') ∧ qY n S w tra len frm tto wei fit' way' rid' lon' cel' := by
  have h5 := H.n5
  have hS := H.S7
  unfold x_settle
  rw [lpN_n0 (by omega)]
  obtain ⟨cel', a1, a2⟩ := se_l7 H T (ns := nI S) (nt := nI n) (fit := fit) (rid := rid) (lon := lon) (way := way) S 0 0 (Nat.zero_add S) (fun c hc => by
    rw [tb_0]
    exact ⟨fun z => (by cases z), fun z => absurd z.2.1 (by omega)⟩)
  rw [show x_settle_l7 (nI S) (nI n) run tra len siz frm tto slo S 0 0 fit rid lon way = _ from a1, lpN_n0 (by omega)]
  obtain ⟨fit', rid', lon', way', b1, b2⟩ := se_l37 (cel := cel') H T n 0 fit rid lon way (Nat.zero_add n) g1 g2 g3 g4 (fun t ht => absurd ht (by omega))
  refine ⟨cel', fit', rid', lon', way', b1, fun s hs => (T.1 s hs).2, fun t ht => ⟨(T.2 t ht).2.1, (T.2 t ht).2.2.1, (T.2 t ht).2.2.2.2⟩, fun c hc => a2 c hc, fun t ht c hc => ?_, fun t s ht hs c hc => ?_, fun t k ht hk => (b2 t ht).2.2.1 k hk, fun t ht => (b2 t ht).2.2.2⟩
  · rw [(b2 t ht).1 c hc, a2 c hc, (T.2 t ht).1]
    constructor
    · rintro ⟨z1, ⟨z2, z3, z4⟩, z5⟩
      have := (T.1 (c / 3) z3).2.2 (c % 3) z4
      rw [show 3 * (c / 3) + c % 3 = c by omega] at this
      rw [this] at z5
      exact ⟨z1, z3, z4, z5⟩
    · rintro ⟨z1, z3, z4, z5⟩
      have := (T.1 (c / 3) z3).2.2 (c % 3) z4
      rw [show 3 * (c / 3) + c % 3 = c by omega] at this
      rw [this]
      exact ⟨z1, ⟨z1, z3, z4⟩, z5⟩
  · rw [(b2 t ht).2.1 s hs c hc]
    have ho := (H.T ht).2.1.2
    constructor
    · rintro ⟨z1, z2, z3⟩
      exact ⟨by omega, z1, z2, z3⟩
    · rintro ⟨z0, z1, z2, z3⟩
      exact ⟨z1, z2, z3⟩
end SE

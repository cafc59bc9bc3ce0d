/-! behind load both stand alike: the first block -/
section LD
variable {n S : Nat} {rd : List Int32} {sn : List Int64} {tn : List Int64} {run tra len siz frm tto lst slo wei : List Int32}
/-- what the text tells, and what is told of it -/
def ldH (n S : Nat) (rd : List Int32) (sn tn : List Int64) (run tra len siz frm tto lst slo wei : List Int32) : Prop := (n ≤ 5 ∧ S ≤ 7) ∧ rd.length = 602 ∧ gN rd 202 = nI S ∧ gN rd 203 = nI n ∧ dR rd (S, sn, run, tra, len) (n, tn, siz, frm, tto, lst, slo, wei)
theorem ldH.qz (H : ldH n S rd sn tn run tra len siz frm tto lst slo wei) {j : Nat} (hj : zJ j) (hr : j < 196 ∨ 201 ≤ j) : gN (ldW n rd) j = if 246 ≤ j ∧ j < 296 then -1 else 0 := by
  have h5 := H.1.1
  rw [ldW_o h5 (by omega)]
  exact H.2.2.2.2.2.2.1 j hj
theorem ldH.qz0 (H : ldH n S rd sn tn run tra len siz frm tto lst slo wei) {j : Nat} (h1 : 201 ≤ j) (h2 : j < 602) (h3 : j < 246 ∨ 296 ≤ j) (h4 : j ≠ 202) (h5 : j ≠ 203) : gN (ldW n rd) j = 0 := by
  rw [H.qz ⟨h2, Or.inr (Or.inl ⟨by omega, h4, h5⟩)⟩ (by omega), if_neg (by omega)]
theorem ldH.qz1 (H : ldH n S rd sn tn run tra len siz frm tto lst slo wei) {j : Nat} (h1 : 246 ≤ j) (h2 : j < 296) : gN (ldW n rd) j = -1 := by
  rw [H.qz ⟨by omega, Or.inr (Or.inl ⟨by omega, by omega, by omega⟩)⟩ (by omega), if_pos ⟨h1, h2⟩]
theorem ldH.qtz (H : ldH n S rd sn tn run tra len siz frm tto lst slo wei) {t k : Nat} (ht : t < n) (hk : 6 ≤ k ∧ k < 13 ∨ k = 27) : ft (ldW n rd) t k = 0 := by
  have h5 := H.1.1
  unfold ft
  rw [H.qz ⟨by omega, Or.inr (Or.inr ⟨t, k, by omega, hk, rfl⟩)⟩ (by omega), if_neg (by omega)]
theorem ldH.qto (H : ldH n S rd sn tn run tra len siz frm tto lst slo wei) {t k : Nat} (ht : t < n) (hk : k < 28) : ft (ldW n rd) t k = gN rd (56 + 28 * t + k) := by
  have h5 := H.1.1
  unfold ft
  exact ldW_o h5 (by omega)
theorem ldH.qso (H : ldH n S rd sn tn run tra len siz frm tto lst slo wei) {s k : Nat} (hs : s < 7) (hk : k < 8) : fs (ldW n rd) s k = gN rd (8 * s + k) := by
  have h5 := H.1.1
  unfold fs
  exact ldW_o h5 (by omega)
theorem ldH.qsz (H : ldH n S rd sn tn run tra len siz frm tto lst slo wei) {s k : Nat} (hs : s < 7) (hk : k < 3) : fs (ldW n rd) s (5 + k) = 0 := by
  unfold fs
  rw [H.qz ⟨by omega, Or.inl ⟨by omega, by omega⟩⟩ (by omega), if_neg (by omega)]
theorem ldH.qtr (H : ldH n S rd sn tn run tra len siz frm tto lst slo wei) {t : Nat} (ht : t < n) : trD S rd siz frm tto lst slo wei t := H.2.2.2.2.2.1 t ht
theorem ldH.qst (H : ldH n S rd sn tn run tra len siz frm tto lst slo wei) {s : Nat} (hs : s < S) : stD rd run tra len s := H.2.2.2.2.1 s hs
theorem ldH.qcL (H : ldH n S rd sn tn run tra len siz frm tto lst slo wei) {t : Nat} (ht : t < n) : cL (ldW n rd) t = 99 := by
  have h6 := H.qtz (k := 6) ht (by omega)
  unfold cL
  rw [h6, if_neg (by decide), if_neg (by decide)]
theorem ldH.qmN (H : ldH n S rd sn tn run tra len siz frm tto lst slo wei) {s : Nat} (hs : s < 7) : fs (ldW n rd) s 1 = nI (mN (ldW n rd) s) ∧ mN (ldW n rd) s ≤ 3 ∧ (s < S → 1 ≤ mN (ldW n rd) s) := by
  unfold mN
  rw [H.qso hs (by decide)]
  by_cases c : s < S
  · obtain ⟨-, m, m1, m2, m3, m4, -⟩ := H.qst c
    rw [m3, nV_n (by omega)]
    exact ⟨rfl, m2, fun _ => m1⟩
  · rw [H.2.2.2.2.2.2.2 s (by show S ≤ s; omega) hs]
    exact ⟨rfl, by decide, fun z => absurd z c⟩
theorem ldH.qfR (H : ldH n S rd sn tn run tra len siz frm tto lst slo wei) {t : Nat} (ht : t < n) : ∃ f o, (f < S ∧ o < S ∧ f ≠ o) ∧ (fR (ldW n rd) t = f ∧ tO (ldW n rd) t = o) ∧ (ft (ldW n rd) t 1 = nI f ∧ ft (ldW n rd) t 2 = nI o) ∧ gN frm t = nI f ∧ gN tto t = nI o := by
  obtain ⟨-, ⟨f, o, b1, b2, b3, b4, b5, b6, b7⟩, -⟩ := H.qtr ht
  have hS := H.1.2
  have e1 : ft (ldW n rd) t 1 = nI f := (H.qto ht (by decide)).trans ((congrArg (gN rd) (by omega)).trans b4)
  have e2 : ft (ldW n rd) t 2 = nI o := (H.qto ht (by decide)).trans ((congrArg (gN rd) (by omega)).trans b6)
  refine ⟨f, o, ⟨b1, b2, b3⟩, ⟨?_, ?_⟩, ⟨e1, e2⟩, b5, b7⟩
  · unfold fR; rw [e1, nV_n (by omega)]
  · unfold tO; rw [e2, nV_n (by omega)]
theorem sumN_z {f : Nat → Nat} : ∀ (n : Nat), (∀ t, t < n → f t = 0) → sumN f n = 0
  | 0, _ => rfl
  | n + 1, h => by
    show sumN f n + f n = 0
    rw [sumN_z n (fun t ht => h t (by omega)), h n (by omega)]
theorem ldH.qwf (H : ldH n S rd sn tn run tra len siz frm tto lst slo wei) : wf n S (ldW n rd) := by
  have h5 := H.1.1
  have hS := H.1.2
  have h6 : ∀ t, t < n → ft (ldW n rd) t 6 = 0 := fun t ht => H.qtz ht (by omega)
  refine ⟨⟨(rr_f_len n n 0 rd).trans H.2.1, (ldW_o h5 (by omega)).trans H.2.2.2.1, h5, (ldW_o h5 (by omega)).trans H.2.2.1, hS⟩, fun s hs => ⟨(H.qmN hs).1, (H.qmN hs).2.1, fun k hk => Or.inl (H.qsz hs hk)⟩, fun t ht => ?_, ⟨fun t u ht _ _ hc => ?_, fun t u ht _ _ hc => ?_⟩, ldW_wRk h5 H.2.1, ⟨?_, fun k hk => ?_⟩, ⟨0, by decide, ?_, fun k hk => absurd hk (by omega)⟩, fun k hk _ => ?_⟩
  · obtain ⟨f, o, ⟨a1, a2, a3⟩, ⟨b1, b2⟩, ⟨c1, c2⟩, -⟩ := H.qfR ht
    have e := h6 t ht
    refine ⟨⟨by rw [b1]; exact c1, by rw [b1]; exact a1⟩, ⟨by rw [b2]; exact c2, by rw [b2]; exact a2⟩, by rw [b1, b2]; exact a3, Or.inl e, fun z => absurd e z, fun z => ?_, fun z => ?_, fun z => ?_, fun z => ?_⟩
    · rw [e] at z; rcases z with z | z <;> exact absurd z (by decide)
    · rw [e] at z; exact absurd z (by decide)
    · rw [e] at z; exact absurd z (by decide)
    · rw [e] at z; exact absurd z (by decide)
  · rw [H.qcL ht] at hc; omega
  · rw [h6 t ht] at hc; exact absurd hc (by decide)
  · rw [H.qz0 (j := 309) (by omega) (by omega) (by omega) (by omega) (by omega), sumN_z n (fun t ht => by unfold eV; rw [if_pos (h6 t ht)])]
    rfl
  · rw [H.qz0 (j := 210 + k) (by omega) (by omega) (by omega) (by omega) (by omega), sumN_z n (fun t ht => by unfold gV; rw [if_pos (h6 t ht)])]
    rfl
  · exact H.qz0 (j := 296) (by omega) (by omega) (by omega) (by omega) (by omega)
  · rw [H.qz0 (j := 570 + k) (by omega) (by omega) (by omega) (by omega) (by omega), H.qz1 (j := 246 + k) (by omega) (by omega)]
    exact ⟨fun _ => rfl, fun _ => rfl⟩
theorem ldH.qlyT (H : ldH n S rd sn tn run tra len siz frm tto lst slo wei) : lyT n S (ldW n rd) run tra len siz frm tto slo wei := by
  have hS := H.1.2
  refine ⟨fun s hs => ?_, fun t ht => ?_⟩
  · obtain ⟨⟨a, a1, a2, a3, a4⟩, m, m1, m2, m3, m4, m5⟩ := H.qst hs
    have hm : mN (ldW n rd) s = m := by unfold mN; rw [H.qso (by omega) (by decide), m3, nV_n (by omega)]
    rw [H.qso (by omega) (by decide), H.qso (by omega) (by decide), hm]
    exact ⟨a4.trans a3.symm, m4.trans m3.symm, fun k hk => by rw [H.qso (by omega) (by omega), ← m5 k hk]; exact congrArg (gN rd) (by omega)⟩
  · obtain ⟨a1, ⟨f, o, b1, b2, b3, b4, b5, b6, b7⟩, -, ⟨x, x1, x2, x3⟩, ⟨y, y1, y2, y3⟩, -⟩ := H.qtr ht
    rw [H.qto ht (by decide), H.qto ht (by decide), H.qto ht (by decide), H.qto ht (by decide), H.qto ht (by decide)]
    exact ⟨a1.symm, b5.trans (b4.symm.trans (congrArg (gN rd) (by omega))), b7.trans (b6.symm.trans (congrArg (gN rd) (by omega))), x3.trans (x2.symm.trans (congrArg (gN rd) (by omega))), y3.trans (y2.symm.trans (congrArg (gN rd) (by omega)))⟩
theorem ldH.qcw (H : ldH n S rd sn tn run tra len siz frm tto lst slo wei) {t k : Nat} (ht : t < n) (hk : k < 14) : ft (ldW n rd) t (13 + k) = -1 := by
  rw [H.qto ht (by omega), ← (H.qtr ht).2.2.2.2.2 k hk]
  exact congrArg (gN rd) (by omega)
theorem ldH.qwG (H : ldH n S rd sn tn run tra len siz frm tto lst slo wei) (D : Nat) : wG n S D (ldW n rd) (ldW n rd) := by
  have h5 := H.1.1
  have hS := H.1.2
  have h6 : ∀ t, t < n → ft (ldW n rd) t 6 = 0 := fun t ht => H.qtz ht (by omega)
  refine ⟨stA.rf _ _, fun t ht _ => ?_, fun t ht => ?_, 0, by decide, ⟨H.qz0 (j := 201) (by omega) (by omega) (by omega) (by omega) (by omega), fun t ht => ?_⟩, ⟨fun s h1 hs => ?_, fun t ht => ?_⟩, fun t q ht hq => ⟨?_, fun c hc z => ?_⟩⟩
  · obtain ⟨f, o, ⟨a1, a2, a3⟩, ⟨b1, b2⟩, -⟩ := H.qfR ht
    rw [b2]
    exact H.qcw ht (by omega)
  · obtain ⟨y, y1, y2, y3⟩ := (H.qtr ht).2.2.2.2.1
    exact ⟨y, y1, by rw [H.qto ht (by decide), ← y2]; exact congrArg (gN rd) (by omega)⟩
  · obtain ⟨y, y1, y2, y3⟩ := (H.qtr ht).2.2.1
    have e := h6 t ht
    refine ⟨y, y1, by rw [H.qto ht (by decide), ← y2]; exact congrArg (gN rd) (by omega), fun z => ?_, fun z => ?_, fun z => ?_⟩
    · rw [e] at z; exact absurd z (by decide)
    · rw [e] at z; exact absurd z (by decide)
    · rw [e] at z; exact absurd z (by decide)
  · obtain ⟨⟨a, a1, a2, a3, -⟩, -⟩ := H.qst hs
    exact ⟨a, a2 h1, a1, by rw [H.qso (by omega) (by decide)]; exact a3⟩
  · obtain ⟨y, y1, y2, y3⟩ := (H.qtr ht).2.2.2.1
    exact ⟨y, y1, by rw [H.qto ht (by decide), ← y2]; exact congrArg (gN rd) (by omega)⟩
  · rw [H.qz1 (j := 246 + (5 * t + q)) (by omega) (by omega), H.qz1 (j := 271 + (5 * t + q)) (by omega) (by omega)]
  · rw [H.qz0 (j := 570 + (5 * t + q)) (by omega) (by omega) (by omega) (by omega) (by omega)] at z
    exact absurd z (by rw [tb_0]; decide)
theorem ldH.qrV (H : ldH n S rd sn tn run tra len siz frm tto lst slo wei) {rk sta ph sp ce du he ri us cm lf pms pmm pmt pst pwa prs prr pfa sea row lkd : List Int32} (lw : wei.length = 5) (lrk : rk.length = 5) (lsta : sta.length = 5) (lph : ph.length = 5) (lsp : sp.length = 5) (lce : ce.length = 5) (ldu : du.length = 5) (lhe : he.length = 5) (lri : ri.length = 6) (lus : us.length = 6) (lcm : cm.length = 35) (llf : lf.length = 35) (lpms : pms.length = 25) (lpmm : pmm.length = 25) (lpmt : pmt.length = 25) (lpst : pst.length = 7) (lpwa : pwa.length = 5) (lprs : prs.length = 6) (lprr : prr.length = 30) (lpfa : pfa.length = 260) (lsea : sea.length = 5) (lrow : row.length = 5) : rV n S (ldW n rd) 0 0 (x_rankByWeight rk (nI n) wei) (aC 5 lst sta) (fL 0 he) lkd 1 sea row 0 (fL 0 ph) (fL (-1) sp) (fL (-1) ce) (fL (-1) du) (fL (-1) ri) (fL (-1) cm) (fL (-1) lf) pfa 0 (fL 0 prs) prr 0 (fL 0 us) (fL (-1) pms) (fL (-1) pmm) (fL 0 pmt) (fL 0 pst) (fL 0 pwa) := by
  have h5 := H.1.1
  have hS := H.1.2
  have h6 : ∀ t, t < n → ft (ldW n rd) t 6 = 0 := fun t ht => H.qtz ht (by omega)
  refine ⟨H.qwf, ⟨⟨⟨?_, ?_, ?_⟩, fun t ht => ⟨?_, fun z => absurd (h6 t ht) z, ?_⟩⟩, fun c hc => ⟨fun z => ?_, fun z => ?_⟩, ⟨?_, fun k hk => ?_⟩, ⟨?_, fun t ht z => ?_⟩, ⟨⟨?_, ?_⟩, fun t s ht hs => ⟨?_, ?_⟩⟩, fun t ht z => ?_, Or.inr ⟨⟨lpfa, ?_, lprr⟩, ⟨0, by decide, ?_, rfl, fun i hi => absurd hi (by omega)⟩, fun k hk => ⟨0, by decide, ?_, ?_, fun j hj => absurd hj (by omega)⟩⟩⟩, ⟨?_, ?_, fun t ht => ⟨?_, ?_⟩, ?_, fun i hi => absurd hi (by show ¬ i < 3 * nV 0; rw [show nV 0 = 0 from rfl]; omega)⟩, fun s k hs hk => ⟨fun z => ?_, fun z => ?_⟩, ⟨?_, fun k hk => ?_⟩, Or.inr ⟨⟨?_, ?_, ?_, ?_, ?_⟩, fun k hk _ => ⟨?_, ?_, ?_⟩, fun s hs => ?_, fun t ht => ?_⟩, fun t ht z => ?_, lsea, lrow⟩
  · rw [fL_len (by omega)]; exact lph
  · rw [fL_len (by omega)]; exact lsp
  · rw [fL_len (by omega)]; exact lce
  · rw [fL_gN (by omega) (by omega), h6 t ht]
  · rw [fL_gN (by omega) (by omega), H.qcL ht]; rfl
  · rw [tb_0] at z; exact absurd z (by decide)
  · obtain ⟨t, ht, e⟩ := z
    rw [H.qcL ht] at e; omega
  · rw [fL_len (by omega)]; exact lri
  · rw [fL_gN (by omega) (by omega)]
    refine ((fnd_n (by omega)).mpr fun t ht => ?_).symm
    unfold onS
    rw [h6 t ht, show decide ((0 : Int32) = 2) = false by decide, Bool.false_and]
  · rw [fL_len (by omega)]; exact ldu
  · rw [h6 t ht] at z; exact absurd z (by decide)
  · rw [fL_len (by omega)]; exact lcm
  · rw [fL_len (by omega)]; exact llf
  · rw [fL_gN (by omega) (by omega), H.qcw ht (by omega)]
  · rw [fL_gN (by omega) (by omega), show 20 + s = 13 + (7 + s) by omega, H.qcw ht (by omega)]
  · rw [h6 t ht] at z; exact absurd z (by decide)
  · rw [fL_len (by omega)]; exact lprs
  · exact H.qz0 (j := 309) (by omega) (by omega) (by omega) (by omega) (by omega)
  · exact H.qz0 (j := 210 + k) (by omega) (by omega) (by omega) (by omega) (by omega)
  · rw [fL_gN (by omega) (by omega)]; rfl
  · exact (H.qz0 (j := 201) (by omega) (by omega) (by omega) (by omega) (by omega)).symm
  · exact ldW_rk h5 H.2.1 lrk (fun t ht => by
      obtain ⟨y, y1, y2, y3⟩ := (H.qtr ht).2.2.2.2.1
      exact y3.trans y2.symm)
  · obtain ⟨y, y1, y2, y3⟩ := (H.qtr ht).2.2.1
    rw [show (5 : Int32) = nI 5 from rfl, aC_gN (by omega) lsta (by omega), y3, H.qto ht (by decide), ← y2]
    exact congrArg (gN rd) (by omega)
  · rw [fL_gN (by omega) (by omega), H.qtz ht (by omega)]
  · exact (H.qz0 (j := 296) (by omega) (by omega) (by omega) (by omega) (by omega)).symm
  · rw [tb_0] at z; exact absurd z (by decide)
  · rw [H.qsz hs hk] at z; exact absurd z (by decide)
  · rw [fL_len (by omega)]; exact lus
  · rw [fL_gN (by omega) (by omega), H.qz0 (j := 204 + k) (by omega) (by omega) (by omega) (by omega) (by omega)]
  · rw [fL_len (by omega)]; exact lpms
  · rw [fL_len (by omega)]; exact lpmm
  · rw [fL_len (by omega)]; exact lpmt
  · rw [fL_len (by omega)]; exact lpst
  · rw [fL_len (by omega)]; exact lpwa
  · rw [fL_gN (by omega) (by omega), H.qz1 (j := 246 + k) (by omega) (by omega)]
  · rw [fL_gN (by omega) (by omega), H.qz1 (j := 271 + k) (by omega) (by omega)]
  · rw [fL_gN (by omega) (by omega), H.qz0 (j := 570 + k) (by omega) (by omega) (by omega) (by omega) (by omega)]
  · rw [fL_gN (by omega) (by omega), H.qz0 (j := 595 + s) (by omega) (by omega) (by omega) (by omega) (by omega)]
  · rw [fL_gN (by omega) (by omega), H.qtz ht (by omega)]
  · rw [h6 t ht] at z; exact absurd z (by decide)
end LD

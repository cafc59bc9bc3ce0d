/-! class and reference read the same: lines, and what they tell -/
/-- of a station, read -/
def stD (rd ru tr le : List Int32) (i : Nat) : Prop := (∃ a, a ≤ 30 ∧ (0 < i → 1 ≤ a) ∧ gN rd (8 * i) = nI a ∧ gN ru i = nI a) ∧ ∃ m, 1 ≤ m ∧ m ≤ 3 ∧ gN rd (8 * i + 1) = nI m ∧ gN tr i = nI m ∧ ∀ k, k < m → gN rd (8 * i + 2 + k) = gN le (3 * i + k)
/-- of a train, read -/
def trD (S : Nat) (rd si fr to st sl we : List Int32) (t : Nat) : Prop := gN rd (56 + 28 * t) = gN si t ∧ (∃ f o, f < S ∧ o < S ∧ f ≠ o ∧ gN rd (57 + 28 * t) = nI f ∧ gN fr t = nI f ∧ gN rd (58 + 28 * t) = nI o ∧ gN to t = nI o) ∧ (∃ v, v ≤ 199 ∧ gN rd (59 + 28 * t) = nI v ∧ gN st t = nI v) ∧ (∃ v, v ≤ 3 ∧ gN rd (60 + 28 * t) = nI v ∧ gN sl t = nI v) ∧ (∃ v, v ≤ 9 ∧ gN rd (61 + 28 * t) = nI v ∧ gN we t = nI v) ∧ ∀ k, k < 14 → gN rd (69 + 28 * t + k) = -1
/-- a cell that no line writes -/
def zJ (j : Nat) : Prop := j < 602 ∧ ((j < 56 ∧ 5 ≤ j % 8) ∨ (196 ≤ j ∧ j ≠ 202 ∧ j ≠ 203) ∨ ∃ t k, t < 5 ∧ (6 ≤ k ∧ k < 13 ∨ k = 27) ∧ j = 56 + 28 * t + k)
/-- what a station's line comes to: the first written, of n tracks so far -/
def s9A (n ns : Nat) (v : Int32) (rd0 tr0 le0 tr le rd : List Int32) : Prop := ((∀ j, (j < 8 * ns ∨ 8 * ns + 5 ≤ j) → j ≠ 202 → gN rd j = gN rd0 j) ∧ gN rd (8 * ns) = v) ∧ ((∀ j, j ≠ ns → gN tr j = gN tr0 j) ∧ ∀ j, (j < 3 * ns ∨ 3 * ns + 3 ≤ j) → gN le j = gN le0 j) ∧ (tr.length = 7 ∧ le.length = 21) ∧ ∀ k, k < n → gN rd (8 * ns + 2 + k) = gN le (3 * ns + k)
def sZ (ns : Nat) (v : Int32) (rd0 tr0 le0 tr le rd : List Int32) : Prop := ((∀ j, (j < 8 * ns ∨ 8 * ns + 5 ≤ j) → j ≠ 202 → gN rd j = gN rd0 j) ∧ gN rd (8 * ns) = v) ∧ ((∀ j, j ≠ ns → gN tr j = gN tr0 j) ∧ ∀ j, (j < 3 * ns ∨ 3 * ns + 3 ≤ j) → gN le j = gN le0 j) ∧ ∃ m, 1 ≤ m ∧ m ≤ 3 ∧ gN rd (8 * ns + 1) = nI m ∧ gN tr ns = nI m ∧ ∀ k, k < m → gN rd (8 * ns + 2 + k) = gN le (3 * ns + k)
theorem s9A.fin {n ns : Nat} {v : Int32} {rd0 tr0 le0 tr le rd : List Int32} (h : s9A n ns v rd0 tr0 le0 tr le rd) (h1 : 1 ≤ n) (h3 : n ≤ 3) (h6 : ns < 7) (hr : rd.length = 602) : sZ ns v rd0 tr0 le0 (tr.set ns (nI n)) le ((rd.set (8 * ns + 1) (nI n)).set 202 (nI (ns + 1))) := by
  obtain ⟨⟨a1, a2⟩, ⟨b1, b2⟩, ⟨c1, c2⟩, d⟩ := h
  refine ⟨⟨fun j hj hn => ?_, ?_⟩, ⟨fun j hj => ?_, b2⟩, n, h1, h3, ?_, ?_, fun k hk => ?_⟩
  · rw [gN_ne (fun z => hn z.symm), gN_ne (by omega)]; exact a1 j hj hn
  · rw [gN_ne (by omega), gN_ne (by omega)]; exact a2
  · rw [gN_ne (fun z => hj z.symm)]; exact b1 j hj
  · rw [gN_ne (by omega), gN_eq (by omega)]
  · rw [gN_eq (by omega)]
  · rw [gN_ne (by omega), gN_ne (by omega)]; exact d k hk
theorem s9A.step {n ns : Nat} {v x : Int32} {rd0 tr0 le0 tr le rd : List Int32} (h : s9A n ns v rd0 tr0 le0 tr le rd) (h3 : n < 3) (h6 : ns < 7) (hr : rd.length = 602) : s9A (n + 1) ns v rd0 tr0 le0 tr (if n < 3 then le.set (3 * ns + n) x else le) (rd.set (8 * ns + 2 + n) x) := by
  obtain ⟨⟨a1, a2⟩, ⟨b1, b2⟩, ⟨c1, c2⟩, d⟩ := h
  rw [if_pos h3]
  refine ⟨⟨fun j hj hn => ?_, ?_⟩, ⟨b1, fun j hj => ?_⟩, ⟨c1, by rw [List.length_set]; exact c2⟩, fun k hk => ?_⟩
  · rw [gN_ne (by omega)]; exact a1 j hj hn
  · rw [gN_ne (by omega)]; exact a2
  · rw [gN_ne (by omega)]; exact b2 j hj
  · by_cases e : k = n
    · rw [e, gN_eq (by omega), gN_eq (by omega)]
    · rw [gN_ne (by omega), gN_ne (by omega)]; exact d k (by omega)
/-- what a train's line comes to: its manner -/
def tA (nt : Nat) (rd0 sl0 we0 sl we rd : List Int32) : Prop := ((∀ j, ¬ (j = 60 + 28 * nt ∨ j = 61 + 28 * nt ∨ (69 + 28 * nt ≤ j ∧ j < 83 + 28 * nt) ∨ j = 203) → gN rd j = gN rd0 j) ∧ ∀ j, j ≠ nt → gN sl j = gN sl0 j ∧ gN we j = gN we0 j) ∧ (∃ v, v ≤ 3 ∧ gN rd (60 + 28 * nt) = nI v ∧ gN sl nt = nI v) ∧ ∃ v, v ≤ 9 ∧ gN rd (61 + 28 * nt) = nI v ∧ gN we nt = nI v
def tA5 (nt : Nat) (rd0 sl0 we0 sl we rd : List Int32) : Prop := tA nt rd0 sl0 we0 sl we rd ∧ sl.length = 5 ∧ we.length = 5
def tZ (nt : Nat) (rd0 sl0 we0 sl we rd : List Int32) : Prop := tA nt rd0 sl0 we0 sl we rd ∧ ∀ k, k < 14 → gN rd (69 + 28 * nt + k) = -1
theorem mCw_v {t : Nat} (ht : t < 5) : ∀ (f s : Nat) (rd : List Int32), s + f = 7 → rd.length = 602 → ∀ k, s ≤ k → k < 7 → gN (mCw t f s rd) (69 + 28 * t + k) = -1 ∧ gN (mCw t f s rd) (76 + 28 * t + k) = -1
  | 0, _, _, _, _ => fun k _ _ => by omega
  | f + 1, s, rd, e, hr => fun k h1 h2 => by
    by_cases q : k = s
    · subst q
      show gN (mCw t f (k + 1) ((rd.set (69 + 28 * t + k) (-1)).set (76 + 28 * t + k) (-1))) _ = _ ∧ gN (mCw t f (k + 1) ((rd.set (69 + 28 * t + k) (-1)).set (76 + 28 * t + k) (-1))) _ = _
      have fr : ∀ (f s : Nat) (rd : List Int32), s + f = 7 → ∀ j, (∀ u, s ≤ u → u < 7 → 69 + 28 * t + u ≠ j ∧ 76 + 28 * t + u ≠ j) → gN (mCw t f s rd) j = gN rd j := by
        intro f
        induction f with
        | zero => intro s rd _ j _; rfl
        | succ f ih =>
          intro s rd e j hj
          show gN (mCw t f (s + 1) _) j = _
          rw [ih (s + 1) _ (by omega) j (fun u u1 u2 => hj u (by omega) u2), gN_ne (hj s (by omega) (by omega)).2, gN_ne (hj s (by omega) (by omega)).1]
      rw [fr f (k + 1) _ (by omega) _ (fun u u1 u2 => by omega), fr f (k + 1) _ (by omega) _ (fun u u1 u2 => by omega), gN_ne (by omega), gN_eq (by omega), gN_eq (by rw [List.length_set]; omega)]
      exact ⟨rfl, rfl⟩
    · exact mCw_v ht f (s + 1) _ (by omega) (by rw [List.length_set, List.length_set]; exact hr) k (by omega) h2
theorem tA5.fin {nt : Nat} {rd0 sl0 we0 sl we rd : List Int32} (h : tA5 nt rd0 sl0 we0 sl we rd) (ht : nt < 5) (hr : rd.length = 602) : tZ nt rd0 sl0 we0 sl we ((mCw nt 7 0 rd).set 203 (nI (nt + 1))) := by
  obtain ⟨⟨⟨a1, a2⟩, ⟨v, v1, v2, v3⟩, u, u1, u2, u3⟩, -⟩ := h
  have at9 : ∀ j, (∀ s, s < 7 → 69 + 28 * nt + s ≠ j ∧ 76 + 28 * nt + s ≠ j) → gN (mCw nt 7 0 rd) j = gN rd j := fun j hj => mCw_at hj 7 0 rd rfl
  refine ⟨⟨⟨fun j hj => ?_, a2⟩, ⟨v, v1, ?_, v3⟩, u, u1, ?_, u3⟩, fun k hk => ?_⟩
  · rw [gN_ne (by omega), at9 j (fun s hs => by omega)]; exact a1 j hj
  · rw [gN_ne (by omega), at9 _ (fun s hs => by omega)]; exact v2
  · rw [gN_ne (by omega), at9 _ (fun s hs => by omega)]; exact u2
  · rw [gN_ne (by omega)]
    by_cases c : k < 7
    · exact (mCw_v ht 7 0 rd rfl hr k (by omega) c).1
    · rw [show 69 + 28 * nt + k = 76 + 28 * nt + (k - 7) by omega]
      exact (mCw_v ht 7 0 rd rfl hr (k - 7) (by omega) (by omega)).2
theorem inB_n {x : Int32} {a : Nat} {lo hi : Int32} (h : inB x lo hi = true) (h0 : 0 ≤ lo.toInt) (ha : hi.toInt = (a : Int)) (ha9 : a < 2 ^ 30) : ∃ v, v ≤ a ∧ x = nI v ∧ lo.toInt ≤ (v : Int) := by
  unfold inB at h
  rw [Bool.and_eq_true, decide_eq_true_iff, decide_eq_true_iff] at h
  exact ⟨x.toInt.toNat, by omega, Int32.toInt_inj.mp (by rw [nI_toInt (by omega)]; omega), by omega⟩
theorem tA5.sl {nt : Nat} {x : Int32} {rd0 sl0 we0 sl we rd : List Int32} (h : tA5 nt rd0 sl0 we0 sl we rd) (ht : nt < 5) (hr : rd.length = 602) (hx : inB x 0 3 = true) : tA5 nt rd0 sl0 we0 (sl.set nt x) we (rd.set (60 + 28 * nt) x) := by
  obtain ⟨⟨⟨a1, a2⟩, ⟨v, v1, v2, v3⟩, u, u1, u2, u3⟩, l1, l2⟩ := h
  obtain ⟨y, y1, y2, -⟩ := inB_n hx (by decide) (show (3 : Int32).toInt = ((3 : Nat) : Int) from rfl) (by decide)
  refine ⟨⟨⟨fun j hj => ?_, fun j hj => ⟨?_, (a2 j hj).2⟩⟩, ⟨y, y1, ?_, ?_⟩, u, u1, ?_, u3⟩, by rw [List.length_set]; exact l1, l2⟩
  · rw [gN_ne (by omega)]; exact a1 j hj
  · rw [gN_ne (fun z => hj z.symm)]; exact (a2 j hj).1
  · rw [gN_eq (by omega)]; exact y2
  · rw [gN_eq (by omega)]; exact y2
  · rw [gN_ne (by omega)]; exact u2
theorem tA5.we {nt : Nat} {x : Int32} {rd0 sl0 we0 sl we rd : List Int32} (h : tA5 nt rd0 sl0 we0 sl we rd) (ht : nt < 5) (hr : rd.length = 602) (hx : inB x 1 9 = true) : tA5 nt rd0 sl0 we0 sl (we.set nt x) (rd.set (61 + 28 * nt) x) := by
  obtain ⟨⟨⟨a1, a2⟩, ⟨v, v1, v2, v3⟩, u, u1, u2, u3⟩, l1, l2⟩ := h
  obtain ⟨y, y1, y2, -⟩ := inB_n hx (by decide) (show (9 : Int32).toInt = ((9 : Nat) : Int) from rfl) (by decide)
  refine ⟨⟨⟨fun j hj => ?_, fun j hj => ⟨(a2 j hj).1, ?_⟩⟩, ⟨v, v1, ?_, v3⟩, y, y1, ?_, ?_⟩, l1, by rw [List.length_set]; exact l2⟩
  · rw [gN_ne (by omega)]; exact a1 j hj
  · rw [gN_ne (fun z => hj z.symm)]; exact (a2 j hj).2
  · rw [gN_ne (by omega)]; exact v2
  · rw [gN_eq (by omega)]; exact y2
  · rw [gN_eq (by omega)]; exact y2
theorem sIx_lt {sn : List Int64} {w : Int64} : ∀ f s, sIx sn w f s = -1 ∨ ∃ i, s ≤ i ∧ i < s + f ∧ sIx sn w f s = nI i
  | 0, _ => Or.inl rfl
  | f + 1, s => by
    unfold sIx
    split
    · exact Or.inr ⟨s, by omega, by omega, rfl⟩
    · rcases sIx_lt f (s + 1) with h | ⟨i, h1, h2, h3⟩
      · exact Or.inl h
      · exact Or.inr ⟨i, by omega, by omega, h3⟩
theorem uOk_ix {kd : Int32} {w : Int64} {sn : List Int64} {ns : Nat} {u : Int32} (h : uOk kd w sn ns u = true) : (∃ i, i < ns ∧ sIx sn w ns 0 = nI i) ∧ sIx sn w ns 0 ≠ u := by
  unfold uOk at h
  obtain ⟨-, h2⟩ := Bool.and_eq_true_iff.mp h
  have h2 := (Bool.not_eq_true' _).mp h2
  obtain ⟨h3, h4⟩ := Bool.or_eq_false_iff.mp h2
  refine ⟨?_, of_decide_eq_false h4⟩
  rcases sIx_lt (sn := sn) (w := w) ns 0 with g | ⟨i, -, g2, g3⟩
  · exact absurd g (of_decide_eq_false h3)
  · exact ⟨i, by omega, g3⟩
def NR (sn tn rn : List Int64) (ns nt : Nat) : Prop := (∀ i, i < ns → wR (sn.getD i 0) (rn.getD i 0)) ∧ (∀ i, i < nt → wR (tn.getD i 0) (rn.getD (7 + i) 0))
theorem sIx_eq {sn rn : List Int64} {w w' : Int64} (hw : wR w w') : ∀ f s, (∀ i, s ≤ i → i < s + f → wR (sn.getD i 0) (rn.getD i 0)) → sIx rn w' f s = sIx sn w f s
  | 0, _, _ => rfl
  | f + 1, s, h => by
    unfold sIx
    rw [sIx_eq hw f (s + 1) (fun i h1 h2 => h i (by omega) (by omega))]
    simp only [(h s (Nat.le_refl _) (by omega)).eq hw]
theorem sAm_eq {tn rn : List Int64} {w w' : Int64} (hw : wR w w') : ∀ f t b, (∀ i, t ≤ i → i < t + f → wR (tn.getD i 0) (rn.getD (7 + i) 0)) → sAm rn w' f t b = sAn tn w f t b
  | 0, _, _, _ => rfl
  | f + 1, t, b, h => by
    unfold sAm sAn
    rw [sAm_eq hw f (t + 1) _ (fun i h1 h2 => h i (by omega) (by omega))]
    simp only [(h t (Nat.le_refl _) (by omega)).eq hw]
theorem NR.ix {sn tn rn : List Int64} {ns nt : Nat} {w w' : Int64} (h : NR sn tn rn ns nt) (hw : wR w w') : sIx rn w' ns 0 = sIx sn w ns 0 := sIx_eq hw _ _ fun i _ h2 => h.1 i (by omega)
theorem NR.tk {sn tn rn : List Int64} {ns nt : Nat} {w w' : Int64} (h : NR sn tn rn ns nt) (hw : wR w w') : mTk rn w' ns nt = sTk sn tn w ns nt := by
  unfold mTk sTk
  rw [h.ix hw, sAm_eq hw _ _ _ fun i _ h2 => h.2 i (by omega)]
section STEPS
variable {m : List Int32} {e ns nt i : Nat} {F : Int32 × Int32} {z y : rK} {rd : List Int32} {sn tn rn : List Int64} {lo hi u : Int32}
theorem mEnd_t (h : tR z y) (hk : z.2.1 = 3) : mEnd m e F y rd rn = (true, F, mT m e y, rd, rn) := if_pos (h.k3.mpr hk)
theorem mBad_2 (h : tR z y) : mBad 2 y rd rn = (false, ((if z.2.1 = 4 then 1 else 2), z.2.2.1), y, rd, rn) := by
  unfold mBad
  rw [h.f2, h.2.2.1]
theorem mBad_k {k : Int32} (h : tR z y) (hk : z.2.1 ≠ 4) : mBad k y rd rn = (false, (k, z.2.2.1), y, rd, rn) := by
  unfold mBad bF
  rw [if_neg (fun q => hk (h.k4.mp q)), h.2.2.1]
theorem mEnd_f (h : tR z y) (hk : ¬ z.2.1 = 3) : mEnd m e F y rd rn = (false, ((if z.2.1 = 4 then 1 else 2), z.2.2.1), y, rd, rn) := (if_neg (fun q => hk (h.k3.mp q))).trans (mBad_2 h)
theorem nOk_k (h : nOk z.2.1 z.2.2.2.2 lo hi = true) : z.2.1 = 2 ∧ inB z.2.2.2.2 lo hi = true := by
  unfold nOk at h
  rw [Bool.and_eq_true, decide_eq_true_iff] at h
  exact h
theorem mNum_t (h : tR z y) (hk : nOk z.2.1 z.2.2.2.2 lo hi = true) : mNum m e F i lo hi y rd rn = (true, F, mT m e y, rd.set i z.2.2.2.2, rn) := by
  obtain ⟨k1, k2⟩ := nOk_k hk
  unfold mNum
  rw [if_pos (h.k2.mpr k1), h.2.2.2.2.1 k1, k2, cond_true]
theorem mNum_f (h : tR z y) (hk : nOk z.2.1 z.2.2.2.2 lo hi = false) : mNum m e F i lo hi y rd rn = (false, (nF z.2.1, z.2.2.1), y, rd, rn) := by
  unfold mNum
  by_cases k1 : z.2.1 = 2
  · have k2 : inB z.2.2.2.2 lo hi = false := by
      unfold nOk at hk
      rw [decide_eq_true k1, Bool.true_and] at hk
      exact hk
    rw [if_pos (h.k2.mpr k1), h.2.2.2.2.1 k1, k2, cond_false, mBad_k h (by rw [k1]; decide)]
    unfold nF
    rw [if_pos k1]
  · rw [if_neg (fun q => k1 (h.k2.mp q)), mBad_2 h]
    unfold nF
    rw [if_neg k1]
theorem nm_k (h : nmOk z.2.1 z.2.2.2.1 = true) : z.2.1 = 1 := by
  unfold nmOk at h
  rw [Bool.and_eq_true, decide_eq_true_iff] at h
  exact h.1
theorem mName_t (h : tR z y) (hn : NR sn tn rn ns nt) (hk : nnOk z.2.1 z.2.2.2.1 sn tn ns nt = true) : mName m e F ns nt i y rd rn = (true, F, mT m e y, rd, rn.set i y.2.2.2.1) ∧ wR z.2.2.2.1 y.2.2.2.1 := by
  unfold nnOk at hk
  obtain ⟨k1, k2⟩ := Bool.and_eq_true_iff.mp hk
  have hw := h.2.2.2.1 (nm_k k1)
  refine ⟨?_, hw⟩
  unfold mName
  rw [h.nm, k1, cond_true, hn.tk hw, show sTk sn tn z.2.2.2.1 ns nt = false by simpa using k2, cond_false]
theorem mName_f (h : tR z y) (hn : NR sn tn rn ns nt) (hk : nnOk z.2.1 z.2.2.2.1 sn tn ns nt = false) : mName m e F ns nt i y rd rn = (false, (uF z.2.1 z.2.2.2.1, z.2.2.1), y, rd, rn) := by
  unfold mName uF
  rw [h.nm]
  unfold nnOk at hk
  cases k1 : nmOk z.2.1 z.2.2.2.1 with
  | true =>
    rw [k1, Bool.true_and] at hk
    have hw := h.2.2.2.1 (nm_k k1)
    rw [cond_true, cond_true, hn.tk hw, show sTk sn tn z.2.2.2.1 ns nt = true by simpa using hk, cond_true, mBad_k h (by rw [nm_k k1]; decide)]
  | false => rw [cond_false, cond_false, mBad_2 h]
theorem mKnown_t (h : tR z y) (hn : NR sn tn rn ns nt) (hk : uOk z.2.1 z.2.2.2.1 sn ns u = true) : mKnown m e F ns i u y rd rn = (true, F, mT m e y, rd.set i (sIx sn z.2.2.2.1 ns 0), rn) := by
  unfold uOk at hk
  obtain ⟨k1, k2⟩ := Bool.and_eq_true_iff.mp hk
  have hw := h.2.2.2.1 (nm_k k1)
  unfold mKnown
  rw [h.nm, k1, cond_true, hn.ix hw, show (decide (sIx sn z.2.2.2.1 ns 0 = -1) || decide (sIx sn z.2.2.2.1 ns 0 = u)) = false from (Bool.not_eq_true' _).mp k2, cond_false]
theorem mKnown_f (h : tR z y) (hn : NR sn tn rn ns nt) (hk : uOk z.2.1 z.2.2.2.1 sn ns u = false) : mKnown m e F ns i u y rd rn = (false, (uF z.2.1 z.2.2.2.1, z.2.2.1), y, rd, rn) := by
  unfold mKnown uF
  rw [h.nm]
  unfold uOk at hk
  cases k1 : nmOk z.2.1 z.2.2.2.1 with
  | true =>
    rw [k1, Bool.true_and] at hk
    have hw := h.2.2.2.1 (nm_k k1)
    rw [cond_true, cond_true, hn.ix hw, show (decide (sIx sn z.2.2.2.1 ns 0 = -1) || decide (sIx sn z.2.2.2.1 ns 0 = u)) = true from (Bool.not_eq_false' _).mp hk, cond_true, mBad_k h (by rw [nm_k k1]; decide)]
  | false => rw [cond_false, cond_false, mBad_2 h]
end STEPS
/-- a line of both: as good; the same fault, or what follows is the same -/
def lnR (l : List Int32) (e : Nat) (F : Int32 × Int32) (g : Bool) (Fc : Int32 × Int32) (z : rK) (ns nt : Nat) (sn tn : List Int64) (X : List Int32 → Prop) (R : rM) : Prop := (R.2.2.1.1 ≤ e ∧ R.2.2.2.1.length = 602 ∧ R.2.2.2.2.length = 12) ∧ R.1 = g ∧ (g = true → R.2.1 = F ∧ tR (aT l e z) R.2.2.1 ∧ (R.2.2.2.1.getD 202 0 = nI ns ∧ R.2.2.2.1.getD 203 0 = nI nt) ∧ NR sn tn R.2.2.2.2 ns nt ∧ X R.2.2.2.1) ∧ (g = false → R.2.1 = Fc)
theorem lnR.bad {X : List Int32 → Prop} {l : List Int32} {e : Nat} {F Fc : Int32 × Int32} {z y : rK} {ns nt : Nat} {sn tn rn : List Int64} {rd : List Int32} (hy : y.1 ≤ e) (hr : rd.length = 602) (hn : rn.length = 12) : lnR l e F false Fc z ns nt sn tn X (false, Fc, y, rd, rn) := ⟨⟨hy, hr, hn⟩, rfl, fun z => (nomatch z), fun _ => rfl⟩
theorem lnR.end {X : List Int32 → Prop} {l m : List Int32} {e : Nat} {F : Int32 × Int32} {z y : rK} {ns nt : Nat} {sn tn rn : List Int64} {rd : List Int32} (hb : bR l m e) (h : tR z y) (hz : z.1 ≤ e) (hr : rd.length = 602) (hn : rn.length = 12) (hs : rd.getD 202 0 = nI ns) (ht : rd.getD 203 0 = nI nt) (hN : NR sn tn rn ns nt) (hX : X rd) : lnR l e F true F z ns nt sn tn X (true, F, mT m e y, rd, rn) :=
  ⟨⟨tkN_le (by rw [h.1]; exact hz), hr, hn⟩, rfl, fun _ => ⟨rfl, tR.step hb hz h.1, ⟨hs, ht⟩, hN, hX⟩, fun z => (nomatch z)⟩
theorem mFin_R {X : List Int32 → Prop} {l m : List Int32} {e ns nt n : Nat} {fa pa : Int32} {z y : rK} {rd : List Int32} {sn tn rn : List Int64} (hb : bR l m e) (h : tR z y) (hz : z.1 ≤ e) (hr : rd.length = 602) (hn : rn.length = 12) (h6 : ns < 7) (ht : rd.getD 203 0 = nI nt) (hN : NR sn tn rn (ns + 1) nt) : (z.2.1 = 3 → X ((rd.set (8 * ns + 1) (nI n)).set 202 (nI (ns + 1))) → lnR l e (fa, pa) true (fa, pa) z (ns + 1) nt sn tn X (mFin m e ns n (fa, pa) y rd rn)) ∧ (¬ z.2.1 = 3 → mFin m e ns n (fa, pa) y rd rn = (false, ((if z.2.1 = 4 then 1 else 2), z.2.2.1), y, ((rd.set (8 * ns + 1) (nI n)).set 202 (nI (ns + 1))), rn)) := by
  refine ⟨fun hk hX => ?_, fun hk => mEnd_f h hk⟩
  unfold mFin
  rw [mEnd_t h hk]
  exact lnR.end hb h hz (by simp [hr]) hn (jk_gs _ _ _ _ (by simp [hr])) ((mi_ne (by omega)).trans ((mi_ne (by omega)).trans ht)) hN hX
theorem mTr_R {l m : List Int32} {e ns nt : Nat} {fa pa v9 : Int32} {rd0 tr0 le0 : List Int32} {sn tn rn : List Int64} (hb : bR l m e) (hn : rn.length = 12) (h6 : ns < 7) (hN : NR sn tn rn (ns + 1) nt) : ∀ (f n p : Nat) (kd pl : Int32) (wo : Int64) (nu : Int32) (tr le : List Int32) (y : rK) (rd : List Int32), n + f = 3 → p ≤ e → tR (aT l e (p, kd, pl, wo, nu)) y → rd.length = 602 → rd.getD 202 0 = nI ns → rd.getD 203 0 = nI nt → s9A n ns v9 rd0 tr0 le0 tr le rd → lnR l e (fa, pa) (rT l e ns fa pa (f + 1) n p kd pl wo nu tr le).1 (rT l e ns fa pa (f + 1) n p kd pl wo nu tr le).2.1 (rT l e ns fa pa (f + 1) n p kd pl wo nu tr le).2.2.1 (ns + 1) nt sn tn (sZ ns v9 rd0 tr0 le0 (rT l e ns fa pa (f + 1) n p kd pl wo nu tr le).2.2.2.1 (rT l e ns fa pa (f + 1) n p kd pl wo nu tr le).2.2.2.2) (mTr m e ns (fa, pa) f n y rd rn) := by
  intro f
  induction f with
  | zero =>
    intro n p kd pl wo nu tr le y rd hf hp h hr hs ht hA
    have hz : (aT l e (p, kd, pl, wo, nu)).1 ≤ e := tkN_le hp
    have hy : y.1 ≤ e := by rw [h.1]; exact hz
    unfold rT mTr
    have eK : tkK (cX l) e p = (aT l e (p, kd, pl, wo, nu)).2.1 := rfl
    have eD : tkD l e p nu = (aT l e (p, kd, pl, wo, nu)).2.2.2.2 := rfl
    have eZ : (tkN (cX l) e p, tkK (cX l) e p, nI (tkQ (cX l) e p), tkW l e p wo, tkD l e p nu) = aT l e (p, kd, pl, wo, nu) := rfl
    have eP : nI (tkQ (cX l) e p) = (aT l e (p, kd, pl, wo, nu)).2.2.1 := rfl
    rw [eZ, eP, eK, eD]
    generalize aT l e (p, kd, pl, wo, nu) = z at h hz ⊢
    split
    · rename_i hc
      rw [if_neg (fun q => by have := h.k2.mp q; rw [hc.2] at this; exact absurd this (by decide))]
      exact (mFin_R hb h hz hr hn h6 ht hN).1 hc.2 (hA.fin (by omega) (by omega) h6 hr)
    · rename_i hc
      have hk3 : ¬ z.2.1 = 3 := fun q => hc ⟨by omega, q⟩
      cases hk : nOk z.2.1 z.2.2.2.2 1 99 with
      | true =>
        obtain ⟨k1, k2⟩ := nOk_k hk
        rw [if_pos (h.k2.mpr k1), h.2.2.2.2.1 k1, k2, cond_true, cond_true, mBad_k h (by rw [k1]; decide)]
        exact lnR.bad hy hr hn
      | false =>
        rw [cond_false]
        by_cases k1 : z.2.1 = 2
        · have k2 : inB z.2.2.2.2 1 99 = false := by
            unfold nOk at hk
            rw [decide_eq_true k1, Bool.true_and] at hk
            exact hk
          rw [if_pos (h.k2.mpr k1), h.2.2.2.2.1 k1, k2, cond_false, mBad_k h (by rw [k1]; decide), show nF z.2.1 = 3 from if_pos k1]
          exact lnR.bad hy hr hn
        · rw [if_neg (fun q => k1 (h.k2.mp q)), (mFin_R (X := fun _ => True) hb h hz hr hn h6 ht hN).2 hk3, show nF z.2.1 = if z.2.1 = 4 then 1 else 2 from if_neg k1]
          exact lnR.bad hy (by simp [hr]) hn
  | succ f ih =>
    intro n p kd pl wo nu tr le y rd hf hp h hr hs ht hA
    have hz : (aT l e (p, kd, pl, wo, nu)).1 ≤ e := tkN_le hp
    have hy : y.1 ≤ e := by rw [h.1]; exact hz
    have e0 : rT l e ns fa pa (f + 1 + 1) n p kd pl wo nu tr le = if 0 < n ∧ (aT l e (p, kd, pl, wo, nu)).2.1 = 3 then (true, (fa, pa), aT l e (p, kd, pl, wo, nu), tr.set ns (nI n), le) else bif nOk (aT l e (p, kd, pl, wo, nu)).2.1 (aT l e (p, kd, pl, wo, nu)).2.2.2.2 1 99 then rT l e ns fa pa (f + 1) (n + 1) (aT l e (p, kd, pl, wo, nu)).1 (aT l e (p, kd, pl, wo, nu)).2.1 (aT l e (p, kd, pl, wo, nu)).2.2.1 (aT l e (p, kd, pl, wo, nu)).2.2.2.1 (aT l e (p, kd, pl, wo, nu)).2.2.2.2 tr (if n < 3 then le.set (3 * ns + n) (aT l e (p, kd, pl, wo, nu)).2.2.2.2 else le) else (false, (nF (aT l e (p, kd, pl, wo, nu)).2.1, (aT l e (p, kd, pl, wo, nu)).2.2.1), aT l e (p, kd, pl, wo, nu), tr, le) := rfl
    rw [e0]
    unfold mTr
    generalize aT l e (p, kd, pl, wo, nu) = z at h hz ⊢
    split
    · rename_i hc
      rw [if_neg (fun q => q.elim (fun q => by omega) (fun q => by have := h.k2.mp q; rw [hc.2] at this; exact absurd this (by decide)))]
      exact (mFin_R hb h hz hr hn h6 ht hN).1 hc.2 (hA.fin (by omega) (by omega) h6 hr)
    · rename_i hc
      cases hk : nOk z.2.1 z.2.2.2.2 1 99 with
      | true =>
        obtain ⟨k1, -⟩ := nOk_k hk
        rw [if_pos (Or.inr (h.k2.mpr k1)), mNum_t h hk, cond_true]
        exact ih (n + 1) z.1 z.2.1 z.2.2.1 z.2.2.2.1 z.2.2.2.2 tr _ (mT m e y) _ (by omega) hz (tR.step hb hz h.1) (by simp [hr]) ((mi_ne (by omega)).trans hs) ((mi_ne (by omega)).trans ht) (hA.step (by omega) h6 hr)
      | false =>
        rw [cond_false]
        by_cases k1 : n = 0 ∨ z.2.1 = 2
        · rw [if_pos (k1.imp id h.k2.mpr), mNum_f h hk]
          exact lnR.bad hy hr hn
        · have k0 : ¬ n = 0 := fun q => k1 (Or.inl q)
          have k2 : ¬ z.2.1 = 2 := fun q => k1 (Or.inr q)
          rw [if_neg (fun q => k1 (q.imp id h.k2.mp)), (mFin_R (X := fun _ => True) hb h hz hr hn h6 ht hN).2 (fun q => hc ⟨by omega, q⟩), show nF z.2.1 = if z.2.1 = 4 then 1 else 2 from if_neg k2]
          exact lnR.bad hy (by simp [hr]) hn
theorem jk_gn {α : Type} {l : List α} {i j : Nat} {v d : α} (h : i ≠ j) : (l.set i v).getD j d = l.getD j d := by
  rw [List.getD_eq_getElem?_getD, List.getElem?_set_ne h, ← List.getD_eq_getElem?_getD]
theorem NR.addS {sn tn rn : List Int64} {ns nt : Nat} {w w' : Int64} (h : NR sn tn rn ns nt) (hw : wR w w') (h6 : ns < 7) (h1 : sn.length = 7) (h2 : rn.length = 12) : NR (sn.set ns w) tn (rn.set ns w') (ns + 1) nt := by
  refine ⟨fun i hi => ?_, fun i hi => ?_⟩
  · by_cases z : ns = i
    · subst z
      rw [jk_gs _ _ _ _ (by omega), jk_gs _ _ _ _ (by omega)]
      exact hw
    · rw [jk_gn z, jk_gn z]
      exact h.1 i (by omega)
  · rw [jk_gn (by omega)]
    exact h.2 i hi
theorem NR.addT {sn tn rn : List Int64} {ns nt : Nat} {w w' : Int64} (h : NR sn tn rn ns nt) (hw : wR w w') (h7 : ns ≤ 7) (h4 : nt < 5) (h1 : tn.length = 5) (h2 : rn.length = 12) : NR sn (tn.set nt w) (rn.set (7 + nt) w') ns (nt + 1) := by
  refine ⟨fun i hi => ?_, fun i hi => ?_⟩
  · rw [jk_gn (by omega)]
    exact h.1 i hi
  · by_cases z : nt = i
    · subst z
      rw [jk_gs _ _ _ _ (by omega), jk_gs _ _ _ _ (by omega)]
      exact hw
    · rw [jk_gn z, jk_gn (by omega)]
      exact h.2 i (by omega)
/-- a station's line, told: what is written, what is kept -/
def sY (ns : Nat) (rd0 ru0 tr0 le0 : List Int32) (ns' : Nat) (ru tr le rd : List Int32) : Prop := (ns < 7 ∧ ns' = ns + 1) ∧ (∀ j, (j < 8 * ns ∨ 8 * ns + 5 ≤ j) → j ≠ 202 → gN rd j = gN rd0 j) ∧ (∀ j, j ≠ ns → gN ru j = gN ru0 j ∧ gN tr j = gN tr0 j) ∧ (∀ j, (j < 3 * ns ∨ 3 * ns + 3 ≤ j) → gN le j = gN le0 j) ∧ stD rd ru tr le ns
theorem sZ.y {ns : Nat} {x : Int32} {rd0 rd1 ru0 tr0 le0 tr le rd : List Int32} (h : sZ ns x rd1 tr0 le0 tr le rd) (h6 : ns < 7) (hru : ru0.length = 7) (hx : inB x (if ns = 0 then 0 else 1) 30 = true) (h1 : ∀ j, (j < 8 * ns ∨ 8 * ns + 5 ≤ j) → gN rd1 j = gN rd0 j) : sY ns rd0 ru0 tr0 le0 (ns + 1) (ru0.set ns x) tr le rd := by
  obtain ⟨⟨a1, a2⟩, ⟨b1, b2⟩, m, m1, m2, m3, m4, m5⟩ := h
  obtain ⟨y, y1, y2, y3⟩ := inB_n hx (by split <;> decide) (show (30 : Int32).toInt = ((30 : Nat) : Int) from rfl) (by decide)
  refine ⟨⟨h6, rfl⟩, fun j hj hn => (a1 j hj hn).trans (h1 j hj), fun j hj => ⟨gN_ne (fun z => hj z.symm), b1 j hj⟩, b2, ⟨y, y1, fun h0 => ?_, a2.trans y2, by rw [gN_eq (by omega)]; exact y2⟩, m, m1, m2, m3, m4, m5⟩
  rw [if_neg (by omega)] at y3
  have : (1 : Int32).toInt = 1 := rfl
  omega
theorem mSt_R {l m : List Int32} {e ns nt : Nat} {fa pa : Int32} {z y : rK} {sn tn rn : List Int64} {ru tr le rd : List Int32} (hb : bR l m e) (h : tR z y) (hk : z.2.1 = 1) (hz : z.1 ≤ e) (h7 : ns ≤ 7) (h1 : sn.length = 7) (hru : ru.length = 7) (htr : tr.length = 7) (hle : le.length = 21) (hr : rd.length = 602) (hn : rn.length = 12) (hs : rd.getD 202 0 = nI ns) (ht : rd.getD 203 0 = nI nt) (hN : NR sn tn rn ns nt) : lnR l e (fa, pa) (stX l e ns nt fa pa z sn tn ru tr le).1 (stX l e ns nt fa pa z sn tn ru tr le).2.1 (stX l e ns nt fa pa z sn tn ru tr le).2.2.1 (stX l e ns nt fa pa z sn tn ru tr le).2.2.2.1 nt (stX l e ns nt fa pa z sn tn ru tr le).2.2.2.2.1 tn (sY ns rd ru tr le (stX l e ns nt fa pa z sn tn ru tr le).2.2.2.1 (stX l e ns nt fa pa z sn tn ru tr le).2.2.2.2.2.1 (stX l e ns nt fa pa z sn tn ru tr le).2.2.2.2.2.2.1 (stX l e ns nt fa pa z sn tn ru tr le).2.2.2.2.2.2.2) (mSt m e ns nt (fa, pa) y rd rn) := by
  unfold stX mSt
  have hy : y.1 ≤ e := by rw [h.1]; exact hz
  split
  · rw [if_pos (show ns = 7 by omega), mBad_k h (by rw [hk]; decide)]
    exact lnR.bad hy hr hn
  · rename_i h6
    rw [if_neg (show ¬ ns = 7 by omega)]
    have hz1 : (aT l e z).1 ≤ e := tkN_le hz
    have t1 := tR.step (m := m) hb hz h.1
    generalize aT l e z = z1 at t1 hz1 ⊢
    generalize mT m e y = y1 at t1 ⊢
    have hy1 : y1.1 ≤ e := by rw [t1.1]; exact hz1
    cases hk1 : nnOk z1.2.1 z1.2.2.2.1 sn tn ns nt with
    | false =>
      rw [cond_false, mName_f t1 hN hk1]
      exact lnR.bad hy1 hr hn
    | true =>
      obtain ⟨e1, hw⟩ := mName_t (m := m) (e := e) (F := (fa, pa)) (i := ns) (rd := rd) t1 hN hk1
      have hN1 := hN.addS hw (by omega) h1 hn
      rw [cond_true, e1]
      show lnR l e (fa, pa) (stN l e ns fa pa z1 _ _ ru tr le).1 _ _ _ nt _ tn _ (mSt2 m e ns (fa, pa) (mT m e y1) rd (rn.set ns y1.2.2.2.1))
      unfold stN mSt2
      have hn1 : (rn.set ns y1.2.2.2.1).length = 12 := by simp [hn]
      generalize rn.set ns y1.2.2.2.1 = rn1 at hN1 hn1 ⊢
      generalize sn.set ns z1.2.2.2.1 = sn1 at hN1 ⊢
      have hz2 : (aT l e z1).1 ≤ e := tkN_le hz1
      have t2 := tR.step (m := m) hb hz1 t1.1
      generalize aT l e z1 = z2 at t2 hz2 ⊢
      generalize mT m e y1 = y2 at t2 ⊢
      have hy2 : y2.1 ≤ e := by rw [t2.1]; exact hz2
      cases hk2 : nOk z2.2.1 z2.2.2.2.2 (if ns = 0 then 0 else 1) 30 with
      | false =>
        rw [cond_false, mNum_f t2 hk2]
        exact lnR.bad hy2 hr hn1
      | true =>
        rw [cond_true, mNum_t t2 hk2]
        show lnR l e (fa, pa) (stE ns sn1 _ (rT l e ns fa pa 4 0 z2.1 z2.2.1 z2.2.2.1 z2.2.2.2.1 z2.2.2.2.2 tr le)).1 _ _ _ nt _ tn _ (mTr m e ns (fa, pa) 3 0 (mT m e y2) (rd.set (8 * ns) z2.2.2.2.2) rn1)
        have hR := mTr_R (m := m) (fa := fa) (pa := pa) (v9 := z2.2.2.2.2) (rd0 := rd.set (8 * ns) z2.2.2.2.2) (tr0 := tr) (le0 := le) hb hn1 (show ns < 7 by omega) hN1 3 0 z2.1 z2.2.1 z2.2.2.1 z2.2.2.2.1 z2.2.2.2.2 tr le (mT m e y2) (rd.set (8 * ns) z2.2.2.2.2) rfl hz2 (tR.step hb hz2 t2.1) (by simp [hr]) ((mi_ne (by omega)).trans hs) ((mi_ne (by omega)).trans ht) ⟨⟨fun _ _ _ => rfl, gN_eq (by omega)⟩, ⟨fun _ _ => rfl, fun _ _ => rfl⟩, ⟨htr, hle⟩, fun k hk => absurd hk (by omega)⟩
        unfold stE
        generalize rT l e ns fa pa 4 0 z2.1 z2.2.1 z2.2.2.1 z2.2.2.2.1 z2.2.2.2.2 tr le = R at hR ⊢
        obtain ⟨g1, g2, g3, g4⟩ := hR
        refine ⟨g1, g2, fun q => ?_, g4⟩
        dsimp only at q ⊢
        obtain ⟨a1, a2, a3, a4, a5⟩ := g3 q
        rw [q, cond_true]
        exact ⟨a1, a2, a3, a4, a5.y (by omega) hru (nOk_k hk2).2 (fun j hj => gN_ne (by omega))⟩
theorem mTm_R {l m : List Int32} {e ns nt : Nat} {pa : Int32} {rd0 sl0 we0 : List Int32} {z y : rK} {sn tn rn : List Int64} {sl we rd : List Int32} (hb : bR l m e) (h : tR z y) (hz : z.1 ≤ e) (h4 : nt < 5) (hr : rd.length = 602) (hn : rn.length = 12) (hs : rd.getD 202 0 = nI ns) (ht : rd.getD 203 0 = nI nt) (hN : NR sn tn rn ns (nt + 1)) (hA : tA5 nt rd0 sl0 we0 sl we rd) : lnR l e (0, pa) (mS l e nt 0 pa z sl we).1 (mS l e nt 0 pa z sl we).2.1 (mS l e nt 0 pa z sl we).2.2.1 ns (nt + 1) sn tn (tZ nt rd0 sl0 we0 (mS l e nt 0 pa z sl we).2.2.2.1 (mS l e nt 0 pa z sl we).2.2.2.2) (mTs m e nt (0, pa) y rd rn) := by
  have hE : ∀ {z y : rK} {sl we rd : List Int32}, tR z y → z.1 ≤ e → rd.length = 602 → rd.getD 202 0 = nI ns → rd.getD 203 0 = nI nt → tA5 nt rd0 sl0 we0 sl we rd → lnR l e (0, pa) (mE 0 pa z sl we).1 (mE 0 pa z sl we).2.1 (mE 0 pa z sl we).2.2.1 ns (nt + 1) sn tn (tZ nt rd0 sl0 we0 (mE 0 pa z sl we).2.2.2.1 (mE 0 pa z sl we).2.2.2.2) (mTe m e nt (0, pa) y rd rn) := by
    intro z y sl we rd h hz hr hs ht hA
    unfold mE mTe
    have c1 : (mCw nt 7 0 rd).length = 602 := (mCw_len 7 0 rd).trans hr
    have c2 : (mCw nt 7 0 rd).getD 202 0 = nI ns := (mCw_at (fun s hs => by omega) 7 0 rd rfl).trans hs
    have c3 := hA.fin h4 hr
    generalize mCw nt 7 0 rd = rd1 at c1 c2 c3 ⊢
    split
    · rename_i hk
      rw [mEnd_t h hk]
      exact lnR.end hb h hz (by simp [c1]) hn ((mi_ne (by omega)).trans c2) (jk_gs _ _ _ _ (by omega)) hN c3
    · rename_i hk
      rw [mEnd_f h hk]
      exact lnR.bad (by rw [h.1]; exact hz) (by simp [c1]) hn
  have hW : ∀ {z y : rK} {sl we rd : List Int32}, tR z y → z.1 ≤ e → rd.length = 602 → rd.getD 202 0 = nI ns → rd.getD 203 0 = nI nt → tA5 nt rd0 sl0 we0 sl we rd → lnR l e (0, pa) (mW l e nt 0 pa z sl we).1 (mW l e nt 0 pa z sl we).2.1 (mW l e nt 0 pa z sl we).2.2.1 ns (nt + 1) sn tn (tZ nt rd0 sl0 we0 (mW l e nt 0 pa z sl we).2.2.2.1 (mW l e nt 0 pa z sl we).2.2.2.2) (mTw m e nt (0, pa) y rd rn) := by
    intro z y sl we rd h hz hr hs ht hA
    unfold mW mTw
    simp only [h.word wR_3]
    split
    · have hz1 : (aT l e z).1 ≤ e := tkN_le hz
      have t1 := tR.step (m := m) hb hz h.1
      generalize aT l e z = z1 at t1 hz1 ⊢
      generalize mT m e y = y1 at t1 ⊢
      cases hk : nOk z1.2.1 z1.2.2.2.2 1 9 with
      | true =>
        rw [cond_true, mNum_t t1 hk]
        exact hE (tR.step hb hz1 t1.1) (tkN_le hz1) (by simp [hr]) ((mi_ne (by omega)).trans hs) ((mi_ne (by omega)).trans ht) (hA.we h4 hr (nOk_k hk).2)
      | false =>
        rw [cond_false, mNum_f t1 hk]
        exact lnR.bad (by rw [t1.1]; exact hz1) hr hn
    · exact hE h hz hr hs ht hA
  unfold mS mTs
  simp only [h.word wR_2]
  split
  · have hz1 : (aT l e z).1 ≤ e := tkN_le hz
    have t1 := tR.step (m := m) hb hz h.1
    generalize aT l e z = z1 at t1 hz1 ⊢
    generalize mT m e y = y1 at t1 ⊢
    cases hk : nOk z1.2.1 z1.2.2.2.2 0 3 with
    | true =>
      rw [cond_true, mNum_t t1 hk]
      exact hW (tR.step hb hz1 t1.1) (tkN_le hz1) (by simp [hr]) ((mi_ne (by omega)).trans hs) ((mi_ne (by omega)).trans ht) (hA.sl h4 hr (nOk_k hk).2)
    | false =>
      rw [cond_false, mNum_f t1 hk]
      exact lnR.bad (by rw [t1.1]; exact hz1) hr hn
  · exact hW h hz hr hs ht hA
/-- a train's line, told -/
def tY (ns nt : Nat) (rd0 si0 fr0 to0 st0 sl0 we0 : List Int32) (nt' : Nat) (si fr to st sl we rd : List Int32) : Prop := (nt < 5 ∧ nt' = nt + 1) ∧ (∀ j, ¬ ((56 + 28 * nt ≤ j ∧ j < 62 + 28 * nt) ∨ (69 + 28 * nt ≤ j ∧ j < 83 + 28 * nt) ∨ j = 203) → gN rd j = gN rd0 j) ∧ (∀ j, j ≠ nt → gN si j = gN si0 j ∧ gN fr j = gN fr0 j ∧ gN to j = gN to0 j ∧ gN st j = gN st0 j ∧ gN sl j = gN sl0 j ∧ gN we j = gN we0 j) ∧ trD ns rd si fr to st sl we nt
theorem mTn_R {l m : List Int32} {e ns nt : Nat} {pa : Int32} {z y : rK} {sn tn rn : List Int64} {si fr to st sl we rd : List Int32} (hb : bR l m e) (h : tR z y) (hk : z.2.1 = 1) (hz : z.1 ≤ e) (h7 : ns ≤ 7) (h5 : nt ≤ 5) (h1 : tn.length = 5) (hsi : si.length = 5) (hfr : fr.length = 5) (hto : to.length = 5) (hst : st.length = 5) (hsl : sl.length = 5) (hwe : we.length = 5) (hr : rd.length = 602) (hn : rn.length = 12) (hs : rd.getD 202 0 = nI ns) (ht : rd.getD 203 0 = nI nt) (hN : NR sn tn rn ns nt) : lnR l e (0, pa) (trX l e ns nt sn pa z tn si fr to st sl we).1 (trX l e ns nt sn pa z tn si fr to st sl we).2.1 (trX l e ns nt sn pa z tn si fr to st sl we).2.2.1 ns (trX l e ns nt sn pa z tn si fr to st sl we).2.2.2.1 sn (trX l e ns nt sn pa z tn si fr to st sl we).2.2.2.2.1 (tY ns nt rd si fr to st sl we (trX l e ns nt sn pa z tn si fr to st sl we).2.2.2.1 (trX l e ns nt sn pa z tn si fr to st sl we).2.2.2.2.2.1 (trX l e ns nt sn pa z tn si fr to st sl we).2.2.2.2.2.2.1 (trX l e ns nt sn pa z tn si fr to st sl we).2.2.2.2.2.2.2.1 (trX l e ns nt sn pa z tn si fr to st sl we).2.2.2.2.2.2.2.2.1 (trX l e ns nt sn pa z tn si fr to st sl we).2.2.2.2.2.2.2.2.2.1 (trX l e ns nt sn pa z tn si fr to st sl we).2.2.2.2.2.2.2.2.2.2) (mTn m e ns nt (0, pa) y rd rn) := by
  unfold trX mTn
  have hy : y.1 ≤ e := by rw [h.1]; exact hz
  split
  · rw [if_pos (show nt = 5 by omega), mBad_k h (by rw [hk]; decide)]
    exact lnR.bad hy hr hn
  · rename_i h4
    rw [if_neg (show ¬ nt = 5 by omega)]
    have hz1 : (aT l e z).1 ≤ e := tkN_le hz
    have t1 := tR.step (m := m) hb hz h.1
    clear h hk
    generalize aT l e z = z1 at t1 hz1 ⊢
    generalize mT m e y = y1 at t1 ⊢
    have hy1 : y1.1 ≤ e := by rw [t1.1]; exact hz1
    cases hk1 : nnOk z1.2.1 z1.2.2.2.1 sn tn ns nt with
    | false =>
      rw [cond_false, mName_f t1 hN hk1]
      exact lnR.bad hy1 hr hn
    | true =>
      obtain ⟨e1, hw⟩ := mName_t (m := m) (e := e) (F := (0, pa)) (i := 7 + nt) (rd := rd) t1 hN hk1
      have hN1 := hN.addT hw h7 (by omega) h1 hn
      rw [cond_true, e1]
      show lnR l e (0, pa) (trZ l e ns nt sn pa z1 _ si fr to st sl we).1 _ _ ns _ sn _ _ (mTn2 m e ns nt (0, pa) (mT m e y1) rd (rn.set (7 + nt) y1.2.2.2.1))
      unfold trZ mTn2
      have hn1 : (rn.set (7 + nt) y1.2.2.2.1).length = 12 := by simp [hn]
      generalize rn.set (7 + nt) y1.2.2.2.1 = rn1 at hN1 hn1 ⊢
      generalize tn.set nt z1.2.2.2.1 = tn1 at hN1 ⊢
      have hN0 : NR sn tn1 rn1 ns nt := ⟨hN1.1, fun i hi => hN1.2 i (by omega)⟩
      have hz2 : (aT l e z1).1 ≤ e := tkN_le hz1
      have t2 := tR.step (m := m) hb hz1 t1.1
      clear hk1 hw e1 hN hn hy1
      generalize aT l e z1 = z2 at t2 hz2 ⊢
      generalize mT m e y1 = y2 at t2 ⊢
      have hy2 : y2.1 ≤ e := by rw [t2.1]; exact hz2
      cases hk2 : nOk z2.2.1 z2.2.2.2.2 1 99 with
      | false =>
        rw [cond_false, mNum_f t2 hk2]
        exact lnR.bad hy2 hr hn1
      | true =>
        rw [cond_true, mNum_t t2 hk2]
        show lnR l e (0, pa) (trF l e ns nt sn pa z2 tn1 _ fr to st sl we).1 _ _ ns _ sn _ _ (mTn3 m e ns nt (0, pa) (mT m e y2) (rd.set (56 + 28 * nt) z2.2.2.2.2) rn1)
        have hr1 : (rd.set (56 + 28 * nt) z2.2.2.2.2).length = 602 := by simp [hr]
        have hs1 : (rd.set (56 + 28 * nt) z2.2.2.2.2).getD 202 0 = nI ns := (mi_ne (by omega)).trans hs
        have ht1 : (rd.set (56 + 28 * nt) z2.2.2.2.2).getD 203 0 = nI nt := (mi_ne (by omega)).trans ht
        have d1 : ∀ j, j ≠ 56 + 28 * nt → gN (rd.set (56 + 28 * nt) z2.2.2.2.2) j = gN rd j := fun j hj => gN_ne (fun z => hj z.symm)
        have e1 : ∀ j, j ≠ nt → gN (si.set nt z2.2.2.2.2) j = gN si j := fun j hj => gN_ne (fun z => hj z.symm)
        have v1 : gN (rd.set (56 + 28 * nt) z2.2.2.2.2) (56 + 28 * nt) = gN (si.set nt z2.2.2.2.2) nt := by rw [gN_eq (by omega), gN_eq (by omega)]
        generalize rd.set (56 + 28 * nt) z2.2.2.2.2 = rd1 at hr1 hs1 ht1 d1 v1 ⊢
        generalize si.set nt z2.2.2.2.2 = si1 at e1 v1 ⊢
        unfold trF trG mTn3
        have hz3 : (aT l e z2).1 ≤ e := tkN_le hz2
        have t3 := tR.step (m := m) hb hz2 t2.1
        clear hk2 hy2
        generalize aT l e z2 = z3 at t3 hz3 ⊢
        generalize mT m e y2 = y3 at t3 ⊢
        have hy3 : y3.1 ≤ e := by rw [t3.1]; exact hz3
        cases hk3 : uOk z3.2.1 z3.2.2.2.1 sn ns (-1) with
        | false =>
          rw [cond_false, mKnown_f t3 hN0 hk3]
          exact lnR.bad hy3 hr1 hn1
        | true =>
          rw [cond_true, mKnown_t t3 hN0 hk3]
          obtain ⟨⟨u9, hu9, eu9⟩, -⟩ := uOk_ix hk3
          generalize sIx sn z3.2.2.2.1 ns 0 = u at eu9 ⊢
          show lnR l e (0, pa) (trO l e ns nt sn pa z3 u tn1 si1 _ to st sl we).1 _ _ ns _ sn _ _ (mTn4 m e ns nt (0, pa) (mT m e y3) (rd1.set (57 + 28 * nt) u) rn1)
          have hr2 : (rd1.set (57 + 28 * nt) u).length = 602 := by simp [hr1]
          have hs2 : (rd1.set (57 + 28 * nt) u).getD 202 0 = nI ns := (mi_ne (by omega)).trans hs1
          have ht2 : (rd1.set (57 + 28 * nt) u).getD 203 0 = nI nt := (mi_ne (by omega)).trans ht1
          have hu2 : (rd1.set (57 + 28 * nt) u).getD (57 + 28 * nt) 0 = u := jk_gs _ _ _ _ (by omega)
          have d2 : ∀ j, j ≠ 57 + 28 * nt → gN (rd1.set (57 + 28 * nt) u) j = gN rd1 j := fun j hj => gN_ne (fun z => hj z.symm)
          have e2 : ∀ j, j ≠ nt → gN (fr.set nt u) j = gN fr j := fun j hj => gN_ne (fun z => hj z.symm)
          have v2 : gN (fr.set nt u) nt = u := gN_eq (by omega)
          generalize rd1.set (57 + 28 * nt) u = rd2 at hr2 hs2 ht2 hu2 d2 ⊢
          generalize fr.set nt u = fr1 at e2 v2 ⊢
          unfold trO mTn4
          rw [hu2]
          have hz4 : (aT l e z3).1 ≤ e := tkN_le hz3
          have t4 := tR.step (m := m) hb hz3 t3.1
          clear hk3 hy3
          generalize aT l e z3 = z4 at t4 hz4 ⊢
          generalize mT m e y3 = y4 at t4 ⊢
          have hy4 : y4.1 ≤ e := by rw [t4.1]; exact hz4
          cases hk4 : uOk z4.2.1 z4.2.2.2.1 sn ns u with
          | false =>
            rw [cond_false, mKnown_f t4 hN0 hk4]
            exact lnR.bad hy4 hr2 hn1
          | true =>
            rw [cond_true, mKnown_t t4 hN0 hk4]
            obtain ⟨⟨w9, hw9, ew9⟩, nw9⟩ := uOk_ix hk4
            generalize sIx sn z4.2.2.2.1 ns 0 = v at ew9 nw9 ⊢
            show lnR l e (0, pa) (trS l e nt pa z4 tn1 si1 fr1 _ st sl we).1 _ _ ns _ sn _ _ (mTn5 m e nt (0, pa) (mT m e y4) (rd2.set (58 + 28 * nt) v) rn1)
            have hr3 : (rd2.set (58 + 28 * nt) v).length = 602 := by simp [hr2]
            have hs3 : (rd2.set (58 + 28 * nt) v).getD 202 0 = nI ns := (mi_ne (by omega)).trans hs2
            have ht3 : (rd2.set (58 + 28 * nt) v).getD 203 0 = nI nt := (mi_ne (by omega)).trans ht2
            have d3 : ∀ j, j ≠ 58 + 28 * nt → gN (rd2.set (58 + 28 * nt) v) j = gN rd2 j := fun j hj => gN_ne (fun z => hj z.symm)
            have e3 : ∀ j, j ≠ nt → gN (to.set nt v) j = gN to j := fun j hj => gN_ne (fun z => hj z.symm)
            have v3 : gN (rd2.set (58 + 28 * nt) v) (58 + 28 * nt) = v := gN_eq (by omega)
            have v4 : gN (to.set nt v) nt = v := gN_eq (by omega)
            generalize rd2.set (58 + 28 * nt) v = rd3 at hr3 hs3 ht3 d3 v3 ⊢
            generalize to.set nt v = to1 at e3 v4 ⊢
            unfold trS mTn5
            have hz5 : (aT l e z4).1 ≤ e := tkN_le hz4
            have t5 := tR.step (m := m) hb hz4 t4.1
            clear hk4 hy4
            generalize aT l e z4 = z5 at t5 hz5 ⊢
            generalize mT m e y4 = y5 at t5 ⊢
            have hy5 : y5.1 ≤ e := by rw [t5.1]; exact hz5
            cases hk5 : nOk z5.2.1 z5.2.2.2.2 0 199 with
            | false =>
              rw [cond_false, mNum_f t5 hk5]
              exact lnR.bad hy5 hr3 hn1
            | true =>
              rw [cond_true, mNum_t t5 hk5]
              show lnR l e (0, pa) (trM nt tn1 si1 fr1 to1 _ (mS l e nt 0 pa (aT l e z5) (sl.set nt 0) (we.set nt 1))).1 _ _ ns _ sn _ _ (mTs m e nt (0, pa) (mT m e y5) (((rd3.set (59 + 28 * nt) z5.2.2.2.2).set (60 + 28 * nt) 0).set (61 + 28 * nt) 1) rn1)
              obtain ⟨x9, x91, x92, -⟩ := inB_n (nOk_k hk5).2 (by decide) (show (199 : Int32).toInt = ((199 : Nat) : Int) from rfl) (by decide)
              have hR := mTm_R (m := m) (pa := pa) (rd0 := ((rd3.set (59 + 28 * nt) z5.2.2.2.2).set (60 + 28 * nt) 0).set (61 + 28 * nt) 1) (sl0 := sl.set nt 0) (we0 := we.set nt 1) (sl := sl.set nt 0) (we := we.set nt 1) (rd := ((rd3.set (59 + 28 * nt) z5.2.2.2.2).set (60 + 28 * nt) 0).set (61 + 28 * nt) 1) hb (tR.step hb hz5 t5.1) (tkN_le hz5) (show nt < 5 by omega) (by simp [hr3]) hn1 ((mi_ne (by omega)).trans ((mi_ne (by omega)).trans ((mi_ne (by omega)).trans hs3))) ((mi_ne (by omega)).trans ((mi_ne (by omega)).trans ((mi_ne (by omega)).trans ht3))) hN1 ⟨⟨⟨fun _ _ => rfl, fun _ _ => ⟨rfl, rfl⟩⟩, ⟨0, by decide, by rw [gN_ne (by omega), gN_eq (by rw [List.length_set]; omega)]; rfl, by rw [gN_eq (by omega)]; rfl⟩, 1, by decide, by rw [gN_eq (by rw [List.length_set, List.length_set]; omega)]; rfl, by rw [gN_eq (by omega)]; rfl⟩, by rw [List.length_set]; exact hsl, by rw [List.length_set]; exact hwe⟩
              unfold trM
              generalize mS l e nt 0 pa (aT l e z5) (sl.set nt 0) (we.set nt 1) = R at hR ⊢
              obtain ⟨g1, g2, g3, g4⟩ := hR
              refine ⟨g1, g2, fun q => ?_, g4⟩
              dsimp only at q ⊢
              obtain ⟨a1, a2, a3, a4, ⟨⟨b1, b2⟩, b3, b4⟩, b5⟩ := g3 q
              rw [q, cond_true]
              refine ⟨a1, a2, a3, a4, ⟨by omega, rfl⟩, fun j hj => ?_, fun j hj => ⟨e1 j hj, e2 j hj, e3 j hj, gN_ne (fun z => hj z.symm), (b2 j hj).1.trans (gN_ne (fun z => hj z.symm)), (b2 j hj).2.trans (gN_ne (fun z => hj z.symm))⟩, ?_, ⟨u9, w9, hu9, hw9, fun z => nw9 (by rw [ew9, eu9, z]), ?_, v2.trans eu9, ?_, v4.trans ew9⟩, ⟨x9, x91, ?_, ?_⟩, b3, b4, b5⟩
              · rw [b1 j (by omega), gN_ne (by omega), gN_ne (by omega), gN_ne (by omega), d3 j (by omega), d2 j (by omega), d1 j (by omega)]
              · rw [b1 _ (by omega), gN_ne (by omega), gN_ne (by omega), gN_ne (by omega), d3 _ (by omega), d2 _ (by omega), v1]
              · rw [b1 _ (by omega), gN_ne (by omega), gN_ne (by omega), gN_ne (by omega), d3 _ (by omega), ← eu9]; exact hu2
              · rw [b1 _ (by omega), gN_ne (by omega), gN_ne (by omega), gN_ne (by omega), v3, ew9]
              · rw [b1 _ (by omega), gN_ne (by omega), gN_ne (by omega), gN_eq (by omega), x92]
              · rw [gN_eq (by omega), x92]

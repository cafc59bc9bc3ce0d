/-! rules: longs out of arrays, bytes into arrays, locals beside longs -/
def gL (l : List Int64) (i : Int32) : Int64 := l.getD i.toNatClampNeg 0
section PVL3
variable {P : j_P} {d mi pc : Nat} {lv kl : J_L} {st : List Value} {h h0 : J_H} {k : jk_K} {Q : Option Value → J_H → Prop}
theorem j_V.laA {M : j_M} {a : Nat} {l : List Int64} {i : Int32} (hM : j_meth P mi = some M) (hc : j_code P mi pc = some .laload) (K : KN h k h0) (ha : jk_lk k a = some (.inr (.inr (.inl l)))) (kk : j_V P d mi (pc + 1) lv (.long (gL l i) :: st) h Q) : j_V P d mi pc lv (.int i :: .ref a :: st) h Q := by
  refine j_V.any hM hc ⟨fun z => (by cases z), fun z => (by cases z)⟩ fun pcJ lv' stJ h' ho => ?_
  simp only [j_one, j_kd, j_ald, K.at ha, j_ln] at ho
  by_cases hq : j_ix i l.length = true
  · rw [if_pos hq] at ho
    cases ho
    exact kk
  · rw [if_neg hq] at ho
    cases ho
theorem j_V.baA {M : j_M} {a n : Nat} {l : List Int32} {x : Int32} {k' : jk_K} (hM : j_meth P mi = some M) (hc : j_code P mi pc = some .bastore) (K : KN h k h0) (ha : jk_lk k a = some (.inr (.inl (1, l)))) (hn : n < 2 ^ 31) (hk : jk_st k a (.inr (.inl (1, l.set n x.toInt8.toInt32))) = k') (kk : ∀ h', KN h' k' h0 → n < l.length → j_V P d mi (pc + 1) lv st h' Q) : j_V P d mi pc lv (.int x :: .int (nI n) :: .ref a :: st) h Q := by
  refine j_V.any hM hc ⟨fun z => (by cases z), fun z => (by cases z)⟩ fun pcJ lv' stJ h' ho => ?_
  simp only [j_one, j_kd, j_ast, K.at ha, j_ln] at ho
  by_cases hq : j_ix (nI n) l.length = true
  · rw [if_pos ⟨by decide, hq⟩, nI_clamp hn] at ho
    cases ho
    refine kk _ (K.set ha hk) ?_
    unfold j_ix at hq
    rw [nI_clamp hn] at hq
    refine Decidable.byContradiction fun z => ?_
    rw [decide_eq_true (show l.length ≤ n by omega)] at hq
    rw [Bool.or_true] at hq
    exact absurd hq (by decide)
  · rw [if_neg (fun z => hq z.2)] at ho
    cases ho
def lcat2 (i : Nat) (kl : J_L) : Bool := kl.all fun q => q.2.category == 1 || !(q.1 + 1 == i)
theorem lcat2_ok {i : Nat} {kl : J_L} (h : lcat2 i kl = true) {k : Nat} {v : Value} (hk : j_ld kl k = some v) : (!(k + 1 == i && v.category == 2)) = true := by
  induction kl with
  | nil => cases hk
  | cons q l ih =>
    obtain ⟨h1, h2⟩ := Bool.and_eq_true_iff.mp (show ((q.2.category == 1 || !(q.1 + 1 == i)) && lcat2 i l) = true from h)
    have hk : (if q.1 = k then some q.2 else j_ld l k) = some v := hk
    by_cases e : q.1 = k
    · rw [if_pos e] at hk
      cases hk
      subst e
      rcases Bool.or_eq_true_iff.mp h1 with c | c
      · rw [show q.2.category = 1 by simpa using c]
        simp
      · rw [show (q.1 + 1 == i) = false by simpa using c]
        rfl
    · rw [if_neg e] at hk
      exact ih h2 hk
theorem LK.set2 {kl' : J_L} {i : Nat} {v : Value} (L : LK lv kl) (hc : lcat2 i kl = true) (hk : lset kl i v = kl') : LK (j_s1 i v lv) kl' := by
  subst hk
  intro k u h
  unfold j_s1
  rcases j_ld_lset h with ⟨rfl, rfl⟩ | ⟨h1, h2⟩
  · show (if k = k then some u else _) = _
    rw [if_pos rfl]
  · show (if i = k then some v else j_ld (lv.filter _) k) = some u
    rw [if_neg (fun z => h1 z.symm)]
    refine j_ld_fil (L k u h2) ?_
    have h3 := lcat2_ok hc h2
    show (!(k == i) && !(k + 1 == i && u.category == 2)) = true
    rw [h3, show (k == i) = false from by simpa using h1]
    simp
theorem j_V.stL2 {M : j_M} {ins : Instr} {i kd pcJ : Nat} {v : Value} {kl' : J_L} (hM : j_meth P mi = some M) (hc : j_code P mi pc = some ins) (h1 : j_kd ins = 2) (hx : j_six ins = some (i, kd)) (L : LK lv kl) (hv : j_vk v = kd) (hkd : kd ≠ 1) (hcat : lcat2 i kl = true) (hk : lset kl i v = kl') (hn : pc + j_ln ins = pcJ) (kk : ∀ lv', LK lv' kl' → j_V P d mi pcJ lv' st h Q) : j_V P d mi pc lv (v :: st) h Q := by
  subst hn
  refine j_V.any hM hc ⟨(by rw [h1]; decide), (by rw [h1]; decide)⟩ fun pcJ lv' stJ h' ho => ?_
  simp only [j_one, h1, j_sto, hx, hv, if_true, if_neg hkd] at ho
  split at ho
  · cases ho
    exact kk _ (L.set2 hcat hk)
  · cases ho
theorem j_V.inL2 {M : j_M} {i pcJ : Nat} {n : Int} {x : Int32} {kl' : J_L} (hM : j_meth P mi = some M) (hc : j_code P mi pc = some (.iinc i n)) (L : LK lv kl) (hl : j_ld kl i = some (.int x)) (hcat : lcat2 i kl = true) (hk : lset kl i (.int (x + Int32.ofInt n)) = kl') (hn : pc + j_ln (.iinc i n) = pcJ) (kk : ∀ lv', LK lv' kl' → j_V P d mi pcJ lv' st h Q) : j_V P d mi pc lv st h Q := by
  subst hn
  refine j_V.any hM hc ⟨fun z => (by cases z), fun z => (by cases z)⟩ fun pcJ lv' stJ h' ho => ?_
  simp only [j_one, j_kd, j_inc, L _ _ hl] at ho
  split at ho
  · cases ho
    exact kk _ (L.set2 hcat hk)
  · cases ho
end PVL3
/-! the text, told by what is written behind T -/
def tpA (x : Int32) (T : List Int32) : List Int32 := T ++ [qb x]
theorem tpA_len {x : Int32} {T : List Int32} : (tpA x T).length = T.length + 1 := List.length_append
def tnA (v : Int32) (T : List Int32) : List Int32 := tpA (48 + (v - v / 10 * 10)) (if v < 10 then (if v < 100 then tpA 32 T else tpA (48 + v / 100) (tpA 32 T)) else tpA (48 + (v / 10 - v / 10 / 10 * 10)) (if v < 100 then tpA 32 T else tpA (48 + v / 100) (tpA 32 T)))
theorem tnA_len {v : Int32} {T : List Int32} : (tnA v T).length ≤ T.length + 4 := by
  unfold tnA
  rw [tpA_len]
  split <;> split <;> simp only [tpA_len] <;> omega
def twA (w : Int64) : Nat → List Int32 → List Int32
  | 0, T => T
  | f + 1, T => twA w f (if xwL w (nI (8 * f)) = 0 then T else tpA (xwL w (nI (8 * f))) T)
def tmA (w : Int64) : Nat → List Int32 → List Int32
  | 0, T => T
  | f + 1, T => tmA w f (if mwL w (nI (5 * f)) = 0 then T else tpA ((mwL w (nI (5 * f))).toInt32 + 96) T)
theorem twA_eq (w : Int64) : ∀ f T, twA w f T = T ++ xwT w f
  | 0, T => (List.append_nil T).symm
  | f + 1, T => by
    unfold twA xwT
    rw [twA_eq w f]
    split
    · rfl
    · unfold tpA
      rw [List.append_assoc]
theorem tmA_eq (w : Int64) : ∀ f T, tmA w f T = T ++ mwT w f
  | 0, T => (List.append_nil T).symm
  | f + 1, T => by
    unfold tmA mwT
    rw [tmA_eq w f]
    split
    · rfl
    · unfold tpA
      rw [List.append_assoc]
theorem wR.acc {w w' : Int64} (h : wR w w') (T : List Int32) : twA w 8 T = tmA w' 9 T := by rw [twA_eq, tmA_eq, h.txt]
theorem twA_len {w : Int64} {f : Nat} {T : List Int32} : (twA w f T).length ≤ T.length + f := by
  have := xwT_len w f
  rw [twA_eq, List.length_append]
  omega
theorem tmA_len {w : Int64} {f : Nat} {T : List Int32} : (tmA w f T).length ≤ T.length + f := by
  have := mwT_len w f
  rw [tmA_eq, List.length_append]
  omega
def tlA (F : Int32 → List Int32 → List Int32) : Nat → Int32 → List Int32 → List Int32
  | 0, _, T => T
  | f + 1, i, T => tlA F f (i + 1) (F i T)
theorem tlA_eq {F G : Int32 → List Int32 → List Int32} : ∀ (f i : Nat) (T : List Int32), (∀ j T, i ≤ j → j < i + f → F (nI j) T = G (nI j) T) → tlA F f (nI i) T = tlA G f (nI i) T
  | 0, _, _, _ => rfl
  | f + 1, i, T, h => by
    unfold tlA
    rw [h i T (Nat.le_refl _) (by omega), show nI i + 1 = nI (i + 1) from (Int32.ofNat_add i 1).symm]
    exact tlA_eq f (i + 1) _ (fun j T h1 h2 => h j T (by omega) (by omega))
theorem tlA_len {F : Int32 → List Int32 → List Int32} {c : Nat} (h : ∀ i T, (F i T).length ≤ T.length + c) : ∀ (f : Nat) (i : Int32) (T : List Int32), (tlA F f i T).length ≤ T.length + c * f
  | 0, _, _ => Nat.le_refl _
  | f + 1, i, T => by
    have h1 := tlA_len h f (i + 1) (F i T)
    have h2 := h i T
    unfold tlA
    rw [Nat.mul_succ]
    omega

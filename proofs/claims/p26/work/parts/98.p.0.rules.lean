/-! rows of partial runs over known cells: arrays by ints, loops by how much is left -/
section PV
variable {P : j_P} {d mi pc : Nat} {lv : J_L} {st : List Value} {h h0 : J_H} {k : jk_K} {Q : Option Value → J_H → Prop}
theorem j_V.any {M : j_M} {ins : Instr} (hM : j_meth P mi = some M) (hc : j_code P mi pc = some ins) (hk : j_kd ins ≠ 9 ∧ j_kd ins ≠ 10) (kk : ∀ pcJ lv' stJ h', j_one P mi (j_nL M) (j_in M) pc ins lv st h = some (pcJ, lv', stJ, h') → j_V P d mi pcJ lv' stJ h' Q) : j_V P d mi pc lv st h Q := by
  intro f r hf hj
  cases f with
  | zero => cases hj
  | succ f =>
    unfold j_run at hj
    rw [hM, hc] at hj
    try dsimp only at hj
    split at hj
    · rename_i z; exact absurd z hk.1
    · rename_i z; exact absurd z hk.2
    · split at hj
      · rename_i pcJ lv' stJ h' ho
        exact kk _ _ _ _ ho f r hf hj
      · cases hj
theorem j_V.gto {M : j_M} {off : Int} {t : Nat} (hM : j_meth P mi = some M) (hc : j_code P mi pc = some (.goto off)) (ht : j_tgt pc off = some t) (kk : j_V P d mi t lv st h Q) : j_V P d mi pc lv st h Q :=
  j_V.one hM hc ⟨fun z => (by cases z), fun z => (by cases z)⟩ (by simp only [j_one, j_kd, j_br, ht, Option.map_some]) kk
/-- an array's int, at an int -/
def gA (l : List Int32) (i : Int32) : Int32 := l.getD i.toNatClampNeg 0
def sA (l : List Int32) (i x : Int32) : List Int32 := l.set i.toNatClampNeg x
theorem j_V.iaA {M : j_M} {a : Nat} {l : List Int32} {i : Int32} (hM : j_meth P mi = some M) (hc : j_code P mi pc = some .iaload) (K : KN h k h0) (ha : jk_lk k a = some (.inr (.inl (0, l)))) (kk : j_V P d mi (pc + 1) lv (.int (gA l i) :: st) h Q) : j_V P d mi pc lv (.int i :: .ref a :: st) h Q := by
  refine j_V.any hM hc ⟨fun z => (by cases z), fun z => (by cases z)⟩ fun pcJ lv' stJ h' ho => ?_
  simp only [j_one, j_kd, j_ald, K.at ha, j_ln] at ho
  by_cases hq : j_ix i l.length = true
  · rw [if_pos ⟨trivial, hq⟩] at ho
    cases ho
    exact kk
  · rw [if_neg (fun z => hq z.2)] at ho
    cases ho
theorem j_V.isA {M : j_M} {a : Nat} {l : List Int32} {i x : Int32} {k' : jk_K} (hM : j_meth P mi = some M) (hc : j_code P mi pc = some .iastore) (K : KN h k h0) (ha : jk_lk k a = some (.inr (.inl (0, l)))) (hk : jk_st k a (.inr (.inl (0, sA l i x))) = k') (kk : ∀ h', KN h' k' h0 → j_V P d mi (pc + 1) lv st h' Q) : j_V P d mi pc lv (.int x :: .int i :: .ref a :: st) h Q := by
  refine j_V.any hM hc ⟨fun z => (by cases z), fun z => (by cases z)⟩ fun pcJ lv' stJ h' ho => ?_
  simp only [j_one, j_kd, j_ast, K.at ha, j_ln] at ho
  by_cases hq : j_ix i l.length = true
  · rw [if_pos ⟨trivial, hq⟩] at ho
    cases ho
    exact kk _ (K.set ha hk)
  · rw [if_neg (fun z => hq z.2)] at ho
    cases ho
def iMx (x y : Int32) : Int32 := if x < y then y else x
def iMn (x y : Int32) : Int32 := if y < x then y else x
theorem j_V.mx {M : j_M} {ins : Instr} {z : Nat} {x y : Int32} (hM : j_meth P mi = some M) (hc : j_code P mi pc = some ins) (hk : j_kd ins = 10) (hi : j_inv P mi ins = some (7, z)) (hr : (st.map fun v => v.category).sum ≤ 8) (kk : j_V P d mi (pc + 3) lv (.int (iMx x y) :: st) h Q) : j_V P d mi pc lv (.int y :: .int x :: st) h Q := by
  have ho : j_mm true (.int y :: .int x :: st) = some (.int (iMx x y) :: st) := by
    simp only [j_mm, if_pos hr, if_true, iMx]
  intro f r hf hj
  cases f with
  | zero => cases hj
  | succ f =>
    unfold j_run at hj
    rw [hM, hc] at hj
    try dsimp only at hj
    simp only [hk, hi, ho] at hj
    exact kk f r hf hj
theorem j_V.mn {M : j_M} {ins : Instr} {z : Nat} {x y : Int32} (hM : j_meth P mi = some M) (hc : j_code P mi pc = some ins) (hk : j_kd ins = 10) (hi : j_inv P mi ins = some (8, z)) (hr : (st.map fun v => v.category).sum ≤ 8) (kk : j_V P d mi (pc + 3) lv (.int (iMn x y) :: st) h Q) : j_V P d mi pc lv (.int y :: .int x :: st) h Q := by
  have ho : j_mm false (.int y :: .int x :: st) = some (.int (iMn x y) :: st) := by
    simp only [j_mm, if_pos hr, Bool.false_eq_true, if_false, iMn]
  intro f r hf hj
  cases f with
  | zero => cases hj
  | succ f =>
    unfold j_run at hj
    rw [hM, hc] at hj
    try dsimp only at hj
    simp only [hk, hi, ho] at hj
    exact kk f r hf hj
end PV
/-! branches: what they ask, in = and < alone -/
theorem jd_eq {x y : Int32} (c : j_cond .eq x y = true) : x = y := of_decide_eq_true c
theorem jd_eqn {x y : Int32} (c : j_cond .eq x y = false) : ¬ x = y := of_decide_eq_false c
theorem jd_ne {x y : Int32} (c : j_cond .ne x y = true) : ¬ x = y := of_decide_eq_false (by simpa [j_cond] using c)
theorem jd_nen {x y : Int32} (c : j_cond .ne x y = false) : x = y := by
  have c : (!decide (x = y)) = false := c
  simpa using c
theorem jd_lt {x y : Int32} (c : j_cond .lt x y = true) : x < y := of_decide_eq_true c
theorem jd_ltn {x y : Int32} (c : j_cond .lt x y = false) : ¬ x < y := of_decide_eq_false c
theorem jd_ge {x y : Int32} (c : j_cond .ge x y = true) : ¬ x < y := by
  have c : y ≤ x := of_decide_eq_true c
  rw [Int32.le_iff_toInt_le] at c
  rw [Int32.lt_iff_toInt_lt]
  omega
theorem jd_gen {x y : Int32} (c : j_cond .ge x y = false) : x < y := by
  have c : ¬ y ≤ x := of_decide_eq_false c
  rw [Int32.le_iff_toInt_le] at c
  rw [Int32.lt_iff_toInt_lt]
  omega
theorem jd_gt {x y : Int32} (c : j_cond .gt x y = true) : y < x := of_decide_eq_true c
theorem jd_gtn {x y : Int32} (c : j_cond .gt x y = false) : ¬ y < x := of_decide_eq_false c
theorem jd_le {x y : Int32} (c : j_cond .le x y = true) : ¬ y < x := jd_ge (x := y) (y := x) c
theorem jd_len {x y : Int32} (c : j_cond .le x y = false) : y < x := jd_gen (x := y) (y := x) c
/-- how many turns a loop up to n has from i on -/
def lpN (n i : Int32) : Nat := (n.toInt - i.toInt).toNat
theorem lpN_z {n i : Int32} (h : lpN n i = 0) : ¬ i < n := by
  unfold lpN at h
  rw [Int32.lt_iff_toInt_lt]
  omega
theorem lpN_s {n i : Int32} {f : Nat} (h : lpN n i = f + 1) : i < n := by
  unfold lpN at h
  rw [Int32.lt_iff_toInt_lt]
  omega
theorem lpN_n {n i : Int32} {f : Nat} (h : lpN n i = f + 1) : lpN n (i + 1) = f := by
  have h1 := lpN_s h
  rw [Int32.lt_iff_toInt_lt] at h1
  have h2 := Int32.toInt_lt n
  have h3 := Int32.le_toInt i
  have e : (i + 1).toInt = i.toInt + 1 := by
    rw [Int32.toInt_add, show (1 : Int32).toInt = 1 from rfl, Int.bmod_eq_of_le (by omega) (by omega)]
  unfold lpN at h ⊢
  rw [e]
  omega
section PVC
variable {P : j_P} {d mi pc : Nat} {lv : J_L} {st : List Value} {h h0 : J_H} {k : jk_K} {Q : Option Value → J_H → Prop}
/-- a call, at any depth -/
theorem j_V.cl {M N : j_M} {ins : Instr} {md mj : Nat} {As rest : List Value} {Q1 : Option Value → J_H → Prop} (hM : j_meth P mi = some M) (hc : j_code P mi pc = some ins) (hk : j_kd ins = 10) (hi : j_inv P mi ins = some (md, mj)) (hmd : md ≠ 0 ∧ md ≠ 1 ∧ md ≠ 7 ∧ md ≠ 8) (hN : j_meth P mj = some N) (hs : j_spl md N h st = some (As, rest))
    (hcall : ∀ d, j_V P d mj 0 (lv_args 0 As) [] h Q1) (kk : ∀ r h', Q1 r h' → j_V P d mi (pc + 3) lv (r.toList ++ rest) h' Q) : j_V P d mi pc lv st h Q := by
  cases d with
  | zero =>
    intro f r' hf hj
    cases f with
    | zero => cases hj
    | succ f =>
      obtain ⟨n1, n2, n3, n4⟩ := hmd
      unfold j_run at hj
      rw [hM, hc] at hj
      simp only [hk, hi, hN] at hj
      cases hj
  | succ d => exact j_V.call hM hc hk hi hmd hN hs (hcall d) kk
end PVC
/-- an int told back -/
theorem jv_reti {rt : Option FieldType} {v : Int32} {x : Option Value} (h : j_ret rt .ireturn [.int v] = some x) : x = some (.int v) := by
  cases rt with
  | none => cases h
  | some ty =>
    have h : (if j_fit ty (.int v) = true then some (some (Value.int v)) else none) = some x := h
    split at h
    · exact (Option.some.inj h).symm
    · cases h
theorem j_V.ri {P : j_P} {d mi pc : Nat} {lv : J_L} {h : J_H} {Q : Option Value → J_H → Prop} {M : j_M} {v : Int32} (hM : j_meth P mi = some M) (hc : j_code P mi pc = some .ireturn) (hq : Q (some (.int v)) h) : j_V P d mi pc lv [.int v] h Q := by
  intro f r hf hj
  cases f with
  | zero => cases hj
  | succ f =>
    unfold j_run at hj
    rw [hM, hc] at hj
    obtain ⟨x, hx, he⟩ := Option.map_eq_some_iff.mp (show (j_ret (j_rt M) .ireturn [.int v]).map (fun r => (r, h)) = some (r, hf) from hj)
    rw [jv_reti hx] at he
    cases he
    exact hq
/-! locals that are known -/
def LK (lv kl : J_L) : Prop := ∀ k v, j_ld kl k = some v → j_ld lv k = some v
theorem LK.rf {lv : J_L} : LK lv lv := fun _ _ h => h
def lset : J_L → Nat → Value → J_L
  | [], i, v => [(i, v)]
  | q :: l, i, v => if q.1 = i then (i, v) :: l else q :: lset l i v
theorem j_ld_lset {i : Nat} {v : Value} : ∀ {kl : J_L} {k : Nat} {u : Value}, j_ld (lset kl i v) k = some u → (k = i ∧ u = v) ∨ (k ≠ i ∧ j_ld kl k = some u)
  | [], k, u, h => by
    unfold lset j_ld at h
    by_cases e : i = k
    · rw [if_pos e] at h
      exact Or.inl ⟨e.symm, (Option.some.inj h).symm⟩
    · rw [if_neg e] at h
      cases h
  | (a, b) :: l, k, u, h => by
    unfold lset at h
    by_cases e : a = i
    · rw [if_pos (show (a, b).1 = i from e)] at h
      unfold j_ld at h
      by_cases e2 : i = k
      · rw [if_pos e2] at h
        exact Or.inl ⟨e2.symm, (Option.some.inj h).symm⟩
      · rw [if_neg e2] at h
        refine Or.inr ⟨fun z => e2 z.symm, ?_⟩
        show (if a = k then some b else j_ld l k) = some u
        rw [if_neg (fun z => e2 (e.symm.trans z))]
        exact h
    · rw [if_neg (show ¬ (a, b).1 = i from e)] at h
      have h : (if a = k then some b else j_ld (lset l i v) k) = some u := h
      by_cases e2 : a = k
      · rw [if_pos e2] at h
        refine Or.inr ⟨fun z => e (e2.trans z), ?_⟩
        show (if a = k then some b else j_ld l k) = some u
        rw [if_pos e2]
        exact h
      · rw [if_neg e2] at h
        rcases j_ld_lset h with z | ⟨z1, z2⟩
        · exact Or.inl z
        · refine Or.inr ⟨z1, ?_⟩
          show (if a = k then some b else j_ld l k) = some u
          rw [if_neg e2]
          exact z2
theorem j_ld_fil {p : Nat × Value → Bool} : ∀ {lv : J_L} {k : Nat} {v : Value}, j_ld lv k = some v → p (k, v) = true → j_ld (lv.filter p) k = some v
  | [], _, _, h, _ => by cases h
  | (a, b) :: l, k, v, h, hp => by
    have h : (if a = k then some b else j_ld l k) = some v := h
    by_cases e : a = k
    · rw [if_pos e] at h
      cases h
      subst e
      rw [List.filter_cons_of_pos hp]
      show (if a = a then some b else _) = _
      rw [if_pos rfl]
    · rw [if_neg e] at h
      by_cases hq : p (a, b) = true
      · rw [List.filter_cons_of_pos hq]
        show (if a = k then some b else j_ld (l.filter p) k) = some v
        rw [if_neg e]
        exact j_ld_fil h hp
      · rw [List.filter_cons_of_neg hq]
        exact j_ld_fil h hp
def lcat (kl : J_L) : Bool := kl.all fun q => q.2.category == 1
theorem lcat_ok {kl : J_L} (h : lcat kl = true) {k : Nat} {v : Value} (hk : j_ld kl k = some v) : v.category = 1 := by
  induction kl with
  | nil => cases hk
  | cons q l ih =>
    obtain ⟨h1, h2⟩ := Bool.and_eq_true_iff.mp (show ((q.2.category == 1) && lcat l) = true from h)
    have hk : (if q.1 = k then some q.2 else j_ld l k) = some v := hk
    by_cases e : q.1 = k
    · rw [if_pos e] at hk
      cases hk
      simpa using h1
    · rw [if_neg e] at hk
      exact ih h2 hk
theorem LK.set {lv kl kl' : J_L} {i : Nat} {v : Value} (L : LK lv kl) (hc : lcat kl = true) (hk : lset kl i v = kl') : LK (j_s1 i v lv) kl' := by
  subst hk
  intro k u h
  unfold j_s1
  rcases j_ld_lset h with ⟨rfl, rfl⟩ | ⟨h1, h2⟩
  · show (if k = k then some u else _) = _
    rw [if_pos rfl]
  · show (if i = k then some v else j_ld (lv.filter _) k) = some u
    rw [if_neg (fun z => h1 z.symm)]
    refine j_ld_fil (L k u h2) ?_
    have h3 := lcat_ok hc h2
    show (!(k == i) && !(k + 1 == i && u.category == 2)) = true
    rw [h3, show (k == i) = false from by simpa using h1]
    simp
def LKs (kl : J_L) : J_L → Prop
  | [] => True
  | q :: l => j_ld kl q.1 = some q.2 ∧ LKs kl l
theorem LK.sub {lv kl : J_L} (L : LK lv kl) : ∀ {l : J_L}, LKs kl l → LK lv l
  | [], _ => fun _ _ h => by cases h
  | q :: l, hl => fun k v h => by
    have h : (if q.1 = k then some q.2 else j_ld l k) = some v := h
    by_cases e : q.1 = k
    · rw [if_pos e] at h
      cases h
      subst e
      exact L _ _ hl.1
    · rw [if_neg e] at h
      exact L.sub hl.2 k v h
section PVL
variable {P : j_P} {d mi pc : Nat} {lv kl : J_L} {st : List Value} {h : J_H} {Q : Option Value → J_H → Prop}
theorem j_V.ldL {M : j_M} {ins : Instr} {i kd pcJ : Nat} {v : Value} (hM : j_meth P mi = some M) (hc : j_code P mi pc = some ins) (h1 : j_kd ins = 1) (hx : j_lix ins = some (i, kd)) (L : LK lv kl) (hl : j_ld kl i = some v) (hv : j_vk v = kd) (hn : pc + j_ln ins = pcJ) (kk : j_V P d mi pcJ lv (v :: st) h Q) : j_V P d mi pc lv st h Q := by
  subst hn
  refine j_V.one hM hc ⟨(by rw [h1]; decide), (by rw [h1]; decide)⟩ (pcJ := pc + j_ln ins) (lv' := lv) (stJ := v :: st) (h' := h) ?_ kk
  simp only [j_one, h1, j_lod, hx, L _ _ hl, hv, if_true, Option.map_some]
theorem j_V.stL {M : j_M} {ins : Instr} {i kd pcJ : Nat} {v : Value} {kl' : J_L} (hM : j_meth P mi = some M) (hc : j_code P mi pc = some ins) (h1 : j_kd ins = 2) (hx : j_six ins = some (i, kd)) (L : LK lv kl) (hv : j_vk v = kd) (hkd : kd ≠ 1) (hcat : lcat kl = true) (hk : lset kl i v = kl') (hn : pc + j_ln ins = pcJ) (kk : ∀ lv', LK lv' kl' → j_V P d mi pcJ lv' st h Q) : j_V P d mi pc lv (v :: st) h Q := by
  subst hn
  refine j_V.any hM hc ⟨(by rw [h1]; decide), (by rw [h1]; decide)⟩ fun pcJ lv' stJ h' ho => ?_
  simp only [j_one, h1, j_sto, hx, hv, if_true, if_neg hkd] at ho
  split at ho
  · cases ho
    exact kk _ (L.set hcat hk)
  · cases ho
theorem j_V.inL {M : j_M} {i pcJ : Nat} {n : Int} {x : Int32} {kl' : J_L} (hM : j_meth P mi = some M) (hc : j_code P mi pc = some (.iinc i n)) (L : LK lv kl) (hl : j_ld kl i = some (.int x)) (hcat : lcat kl = true) (hk : lset kl i (.int (x + Int32.ofInt n)) = kl') (hn : pc + j_ln (.iinc i n) = pcJ) (kk : ∀ lv', LK lv' kl' → j_V P d mi pcJ lv' st h Q) : j_V P d mi pc lv st h Q := by
  subst hn
  refine j_V.any hM hc ⟨fun z => (by cases z), fun z => (by cases z)⟩ fun pcJ lv' stJ h' ho => ?_
  simp only [j_one, j_kd, j_inc, L _ _ hl] at ho
  split at ho
  · cases ho
    exact kk _ (L.set hcat hk)
  · cases ho
end PVL
/-- a run in two pieces: branches that come together again, one value told -/
theorem j_V.cut {P : j_P} {d mi pc b : Nat} {lv : J_L} {st stJ : List Value} {h : J_H} {Q : Option Value → J_H → Prop} (kl : Int32 → J_L) (val : Int32) (seg : ∀ Q' : Option Value → J_H → Prop, (∀ lv', LK lv' (kl val) → j_V P d mi b lv' stJ h Q') → j_V P d mi pc lv st h Q') (k : ∀ lv', LK lv' (kl val) → j_V P d mi b lv' stJ h Q) : j_V P d mi pc lv st h Q := seg Q k
/-! known cells in the order of their addresses: merged, picked, in one pass -/
def jk_mg : jk_K → jk_K → jk_K
  | [], _ => []
  | q :: k, [] => q :: k
  | q :: k, r :: l => match Nat.beq q.1 r.1 with
    | true => r :: jk_mg k l
    | false => q :: jk_mg k (r :: l)
def jk_mc : Nat → jk_K → jk_K → Bool
  | _, [], [] => true
  | _, [], _ :: _ => false
  | lo, q :: k, [] => Nat.ble lo q.1 && jk_mc (q.1 + 1) k []
  | lo, q :: k, r :: l => Nat.ble lo q.1 && (match Nat.beq q.1 r.1 with
    | true => jk_mc (q.1 + 1) k l
    | false => jk_mc (q.1 + 1) k (r :: l))
theorem jk_lk_c {q : Nat × J_C} {k : jk_K} {a : Nat} : jk_lk (q :: k) a = if q.1 = a then some q.2 else jk_lk k a := by
  by_cases e : q.1 = a
  · rw [if_pos e]
    unfold jk_lk
    rw [Nat.beq_eq.mpr e]
  · rw [if_neg e]
    show (match Nat.beq q.1 a with
      | true => some q.2
      | false => jk_lk k a) = _
    rw [Bool.eq_false_iff.mpr (fun z => e (Nat.beq_eq.mp z))]
theorem jk_mc_ok : ∀ {k l : jk_K} {lo : Nat}, jk_mc lo k l = true → ∀ a, (jk_lk (jk_mg k l) a = (match jk_lk l a with
    | some c => some c
    | none => jk_lk k a)) ∧ (a < lo → jk_lk k a = none ∧ jk_lk l a = none)
  | [], [], _, _, _ => ⟨rfl, fun _ => ⟨rfl, rfl⟩⟩
  | [], _ :: _, _, h, _ => by cases h
  | q :: k, [], lo, h, a => by
    obtain ⟨h1, h2⟩ := Bool.and_eq_true_iff.mp (show (Nat.ble lo q.1 && jk_mc (q.1 + 1) k []) = true from h)
    have h1 := Nat.le_of_ble_eq_true h1
    refine ⟨rfl, fun ha => ⟨?_, rfl⟩⟩
    rw [jk_lk_c, if_neg (by omega)]
    exact ((jk_mc_ok h2 a).2 (by omega)).1
  | q :: k, r :: l, lo, h, a => by
    obtain ⟨h1, h2⟩ := Bool.and_eq_true_iff.mp (show (Nat.ble lo q.1 && (match Nat.beq q.1 r.1 with
      | true => jk_mc (q.1 + 1) k l
      | false => jk_mc (q.1 + 1) k (r :: l))) = true from h)
    have h1 := Nat.le_of_ble_eq_true h1
    have e0 : jk_mg (q :: k) (r :: l) = (match Nat.beq q.1 r.1 with
      | true => r :: jk_mg k l
      | false => q :: jk_mg k (r :: l)) := rfl
    rw [e0]
    cases hb : Nat.beq q.1 r.1 with
    | true =>
      rw [hb] at h2
      have e := Nat.beq_eq.mp hb
      obtain ⟨i1, i2⟩ := jk_mc_ok h2 a
      dsimp only
      rw [jk_lk_c, jk_lk_c, jk_lk_c]
      by_cases e2 : r.1 = a
      · rw [if_pos e2, if_pos e2]
        exact ⟨rfl, fun z => absurd z (by omega)⟩
      · rw [if_neg e2, if_neg e2, if_neg (fun z => e2 (e.symm.trans z))]
        exact ⟨i1, fun z => i2 (by omega)⟩
    | false =>
      rw [hb] at h2
      have e : ¬ q.1 = r.1 := fun z => by rw [Nat.beq_eq.mpr z] at hb; cases hb
      obtain ⟨i1, i2⟩ := jk_mc_ok h2 a
      dsimp only
      rw [jk_lk_c, jk_lk_c (q := q) (k := k)]
      by_cases e2 : q.1 = a
      · rw [if_pos e2, if_pos e2]
        rw [(i2 (by omega)).2]
        exact ⟨rfl, fun z => absurd z (by omega)⟩
      · rw [if_neg e2, if_neg e2]
        exact ⟨i1, fun z => i2 (by omega)⟩
theorem KN.mg {h h0 h1 : J_H} {l k k' : jk_K} (K : KN h k h0) (L : KN h1 l h) (hc : jk_mc 0 k l = true) (hu : jk_mg k l = k') : KN h1 k' h0 := by
  subst hu
  refine ⟨fun a c ha => ?_, fun a ha => ?_, L.2.2.trans K.2.2⟩
  · rw [(jk_mc_ok hc a).1] at ha
    cases hl : jk_lk l a with
    | some c' => rw [hl] at ha; cases ha; exact L.1 a _ hl
    | none => rw [hl] at ha; rw [L.2.1 a hl]; exact K.1 a c ha
  · rw [(jk_mc_ok hc a).1] at ha
    cases hl : jk_lk l a with
    | some c' => rw [hl] at ha; cases ha
    | none => rw [hl] at ha; rw [L.2.1 a hl]; exact K.2.1 a ha
def jk_fi : jk_K → List Nat → jk_K
  | [], _ => []
  | _ :: _, [] => []
  | q :: k, a :: as => match Nat.beq q.1 a with
    | true => q :: jk_fi k as
    | false => jk_fi k (a :: as)
theorem jk_fi_mem : ∀ {k : jk_K} {as : List Nat} {q : Nat × J_C}, q ∈ jk_fi k as → q ∈ k
  | [], _, _, h => by cases h
  | _ :: _, [], _, h => by cases h
  | p :: k, a :: as, q, h => by
    have e0 : jk_fi (p :: k) (a :: as) = (match Nat.beq p.1 a with
      | true => p :: jk_fi k as
      | false => jk_fi k (a :: as)) := rfl
    rw [e0] at h
    cases hb : Nat.beq p.1 a with
    | true =>
      rw [hb] at h
      rcases List.mem_cons.mp h with z | z
      · exact List.mem_cons.mpr (Or.inl z)
      · exact List.mem_cons.mpr (Or.inr (jk_fi_mem z))
    | false =>
      rw [hb] at h
      exact List.mem_cons.mpr (Or.inr (jk_fi_mem h))
theorem jk_asc_mem : ∀ {k : jk_K} {lo : Nat} {q : Nat × J_C}, jk_mc lo k [] = true → q ∈ k → jk_lk k q.1 = some q.2
  | [], _, _, _, h => by cases h
  | p :: k, lo, q, hc, h => by
    obtain ⟨h1, h2⟩ := Bool.and_eq_true_iff.mp (show (Nat.ble lo p.1 && jk_mc (p.1 + 1) k []) = true from hc)
    rw [jk_lk_c]
    rcases List.mem_cons.mp h with z | z
    · subst z
      rw [if_pos rfl]
    · have i := jk_asc_mem h2 z
      by_cases e : p.1 = q.1
      · rw [((jk_mc_ok h2 q.1).2 (by omega)).1] at i
        cases i
      · rw [if_neg e]
        exact i
theorem KN.fi {h h0 : J_H} {k l : jk_K} (K : KN h k h0) (as : List Nat) (hc : jk_mc 0 k [] = true) (hl : jk_fi k as = l) : KN h l h := KN.of (by
  subst hl
  intro q hq
  exact K.1 _ _ (jk_asc_mem hc (jk_fi_mem hq)))
theorem lpN_o {n i c : Int32} {f : Nat} (h : lpN n (i + c) = f + 1) : lpN n (i + 1 + c) = f := by
  rw [show i + 1 + c = i + c + 1 by rw [Int32.add_assoc, Int32.add_comm 1 c, ← Int32.add_assoc]]
  exact lpN_n h
/-- a switch over numbers in a row -/
theorem j_V.tsw {P : j_P} {d mi pc : Nat} {lv : J_L} {st : List Value} {h : J_H} {Q : Option Value → J_H → Prop} {M : j_M} {dflt lo hi : Int} {offs : Array Int} {x : Int32} (hM : j_meth P mi = some M) (hc : j_code P mi pc = some (.tableswitch dflt lo hi offs)) (kd : ∀ t, j_tgt pc dflt = some t → (x.toInt < lo ∨ hi < x.toInt) → j_V P d mi t lv st h Q) (kk : ∀ (i : Nat) off t, offs[i]? = some off → j_tgt pc off = some t → x.toInt = lo + (i : Int) → j_V P d mi t lv st h Q) : j_V P d mi pc lv (.int x :: st) h Q := by
  refine j_V.any hM hc ⟨fun z => (by cases z), fun z => (by cases z)⟩ fun pcJ lv' stJ h' ho => ?_
  simp only [j_one, j_kd, j_br] at ho
  split at ho
  · rename_i hx
    cases ht : j_tgt pc dflt with
    | none => rw [ht] at ho; cases ho
    | some t => rw [ht] at ho; cases ho; exact kd _ ht hx
  · rename_i hx
    split at ho
    · rename_i off hoff
      cases ht : j_tgt pc off with
      | none => rw [ht] at ho; cases ho
      | some t =>
        rw [ht] at ho
        cases ho
        refine kk _ off _ hoff ht ?_
        omega
    · cases ho

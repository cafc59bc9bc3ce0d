/-! rows of partial runs: arrays copied, filled, their lengths -/
def aC (n : Int32) (l0 l1 : List Int32) : List Int32 := j_cpy 0 l0 l1 0 0 n.toNatClampNeg
def fLl (x : Int32) : Nat → Int32 → List Int32 → List Int32
  | 0, _, l => l
  | f + 1, i, l => fLl x f (i + 1) (sA l i x)
def fL (x : Int32) (l : List Int32) : List Int32 := fLl x (lpN (nI l.length) 0) 0 l
section PV2
variable {P : j_P} {d mi pc : Nat} {lv : J_L} {st : List Value} {h h0 : J_H} {k : jk_K} {Q : Option Value → J_H → Prop}
theorem j_V.alnA {M : j_M} {a : Nat} {l : List Int32} (hM : j_meth P mi = some M) (hc : j_code P mi pc = some .arraylength) (K : KN h k h0) (ha : jk_lk k a = some (.inr (.inl (0, l)))) (kk : j_V P d mi (pc + 1) lv (.int (nI l.length) :: st) h Q) : j_V P d mi pc lv (.ref a :: st) h Q := by
  refine j_V.any hM hc ⟨fun z => (by cases z), fun z => (by cases z)⟩ fun pcJ lv' stJ h' ho => ?_
  simp only [j_one, j_kd, j_ald, K.at ha, j_ln] at ho
  cases ho
  exact kk
theorem j_V.acp {M : j_M} {ins : Instr} {y a0 a : Nat} {n : Int32} {l0 l1 : List Int32} {k' : jk_K} (hM : j_meth P mi = some M) (hc : j_code P mi pc = some ins) (hk : j_kd ins = 10) (hi : j_inv P mi ins = some (1, y)) (K : KN h k h0) (ha0 : jk_lk k a0 = some (.inr (.inl (0, l0)))) (ha : jk_lk k a = some (.inr (.inl (0, l1)))) (hk' : jk_st k a (.inr (.inl (0, aC n l0 l1))) = k') (kk : ∀ h', KN h' k' h0 → j_V P d mi (pc + 3) lv st h' Q) : j_V P d mi pc lv (.int n :: .int 0 :: .ref a :: .int 0 :: .ref a0 :: st) h Q := by
  intro f r hf hj
  cases f with
  | zero => cases hj
  | succ f =>
    unfold j_run at hj
    rw [hM, hc] at hj
    try dsimp only at hj
    simp only [hk, hi] at hj
    have e : j_acp h (.int n :: .int 0 :: .ref a :: .int 0 :: .ref a0 :: st) = some (st, h.set a (.inr (.inl (0, aC n l0 l1)))) ∨ j_acp h (.int n :: .int 0 :: .ref a :: .int 0 :: .ref a0 :: st) = none := by
      simp only [j_acp, K.at ha0, K.at ha]
      split
      · exact Or.inl rfl
      · exact Or.inr rfl
    rcases e with e | e
    · rw [e] at hj
      exact kk _ (K.set ha hk') f r hf hj
    · rw [e] at hj
      cases hj
theorem j_V.aaA {M : j_M} {a i v : Nat} {x : Int32} {l : List (Option Nat)} (hM : j_meth P mi = some M) (hc : j_code P mi pc = some .aaload) (K : KN h k h0) (ha : jk_lk k a = some (.inr (.inr (.inr l)))) (hx : x.toNatClampNeg = i) (hi : l.getD i none = some v) (kk : j_V P d mi (pc + 1) lv (.ref v :: st) h Q) : j_V P d mi pc lv (.int x :: .ref a :: st) h Q := by
  refine j_V.any hM hc ⟨fun z => (by cases z), fun z => (by cases z)⟩ fun pcJ lv' stJ h' ho => ?_
  simp only [j_one, j_kd, j_ald, K.at ha, j_ln] at ho
  by_cases hq : j_ix x l.length = true
  · rw [if_pos hq, hx, hi] at ho
    cases ho
    exact kk
  · rw [if_neg hq] at ho
    cases ho
end PV2
theorem jk_st_c (q : Nat × J_C) (k : jk_K) (a : Nat) (c : J_C) : jk_st (q :: k) a c = (match Nat.beq q.1 a with
  | true => (q.1, c) :: k
  | false => q :: jk_st k a c) := rfl
theorem jk_st_st (a : Nat) (c c' : J_C) : ∀ k : jk_K, jk_st (jk_st k a c) a c' = jk_st k a c'
  | [] => rfl
  | q :: k => by
    rw [jk_st_c, jk_st_c]
    cases e : Nat.beq q.1 a with
    | true =>
      dsimp only
      rw [jk_st_c, show Nat.beq (q.1, c).1 a = true from e]
    | false =>
      dsimp only
      rw [jk_st_c, e]
      dsimp only
      rw [jk_st_st a c c' k]
set_option maxRecDepth 100000 in
theorem fi9_M : j_meth jP 299 = some (yJ7_fill_53178, cJ7_fill_53178, 4, none, 2, false, 99) := rfl
set_option maxRecDepth 100000 in
theorem fi9_0 : j_code jP 299 0 = some (.iconst 0) := rfl
set_option maxRecDepth 100000 in
theorem fi9_1 : j_code jP 299 1 = some (.istore_n 2) := rfl
set_option maxRecDepth 100000 in
theorem fi9_2 : j_code jP 299 2 = some (.aload_n 0) := rfl
set_option maxRecDepth 100000 in
theorem fi9_3 : j_code jP 299 3 = some (.arraylength) := rfl
set_option maxRecDepth 100000 in
theorem fi9_4 : j_code jP 299 4 = some (.istore_n 3) := rfl
set_option maxRecDepth 100000 in
theorem fi9_5 : j_code jP 299 5 = some (.iload_n 2) := rfl
set_option maxRecDepth 100000 in
theorem fi9_6 : j_code jP 299 6 = some (.iload_n 3) := rfl
set_option maxRecDepth 100000 in
theorem fi9_7 : j_code jP 299 7 = some (.if_icmp .ge 13) := rfl
set_option maxRecDepth 100000 in
theorem fi9_10 : j_code jP 299 10 = some (.aload_n 0) := rfl
set_option maxRecDepth 100000 in
theorem fi9_11 : j_code jP 299 11 = some (.iload_n 2) := rfl
set_option maxRecDepth 100000 in
theorem fi9_12 : j_code jP 299 12 = some (.iload_n 1) := rfl
set_option maxRecDepth 100000 in
theorem fi9_13 : j_code jP 299 13 = some (.iastore) := rfl
set_option maxRecDepth 100000 in
theorem fi9_14 : j_code jP 299 14 = some (.iinc 2 1) := rfl
set_option maxRecDepth 100000 in
theorem fi9_17 : j_code jP 299 17 = some (.goto (-12)) := rfl
set_option maxRecDepth 100000 in
theorem fi9_20 : j_code jP 299 20 = some (.return_) := rfl
theorem fi9_l {x : Int32} {a : Nat} {l0 : List Int32} {h0 : J_H} {k0 : jk_K} (hx : (jk_lk k0 a).isSome = true) : ∀ (f : Nat) (i : Int32) (l : List Int32) {d : Nat} {lv : J_L} {h : J_H}, lpN (nI l0.length) i = f → LK lv [(0, .ref a), (1, .int x), (2, .int i), (3, .int (nI l0.length))] → KN h (jk_st k0 a (.inr (.inl (0, l)))) h0 → j_V jP d 299 5 lv [] h (fun rv h' => rv = none ∧ KN h' (jk_st k0 a (.inr (.inl (0, fLl x f i l)))) h0) := by
  have hlk : ∀ c, jk_lk (jk_st k0 a c) a = some c := fun c => by
    rw [jk_lk_st]
    cases e : jk_lk k0 a with
    | none => rw [e] at hx; cases hx
    | some y => dsimp only; rw [if_pos rfl]
  have hst : ∀ c c', jk_st (jk_st k0 a c) a c' = jk_st k0 a c' := fun c c' => jk_st_st a c c' k0
  intro f
  induction f with
  | zero =>
    intro i l d lv h e L K
    refine j_V.ldL fi9_M fi9_5 rfl (i := 2) (kd := 0) (v := .int i) (pcJ := 6) rfl L rfl rfl rfl ?_
    refine j_V.ldL fi9_M fi9_6 rfl (i := 3) (kd := 0) (v := .int (nI l0.length)) (pcJ := 7) rfl L rfl rfl rfl ?_
    refine j_V.icmp fi9_M fi9_7 (t := 20) rfl (fun c => ?_) (fun c => ?_)
    · exact j_V.ret fi9_M fi9_20 rfl rfl ⟨rfl, K⟩
    · exact absurd (jd_gen c) (lpN_z e)
  | succ f ih =>
    intro i l d lv h e L K
    refine j_V.ldL fi9_M fi9_5 rfl (i := 2) (kd := 0) (v := .int i) (pcJ := 6) rfl L rfl rfl rfl ?_
    refine j_V.ldL fi9_M fi9_6 rfl (i := 3) (kd := 0) (v := .int (nI l0.length)) (pcJ := 7) rfl L rfl rfl rfl ?_
    refine j_V.icmp fi9_M fi9_7 (t := 20) rfl (fun c => ?_) (fun c => ?_)
    · exact absurd (lpN_s e) (jd_ge c)
    · refine j_V.ldL fi9_M fi9_10 rfl (i := 0) (kd := 2) (v := .ref a) (pcJ := 11) rfl L rfl rfl rfl ?_
      refine j_V.ldL fi9_M fi9_11 rfl (i := 2) (kd := 0) (v := .int i) (pcJ := 12) rfl L rfl rfl rfl ?_
      refine j_V.ldL fi9_M fi9_12 rfl (i := 1) (kd := 0) (v := .int x) (pcJ := 13) rfl L rfl rfl rfl ?_
      refine j_V.isA fi9_M fi9_13 (k' := jk_st k0 a (.inr (.inl (0, sA l i x)))) K (hlk _) (hst _ _) (fun h K => ?_)
      refine j_V.inL fi9_M fi9_14 (i := 2) (kl' := [(0, .ref a), (1, .int x), (2, .int (i + 1)), (3, .int (nI l0.length))]) (pcJ := 17) L rfl rfl rfl rfl (fun lv L => ?_)
      refine j_V.gto fi9_M fi9_17 (t := 5) rfl ?_
      exact ih (i + 1) (sA l i x) (lpN_n e) L K
theorem fi9_ok {x : Int32} {a : Nat} {l : List Int32} {d : Nat} {h h0 : J_H} {k k' : jk_K} (K : KN h k h0) (ha : jk_lk k a = some (.inr (.inl (0, l)))) (hk : jk_st k a (.inr (.inl (0, fL x l))) = k') : j_V jP d 299 0 (lv_args 0 [.ref a, .int x]) [] h (fun rv h' => rv = none ∧ KN h' k' h0) := by
  subst hk
  have hself : jk_st k a (.inr (.inl (0, l))) = k := by
    clear K
    induction k with
    | nil => rfl
    | cons q k ih =>
      unfold jk_st
      unfold jk_lk at ha
      cases e : Nat.beq q.1 a with
      | true =>
        rw [e] at ha
        dsimp only at ha ⊢
        rw [← Option.some.inj ha]
      | false =>
        rw [e] at ha
        dsimp only at ha ⊢
        rw [ih ha]
  show j_V jP d 299 0 [(0, .ref a), (1, .int x)] [] h _
  obtain ⟨lv, elv, L⟩ : ∃ lv, lv = [(0, .ref a), (1, .int x)] ∧ LK lv [(0, .ref a), (1, .int x)] := ⟨_, rfl, LK.rf⟩
  rw [← elv]
  clear elv
  refine j_V.one fi9_M fi9_0 (by decide) (pcJ := 1) (stJ := [.int 0]) rfl ?_
  refine j_V.stL fi9_M fi9_1 rfl (i := 2) (kd := 0) (kl' := [(0, .ref a), (1, .int x), (2, .int 0)]) (pcJ := 2) rfl L rfl (by decide) rfl rfl rfl (fun lv L => ?_)
  refine j_V.ldL fi9_M fi9_2 rfl (i := 0) (kd := 2) (v := .ref a) (pcJ := 3) rfl L rfl rfl rfl ?_
  refine j_V.alnA fi9_M fi9_3 K ha ?_
  refine j_V.stL fi9_M fi9_4 rfl (i := 3) (kd := 0) (kl' := [(0, .ref a), (1, .int x), (2, .int 0), (3, .int (nI l.length))]) (pcJ := 5) rfl L rfl (by decide) rfl rfl rfl (fun lv L => ?_)
  rw [← hself] at K
  exact fi9_l (by rw [ha]; rfl) _ 0 l rfl L K
/-- a call that fills -/
theorem j_V.fil {P : j_P} {d mi pc : Nat} {lv : J_L} {st : List Value} {h h0 : J_H} {k k' : jk_K} {Q : Option Value → J_H → Prop} {M : j_M} {ins : Instr} {a : Nat} {x : Int32} {l : List Int32} (hP : P = jP) (hM : j_meth P mi = some M) (hc : j_code P mi pc = some ins) (hk : j_kd ins = 10) (hi : j_inv P mi ins = some (2, 299)) (hs : (st.map fun v => v.category).sum ≤ 8) (K : KN h k h0) (ha : jk_lk k a = some (.inr (.inl (0, l)))) (hk' : jk_st k a (.inr (.inl (0, fL x l))) = k') (kk : ∀ h', KN h' k' h0 → j_V P d mi (pc + 3) lv st h' Q) : j_V P d mi pc lv (.int x :: .ref a :: st) h Q := by
  subst hP
  refine j_V.cl hM hc hk hi (by decide) fi9_M (As := [.ref a, .int x]) (rest := st) ?_ (fun d => fi9_ok K ha hk') ?_
  · exact jk_spl2 rfl rfl hs (Nat.le_of_ble_eq_true rfl)
  · rintro r h' ⟨rfl, K'⟩
    exact kk h' K'

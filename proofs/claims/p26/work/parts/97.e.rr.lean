/-! readRank: the rank is a permutation; written by wip/p3/gen_rr.py -/
set_option maxRecDepth 100000 in
theorem jrr_M : j_meth jP 199 = some (yX10_readRank, cX10_readRank, 5, none, 0, false, 10) := rfl
set_option maxRecDepth 100000 in
theorem jrr_0 : j_code jP 199 0 = some (.aload_n 0) := rfl
set_option maxRecDepth 100000 in
theorem jrr_1 : j_code jP 199 1 = some (.getfield 13) := rfl
set_option maxRecDepth 100000 in
theorem jrr_4 : j_code jP 199 4 = some (.sipush 203) := rfl
set_option maxRecDepth 100000 in
theorem jrr_7 : j_code jP 199 7 = some (.iaload) := rfl
set_option maxRecDepth 100000 in
theorem jrr_8 : j_code jP 199 8 = some (.istore_n 1) := rfl
set_option maxRecDepth 100000 in
theorem jrr_9 : j_code jP 199 9 = some (.iconst 0) := rfl
set_option maxRecDepth 100000 in
theorem jrr_10 : j_code jP 199 10 = some (.istore_n 2) := rfl
set_option maxRecDepth 100000 in
theorem jrr_11 : j_code jP 199 11 = some (.iload_n 2) := rfl
set_option maxRecDepth 100000 in
theorem jrr_12 : j_code jP 199 12 = some (.iload_n 1) := rfl
set_option maxRecDepth 100000 in
theorem jrr_13 : j_code jP 199 13 = some (.if_icmp .ge 99) := rfl
set_option maxRecDepth 100000 in
theorem jrr_16 : j_code jP 199 16 = some (.iconst 0) := rfl
set_option maxRecDepth 100000 in
theorem jrr_17 : j_code jP 199 17 = some (.istore_n 3) := rfl
set_option maxRecDepth 100000 in
theorem jrr_18 : j_code jP 199 18 = some (.iconst 0) := rfl
set_option maxRecDepth 100000 in
theorem jrr_19 : j_code jP 199 19 = some (.istore 4) := rfl
set_option maxRecDepth 100000 in
theorem jrr_21 : j_code jP 199 21 = some (.iload 4) := rfl
set_option maxRecDepth 100000 in
theorem jrr_23 : j_code jP 199 23 = some (.iload_n 1) := rfl
set_option maxRecDepth 100000 in
theorem jrr_24 : j_code jP 199 24 = some (.if_icmp .ge 71) := rfl
set_option maxRecDepth 100000 in
theorem jrr_27 : j_code jP 199 27 = some (.iload_n 3) := rfl
set_option maxRecDepth 100000 in
theorem jrr_28 : j_code jP 199 28 = some (.aload_n 0) := rfl
set_option maxRecDepth 100000 in
theorem jrr_29 : j_code jP 199 29 = some (.getfield 13) := rfl
set_option maxRecDepth 100000 in
theorem jrr_32 : j_code jP 199 32 = some (.iload 4) := rfl
set_option maxRecDepth 100000 in
theorem jrr_34 : j_code jP 199 34 = some (.iconst 5) := rfl
set_option maxRecDepth 100000 in
theorem jrr_35 : j_code jP 199 35 = some (.invokestatic 73) := rfl
set_option maxRecDepth 100000 in
theorem jrr_38 : j_code jP 199 38 = some (.iaload) := rfl
set_option maxRecDepth 100000 in
theorem jrr_39 : j_code jP 199 39 = some (.aload_n 0) := rfl
set_option maxRecDepth 100000 in
theorem jrr_40 : j_code jP 199 40 = some (.getfield 13) := rfl
set_option maxRecDepth 100000 in
theorem jrr_43 : j_code jP 199 43 = some (.iload_n 2) := rfl
set_option maxRecDepth 100000 in
theorem jrr_44 : j_code jP 199 44 = some (.iconst 5) := rfl
set_option maxRecDepth 100000 in
theorem jrr_45 : j_code jP 199 45 = some (.invokestatic 73) := rfl
set_option maxRecDepth 100000 in
theorem jrr_48 : j_code jP 199 48 = some (.iaload) := rfl
set_option maxRecDepth 100000 in
theorem jrr_49 : j_code jP 199 49 = some (.if_icmp .gt 33) := rfl
set_option maxRecDepth 100000 in
theorem jrr_52 : j_code jP 199 52 = some (.aload_n 0) := rfl
set_option maxRecDepth 100000 in
theorem jrr_53 : j_code jP 199 53 = some (.getfield 13) := rfl
set_option maxRecDepth 100000 in
theorem jrr_56 : j_code jP 199 56 = some (.iload 4) := rfl
set_option maxRecDepth 100000 in
theorem jrr_58 : j_code jP 199 58 = some (.iconst 5) := rfl
set_option maxRecDepth 100000 in
theorem jrr_59 : j_code jP 199 59 = some (.invokestatic 73) := rfl
set_option maxRecDepth 100000 in
theorem jrr_62 : j_code jP 199 62 = some (.iaload) := rfl
set_option maxRecDepth 100000 in
theorem jrr_63 : j_code jP 199 63 = some (.aload_n 0) := rfl
set_option maxRecDepth 100000 in
theorem jrr_64 : j_code jP 199 64 = some (.getfield 13) := rfl
set_option maxRecDepth 100000 in
theorem jrr_67 : j_code jP 199 67 = some (.iload_n 2) := rfl
set_option maxRecDepth 100000 in
theorem jrr_68 : j_code jP 199 68 = some (.iconst 5) := rfl
set_option maxRecDepth 100000 in
theorem jrr_69 : j_code jP 199 69 = some (.invokestatic 73) := rfl
set_option maxRecDepth 100000 in
theorem jrr_72 : j_code jP 199 72 = some (.iaload) := rfl
set_option maxRecDepth 100000 in
theorem jrr_73 : j_code jP 199 73 = some (.if_icmp .ne 13) := rfl
set_option maxRecDepth 100000 in
theorem jrr_76 : j_code jP 199 76 = some (.iload 4) := rfl
set_option maxRecDepth 100000 in
theorem jrr_78 : j_code jP 199 78 = some (.iload_n 2) := rfl
set_option maxRecDepth 100000 in
theorem jrr_79 : j_code jP 199 79 = some (.if_icmp .ge 7) := rfl
set_option maxRecDepth 100000 in
theorem jrr_82 : j_code jP 199 82 = some (.iconst 1) := rfl
set_option maxRecDepth 100000 in
theorem jrr_83 : j_code jP 199 83 = some (.goto 4) := rfl
set_option maxRecDepth 100000 in
theorem jrr_86 : j_code jP 199 86 = some (.iconst 0) := rfl
set_option maxRecDepth 100000 in
theorem jrr_87 : j_code jP 199 87 = some (.iadd) := rfl
set_option maxRecDepth 100000 in
theorem jrr_88 : j_code jP 199 88 = some (.istore_n 3) := rfl
set_option maxRecDepth 100000 in
theorem jrr_89 : j_code jP 199 89 = some (.iinc 4 1) := rfl
set_option maxRecDepth 100000 in
theorem jrr_92 : j_code jP 199 92 = some (.goto (-71)) := rfl
set_option maxRecDepth 100000 in
theorem jrr_95 : j_code jP 199 95 = some (.aload_n 0) := rfl
set_option maxRecDepth 100000 in
theorem jrr_96 : j_code jP 199 96 = some (.getfield 13) := rfl
set_option maxRecDepth 100000 in
theorem jrr_99 : j_code jP 199 99 = some (.sipush 196) := rfl
set_option maxRecDepth 100000 in
theorem jrr_102 : j_code jP 199 102 = some (.iload_n 3) := rfl
set_option maxRecDepth 100000 in
theorem jrr_103 : j_code jP 199 103 = some (.iadd) := rfl
set_option maxRecDepth 100000 in
theorem jrr_104 : j_code jP 199 104 = some (.iload_n 2) := rfl
set_option maxRecDepth 100000 in
theorem jrr_105 : j_code jP 199 105 = some (.iastore) := rfl
set_option maxRecDepth 100000 in
theorem jrr_106 : j_code jP 199 106 = some (.iinc 2 1) := rfl
set_option maxRecDepth 100000 in
theorem jrr_109 : j_code jP 199 109 = some (.goto (-98)) := rfl
set_option maxRecDepth 100000 in
theorem jrr_112 : j_code jP 199 112 = some (.return_) := rfl
set_option maxRecDepth 100000 in
theorem jat_M : j_meth jP 177 = some (yX10_at, cX10_at, 2, (some .int), 2, false, 10) := rfl
set_option maxRecDepth 100000 in
theorem jat_0 : j_code jP 177 0 = some (.bipush 56) := rfl
set_option maxRecDepth 100000 in
theorem jat_2 : j_code jP 177 2 = some (.bipush 28) := rfl
set_option maxRecDepth 100000 in
theorem jat_4 : j_code jP 177 4 = some (.iload_n 0) := rfl
set_option maxRecDepth 100000 in
theorem jat_5 : j_code jP 177 5 = some (.imul) := rfl
set_option maxRecDepth 100000 in
theorem jat_6 : j_code jP 177 6 = some (.iadd) := rfl
set_option maxRecDepth 100000 in
theorem jat_7 : j_code jP 177 7 = some (.iload_n 1) := rfl
set_option maxRecDepth 100000 in
theorem jat_8 : j_code jP 177 8 = some (.iadd) := rfl
set_option maxRecDepth 100000 in
theorem jat_9 : j_code jP 177 9 = some (.ireturn) := rfl
theorem j_spl2 {N : j_M} {h : J_H} {v w : Value} {rest : List Value} (hnp : j_np N = 2) (hr : (rest.map fun v => v.category).sum ≤ 8) (hl : (lg_sl [w, v]).length ≤ j_nL N) : j_spl 2 N h (v :: w :: rest) = some ([w, v], rest) := by
  unfold j_spl
  rw [hnp]
  exact if_pos ⟨Nat.le_add_left _ _, hr, hl, rfl⟩
theorem jat_ok {d q : Nat} {h : J_H} : j_W jP d 177 0 (lv_args 0 [.int (nI q), .int 5]) [] h (fun r h' => r = some (.int (nI (61 + 28 * q))) ∧ h' = h) := by
  show j_W jP d 177 0 [(0, .int (nI q)), (1, .int 5)] [] h _
  refine j_W.one jat_M jat_0 (by decide) (pcJ := 2) (stJ := [.int 56]) rfl ?_
  refine j_W.one jat_M jat_2 (by decide) (pcJ := 4) (stJ := [.int 28, .int 56]) rfl ?_
  refine j_W.one jat_M jat_4 (by decide) (pcJ := 5) (stJ := [.int (nI q), .int 28, .int 56]) rfl ?_
  refine j_W.one jat_M jat_5 (by decide) (pcJ := 6) (stJ := [.int (nI (28 * q)), .int 56]) (by rw [← jk_mul 28 q]; rfl) ?_
  refine j_W.one jat_M jat_6 (by decide) (pcJ := 7) (stJ := [.int (nI (56 + 28 * q))]) (by rw [← jk_add 56 (28 * q)]; rfl) ?_
  refine j_W.one jat_M jat_7 (by decide) (pcJ := 8) (stJ := [.int 5, .int (nI (56 + 28 * q))]) rfl ?_
  refine j_W.one jat_M jat_8 (by decide) (pcJ := 9) (stJ := [.int (nI (61 + 28 * q))]) (by rw [show 61 + 28 * q = 56 + 28 * q + 5 by omega, ← jk_add (56 + 28 * q) 5]; rfl) ?_
  exact j_W.ret jat_M jat_9 rfl rfl ⟨rfl, rfl⟩
def rr_w (R : List Int32) (q : Nat) : Int32 := R.getD (61 + 28 * q) 0
/-- q comes ahead of t -/
def rr_p (R : List Int32) (q t : Nat) : Bool := decide ((rr_w R t).toInt < (rr_w R q).toInt) || (decide ((rr_w R q).toInt = (rr_w R t).toInt) && decide (q < t))
def rr_c (R : List Int32) (t : Nat) : Nat → Nat
  | 0 => 0
  | q + 1 => rr_c R t q + (if rr_p R q t then 1 else 0)
theorem rr_p_irr (R : List Int32) (t : Nat) : rr_p R t t = false := by
  unfold rr_p
  rw [decide_eq_false (Int.lt_irrefl _), decide_eq_false (Nat.lt_irrefl _), Bool.and_false]
  rfl
theorem rr_p_iff {R : List Int32} {q t : Nat} : rr_p R q t = true ↔ ((rr_w R t).toInt < (rr_w R q).toInt ∨ ((rr_w R q).toInt = (rr_w R t).toInt ∧ q < t)) := by
  unfold rr_p
  rw [Bool.or_eq_true, Bool.and_eq_true, decide_eq_true_iff, decide_eq_true_iff, decide_eq_true_iff]
theorem rr_p_tr {R : List Int32} {a b c : Nat} (h1 : rr_p R a b = true) (h2 : rr_p R b c = true) : rr_p R a c = true := by
  rw [rr_p_iff] at *
  omega
theorem rr_p_tot {R : List Int32} {a b : Nat} (h : a ≠ b) : rr_p R a b = true ∨ rr_p R b a = true := by
  rw [rr_p_iff, rr_p_iff]
  omega
theorem rr_c_le (R : List Int32) (t : Nat) : ∀ q, rr_c R t q ≤ q
  | 0 => Nat.le_refl _
  | q + 1 => by
    have := rr_c_le R t q
    unfold rr_c
    split <;> omega
theorem rr_c_lt (R : List Int32) (t : Nat) : ∀ q, t < q → rr_c R t q < q
  | 0, h => absurd h (Nat.not_lt_zero _)
  | q + 1, h => by
    unfold rr_c
    by_cases e : t = q
    · subst e
      rw [rr_p_irr]
      have := rr_c_le R t t
      simp
      omega
    · have := rr_c_lt R t q (by omega)
      split <;> omega
theorem rr_c_mono {R : List Int32} {t u : Nat} (hp : rr_p R t u = true) : ∀ q, rr_c R t q ≤ rr_c R u q ∧ (t < q → rr_c R t q < rr_c R u q)
  | 0 => ⟨Nat.le_refl _, fun h => absurd h (Nat.not_lt_zero _)⟩
  | q + 1 => by
    obtain ⟨h1, h2⟩ := rr_c_mono hp q
    have e1 : rr_c R t (q + 1) = rr_c R t q + (if rr_p R q t then 1 else 0) := rfl
    have e2 : rr_c R u (q + 1) = rr_c R u q + (if rr_p R q u then 1 else 0) := rfl
    rw [e1, e2]
    clear e1 e2
    by_cases e : t = q
    · subst e
      rw [rr_p_irr, hp, if_neg Bool.false_ne_true, if_pos rfl]
      omega
    · cases hq : rr_p R q t with
      | true =>
        rw [rr_p_tr hq hp, if_pos rfl]
        omega
      | false =>
        rw [if_neg Bool.false_ne_true]
        refine ⟨?_, fun h => ?_⟩
        · split <;> omega
        · have := h2 (by omega)
          split <;> omega
theorem rr_c_ne {R : List Int32} {n t u : Nat} (ht : t < n) (hu : u < n) (h : t ≠ u) : rr_c R t n ≠ rr_c R u n := by
  rcases rr_p_tot (R := R) h with z | z
  · have := (rr_c_mono z n).2 ht
    omega
  · have := (rr_c_mono z n).2 hu
    omega
theorem rr_c_set {R : List Int32} {a : Nat} {v : Int32} (ha : 196 ≤ a) {t : Nat} (ht : t < 5) : ∀ q, q ≤ 5 → rr_c (R.set a v) t q = rr_c R t q
  | 0, _ => rfl
  | q + 1, h => by
    have hw : ∀ q, q < 5 → rr_w (R.set a v) q = rr_w R q := fun q hq => by
      unfold rr_w
      simp only [List.getD]
      rw [List.getElem?_set_ne (by omega)]
    unfold rr_c rr_p
    rw [rr_c_set ha ht q (by omega), hw q (by omega), hw t ht]
/-- the ranks put, from t on -/
def rr_f (n : Nat) : Nat → Nat → List Int32 → List Int32
  | 0, _, R => R
  | m + 1, t, R => rr_f n m (t + 1) (R.set (196 + rr_c R t n) (nI t))
theorem rr_f_len (n : Nat) : ∀ (m t : Nat) (R : List Int32), (rr_f n m t R).length = R.length
  | 0, _, _ => rfl
  | m + 1, t, R => by
    show (rr_f n m (t + 1) _).length = _
    rw [rr_f_len n m, List.length_set]
theorem rr_f_no {n : Nat} (hn : n ≤ 5) {i : Nat} : ∀ (m t : Nat) (R : List Int32), t + m = n → (∀ u, t ≤ u → u < n → 196 + rr_c R u n ≠ i) → (rr_f n m t R)[i]? = R[i]?
  | 0, _, _, _, _ => rfl
  | m + 1, t, R, h, hu => by
    show (rr_f n m (t + 1) _)[i]? = _
    rw [rr_f_no hn m (t + 1) _ (by omega) (fun u h1 h2 => by rw [rr_c_set (by omega) (by omega) n hn]; exact hu u (by omega) h2), List.getElem?_set_ne (hu t (by omega) (by omega))]
theorem rr_f_at {n : Nat} (hn : n ≤ 5) {u : Nat} (hu : u < n) : ∀ (m t : Nat) (R : List Int32), t + m = n → t ≤ u → R.length = 602 → (rr_f n m t R)[196 + rr_c R u n]? = some (nI u)
  | 0, t, _, h1, h2, _ => absurd hu (by omega)
  | m + 1, t, R, h1, h2, h3 => by
    show (rr_f n m (t + 1) _)[196 + rr_c R u n]? = _
    by_cases e : t = u
    · subst e
      rw [rr_f_no hn m (t + 1) _ (by omega) (fun v z1 z2 => by
        rw [rr_c_set (by omega) (by omega) n hn]
        have := rr_c_ne (R := R) z2 hu (show v ≠ t by omega)
        omega), List.getElem?_set_self (by have := rr_c_lt R t n hu; omega)]
    · have := rr_f_at hn hu m (t + 1) (R.set (196 + rr_c R t n) (nI t)) (by omega) (by omega) (by rw [List.length_set]; exact h3)
      rw [rr_c_set (by omega) (by omega) n hn] at this
      exact this
theorem rr_f_eq {n : Nat} (hn : n ≤ 5) {i : Nat} (hi : i < 196 ∨ 196 + n ≤ i) (R : List Int32) : ∀ (m t : Nat), t + m = n → (rr_f n m t R)[i]? = R[i]? := fun m t h => rr_f_no hn m t R h (fun u _ h2 => by have := rr_c_lt R u n h2; omega)
theorem jrr_in {d n t : Nat} {fs : List Value} {R : List Int32} {h : J_H} {Q : Option Value → J_H → Prop} (hn : n ≤ 5) (ht : t < n) (hr : fs[2]? = some (.ref 361)) (h1 : h[359]? = some (.inl (10, fs))) (h2 : h[361]? = some (.inr (.inl (0, R)))) (hR : R.length = 602) (hc : j_W jP (d + 1) 199 95 [(4, .int (nI n)), (3, .int (nI (rr_c R t n))), (2, .int (nI t)), (1, .int (nI n)), (0, .ref 359)] [] h Q) : ∀ m q : Nat, q + m = n → j_W jP (d + 1) 199 21 [(4, .int (nI q)), (3, .int (nI (rr_c R t q))), (2, .int (nI t)), (1, .int (nI n)), (0, .ref 359)] [] h Q := by
  intro m
  induction m with
  | zero =>
    intro q hq
    have hq : q = n := by omega
    subst hq
    refine j_W.one jrr_M jrr_21 (by decide) (pcJ := 23) (stJ := [.int (nI q)]) rfl ?_
    refine j_W.one jrr_M jrr_23 (by decide) (pcJ := 24) (stJ := [.int (nI q), .int (nI q)]) rfl ?_
    refine j_W.icmp jrr_M jrr_24 (t := 95) rfl (fun c => hc) (fun c => ?_)
    exact absurd (decide_eq_false_iff_not.mp c) (fun z => z (Int32.le_refl _))
  | succ m ih =>
    intro q hq
    refine j_W.one jrr_M jrr_21 (by decide) (pcJ := 23) (stJ := [.int (nI q)]) rfl ?_
    refine j_W.one jrr_M jrr_23 (by decide) (pcJ := 24) (stJ := [.int (nI n), .int (nI q)]) rfl ?_
    refine j_W.icmp jrr_M jrr_24 (t := 95) rfl (fun c => absurd (of_decide_eq_true c) (nI_ge (by omega) (by omega))) (fun c => ?_)
    clear c
    have k87 : ∀ b : Nat, b = (if rr_p R q t then 1 else 0) → j_W jP (d + 1) 199 87 [(4, .int (nI q)), (3, .int (nI (rr_c R t q))), (2, .int (nI t)), (1, .int (nI n)), (0, .ref 359)] [.int (nI b), .int (nI (rr_c R t q))] h Q := by
      intro b hb
      have hb2 : rr_c R t (q + 1) = rr_c R t q + b := by rw [hb]; rfl
      refine j_W.one jrr_M jrr_87 (by decide) (pcJ := 88) (stJ := [.int (nI (rr_c R t (q + 1)))]) (by rw [hb2, ← jk_add]; rfl) ?_
      refine j_W.one jrr_M jrr_88 (by decide) (pcJ := 89) (lv' := [(3, .int (nI (rr_c R t (q + 1)))), (4, .int (nI q)), (2, .int (nI t)), (1, .int (nI n)), (0, .ref 359)]) (stJ := []) rfl ?_
      refine j_W.one jrr_M jrr_89 (by decide) (pcJ := 92) (lv' := [(4, .int (nI (q + 1))), (3, .int (nI (rr_c R t (q + 1)))), (2, .int (nI t)), (1, .int (nI n)), (0, .ref 359)]) (stJ := []) (by rw [nI_succ]; rfl) ?_
      refine j_W.gto jrr_M jrr_92 (t := 21) rfl ?_
      exact ih (q + 1) (by omega)
    have k82 : rr_p R q t = true → j_W jP (d + 1) 199 82 [(4, .int (nI q)), (3, .int (nI (rr_c R t q))), (2, .int (nI t)), (1, .int (nI n)), (0, .ref 359)] [.int (nI (rr_c R t q))] h Q := by
      intro hp
      refine j_W.one jrr_M jrr_82 (by decide) (pcJ := 83) (stJ := [.int 1, .int (nI (rr_c R t q))]) rfl ?_
      refine j_W.gto jrr_M jrr_83 (t := 87) rfl ?_
      exact k87 1 (by rw [hp]; rfl)
    have k86 : rr_p R q t = false → j_W jP (d + 1) 199 86 [(4, .int (nI q)), (3, .int (nI (rr_c R t q))), (2, .int (nI t)), (1, .int (nI n)), (0, .ref 359)] [.int (nI (rr_c R t q))] h Q := by
      intro hp
      refine j_W.one jrr_M jrr_86 (by decide) (pcJ := 87) (stJ := [.int 0, .int (nI (rr_c R t q))]) rfl ?_
      exact k87 0 (by rw [hp]; rfl)
    refine j_W.one jrr_M jrr_27 (by decide) (pcJ := 28) (stJ := [.int (nI (rr_c R t q))]) rfl ?_
    refine j_W.one jrr_M jrr_28 (by decide) (pcJ := 29) (stJ := [.ref 359, .int (nI (rr_c R t q))]) rfl ?_
    refine j_W.get jrr_M jrr_29 (ci := 10) (j := 2) rfl h1 hr ?_
    refine j_W.one jrr_M jrr_32 (by decide) (pcJ := 34) (stJ := [.int (nI q), .ref 361, .int (nI (rr_c R t q))]) rfl ?_
    refine j_W.one jrr_M jrr_34 (by decide) (pcJ := 35) (stJ := [.int 5, .int (nI q), .ref 361, .int (nI (rr_c R t q))]) rfl ?_
    refine j_W.call jrr_M jrr_35 rfl (md := 2) (mj := 177) rfl (by decide) jat_M (j_spl2 rfl (Nat.le_of_ble_eq_true rfl) (Nat.le_of_ble_eq_true rfl)) jat_ok ?_
    rintro _ _ ⟨rfl, rfl⟩
    show j_W jP (d + 1) 199 38 [(4, .int (nI q)), (3, .int (nI (rr_c R t q))), (2, .int (nI t)), (1, .int (nI n)), (0, .ref 359)] [.int (nI (61 + 28 * q)), .ref 361, .int (nI (rr_c R t q))] _ _
    refine j_W.iald jrr_M jrr_38 (v := rr_w R q) h2 (by rw [hR]; exact jk_ix (by omega) (by omega)) (by rw [nI_clamp (by omega)]; rfl) ?_
    refine j_W.one jrr_M jrr_39 (by decide) (pcJ := 40) (stJ := [.ref 359, .int (rr_w R q), .int (nI (rr_c R t q))]) rfl ?_
    refine j_W.get jrr_M jrr_40 (ci := 10) (j := 2) rfl h1 hr ?_
    refine j_W.one jrr_M jrr_43 (by decide) (pcJ := 44) (stJ := [.int (nI t), .ref 361, .int (rr_w R q), .int (nI (rr_c R t q))]) rfl ?_
    refine j_W.one jrr_M jrr_44 (by decide) (pcJ := 45) (stJ := [.int 5, .int (nI t), .ref 361, .int (rr_w R q), .int (nI (rr_c R t q))]) rfl ?_
    refine j_W.call jrr_M jrr_45 rfl (md := 2) (mj := 177) rfl (by decide) jat_M (j_spl2 rfl (Nat.le_of_ble_eq_true rfl) (Nat.le_of_ble_eq_true rfl)) jat_ok ?_
    rintro _ _ ⟨rfl, rfl⟩
    show j_W jP (d + 1) 199 48 [(4, .int (nI q)), (3, .int (nI (rr_c R t q))), (2, .int (nI t)), (1, .int (nI n)), (0, .ref 359)] [.int (nI (61 + 28 * t)), .ref 361, .int (rr_w R q), .int (nI (rr_c R t q))] _ _
    refine j_W.iald jrr_M jrr_48 (v := rr_w R t) h2 (by rw [hR]; exact jk_ix (by omega) (by omega)) (by rw [nI_clamp (by omega)]; rfl) ?_
    refine j_W.icmp jrr_M jrr_49 (t := 82) rfl (fun c => k82 ?_) (fun c => ?_)
    · exact rr_p_iff.mpr (Or.inl (Int32.lt_iff_toInt_lt.mp (of_decide_eq_true c)))
    have n1 : ¬ (rr_w R t).toInt < (rr_w R q).toInt := fun z => (of_decide_eq_false c) (Int32.lt_iff_toInt_lt.mpr z)
    clear c
    refine j_W.one jrr_M jrr_52 (by decide) (pcJ := 53) (stJ := [.ref 359, .int (nI (rr_c R t q))]) rfl ?_
    refine j_W.get jrr_M jrr_53 (ci := 10) (j := 2) rfl h1 hr ?_
    refine j_W.one jrr_M jrr_56 (by decide) (pcJ := 58) (stJ := [.int (nI q), .ref 361, .int (nI (rr_c R t q))]) rfl ?_
    refine j_W.one jrr_M jrr_58 (by decide) (pcJ := 59) (stJ := [.int 5, .int (nI q), .ref 361, .int (nI (rr_c R t q))]) rfl ?_
    refine j_W.call jrr_M jrr_59 rfl (md := 2) (mj := 177) rfl (by decide) jat_M (j_spl2 rfl (Nat.le_of_ble_eq_true rfl) (Nat.le_of_ble_eq_true rfl)) jat_ok ?_
    rintro _ _ ⟨rfl, rfl⟩
    show j_W jP (d + 1) 199 62 [(4, .int (nI q)), (3, .int (nI (rr_c R t q))), (2, .int (nI t)), (1, .int (nI n)), (0, .ref 359)] [.int (nI (61 + 28 * q)), .ref 361, .int (nI (rr_c R t q))] _ _
    refine j_W.iald jrr_M jrr_62 (v := rr_w R q) h2 (by rw [hR]; exact jk_ix (by omega) (by omega)) (by rw [nI_clamp (by omega)]; rfl) ?_
    refine j_W.one jrr_M jrr_63 (by decide) (pcJ := 64) (stJ := [.ref 359, .int (rr_w R q), .int (nI (rr_c R t q))]) rfl ?_
    refine j_W.get jrr_M jrr_64 (ci := 10) (j := 2) rfl h1 hr ?_
    refine j_W.one jrr_M jrr_67 (by decide) (pcJ := 68) (stJ := [.int (nI t), .ref 361, .int (rr_w R q), .int (nI (rr_c R t q))]) rfl ?_
    refine j_W.one jrr_M jrr_68 (by decide) (pcJ := 69) (stJ := [.int 5, .int (nI t), .ref 361, .int (rr_w R q), .int (nI (rr_c R t q))]) rfl ?_
    refine j_W.call jrr_M jrr_69 rfl (md := 2) (mj := 177) rfl (by decide) jat_M (j_spl2 rfl (Nat.le_of_ble_eq_true rfl) (Nat.le_of_ble_eq_true rfl)) jat_ok ?_
    rintro _ _ ⟨rfl, rfl⟩
    show j_W jP (d + 1) 199 72 [(4, .int (nI q)), (3, .int (nI (rr_c R t q))), (2, .int (nI t)), (1, .int (nI n)), (0, .ref 359)] [.int (nI (61 + 28 * t)), .ref 361, .int (rr_w R q), .int (nI (rr_c R t q))] _ _
    refine j_W.iald jrr_M jrr_72 (v := rr_w R t) h2 (by rw [hR]; exact jk_ix (by omega) (by omega)) (by rw [nI_clamp (by omega)]; rfl) ?_
    refine j_W.icmp jrr_M jrr_73 (t := 86) rfl (fun c => k86 ?_) (fun c => ?_)
    · cases hp : rr_p R q t with
      | false => rfl
      | true =>
        rcases rr_p_iff.mp hp with z | z
        · exact absurd z n1
        · have c : (!decide (rr_w R q = rr_w R t)) = true := c
          rw [show rr_w R q = rr_w R t from Int32.toInt_inj.mp z.1] at c
          simp at c
    have n2 : rr_w R q = rr_w R t := by
      have c : (!decide (rr_w R q = rr_w R t)) = false := c
      simpa using c
    clear c
    refine j_W.one jrr_M jrr_76 (by decide) (pcJ := 78) (stJ := [.int (nI q), .int (nI (rr_c R t q))]) rfl ?_
    refine j_W.one jrr_M jrr_78 (by decide) (pcJ := 79) (stJ := [.int (nI t), .int (nI q), .int (nI (rr_c R t q))]) rfl ?_
    refine j_W.icmp jrr_M jrr_79 (t := 86) rfl (fun c => k86 ?_) (fun c => ?_)
    · have z : t ≤ q := by
        refine Nat.le_of_not_lt (fun z => ?_)
        exact nI_ge z (by omega) (of_decide_eq_true c)
      cases hp : rr_p R q t with
      | false => rfl
      | true =>
        rcases rr_p_iff.mp hp with z2 | z2
        · exact absurd z2 n1
        · omega
    · have z : q < t := by
        refine Nat.lt_of_not_le (fun z => ?_)
        exact (of_decide_eq_false c) (nI_le z (by omega))
      exact k82 (rr_p_iff.mpr (Or.inr ⟨by rw [n2], z⟩))
theorem jrr_out {d n : Nat} {fs : List Value} {Q : Option Value → J_H → Prop} (hn : n ≤ 5) (hr : fs[2]? = some (.ref 361)) : ∀ (m t : Nat) (h : J_H) (R : List Int32) (L : J_L), t + m = n → h[359]? = some (.inl (10, fs)) → h[361]? = some (.inr (.inl (0, R))) → R.length = 602 → (L = [] ∨ ∃ a b, L = [(4, .int a), (3, .int b)]) → (∀ h', h' = h.set 361 (.inr (.inl (0, rr_f n m t R))) → Q none h') → j_W jP (d + 1) 199 11 ((2, .int (nI t)) :: (L ++ [(1, .int (nI n)), (0, .ref 359)])) [] h Q := by
  intro m
  induction m with
  | zero =>
    intro t h R L hq h1 h2 hR hL hc
    have hq : t = n := by omega
    subst hq
    have hQ : Q none h := hc h (by
      obtain ⟨hlt, e⟩ := List.getElem?_eq_some_iff.mp h2
      have e9 := List.set_getElem_self hlt
      rw [e] at e9
      exact e9.symm)
    rcases hL with rfl | ⟨a, b, rfl⟩
    · show j_W jP (d + 1) 199 11 [(2, .int (nI t)), (1, .int (nI t)), (0, .ref 359)] [] h Q
      refine j_W.one jrr_M jrr_11 (by decide) (pcJ := 12) (stJ := [.int (nI t)]) rfl ?_
      refine j_W.one jrr_M jrr_12 (by decide) (pcJ := 13) (stJ := [.int (nI t), .int (nI t)]) rfl ?_
      refine j_W.icmp jrr_M jrr_13 (t := 112) rfl (fun c => ?_) (fun c => ?_)
      · exact j_W.ret jrr_M jrr_112 rfl rfl hQ
      · exact absurd (decide_eq_false_iff_not.mp c) (fun z => z (Int32.le_refl _))
    · show j_W jP (d + 1) 199 11 [(2, .int (nI t)), (4, .int a), (3, .int b), (1, .int (nI t)), (0, .ref 359)] [] h Q
      refine j_W.one jrr_M jrr_11 (by decide) (pcJ := 12) (stJ := [.int (nI t)]) rfl ?_
      refine j_W.one jrr_M jrr_12 (by decide) (pcJ := 13) (stJ := [.int (nI t), .int (nI t)]) rfl ?_
      refine j_W.icmp jrr_M jrr_13 (t := 112) rfl (fun c => ?_) (fun c => ?_)
      · exact j_W.ret jrr_M jrr_112 rfl rfl hQ
      · exact absurd (decide_eq_false_iff_not.mp c) (fun z => z (Int32.le_refl _))
  | succ m ih =>
    intro t h R L hq h1 h2 hR hL hc
    have hlt := (List.getElem?_eq_some_iff.mp h2).1
    have k95 : j_W jP (d + 1) 199 95 [(4, .int (nI n)), (3, .int (nI (rr_c R t n))), (2, .int (nI t)), (1, .int (nI n)), (0, .ref 359)] [] h Q := by
      have hcl := rr_c_lt R t n (by omega)
      refine j_W.one jrr_M jrr_95 (by decide) (pcJ := 96) (stJ := [.ref 359]) rfl ?_
      refine j_W.get jrr_M jrr_96 (ci := 10) (j := 2) rfl h1 hr ?_
      refine j_W.one jrr_M jrr_99 (by decide) (pcJ := 102) (stJ := [.int 196, .ref 361]) rfl ?_
      refine j_W.one jrr_M jrr_102 (by decide) (pcJ := 103) (stJ := [.int (nI (rr_c R t n)), .int 196, .ref 361]) rfl ?_
      refine j_W.one jrr_M jrr_103 (by decide) (pcJ := 104) (stJ := [.int (nI (196 + rr_c R t n)), .ref 361]) (by rw [← jk_add]; rfl) ?_
      refine j_W.one jrr_M jrr_104 (by decide) (pcJ := 105) (stJ := [.int (nI t), .int (nI (196 + rr_c R t n)), .ref 361]) rfl ?_
      refine j_W.iast jrr_M jrr_105 (l := R) h2 (by rw [hR]; exact jk_ix (by omega) (by omega)) ?_
      rw [nI_clamp (by omega)]
      refine j_W.one jrr_M jrr_106 (by decide) (pcJ := 109) (lv' := [(2, .int (nI (t + 1))), (4, .int (nI n)), (3, .int (nI (rr_c R t n))), (1, .int (nI n)), (0, .ref 359)]) (stJ := []) (by rw [nI_succ]; rfl) ?_
      refine j_W.gto jrr_M jrr_109 (t := 11) rfl ?_
      refine ih (t + 1) _ (R.set (196 + rr_c R t n) (nI t)) [(4, .int (nI n)), (3, .int (nI (rr_c R t n)))] (by omega) (by rw [List.getElem?_set_ne (by decide)]; exact h1) (jk_at h2) (by rw [List.length_set]; exact hR) (Or.inr ⟨_, _, rfl⟩) (fun h' e => hc h' ?_)
      rw [e, List.set_set]
      rfl
    have k21 := jrr_in (d := d) hn (show t < n by omega) hr h1 h2 hR k95 n 0 (by omega)
    rcases hL with rfl | ⟨a, b, rfl⟩
    · show j_W jP (d + 1) 199 11 [(2, .int (nI t)), (1, .int (nI n)), (0, .ref 359)] [] h Q
      refine j_W.one jrr_M jrr_11 (by decide) (pcJ := 12) (stJ := [.int (nI t)]) rfl ?_
      refine j_W.one jrr_M jrr_12 (by decide) (pcJ := 13) (stJ := [.int (nI n), .int (nI t)]) rfl ?_
      refine j_W.icmp jrr_M jrr_13 (t := 112) rfl (fun c => absurd (of_decide_eq_true c) (nI_ge (by omega) (by omega))) (fun c => ?_)
      refine j_W.one jrr_M jrr_16 (by decide) (pcJ := 17) (stJ := [.int 0]) rfl ?_
      refine j_W.one jrr_M jrr_17 (by decide) (pcJ := 18) (lv' := [(3, .int 0), (2, .int (nI t)), (1, .int (nI n)), (0, .ref 359)]) (stJ := []) rfl ?_
      refine j_W.one jrr_M jrr_18 (by decide) (pcJ := 19) (stJ := [.int 0]) rfl ?_
      refine j_W.one jrr_M jrr_19 (by decide) (pcJ := 21) (lv' := [(4, .int 0), (3, .int 0), (2, .int (nI t)), (1, .int (nI n)), (0, .ref 359)]) (stJ := []) rfl ?_
      exact k21
    · show j_W jP (d + 1) 199 11 [(2, .int (nI t)), (4, .int a), (3, .int b), (1, .int (nI n)), (0, .ref 359)] [] h Q
      refine j_W.one jrr_M jrr_11 (by decide) (pcJ := 12) (stJ := [.int (nI t)]) rfl ?_
      refine j_W.one jrr_M jrr_12 (by decide) (pcJ := 13) (stJ := [.int (nI n), .int (nI t)]) rfl ?_
      refine j_W.icmp jrr_M jrr_13 (t := 112) rfl (fun c => absurd (of_decide_eq_true c) (nI_ge (by omega) (by omega))) (fun c => ?_)
      refine j_W.one jrr_M jrr_16 (by decide) (pcJ := 17) (stJ := [.int 0]) rfl ?_
      refine j_W.one jrr_M jrr_17 (by decide) (pcJ := 18) (lv' := [(3, .int 0), (2, .int (nI t)), (4, .int a), (1, .int (nI n)), (0, .ref 359)]) (stJ := []) rfl ?_
      refine j_W.one jrr_M jrr_18 (by decide) (pcJ := 19) (stJ := [.int 0]) rfl ?_
      refine j_W.one jrr_M jrr_19 (by decide) (pcJ := 21) (lv' := [(4, .int 0), (3, .int 0), (2, .int (nI t)), (1, .int (nI n)), (0, .ref 359)]) (stJ := []) rfl ?_
      exact k21
theorem jrr_ok {d n : Nat} {fs : List Value} {h : J_H} {R : List Int32} (hn : n ≤ 5) (hr : fs[2]? = some (.ref 361)) (h1 : h[359]? = some (.inl (10, fs))) (h2 : h[361]? = some (.inr (.inl (0, R)))) (hR : R.length = 602) (h203 : R.getD 203 0 = nI n) : j_W jP (d + 1) 199 0 (lv_args 0 [.ref 359]) [] h (fun r h' => r = none ∧ h' = h.set 361 (.inr (.inl (0, rr_f n n 0 R)))) := by
  show j_W jP (d + 1) 199 0 [(0, .ref 359)] [] h _
  refine j_W.one jrr_M jrr_0 (by decide) (pcJ := 1) (stJ := [.ref 359]) rfl ?_
  refine j_W.get jrr_M jrr_1 (ci := 10) (j := 2) rfl h1 hr ?_
  refine j_W.one jrr_M jrr_4 (by decide) (pcJ := 7) (stJ := [.int 203, .ref 361]) rfl ?_
  refine j_W.iald jrr_M jrr_7 (v := nI n) h2 (by rw [hR]; decide) h203 ?_
  refine j_W.one jrr_M jrr_8 (by decide) (pcJ := 9) (lv' := [(1, .int (nI n)), (0, .ref 359)]) (stJ := []) rfl ?_
  refine j_W.one jrr_M jrr_9 (by decide) (pcJ := 10) (stJ := [.int 0]) rfl ?_
  refine j_W.one jrr_M jrr_10 (by decide) (pcJ := 11) (lv' := [(2, .int 0), (1, .int (nI n)), (0, .ref 359)]) (stJ := []) rfl ?_
  refine jrr_out hn hr n 0 h R [] (by omega) h1 h2 hR (Or.inl rfl) (fun h' e => ⟨rfl, e⟩)
/-- some row tells the ranks a -/
def rr_m (n : Nat) (a : List Nat) (row : List (Int × Int)) : Bool := Nat.beq row.length 6 && (decide (row.getD 0 (0, 0) = ((n : Int), (n : Int))) && ((List.range n).all (fun t => decide (row.getD (1 + a.getD t 0) (0, 0) = ((t : Int), (t : Int)))) && (List.range 5).all (fun i => Nat.ble (i + 1) n || decide (row.getD (1 + i) (0, 0) = (0, 4)))))
def rr_b (n : Nat) (a : List Nat) : Bool := (List.range n).all (fun i => (List.range n).any fun t => Nat.beq (a.getD t 0) i) && jxm_r5.any (rr_m n a)
theorem rr_0 : rr_b 0 [] = true := by decide +kernel
theorem rr_1 : rr_b 1 [0] = true := by decide +kernel
set_option maxRecDepth 1000000 in
theorem rr_2 : ∀ a0 a1 : Fin 2, (a1.val ≠ a0.val) → rr_b 2 [a0.val, a1.val] = true := by decide +kernel
set_option maxRecDepth 1000000 in
theorem rr_3 : ∀ a0 a1 a2 : Fin 3, (a1.val ≠ a0.val ∧ a2.val ≠ a0.val ∧ a2.val ≠ a1.val) → rr_b 3 [a0.val, a1.val, a2.val] = true := by decide +kernel
set_option maxRecDepth 1000000 in
theorem rr_4 : ∀ a0 a1 a2 a3 : Fin 4, (a1.val ≠ a0.val ∧ a2.val ≠ a0.val ∧ a2.val ≠ a1.val ∧ a3.val ≠ a0.val ∧ a3.val ≠ a1.val ∧ a3.val ≠ a2.val) → rr_b 4 [a0.val, a1.val, a2.val, a3.val] = true := by decide +kernel
set_option maxRecDepth 1000000 in
theorem rr_5 : ∀ a0 a1 a2 a3 a4 : Fin 5, (a1.val ≠ a0.val ∧ a2.val ≠ a0.val ∧ a2.val ≠ a1.val ∧ a3.val ≠ a0.val ∧ a3.val ≠ a1.val ∧ a3.val ≠ a2.val ∧ a4.val ≠ a0.val ∧ a4.val ≠ a1.val ∧ a4.val ≠ a2.val ∧ a4.val ≠ a3.val) → rr_b 5 [a0.val, a1.val, a2.val, a3.val, a4.val] = true := by decide +kernel
theorem rr_all {n : Nat} (hn : n ≤ 5) (a : Nat → Nat) (h1 : ∀ t, t < n → a t < n) (h2 : ∀ t u, t < n → u < n → t ≠ u → a t ≠ a u) : rr_b n ((List.range n).map a) = true := by
  match n, hn with
  | 0, _ => exact rr_0
  | 1, _ =>
    have e : a 0 = 0 := by have := h1 0 (by decide); omega
    show rr_b 1 [a 0] = true
    rw [e]
    exact rr_1
  | 2, _ =>
    exact rr_2 ⟨a 0, h1 0 (by decide)⟩ ⟨a 1, h1 1 (by decide)⟩ (h2 1 0 (by decide) (by decide) (by decide))
  | 3, _ =>
    exact rr_3 ⟨a 0, h1 0 (by decide)⟩ ⟨a 1, h1 1 (by decide)⟩ ⟨a 2, h1 2 (by decide)⟩ (by simp only []; exact ⟨h2 1 0 (by decide) (by decide) (by decide), h2 2 0 (by decide) (by decide) (by decide), h2 2 1 (by decide) (by decide) (by decide)⟩)
  | 4, _ =>
    exact rr_4 ⟨a 0, h1 0 (by decide)⟩ ⟨a 1, h1 1 (by decide)⟩ ⟨a 2, h1 2 (by decide)⟩ ⟨a 3, h1 3 (by decide)⟩ (by simp only []; exact ⟨h2 1 0 (by decide) (by decide) (by decide), h2 2 0 (by decide) (by decide) (by decide), h2 2 1 (by decide) (by decide) (by decide), h2 3 0 (by decide) (by decide) (by decide), h2 3 1 (by decide) (by decide) (by decide), h2 3 2 (by decide) (by decide) (by decide)⟩)
  | 5, _ =>
    exact rr_5 ⟨a 0, h1 0 (by decide)⟩ ⟨a 1, h1 1 (by decide)⟩ ⟨a 2, h1 2 (by decide)⟩ ⟨a 3, h1 3 (by decide)⟩ ⟨a 4, h1 4 (by decide)⟩ (by simp only []; exact ⟨h2 1 0 (by decide) (by decide) (by decide), h2 2 0 (by decide) (by decide) (by decide), h2 2 1 (by decide) (by decide) (by decide), h2 3 0 (by decide) (by decide) (by decide), h2 3 1 (by decide) (by decide) (by decide), h2 3 2 (by decide) (by decide) (by decide), h2 4 0 (by decide) (by decide) (by decide), h2 4 1 (by decide) (by decide) (by decide), h2 4 2 (by decide) (by decide) (by decide), h2 4 3 (by decide) (by decide) (by decide)⟩)
  | k + 6, h => exact absurd h (by omega)

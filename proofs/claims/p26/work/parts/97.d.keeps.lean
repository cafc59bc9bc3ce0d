/-! keeps, undo: what they do to the rows; written by wip/p3/gen_keeps.py -/
set_option maxRecDepth 100000 in
theorem jKe_M : j_meth jP 281 = some (yX10_keeps, cX10_keeps, 2, none, 0, false, 10) := rfl
set_option maxRecDepth 100000 in
theorem jKe_0 : j_code jP 281 0 = some (.aload_n 0) := rfl
set_option maxRecDepth 100000 in
theorem jKe_1 : j_code jP 281 1 = some (.getfield 192) := rfl
set_option maxRecDepth 100000 in
theorem jKe_4 : j_code jP 281 4 = some (.bipush 10) := rfl
set_option maxRecDepth 100000 in
theorem jKe_6 : j_code jP 281 6 = some (.if_icmp .ne 46) := rfl
set_option maxRecDepth 100000 in
theorem jKe_9 : j_code jP 281 9 = some (.sipush 602) := rfl
set_option maxRecDepth 100000 in
theorem jKe_12 : j_code jP 281 12 = some (.istore_n 1) := rfl
set_option maxRecDepth 100000 in
theorem jKe_13 : j_code jP 281 13 = some (.iload_n 1) := rfl
set_option maxRecDepth 100000 in
theorem jKe_14 : j_code jP 281 14 = some (.sipush 6020) := rfl
set_option maxRecDepth 100000 in
theorem jKe_17 : j_code jP 281 17 = some (.if_icmp .ge 25) := rfl
set_option maxRecDepth 100000 in
theorem jKe_20 : j_code jP 281 20 = some (.aload_n 0) := rfl
set_option maxRecDepth 100000 in
theorem jKe_21 : j_code jP 281 21 = some (.getfield 22) := rfl
set_option maxRecDepth 100000 in
theorem jKe_24 : j_code jP 281 24 = some (.iload_n 1) := rfl
set_option maxRecDepth 100000 in
theorem jKe_25 : j_code jP 281 25 = some (.sipush 602) := rfl
set_option maxRecDepth 100000 in
theorem jKe_28 : j_code jP 281 28 = some (.isub) := rfl
set_option maxRecDepth 100000 in
theorem jKe_29 : j_code jP 281 29 = some (.aload_n 0) := rfl
set_option maxRecDepth 100000 in
theorem jKe_30 : j_code jP 281 30 = some (.getfield 22) := rfl
set_option maxRecDepth 100000 in
theorem jKe_33 : j_code jP 281 33 = some (.iload_n 1) := rfl
set_option maxRecDepth 100000 in
theorem jKe_34 : j_code jP 281 34 = some (.iaload) := rfl
set_option maxRecDepth 100000 in
theorem jKe_35 : j_code jP 281 35 = some (.iastore) := rfl
set_option maxRecDepth 100000 in
theorem jKe_36 : j_code jP 281 36 = some (.iinc 1 1) := rfl
set_option maxRecDepth 100000 in
theorem jKe_39 : j_code jP 281 39 = some (.goto (-26)) := rfl
set_option maxRecDepth 100000 in
theorem jKe_42 : j_code jP 281 42 = some (.aload_n 0) := rfl
set_option maxRecDepth 100000 in
theorem jKe_43 : j_code jP 281 43 = some (.dup) := rfl
set_option maxRecDepth 100000 in
theorem jKe_44 : j_code jP 281 44 = some (.getfield 192) := rfl
set_option maxRecDepth 100000 in
theorem jKe_47 : j_code jP 281 47 = some (.iconst 1) := rfl
set_option maxRecDepth 100000 in
theorem jKe_48 : j_code jP 281 48 = some (.isub) := rfl
set_option maxRecDepth 100000 in
theorem jKe_49 : j_code jP 281 49 = some (.putfield 192) := rfl
set_option maxRecDepth 100000 in
theorem jKe_52 : j_code jP 281 52 = some (.iconst 0) := rfl
set_option maxRecDepth 100000 in
theorem jKe_53 : j_code jP 281 53 = some (.istore_n 1) := rfl
set_option maxRecDepth 100000 in
theorem jKe_54 : j_code jP 281 54 = some (.iload_n 1) := rfl
set_option maxRecDepth 100000 in
theorem jKe_55 : j_code jP 281 55 = some (.sipush 602) := rfl
set_option maxRecDepth 100000 in
theorem jKe_58 : j_code jP 281 58 = some (.if_icmp .ge 30) := rfl
set_option maxRecDepth 100000 in
theorem jKe_61 : j_code jP 281 61 = some (.aload_n 0) := rfl
set_option maxRecDepth 100000 in
theorem jKe_62 : j_code jP 281 62 = some (.getfield 22) := rfl
set_option maxRecDepth 100000 in
theorem jKe_65 : j_code jP 281 65 = some (.sipush 602) := rfl
set_option maxRecDepth 100000 in
theorem jKe_68 : j_code jP 281 68 = some (.aload_n 0) := rfl
set_option maxRecDepth 100000 in
theorem jKe_69 : j_code jP 281 69 = some (.getfield 192) := rfl
set_option maxRecDepth 100000 in
theorem jKe_72 : j_code jP 281 72 = some (.imul) := rfl
set_option maxRecDepth 100000 in
theorem jKe_73 : j_code jP 281 73 = some (.iload_n 1) := rfl
set_option maxRecDepth 100000 in
theorem jKe_74 : j_code jP 281 74 = some (.iadd) := rfl
set_option maxRecDepth 100000 in
theorem jKe_75 : j_code jP 281 75 = some (.aload_n 0) := rfl
set_option maxRecDepth 100000 in
theorem jKe_76 : j_code jP 281 76 = some (.getfield 7) := rfl
set_option maxRecDepth 100000 in
theorem jKe_79 : j_code jP 281 79 = some (.iload_n 1) := rfl
set_option maxRecDepth 100000 in
theorem jKe_80 : j_code jP 281 80 = some (.iaload) := rfl
set_option maxRecDepth 100000 in
theorem jKe_81 : j_code jP 281 81 = some (.iastore) := rfl
set_option maxRecDepth 100000 in
theorem jKe_82 : j_code jP 281 82 = some (.iinc 1 1) := rfl
set_option maxRecDepth 100000 in
theorem jKe_85 : j_code jP 281 85 = some (.goto (-31)) := rfl
set_option maxRecDepth 100000 in
theorem jKe_88 : j_code jP 281 88 = some (.aload_n 0) := rfl
set_option maxRecDepth 100000 in
theorem jKe_89 : j_code jP 281 89 = some (.dup) := rfl
set_option maxRecDepth 100000 in
theorem jKe_90 : j_code jP 281 90 = some (.getfield 192) := rfl
set_option maxRecDepth 100000 in
theorem jKe_93 : j_code jP 281 93 = some (.iconst 1) := rfl
set_option maxRecDepth 100000 in
theorem jKe_94 : j_code jP 281 94 = some (.iadd) := rfl
set_option maxRecDepth 100000 in
theorem jKe_95 : j_code jP 281 95 = some (.putfield 192) := rfl
set_option maxRecDepth 100000 in
theorem jKe_98 : j_code jP 281 98 = some (.return_) := rfl
set_option maxRecDepth 100000 in
theorem jUn_M : j_meth jP 282 = some (yX10_undo, cX10_undo, 2, (some .int), 0, false, 10) := rfl
set_option maxRecDepth 100000 in
theorem jUn_0 : j_code jP 282 0 = some (.aload_n 0) := rfl
set_option maxRecDepth 100000 in
theorem jUn_1 : j_code jP 282 1 = some (.getfield 192) := rfl
set_option maxRecDepth 100000 in
theorem jUn_4 : j_code jP 282 4 = some (.ifCond .ne 9) := rfl
set_option maxRecDepth 100000 in
theorem jUn_7 : j_code jP 282 7 = some (.aload_n 0) := rfl
set_option maxRecDepth 100000 in
theorem jUn_8 : j_code jP 282 8 = some (.iconst 5) := rfl
set_option maxRecDepth 100000 in
theorem jUn_9 : j_code jP 282 9 = some (.invokevirtual 179) := rfl
set_option maxRecDepth 100000 in
theorem jUn_12 : j_code jP 282 12 = some (.ireturn) := rfl
set_option maxRecDepth 100000 in
theorem jUn_13 : j_code jP 282 13 = some (.aload_n 0) := rfl
set_option maxRecDepth 100000 in
theorem jUn_14 : j_code jP 282 14 = some (.dup) := rfl
set_option maxRecDepth 100000 in
theorem jUn_15 : j_code jP 282 15 = some (.getfield 192) := rfl
set_option maxRecDepth 100000 in
theorem jUn_18 : j_code jP 282 18 = some (.iconst 1) := rfl
set_option maxRecDepth 100000 in
theorem jUn_19 : j_code jP 282 19 = some (.isub) := rfl
set_option maxRecDepth 100000 in
theorem jUn_20 : j_code jP 282 20 = some (.putfield 192) := rfl
set_option maxRecDepth 100000 in
theorem jUn_23 : j_code jP 282 23 = some (.iconst 0) := rfl
set_option maxRecDepth 100000 in
theorem jUn_24 : j_code jP 282 24 = some (.istore_n 1) := rfl
set_option maxRecDepth 100000 in
theorem jUn_25 : j_code jP 282 25 = some (.iload_n 1) := rfl
set_option maxRecDepth 100000 in
theorem jUn_26 : j_code jP 282 26 = some (.sipush 602) := rfl
set_option maxRecDepth 100000 in
theorem jUn_29 : j_code jP 282 29 = some (.if_icmp .ge 30) := rfl
set_option maxRecDepth 100000 in
theorem jUn_32 : j_code jP 282 32 = some (.aload_n 0) := rfl
set_option maxRecDepth 100000 in
theorem jUn_33 : j_code jP 282 33 = some (.getfield 7) := rfl
set_option maxRecDepth 100000 in
theorem jUn_36 : j_code jP 282 36 = some (.iload_n 1) := rfl
set_option maxRecDepth 100000 in
theorem jUn_37 : j_code jP 282 37 = some (.aload_n 0) := rfl
set_option maxRecDepth 100000 in
theorem jUn_38 : j_code jP 282 38 = some (.getfield 22) := rfl
set_option maxRecDepth 100000 in
theorem jUn_41 : j_code jP 282 41 = some (.sipush 602) := rfl
set_option maxRecDepth 100000 in
theorem jUn_44 : j_code jP 282 44 = some (.aload_n 0) := rfl
set_option maxRecDepth 100000 in
theorem jUn_45 : j_code jP 282 45 = some (.getfield 192) := rfl
set_option maxRecDepth 100000 in
theorem jUn_48 : j_code jP 282 48 = some (.imul) := rfl
set_option maxRecDepth 100000 in
theorem jUn_49 : j_code jP 282 49 = some (.iload_n 1) := rfl
set_option maxRecDepth 100000 in
theorem jUn_50 : j_code jP 282 50 = some (.iadd) := rfl
set_option maxRecDepth 100000 in
theorem jUn_51 : j_code jP 282 51 = some (.iaload) := rfl
set_option maxRecDepth 100000 in
theorem jUn_52 : j_code jP 282 52 = some (.iastore) := rfl
set_option maxRecDepth 100000 in
theorem jUn_53 : j_code jP 282 53 = some (.iinc 1 1) := rfl
set_option maxRecDepth 100000 in
theorem jUn_56 : j_code jP 282 56 = some (.goto (-31)) := rfl
set_option maxRecDepth 100000 in
theorem jUn_59 : j_code jP 282 59 = some (.aload_n 0) := rfl
set_option maxRecDepth 100000 in
theorem jUn_60 : j_code jP 282 60 = some (.aload_n 0) := rfl
set_option maxRecDepth 100000 in
theorem jUn_61 : j_code jP 282 61 = some (.getfield 192) := rfl
set_option maxRecDepth 100000 in
theorem jUn_64 : j_code jP 282 64 = some (.invokevirtual 195) := rfl
set_option maxRecDepth 100000 in
theorem jUn_67 : j_code jP 282 67 = some (.ireturn) := rfl
def jF (ks : List Nat) (h h' : J_H) : Prop := h'.length = h.length ∧ ∀ k, k ∉ ks → h'[k]? = h[k]?
theorem jF.rf {ks : List Nat} {h : J_H} : jF ks h h := ⟨rfl, fun _ _ => rfl⟩
theorem jF.tr {ks : List Nat} {h h1 h2 : J_H} (a : jF ks h h1) (b : jF ks h1 h2) : jF ks h h2 := ⟨b.1.trans a.1, fun k hk => (b.2 k hk).trans (a.2 k hk)⟩
theorem jF.set {ks : List Nat} {h : J_H} {k : Nat} {c : J_C} (hk : k ∈ ks) : jF ks h (h.set k c) := ⟨by simp, fun j hj => List.getElem?_set_ne (fun (e : k = j) => hj (e ▸ hk))⟩
theorem jk_at {h : J_H} {k : Nat} {c c' : J_C} (hc : h[k]? = some c) : (h.set k c')[k]? = some c' := List.getElem?_set_self (List.getElem?_eq_some_iff.mp hc).1
theorem jk_lt {fs : List Value} {k : Nat} {c : Value} (hc : fs[k]? = some c) : k < fs.length := (List.getElem?_eq_some_iff.mp hc).1
theorem jk_add (n k : Nat) : nI n + nI k = nI (n + k) := (Int32.ofNat_add n k).symm
theorem jk_mul (n k : Nat) : nI n * nI k = nI (n * k) := (Int32.ofNat_mul n k).symm
theorem jk_sub (n k : Nat) : nI (n + k) - nI k = nI n := by rw [← jk_add, Int32.add_sub_cancel]
theorem jk_getD {l : List Int32} {i : Nat} (h : i < l.length) : l[i]? = some (l.getD i 0) := by
  rw [List.getElem?_eq_getElem h]
  simp [List.getD, List.getElem?_eq_getElem h]
set_option maxRecDepth 100000 in
theorem jke_1 {d : Nat} {fs : List Value} {Q : Option Value → J_H → Prop} (hk : fs[5]? = some (.ref 364)) : ∀ (m k : Nat) (h : J_H) (K : List Int32), k + m = 6020 → 602 ≤ k → h[359]? = some (.inl (10, fs)) → h[364]? = some (.inr (.inl (0, K))) → K.length = 6020 → (∀ h' K', jF [364] h h' → h'[364]? = some (.inr (.inl (0, K'))) → K'.length = 6020 → (∀ i, K'[i]? = if k - 602 ≤ i ∧ i < 5418 then K[i + 602]? else K[i]?) → j_W jP d 281 42 [(1, .int (nI 6020)), (0, .ref 359)] [] h' Q) → j_W jP d 281 13 [(1, .int (nI k)), (0, .ref 359)] [] h Q := by
  intro m
  induction m with
  | zero =>
    intro k h K hk1 hk2 h1 h2 h3 hc
    have hk1 : k = 6020 := by omega
    subst hk1
    refine j_W.one jKe_M jKe_13 (by decide) (pcJ := 14) (stJ := [.int (nI 6020)]) rfl ?_
    refine j_W.one jKe_M jKe_14 (by decide) (pcJ := 17) (stJ := [.int 6020, .int (nI 6020)]) rfl ?_
    refine j_W.icmp jKe_M jKe_17 (t := 42) rfl (fun c => ?_) (fun c => ?_)
    · exact hc h K jF.rf h2 h3 (fun i => by rw [if_neg (by omega)])
    · exact absurd c (by decide)
  | succ m ih =>
    intro k h K hk1 hk2 h1 h2 h3 hc
    obtain ⟨k0, rfl⟩ : ∃ k0, k = k0 + 602 := ⟨k - 602, by omega⟩
    refine j_W.one jKe_M jKe_13 (by decide) (pcJ := 14) (stJ := [.int (nI (k0 + 602))]) rfl ?_
    refine j_W.one jKe_M jKe_14 (by decide) (pcJ := 17) (stJ := [.int 6020, .int (nI (k0 + 602))]) rfl ?_
    refine j_W.icmp jKe_M jKe_17 (t := 42) rfl (fun c => ?_) (fun c => ?_)
    · exact absurd (of_decide_eq_true c) (nI_ge (a := k0 + 602) (b := 6020) (by omega) (by omega))
    · skip
      refine j_W.one jKe_M jKe_20 (by decide) (pcJ := 21) (stJ := [.ref 359]) rfl ?_
      refine j_W.get jKe_M jKe_21 (ci := 10) (j := 5) rfl h1 hk ?_
      refine j_W.one jKe_M jKe_24 (by decide) (pcJ := 25) (stJ := [.int (nI (k0 + 602)), .ref 364]) rfl ?_
      refine j_W.one jKe_M jKe_25 (by decide) (pcJ := 28) (stJ := [.int 602, .int (nI (k0 + 602)), .ref 364]) rfl ?_
      refine j_W.one jKe_M jKe_28 (by decide) (pcJ := 29) (stJ := [.int (nI k0), .ref 364]) (by rw [← jk_sub k0 602]; rfl) ?_
      refine j_W.one jKe_M jKe_29 (by decide) (pcJ := 30) (stJ := [.ref 359, .int (nI k0), .ref 364]) rfl ?_
      refine j_W.get jKe_M jKe_30 (ci := 10) (j := 5) rfl h1 hk ?_
      refine j_W.one jKe_M jKe_33 (by decide) (pcJ := 34) (stJ := [.int (nI (k0 + 602)), .ref 364, .int (nI k0), .ref 364]) rfl ?_
      refine j_W.iald jKe_M jKe_34 (v := K.getD (k0 + 602) 0) h2 (by rw [h3]; exact jk_ix (by omega) (by omega)) (by rw [nI_clamp (by omega)]) ?_
      refine j_W.iast jKe_M jKe_35 (l := K) h2 (by rw [h3]; exact jk_ix (by omega) (by omega)) ?_
      rw [nI_clamp (by omega)]
      refine j_W.one jKe_M jKe_36 (by decide) (pcJ := 39) (lv' := [(1, .int (nI (k0 + 602 + 1))), (0, .ref 359)]) (stJ := []) (by rw [nI_succ (k0 + 602)]; rfl) ?_
      refine j_W.gto jKe_M jKe_39 (t := 13) rfl ?_
      refine ih (k0 + 602 + 1) _ (K.set k0 (K.getD (k0 + 602) 0)) (by omega) (by omega) (by rw [List.getElem?_set_ne (by decide)]; exact h1) (jk_at h2) (by rw [List.length_set]; exact h3) (fun h' K' a1 a2 a3 a4 => ?_)
      refine hc h' K' ((jF.set (by simp)).tr a1) a2 a3 (fun i => ?_)
      rw [a4 i]
      by_cases hi : i = k0
      · subst hi
        rw [if_neg (by omega), if_pos (by omega), List.getElem?_set_self (by omega), jk_getD (by omega)]
      · by_cases hj : k0 + 602 + 1 - 602 ≤ i ∧ i < 5418
        · rw [if_pos hj, if_pos (by omega), List.getElem?_set_ne (by omega)]
        · rw [if_neg hj, if_neg (by omega), List.getElem?_set_ne (fun z => hi z.symm)]
set_option maxRecDepth 100000 in
theorem jke_2 {d a : Nat} {fs : List Value} {N : List Int32} {Q : Option Value → J_H → Prop} (ha : a ≤ 9) (hk : fs[5]? = some (.ref 364)) (hn : fs[1]? = some (.ref 360)) (hac : fs[13]? = some (.int (nI a))) (hN : N.length = 602) : ∀ (m k : Nat) (h : J_H) (K : List Int32), k + m = 602 → h[359]? = some (.inl (10, fs)) → h[364]? = some (.inr (.inl (0, K))) → h[360]? = some (.inr (.inl (0, N))) → K.length = 6020 → (∀ h' K', jF [364] h h' → h'[364]? = some (.inr (.inl (0, K'))) → K'.length = 6020 → (∀ i, K'[i]? = if 602 * a + k ≤ i ∧ i < 602 * a + 602 then N[i - 602 * a]? else K[i]?) → j_W jP d 281 88 [(1, .int (nI 602)), (0, .ref 359)] [] h' Q) → j_W jP d 281 54 [(1, .int (nI k)), (0, .ref 359)] [] h Q := by
  intro m
  induction m with
  | zero =>
    intro k h K hk1 h1 h2 h4 h3 hc
    have hk1 : k = 602 := by omega
    subst hk1
    refine j_W.one jKe_M jKe_54 (by decide) (pcJ := 55) (stJ := [.int (nI 602)]) rfl ?_
    refine j_W.one jKe_M jKe_55 (by decide) (pcJ := 58) (stJ := [.int 602, .int (nI 602)]) rfl ?_
    refine j_W.icmp jKe_M jKe_58 (t := 88) rfl (fun c => ?_) (fun c => ?_)
    · exact hc h K jF.rf h2 h3 (fun i => by rw [if_neg (by omega)])
    · exact absurd c (by decide)
  | succ m ih =>
    intro k h K hk1 h1 h2 h4 h3 hc
    refine j_W.one jKe_M jKe_54 (by decide) (pcJ := 55) (stJ := [.int (nI k)]) rfl ?_
    refine j_W.one jKe_M jKe_55 (by decide) (pcJ := 58) (stJ := [.int 602, .int (nI k)]) rfl ?_
    refine j_W.icmp jKe_M jKe_58 (t := 88) rfl (fun c => ?_) (fun c => ?_)
    · exact absurd (of_decide_eq_true c) (nI_ge (a := k) (b := 602) (by omega) (by omega))
    · skip
      refine j_W.one jKe_M jKe_61 (by decide) (pcJ := 62) (stJ := [.ref 359]) rfl ?_
      refine j_W.get jKe_M jKe_62 (ci := 10) (j := 5) rfl h1 hk ?_
      refine j_W.one jKe_M jKe_65 (by decide) (pcJ := 68) (stJ := [.int 602, .ref 364]) rfl ?_
      refine j_W.one jKe_M jKe_68 (by decide) (pcJ := 69) (stJ := [.ref 359, .int 602, .ref 364]) rfl ?_
      refine j_W.get jKe_M jKe_69 (ci := 10) (j := 13) rfl h1 hac ?_
      refine j_W.one jKe_M jKe_72 (by decide) (pcJ := 73) (stJ := [.int (nI (602 * a)), .ref 364]) (by rw [← jk_mul 602 a]; rfl) ?_
      refine j_W.one jKe_M jKe_73 (by decide) (pcJ := 74) (stJ := [.int (nI k), .int (nI (602 * a)), .ref 364]) rfl ?_
      refine j_W.one jKe_M jKe_74 (by decide) (pcJ := 75) (stJ := [.int (nI (602 * a + k)), .ref 364]) (by rw [← jk_add (602 * a) k]; rfl) ?_
      refine j_W.one jKe_M jKe_75 (by decide) (pcJ := 76) (stJ := [.ref 359, .int (nI (602 * a + k)), .ref 364]) rfl ?_
      refine j_W.get jKe_M jKe_76 (ci := 10) (j := 1) rfl h1 hn ?_
      refine j_W.one jKe_M jKe_79 (by decide) (pcJ := 80) (stJ := [.int (nI k), .ref 360, .int (nI (602 * a + k)), .ref 364]) rfl ?_
      refine j_W.iald jKe_M jKe_80 (v := N.getD k 0) h4 (by rw [hN]; exact jk_ix (by omega) (by omega)) (by rw [nI_clamp (by omega)]) ?_
      refine j_W.iast jKe_M jKe_81 (l := K) h2 (by rw [h3]; exact jk_ix (by omega) (by omega)) ?_
      rw [nI_clamp (by omega)]
      refine j_W.one jKe_M jKe_82 (by decide) (pcJ := 85) (lv' := [(1, .int (nI (k + 1))), (0, .ref 359)]) (stJ := []) (by rw [nI_succ k]; rfl) ?_
      refine j_W.gto jKe_M jKe_85 (t := 54) rfl ?_
      refine ih (k + 1) _ (K.set (602 * a + k) (N.getD k 0)) (by omega) (by rw [List.getElem?_set_ne (by decide)]; exact h1) (jk_at h2) (by rw [List.getElem?_set_ne (by decide)]; exact h4) (by rw [List.length_set]; exact h3) (fun h' K' a1 a2 a3 a4 => ?_)
      refine hc h' K' ((jF.set (by simp)).tr a1) a2 a3 (fun i => ?_)
      rw [a4 i]
      by_cases hi : i = 602 * a + k
      · subst hi
        rw [if_neg (by omega), if_pos (by omega), List.getElem?_set_self (by omega), show 602 * a + k - 602 * a = k by omega, jk_getD (by omega)]
      · by_cases hj : 602 * a + (k + 1) ≤ i ∧ i < 602 * a + 602
        · rw [if_pos hj, if_pos (by omega)]
        · rw [if_neg hj, if_neg (by omega), List.getElem?_set_ne (fun z => hi z.symm)]
def jke_Q (fs : List Value) (K N : List Int32) (h h' : J_H) : Prop := jF [364, 359] h h' ∧ ∃ (K' : List Int32) (a' : Nat), a' ≤ 10 ∧ h'[364]? = some (.inr (.inl (0, K'))) ∧ h'[359]? = some (.inl (10, fs.set 13 (.int (nI a')))) ∧ K'.length = 6020 ∧ ∀ k, k < 10 → (∃ k2, k2 < 10 ∧ ∀ i, i < 602 → K'[602 * k + i]? = K[602 * k2 + i]?) ∨ (∀ i, i < 602 → K'[602 * k + i]? = N[i]?)
set_option maxRecDepth 100000 in
theorem jke_3 {d a : Nat} {fs : List Value} {N K : List Int32} {h : J_H} (ha : a ≤ 9) (hk : fs[5]? = some (.ref 364)) (hn : fs[1]? = some (.ref 360)) (hac : fs[13]? = some (.int (nI a))) (hN : N.length = 602) (h1 : h[359]? = some (.inl (10, fs))) (h2 : h[364]? = some (.inr (.inl (0, K)))) (h4 : h[360]? = some (.inr (.inl (0, N)))) (h3 : K.length = 6020) {l1 : Value} : j_W jP d 281 52 [(0, .ref 359)] [] h (fun r h' => r = none ∧ jke_Q fs K N h h') ∧ j_W jP d 281 52 [(1, l1), (0, .ref 359)] [] h (fun r h' => r = none ∧ jke_Q fs K N h h') := by
  have w : j_W jP d 281 54 [(1, .int (nI 0)), (0, .ref 359)] [] h (fun r h' => r = none ∧ jke_Q fs K N h h') := by
    refine jke_2 ha hk hn hac hN 602 0 h K (by omega) h1 h2 h4 h3 (fun h' K' a1 a2 a3 a4 => ?_)
    have h5 : h'[359]? = some (.inl (10, fs)) := by rw [a1.2 359 (by simp)]; exact h1
    refine j_W.one jKe_M jKe_88 (by decide) (pcJ := 89) (stJ := [.ref 359]) rfl ?_
    refine j_W.one jKe_M jKe_89 (by decide) (pcJ := 90) (stJ := [.ref 359, .ref 359]) rfl ?_
    refine j_W.get jKe_M jKe_90 (ci := 10) (j := 13) rfl h5 hac ?_
    refine j_W.one jKe_M jKe_93 (by decide) (pcJ := 94) (stJ := [.int 1, .int (nI a), .ref 359]) rfl ?_
    refine j_W.one jKe_M jKe_94 (by decide) (pcJ := 95) (stJ := [.int (nI (a + 1)), .ref 359]) (by rw [nI_succ a]; rfl) ?_
    refine j_W.put jKe_M jKe_95 (ci := 10) (j := 13) rfl h5 (jk_lt hac) rfl (Or.inl rfl) ?_
    refine j_W.ret jKe_M jKe_98 rfl rfl ⟨rfl, ?_⟩
    refine ⟨⟨by rw [List.length_set]; exact a1.1, fun x hx => ?_⟩, K', a + 1, by omega, by rw [List.getElem?_set_ne (by decide)]; exact a2, jk_at h5, a3, fun k hk9 => ?_⟩
    · rw [List.getElem?_set_ne (fun z => hx (by rw [← z]; simp)), a1.2 x (fun z => hx (by simp at z; rw [z]; simp))]
    · by_cases hka : k = a
      · refine Or.inr (fun i hi => ?_)
        subst hka
        rw [a4, if_pos (by omega), show 602 * k + i - 602 * k = i by omega]
      · refine Or.inl ⟨k, hk9, fun i hi => ?_⟩
        rw [a4, if_neg (by
          rintro ⟨z1, z2⟩
          rcases Nat.lt_or_ge k a with z | z
          · have := Nat.mul_le_mul_left 602 (show k + 1 ≤ a from z)
            omega
          · have := Nat.mul_le_mul_left 602 (show a + 1 ≤ k by omega)
            omega)]
  constructor
  · skip
    refine j_W.one jKe_M jKe_52 (by decide) (pcJ := 53) (stJ := [.int 0]) rfl ?_
    refine j_W.one jKe_M jKe_53 (by decide) (pcJ := 54) (lv' := [(1, .int 0), (0, .ref 359)]) (stJ := []) rfl ?_
    exact w
  · skip
    refine j_W.one jKe_M jKe_52 (by decide) (pcJ := 53) (stJ := [.int 0]) rfl ?_
    refine j_W.one jKe_M jKe_53 (by decide) (pcJ := 54) (lv' := [(1, .int 0), (0, .ref 359)]) (stJ := []) rfl ?_
    exact w
set_option maxRecDepth 100000 in
theorem jke_ok {d a : Nat} {fs : List Value} {N K : List Int32} {h : J_H} (ha : a ≤ 10) (hk : fs[5]? = some (.ref 364)) (hn : fs[1]? = some (.ref 360)) (hac : fs[13]? = some (.int (nI a))) (hN : N.length = 602) (h1 : h[359]? = some (.inl (10, fs))) (h2 : h[364]? = some (.inr (.inl (0, K)))) (h4 : h[360]? = some (.inr (.inl (0, N)))) (h3 : K.length = 6020) : j_W jP d 281 0 (lv_args 0 [.ref 359]) [] h (fun r h' => r = none ∧ jke_Q fs K N h h') := by
  show j_W jP d 281 0 [(0, .ref 359)] [] h _
  refine j_W.one jKe_M jKe_0 (by decide) (pcJ := 1) (stJ := [.ref 359]) rfl ?_
  refine j_W.get jKe_M jKe_1 (ci := 10) (j := 13) rfl h1 hac ?_
  refine j_W.one jKe_M jKe_4 (by decide) (pcJ := 6) (stJ := [.int 10, .int (nI a)]) rfl ?_
  refine j_W.icmp jKe_M jKe_6 (t := 52) rfl (fun c => ?_) (fun c => ?_)
  · refine (jke_3 (l1 := .null) (by
      rcases Nat.lt_or_ge a 10 with z | z
      · omega
      · have : a = 10 := by omega
        subst this
        exact absurd c (by decide)) hk hn hac hN h1 h2 h4 h3).1
  · have ha10 : a = 10 := by
      rcases Nat.lt_or_ge a 10 with z | z
      · exfalso
        have : ∀ a : Fin 10, j_cond .ne (nI a.val) 10 = true := by decide
        have c : j_cond .ne (nI a) 10 = false := c
        rw [this ⟨a, z⟩] at c
        cases c
      · omega
    subst ha10
    refine j_W.one jKe_M jKe_9 (by decide) (pcJ := 12) (stJ := [.int 602]) rfl ?_
    refine j_W.one jKe_M jKe_12 (by decide) (pcJ := 13) (lv' := [(1, .int 602), (0, .ref 359)]) (stJ := []) rfl ?_
    refine jke_1 hk (6020 - 602) 602 h K (by omega) (by omega) h1 h2 h3 (fun h5 K5 a1 a2 a3 a4 => ?_)
    have h6 : h5[359]? = some (.inl (10, fs)) := by rw [a1.2 359 (by simp)]; exact h1
    have h7 : h5[360]? = some (.inr (.inl (0, N))) := by rw [a1.2 360 (by simp)]; exact h4
    refine j_W.one jKe_M jKe_42 (by decide) (pcJ := 43) (stJ := [.ref 359]) rfl ?_
    refine j_W.one jKe_M jKe_43 (by decide) (pcJ := 44) (stJ := [.ref 359, .ref 359]) rfl ?_
    refine j_W.get jKe_M jKe_44 (ci := 10) (j := 13) rfl h6 hac ?_
    refine j_W.one jKe_M jKe_47 (by decide) (pcJ := 48) (stJ := [.int 1, .int (nI 10), .ref 359]) rfl ?_
    refine j_W.one jKe_M jKe_48 (by decide) (pcJ := 49) (stJ := [.int (nI 9), .ref 359]) rfl ?_
    refine j_W.put jKe_M jKe_49 (ci := 10) (j := 13) rfl h6 (jk_lt hac) rfl (Or.inl rfl) ?_
    have hlt : 13 < fs.length := jk_lt hac
    refine (jke_3 (a := 9) (fs := fs.set 13 (.int (nI 9))) (l1 := .int (nI 6020)) (by omega) (by rw [List.getElem?_set_ne (by decide)]; exact hk) (by rw [List.getElem?_set_ne (by decide)]; exact hn) (List.getElem?_set_self hlt) hN (jk_at h6) (by rw [List.getElem?_set_ne (by decide)]; exact a2) (by rw [List.getElem?_set_ne (by decide)]; exact h7) a3).2.mono ?_
    rintro r h' ⟨rfl, b1, K', a', b2, b3, b4, b5, b6⟩
    refine ⟨rfl, ⟨?_, fun x hx => ?_⟩, K', a', b2, b3, by rw [b4, List.set_set], b5, fun k hk9 => ?_⟩
    · rw [b1.1, List.length_set]; exact a1.1
    · rw [b1.2 x hx, List.getElem?_set_ne (fun z => hx (by rw [← z]; simp)), a1.2 x (fun z => hx (by simp at z; rw [z]; simp))]
    · rcases b6 k hk9 with ⟨k2, c1, c2⟩ | c2
      · refine Or.inl ?_
        by_cases hk2 : k2 = 9
        · subst hk2
          refine ⟨9, by omega, fun i hi => ?_⟩
          rw [c2 i hi, a4, if_neg (by omega)]
        · refine ⟨k2 + 1, by omega, fun i hi => ?_⟩
          rw [c2 i hi, a4, if_pos (by omega), show 602 * k2 + i + 602 = 602 * (k2 + 1) + i by omega]
      · exact Or.inr c2
set_option maxRecDepth 100000 in
theorem jun_1 {d a : Nat} {fs : List Value} {K : List Int32} {Q : Option Value → J_H → Prop} (ha : a ≤ 9) (hk : fs[5]? = some (.ref 364)) (hn : fs[1]? = some (.ref 360)) (hac : fs[13]? = some (.int (nI a))) (hK : K.length = 6020) : ∀ (m k : Nat) (h : J_H) (N : List Int32), k + m = 602 → h[359]? = some (.inl (10, fs)) → h[364]? = some (.inr (.inl (0, K))) → h[360]? = some (.inr (.inl (0, N))) → N.length = 602 → (∀ h' N', jF [360] h h' → h'[360]? = some (.inr (.inl (0, N'))) → N'.length = 602 → (∀ i, N'[i]? = if k ≤ i ∧ i < 602 then K[602 * a + i]? else N[i]?) → j_W jP d 282 59 [(1, .int (nI 602)), (0, .ref 359)] [] h' Q) → j_W jP d 282 25 [(1, .int (nI k)), (0, .ref 359)] [] h Q := by
  intro m
  induction m with
  | zero =>
    intro k h N hk1 h1 h2 h4 h3 hc
    have hk1 : k = 602 := by omega
    subst hk1
    refine j_W.one jUn_M jUn_25 (by decide) (pcJ := 26) (stJ := [.int (nI 602)]) rfl ?_
    refine j_W.one jUn_M jUn_26 (by decide) (pcJ := 29) (stJ := [.int 602, .int (nI 602)]) rfl ?_
    refine j_W.icmp jUn_M jUn_29 (t := 59) rfl (fun c => ?_) (fun c => ?_)
    · exact hc h N jF.rf h4 h3 (fun i => by rw [if_neg (by omega)])
    · exact absurd c (by decide)
  | succ m ih =>
    intro k h N hk1 h1 h2 h4 h3 hc
    refine j_W.one jUn_M jUn_25 (by decide) (pcJ := 26) (stJ := [.int (nI k)]) rfl ?_
    refine j_W.one jUn_M jUn_26 (by decide) (pcJ := 29) (stJ := [.int 602, .int (nI k)]) rfl ?_
    refine j_W.icmp jUn_M jUn_29 (t := 59) rfl (fun c => ?_) (fun c => ?_)
    · exact absurd (of_decide_eq_true c) (nI_ge (a := k) (b := 602) (by omega) (by omega))
    · skip
      refine j_W.one jUn_M jUn_32 (by decide) (pcJ := 33) (stJ := [.ref 359]) rfl ?_
      refine j_W.get jUn_M jUn_33 (ci := 10) (j := 1) rfl h1 hn ?_
      refine j_W.one jUn_M jUn_36 (by decide) (pcJ := 37) (stJ := [.int (nI k), .ref 360]) rfl ?_
      refine j_W.one jUn_M jUn_37 (by decide) (pcJ := 38) (stJ := [.ref 359, .int (nI k), .ref 360]) rfl ?_
      refine j_W.get jUn_M jUn_38 (ci := 10) (j := 5) rfl h1 hk ?_
      refine j_W.one jUn_M jUn_41 (by decide) (pcJ := 44) (stJ := [.int 602, .ref 364, .int (nI k), .ref 360]) rfl ?_
      refine j_W.one jUn_M jUn_44 (by decide) (pcJ := 45) (stJ := [.ref 359, .int 602, .ref 364, .int (nI k), .ref 360]) rfl ?_
      refine j_W.get jUn_M jUn_45 (ci := 10) (j := 13) rfl h1 hac ?_
      refine j_W.one jUn_M jUn_48 (by decide) (pcJ := 49) (stJ := [.int (nI (602 * a)), .ref 364, .int (nI k), .ref 360]) (by rw [← jk_mul 602 a]; rfl) ?_
      refine j_W.one jUn_M jUn_49 (by decide) (pcJ := 50) (stJ := [.int (nI k), .int (nI (602 * a)), .ref 364, .int (nI k), .ref 360]) rfl ?_
      refine j_W.one jUn_M jUn_50 (by decide) (pcJ := 51) (stJ := [.int (nI (602 * a + k)), .ref 364, .int (nI k), .ref 360]) (by rw [← jk_add (602 * a) k]; rfl) ?_
      refine j_W.iald jUn_M jUn_51 (v := K.getD (602 * a + k) 0) h2 (by rw [hK]; exact jk_ix (by omega) (by omega)) (by rw [nI_clamp (by omega)]) ?_
      refine j_W.iast jUn_M jUn_52 (l := N) h4 (by rw [h3]; exact jk_ix (by omega) (by omega)) ?_
      rw [nI_clamp (by omega)]
      refine j_W.one jUn_M jUn_53 (by decide) (pcJ := 56) (lv' := [(1, .int (nI (k + 1))), (0, .ref 359)]) (stJ := []) (by rw [nI_succ k]; rfl) ?_
      refine j_W.gto jUn_M jUn_56 (t := 25) rfl ?_
      refine ih (k + 1) _ (N.set k (K.getD (602 * a + k) 0)) (by omega) (by rw [List.getElem?_set_ne (by decide)]; exact h1) (by rw [List.getElem?_set_ne (by decide)]; exact h2) (jk_at h4) (by rw [List.length_set]; exact h3) (fun h' N' a1 a2 a3 a4 => ?_)
      refine hc h' N' ((jF.set (by simp)).tr a1) a2 a3 (fun i => ?_)
      rw [a4 i]
      by_cases hi : i = k
      · subst hi
        rw [if_neg (by omega), if_pos (by omega), List.getElem?_set_self (by omega), jk_getD (by omega)]
      · by_cases hj : k + 1 ≤ i ∧ i < 602
        · rw [if_pos hj, if_pos (by omega)]
        · rw [if_neg hj, if_neg (by omega), List.getElem?_set_ne (fun z => hi z.symm)]

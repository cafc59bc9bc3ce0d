/-! copies(a, b): 602 ints of one row onto another -/
set_option maxRecDepth 100000 in
theorem jcp_M : j_meth jP 201 = some (yX10_copies, cX10_copies, 3, none, 2, false, 10) := rfl
set_option maxRecDepth 100000 in
theorem jcp_c0 : j_code jP 201 0 = some (.iconst 0) := rfl
set_option maxRecDepth 100000 in
theorem jcp_c1 : j_code jP 201 1 = some (.istore_n 2) := rfl
set_option maxRecDepth 100000 in
theorem jcp_c2 : j_code jP 201 2 = some (.iload_n 2) := rfl
set_option maxRecDepth 100000 in
theorem jcp_c3 : j_code jP 201 3 = some (.sipush 602) := rfl
set_option maxRecDepth 100000 in
theorem jcp_c6 : j_code jP 201 6 = some (.if_icmp .ge 15) := rfl
set_option maxRecDepth 100000 in
theorem jcp_c9 : j_code jP 201 9 = some (.aload_n 1) := rfl
set_option maxRecDepth 100000 in
theorem jcp_c10 : j_code jP 201 10 = some (.iload_n 2) := rfl
set_option maxRecDepth 100000 in
theorem jcp_c11 : j_code jP 201 11 = some (.aload_n 0) := rfl
set_option maxRecDepth 100000 in
theorem jcp_c12 : j_code jP 201 12 = some (.iload_n 2) := rfl
set_option maxRecDepth 100000 in
theorem jcp_c13 : j_code jP 201 13 = some (.iaload) := rfl
set_option maxRecDepth 100000 in
theorem jcp_c14 : j_code jP 201 14 = some (.iastore) := rfl
set_option maxRecDepth 100000 in
theorem jcp_c15 : j_code jP 201 15 = some (.iinc 2 1) := rfl
set_option maxRecDepth 100000 in
theorem jcp_c18 : j_code jP 201 18 = some (.goto (-16)) := rfl
set_option maxRecDepth 100000 in
theorem jcp_c21 : j_code jP 201 21 = some (.return_) := rfl
theorem jk_ix {c N : Nat} (h : c < N) (hN : N < 2 ^ 31) : j_ix (nI c) N = true := by
  have := nI_in h hN
  unfold j_ix
  simp only [Bool.not_eq_true', Bool.or_eq_false_iff, decide_eq_false_iff_not]
  exact ⟨fun z => this (Or.inl z), fun z => this (Or.inr z)⟩
theorem jk_cp {la lb : List Int32} {k : Nat} (h0 : k < la.length) (h1 : k < lb.length) : (la.take k ++ lb.drop k).set k (la.getD k 0) = la.take (k + 1) ++ lb.drop (k + 1) := by
  have e1 : (la.take k).length = k := by rw [List.length_take]; omega
  rw [List.set_append_right _ _ (by omega), e1, Nat.sub_self, List.drop_eq_getElem_cons h1, List.set_cons_zero, List.take_succ_eq_append_getElem h0, List.append_assoc]
  simp [List.getD, List.getElem?_eq_getElem h0]
theorem jcp_loop {d a b : Nat} {la lb : List Int32} {h : J_H} (ha : h[a]? = some (.inr (.inl (0, la)))) (hb : h[b]? = some (.inr (.inl (0, lb)))) (l0 : la.length = 602) (l1 : lb.length = 602) (hab : a ≠ b) {Q : Option Value → J_H → Prop} (hq : Q none (h.set b (.inr (.inl (0, la))))) : ∀ m k : Nat, k + m = 602 → j_W jP d 201 2 [(2, .int (nI k)), (0, .ref a), (1, .ref b)] [] (h.set b (.inr (.inl (0, la.take k ++ lb.drop k)))) Q := by
  have hlt : b < h.length := (List.getElem?_eq_some_iff.mp hb).1
  intro m
  induction m with
  | zero =>
    intro k hk
    have hk : k = 602 := by omega
    subst hk
    refine j_W.one jcp_M jcp_c2 (by decide) (pcJ := 3) (stJ := [.int (nI 602)]) rfl ?_
    refine j_W.one jcp_M jcp_c3 (by decide) (pcJ := 6) (stJ := [.int 602, .int (nI 602)]) rfl ?_
    refine j_W.icmp jcp_M jcp_c6 (t := 21) rfl (fun c => ?_) (fun c => ?_)
    · refine j_W.ret jcp_M jcp_c21 rfl rfl ?_
      rw [List.take_of_length_le (by omega), List.drop_eq_nil_of_le (by omega), List.append_nil]
      exact hq
    · exact absurd c (by decide)
  | succ m ih =>
    intro k hk
    refine j_W.one jcp_M jcp_c2 (by decide) (pcJ := 3) (stJ := [.int (nI k)]) rfl ?_
    refine j_W.one jcp_M jcp_c3 (by decide) (pcJ := 6) (stJ := [.int (nI 602), .int (nI k)]) rfl ?_
    refine j_W.icmp jcp_M jcp_c6 (t := 21) rfl (fun c => ?_) (fun c => ?_)
    · exact absurd (of_decide_eq_true c) (nI_ge (by omega) (by omega))
    · refine j_W.one jcp_M jcp_c9 (by decide) (pcJ := 10) (stJ := [.ref b]) rfl ?_
      refine j_W.one jcp_M jcp_c10 (by decide) (pcJ := 11) (stJ := [.int (nI k), .ref b]) rfl ?_
      refine j_W.one jcp_M jcp_c11 (by decide) (pcJ := 12) (stJ := [.ref a, .int (nI k), .ref b]) rfl ?_
      refine j_W.one jcp_M jcp_c12 (by decide) (pcJ := 13) (stJ := [.int (nI k), .ref a, .int (nI k), .ref b]) rfl ?_
      refine j_W.iald jcp_M jcp_c13 (l := la) (by rw [List.getElem?_set_ne (fun z => hab z.symm)]; exact ha) (by rw [l0]; exact jk_ix (by omega) (by omega)) rfl ?_
      refine j_W.iast jcp_M jcp_c14 (l := la.take k ++ lb.drop k) (by rw [List.getElem?_set_self hlt]) (by rw [List.length_append, List.length_take, List.length_drop, l0, l1]; exact jk_ix (by omega) (by omega)) ?_
      rw [List.set_set, nI_clamp (by omega), jk_cp (by omega) (by omega)]
      refine j_W.one jcp_M jcp_c15 (by decide) (pcJ := 18) (lv' := [(2, .int (nI (k + 1))), (0, .ref a), (1, .ref b)]) (stJ := []) (by rw [nI_succ]; rfl) ?_
      refine j_W.gto jcp_M jcp_c18 (t := 2) rfl ?_
      exact ih (k + 1) (by omega)
theorem jcp_ok : ja_CP jP 201 := by
  intro d h a b la lb ha hb l0 l1 hab
  refine j_W.one jcp_M jcp_c0 (by decide) (pcJ := 1) (stJ := [.int 0]) rfl ?_
  refine j_W.one jcp_M jcp_c1 (by decide) (pcJ := 2) (lv' := [(2, .int (nI 0)), (0, .ref a), (1, .ref b)]) (stJ := []) rfl ?_
  have w := jcp_loop (d := d) ha hb l0 l1 hab (Q := fun r h' => r = none ∧ h' = h.set b (.inr (.inl (0, la)))) ⟨rfl, rfl⟩ 602 0 rfl
  rw [List.take_zero, List.drop_zero, List.nil_append] at w
  have e : h.set b (.inr (.inl (0, lb))) = h := by
    obtain ⟨hlt, e⟩ := List.getElem?_eq_some_iff.mp hb
    rw [← e]
    exact List.set_getElem_self hlt
  rw [e] at w
  exact w

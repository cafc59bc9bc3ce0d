/-! a pilot: one method of the class, by hand, over J (how rows of J are written; a program can lay them) -/
set_option maxRecDepth 100000 in
theorem jp_M : j_meth jP 163 = some (yX9_isStation, cX9_isStation, 2, (some .boolean), 1, false, 9) := rfl
set_option maxRecDepth 100000 in
theorem jp_c0 : j_code jP 163 0 = some (.iload_n 1) := rfl
set_option maxRecDepth 100000 in
theorem jp_c1 : j_code jP 163 1 = some (.ifCond .lt 18) := rfl
set_option maxRecDepth 100000 in
theorem jp_c4 : j_code jP 163 4 = some (.iload_n 1) := rfl
set_option maxRecDepth 100000 in
theorem jp_c5 : j_code jP 163 5 = some (.aload_n 0) := rfl
set_option maxRecDepth 100000 in
theorem jp_c6 : j_code jP 163 6 = some (.getfield 58) := rfl
set_option maxRecDepth 100000 in
theorem jp_c9 : j_code jP 163 9 = some (.getfield 113) := rfl
set_option maxRecDepth 100000 in
theorem jp_c12 : j_code jP 163 12 = some (.if_icmp .ge 7) := rfl
set_option maxRecDepth 100000 in
theorem jp_c15 : j_code jP 163 15 = some (.iconst 1) := rfl
set_option maxRecDepth 100000 in
theorem jp_c16 : j_code jP 163 16 = some (.goto 4) := rfl
set_option maxRecDepth 100000 in
theorem jp_c19 : j_code jP 163 19 = some (.iconst 0) := rfl
set_option maxRecDepth 100000 in
theorem jp_c20 : j_code jP 163 20 = some (.ireturn) := rfl
set_option maxRecDepth 100000 in
theorem jp_isStation {d : Nat} {k n : Int32} {t : Nat} {fs ls : List Value} {h : J_H} (h0 : h[0]? = some (.inl (9, fs))) (h1 : fs[6]? = some (.ref t)) (h2 : h[t]? = some (.inl (2, ls))) (h3 : ls[0]? = some (.int n)) :
    j_W jP d 163 0 (lv_args 0 [.ref 0, .int k]) [] h (fun r h' => h' = h ∧ r = some (.int (if 0 ≤ k ∧ k < n then 1 else 0))) := by
  have w0 : j_W jP d 163 19 (lv_args 0 [.ref 0, .int k]) [] h (fun r h' => h' = h ∧ r = some (.int 0)) := by
    refine j_W.one jp_M jp_c19 (by decide) (pc' := 20) (st' := [.int 0]) rfl ?_
    exact j_W.ret jp_M jp_c20 rfl rfl ⟨rfl, rfl⟩
  refine j_W.one jp_M jp_c0 (by decide) (pc' := 1) (st' := [.int k]) rfl ?_
  refine j_W.ifc jp_M jp_c1 (t := 19) rfl (fun c1 => ?_) (fun c1 => ?_)
  · have c1 : k < 0 := of_decide_eq_true c1
    rw [if_neg (fun q => absurd c1 (Int32.not_lt.mpr q.1))]
    exact w0
  · have c1 : ¬ k < 0 := of_decide_eq_false c1
    refine j_W.one jp_M jp_c4 (by decide) (pc' := 5) (st' := [.int k]) rfl ?_
    refine j_W.one jp_M jp_c5 (by decide) (pc' := 6) (st' := [.ref 0, .int k]) rfl ?_
    refine j_W.get jp_M jp_c6 (ci := 9) (j := 6) rfl h0 h1 ?_
    refine j_W.get jp_M jp_c9 (ci := 2) (j := 0) rfl h2 h3 ?_
    refine j_W.icmp jp_M jp_c12 (t := 19) rfl (fun c2 => ?_) (fun c2 => ?_)
    · have c2 : n ≤ k := of_decide_eq_true c2
      rw [if_neg (fun q => absurd q.2 (Int32.not_lt.mpr c2))]
      exact w0
    · have c2 : ¬ n ≤ k := of_decide_eq_false c2
      rw [if_pos ⟨Int32.not_lt.mp c1, Int32.not_le.mp c2⟩]
      refine j_W.one jp_M jp_c15 (by decide) (pc' := 16) (st' := [.int 1]) rfl ?_
      refine j_W.gto jp_M jp_c16 (t := 20) rfl ?_
      exact j_W.ret jp_M jp_c20 rfl rfl ⟨rfl, rfl⟩

/-! feed of both sides -/
set_option maxRecDepth 100000 in
theorem jmfeed_M : j_meth jP 182 = some (yX10_feed, cX10_feed, 6, (some .int), 5, false, 10) := rfl
set_option maxRecDepth 100000 in
theorem jmfeed_0 : j_code jP 182 0 = some (.aload_n 0) := rfl
set_option maxRecDepth 100000 in
theorem jmfeed_1 : j_code jP 182 1 = some (.iconst 0) := rfl
set_option maxRecDepth 100000 in
theorem jmfeed_2 : j_code jP 182 2 = some (.putfield 55) := rfl
set_option maxRecDepth 100000 in
theorem jmfeed_5 : j_code jP 182 5 = some (.aload_n 0) := rfl
set_option maxRecDepth 100000 in
theorem jmfeed_6 : j_code jP 182 6 = some (.getfield 76) := rfl
set_option maxRecDepth 100000 in
theorem jmfeed_9 : j_code jP 182 9 = some (.bipush 20) := rfl
set_option maxRecDepth 100000 in
theorem jmfeed_11 : j_code jP 182 11 = some (.iadd) := rfl
set_option maxRecDepth 100000 in
theorem jmfeed_12 : j_code jP 182 12 = some (.sipush 700) := rfl
set_option maxRecDepth 100000 in
theorem jmfeed_15 : j_code jP 182 15 = some (.if_icmp .le 5) := rfl
set_option maxRecDepth 100000 in
theorem jmfeed_18 : j_code jP 182 18 = some (.iconst (-1)) := rfl
set_option maxRecDepth 100000 in
theorem jmfeed_19 : j_code jP 182 19 = some (.ireturn) := rfl
set_option maxRecDepth 100000 in
theorem jmfeed_20 : j_code jP 182 20 = some (.aload_n 0) := rfl
set_option maxRecDepth 100000 in
theorem jmfeed_21 : j_code jP 182 21 = some (.iload_n 1) := rfl
set_option maxRecDepth 100000 in
theorem jmfeed_22 : j_code jP 182 22 = some (.invokevirtual 79) := rfl
set_option maxRecDepth 100000 in
theorem jmfeed_25 : j_code jP 182 25 = some (.aload_n 0) := rfl
set_option maxRecDepth 100000 in
theorem jmfeed_26 : j_code jP 182 26 = some (.iload_n 2) := rfl
set_option maxRecDepth 100000 in
theorem jmfeed_27 : j_code jP 182 27 = some (.invokevirtual 79) := rfl
set_option maxRecDepth 100000 in
theorem jmfeed_30 : j_code jP 182 30 = some (.aload_n 0) := rfl
set_option maxRecDepth 100000 in
theorem jmfeed_31 : j_code jP 182 31 = some (.iload_n 3) := rfl
set_option maxRecDepth 100000 in
theorem jmfeed_32 : j_code jP 182 32 = some (.invokevirtual 79) := rfl
set_option maxRecDepth 100000 in
theorem jmfeed_35 : j_code jP 182 35 = some (.aload_n 0) := rfl
set_option maxRecDepth 100000 in
theorem jmfeed_36 : j_code jP 182 36 = some (.iload 4) := rfl
set_option maxRecDepth 100000 in
theorem jmfeed_38 : j_code jP 182 38 = some (.invokevirtual 79) := rfl
set_option maxRecDepth 100000 in
theorem jmfeed_41 : j_code jP 182 41 = some (.aload_n 0) := rfl
set_option maxRecDepth 100000 in
theorem jmfeed_42 : j_code jP 182 42 = some (.iload 5) := rfl
set_option maxRecDepth 100000 in
theorem jmfeed_44 : j_code jP 182 44 = some (.invokevirtual 79) := rfl
set_option maxRecDepth 100000 in
theorem jmfeed_47 : j_code jP 182 47 = some (.aload_n 0) := rfl
set_option maxRecDepth 100000 in
theorem jmfeed_48 : j_code jP 182 48 = some (.getfield 76) := rfl
set_option maxRecDepth 100000 in
theorem jmfeed_51 : j_code jP 182 51 = some (.ireturn) := rfl
theorem jk_o9 {fs fs2 : List Value} (x : jFo [9] fs fs2) : jFo [0, 9] fs fs2 := ⟨x.1, fun k hk => x.2 k (fun z => hk (List.mem_cons_of_mem _ z))⟩
theorem jmfeed_ok {d km kt n : Nat} {a b c e f : Int32} {fs : List Value} {h : J_H} (hne : kt ≠ km) (hn : n ≤ 700) (hp : jtp 10 6 9 0 km kt fs n h) : j_W jP (d + 1) 182 0 (lv_args 0 [.ref km, .int a, .int b, .int c, .int e, .int f]) [] h (fun r h' => r = some (.int (if n + 20 ≤ 700 then nI (n + 20) else -1)) ∧ jF [km, kt] h h' ∧ ∃ fs', jFo [0, 9] fs fs' ∧ jtp 10 6 9 0 km kt fs' (if n + 20 ≤ 700 then n + 20 else n) h') := by
  have hp0 := hp
  obtain ⟨p1, p2, p3, tl, p4, p5⟩ := hp
  refine j_W.one jmfeed_M jmfeed_0 (by decide) (pc' := 1) (st' := [.ref km]) rfl ?_
  refine j_W.one jmfeed_M jmfeed_1 (by decide) (pc' := 2) (st' := [.int 0, .ref km]) rfl ?_
  refine j_W.put jmfeed_M jmfeed_2 (ci := 10) (j := 0) rfl p1 (by have := jk_lt p2; omega) rfl (Or.inl rfl) ?_
  have hz : jtp 10 6 9 0 km kt (fs.set 0 (.int 0)) n (h.set km (.inl (10, fs.set 0 (.int 0)))) := ⟨jk_at p1, by rw [List.getElem?_set_ne (by decide)]; exact p2, by rw [List.getElem?_set_ne (by decide)]; exact p3, tl, by rw [List.getElem?_set_ne (fun z => hne z.symm)]; exact p4, p5⟩
  have hF : jF [km, kt] h (h.set km (.inl (10, fs.set 0 (.int 0)))) := jF.set (by simp)
  have hO : jFo [0, 9] fs (fs.set 0 (.int 0)) := jFo.set (by simp)
  revert hz hF hO
  generalize h.set km (.inl (10, fs.set 0 (.int 0))) = h1
  generalize fs.set 0 (.int 0) = fs1
  intro hz hF hO
  refine j_W.one jmfeed_M jmfeed_5 (by decide) (pc' := 6) (st' := [.ref km]) rfl ?_
  refine j_W.get jmfeed_M jmfeed_6 (ci := 10) (j := 9) rfl hz.1 hz.2.2.1 ?_
  refine j_W.one jmfeed_M jmfeed_9 (by decide) (pc' := 11) (st' := [.int 20, .int (nI n)]) rfl ?_
  refine j_W.one jmfeed_M jmfeed_11 (by decide) (pc' := 12) (st' := [.int (nI (n + 20))]) (by rw [← jk_add]; rfl) ?_
  refine j_W.one jmfeed_M jmfeed_12 (by decide) (pc' := 15) (st' := [.int 700, .int (nI (n + 20))]) rfl ?_
  refine j_W.icmp jmfeed_M jmfeed_15 (t := 20) rfl (fun q => ?_) (fun q => ?_)
  · have q : n + 20 ≤ 700 := by
      have q := of_decide_eq_true q
      rcases Nat.lt_or_ge 700 (n + 20) with z | z
      · exact absurd q (nI_ge z (by omega))
      · exact z
    rw [if_pos q, if_pos q]
    refine j_W.one jmfeed_M jmfeed_20 (by decide) (pc' := 21) (st' := [.ref km]) rfl ?_
    refine j_W.one jmfeed_M jmfeed_21 (by decide) (pc' := 22) (st' := [.int a, .ref km]) rfl ?_
    refine j_W.call jmfeed_M jmfeed_22 rfl (md := 3) (mj := 181) rfl (by decide) jcome_M (As := [.ref km, .int a]) (rest := []) (j_spl3 hz.1 rfl rfl rfl (Nat.zero_le _) (Nat.le_of_ble_eq_true rfl)) (jcome_ok hne (by omega) hz) ?_
    rintro _ h2 ⟨rfl, y1, fs2, x1, z1⟩
    refine j_W.one jmfeed_M jmfeed_25 (by decide) (pc' := 26) (st' := [.ref km]) rfl ?_
    refine j_W.one jmfeed_M jmfeed_26 (by decide) (pc' := 27) (st' := [.int b, .ref km]) rfl ?_
    refine j_W.call jmfeed_M jmfeed_27 rfl (md := 3) (mj := 181) rfl (by decide) jcome_M (As := [.ref km, .int b]) (rest := []) (j_spl3 z1.1 rfl rfl rfl (Nat.zero_le _) (Nat.le_of_ble_eq_true rfl)) (jcome_ok hne (by omega) z1) ?_
    rintro _ h3 ⟨rfl, y2, fs3, x2, z2⟩
    refine j_W.one jmfeed_M jmfeed_30 (by decide) (pc' := 31) (st' := [.ref km]) rfl ?_
    refine j_W.one jmfeed_M jmfeed_31 (by decide) (pc' := 32) (st' := [.int c, .ref km]) rfl ?_
    refine j_W.call jmfeed_M jmfeed_32 rfl (md := 3) (mj := 181) rfl (by decide) jcome_M (As := [.ref km, .int c]) (rest := []) (j_spl3 z2.1 rfl rfl rfl (Nat.zero_le _) (Nat.le_of_ble_eq_true rfl)) (jcome_ok hne (by omega) z2) ?_
    rintro _ h4 ⟨rfl, y3, fs4, x3, z3⟩
    refine j_W.one jmfeed_M jmfeed_35 (by decide) (pc' := 36) (st' := [.ref km]) rfl ?_
    refine j_W.one jmfeed_M jmfeed_36 (by decide) (pc' := 38) (st' := [.int e, .ref km]) rfl ?_
    refine j_W.call jmfeed_M jmfeed_38 rfl (md := 3) (mj := 181) rfl (by decide) jcome_M (As := [.ref km, .int e]) (rest := []) (j_spl3 z3.1 rfl rfl rfl (Nat.zero_le _) (Nat.le_of_ble_eq_true rfl)) (jcome_ok hne (by omega) z3) ?_
    rintro _ h5 ⟨rfl, y4, fs5, x4, z4⟩
    refine j_W.one jmfeed_M jmfeed_41 (by decide) (pc' := 42) (st' := [.ref km]) rfl ?_
    refine j_W.one jmfeed_M jmfeed_42 (by decide) (pc' := 44) (st' := [.int f, .ref km]) rfl ?_
    refine j_W.call jmfeed_M jmfeed_44 rfl (md := 3) (mj := 181) rfl (by decide) jcome_M (As := [.ref km, .int f]) (rest := []) (j_spl3 z4.1 rfl rfl rfl (Nat.zero_le _) (Nat.le_of_ble_eq_true rfl)) (jcome_ok hne (by omega) z4) ?_
    rintro _ h6 ⟨rfl, y5, fs6, x5, z5⟩
    refine j_W.one jmfeed_M jmfeed_47 (by decide) (pc' := 48) (st' := [.ref km]) rfl ?_
    refine j_W.get jmfeed_M jmfeed_48 (ci := 10) (j := 9) rfl z5.1 z5.2.2.1 ?_
    have xs : jFo [0, 9] fs1 fs6 := ((((jk_o9 x1).tr (jk_o9 x2)).tr (jk_o9 x3)).tr (jk_o9 x4)).tr (jk_o9 x5)
    exact j_W.ret jmfeed_M jmfeed_51 rfl rfl ⟨rfl, hF.tr ((((y1.tr y2).tr y3).tr y4).tr y5), fs6, hO.tr xs, z5⟩
  · have q : ¬ n + 20 ≤ 700 := fun z => absurd (nI_le z (by omega)) (of_decide_eq_false q)
    rw [if_neg q, if_neg q]
    refine j_W.one jmfeed_M jmfeed_18 (by decide) (pc' := 19) (st' := [.int (-1)]) rfl ?_
    exact j_W.ret jmfeed_M jmfeed_19 rfl rfl ⟨rfl, hF, fs1, hO, hz⟩
set_option maxRecDepth 100000 in
theorem jxfeed_M : j_meth jP 113 = some (yX9_feed, cX9_feed, 6, (some .int), 5, false, 9) := rfl
set_option maxRecDepth 100000 in
theorem jxfeed_0 : j_code jP 113 0 = some (.aload_n 0) := rfl
set_option maxRecDepth 100000 in
theorem jxfeed_1 : j_code jP 113 1 = some (.getfield 12) := rfl
set_option maxRecDepth 100000 in
theorem jxfeed_4 : j_code jP 113 4 = some (.bipush 20) := rfl
set_option maxRecDepth 100000 in
theorem jxfeed_6 : j_code jP 113 6 = some (.invokevirtual 73) := rfl
set_option maxRecDepth 100000 in
theorem jxfeed_9 : j_code jP 113 9 = some (.ifCond .ne 5) := rfl
set_option maxRecDepth 100000 in
theorem jxfeed_12 : j_code jP 113 12 = some (.iconst (-1)) := rfl
set_option maxRecDepth 100000 in
theorem jxfeed_13 : j_code jP 113 13 = some (.ireturn) := rfl
set_option maxRecDepth 100000 in
theorem jxfeed_14 : j_code jP 113 14 = some (.aload_n 0) := rfl
set_option maxRecDepth 100000 in
theorem jxfeed_15 : j_code jP 113 15 = some (.getfield 12) := rfl
set_option maxRecDepth 100000 in
theorem jxfeed_18 : j_code jP 113 18 = some (.iload_n 1) := rfl
set_option maxRecDepth 100000 in
theorem jxfeed_19 : j_code jP 113 19 = some (.invokevirtual 77) := rfl
set_option maxRecDepth 100000 in
theorem jxfeed_22 : j_code jP 113 22 = some (.aload_n 0) := rfl
set_option maxRecDepth 100000 in
theorem jxfeed_23 : j_code jP 113 23 = some (.getfield 12) := rfl
set_option maxRecDepth 100000 in
theorem jxfeed_26 : j_code jP 113 26 = some (.iload_n 2) := rfl
set_option maxRecDepth 100000 in
theorem jxfeed_27 : j_code jP 113 27 = some (.invokevirtual 77) := rfl
set_option maxRecDepth 100000 in
theorem jxfeed_30 : j_code jP 113 30 = some (.aload_n 0) := rfl
set_option maxRecDepth 100000 in
theorem jxfeed_31 : j_code jP 113 31 = some (.getfield 12) := rfl
set_option maxRecDepth 100000 in
theorem jxfeed_34 : j_code jP 113 34 = some (.iload_n 3) := rfl
set_option maxRecDepth 100000 in
theorem jxfeed_35 : j_code jP 113 35 = some (.invokevirtual 77) := rfl
set_option maxRecDepth 100000 in
theorem jxfeed_38 : j_code jP 113 38 = some (.aload_n 0) := rfl
set_option maxRecDepth 100000 in
theorem jxfeed_39 : j_code jP 113 39 = some (.getfield 12) := rfl
set_option maxRecDepth 100000 in
theorem jxfeed_42 : j_code jP 113 42 = some (.iload 4) := rfl
set_option maxRecDepth 100000 in
theorem jxfeed_44 : j_code jP 113 44 = some (.invokevirtual 77) := rfl
set_option maxRecDepth 100000 in
theorem jxfeed_47 : j_code jP 113 47 = some (.aload_n 0) := rfl
set_option maxRecDepth 100000 in
theorem jxfeed_48 : j_code jP 113 48 = some (.getfield 12) := rfl
set_option maxRecDepth 100000 in
theorem jxfeed_51 : j_code jP 113 51 = some (.iload 5) := rfl
set_option maxRecDepth 100000 in
theorem jxfeed_53 : j_code jP 113 53 = some (.invokevirtual 77) := rfl
set_option maxRecDepth 100000 in
theorem jxfeed_56 : j_code jP 113 56 = some (.aload_n 0) := rfl
set_option maxRecDepth 100000 in
theorem jxfeed_57 : j_code jP 113 57 = some (.getfield 12) := rfl
set_option maxRecDepth 100000 in
theorem jxfeed_60 : j_code jP 113 60 = some (.getfield 81) := rfl
set_option maxRecDepth 100000 in
theorem jxfeed_63 : j_code jP 113 63 = some (.ireturn) := rfl
theorem jxfeed_ok {d kx km kt n : Nat} {a b c e f : Int32} {fx fs : List Value} {h : J_H} (hne : kt ≠ km) (hxm : kx ≠ km) (hxt : kx ≠ kt) (hn : n ≤ 700) (hx : h[kx]? = some (.inl (9, fx))) (hx0 : fx[0]? = some (.ref km)) (hp : jtp 8 0 1 1 km kt fs n h) : j_W jP (d + 2) 113 0 (lv_args 0 [.ref kx, .int a, .int b, .int c, .int e, .int f]) [] h (fun r h' => r = some (.int (if n + 20 ≤ 700 then nI (n + 20) else -1)) ∧ jtQ 8 0 1 1 km kt fs (if n + 20 ≤ 700 then n + 20 else n) h h') := by
  refine j_W.one jxfeed_M jxfeed_0 (by decide) (pc' := 1) (st' := [.ref kx]) rfl ?_
  refine j_W.get jxfeed_M jxfeed_1 (ci := 9) (j := 0) rfl hx hx0 ?_
  refine j_W.one jxfeed_M jxfeed_4 (by decide) (pc' := 6) (st' := [.int (nI 20), .ref km]) rfl ?_
  refine j_W.call jxfeed_M jxfeed_6 rfl (md := 3) (mj := 103) rfl (by decide) jroom_M (As := [.ref km, .int (nI 20)]) (rest := []) (j_spl3 hp.1 rfl rfl rfl (Nat.zero_le _) (Nat.le_of_ble_eq_true rfl)) (jroom_ok hn (by omega) hp) ?_
  rintro _ _ ⟨rfl, rfl⟩
  by_cases q : n + 20 ≤ 700
  · rw [if_pos q, if_pos q, if_pos q]
    refine j_W.ifc jxfeed_M jxfeed_9 (t := 14) rfl (fun q0 => ?_) (fun q0 => absurd q0 (by decide))
    refine j_W.one jxfeed_M jxfeed_14 (by decide) (pc' := 15) (st' := [.ref kx]) rfl ?_
    refine j_W.get jxfeed_M jxfeed_15 (ci := 9) (j := 0) rfl hx hx0 ?_
    refine j_W.one jxfeed_M jxfeed_18 (by decide) (pc' := 19) (st' := [.int a, .ref km]) rfl ?_
    refine j_W.call jxfeed_M jxfeed_19 rfl (md := 3) (mj := 104) rfl (by decide) japp_M (As := [.ref km, .int a]) (rest := []) (j_spl3 hp.1 rfl rfl rfl (Nat.zero_le _) (Nat.le_of_ble_eq_true rfl)) (japp_ok hne (by omega) hp) ?_
    rintro _ h2 ⟨rfl, y1, fs2, x1, z1⟩
    have X1 := (y1.2 kx (by simp [hxm, hxt])).trans hx
    refine j_W.one jxfeed_M jxfeed_22 (by decide) (pc' := 23) (st' := [.ref kx]) rfl ?_
    refine j_W.get jxfeed_M jxfeed_23 (ci := 9) (j := 0) rfl X1 hx0 ?_
    refine j_W.one jxfeed_M jxfeed_26 (by decide) (pc' := 27) (st' := [.int b, .ref km]) rfl ?_
    refine j_W.call jxfeed_M jxfeed_27 rfl (md := 3) (mj := 104) rfl (by decide) japp_M (As := [.ref km, .int b]) (rest := []) (j_spl3 z1.1 rfl rfl rfl (Nat.zero_le _) (Nat.le_of_ble_eq_true rfl)) (japp_ok hne (by omega) z1) ?_
    rintro _ h3 ⟨rfl, y2, fs3, x2, z2⟩
    have X2 := (y2.2 kx (by simp [hxm, hxt])).trans X1
    refine j_W.one jxfeed_M jxfeed_30 (by decide) (pc' := 31) (st' := [.ref kx]) rfl ?_
    refine j_W.get jxfeed_M jxfeed_31 (ci := 9) (j := 0) rfl X2 hx0 ?_
    refine j_W.one jxfeed_M jxfeed_34 (by decide) (pc' := 35) (st' := [.int c, .ref km]) rfl ?_
    refine j_W.call jxfeed_M jxfeed_35 rfl (md := 3) (mj := 104) rfl (by decide) japp_M (As := [.ref km, .int c]) (rest := []) (j_spl3 z2.1 rfl rfl rfl (Nat.zero_le _) (Nat.le_of_ble_eq_true rfl)) (japp_ok hne (by omega) z2) ?_
    rintro _ h4 ⟨rfl, y3, fs4, x3, z3⟩
    have X3 := (y3.2 kx (by simp [hxm, hxt])).trans X2
    refine j_W.one jxfeed_M jxfeed_38 (by decide) (pc' := 39) (st' := [.ref kx]) rfl ?_
    refine j_W.get jxfeed_M jxfeed_39 (ci := 9) (j := 0) rfl X3 hx0 ?_
    refine j_W.one jxfeed_M jxfeed_42 (by decide) (pc' := 44) (st' := [.int e, .ref km]) rfl ?_
    refine j_W.call jxfeed_M jxfeed_44 rfl (md := 3) (mj := 104) rfl (by decide) japp_M (As := [.ref km, .int e]) (rest := []) (j_spl3 z3.1 rfl rfl rfl (Nat.zero_le _) (Nat.le_of_ble_eq_true rfl)) (japp_ok hne (by omega) z3) ?_
    rintro _ h5 ⟨rfl, y4, fs5, x4, z4⟩
    have X4 := (y4.2 kx (by simp [hxm, hxt])).trans X3
    refine j_W.one jxfeed_M jxfeed_47 (by decide) (pc' := 48) (st' := [.ref kx]) rfl ?_
    refine j_W.get jxfeed_M jxfeed_48 (ci := 9) (j := 0) rfl X4 hx0 ?_
    refine j_W.one jxfeed_M jxfeed_51 (by decide) (pc' := 53) (st' := [.int f, .ref km]) rfl ?_
    refine j_W.call jxfeed_M jxfeed_53 rfl (md := 3) (mj := 104) rfl (by decide) japp_M (As := [.ref km, .int f]) (rest := []) (j_spl3 z4.1 rfl rfl rfl (Nat.zero_le _) (Nat.le_of_ble_eq_true rfl)) (japp_ok hne (by omega) z4) ?_
    rintro _ h6 ⟨rfl, y5, fs6, x5, z5⟩
    have X5 := (y5.2 kx (by simp [hxm, hxt])).trans X4
    refine j_W.one jxfeed_M jxfeed_56 (by decide) (pc' := 57) (st' := [.ref kx]) rfl ?_
    refine j_W.get jxfeed_M jxfeed_57 (ci := 9) (j := 0) rfl X5 hx0 ?_
    refine j_W.get jxfeed_M jxfeed_60 (ci := 8) (j := 1) rfl z5.1 z5.2.2.1 ?_
    exact j_W.ret jxfeed_M jxfeed_63 rfl rfl ⟨rfl, (((y1.tr y2).tr y3).tr y4).tr y5, fs6, (((x1.tr x2).tr x3).tr x4).tr x5, z5⟩
  · rw [if_neg q, if_neg q, if_neg q]
    refine j_W.ifc jxfeed_M jxfeed_9 (t := 14) rfl (fun q0 => absurd q0 (by decide)) (fun q0 => ?_)
    refine j_W.one jxfeed_M jxfeed_12 (by decide) (pc' := 13) (st' := [.int (-1)]) rfl ?_
    exact j_W.ret jxfeed_M jxfeed_13 rfl rfl ⟨rfl, jF.rf, fs, jFo.rf, hp⟩
theorem jtp_hx : jtp 8 0 1 1 1 2 [.ref 2, .int 0, .int 0, .int 0, .int 0, .int 0, .long 0, .int 0] 0 jH := ⟨by decide +kernel, rfl, rfl, List.replicate 700 0, by decide +kernel, List.length_replicate⟩
def jm_fs : List Value := match jHm with
  | .inl (_, fs) :: _ => fs
  | _ => []
theorem jtp_hm {h : J_H} (hh : ∀ k, 359 ≤ k → h[k]? = jH[k]?) : ∃ fs, jtp 10 6 9 0 359 365 fs 0 h := by
  refine ⟨jm_fs, by rw [hh 359 (by omega)]; decide +kernel, rfl, rfl, List.replicate 700 0, by rw [hh 365 (by omega)]; decide +kernel, List.length_replicate⟩
theorem jz_feed (a b c e f : Int32) : jz_ok 113 182 [.int a, .int b, .int c, .int e, .int f] := by
  refine ⟨20, ?_, ?_⟩
  · have hx : jH[0]? = some (.inl (9, [.ref 1, .ref 3, .ref 4, .ref 29, .ref 281, .ref 325, .ref 327, .ref 343, .int 0])) := by decide +kernel
    refine (jxfeed_ok (d := 6) (kx := 0) (by decide) (by decide) (by decide) (by decide) hx rfl jtp_hx).mono ?_
    rintro r h' ⟨rfl, y, -⟩
    exact ⟨rfl, y.1.trans jH_size.2.1, fun k hk => y.2 k (by simp; omega)⟩
  · intro h hl hh
    obtain ⟨fs, hp⟩ := jtp_hm hh
    refine (jmfeed_ok (d := 7) (by decide) (by decide) hp).mono ?_
    rintro r h' ⟨rfl, y, -⟩
    exact ⟨rfl, y.1.trans hl⟩

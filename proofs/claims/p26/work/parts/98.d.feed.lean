/-! the tape: feed of both sides, for any heap; written by wip/p3/gen_feed.py -/
def jFo (js : List Nat) (fs fs' : List Value) : Prop := fs'.length = fs.length ∧ ∀ j, j ∉ js → fs'[j]? = fs[j]?
theorem jFo.rf {js : List Nat} {fs : List Value} : jFo js fs fs := ⟨rfl, fun _ _ => rfl⟩
theorem jFo.tr {js : List Nat} {h h1 h2 : List Value} (a : jFo js h h1) (b : jFo js h1 h2) : jFo js h h2 := ⟨b.1.trans a.1, fun k hk => (b.2 k hk).trans (a.2 k hk)⟩
theorem jFo.set {js : List Nat} {fs : List Value} {k : Nat} {c : Value} (hk : k ∈ js) : jFo js fs (fs.set k c) := ⟨by simp, fun j hj => List.getElem?_set_ne (fun (e : k = j) => hj (e ▸ hk))⟩
theorem jk_fo {fs : List Value} {k : Nat} {c c' : Value} (hc : fs[k]? = some c) : (fs.set k c')[k]? = some c' := List.getElem?_set_self (List.getElem?_eq_some_iff.mp hc).1
/-- a tape (700 ints, kind kd, in the field jt), of which n (field jl) are told -/
def jtp (ci jt jl kd : Nat) (km kt : Nat) (fs : List Value) (n : Nat) (h : J_H) : Prop := h[km]? = some (.inl (ci, fs)) ∧ fs[jt]? = some (.ref kt) ∧ fs[jl]? = some (.int (nI n)) ∧ ∃ tl : List Int32, h[kt]? = some (.inr (.inl (kd, tl))) ∧ tl.length = 700
/-- n more bytes -/
def jtQ (ci jt jl kd : Nat) (km kt : Nat) (fs : List Value) (n : Nat) (h h' : J_H) : Prop := jF [km, kt] h h' ∧ ∃ fs' : List Value, jFo [jl] fs fs' ∧ jtp ci jt jl kd km kt fs' n h'
theorem jtQ.tr {ci jt jl kd km kt : Nat} {fs : List Value} {n m : Nat} {h h1 h2 : J_H} (a : jtQ ci jt jl kd km kt fs n h h1) (b : ∀ fs', jtp ci jt jl kd km kt fs' n h1 → jtQ ci jt jl kd km kt fs' m h1 h2) : jtQ ci jt jl kd km kt fs m h h2 := by
  obtain ⟨a1, fs1, a2, a3⟩ := a
  obtain ⟨b1, fs2, b2, b3⟩ := b fs1 a3
  exact ⟨a1.tr b1, fs2, a2.tr b2, b3⟩
theorem jtp.step {ci jt jl kd km kt : Nat} {fs : List Value} {n : Nat} {h : J_H} {tl tl' : List Int32} (hp : jtp ci jt jl kd km kt fs n h) (hne : kt ≠ km) (hj : jt ≠ jl) (hkt : h[kt]? = some (.inr (.inl (kd, tl)))) (hl : tl'.length = 700) : jtQ ci jt jl kd km kt fs (n + 1) h ((h.set kt (.inr (.inl (kd, tl')))).set km (.inl (ci, fs.set jl (.int (nI (n + 1)))))) := by
  obtain ⟨p1, p2, p3, -⟩ := hp
  refine ⟨(jF.set (by simp)).tr (jF.set (by simp)), fs.set jl (.int (nI (n + 1))), jFo.set (by simp), ?_, ?_, ?_, tl', ?_, hl⟩
  · exact jk_at (c := .inl (ci, fs)) (by rw [List.getElem?_set_ne hne]; exact p1)
  · rw [List.getElem?_set_ne (fun e => hj e.symm)]; exact p2
  · exact jk_fo p3
  · rw [List.getElem?_set_ne (fun e => hne e.symm)]; exact jk_at hkt
/-- the shift of the m-th byte from the last -/
def jk_sh : Nat → Int32
  | 0 => -8
  | m + 1 => nI (8 * m)
theorem jk_sh_s (m : Nat) : jk_sh (m + 1) + Int32.ofInt (-8) = jk_sh m := by
  cases m with
  | zero => decide
  | succ m =>
    show nI (8 * (m + 1)) + Int32.ofInt (-8) = nI (8 * m)
    have e : nI (8 * (m + 1)) = nI (8 * m) + 8 := by
      show Int32.ofNat (8 * (m + 1)) = Int32.ofNat (8 * m) + 8
      rw [Nat.mul_add, Int32.ofNat_add]
      rfl
    rw [e, Int32.add_assoc, show (8 : Int32) + Int32.ofInt (-8) = 0 by decide, Int32.add_zero]
theorem jk_sh_neg (m : Nat) (h : m < 100) : ¬ jk_sh (m + 1) < 0 := nI_pos (by omega)
theorem jtp.goes {ci jt jl kd km kt d mi pc : Nat} {lv : J_L} {fs : List Value} {n m N : Nat} {h : J_H} {tl tl' : List Int32} (hp : jtp ci jt jl kd km kt fs n h) (hne : kt ≠ km) (hj : jt ≠ jl) (hkt : h[kt]? = some (.inr (.inl (kd, tl)))) (hl : tl'.length = 700) (k : ∀ fs2, jtp ci jt jl kd km kt fs2 (n + 1) ((h.set kt (.inr (.inl (kd, tl')))).set km (.inl (ci, fs.set jl (.int (nI (n + 1)))))) → j_W jP d mi pc lv [] ((h.set kt (.inr (.inl (kd, tl')))).set km (.inl (ci, fs.set jl (.int (nI (n + 1)))))) (fun r h' => r = none ∧ jtQ ci jt jl kd km kt fs2 N ((h.set kt (.inr (.inl (kd, tl')))).set km (.inl (ci, fs.set jl (.int (nI (n + 1)))))) h')) (hN : N = n + m) : j_W jP d mi pc lv [] ((h.set kt (.inr (.inl (kd, tl')))).set km (.inl (ci, fs.set jl (.int (nI (n + 1)))))) (fun r h' => r = none ∧ jtQ ci jt jl kd km kt fs (n + m) h h') := by
  have hq := jtp.step (tl' := tl') hp hne hj hkt hl
  have hq0 := hq
  obtain ⟨q1, fs2, q2, q3⟩ := hq
  refine (k fs2 q3).mono ?_
  rintro r h' ⟨rfl, a⟩
  subst hN
  obtain ⟨a1, fs3, a2, a3⟩ := a
  exact ⟨rfl, q1.tr a1, fs3, q2.tr a2, a3⟩
theorem j_W.bast {P : j_P} {d mi pc : Nat} {lv : J_L} {st : List Value} {h : J_H} {Q : Option Value → J_H → Prop} {M : j_M} {k kd : Nat} {l : List Int32} {i x : Int32} (hM : j_meth P mi = some M) (hc : j_code P mi pc = some .bastore) (hk : h[k]? = some (.inr (.inl (kd, l)))) (hkd : kd ≠ 0) (hi : j_ix i l.length = true) (kk : j_W P d mi (pc + 1) lv st (h.set k (.inr (.inl (kd, l.set i.toNatClampNeg x.toInt8.toInt32)))) Q) : j_W P d mi pc lv (.int x :: .int i :: .ref k :: st) h Q := by
  refine j_W.one hM hc ⟨fun z => (by cases z), fun z => (by cases z)⟩ (pcJ := pc + 1) (lv' := lv) (stJ := st) (h' := h.set k (.inr (.inl (kd, l.set i.toNatClampNeg x.toInt8.toInt32)))) ?_ kk
  simp only [j_one, j_kd, j_ast, hk, j_ln]
  rw [if_pos ⟨hkd, hi⟩]
  rfl
set_option maxRecDepth 100000 in
theorem jcome_M : j_meth jP 180 = some (yX10_come, cX10_come, 3, none, 1, false, 10) := rfl
set_option maxRecDepth 100000 in
theorem jcome_0 : j_code jP 180 0 = some (.bipush 24) := rfl
set_option maxRecDepth 100000 in
theorem jcome_2 : j_code jP 180 2 = some (.istore_n 2) := rfl
set_option maxRecDepth 100000 in
theorem jcome_3 : j_code jP 180 3 = some (.iload_n 2) := rfl
set_option maxRecDepth 100000 in
theorem jcome_4 : j_code jP 180 4 = some (.ifCond .lt 35) := rfl
set_option maxRecDepth 100000 in
theorem jcome_7 : j_code jP 180 7 = some (.aload_n 0) := rfl
set_option maxRecDepth 100000 in
theorem jcome_8 : j_code jP 180 8 = some (.getfield 25) := rfl
set_option maxRecDepth 100000 in
theorem jcome_11 : j_code jP 180 11 = some (.aload_n 0) := rfl
set_option maxRecDepth 100000 in
theorem jcome_12 : j_code jP 180 12 = some (.getfield 76) := rfl
set_option maxRecDepth 100000 in
theorem jcome_15 : j_code jP 180 15 = some (.iload_n 1) := rfl
set_option maxRecDepth 100000 in
theorem jcome_16 : j_code jP 180 16 = some (.iload_n 2) := rfl
set_option maxRecDepth 100000 in
theorem jcome_17 : j_code jP 180 17 = some (.iushr) := rfl
set_option maxRecDepth 100000 in
theorem jcome_18 : j_code jP 180 18 = some (.sipush 255) := rfl
set_option maxRecDepth 100000 in
theorem jcome_21 : j_code jP 180 21 = some (.iand) := rfl
set_option maxRecDepth 100000 in
theorem jcome_22 : j_code jP 180 22 = some (.iastore) := rfl
set_option maxRecDepth 100000 in
theorem jcome_23 : j_code jP 180 23 = some (.aload_n 0) := rfl
set_option maxRecDepth 100000 in
theorem jcome_24 : j_code jP 180 24 = some (.dup) := rfl
set_option maxRecDepth 100000 in
theorem jcome_25 : j_code jP 180 25 = some (.getfield 76) := rfl
set_option maxRecDepth 100000 in
theorem jcome_28 : j_code jP 180 28 = some (.iconst 1) := rfl
set_option maxRecDepth 100000 in
theorem jcome_29 : j_code jP 180 29 = some (.iadd) := rfl
set_option maxRecDepth 100000 in
theorem jcome_30 : j_code jP 180 30 = some (.putfield 76) := rfl
set_option maxRecDepth 100000 in
theorem jcome_33 : j_code jP 180 33 = some (.iinc 2 (-8)) := rfl
set_option maxRecDepth 100000 in
theorem jcome_36 : j_code jP 180 36 = some (.goto (-33)) := rfl
set_option maxRecDepth 100000 in
theorem jcome_39 : j_code jP 180 39 = some (.return_) := rfl
theorem jcome_loop {d km kt : Nat} {w : Int32} (hne : kt ≠ km) : ∀ (m n : Nat) (fs : List Value) (h : J_H), n + m ≤ 700 → m ≤ 4 → jtp 10 6 9 0 km kt fs n h → j_W jP d 180 3 [(2, .int (jk_sh m)), (0, .ref km), (1, .int w)] [] h (fun r h' => r = none ∧ jtQ 10 6 9 0 km kt fs (n + m) h h') := by
  intro m
  induction m with
  | zero =>
    intro n fs h hn hm hp
    refine j_W.one jcome_M jcome_3 (by decide) (pcJ := 4) (stJ := [.int (jk_sh 0)]) rfl ?_
    refine j_W.ifc jcome_M jcome_4 (t := 39) rfl (fun c => ?_) (fun c => ?_)
    · exact j_W.ret jcome_M jcome_39 rfl rfl ⟨rfl, jF.rf, fs, jFo.rf, hp⟩
    · exact absurd c (by decide)
  | succ m ih =>
    intro n fs h hn hm hp
    have hp0 := hp
    obtain ⟨p1, p2, p3, tl, p4, p5⟩ := hp
    refine j_W.one jcome_M jcome_3 (by decide) (pcJ := 4) (stJ := [.int (jk_sh (m + 1))]) rfl ?_
    refine j_W.ifc jcome_M jcome_4 (t := 39) rfl (fun c => ?_) (fun c => ?_)
    · exact absurd (of_decide_eq_true c) (jk_sh_neg m (by omega))
    · skip
      refine j_W.one jcome_M jcome_7 (by decide) (pcJ := 8) (stJ := [.ref km]) rfl ?_
      refine j_W.get jcome_M jcome_8 (ci := 10) (j := 6) rfl p1 p2 ?_
      refine j_W.one jcome_M jcome_11 (by decide) (pcJ := 12) (stJ := [.ref km, .ref kt]) rfl ?_
      refine j_W.get jcome_M jcome_12 (ci := 10) (j := 9) rfl p1 p3 ?_
      refine j_W.one jcome_M jcome_15 (by decide) (pcJ := 16) (stJ := [.int w, .int (nI n), .ref kt]) rfl ?_
      refine j_W.one jcome_M jcome_16 (by decide) (pcJ := 17) (stJ := [.int (jk_sh (m + 1)), .int w, .int (nI n), .ref kt]) rfl ?_
      refine j_W.one jcome_M jcome_17 (by decide) (pcJ := 18) (stJ := [.int ((w.toUInt32 >>> ((jk_sh (m + 1)).toUInt32 &&& Int32.toUInt32 31)).toInt32), .int (nI n), .ref kt]) rfl ?_
      refine j_W.one jcome_M jcome_18 (by decide) (pcJ := 21) (stJ := [.int 255, .int ((w.toUInt32 >>> ((jk_sh (m + 1)).toUInt32 &&& Int32.toUInt32 31)).toInt32), .int (nI n), .ref kt]) rfl ?_
      refine j_W.one jcome_M jcome_21 (by decide) (pcJ := 22) (stJ := [.int ((w.toUInt32 >>> ((jk_sh (m + 1)).toUInt32 &&& Int32.toUInt32 31)).toInt32 &&& 255), .int (nI n), .ref kt]) rfl ?_
      refine j_W.iast jcome_M jcome_22 (l := tl) p4 (by rw [p5]; exact jk_ix (by omega) (by omega)) ?_
      refine j_W.one jcome_M jcome_23 (by decide) (pcJ := 24) (stJ := [.ref km]) rfl ?_
      refine j_W.one jcome_M jcome_24 (by decide) (pcJ := 25) (stJ := [.ref km, .ref km]) rfl ?_
      refine j_W.get jcome_M jcome_25 (ci := 10) (j := 9) rfl (by rw [List.getElem?_set_ne hne]; exact p1) p3 ?_
      refine j_W.one jcome_M jcome_28 (by decide) (pcJ := 29) (stJ := [.int 1, .int (nI n), .ref km]) rfl ?_
      refine j_W.one jcome_M jcome_29 (by decide) (pcJ := 30) (stJ := [.int (nI (n + 1)), .ref km]) (by rw [nI_succ]; rfl) ?_
      refine j_W.put jcome_M jcome_30 (ci := 10) (j := 9) rfl (by rw [List.getElem?_set_ne hne]; exact p1) (jk_lt p3) rfl (Or.inl rfl) ?_
      refine j_W.one jcome_M jcome_33 (by decide) (pcJ := 36) (lv' := [(2, .int (jk_sh m)), (0, .ref km), (1, .int w)]) (stJ := []) (by rw [← jk_sh_s m]; rfl) ?_
      refine j_W.gto jcome_M jcome_36 (t := 3) rfl ?_
      exact jtp.goes hp0 hne (by decide) p4 (by rw [List.length_set]; exact p5) (fun fs2 hz => ih (n + 1) fs2 _ (by omega) (by omega) hz) (by omega)
theorem jcome_ok {d km kt n : Nat} {w : Int32} {fs : List Value} {h : J_H} (hne : kt ≠ km) (hn : n + 4 ≤ 700) (hp : jtp 10 6 9 0 km kt fs n h) : j_W jP d 180 0 (lv_args 0 [.ref km, .int w]) [] h (fun r h' => r = none ∧ jtQ 10 6 9 0 km kt fs (n + 4) h h') := by
  refine j_W.one jcome_M jcome_0 (by decide) (pcJ := 2) (stJ := [.int 24]) rfl ?_
  refine j_W.one jcome_M jcome_2 (by decide) (pcJ := 3) (lv' := [(2, .int (jk_sh 4)), (0, .ref km), (1, .int w)]) (stJ := []) rfl ?_
  exact jcome_loop hne 4 n fs h hn (by omega) hp
set_option maxRecDepth 100000 in
theorem jroom_M : j_meth jP 103 = some (yX8_hasRoom, cX8_hasRoom, 2, (some .boolean), 1, false, 8) := rfl
set_option maxRecDepth 100000 in
theorem jroom_0 : j_code jP 103 0 = some (.aload_n 0) := rfl
set_option maxRecDepth 100000 in
theorem jroom_1 : j_code jP 103 1 = some (.getfield 15) := rfl
set_option maxRecDepth 100000 in
theorem jroom_4 : j_code jP 103 4 = some (.iload_n 1) := rfl
set_option maxRecDepth 100000 in
theorem jroom_5 : j_code jP 103 5 = some (.iadd) := rfl
set_option maxRecDepth 100000 in
theorem jroom_6 : j_code jP 103 6 = some (.sipush 700) := rfl
set_option maxRecDepth 100000 in
theorem jroom_9 : j_code jP 103 9 = some (.if_icmp .gt 7) := rfl
set_option maxRecDepth 100000 in
theorem jroom_12 : j_code jP 103 12 = some (.iconst 1) := rfl
set_option maxRecDepth 100000 in
theorem jroom_13 : j_code jP 103 13 = some (.goto 4) := rfl
set_option maxRecDepth 100000 in
theorem jroom_16 : j_code jP 103 16 = some (.iconst 0) := rfl
set_option maxRecDepth 100000 in
theorem jroom_17 : j_code jP 103 17 = some (.ireturn) := rfl
theorem jroom_ok {d km kt n k : Nat} {fs : List Value} {h : J_H} (hn : n ≤ 700) (hk : k ≤ 700) (hp : jtp 8 0 1 1 km kt fs n h) : j_W jP d 103 0 (lv_args 0 [.ref km, .int (nI k)]) [] h (fun r h' => h' = h ∧ r = some (.int (if n + k ≤ 700 then 1 else 0))) := by
  obtain ⟨p1, p2, p3, tl, p4, p5⟩ := hp
  refine j_W.one jroom_M jroom_0 (by decide) (pcJ := 1) (stJ := [.ref km]) rfl ?_
  refine j_W.get jroom_M jroom_1 (ci := 8) (j := 1) rfl p1 p3 ?_
  refine j_W.one jroom_M jroom_4 (by decide) (pcJ := 5) (stJ := [.int (nI k), .int (nI n)]) rfl ?_
  refine j_W.one jroom_M jroom_5 (by decide) (pcJ := 6) (stJ := [.int (nI (n + k))]) (by rw [← jk_add]; rfl) ?_
  refine j_W.one jroom_M jroom_6 (by decide) (pcJ := 9) (stJ := [.int 700, .int (nI (n + k))]) rfl ?_
  refine j_W.icmp jroom_M jroom_9 (t := 16) rfl (fun c => ?_) (fun c => ?_)
  · have c : ¬ n + k ≤ 700 := fun z => nI_nlt (a := 700) (b := n + k) z (by omega) (of_decide_eq_true c)
    rw [if_neg c]
    refine j_W.one jroom_M jroom_16 (by decide) (pcJ := 17) (stJ := [.int 0]) rfl ?_
    exact j_W.ret jroom_M jroom_17 rfl rfl ⟨rfl, rfl⟩
  · have c : n + k ≤ 700 := by
      have c := of_decide_eq_false c
      rcases Nat.lt_or_ge 700 (n + k) with z | z
      · exact absurd (nI_lt z (by omega)) c
      · exact z
    rw [if_pos c]
    refine j_W.one jroom_M jroom_12 (by decide) (pcJ := 13) (stJ := [.int 1]) rfl ?_
    refine j_W.gto jroom_M jroom_13 (t := 17) rfl ?_
    exact j_W.ret jroom_M jroom_17 rfl rfl ⟨rfl, rfl⟩
set_option maxRecDepth 100000 in
theorem japp_M : j_meth jP 104 = some (yX8_append, cX8_append, 3, none, 1, false, 8) := rfl
set_option maxRecDepth 100000 in
theorem japp_0 : j_code jP 104 0 = some (.aload_n 0) := rfl
set_option maxRecDepth 100000 in
theorem japp_1 : j_code jP 104 1 = some (.iconst 4) := rfl
set_option maxRecDepth 100000 in
theorem japp_2 : j_code jP 104 2 = some (.invokevirtual 19) := rfl
set_option maxRecDepth 100000 in
theorem japp_5 : j_code jP 104 5 = some (.ifCond .ne 4) := rfl
set_option maxRecDepth 100000 in
theorem japp_8 : j_code jP 104 8 = some (.return_) := rfl
set_option maxRecDepth 100000 in
theorem japp_9 : j_code jP 104 9 = some (.bipush 24) := rfl
set_option maxRecDepth 100000 in
theorem japp_11 : j_code jP 104 11 = some (.istore_n 2) := rfl
set_option maxRecDepth 100000 in
theorem japp_12 : j_code jP 104 12 = some (.iload_n 2) := rfl
set_option maxRecDepth 100000 in
theorem japp_13 : j_code jP 104 13 = some (.ifCond .lt 32) := rfl
set_option maxRecDepth 100000 in
theorem japp_16 : j_code jP 104 16 = some (.aload_n 0) := rfl
set_option maxRecDepth 100000 in
theorem japp_17 : j_code jP 104 17 = some (.getfield 9) := rfl
set_option maxRecDepth 100000 in
theorem japp_20 : j_code jP 104 20 = some (.aload_n 0) := rfl
set_option maxRecDepth 100000 in
theorem japp_21 : j_code jP 104 21 = some (.getfield 15) := rfl
set_option maxRecDepth 100000 in
theorem japp_24 : j_code jP 104 24 = some (.iload_n 1) := rfl
set_option maxRecDepth 100000 in
theorem japp_25 : j_code jP 104 25 = some (.iload_n 2) := rfl
set_option maxRecDepth 100000 in
theorem japp_26 : j_code jP 104 26 = some (.ishr) := rfl
set_option maxRecDepth 100000 in
theorem japp_27 : j_code jP 104 27 = some (.i2b) := rfl
set_option maxRecDepth 100000 in
theorem japp_28 : j_code jP 104 28 = some (.bastore) := rfl
set_option maxRecDepth 100000 in
theorem japp_29 : j_code jP 104 29 = some (.aload_n 0) := rfl
set_option maxRecDepth 100000 in
theorem japp_30 : j_code jP 104 30 = some (.dup) := rfl
set_option maxRecDepth 100000 in
theorem japp_31 : j_code jP 104 31 = some (.getfield 15) := rfl
set_option maxRecDepth 100000 in
theorem japp_34 : j_code jP 104 34 = some (.iconst 1) := rfl
set_option maxRecDepth 100000 in
theorem japp_35 : j_code jP 104 35 = some (.iadd) := rfl
set_option maxRecDepth 100000 in
theorem japp_36 : j_code jP 104 36 = some (.putfield 15) := rfl
set_option maxRecDepth 100000 in
theorem japp_39 : j_code jP 104 39 = some (.iinc 2 (-8)) := rfl
set_option maxRecDepth 100000 in
theorem japp_42 : j_code jP 104 42 = some (.goto (-30)) := rfl
set_option maxRecDepth 100000 in
theorem japp_45 : j_code jP 104 45 = some (.return_) := rfl
theorem japp_loop {d km kt : Nat} {w : Int32} (hne : kt ≠ km) : ∀ (m n : Nat) (fs : List Value) (h : J_H), n + m ≤ 700 → m ≤ 4 → jtp 8 0 1 1 km kt fs n h → j_W jP d 104 12 [(2, .int (jk_sh m)), (0, .ref km), (1, .int w)] [] h (fun r h' => r = none ∧ jtQ 8 0 1 1 km kt fs (n + m) h h') := by
  intro m
  induction m with
  | zero =>
    intro n fs h hn hm hp
    refine j_W.one japp_M japp_12 (by decide) (pcJ := 13) (stJ := [.int (jk_sh 0)]) rfl ?_
    refine j_W.ifc japp_M japp_13 (t := 45) rfl (fun c => ?_) (fun c => ?_)
    · exact j_W.ret japp_M japp_45 rfl rfl ⟨rfl, jF.rf, fs, jFo.rf, hp⟩
    · exact absurd c (by decide)
  | succ m ih =>
    intro n fs h hn hm hp
    have hp0 := hp
    obtain ⟨p1, p2, p3, tl, p4, p5⟩ := hp
    refine j_W.one japp_M japp_12 (by decide) (pcJ := 13) (stJ := [.int (jk_sh (m + 1))]) rfl ?_
    refine j_W.ifc japp_M japp_13 (t := 45) rfl (fun c => ?_) (fun c => ?_)
    · exact absurd (of_decide_eq_true c) (jk_sh_neg m (by omega))
    · skip
      refine j_W.one japp_M japp_16 (by decide) (pcJ := 17) (stJ := [.ref km]) rfl ?_
      refine j_W.get japp_M japp_17 (ci := 8) (j := 0) rfl p1 p2 ?_
      refine j_W.one japp_M japp_20 (by decide) (pcJ := 21) (stJ := [.ref km, .ref kt]) rfl ?_
      refine j_W.get japp_M japp_21 (ci := 8) (j := 1) rfl p1 p3 ?_
      refine j_W.one japp_M japp_24 (by decide) (pcJ := 25) (stJ := [.int w, .int (nI n), .ref kt]) rfl ?_
      refine j_W.one japp_M japp_25 (by decide) (pcJ := 26) (stJ := [.int (jk_sh (m + 1)), .int w, .int (nI n), .ref kt]) rfl ?_
      refine j_W.one japp_M japp_26 (by decide) (pcJ := 27) (stJ := [.int (w >>> (jk_sh (m + 1) &&& 31)), .int (nI n), .ref kt]) rfl ?_
      refine j_W.one japp_M japp_27 (by decide) (pcJ := 28) (stJ := [.int (w >>> (jk_sh (m + 1) &&& 31)).toInt8.toInt32, .int (nI n), .ref kt]) rfl ?_
      refine j_W.bast japp_M japp_28 (l := tl) p4 (by decide) (by rw [p5]; exact jk_ix (by omega) (by omega)) ?_
      refine j_W.one japp_M japp_29 (by decide) (pcJ := 30) (stJ := [.ref km]) rfl ?_
      refine j_W.one japp_M japp_30 (by decide) (pcJ := 31) (stJ := [.ref km, .ref km]) rfl ?_
      refine j_W.get japp_M japp_31 (ci := 8) (j := 1) rfl (by rw [List.getElem?_set_ne hne]; exact p1) p3 ?_
      refine j_W.one japp_M japp_34 (by decide) (pcJ := 35) (stJ := [.int 1, .int (nI n), .ref km]) rfl ?_
      refine j_W.one japp_M japp_35 (by decide) (pcJ := 36) (stJ := [.int (nI (n + 1)), .ref km]) (by rw [nI_succ]; rfl) ?_
      refine j_W.put japp_M japp_36 (ci := 8) (j := 1) rfl (by rw [List.getElem?_set_ne hne]; exact p1) (jk_lt p3) rfl (Or.inl rfl) ?_
      refine j_W.one japp_M japp_39 (by decide) (pcJ := 42) (lv' := [(2, .int (jk_sh m)), (0, .ref km), (1, .int w)]) (stJ := []) (by rw [← jk_sh_s m]; rfl) ?_
      refine j_W.gto japp_M japp_42 (t := 12) rfl ?_
      exact jtp.goes hp0 hne (by decide) p4 (by rw [List.length_set]; exact p5) (fun fs2 hz => ih (n + 1) fs2 _ (by omega) (by omega) hz) (by omega)
theorem j_rcv_ok {ci k : Nat} {h : J_H} {fs r : List Value} (hk : h[k]? = some (.inl (ci, fs))) : j_rcv 3 ci h (.ref k :: r) = true := by
  simp only [j_rcv, hk, decide_true]
theorem j_spl3 {N : j_M} {k ci : Nat} {h : J_H} {fs as rest st : List Value} (hk : h[k]? = some (.inl (ci, fs))) (hci : j_ci N = ci) (hst : st = as.reverse ++ .ref k :: rest) (hn : as.length = j_np N) (hs : (rest.map fun v => v.category).sum ≤ 8) (hl : (lg_sl (.ref k :: as)).length ≤ j_nL N) : j_spl 3 N h st = some (.ref k :: as, rest) := by
  subst hst
  have e0 : j_nar 3 (j_np N) = as.reverse.length + 1 := by rw [List.length_reverse, hn]; rfl
  have e9 : as.reverse ++ Value.ref k :: rest = (as.reverse ++ [Value.ref k]) ++ rest := by simp
  have e8 : (as.reverse ++ [Value.ref k]).length = as.reverse.length + 1 := by simp
  have e1 : (as.reverse ++ .ref k :: rest).take (as.reverse.length + 1) = as.reverse ++ [.ref k] := by rw [e9, ← e8]; exact List.take_left
  have e2 : (as.reverse ++ .ref k :: rest).drop (as.reverse.length + 1) = rest := by rw [e9, ← e8]; exact List.drop_left
  unfold j_spl
  rw [e0, e1, e2]
  have e3 : (as.reverse ++ [Value.ref k]).reverse = .ref k :: as := by simp
  rw [e3, if_pos ⟨by simp, hs, hl, by rw [hci]; exact j_rcv_ok hk⟩]
theorem japp_ok {d km kt n : Nat} {w : Int32} {fs : List Value} {h : J_H} (hne : kt ≠ km) (hn : n + 4 ≤ 700) (hp : jtp 8 0 1 1 km kt fs n h) : j_W jP (d + 1) 104 0 (lv_args 0 [.ref km, .int w]) [] h (fun r h' => r = none ∧ jtQ 8 0 1 1 km kt fs (n + 4) h h') := by
  refine j_W.one japp_M japp_0 (by decide) (pcJ := 1) (stJ := [.ref km]) rfl ?_
  refine j_W.one japp_M japp_1 (by decide) (pcJ := 2) (stJ := [.int (nI 4), .ref km]) rfl ?_
  refine j_W.call japp_M japp_2 rfl (md := 3) (mj := 103) rfl (by decide) jroom_M (As := [.ref km, .int (nI 4)]) (rest := []) (j_spl3 hp.1 rfl rfl rfl (Nat.zero_le _) (Nat.le_of_ble_eq_true rfl)) (jroom_ok (by omega) (by omega) hp) ?_
  rintro r h' ⟨rfl, rfl⟩
  rw [if_pos hn]
  refine j_W.ifc japp_M japp_5 (t := 9) rfl (fun c => ?_) (fun c => ?_)
  · refine j_W.one japp_M japp_9 (by decide) (pcJ := 11) (stJ := [.int 24]) rfl ?_
    refine j_W.one japp_M japp_11 (by decide) (pcJ := 12) (lv' := [(2, .int (jk_sh 4)), (0, .ref km), (1, .int w)]) (stJ := []) rfl ?_
    exact japp_loop hne 4 n fs _ hn (by omega) hp
  · exact absurd c (by decide)
set_option maxRecDepth 100000 in
theorem jmfeed_M : j_meth jP 181 = some (yX10_feed, cX10_feed, 6, (some .int), 5, false, 10) := rfl
set_option maxRecDepth 100000 in
theorem jmfeed_0 : j_code jP 181 0 = some (.aload_n 0) := rfl
set_option maxRecDepth 100000 in
theorem jmfeed_1 : j_code jP 181 1 = some (.iconst 0) := rfl
set_option maxRecDepth 100000 in
theorem jmfeed_2 : j_code jP 181 2 = some (.putfield 55) := rfl
set_option maxRecDepth 100000 in
theorem jmfeed_5 : j_code jP 181 5 = some (.aload_n 0) := rfl
set_option maxRecDepth 100000 in
theorem jmfeed_6 : j_code jP 181 6 = some (.getfield 76) := rfl
set_option maxRecDepth 100000 in
theorem jmfeed_9 : j_code jP 181 9 = some (.bipush 20) := rfl
set_option maxRecDepth 100000 in
theorem jmfeed_11 : j_code jP 181 11 = some (.iadd) := rfl
set_option maxRecDepth 100000 in
theorem jmfeed_12 : j_code jP 181 12 = some (.sipush 700) := rfl
set_option maxRecDepth 100000 in
theorem jmfeed_15 : j_code jP 181 15 = some (.if_icmp .le 5) := rfl
set_option maxRecDepth 100000 in
theorem jmfeed_18 : j_code jP 181 18 = some (.iconst (-1)) := rfl
set_option maxRecDepth 100000 in
theorem jmfeed_19 : j_code jP 181 19 = some (.ireturn) := rfl
set_option maxRecDepth 100000 in
theorem jmfeed_20 : j_code jP 181 20 = some (.aload_n 0) := rfl
set_option maxRecDepth 100000 in
theorem jmfeed_21 : j_code jP 181 21 = some (.iload_n 1) := rfl
set_option maxRecDepth 100000 in
theorem jmfeed_22 : j_code jP 181 22 = some (.invokevirtual 79) := rfl
set_option maxRecDepth 100000 in
theorem jmfeed_25 : j_code jP 181 25 = some (.aload_n 0) := rfl
set_option maxRecDepth 100000 in
theorem jmfeed_26 : j_code jP 181 26 = some (.iload_n 2) := rfl
set_option maxRecDepth 100000 in
theorem jmfeed_27 : j_code jP 181 27 = some (.invokevirtual 79) := rfl
set_option maxRecDepth 100000 in
theorem jmfeed_30 : j_code jP 181 30 = some (.aload_n 0) := rfl
set_option maxRecDepth 100000 in
theorem jmfeed_31 : j_code jP 181 31 = some (.iload_n 3) := rfl
set_option maxRecDepth 100000 in
theorem jmfeed_32 : j_code jP 181 32 = some (.invokevirtual 79) := rfl
set_option maxRecDepth 100000 in
theorem jmfeed_35 : j_code jP 181 35 = some (.aload_n 0) := rfl
set_option maxRecDepth 100000 in
theorem jmfeed_36 : j_code jP 181 36 = some (.iload 4) := rfl
set_option maxRecDepth 100000 in
theorem jmfeed_38 : j_code jP 181 38 = some (.invokevirtual 79) := rfl
set_option maxRecDepth 100000 in
theorem jmfeed_41 : j_code jP 181 41 = some (.aload_n 0) := rfl
set_option maxRecDepth 100000 in
theorem jmfeed_42 : j_code jP 181 42 = some (.iload 5) := rfl
set_option maxRecDepth 100000 in
theorem jmfeed_44 : j_code jP 181 44 = some (.invokevirtual 79) := rfl
set_option maxRecDepth 100000 in
theorem jmfeed_47 : j_code jP 181 47 = some (.aload_n 0) := rfl
set_option maxRecDepth 100000 in
theorem jmfeed_48 : j_code jP 181 48 = some (.getfield 76) := rfl
set_option maxRecDepth 100000 in
theorem jmfeed_51 : j_code jP 181 51 = some (.ireturn) := rfl
theorem jk_o9 {fs fs2 : List Value} (x : jFo [9] fs fs2) : jFo [0, 9] fs fs2 := ⟨x.1, fun k hk => x.2 k (fun z => hk (List.mem_cons_of_mem _ z))⟩
theorem jmfeed_ok {d km kt n : Nat} {a b c e f : Int32} {fs : List Value} {h : J_H} (hne : kt ≠ km) (hn : n ≤ 700) (hp : jtp 10 6 9 0 km kt fs n h) : j_W jP (d + 1) 181 0 (lv_args 0 [.ref km, .int a, .int b, .int c, .int e, .int f]) [] h (fun r h' => r = some (.int (if n + 20 ≤ 700 then nI (n + 20) else -1)) ∧ jF [km, kt] h h' ∧ ∃ fs', jFo [0, 9] fs fs' ∧ jtp 10 6 9 0 km kt fs' (if n + 20 ≤ 700 then n + 20 else n) h') := by
  have hp0 := hp
  obtain ⟨p1, p2, p3, tl, p4, p5⟩ := hp
  refine j_W.one jmfeed_M jmfeed_0 (by decide) (pcJ := 1) (stJ := [.ref km]) rfl ?_
  refine j_W.one jmfeed_M jmfeed_1 (by decide) (pcJ := 2) (stJ := [.int 0, .ref km]) rfl ?_
  refine j_W.put jmfeed_M jmfeed_2 (ci := 10) (j := 0) rfl p1 (by have := jk_lt p2; omega) rfl (Or.inl rfl) ?_
  have hz : jtp 10 6 9 0 km kt (fs.set 0 (.int 0)) n (h.set km (.inl (10, fs.set 0 (.int 0)))) := ⟨jk_at p1, by rw [List.getElem?_set_ne (by decide)]; exact p2, by rw [List.getElem?_set_ne (by decide)]; exact p3, tl, by rw [List.getElem?_set_ne (fun z => hne z.symm)]; exact p4, p5⟩
  have hF : jF [km, kt] h (h.set km (.inl (10, fs.set 0 (.int 0)))) := jF.set (by simp)
  have hO : jFo [0, 9] fs (fs.set 0 (.int 0)) := jFo.set (by simp)
  revert hz hF hO
  generalize h.set km (.inl (10, fs.set 0 (.int 0))) = h1
  generalize fs.set 0 (.int 0) = fs1
  intro hz hF hO
  refine j_W.one jmfeed_M jmfeed_5 (by decide) (pcJ := 6) (stJ := [.ref km]) rfl ?_
  refine j_W.get jmfeed_M jmfeed_6 (ci := 10) (j := 9) rfl hz.1 hz.2.2.1 ?_
  refine j_W.one jmfeed_M jmfeed_9 (by decide) (pcJ := 11) (stJ := [.int 20, .int (nI n)]) rfl ?_
  refine j_W.one jmfeed_M jmfeed_11 (by decide) (pcJ := 12) (stJ := [.int (nI (n + 20))]) (by rw [← jk_add]; rfl) ?_
  refine j_W.one jmfeed_M jmfeed_12 (by decide) (pcJ := 15) (stJ := [.int 700, .int (nI (n + 20))]) rfl ?_
  refine j_W.icmp jmfeed_M jmfeed_15 (t := 20) rfl (fun q => ?_) (fun q => ?_)
  · have q : n + 20 ≤ 700 := by
      have q := of_decide_eq_true q
      rcases Nat.lt_or_ge 700 (n + 20) with z | z
      · exact absurd q (nI_ge z (by omega))
      · exact z
    rw [if_pos q, if_pos q]
    refine j_W.one jmfeed_M jmfeed_20 (by decide) (pcJ := 21) (stJ := [.ref km]) rfl ?_
    refine j_W.one jmfeed_M jmfeed_21 (by decide) (pcJ := 22) (stJ := [.int a, .ref km]) rfl ?_
    refine j_W.call jmfeed_M jmfeed_22 rfl (md := 3) (mj := 180) rfl (by decide) jcome_M (As := [.ref km, .int a]) (rest := []) (j_spl3 hz.1 rfl rfl rfl (Nat.zero_le _) (Nat.le_of_ble_eq_true rfl)) (jcome_ok hne (by omega) hz) ?_
    rintro _ h2 ⟨rfl, y1, fs2, x1, z1⟩
    refine j_W.one jmfeed_M jmfeed_25 (by decide) (pcJ := 26) (stJ := [.ref km]) rfl ?_
    refine j_W.one jmfeed_M jmfeed_26 (by decide) (pcJ := 27) (stJ := [.int b, .ref km]) rfl ?_
    refine j_W.call jmfeed_M jmfeed_27 rfl (md := 3) (mj := 180) rfl (by decide) jcome_M (As := [.ref km, .int b]) (rest := []) (j_spl3 z1.1 rfl rfl rfl (Nat.zero_le _) (Nat.le_of_ble_eq_true rfl)) (jcome_ok hne (by omega) z1) ?_
    rintro _ h3 ⟨rfl, y2, fs3, x2, z2⟩
    refine j_W.one jmfeed_M jmfeed_30 (by decide) (pcJ := 31) (stJ := [.ref km]) rfl ?_
    refine j_W.one jmfeed_M jmfeed_31 (by decide) (pcJ := 32) (stJ := [.int c, .ref km]) rfl ?_
    refine j_W.call jmfeed_M jmfeed_32 rfl (md := 3) (mj := 180) rfl (by decide) jcome_M (As := [.ref km, .int c]) (rest := []) (j_spl3 z2.1 rfl rfl rfl (Nat.zero_le _) (Nat.le_of_ble_eq_true rfl)) (jcome_ok hne (by omega) z2) ?_
    rintro _ h4 ⟨rfl, y3, fs4, x3, z3⟩
    refine j_W.one jmfeed_M jmfeed_35 (by decide) (pcJ := 36) (stJ := [.ref km]) rfl ?_
    refine j_W.one jmfeed_M jmfeed_36 (by decide) (pcJ := 38) (stJ := [.int e, .ref km]) rfl ?_
    refine j_W.call jmfeed_M jmfeed_38 rfl (md := 3) (mj := 180) rfl (by decide) jcome_M (As := [.ref km, .int e]) (rest := []) (j_spl3 z3.1 rfl rfl rfl (Nat.zero_le _) (Nat.le_of_ble_eq_true rfl)) (jcome_ok hne (by omega) z3) ?_
    rintro _ h5 ⟨rfl, y4, fs5, x4, z4⟩
    refine j_W.one jmfeed_M jmfeed_41 (by decide) (pcJ := 42) (stJ := [.ref km]) rfl ?_
    refine j_W.one jmfeed_M jmfeed_42 (by decide) (pcJ := 44) (stJ := [.int f, .ref km]) rfl ?_
    refine j_W.call jmfeed_M jmfeed_44 rfl (md := 3) (mj := 180) rfl (by decide) jcome_M (As := [.ref km, .int f]) (rest := []) (j_spl3 z4.1 rfl rfl rfl (Nat.zero_le _) (Nat.le_of_ble_eq_true rfl)) (jcome_ok hne (by omega) z4) ?_
    rintro _ h6 ⟨rfl, y5, fs6, x5, z5⟩
    refine j_W.one jmfeed_M jmfeed_47 (by decide) (pcJ := 48) (stJ := [.ref km]) rfl ?_
    refine j_W.get jmfeed_M jmfeed_48 (ci := 10) (j := 9) rfl z5.1 z5.2.2.1 ?_
    have xs : jFo [0, 9] fs1 fs6 := ((((jk_o9 x1).tr (jk_o9 x2)).tr (jk_o9 x3)).tr (jk_o9 x4)).tr (jk_o9 x5)
    exact j_W.ret jmfeed_M jmfeed_51 rfl rfl ⟨rfl, hF.tr ((((y1.tr y2).tr y3).tr y4).tr y5), fs6, hO.tr xs, z5⟩
  · have q : ¬ n + 20 ≤ 700 := fun z => absurd (nI_le z (by omega)) (of_decide_eq_false q)
    rw [if_neg q, if_neg q]
    refine j_W.one jmfeed_M jmfeed_18 (by decide) (pcJ := 19) (stJ := [.int (-1)]) rfl ?_
    exact j_W.ret jmfeed_M jmfeed_19 rfl rfl ⟨rfl, hF, fs1, hO, hz⟩
set_option maxRecDepth 100000 in
theorem jxfeed_M : j_meth jP 113 = some (yX9_feed, cX9_feed, 6, (some .int), 5, false, 9) := rfl
set_option maxRecDepth 100000 in
theorem jxfeed_0 : j_code jP 113 0 = some (.aload_n 0) := rfl
set_option maxRecDepth 100000 in
theorem jxfeed_1 : j_code jP 113 1 = some (.getfield 12) := rfl
set_option maxRecDepth 100000 in
theorem jxfeed_4 : j_code jP 113 4 = some (.bipush 20) := rfl
set_option maxRecDepth 100000 in
theorem jxfeed_6 : j_code jP 113 6 = some (.invokevirtual 73) := rfl
set_option maxRecDepth 100000 in
theorem jxfeed_9 : j_code jP 113 9 = some (.ifCond .ne 5) := rfl
set_option maxRecDepth 100000 in
theorem jxfeed_12 : j_code jP 113 12 = some (.iconst (-1)) := rfl
set_option maxRecDepth 100000 in
theorem jxfeed_13 : j_code jP 113 13 = some (.ireturn) := rfl
set_option maxRecDepth 100000 in
theorem jxfeed_14 : j_code jP 113 14 = some (.aload_n 0) := rfl
set_option maxRecDepth 100000 in
theorem jxfeed_15 : j_code jP 113 15 = some (.getfield 12) := rfl
set_option maxRecDepth 100000 in
theorem jxfeed_18 : j_code jP 113 18 = some (.iload_n 1) := rfl
set_option maxRecDepth 100000 in
theorem jxfeed_19 : j_code jP 113 19 = some (.invokevirtual 77) := rfl
set_option maxRecDepth 100000 in
theorem jxfeed_22 : j_code jP 113 22 = some (.aload_n 0) := rfl
set_option maxRecDepth 100000 in
theorem jxfeed_23 : j_code jP 113 23 = some (.getfield 12) := rfl
set_option maxRecDepth 100000 in
theorem jxfeed_26 : j_code jP 113 26 = some (.iload_n 2) := rfl
set_option maxRecDepth 100000 in
theorem jxfeed_27 : j_code jP 113 27 = some (.invokevirtual 77) := rfl
set_option maxRecDepth 100000 in
theorem jxfeed_30 : j_code jP 113 30 = some (.aload_n 0) := rfl
set_option maxRecDepth 100000 in
theorem jxfeed_31 : j_code jP 113 31 = some (.getfield 12) := rfl
set_option maxRecDepth 100000 in
theorem jxfeed_34 : j_code jP 113 34 = some (.iload_n 3) := rfl
set_option maxRecDepth 100000 in
theorem jxfeed_35 : j_code jP 113 35 = some (.invokevirtual 77) := rfl
set_option maxRecDepth 100000 in
theorem jxfeed_38 : j_code jP 113 38 = some (.aload_n 0) := rfl
set_option maxRecDepth 100000 in
theorem jxfeed_39 : j_code jP 113 39 = some (.getfield 12) := rfl
set_option maxRecDepth 100000 in
theorem jxfeed_42 : j_code jP 113 42 = some (.iload 4) := rfl
set_option maxRecDepth 100000 in
theorem jxfeed_44 : j_code jP 113 44 = some (.invokevirtual 77) := rfl
set_option maxRecDepth 100000 in
theorem jxfeed_47 : j_code jP 113 47 = some (.aload_n 0) := rfl
set_option maxRecDepth 100000 in
theorem jxfeed_48 : j_code jP 113 48 = some (.getfield 12) := rfl
set_option maxRecDepth 100000 in
theorem jxfeed_51 : j_code jP 113 51 = some (.iload 5) := rfl
set_option maxRecDepth 100000 in
theorem jxfeed_53 : j_code jP 113 53 = some (.invokevirtual 77) := rfl
set_option maxRecDepth 100000 in
theorem jxfeed_56 : j_code jP 113 56 = some (.aload_n 0) := rfl
set_option maxRecDepth 100000 in
theorem jxfeed_57 : j_code jP 113 57 = some (.getfield 12) := rfl
set_option maxRecDepth 100000 in
theorem jxfeed_60 : j_code jP 113 60 = some (.getfield 81) := rfl
set_option maxRecDepth 100000 in
theorem jxfeed_63 : j_code jP 113 63 = some (.ireturn) := rfl
theorem jxfeed_ok {d kx km kt n : Nat} {a b c e f : Int32} {fx fs : List Value} {h : J_H} (hne : kt ≠ km) (hxm : kx ≠ km) (hxt : kx ≠ kt) (hn : n ≤ 700) (hx : h[kx]? = some (.inl (9, fx))) (hx0 : fx[0]? = some (.ref km)) (hp : jtp 8 0 1 1 km kt fs n h) : j_W jP (d + 2) 113 0 (lv_args 0 [.ref kx, .int a, .int b, .int c, .int e, .int f]) [] h (fun r h' => r = some (.int (if n + 20 ≤ 700 then nI (n + 20) else -1)) ∧ jtQ 8 0 1 1 km kt fs (if n + 20 ≤ 700 then n + 20 else n) h h') := by
  refine j_W.one jxfeed_M jxfeed_0 (by decide) (pcJ := 1) (stJ := [.ref kx]) rfl ?_
  refine j_W.get jxfeed_M jxfeed_1 (ci := 9) (j := 0) rfl hx hx0 ?_
  refine j_W.one jxfeed_M jxfeed_4 (by decide) (pcJ := 6) (stJ := [.int (nI 20), .ref km]) rfl ?_
  refine j_W.call jxfeed_M jxfeed_6 rfl (md := 3) (mj := 103) rfl (by decide) jroom_M (As := [.ref km, .int (nI 20)]) (rest := []) (j_spl3 hp.1 rfl rfl rfl (Nat.zero_le _) (Nat.le_of_ble_eq_true rfl)) (jroom_ok hn (by omega) hp) ?_
  rintro _ _ ⟨rfl, rfl⟩
  by_cases q : n + 20 ≤ 700
  · rw [if_pos q, if_pos q, if_pos q]
    refine j_W.ifc jxfeed_M jxfeed_9 (t := 14) rfl (fun _ => ?_) (fun z => absurd z (by decide))
    refine j_W.one jxfeed_M jxfeed_14 (by decide) (pcJ := 15) (stJ := [.ref kx]) rfl ?_
    refine j_W.get jxfeed_M jxfeed_15 (ci := 9) (j := 0) rfl hx hx0 ?_
    refine j_W.one jxfeed_M jxfeed_18 (by decide) (pcJ := 19) (stJ := [.int a, .ref km]) rfl ?_
    refine j_W.call jxfeed_M jxfeed_19 rfl (md := 3) (mj := 104) rfl (by decide) japp_M (As := [.ref km, .int a]) (rest := []) (j_spl3 hp.1 rfl rfl rfl (Nat.zero_le _) (Nat.le_of_ble_eq_true rfl)) (japp_ok hne (by omega) hp) ?_
    rintro _ h2 ⟨rfl, y1, fs2, x1, z1⟩
    have X1 := (y1.2 kx (by simp [hxm, hxt])).trans hx
    refine j_W.one jxfeed_M jxfeed_22 (by decide) (pcJ := 23) (stJ := [.ref kx]) rfl ?_
    refine j_W.get jxfeed_M jxfeed_23 (ci := 9) (j := 0) rfl X1 hx0 ?_
    refine j_W.one jxfeed_M jxfeed_26 (by decide) (pcJ := 27) (stJ := [.int b, .ref km]) rfl ?_
    refine j_W.call jxfeed_M jxfeed_27 rfl (md := 3) (mj := 104) rfl (by decide) japp_M (As := [.ref km, .int b]) (rest := []) (j_spl3 z1.1 rfl rfl rfl (Nat.zero_le _) (Nat.le_of_ble_eq_true rfl)) (japp_ok hne (by omega) z1) ?_
    rintro _ h3 ⟨rfl, y2, fs3, x2, z2⟩
    have X2 := (y2.2 kx (by simp [hxm, hxt])).trans X1
    refine j_W.one jxfeed_M jxfeed_30 (by decide) (pcJ := 31) (stJ := [.ref kx]) rfl ?_
    refine j_W.get jxfeed_M jxfeed_31 (ci := 9) (j := 0) rfl X2 hx0 ?_
    refine j_W.one jxfeed_M jxfeed_34 (by decide) (pcJ := 35) (stJ := [.int c, .ref km]) rfl ?_
    refine j_W.call jxfeed_M jxfeed_35 rfl (md := 3) (mj := 104) rfl (by decide) japp_M (As := [.ref km, .int c]) (rest := []) (j_spl3 z2.1 rfl rfl rfl (Nat.zero_le _) (Nat.le_of_ble_eq_true rfl)) (japp_ok hne (by omega) z2) ?_
    rintro _ h4 ⟨rfl, y3, fs4, x3, z3⟩
    have X3 := (y3.2 kx (by simp [hxm, hxt])).trans X2
    refine j_W.one jxfeed_M jxfeed_38 (by decide) (pcJ := 39) (stJ := [.ref kx]) rfl ?_
    refine j_W.get jxfeed_M jxfeed_39 (ci := 9) (j := 0) rfl X3 hx0 ?_
    refine j_W.one jxfeed_M jxfeed_42 (by decide) (pcJ := 44) (stJ := [.int e, .ref km]) rfl ?_
    refine j_W.call jxfeed_M jxfeed_44 rfl (md := 3) (mj := 104) rfl (by decide) japp_M (As := [.ref km, .int e]) (rest := []) (j_spl3 z3.1 rfl rfl rfl (Nat.zero_le _) (Nat.le_of_ble_eq_true rfl)) (japp_ok hne (by omega) z3) ?_
    rintro _ h5 ⟨rfl, y4, fs5, x4, z4⟩
    have X4 := (y4.2 kx (by simp [hxm, hxt])).trans X3
    refine j_W.one jxfeed_M jxfeed_47 (by decide) (pcJ := 48) (stJ := [.ref kx]) rfl ?_
    refine j_W.get jxfeed_M jxfeed_48 (ci := 9) (j := 0) rfl X4 hx0 ?_
    refine j_W.one jxfeed_M jxfeed_51 (by decide) (pcJ := 53) (stJ := [.int f, .ref km]) rfl ?_
    refine j_W.call jxfeed_M jxfeed_53 rfl (md := 3) (mj := 104) rfl (by decide) japp_M (As := [.ref km, .int f]) (rest := []) (j_spl3 z4.1 rfl rfl rfl (Nat.zero_le _) (Nat.le_of_ble_eq_true rfl)) (japp_ok hne (by omega) z4) ?_
    rintro _ h6 ⟨rfl, y5, fs6, x5, z5⟩
    have X5 := (y5.2 kx (by simp [hxm, hxt])).trans X4
    refine j_W.one jxfeed_M jxfeed_56 (by decide) (pcJ := 57) (stJ := [.ref kx]) rfl ?_
    refine j_W.get jxfeed_M jxfeed_57 (ci := 9) (j := 0) rfl X5 hx0 ?_
    refine j_W.get jxfeed_M jxfeed_60 (ci := 8) (j := 1) rfl z5.1 z5.2.2.1 ?_
    exact j_W.ret jxfeed_M jxfeed_63 rfl rfl ⟨rfl, (((y1.tr y2).tr y3).tr y4).tr y5, fs6, (((x1.tr x2).tr x3).tr x4).tr x5, z5⟩
  · rw [if_neg q, if_neg q, if_neg q]
    refine j_W.ifc jxfeed_M jxfeed_9 (t := 14) rfl (fun c => absurd c (by decide)) (fun c => ?_)
    refine j_W.one jxfeed_M jxfeed_12 (by decide) (pcJ := 13) (stJ := [.int (-1)]) rfl ?_
    exact j_W.ret jxfeed_M jxfeed_13 rfl rfl ⟨rfl, jF.rf, fs, jFo.rf, hp⟩


theorem i_ob {E : jc_E} {X : J_H → Prop} {r : jc_R} {t : jc_T} {A : jc_A} {h : J_H} {a ci n : Nat} {d : jc_Dd} (hg : jc_g E X r t A h) (hd : ja_n2 E.1 a = some d) (he : d.1 = (0, ci, n)) : ∃ fs : List Value, h[a]? = some (.inl (ci, fs)) ∧ fs.length = n ∧ ∀ i, jc_at h a i = fs[i]? := by
  obtain ⟨c, c1, c2, -⟩ := hg.2.1 a d hd
  rw [he] at c2
  rcases c with f | f | l | l
  · obtain ⟨k, fs⟩ := f
    have e1 : k = ci := congrArg (fun q => q.2.1) c2
    subst e1
    exact ⟨fs, c1, congrArg (fun q => q.2.2) c2, fun i => by rw [jc_at_of c1]; rfl⟩
  · cases c2
  · cases c2
  · cases c2
theorem i_ar {E : jc_E} {X : J_H → Prop} {r : jc_R} {t : jc_T} {A : jc_A} {h : J_H} {a kd n : Nat} {d : jc_Dd} (hg : jc_g E X r t A h) (hd : ja_n2 E.1 a = some d) (he : d.1 = (1, kd, n)) : ∃ l : List Int32, h[a]? = some (.inr (.inl (kd, l))) ∧ l.length = n := by
  obtain ⟨c, c1, c2, -⟩ := hg.2.1 a d hd
  rw [he] at c2
  rcases c with f | f | l | l
  · cases c2
  · obtain ⟨k, l⟩ := f
    have e1 : k = kd := congrArg (fun q => q.2.1) c2
    subst e1
    exact ⟨l, c1, congrArg (fun q => q.2.2) c2⟩
  · cases c2
  · cases c2
/-- how many twenties of bytes are told behind feed -/
def i_fk (k : Nat) : Nat := if 20 * k + 20 ≤ 700 then k + 1 else k
def i_fa (k : Nat) : Int32 := if 20 * k + 20 ≤ 700 then nI (20 * k + 20) else -1
theorem i_fk_eq (k : Nat) : (if 20 * k + 20 ≤ 700 then 20 * k + 20 else 20 * k) = 20 * i_fk k := by
  unfold i_fk
  split <;> omega
set_option maxRecDepth 100000 in
theorem i_tx {X : J_H → Prop} {r : jc_R} {t : jc_T} {O : List (Nat × jc_v)} {Of : List Nat} {h : J_H} (hg : jc_g jxe X r t (i_st O Of) h) (hO : jc_lk O 0 = none ∧ jc_lk O 8192 = none) {n : Nat} (hL : jc_at h 1 1 = some (.int (nI n))) : (∃ fx, h[0]? = some (.inl (9, fx)) ∧ fx[0]? = some (.ref 1)) ∧ ∃ fs, jtp 8 0 1 1 1 2 fs n h := by
  obtain ⟨fx, x1, x2, x3⟩ := i_ob (a := 0) hg rfl rfl
  obtain ⟨fs, y1, y2, y3⟩ := i_ob (a := 1) hg rfl rfl
  obtain ⟨tl, z1, z2⟩ := i_ar (a := 2) hg rfl rfl
  obtain ⟨v, v1, v2⟩ := hg.atT (a := 0) (i := 0) rfl (by decide) hO.1 rfl
  obtain ⟨w, w1, w2⟩ := hg.atT (a := 1) (i := 0) rfl (by decide) hO.2 rfl
  refine ⟨⟨fx, x1, by rw [← x3, v1, jm_tvr v2]⟩, fs, y1, by rw [← y3, w1, jm_tvr w2], by rw [← y3, hL], tl, z1, z2⟩
theorem i_feedx {h : J_H} {n : Nat} (hn : n ≤ 700) {fx fs : List Value} (h0 : h[0]? = some (.inl (9, fx))) (hx : fx[0]? = some (.ref 1)) (hp : jtp 8 0 1 1 1 2 fs n h) (x1 x2 x3 x4 x5 : Int32) : j_W jP 15 113 0 (lv_args 0 [.ref 0, .int x1, .int x2, .int x3, .int x4, .int x5]) [] h (fun rv h' => rv = some (.int (if n + 20 ≤ 700 then nI (n + 20) else -1)) ∧ jc_at h' 1 1 = some (.int (nI (if n + 20 ≤ 700 then n + 20 else n)))) := by
  refine (jxfeed_ok (d := 13) (kx := 0) (by decide) (by decide) (by decide) hn h0 hx hp).mono ?_
  rintro rv h' ⟨rfl, -, fs', -, q1, -, q3, -⟩
  exact ⟨rfl, by rw [jc_at_of q1]; exact q3⟩
theorem pX_feed {k : Nat} (hk : k < 36) (x1 x2 x3 x4 x5 : Int32) {h : J_H} (hI : IC h) (hL : jc_at h 1 1 = some (.int (nI (20 * k)))) : j_W jP 15 113 0 (lv_args 0 [.ref 0, .int x1, .int x2, .int x3, .int x4, .int x5]) [] h (fun rv h' => (rv = some (.int (i_fa k)) ∧ IC h' ∧ i_fx h h') ∧ jc_at h' 1 1 = some (.int (nI (20 * i_fk k)))) := by
  rcases hI with hI | hI
  · obtain ⟨r, t, hg⟩ := id hI
    obtain ⟨⟨fx, a1, a2⟩, fs, a3⟩ := i_tx (X := jxs_X 30 327) hg ⟨rfl, rfl⟩ hL
    refine (((pIA_feed x1 x2 x3 x4 x5 hI).and (i_feedx (by omega) a1 a2 a3 x1 x2 x3 x4 x5)).same jS_ok (by decide +kernel)).mono ?_
    rintro rv h' ⟨⟨⟨-, b2, b3⟩, b4, b5⟩, b6⟩
    rw [i_fk_eq] at b5
    exact ⟨⟨b4, Or.inl b2, b6, i_Wx_ok pIA_feedW b3⟩, b5⟩
  · obtain ⟨r, t, hg⟩ := id hI
    obtain ⟨⟨fx, a1, a2⟩, fs, a3⟩ := i_tx (X := jxs_X 40 343) hg ⟨rfl, rfl⟩ hL
    refine (((pIB_feed x1 x2 x3 x4 x5 hI).and (i_feedx (by omega) a1 a2 a3 x1 x2 x3 x4 x5)).same jS_ok (by decide +kernel)).mono ?_
    rintro rv h' ⟨⟨⟨-, b2, b3⟩, b4, b5⟩, b6⟩
    rw [i_fk_eq] at b5
    exact ⟨⟨b4, Or.inr b2, b6, i_Wx_ok pIB_feedW b3⟩, b5⟩
set_option maxRecDepth 100000 in
theorem i_tm {r : jc_R} {t : jc_T} {h : J_H} (hg : jc_g jxm jm_X r t (i_st [] iFM) h) {n : Nat} (hL : jc_at h 359 9 = some (.int (nI n))) : ∃ fs, jtp 10 6 9 0 359 365 fs n h := by
  obtain ⟨fs, y1, y2, y3⟩ := i_ob (a := 359) hg rfl rfl
  obtain ⟨tl, z1, z2⟩ := i_ar (a := 365) hg rfl rfl
  obtain ⟨w, w1, w2⟩ := hg.atT (a := 359) (i := 6) rfl (by decide) rfl rfl
  exact ⟨fs, y1, by rw [← y3, w1, jm_tvr w2], by rw [← y3, hL], tl, z1, z2⟩
theorem pM_feed {k : Nat} (hk : k < 36) (x1 x2 x3 x4 x5 : Int32) {h : J_H} (hI : IM h) (hL : jc_at h 359 9 = some (.int (nI (20 * k)))) : j_W jP 15 181 0 (lv_args 0 [.ref 359, .int x1, .int x2, .int x3, .int x4, .int x5]) [] h (fun rv h' => (rv = some (.int (i_fa k)) ∧ IM h' ∧ i_fm h h') ∧ jc_at h' 359 9 = some (.int (nI (20 * i_fk k)))) := by
  obtain ⟨r, t, hg⟩ := id hI
  obtain ⟨fs, a3⟩ := i_tm hg hL
  have w : j_W jP 15 181 0 (lv_args 0 [.ref 359, .int x1, .int x2, .int x3, .int x4, .int x5]) [] h (fun rv h' => rv = some (.int (if 20 * k + 20 ≤ 700 then nI (20 * k + 20) else -1)) ∧ jc_at h' 359 9 = some (.int (nI (if 20 * k + 20 ≤ 700 then 20 * k + 20 else 20 * k)))) := by
    refine (jmfeed_ok (d := 14) (by decide) (by omega) a3).mono ?_
    rintro rv h' ⟨rfl, -, fs', -, q1, -, q3, -⟩
    exact ⟨rfl, by rw [jc_at_of q1]; exact q3⟩
  refine (((pIM_feed x1 x2 x3 x4 x5 hI).and w).same jS_ok (by decide +kernel)).mono ?_
  rintro rv h' ⟨⟨⟨-, b2, b3⟩, b4, b5⟩, b6⟩
  rw [i_fk_eq] at b5
  exact ⟨⟨b4, b2, b6, i_Wm_ok pIM_feedW b3⟩, b5⟩

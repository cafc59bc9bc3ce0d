/-! tapes and faults of both sides between calls; calls of both, one behind the other: written by wip/p5/gen_pairs.py -/
theorem i_mapint {x y : Option Int32} (h : x.map Value.int = y.map Value.int) : x = y := by
  cases x with
  | none => cases y with
    | none => rfl
    | some y => cases h
  | some x => cases y with
    | none => cases h
    | some y =>
      have h := Option.some.inj h
      injection h with h
      rw [h]
theorem i_cellI {h h' : J_H} {a kd : Nat} {m : List Int32} (hs : j_same h h') (hf : ∀ i, jc_at h' a i = jc_at h a i) (hm : h[a]? = some (.inr (.inl (kd, m)))) : h'[a]? = some (.inr (.inl (kd, m))) := by
  obtain ⟨c', c1, c2⟩ := hs.2 a _ hm
  rcases c' with f | f | l | l
  · cases c2
  · obtain ⟨k, m'⟩ := f
    have e1 : k = kd := congrArg (fun q => q.2.1) c2
    subst e1
    have e3 : m' = m := by
      apply List.ext_getElem?
      intro i
      have := hf i
      rw [jc_at_of c1, jc_at_of hm] at this
      exact i_mapint this
    rw [e3] at c1
    exact c1
  · cases c2
  · cases c2
theorem i_cellE {h h' : J_H} {a i : Nat} (he : h'[a]? = h[a]?) : jc_at h' a i = jc_at h a i := by
  unfold jc_at
  rw [he]
/-- the bytes below are the same; so are fault and place -/
def la_T (k : Nat) (h : J_H) : Prop := (∃ l m : List Int32, h[2]? = some (.inr (.inl (1, l))) ∧ h[365]? = some (.inr (.inl (0, m))) ∧ l.length = 700 ∧ m.length = 700 ∧ bA9 l m (20 * k)) ∧ jc_at h 3 2 = jc_at h 359 11 ∧ jc_at h 3 3 = jc_at h 359 12
/-- what holds between the law's calls: both sides' invariants, k twenties of bytes on both tapes -/
def la_S (k : Nat) (h : J_H) : Prop := ((IC h ∧ IM h) ∧ jc_at h 1 1 = some (.int (nI (20 * k))) ∧ jc_at h 359 9 = some (.int (nI (20 * k)))) ∧ k < 36 ∧ j_same la_h9 h ∧ la_T k h
def la_I (h : J_H) : Prop := ∃ k, la_S k h
theorem la_T.kx {k : Nat} {h h1 : J_H} (H : la_T k h) (f : i_fx h h1) (kx : i_kx h h1) : la_T k h1 := by
  obtain ⟨⟨l, m, a1, a2, a3⟩, b1, b2⟩ := H
  exact ⟨⟨l, m, i_cellI f.1 kx.1 a1, i_cellI f.1 (fun i => f.2 365 i (by decide)) a2, a3⟩, by rw [kx.2.1, f.2 359 11 (by decide)]; exact b1, by rw [kx.2.2, f.2 359 12 (by decide)]; exact b2⟩
theorem la_T.km {k : Nat} {h h1 : J_H} (H : la_T k h) (f : i_fm h h1) (km : i_km h h1) : la_T k h1 := by
  obtain ⟨⟨l, m, a1, a2, a3⟩, b1, b2⟩ := H
  exact ⟨⟨l, m, i_cellI f.1 (fun i => f.2 2 i (by decide)) a1, i_cellI f.1 km.1 a2, a3⟩, by rw [km.2.1, f.2 3 2 (by decide)]; exact b1, by rw [km.2.2, f.2 3 3 (by decide)]; exact b2⟩
theorem la_S.kx {k : Nat} {h h1 : J_H} (H : la_S k h) (c : IC h1) (f : i_fx h h1) (e : jc_at h1 1 1 = jc_at h 1 1) (kx : i_kx h h1) : la_S k h1 :=
  ⟨⟨⟨c, H.1.1.2.oth f⟩, e.trans H.1.2.1, (f.2 359 9 (by decide)).trans H.1.2.2⟩, H.2.1, H.2.2.1.tr f.1, H.2.2.2.kx f kx⟩
theorem la_S.km {k : Nat} {h h1 : J_H} (H : la_S k h) (c : IM h1) (f : i_fm h h1) (e : jc_at h1 359 9 = jc_at h 359 9) (km : i_km h h1) : la_S k h1 :=
  ⟨⟨⟨H.1.1.1.oth f, c⟩, (f.2 1 1 (by decide)).trans H.1.2.1, e.trans H.1.2.2⟩, H.2.1, H.2.2.1.tr f.1, H.2.2.2.km f km⟩
/-- a call of the class, then the same of the reference; if so asked their answers are the same -/
def la_Q (cmp : Bool) (S : J_H → Prop) (mx mm : Nat) (As Bs : List Value) (h : J_H) : Prop := j_W jP 15 mx 0 (lv_args 0 As) [] h (fun rv h1 => ∃ v, rv = some (.int v) ∧ j_same h h1 ∧ j_W jP 15 mm 0 (lv_args 0 Bs) [] h1 (fun rw h2 => ∃ w, rw = some (.int w) ∧ (cmp = true → v = w) ∧ j_same h1 h2 ∧ S h2))
theorem la_qq {mx mm k : Nat} {As Bs : List Value} {h : J_H} (H : la_S k h) (wx : pY mx As h) (wm : ∀ h1, IM h1 → pN mm Bs h1) : la_Q false la_I mx mm As Bs h := by
  refine j_W.mono (show j_W jP 15 mx 0 (lv_args 0 As) [] h _ from wx) ?_
  rintro rv h1 ⟨⟨⟨v, rfl⟩, c1, f1⟩, e1, kx⟩
  have H1 := H.kx c1 f1 e1 kx
  refine ⟨v, rfl, f1.1, j_W.mono (show j_W jP 15 mm 0 (lv_args 0 Bs) [] h1 _ from wm h1 H1.1.1.2) ?_⟩
  rintro rw h2 ⟨⟨⟨w, rfl⟩, c2, f2⟩, e2, km⟩
  exact ⟨w, rfl, (fun z => nomatch z), f2.1, k, H1.km c2 f2 e2 km⟩
/-- the cells that feed, load and fault read -/
theorem i_knX {h : J_H} {a : Nat} (hI : IC h) (hL : jc_at h 1 1 = some (.int (nI a))) : ∃ (w v : Nat → Value) (x : Value) (fa pa : Int32), h[0]? = some (.inl (9, [.ref 1, .ref 3, w 2, w 3, w 4, w 5, w 6, w 7, w 8])) ∧ h[1]? = some (.inl (8, [.ref 2, .int (nI a), v 2, v 3, v 4, v 5, v 6, v 7])) ∧ h[3]? = some (.inl (4, [.ref 1, x, .int fa, .int pa])) := by
  rcases hI with ⟨r, t, hg⟩ | ⟨r, t, hg⟩
  · obtain ⟨f0, c0, b0⟩ := i_og_ok (a := 0) (ci := 9) (Ts := [(some (.inr (some 1))), (some (.inr (some 3))), none, none, none, none, none, none, none]) hg (by decide +kernel)
    obtain ⟨f1, c1, b1⟩ := i_og_ok (a := 1) (ci := 8) (Ts := [(some (.inr (some 2))), (some (.inl (.ofNat 0, .ofNat 700))), none, none, none, none, none, none]) hg (by decide +kernel)
    obtain ⟨f3, c3, b3⟩ := i_og_ok (a := 3) (ci := 4) (Ts := [(some (.inr (some 1))), none, (some (.inl (.negSucc 0, .ofNat 5))), (some (.inl (.negSucc 2147483647, .ofNat 2147483647)))]) hg (by decide +kernel)
    obtain ⟨w9, f0_0, e9, t9, b0_0⟩ := i_a2_c b0; clear b0; subst e9; obtain rfl := i_tvr t9; clear t9
    obtain ⟨w9, f0_1, e9, t9, b0_1⟩ := i_a2_c b0_0; clear b0_0; subst e9; obtain rfl := i_tvr t9; clear t9
    obtain ⟨p2, f0_2, e9, t9, b0_2⟩ := i_a2_c b0_1; clear b0_1; subst e9; clear t9
    obtain ⟨p3, f0_3, e9, t9, b0_3⟩ := i_a2_c b0_2; clear b0_2; subst e9; clear t9
    obtain ⟨p4, f0_4, e9, t9, b0_4⟩ := i_a2_c b0_3; clear b0_3; subst e9; clear t9
    obtain ⟨p5, f0_5, e9, t9, b0_5⟩ := i_a2_c b0_4; clear b0_4; subst e9; clear t9
    obtain ⟨p6, f0_6, e9, t9, b0_6⟩ := i_a2_c b0_5; clear b0_5; subst e9; clear t9
    obtain ⟨p7, f0_7, e9, t9, b0_7⟩ := i_a2_c b0_6; clear b0_6; subst e9; clear t9
    obtain ⟨p8, f0_8, e9, t9, b0_8⟩ := i_a2_c b0_7; clear b0_7; subst e9; clear t9
    obtain rfl := i_a2_n b0_8; clear b0_8
    obtain ⟨w9, f1_0, e9, t9, b1_0⟩ := i_a2_c b1; clear b1; subst e9; obtain rfl := i_tvr t9; clear t9
    obtain ⟨w9, f1_1, e9, t9, b1_1⟩ := i_a2_c b1_0; clear b1_0; subst e9; obtain ⟨q1, rfl, -⟩ := i_tvi t9; clear t9
    obtain ⟨q2, f1_2, e9, t9, b1_2⟩ := i_a2_c b1_1; clear b1_1; subst e9; clear t9
    obtain ⟨q3, f1_3, e9, t9, b1_3⟩ := i_a2_c b1_2; clear b1_2; subst e9; clear t9
    obtain ⟨q4, f1_4, e9, t9, b1_4⟩ := i_a2_c b1_3; clear b1_3; subst e9; clear t9
    obtain ⟨q5, f1_5, e9, t9, b1_5⟩ := i_a2_c b1_4; clear b1_4; subst e9; clear t9
    obtain ⟨q6, f1_6, e9, t9, b1_6⟩ := i_a2_c b1_5; clear b1_5; subst e9; clear t9
    obtain ⟨q7, f1_7, e9, t9, b1_7⟩ := i_a2_c b1_6; clear b1_6; subst e9; clear t9
    obtain rfl := i_a2_n b1_7; clear b1_7
    obtain ⟨w9, f3_0, e9, t9, b3_0⟩ := i_a2_c b3; clear b3; subst e9; obtain rfl := i_tvr t9; clear t9
    obtain ⟨x1, f3_1, e9, t9, b3_1⟩ := i_a2_c b3_0; clear b3_0; subst e9; clear t9
    obtain ⟨w9, f3_2, e9, t9, b3_2⟩ := i_a2_c b3_1; clear b3_1; subst e9; obtain ⟨x2, rfl, -⟩ := i_tvi t9; clear t9
    obtain ⟨w9, f3_3, e9, t9, b3_3⟩ := i_a2_c b3_2; clear b3_2; subst e9; obtain ⟨x3, rfl, -⟩ := i_tvi t9; clear t9
    obtain rfl := i_a2_n b3_3; clear b3_3
    have e1 := i_ati c1 rfl hL
    cases e1
    exact ⟨fun j => [(.ref 1), (.ref 3), p2, p3, p4, p5, p6, p7, p8].getD j .null, fun j => [(.ref 2), (.int (nI a)), q2, q3, q4, q5, q6, q7].getD j .null, x1, x2, x3, c0, c1, c3⟩
  · obtain ⟨f0, c0, b0⟩ := i_og_ok (a := 0) (ci := 9) (Ts := [(some (.inr (some 1))), (some (.inr (some 3))), none, none, none, none, none, none, none]) hg (by decide +kernel)
    obtain ⟨f1, c1, b1⟩ := i_og_ok (a := 1) (ci := 8) (Ts := [(some (.inr (some 2))), (some (.inl (.ofNat 0, .ofNat 700))), none, none, none, none, none, none]) hg (by decide +kernel)
    obtain ⟨f3, c3, b3⟩ := i_og_ok (a := 3) (ci := 4) (Ts := [(some (.inr (some 1))), none, (some (.inl (.negSucc 0, .ofNat 5))), (some (.inl (.negSucc 2147483647, .ofNat 2147483647)))]) hg (by decide +kernel)
    obtain ⟨w9, f0_0, e9, t9, b0_0⟩ := i_a2_c b0; clear b0; subst e9; obtain rfl := i_tvr t9; clear t9
    obtain ⟨w9, f0_1, e9, t9, b0_1⟩ := i_a2_c b0_0; clear b0_0; subst e9; obtain rfl := i_tvr t9; clear t9
    obtain ⟨p2, f0_2, e9, t9, b0_2⟩ := i_a2_c b0_1; clear b0_1; subst e9; clear t9
    obtain ⟨p3, f0_3, e9, t9, b0_3⟩ := i_a2_c b0_2; clear b0_2; subst e9; clear t9
    obtain ⟨p4, f0_4, e9, t9, b0_4⟩ := i_a2_c b0_3; clear b0_3; subst e9; clear t9
    obtain ⟨p5, f0_5, e9, t9, b0_5⟩ := i_a2_c b0_4; clear b0_4; subst e9; clear t9
    obtain ⟨p6, f0_6, e9, t9, b0_6⟩ := i_a2_c b0_5; clear b0_5; subst e9; clear t9
    obtain ⟨p7, f0_7, e9, t9, b0_7⟩ := i_a2_c b0_6; clear b0_6; subst e9; clear t9
    obtain ⟨p8, f0_8, e9, t9, b0_8⟩ := i_a2_c b0_7; clear b0_7; subst e9; clear t9
    obtain rfl := i_a2_n b0_8; clear b0_8
    obtain ⟨w9, f1_0, e9, t9, b1_0⟩ := i_a2_c b1; clear b1; subst e9; obtain rfl := i_tvr t9; clear t9
    obtain ⟨w9, f1_1, e9, t9, b1_1⟩ := i_a2_c b1_0; clear b1_0; subst e9; obtain ⟨q1, rfl, -⟩ := i_tvi t9; clear t9
    obtain ⟨q2, f1_2, e9, t9, b1_2⟩ := i_a2_c b1_1; clear b1_1; subst e9; clear t9
    obtain ⟨q3, f1_3, e9, t9, b1_3⟩ := i_a2_c b1_2; clear b1_2; subst e9; clear t9
    obtain ⟨q4, f1_4, e9, t9, b1_4⟩ := i_a2_c b1_3; clear b1_3; subst e9; clear t9
    obtain ⟨q5, f1_5, e9, t9, b1_5⟩ := i_a2_c b1_4; clear b1_4; subst e9; clear t9
    obtain ⟨q6, f1_6, e9, t9, b1_6⟩ := i_a2_c b1_5; clear b1_5; subst e9; clear t9
    obtain ⟨q7, f1_7, e9, t9, b1_7⟩ := i_a2_c b1_6; clear b1_6; subst e9; clear t9
    obtain rfl := i_a2_n b1_7; clear b1_7
    obtain ⟨w9, f3_0, e9, t9, b3_0⟩ := i_a2_c b3; clear b3; subst e9; obtain rfl := i_tvr t9; clear t9
    obtain ⟨x1, f3_1, e9, t9, b3_1⟩ := i_a2_c b3_0; clear b3_0; subst e9; clear t9
    obtain ⟨w9, f3_2, e9, t9, b3_2⟩ := i_a2_c b3_1; clear b3_1; subst e9; obtain ⟨x2, rfl, -⟩ := i_tvi t9; clear t9
    obtain ⟨w9, f3_3, e9, t9, b3_3⟩ := i_a2_c b3_2; clear b3_2; subst e9; obtain ⟨x3, rfl, -⟩ := i_tvi t9; clear t9
    obtain rfl := i_a2_n b3_3; clear b3_3
    have e1 := i_ati c1 rfl hL
    cases e1
    exact ⟨fun j => [(.ref 1), (.ref 3), p2, p3, p4, p5, p6, p7, p8].getD j .null, fun j => [(.ref 2), (.int (nI a)), q2, q3, q4, q5, q6, q7].getD j .null, x1, x2, x3, c0, c1, c3⟩
def i_fv (n fa pa : Int32) : Int32 := if n = 0 then fa else if n = 1 then pa else -1
set_option maxRecDepth 100000 in
theorem xf9_M : j_meth jP 115 = some (yX9_fault, cX9_fault, 2, (some .int), 1, false, 9) := rfl
set_option maxRecDepth 100000 in
theorem xf9_0 : j_code jP 115 0 = some (.iload_n 1) := rfl
set_option maxRecDepth 100000 in
theorem xf9_1 : j_code jP 115 1 = some (.ifCond .ne 11) := rfl
set_option maxRecDepth 100000 in
theorem xf9_4 : j_code jP 115 4 = some (.aload_n 0) := rfl
set_option maxRecDepth 100000 in
theorem xf9_5 : j_code jP 115 5 = some (.getfield 21) := rfl
set_option maxRecDepth 100000 in
theorem xf9_8 : j_code jP 115 8 = some (.getfield 107) := rfl
set_option maxRecDepth 100000 in
theorem xf9_11 : j_code jP 115 11 = some (.ireturn) := rfl
set_option maxRecDepth 100000 in
theorem xf9_12 : j_code jP 115 12 = some (.iload_n 1) := rfl
set_option maxRecDepth 100000 in
theorem xf9_13 : j_code jP 115 13 = some (.iconst 1) := rfl
set_option maxRecDepth 100000 in
theorem xf9_14 : j_code jP 115 14 = some (.if_icmp .ne 13) := rfl
set_option maxRecDepth 100000 in
theorem xf9_17 : j_code jP 115 17 = some (.aload_n 0) := rfl
set_option maxRecDepth 100000 in
theorem xf9_18 : j_code jP 115 18 = some (.getfield 21) := rfl
set_option maxRecDepth 100000 in
theorem xf9_21 : j_code jP 115 21 = some (.getfield 110) := rfl
set_option maxRecDepth 100000 in
theorem xf9_24 : j_code jP 115 24 = some (.goto 4) := rfl
set_option maxRecDepth 100000 in
theorem xf9_27 : j_code jP 115 27 = some (.iconst (-1)) := rfl
set_option maxRecDepth 100000 in
theorem xf9_28 : j_code jP 115 28 = some (.ireturn) := rfl
theorem xf9_ok {w : Nat → Value} {x : Value} {d : Nat} {n fa pa : Int32} {h h0 : J_H} (K : KN h [(0, .inl (9, [.ref 1, .ref 3, (w 2), (w 3), (w 4), (w 5), (w 6), (w 7), (w 8)])), (3, .inl (4, [.ref 1, x, .int fa, .int pa]))] h0) : j_W jP d 115 0 (lv_args 0 [.ref 0, .int n]) [] h (fun rv h' => rv = some (.int (i_fv n fa pa))) := by
  show j_W jP d 115 0 [(0, .ref 0), (1, .int n)] [] h _
  refine j_W.one xf9_M xf9_0 (by decide) (pc' := 1) (st' := [.int n]) rfl ?_
  refine j_W.ifc xf9_M xf9_1 (t := 12) rfl (fun c => ?_) (fun c => ?_)
  · rw [jk_ne] at c
    have c0 : ¬ n.toInt = (0 : Int32).toInt := by simpa using c
    clear c
    have c0e : ¬ n = 0 := fun q => c0 (by rw [q])
    refine j_W.one xf9_M xf9_12 (by decide) (pc' := 13) (st' := [.int n]) rfl ?_
    refine j_W.one xf9_M xf9_13 (by decide) (pc' := 14) (st' := [.int 1, .int n]) rfl ?_
    refine j_W.icmp xf9_M xf9_14 (t := 27) rfl (fun c => ?_) (fun c => ?_)
    · rw [jk_ne] at c
      have c1 : ¬ n.toInt = (1 : Int32).toInt := by simpa using c
      clear c
      have c1e : ¬ n = 1 := fun q => c1 (by rw [q])
      refine j_W.one xf9_M xf9_27 (by decide) (pc' := 28) (st' := [.int (-1)]) rfl ?_
      exact j_W.ret xf9_M xf9_28 rfl rfl (by unfold i_fv; rw [if_neg c0e]; rw [if_neg c1e])
    · rw [jk_ne] at c
      have c1 : n.toInt = (1 : Int32).toInt := by simpa using c
      clear c
      have c1e : n = 1 := Int32.toInt_inj.mp c1
      refine j_W.one xf9_M xf9_17 (by decide) (pc' := 18) (st' := [.ref 0]) rfl ?_
      refine j_W.getK xf9_M xf9_18 (ci := 9) (j := 1) rfl K rfl rfl ?_
      refine j_W.getK xf9_M xf9_21 (ci := 4) (j := 3) rfl K rfl rfl ?_
      refine j_W.gto xf9_M xf9_24 (t := 28) rfl ?_
      exact j_W.ret xf9_M xf9_28 rfl rfl (by unfold i_fv; rw [if_neg c0e]; rw [if_pos c1e])
  · rw [jk_ne] at c
    have c0 : n.toInt = (0 : Int32).toInt := by simpa using c
    clear c
    have c0e : n = 0 := Int32.toInt_inj.mp c0
    refine j_W.one xf9_M xf9_4 (by decide) (pc' := 5) (st' := [.ref 0]) rfl ?_
    refine j_W.getK xf9_M xf9_5 (ci := 9) (j := 1) rfl K rfl rfl ?_
    refine j_W.getK xf9_M xf9_8 (ci := 4) (j := 2) rfl K rfl rfl ?_
    exact j_W.ret xf9_M xf9_11 rfl rfl (by unfold i_fv; rw [if_pos c0e])
set_option maxRecDepth 100000 in
theorem mf9_M : j_meth jP 202 = some (yX10_fault, cX10_fault, 2, (some .int), 1, false, 10) := rfl
set_option maxRecDepth 100000 in
theorem mf9_0 : j_code jP 202 0 = some (.aload_n 0) := rfl
set_option maxRecDepth 100000 in
theorem mf9_1 : j_code jP 202 1 = some (.iconst 0) := rfl
set_option maxRecDepth 100000 in
theorem mf9_2 : j_code jP 202 2 = some (.putfield 55) := rfl
set_option maxRecDepth 100000 in
theorem mf9_5 : j_code jP 202 5 = some (.iload_n 1) := rfl
set_option maxRecDepth 100000 in
theorem mf9_6 : j_code jP 202 6 = some (.ifCond .ne 10) := rfl
set_option maxRecDepth 100000 in
theorem mf9_9 : j_code jP 202 9 = some (.aload_n 0) := rfl
set_option maxRecDepth 100000 in
theorem mf9_10 : j_code jP 202 10 = some (.getfield 35) := rfl
set_option maxRecDepth 100000 in
theorem mf9_13 : j_code jP 202 13 = some (.goto 16) := rfl
set_option maxRecDepth 100000 in
theorem mf9_16 : j_code jP 202 16 = some (.iload_n 1) := rfl
set_option maxRecDepth 100000 in
theorem mf9_17 : j_code jP 202 17 = some (.iconst 1) := rfl
set_option maxRecDepth 100000 in
theorem mf9_18 : j_code jP 202 18 = some (.if_icmp .ne 10) := rfl
set_option maxRecDepth 100000 in
theorem mf9_21 : j_code jP 202 21 = some (.aload_n 0) := rfl
set_option maxRecDepth 100000 in
theorem mf9_22 : j_code jP 202 22 = some (.getfield 39) := rfl
set_option maxRecDepth 100000 in
theorem mf9_25 : j_code jP 202 25 = some (.goto 4) := rfl
set_option maxRecDepth 100000 in
theorem mf9_28 : j_code jP 202 28 = some (.iconst (-1)) := rfl
set_option maxRecDepth 100000 in
theorem mf9_29 : j_code jP 202 29 = some (.ireturn) := rfl
theorem mf9_ok {v : Nat → Value} {d : Nat} {n fa pa : Int32} {h h0 : J_H} (K : KN h [(359, .inl (10, [(v 0), (v 1), (v 2), (v 3), (v 4), (v 5), (v 6), (v 7), (v 8), (v 9), (v 10), .int fa, .int pa, (v 13), (v 14), (v 15), (v 16), (v 17), (v 18), (v 19), (v 20), (v 21), (v 22), (v 23), (v 24), (v 25), (v 26), (v 27)]))] h0) : j_W jP d 202 0 (lv_args 0 [.ref 359, .int n]) [] h (fun rv h' => rv = some (.int (i_fv n fa pa))) := by
  show j_W jP d 202 0 [(0, .ref 359), (1, .int n)] [] h _
  refine j_W.one mf9_M mf9_0 (by decide) (pc' := 1) (st' := [.ref 359]) rfl ?_
  refine j_W.one mf9_M mf9_1 (by decide) (pc' := 2) (st' := [.int 0, .ref 359]) rfl ?_
  refine j_W.putK mf9_M mf9_2 (ci := 10) (j := 0) (k' := [(359, .inl (10, [.int 0, (v 1), (v 2), (v 3), (v 4), (v 5), (v 6), (v 7), (v 8), (v 9), (v 10), .int fa, .int pa, (v 13), (v 14), (v 15), (v 16), (v 17), (v 18), (v 19), (v 20), (v 21), (v 22), (v 23), (v 24), (v 25), (v 26), (v 27)]))]) rfl K rfl (Nat.le_of_ble_eq_true rfl) rfl (Or.inl rfl) rfl rfl (fun h K => ?_)
  refine j_W.one mf9_M mf9_5 (by decide) (pc' := 6) (st' := [.int n]) rfl ?_
  refine j_W.ifc mf9_M mf9_6 (t := 16) rfl (fun c => ?_) (fun c => ?_)
  · rw [jk_ne] at c
    have c0 : ¬ n.toInt = (0 : Int32).toInt := by simpa using c
    clear c
    have c0e : ¬ n = 0 := fun q => c0 (by rw [q])
    refine j_W.one mf9_M mf9_16 (by decide) (pc' := 17) (st' := [.int n]) rfl ?_
    refine j_W.one mf9_M mf9_17 (by decide) (pc' := 18) (st' := [.int 1, .int n]) rfl ?_
    refine j_W.icmp mf9_M mf9_18 (t := 28) rfl (fun c => ?_) (fun c => ?_)
    · rw [jk_ne] at c
      have c1 : ¬ n.toInt = (1 : Int32).toInt := by simpa using c
      clear c
      have c1e : ¬ n = 1 := fun q => c1 (by rw [q])
      refine j_W.one mf9_M mf9_28 (by decide) (pc' := 29) (st' := [.int (-1)]) rfl ?_
      exact j_W.ret mf9_M mf9_29 rfl rfl (by unfold i_fv; rw [if_neg c0e]; rw [if_neg c1e])
    · rw [jk_ne] at c
      have c1 : n.toInt = (1 : Int32).toInt := by simpa using c
      clear c
      have c1e : n = 1 := Int32.toInt_inj.mp c1
      refine j_W.one mf9_M mf9_21 (by decide) (pc' := 22) (st' := [.ref 359]) rfl ?_
      refine j_W.getK mf9_M mf9_22 (ci := 10) (j := 12) rfl K rfl rfl ?_
      refine j_W.gto mf9_M mf9_25 (t := 29) rfl ?_
      exact j_W.ret mf9_M mf9_29 rfl rfl (by unfold i_fv; rw [if_neg c0e]; rw [if_pos c1e])
  · rw [jk_ne] at c
    have c0 : n.toInt = (0 : Int32).toInt := by simpa using c
    clear c
    have c0e : n = 0 := Int32.toInt_inj.mp c0
    refine j_W.one mf9_M mf9_9 (by decide) (pc' := 10) (st' := [.ref 359]) rfl ?_
    refine j_W.getK mf9_M mf9_10 (ci := 10) (j := 11) rfl K rfl rfl ?_
    refine j_W.gto mf9_M mf9_13 (t := 29) rfl ?_
    exact j_W.ret mf9_M mf9_29 rfl rfl (by unfold i_fv; rw [if_pos c0e])
theorem la_q_fault (x1 : Int32) {h : J_H} (H : la_I h) : la_Q true la_I 115 202 [.ref 0, .int x1] [.ref 359, .int x1] h := by
  obtain ⟨k, H⟩ := H
  obtain ⟨w, v, x, fa, pa, c0, -, c3⟩ := i_knX H.1.1.1 H.1.2.1
  refine j_W.mono (j_W.andV (show j_W jP 15 115 0 (lv_args 0 [.ref 0, .int x1]) [] h _ from pY_fault x1 H.1.1.1) (xf9_ok (d := 15) (n := x1) (KN.all ⟨c0, c3, trivial⟩)).toV) ?_
  rintro rv h1 ⟨⟨⟨⟨v1, rfl⟩, c1, f1⟩, e1, kx⟩, q1⟩
  cases q1
  have H1 := H.kx c1 f1 e1 kx
  obtain ⟨fs, d0, u, u15, u16, u17, u18, u19, u20, u21, w10, w11, w12, ⟨-, g1, g2⟩, rfl⟩ := i_knM H1.1.1.2 H1.1.2.2
  have ea : fa = w11 := by
    have := H1.2.2.2.2.1
    rw [kx.2.1, jc_at_of c3, jc_at_of d0] at this
    have this : some (Value.int fa) = some (u 11) := this
    rw [g1] at this
    have := Option.some.inj this
    injection this
  have eb : pa = w12 := by
    have := H1.2.2.2.2.2
    rw [kx.2.2, jc_at_of c3, jc_at_of d0] at this
    have this : some (Value.int pa) = some (u 12) := this
    rw [g2] at this
    have := Option.some.inj this
    injection this
  rw [g1, g2, ← ea, ← eb] at d0
  refine ⟨_, rfl, f1.1, j_W.mono (j_W.andV (show j_W jP 15 202 0 (lv_args 0 [.ref 359, .int x1]) [] h1 _ from pN_fault x1 H1.1.1.2) (mf9_ok (d := 15) (n := x1) (v := fun j => [u 0, .ref 360, .ref 361, u 3, u 4, u 5, .ref 365, .ref 366, .ref 367, .int (nI (20 * k)), u 10, .null, .null, u 13, u 14, .int u15, .int u16, .int u17, .int u18, .int u19, .int u20, .long u21].getD j (u j)) (KN.all ⟨d0, trivial⟩)).toV) ?_⟩
  rintro rw h2 ⟨⟨⟨⟨v2, rfl⟩, c2, f2⟩, e2, km⟩, q2⟩
  cases q2
  exact ⟨_, rfl, fun _ => rfl, f2.1, k, H1.km c2 f2 e2 km⟩
theorem i_sameI {h h' : J_H} {a kd : Nat} {m : List Int32} (hs : j_same h h') (hm : h[a]? = some (.inr (.inl (kd, m)))) : ∃ m', h'[a]? = some (.inr (.inl (kd, m'))) ∧ m'.length = m.length := by
  obtain ⟨c', c1, c2⟩ := hs.2 a _ hm
  rcases c' with f | f | l | l
  · cases c2
  · obtain ⟨k, m'⟩ := f
    have e1 : k = kd := congrArg (fun q => q.2.1) c2
    subst e1
    exact ⟨m', c1, congrArg (fun q => q.2.2) c2⟩
  · cases c2
  · cases c2
theorem la_h2 : la_h9[2]? = some (.inr (.inl (1, List.replicate 700 0))) := by decide +kernel
theorem la_h365 : la_h9[365]? = some (.inr (.inl (0, List.replicate 700 0))) := by decide +kernel
/-! feed -/
noncomputable def i_Sf (m : Nat) : Bool := Nat.beq m 113 || (Nat.beq m 103 || (Nat.beq m 104 || (Nat.beq m 181 || Nat.beq m 180)))
def i_pf (ci j : Nat) : Bool := (Nat.beq ci 4 && (Nat.beq j 2 || Nat.beq j 3)) || (Nat.beq ci 10 && (Nat.beq j 11 || Nat.beq j 12))
set_option maxRecDepth 100000 in
theorem i_Nf : jv_N jP i_Sf i_pf := jv_N_of (by decide +kernel)
theorem i_kp {h h' : J_H} (hk : jv_kp i_pf h h') {a ci j : Nat} {fs : List Value} (ha : h[a]? = some (.inl (ci, fs))) (hp : i_pf ci j = true) : jc_at h' a j = jc_at h a j := by
  obtain ⟨fs', a1, -, a2⟩ := hk a ci fs ha
  rw [jc_at_of a1, jc_at_of ha]
  exact a2 j hp
theorem la_fk_lt {k : Nat} (hk : k < 36) : i_fk k < 36 := by
  unfold i_fk
  split <;> omega
theorem i_fB5 {l m : List Int32} {n : Nat} {a b c e f : Int32} (hn : n + 20 ≤ 700) (hl : l.length = 700) (hm : m.length = 700) (h : bA9 l m n) : bA9 (fB yX f 4 (n + 16) (fB yX e 4 (n + 12) (fB yX c 4 (n + 8) (fB yX b 4 (n + 4) (fB yX a 4 n l))))) (fB yM f 4 (n + 16) (fB yM e 4 (n + 12) (fB yM c 4 (n + 8) (fB yM b 4 (n + 4) (fB yM a 4 n m))))) (n + 20) := by
  have h1 := fB_R (w := a) 4 n l m (by decide) (by omega) hl hm h
  have h2 := fB_R (w := b) 4 (n + 4) _ _ (by decide) (by omega) (by simp only [fB_len]; exact hl) (by simp only [fB_len]; exact hm) h1
  have h3 := fB_R (w := c) 4 (n + 4 + 4) _ _ (by decide) (by omega) (by simp only [fB_len]; exact hl) (by simp only [fB_len]; exact hm) h2
  have h4 := fB_R (w := e) 4 (n + 4 + 4 + 4) _ _ (by decide) (by omega) (by simp only [fB_len]; exact hl) (by simp only [fB_len]; exact hm) h3
  exact fB_R (w := f) 4 (n + 4 + 4 + 4 + 4) _ _ (by decide) (by omega) (by simp only [fB_len]; exact hl) (by simp only [fB_len]; exact hm) h4
theorem la_q_feed (x1 x2 x3 x4 x5 : Int32) {h : J_H} (H : la_I h) : la_Q true la_I 113 181 [.ref 0, .int x1, .int x2, .int x3, .int x4, .int x5] [.ref 359, .int x1, .int x2, .int x3, .int x4, .int x5] h := by
  obtain ⟨k, H⟩ := H
  have hk := H.2.1
  obtain ⟨w, v, x, fa, pa, c0, c1, c3⟩ := i_knX H.1.1.1 H.1.2.1
  obtain ⟨⟨l, m, hl, hm, l7, m7, hb⟩, g1, g2⟩ := H.2.2.2
  refine j_W.mono ((((pX_feed hk x1 x2 x3 x4 x5 H.1.1.1 H.1.2.1).andV (xi9_ok (d := 13) (n := 20 * k) (w := fun j => [.ref 1, .ref 3].getD j (w j)) (by omega) l7 (KN.all ⟨c0, c1, hl, trivial⟩)).toV)).andV (jv_V i_Nf (mi := 113) (by decide +kernel))) ?_
  rintro rv h1 ⟨⟨⟨⟨rfl, d1, f1⟩, e1⟩, l1⟩, kp⟩
  have M1 : IM h1 := H.1.1.2.oth f1
  have e3 : jc_at h1 359 9 = some (.int (nI (20 * k))) := (f1.2 359 9 (by decide)).trans H.1.2.2
  have hm1 := i_cellI f1.1 (fun i => f1.2 365 i (by decide)) hm
  obtain ⟨fs, d0, u, u15, u16, u17, u18, u19, u20, u21, w10, w11, w12, -, rfl⟩ := i_knM M1 e3
  refine ⟨_, rfl, f1.1, j_W.mono ((((pM_feed hk x1 x2 x3 x4 x5 M1 e3).andV (mi_ok (d := 13) (n := 20 * k) (v := fun j => [u 0, .ref 360, .ref 361, u 3, u 4, u 5, .ref 365, .ref 366, .ref 367, .int (nI (20 * k)), u 10, u 11, u 12, u 13, u 14, .int u15, .int u16, .int u17, .int u18, .int u19, .int u20, .long u21].getD j (u j)) (by omega) m7 (KN.all ⟨d0, hm1, trivial⟩)).toV)).andV (jv_V i_Nf (mi := 181) (by decide +kernel))) ?_⟩
  rintro rw h2 ⟨⟨⟨⟨rfl, d2, f2⟩, e2⟩, m2⟩, kp2⟩
  refine ⟨_, rfl, fun _ => rfl, f2.1, i_fk k, ⟨⟨d1.oth f2, d2⟩, (f2.2 1 1 (by decide)).trans e1, e2⟩, la_fk_lt hk, (H.2.2.1.tr f1.1).tr f2.1, ⟨_, _, i_cellI f2.1 (fun i => f2.2 2 i (by decide)) l1, m2, ?_, ?_, ?_⟩, ?_, ?_⟩
  · split
    · simp only [fB_len]; exact l7
    · exact l7
  · split
    · simp only [fB_len]; exact m7
    · exact m7
  · unfold i_fk
    by_cases h20 : 20 * k + 20 ≤ 700
    · rw [if_pos h20, if_pos h20, if_pos h20]
      exact i_fB5 h20 l7 m7 hb
    · rw [if_neg h20, if_neg h20, if_neg h20]
      exact hb
  · rw [f2.2 3 2 (by decide), i_kp kp c3 rfl, i_kp kp2 d0 rfl, f1.2 359 11 (by decide)]
    exact g1
  · rw [f2.2 3 3 (by decide), i_kp kp c3 rfl, i_kp kp2 d0 rfl, f1.2 359 12 (by decide)]
    exact g2
/-! load -/
/-- how many bytes are left behind load, in twenties -/
def la_lk (k : Nat) (n : Int32) : Nat := if 0 ≤ n.toInt ∧ n.toInt ≤ ((20 * k : Nat) : Int) then 0 else k
theorem la_ln (k : Nat) (n : Int32) : i_ln k n = 20 * la_lk k n := by
  unfold i_ln la_lk
  split <;> rfl
theorem la_lk_lt {k : Nat} (hk : k < 36) (n : Int32) : la_lk k n < 36 := by
  unfold la_lk
  split <;> omega
theorem i_bR {l m : List Int32} {n e : Nat} (h : bA9 l m n) (he : e ≤ n) : bR l m e := fun k hk => h k (by omega)
theorem i_b0 {l m : List Int32} {n e : Nat} (h : bA9 l m n) (he : e ≤ n) : ∀ k, k < e → 0 ≤ (m.getD k 0).toInt := fun k hk => by
  rcases h k (by omega) with ⟨z1, z2⟩ | ⟨-, z2⟩ <;> omega
theorem la_q_load (x1 : Int32) {h : J_H} (H : la_I h) : la_Q true la_I 114 200 [.ref 0, .int x1] [.ref 359, .int x1] h := by
  obtain ⟨k, H⟩ := H
  have hk := H.2.1
  obtain ⟨⟨l, m, hl, hm, l7, m7, hb⟩, g1, g2⟩ := H.2.2.2
  by_cases hn : 0 ≤ x1.toInt ∧ x1.toInt ≤ ((20 * k : Nat) : Int)
  · obtain ⟨e, he⟩ := Int.eq_ofNat_of_zero_le hn.1
    have hek : e ≤ 20 * k := by have := hn.2; omega
    have hx : x1 = nI e := nI_eq9 he (by omega)
    obtain ⟨z, s, t, hz, wx⟩ := i_ldX (e := e) H.1.1.1 hl l7 H.1.2.1 hek (by omega)
    rw [← hx] at wx
    refine j_W.mono ((pX_load (n := x1) hk H.1.1.1 H.1.2.1).andV wx) ?_
    rintro rv h1 ⟨⟨⟨⟨v1, rfl⟩, d1, f1⟩, e1⟩, ⟨p1, p2⟩, p3⟩
    have M1 : IM h1 := H.1.1.2.oth f1
    have e3 : jc_at h1 359 9 = some (.int (nI (20 * k))) := (f1.2 359 9 (by decide)).trans H.1.2.2
    have hm1 := i_cellI f1.1 (fun i => f1.2 365 i (by decide)) hm
    have wm := i_ldM (l := l) (e := e) M1 hm1 m7 e3 hek (by omega) (i_b0 hb hek) (i_bR hb hek) hz
    rw [← hx] at wm
    refine ⟨_, rfl, f1.1, j_W.mono ((pM_load (n := x1) hk M1 e3).andV wm.toV) ?_⟩
    rintro rw h2 ⟨⟨⟨⟨v2, rfl⟩, d2, f2⟩, e2⟩, ⟨q1, q2⟩, q3⟩
    have z0 : la_lk k x1 = 0 := if_pos hn
    have hs := (H.2.2.1.tr f1.1).tr f2.1
    refine ⟨_, rfl, fun _ => ?_, f2.1, la_lk k x1, ⟨⟨d1.oth f2, d2⟩, ?_, ?_⟩, la_lk_lt hk _, hs, ?_, ?_, ?_⟩
    · rcases p3 with ⟨y1, y2⟩ | ⟨y1, y2⟩
      · rcases q3 with ⟨y3, y4, -⟩ | ⟨y3, y4, -⟩
        · cases y2; cases y4; rfl
        · exact absurd y1 y3
      · rcases q3 with ⟨y3, y4, -⟩ | ⟨y3, y4, -⟩
        · exact absurd y3 y1
        · cases y2; cases y4; rfl
    · rw [f2.2 1 1 (by decide), e1, la_ln]
    · rw [e2, la_ln]
    · obtain ⟨l', a1, a2⟩ := i_sameI (H.2.2.1.tr (f1.1.tr f2.1)) la_h2
      obtain ⟨m', a3, a4⟩ := i_sameI (H.2.2.1.tr (f1.1.tr f2.1)) la_h365
      exact ⟨l', m', a1, a3, a2.trans List.length_replicate, a4.trans List.length_replicate, fun i hi => by rw [z0] at hi; omega⟩
    · rw [f2.2 3 2 (by decide), p1, q1]
    · rw [f2.2 3 3 (by decide), p2, q2]
  · have z0 : la_lk k x1 = k := if_neg hn
    have hn9 : x1.toInt < 0 ∨ ((20 * k : Nat) : Int) < x1.toInt := by omega
    obtain ⟨w, v, x, fa, pa, c0, c1, c3⟩ := i_knX H.1.1.1 H.1.2.1
    refine j_W.mono ((pX_load (n := x1) hk H.1.1.1 H.1.2.1).andV (xl_bad (d := 14) (u := fun j => [.ref 1, .ref 3].getD j (w j)) (w := fun j => [.ref 2].getD j (v j)) (by omega) hn9 (KN.all ⟨c0, c1, trivial⟩)).toV) ?_
    rintro rv h1 ⟨⟨⟨⟨v1, rfl⟩, d1, f1⟩, e1⟩, p1, K1⟩
    have M1 : IM h1 := H.1.1.2.oth f1
    have e3 : jc_at h1 359 9 = some (.int (nI (20 * k))) := (f1.2 359 9 (by decide)).trans H.1.2.2
    obtain ⟨fs, d0, u, u15, u16, u17, u18, u19, u20, u21, w10, w11, w12, ⟨y10, y11, y12⟩, rfl⟩ := i_knM M1 e3
    refine ⟨_, rfl, f1.1, j_W.mono ((pM_load (n := x1) hk M1 e3).andV (mq_bad (d := 14) (v := fun j => [u 0, .ref 360, .ref 361, u 3, u 4, u 5, .ref 365, .ref 366, .ref 367, .int (nI (20 * k)), u 10, u 11, u 12, u 13, u 14, .int u15, .int u16, .int u17, .int u18, .int u19, .int u20, .long u21].getD j (u j)) (by omega) hn9 (KN.all ⟨d0, trivial⟩)).toV) ?_⟩
    rintro rw h2 ⟨⟨⟨⟨v2, rfl⟩, d2, f2⟩, e2⟩, q1, K2⟩
    have k0 := K2.at (a := 359) rfl
    refine ⟨_, rfl, fun _ => by cases p1; cases q1; rfl, f2.1, la_lk k x1, ⟨⟨d1.oth f2, d2⟩, ?_, ?_⟩, la_lk_lt hk _, (H.2.2.1.tr f1.1).tr f2.1, ⟨l, m, ?_, ?_, l7, m7, by rw [z0]; exact hb⟩, ?_, ?_⟩
    · rw [f2.2 1 1 (by decide), e1, la_ln]
    · rw [e2, la_ln]
    · rw [K2.2.1 2 rfl, K1.2.1 2 rfl]; exact hl
    · rw [K2.2.1 365 rfl, K1.2.1 365 rfl]; exact hm
    · rw [i_cellE (K2.2.1 3 rfl), i_cellE (K1.2.1 3 rfl), g1, ← i_cellE (i := 11) (K1.2.1 359 rfl), jc_at_of k0, jc_at_of d0]; rfl
    · rw [i_cellE (K2.2.1 3 rfl), i_cellE (K1.2.1 3 rfl), g2, ← i_cellE (i := 12) (K1.2.1 359 rfl), jc_at_of k0, jc_at_of d0]; rfl
/-! the other calls -/
theorem la_q_status  {h : J_H} (H : la_I h) : la_Q false la_I 112 168 [.ref 0] [.ref 359] h := by
  obtain ⟨k, H⟩ := H
  exact la_qq H (pY_status  H.1.1.1) (fun _ c => pN_status  c)
theorem la_q_many (x1 : Int32) {h : J_H} (H : la_I h) : la_Q false la_I 116 234 [.ref 0, .int (x1)] [.ref 359, .int (x1)] h := by
  obtain ⟨k, H⟩ := H
  exact la_qq H (pY_many x1 H.1.1.1) (fun _ c => pN_many x1 c)
theorem la_q_station (x1 : Int32) (x2 : Int32) {h : J_H} (H : la_I h) : la_Q false la_I 117 236 [.ref 0, .int (x1), .int (x2)] [.ref 359, .int (x1), .int (x2)] h := by
  obtain ⟨k, H⟩ := H
  exact la_qq H (pY_station x1 x2 H.1.1.1) (fun _ c => pN_station x1 x2 c)
theorem la_q_track (x1 : Int32) (x2 : Int32) (x3 : Int32) {h : J_H} (H : la_I h) : la_Q false la_I 118 237 [.ref 0, .int (x1), .int (x2), .int (x3)] [.ref 359, .int (x1), .int (x2), .int (x3)] h := by
  obtain ⟨k, H⟩ := H
  exact la_qq H (pY_track x1 x2 x3 H.1.1.1) (fun _ c => pN_track x1 x2 x3 c)
theorem la_q_train (x1 : Int32) (x2 : Int32) {h : J_H} (H : la_I h) : la_Q false la_I 119 240 [.ref 0, .int (x1), .int (x2)] [.ref 359, .int (x1), .int (x2)] h := by
  obtain ⟨k, H⟩ := H
  exact la_qq H (pY_train x1 x2 H.1.1.1) (fun _ c => pN_train x1 x2 c)
theorem la_q_fits (x1 : Int32) {h : J_H} (H : la_I h) : la_Q false la_I 120 242 [.ref 0, .int (x1)] [.ref 359, .int (x1)] h := by
  obtain ⟨k, H⟩ := H
  exact la_qq H (pY_fits x1 H.1.1.1) (fun _ c => pN_fits x1 c)
theorem la_q_why (x1 : Int32) {h : J_H} (H : la_I h) : la_Q false la_I 121 243 [.ref 0, .int (x1)] [.ref 359, .int (x1)] h := by
  obtain ⟨k, H⟩ := H
  exact la_qq H (pY_why x1 H.1.1.1) (fun _ c => pN_why x1 c)
theorem la_q_through (x1 : Int32) {h : J_H} (H : la_I h) : la_Q false la_I 122 248 [.ref 0, .int (x1)] [.ref 359, .int (x1)] h := by
  obtain ⟨k, H⟩ := H
  exact la_qq H (pY_through x1 H.1.1.1) (fun _ c => pN_through x1 c)
theorem la_q_risks  {h : J_H} (H : la_I h) : la_Q false la_I 123 249 [.ref 0] [.ref 359] h := by
  obtain ⟨k, H⟩ := H
  exact la_qq H (pY_risks  H.1.1.1) (fun _ c => pN_risks  c)
theorem la_q_weak (x1 : Int32) {h : J_H} (H : la_I h) : la_Q false la_I 124 250 [.ref 0, .int (x1)] [.ref 359, .int (x1)] h := by
  obtain ⟨k, H⟩ := H
  exact la_qq H (pY_weak x1 H.1.1.1) (fun _ c => pN_weak x1 c)
theorem la_q_links (x1 : Int32) (x2 : Int32) {h : J_H} (H : la_I h) : la_Q false la_I 125 251 [.ref 0, .int (x1), .int (x2)] [.ref 359, .int (x1), .int (x2)] h := by
  obtain ⟨k, H⟩ := H
  exact la_qq H (pY_links x1 x2 H.1.1.1) (fun _ c => pN_links x1 x2 c)
theorem la_q_blocks (x1 : Int32) {h : J_H} (H : la_I h) : la_Q false la_I 126 245 [.ref 0, .int (x1)] [.ref 359, .int (x1)] h := by
  obtain ⟨k, H⟩ := H
  exact la_qq H (pY_blocks x1 H.1.1.1) (fun _ c => pN_blocks x1 c)
theorem la_q_ring  {h : J_H} (H : la_I h) : la_Q false la_I 127 246 [.ref 0] [.ref 359] h := by
  obtain ⟨k, H⟩ := H
  exact la_qq H (pY_ring  H.1.1.1) (fun _ c => pN_ring  c)
theorem la_q_section (x1 : Int32) {h : J_H} (H : la_I h) : la_Q false la_I 128 247 [.ref 0, .int (x1)] [.ref 359, .int (x1)] h := by
  obtain ⟨k, H⟩ := H
  exact la_qq H (pY_section x1 H.1.1.1) (fun _ c => pN_section x1 c)
theorem la_q_time (x1 : Int32) (x2 : Int32) (x3 : Bool) {h : J_H} (H : la_I h) : la_Q false la_I 129 252 [.ref 0, .int (x1), .int (x2), .int (i_b x3)] [.ref 359, .int (x1), .int (x2), .int (i_b x3)] h := by
  obtain ⟨k, H⟩ := H
  exact la_qq H (pY_time x1 x2 x3 H.1.1.1) (fun _ c => pN_time x1 x2 x3 c)
theorem la_q_together (x1 : Int32) (x2 : Int32) (x3 : Bool) {h : J_H} (H : la_I h) : la_Q false la_I 130 253 [.ref 0, .int (x1), .int (x2), .int (i_b x3)] [.ref 359, .int (x1), .int (x2), .int (i_b x3)] h := by
  obtain ⟨k, H⟩ := H
  exact la_qq H (pY_together x1 x2 x3 H.1.1.1) (fun _ c => pN_together x1 x2 x3 c)
theorem la_q_passes (x1 : Int32) (x2 : Int32) {h : J_H} (H : la_I h) : la_Q false la_I 131 254 [.ref 0, .int (x1), .int (x2)] [.ref 359, .int (x1), .int (x2)] h := by
  obtain ⟨k, H⟩ := H
  exact la_qq H (pY_passes x1 x2 H.1.1.1) (fun _ c => pN_passes x1 x2 c)
theorem la_q_stood (x1 : Int32) {h : J_H} (H : la_I h) : la_Q false la_I 132 255 [.ref 0, .int (x1)] [.ref 359, .int (x1)] h := by
  obtain ⟨k, H⟩ := H
  exact la_qq H (pY_stood x1 H.1.1.1) (fun _ c => pN_stood x1 c)
theorem la_q_late (x1 : Int32) (x2 : Int32) {h : J_H} (H : la_I h) : la_Q false la_I 133 256 [.ref 0, .int (x1), .int (x2)] [.ref 359, .int (x1), .int (x2)] h := by
  obtain ⟨k, H⟩ := H
  exact la_qq H (pY_late x1 x2 H.1.1.1) (fun _ c => pN_late x1 x2 c)
theorem la_q_event (x1 : Int32) (x2 : Int32) {h : J_H} (H : la_I h) : la_Q false la_I 134 257 [.ref 0, .int (x1), .int (x2)] [.ref 359, .int (x1), .int (x2)] h := by
  obtain ⟨k, H⟩ := H
  exact la_qq H (pY_event x1 x2 H.1.1.1) (fun _ c => pN_event x1 x2 c)
theorem la_q_use (x1 : Int32) {h : J_H} (H : la_I h) : la_Q false la_I 135 258 [.ref 0, .int (x1)] [.ref 359, .int (x1)] h := by
  obtain ⟨k, H⟩ := H
  exact la_qq H (pY_use x1 H.1.1.1) (fun _ c => pN_use x1 c)
theorem la_q_gone (x1 : Int32) (x2 : Int32) {h : J_H} (H : la_I h) : la_Q false la_I 136 259 [.ref 0, .int (x1), .int (x2)] [.ref 359, .int (x1), .int (x2)] h := by
  obtain ⟨k, H⟩ := H
  exact la_qq H (pY_gone x1 x2 H.1.1.1) (fun _ c => pN_gone x1 x2 c)
theorem la_q_waits (x1 : Int32) {h : J_H} (H : la_I h) : la_Q false la_I 137 260 [.ref 0, .int (x1)] [.ref 359, .int (x1)] h := by
  obtain ⟨k, H⟩ := H
  exact la_qq H (pY_waits x1 H.1.1.1) (fun _ c => pN_waits x1 c)
theorem la_q_ahead (x1 : Int32) (x2 : Bool) (x3 : Int32) {h : J_H} (H : la_I h) : la_Q false la_I 138 262 [.ref 0, .int (x1), .int (i_b x2), .int (x3)] [.ref 359, .int (x1), .int (i_b x2), .int (x3)] h := by
  obtain ⟨k, H⟩ := H
  exact la_qq H (pY_ahead x1 x2 x3 H.1.1.1) (fun _ c => pN_ahead x1 x2 x3 c)
theorem la_q_ends (x1 : Bool) (x2 : Int32) {h : J_H} (H : la_I h) : la_Q false la_I 139 264 [.ref 0, .int (i_b x1), .int (x2)] [.ref 359, .int (i_b x1), .int (x2)] h := by
  obtain ⟨k, H⟩ := H
  exact la_qq H (pY_ends x1 x2 H.1.1.1) (fun _ c => pN_ends x1 x2 c)
theorem la_q_when (x1 : Int32) {h : J_H} (H : la_I h) : la_Q false la_I 140 265 [.ref 0, .int (x1)] [.ref 359, .int (x1)] h := by
  obtain ⟨k, H⟩ := H
  exact la_qq H (pY_when x1 H.1.1.1) (fun _ c => pN_when x1 c)
theorem la_q_plan (x1 : Int32) {h : J_H} (H : la_I h) : la_Q false la_I 141 268 [.ref 0, .int (x1)] [.ref 359, .int (x1)] h := by
  obtain ⟨k, H⟩ := H
  exact la_qq H (pY_plan x1 H.1.1.1) (fun _ c => pN_plan x1 c)
theorem la_q_cost (x1 : Int32) (x2 : Int32) {h : J_H} (H : la_I h) : la_Q false la_I 142 271 [.ref 0, .int (x1), .int (x2)] [.ref 359, .int (x1), .int (x2)] h := by
  obtain ⟨k, H⟩ := H
  exact la_qq H (pY_cost x1 x2 H.1.1.1) (fun _ c => pN_cost x1 x2 c)
theorem la_q_slack (x1 : Int32) {h : J_H} (H : la_I h) : la_Q false la_I 143 272 [.ref 0, .int (x1)] [.ref 359, .int (x1)] h := by
  obtain ⟨k, H⟩ := H
  exact la_qq H (pY_slack x1 H.1.1.1) (fun _ c => pN_slack x1 c)
theorem la_q_band (x1 : Int32) (x2 : Bool) {h : J_H} (H : la_I h) : la_Q false la_I 144 277 [.ref 0, .int (x1), .int (i_b x2)] [.ref 359, .int (x1), .int (i_b x2)] h := by
  obtain ⟨k, H⟩ := H
  exact la_qq H (pY_band x1 x2 H.1.1.1) (fun _ c => pN_band x1 x2 c)
theorem la_q_swap (x1 : Int32) (x2 : Int32) {h : J_H} (H : la_I h) : la_Q false la_I 145 273 [.ref 0, .int (x1), .int (x2)] [.ref 359, .int (x1), .int (x2)] h := by
  obtain ⟨k, H⟩ := H
  exact la_qq H (pY_swap x1 x2 H.1.1.1) (fun _ c => pN_swap x1 x2 c)
theorem la_q_burden (x1 : Bool) {h : J_H} (H : la_I h) : la_Q false la_I 146 276 [.ref 0, .int (i_b x1)] [.ref 359, .int (i_b x1)] h := by
  obtain ⟨k, H⟩ := H
  exact la_qq H (pY_burden x1 H.1.1.1) (fun _ c => pN_burden x1 c)
theorem la_q_loop (x1 : Int32) (x2 : Int32) {h : J_H} (H : la_I h) : la_Q false la_I 147 279 [.ref 0, .int (x1), .int (x2)] [.ref 359, .int (x1), .int (x2)] h := by
  obtain ⟨k, H⟩ := H
  exact la_qq H (pY_loop x1 x2 H.1.1.1) (fun _ c => pN_loop x1 x2 c)
theorem la_q_build  {h : J_H} (H : la_I h) : la_Q false la_I 148 280 [.ref 0] [.ref 359] h := by
  obtain ⟨k, H⟩ := H
  exact la_qq H (pY_build  H.1.1.1) (fun _ c => pN_build  c)
theorem la_q_go (x1 : Int32) (x2 : Bool) {h : J_H} (H : la_I h) : la_Q false la_I 149 283 [.ref 0, .int (x1), .int (i_b x2)] [.ref 359, .int (x1), .int (i_b x2)] h := by
  obtain ⟨k, H⟩ := H
  exact la_qq H (pY_go x1 x2 H.1.1.1) (fun _ c => pN_go x1 x2 c)
theorem la_q_hold (x1 : Int32) (x2 : Int32) {h : J_H} (H : la_I h) : la_Q false la_I 150 284 [.ref 0, .int (x1), .int (x2)] [.ref 359, .int (x1), .int (x2)] h := by
  obtain ⟨k, H⟩ := H
  exact la_qq H (pY_hold x1 x2 H.1.1.1) (fun _ c => pN_hold x1 x2 c)
theorem la_q_shut (x1 : Int32) (x2 : Int32) (x3 : Bool) {h : J_H} (H : la_I h) : la_Q false la_I 151 285 [.ref 0, .int (x1), .int (x2), .int (i_b x3)] [.ref 359, .int (x1), .int (x2), .int (i_b x3)] h := by
  obtain ⟨k, H⟩ := H
  exact la_qq H (pY_shut x1 x2 x3 H.1.1.1) (fun _ c => pN_shut x1 x2 x3 c)
theorem la_q_rank (x1 : Int32) {h : J_H} (H : la_I h) : la_Q false la_I 152 286 [.ref 0, .int (x1)] [.ref 359, .int (x1)] h := by
  obtain ⟨k, H⟩ := H
  exact la_qq H (pY_rank x1 H.1.1.1) (fun _ c => pN_rank x1 c)
theorem la_q_start (x1 : Int32) (x2 : Int32) {h : J_H} (H : la_I h) : la_Q false la_I 153 287 [.ref 0, .int (x1), .int (x2)] [.ref 359, .int (x1), .int (x2)] h := by
  obtain ⟨k, H⟩ := H
  exact la_qq H (pY_start x1 x2 H.1.1.1) (fun _ c => pN_start x1 x2 c)
theorem la_q_stall (x1 : Int32) (x2 : Int32) {h : J_H} (H : la_I h) : la_Q false la_I 154 288 [.ref 0, .int (x1), .int (x2)] [.ref 359, .int (x1), .int (x2)] h := by
  obtain ⟨k, H⟩ := H
  exact la_qq H (pY_stall x1 x2 H.1.1.1) (fun _ c => pN_stall x1 x2 c)
theorem la_q_link (x1 : Int32) (x2 : Int32) (x3 : Int32) {h : J_H} (H : la_I h) : la_Q false la_I 155 289 [.ref 0, .int (x1), .int (x2), .int (x3)] [.ref 359, .int (x1), .int (x2), .int (x3)] h := by
  obtain ⟨k, H⟩ := H
  exact la_qq H (pY_link x1 x2 x3 H.1.1.1) (fun _ c => pN_link x1 x2 x3 c)
theorem la_q_cut (x1 : Int32) {h : J_H} (H : la_I h) : la_Q false la_I 156 290 [.ref 0, .int (x1)] [.ref 359, .int (x1)] h := by
  obtain ⟨k, H⟩ := H
  exact la_qq H (pY_cut x1 H.1.1.1) (fun _ c => pN_cut x1 c)
theorem la_q_undo  {h : J_H} (H : la_I h) : la_Q false la_I 157 282 [.ref 0] [.ref 359] h := by
  obtain ⟨k, H⟩ := H
  exact la_qq H (pY_undo  H.1.1.1) (fun _ c => pN_undo  c)
theorem la_q_print  {h : J_H} (H : la_I h) : la_Q false la_I 158 296 [.ref 0] [.ref 359] h := by
  obtain ⟨k, H⟩ := H
  exact la_qq H (pY_print  H.1.1.1) (fun _ c => pN_print  c)
theorem la_r_out (x1 : Int32) {h : J_H} (H : la_I h) : j_W jP 15 297 0 (lv_args 0 [.ref 359, .int x1]) [] h (fun rv h' => (∃ v, rv = some (.int v)) ∧ j_same h h' ∧ la_I h') := by
  obtain ⟨k, H⟩ := H
  refine j_W.mono (show j_W jP 15 297 0 (lv_args 0 [.ref 359, .int x1]) [] h _ from pN_out x1 H.1.1.2) ?_
  rintro rv h1 ⟨⟨a, c1, f1⟩, e1, km⟩
  exact ⟨a, f1.1, k, H.km c1 f1 e1 km⟩
theorem la_I0 : la_I la_h9 := ⟨0, ⟨⟨⟨IC_0, IM_0⟩, i_h29.2.2.1, i_h29.2.2.2⟩, by decide, j_same.rf, ⟨_, _, la_h2, la_h365, List.length_replicate, List.length_replicate, fun i hi => absurd hi (by omega)⟩, by decide +kernel, by decide +kernel⟩⟩
/-- the law's own array written -/
theorem la_I.st {h : J_H} {w v : Int64} (H : la_I h) (hw : h[372]? = some (.inr (.inr (.inl [w])))) : la_I (h.set 372 (.inr (.inr (.inl [v])))) := by
  obtain ⟨k, H⟩ := H
  have hs : j_same h (h.set 372 (.inr (.inr (.inl [v])))) := j_same.set hw rfl
  have he : ∀ x, x < 372 → (h.set 372 (.inr (.inr (.inl [v]))))[x]? = h[x]? := fun x hx => List.getElem?_set_ne (by omega)
  have hk : ∀ x i, x < 372 → jc_at (h.set 372 (.inr (.inr (.inl [v])))) x i = jc_at h x i := fun x i hx => i_cellE (he x hx)
  obtain ⟨⟨l, m, a1, a2, a3⟩, b1, b2⟩ := H.2.2.2
  exact ⟨k, ⟨⟨H.1.1.1.oth ⟨hs, fun x i hx => hk x i (by omega)⟩, H.1.1.2.oth9 hs hk⟩, (hk 1 1 (by decide)).trans H.1.2.1, (hk 359 9 (by decide)).trans H.1.2.2⟩, H.2.1, H.2.2.1.tr hs, ⟨l, m, (he 2 (by decide)).trans a1, (he 365 (by decide)).trans a2, a3⟩, by rw [hk 3 2 (by decide), hk 359 11 (by decide)]; exact b1, by rw [hk 3 3 (by decide), hk 359 12 (by decide)]; exact b2⟩
theorem la_I.same {h : J_H} (H : la_I h) : j_same la_h9 h := by
  obtain ⟨k, H⟩ := H
  exact H.2.2.1
theorem la_I.sh {h : J_H} (H : la_I h) : i_Sh h := by
  obtain ⟨k, H⟩ := H
  exact i_sh H.1.1.1

/-! fault, feed, print, out; the start: written by wip/py/gen_zr.py -/
theorem la_lk1 {a x : Nat} {c : J_C} (h : x ≠ a) : jk_lk [(a, c)] x = none := by
  unfold jk_lk
  cases hb : Nat.beq a x with
  | true => exact absurd (Nat.eq_of_beq_eq_true hb).symm h
  | false => rfl
theorem la_lk2 {a b x : Nat} {c e : J_C} (h : x ≠ a) (g : x ≠ b) : jk_lk [(a, c), (b, e)] x = none := by
  unfold jk_lk
  cases hb : Nat.beq a x with
  | true => exact absurd (Nat.eq_of_beq_eq_true hb).symm h
  | false => exact la_lk1 g
/-- the class's run, then the reference's -/
theorem la_R.n {t : Nat} {L L' n S a e D : Nat} {w0 w kp : List Int32} {sst st : Int32} {h h1 h2 : J_H} (hL : (L = 327 ∧ L' = 343) ∨ (L = 343 ∧ L' = 327)) (R : hR L L' n S a e D w0 w kp sst h) (hD : D ≤ 2000 + 99 * t) (X : hX L L' n S w st h1) (F1 : ∀ x, 29 ≤ x → x < 281 → h1[x]? = h[x]?) (F : ∀ x, x < 359 → x ≠ 2 → x ≠ 326 → h2[x]? = h1[x]?) (M : hM9 w kp st (nI a) h2) : la_R t h2 :=
  la_R.mk hL (R.n9 (X.f9 ((F 0 (by omega) (by omega) (by omega)).trans X.1) (fun x a1 a2 => F x (by omega) (by omega) (by omega)) (fun x a1 a2 => F x (by omega) (by omega) (by omega))) (fun x a1 a2 => (F x (by omega) (by omega) (by omega)).trans (F1 x a1 a2)) M) hD
theorem la_R.m9 {t : Nat} {L L' n S a e D : Nat} {w0 w kp : List Int32} {sst : Int32} {h h' : J_H} (hL : (L = 327 ∧ L' = 343) ∨ (L = 343 ∧ L' = 327)) (R : hR L L' n S a e D w0 w kp sst h) (hD : D ≤ 2000 + 99 * t) (F : ∀ x, x < 359 → x ≠ 2 → x ≠ 326 → h'[x]? = h[x]?) (M : hM9 w kp sst (nI a) h') : la_R t h' := la_R.n hL R hD R.1 (fun _ _ _ => rfl) F M
theorem hR.x9 {L L' n S a e D : Nat} {w0 w kp : List Int32} {sst : Int32} {h h' : J_H} (hL : (L = 327 ∧ L' = 343) ∨ (L = 343 ∧ L' = 327)) (R : hR L L' n S a e D w0 w kp sst h) (F : ∀ x, x < 371 → x ≠ 1 → x ≠ 2 → x ≠ 326 → h'[x]? = h[x]?) : hR L L' n S a e D w0 w kp sst h' :=
  R.n9 (R.1.f9 ((F 0 (by omega) (by omega) (by omega) (by omega)).trans R.1.1) (fun x a1 a2 => F x (by omega) (by omega) (by omega) (by omega)) (fun x a1 a2 => F x (by omega) (by omega) (by omega) (by omega))) (fun x a1 a2 => F x (by omega) (by omega) (by omega) (by omega)) (R.2.2.1.fr (fun x a1 a2 => F x (by omega) (by omega) (by omega) (by omega)))
def i_fv (n fa pa : Int32) : Int32 := if n = 0 then fa else if n = 1 then pa else -1
set_option maxRecDepth 100000 in
theorem xf9_M : j_meth jP 115 = some (yX9_fault, cX9_fault, 2, (some .int), 1, false, 9) := rfl
set_option maxRecDepth 100000 in
theorem xf9_0 : j_code jP 115 0 = some (.iload_n 1) := rfl
set_option maxRecDepth 100000 in
theorem xf9_1 : j_code jP 115 1 = some (.ifCond .ne 11) := rfl
set_option maxRecDepth 100000 in
theorem xf9_4 : j_code jP 115 4 = some (.aload_n 0) := rfl
set_option maxRecDepth 100000 in
theorem xf9_5 : j_code jP 115 5 = some (.getfield 21) := rfl
set_option maxRecDepth 100000 in
theorem xf9_8 : j_code jP 115 8 = some (.getfield 107) := rfl
set_option maxRecDepth 100000 in
theorem xf9_11 : j_code jP 115 11 = some (.ireturn) := rfl
set_option maxRecDepth 100000 in
theorem xf9_12 : j_code jP 115 12 = some (.iload_n 1) := rfl
set_option maxRecDepth 100000 in
theorem xf9_13 : j_code jP 115 13 = some (.iconst 1) := rfl
set_option maxRecDepth 100000 in
theorem xf9_14 : j_code jP 115 14 = some (.if_icmp .ne 13) := rfl
set_option maxRecDepth 100000 in
theorem xf9_17 : j_code jP 115 17 = some (.aload_n 0) := rfl
set_option maxRecDepth 100000 in
theorem xf9_18 : j_code jP 115 18 = some (.getfield 21) := rfl
set_option maxRecDepth 100000 in
theorem xf9_21 : j_code jP 115 21 = some (.getfield 110) := rfl
set_option maxRecDepth 100000 in
theorem xf9_24 : j_code jP 115 24 = some (.goto 4) := rfl
set_option maxRecDepth 100000 in
theorem xf9_27 : j_code jP 115 27 = some (.iconst (-1)) := rfl
set_option maxRecDepth 100000 in
theorem xf9_28 : j_code jP 115 28 = some (.ireturn) := rfl
theorem xf9_ok {w : Nat → Value} {x : Value} {d : Nat} {n fa pa : Int32} {h h0 : J_H} (K : KN h [(0, .inl (9, [.ref 1, .ref 3, (w 2), (w 3), (w 4), (w 5), (w 6), (w 7), (w 8)])), (3, .inl (4, [.ref 1, x, .int fa, .int pa]))] h0) : j_W jP d 115 0 (lv_args 0 [.ref 0, .int n]) [] h (fun rv h' => rv = some (.int (i_fv n fa pa)) ∧ h' = h) := by
  show j_W jP d 115 0 [(0, .ref 0), (1, .int n)] [] h _
  refine j_W.one xf9_M xf9_0 (by decide) (pcJ := 1) (stJ := [.int n]) rfl ?_
  refine j_W.ifc xf9_M xf9_1 (t := 12) rfl (fun c => ?_) (fun c => ?_)
  · rw [jk_ne] at c
    have c0 : ¬ n.toInt = (0 : Int32).toInt := by simpa using c
    clear c
    have c0e : ¬ n = 0 := fun q => c0 (by rw [q])
    refine j_W.one xf9_M xf9_12 (by decide) (pcJ := 13) (stJ := [.int n]) rfl ?_
    refine j_W.one xf9_M xf9_13 (by decide) (pcJ := 14) (stJ := [.int 1, .int n]) rfl ?_
    refine j_W.icmp xf9_M xf9_14 (t := 27) rfl (fun c => ?_) (fun c => ?_)
    · rw [jk_ne] at c
      have c1 : ¬ n.toInt = (1 : Int32).toInt := by simpa using c
      clear c
      have c1e : ¬ n = 1 := fun q => c1 (by rw [q])
      refine j_W.one xf9_M xf9_27 (by decide) (pcJ := 28) (stJ := [.int (-1)]) rfl ?_
      exact j_W.ret xf9_M xf9_28 rfl rfl ⟨(by unfold i_fv; rw [if_neg c0e]; rw [if_neg c1e]), rfl⟩
    · rw [jk_ne] at c
      have c1 : n.toInt = (1 : Int32).toInt := by simpa using c
      clear c
      have c1e : n = 1 := Int32.toInt_inj.mp c1
      refine j_W.one xf9_M xf9_17 (by decide) (pcJ := 18) (stJ := [.ref 0]) rfl ?_
      refine j_W.getK xf9_M xf9_18 (ci := 9) (j := 1) rfl K rfl rfl ?_
      refine j_W.getK xf9_M xf9_21 (ci := 4) (j := 3) rfl K rfl rfl ?_
      refine j_W.gto xf9_M xf9_24 (t := 28) rfl ?_
      exact j_W.ret xf9_M xf9_28 rfl rfl ⟨(by unfold i_fv; rw [if_neg c0e]; rw [if_pos c1e]), rfl⟩
  · rw [jk_ne] at c
    have c0 : n.toInt = (0 : Int32).toInt := by simpa using c
    clear c
    have c0e : n = 0 := Int32.toInt_inj.mp c0
    refine j_W.one xf9_M xf9_4 (by decide) (pcJ := 5) (stJ := [.ref 0]) rfl ?_
    refine j_W.getK xf9_M xf9_5 (ci := 9) (j := 1) rfl K rfl rfl ?_
    refine j_W.getK xf9_M xf9_8 (ci := 4) (j := 2) rfl K rfl rfl ?_
    exact j_W.ret xf9_M xf9_11 rfl rfl ⟨(by unfold i_fv; rw [if_pos c0e]), rfl⟩
set_option maxRecDepth 100000 in
theorem mf9_M : j_meth jP 202 = some (yX10_fault, cX10_fault, 2, (some .int), 1, false, 10) := rfl
set_option maxRecDepth 100000 in
theorem mf9_0 : j_code jP 202 0 = some (.aload_n 0) := rfl
set_option maxRecDepth 100000 in
theorem mf9_1 : j_code jP 202 1 = some (.iconst 0) := rfl
set_option maxRecDepth 100000 in
theorem mf9_2 : j_code jP 202 2 = some (.putfield 55) := rfl
set_option maxRecDepth 100000 in
theorem mf9_5 : j_code jP 202 5 = some (.iload_n 1) := rfl
set_option maxRecDepth 100000 in
theorem mf9_6 : j_code jP 202 6 = some (.ifCond .ne 10) := rfl
set_option maxRecDepth 100000 in
theorem mf9_9 : j_code jP 202 9 = some (.aload_n 0) := rfl
set_option maxRecDepth 100000 in
theorem mf9_10 : j_code jP 202 10 = some (.getfield 35) := rfl
set_option maxRecDepth 100000 in
theorem mf9_13 : j_code jP 202 13 = some (.goto 16) := rfl
set_option maxRecDepth 100000 in
theorem mf9_16 : j_code jP 202 16 = some (.iload_n 1) := rfl
set_option maxRecDepth 100000 in
theorem mf9_17 : j_code jP 202 17 = some (.iconst 1) := rfl
set_option maxRecDepth 100000 in
theorem mf9_18 : j_code jP 202 18 = some (.if_icmp .ne 10) := rfl
set_option maxRecDepth 100000 in
theorem mf9_21 : j_code jP 202 21 = some (.aload_n 0) := rfl
set_option maxRecDepth 100000 in
theorem mf9_22 : j_code jP 202 22 = some (.getfield 39) := rfl
set_option maxRecDepth 100000 in
theorem mf9_25 : j_code jP 202 25 = some (.goto 4) := rfl
set_option maxRecDepth 100000 in
theorem mf9_28 : j_code jP 202 28 = some (.iconst (-1)) := rfl
set_option maxRecDepth 100000 in
theorem mf9_29 : j_code jP 202 29 = some (.ireturn) := rfl
theorem mf9_ok {v : Nat → Value} {d : Nat} {n fa pa : Int32} {h h0 : J_H} (K : KN h [(359, .inl (10, [(v 0), (v 1), (v 2), (v 3), (v 4), (v 5), (v 6), (v 7), (v 8), (v 9), (v 10), .int fa, .int pa, (v 13), (v 14), (v 15), (v 16), (v 17), (v 18), (v 19), (v 20), (v 21), (v 22), (v 23), (v 24), (v 25), (v 26), (v 27)]))] h0) : j_W jP d 202 0 (lv_args 0 [.ref 359, .int n]) [] h (fun rv h' => rv = some (.int (i_fv n fa pa)) ∧ KN h' [(359, .inl (10, [.int 0, (v 1), (v 2), (v 3), (v 4), (v 5), (v 6), (v 7), (v 8), (v 9), (v 10), .int fa, .int pa, (v 13), (v 14), (v 15), (v 16), (v 17), (v 18), (v 19), (v 20), (v 21), (v 22), (v 23), (v 24), (v 25), (v 26), (v 27)]))] h0) := by
  show j_W jP d 202 0 [(0, .ref 359), (1, .int n)] [] h _
  refine j_W.one mf9_M mf9_0 (by decide) (pcJ := 1) (stJ := [.ref 359]) rfl ?_
  refine j_W.one mf9_M mf9_1 (by decide) (pcJ := 2) (stJ := [.int 0, .ref 359]) rfl ?_
  refine j_W.putK mf9_M mf9_2 (ci := 10) (j := 0) (k' := [(359, .inl (10, [.int 0, (v 1), (v 2), (v 3), (v 4), (v 5), (v 6), (v 7), (v 8), (v 9), (v 10), .int fa, .int pa, (v 13), (v 14), (v 15), (v 16), (v 17), (v 18), (v 19), (v 20), (v 21), (v 22), (v 23), (v 24), (v 25), (v 26), (v 27)]))]) rfl K rfl (Nat.le_of_ble_eq_true rfl) rfl (Or.inl rfl) rfl rfl (fun h K => ?_)
  refine j_W.one mf9_M mf9_5 (by decide) (pcJ := 6) (stJ := [.int n]) rfl ?_
  refine j_W.ifc mf9_M mf9_6 (t := 16) rfl (fun c => ?_) (fun c => ?_)
  · rw [jk_ne] at c
    have c0 : ¬ n.toInt = (0 : Int32).toInt := by simpa using c
    clear c
    have c0e : ¬ n = 0 := fun q => c0 (by rw [q])
    refine j_W.one mf9_M mf9_16 (by decide) (pcJ := 17) (stJ := [.int n]) rfl ?_
    refine j_W.one mf9_M mf9_17 (by decide) (pcJ := 18) (stJ := [.int 1, .int n]) rfl ?_
    refine j_W.icmp mf9_M mf9_18 (t := 28) rfl (fun c => ?_) (fun c => ?_)
    · rw [jk_ne] at c
      have c1 : ¬ n.toInt = (1 : Int32).toInt := by simpa using c
      clear c
      have c1e : ¬ n = 1 := fun q => c1 (by rw [q])
      refine j_W.one mf9_M mf9_28 (by decide) (pcJ := 29) (stJ := [.int (-1)]) rfl ?_
      exact j_W.ret mf9_M mf9_29 rfl rfl ⟨(by unfold i_fv; rw [if_neg c0e]; rw [if_neg c1e]), K⟩
    · rw [jk_ne] at c
      have c1 : n.toInt = (1 : Int32).toInt := by simpa using c
      clear c
      have c1e : n = 1 := Int32.toInt_inj.mp c1
      refine j_W.one mf9_M mf9_21 (by decide) (pcJ := 22) (stJ := [.ref 359]) rfl ?_
      refine j_W.getK mf9_M mf9_22 (ci := 10) (j := 12) rfl K rfl rfl ?_
      refine j_W.gto mf9_M mf9_25 (t := 29) rfl ?_
      exact j_W.ret mf9_M mf9_29 rfl rfl ⟨(by unfold i_fv; rw [if_neg c0e]; rw [if_pos c1e]), K⟩
  · rw [jk_ne] at c
    have c0 : n.toInt = (0 : Int32).toInt := by simpa using c
    clear c
    have c0e : n = 0 := Int32.toInt_inj.mp c0
    refine j_W.one mf9_M mf9_9 (by decide) (pcJ := 10) (stJ := [.ref 359]) rfl ?_
    refine j_W.getK mf9_M mf9_10 (ci := 10) (j := 11) rfl K rfl rfl ?_
    refine j_W.gto mf9_M mf9_13 (t := 29) rfl ?_
    exact j_W.ret mf9_M mf9_29 rfl rfl ⟨(by unfold i_fv; rw [if_pos c0e]), K⟩
theorem la_q_fault (x1 : Int32) {t : Nat} {h : J_H} (ht : t < 512) (H : la_I t h) : la_Q true (la_I (t + 1)) 115 202 [.ref 0, .int x1] [.ref 359, .int x1] h := by
  obtain ⟨⟨k, H⟩, RR⟩ := H
  obtain ⟨w, v, x, fa, pa, c0, -, c3⟩ := i_knX H.1.1.1 H.1.2.1
  refine j_W.mono (j_W.andV (show j_W jP 15 115 0 (lv_args 0 [.ref 0, .int x1]) [] h _ from pY_fault x1 H.1.1.1) (xf9_ok (d := 15) (n := x1) (KN.all ⟨c0, c3, trivial⟩)).toV) ?_
  rintro rv h1 ⟨⟨⟨⟨v1, rfl⟩, c1, f1⟩, e1, kx⟩, q1, qh⟩
  cases q1
  have RR1 : la_R t h1 := by rw [qh]; exact RR
  have H1 := H.kx c1 f1 e1 kx
  obtain ⟨L, L', n, S, a, e, w0, w, kp, sst, hL, R⟩ := RR1
  obtain ⟨x9, x11, x12, x14, x15, x16, x17, x18, x19, x20, om, x21, th, tm, sd, ot, tk, od, be, C, l9⟩ := la_mm H1.1.1.2 R.2.2.1
  have ea : fa = x11 := by
    have := H1.2.2.2.2.1
    rw [kx.2.1, jc_at_of c3, jc_at_of C.1] at this
    have this : some (Value.int fa) = some (Value.int x11) := this
    have := Option.some.inj this
    injection this
  have eb : pa = x12 := by
    have := H1.2.2.2.2.2
    rw [kx.2.2, jc_at_of c3, jc_at_of C.1] at this
    have this : some (Value.int pa) = some (Value.int x12) := this
    have := Option.some.inj this
    injection this
  subst ea eb
  refine ⟨_, rfl, f1.1, j_W.mono (j_W.andV (show j_W jP 15 202 0 (lv_args 0 [.ref 359, .int x1]) [] h1 _ from pN_fault x1 H1.1.1.2) (mf9_ok (d := 15) (n := x1) (v := fun j => ([.int th, .ref 360, .ref 361, .ref 362, .ref 363, .ref 364, .ref 365, .ref 366, .ref 367, .int x9, .int sst, .int fa, .int pa, .int (nI a), .int x14, .int x15, .int x16, .int x17, .int x18, .int x19, .int x20, .long x21, .ref 368, .int tm, .ref 369, .ref 370, .ref 371, .int om] : List Value).getD j .null) (KN.all ⟨C.1, trivial⟩)).toV) ?_⟩
  rintro rw h2 ⟨⟨⟨⟨v2, rfl⟩, c2, f2⟩, e2, km⟩, q2, K⟩
  cases q2
  exact ⟨_, rfl, fun _ => rfl, f2.1, ⟨k, H1.km c2 f2 e2 km⟩, la_R.m9 hL R (by omega) (fun x a1 a2 a3 => K.2.1 x (la_lk1 (by omega))) ⟨laU x9 fa pa x14 x15 x16 x17 x18 x19 x20 om x21, 0, tm, sd, ot, tk, od, be, ⟨K.at (a := 359) rfl, (K.2.1 360 rfl).trans C.2.1, (K.2.1 362 rfl).trans C.2.2.1, (K.2.1 363 rfl).trans C.2.2.2.1, (K.2.1 364 rfl).trans C.2.2.2.2.1, (K.2.1 368 rfl).trans C.2.2.2.2.2.1, (K.2.1 369 rfl).trans C.2.2.2.2.2.2.1, (K.2.1 370 rfl).trans C.2.2.2.2.2.2.2⟩, l9.2.1, l9.2.2.1⟩⟩
theorem mi7_ok {v : Nat → Value} {d n : Nat} {a b c e f : Int32} {l : List Int32} {h h0 : J_H} (hn : n ≤ 700) (hl : l.length = 700) (K : KN h [(359, .inl (10, [(v 0), (v 1), (v 2), (v 3), (v 4), (v 5), .ref 365, (v 7), (v 8), .int (nI n), (v 10), (v 11), (v 12), (v 13), (v 14), (v 15), (v 16), (v 17), (v 18), (v 19), (v 20), (v 21), (v 22), (v 23), (v 24), (v 25), (v 26), (v 27)])), (365, .inr (.inl (0, l)))] h0) : j_W jP (d + 1 + 1) 181 0 (lv_args 0 [.ref 359, .int a, .int b, .int c, .int e, .int f]) [] h (fun rv h' => h'[365]? = some (.inr (.inl (0, if n + 20 ≤ 700 then (f9B yM f 4 (n + 16) (f9B yM e 4 (n + 12) (f9B yM c 4 (n + 8) (f9B yM b 4 (n + 4) (f9B yM a 4 n l))))) else l))) ∧ ∃ (ln : Int32) (l' : J_C), KN h' [(359, .inl (10, [.int 0, (v 1), (v 2), (v 3), (v 4), (v 5), .ref 365, (v 7), (v 8), .int ln, (v 10), (v 11), (v 12), (v 13), (v 14), (v 15), (v 16), (v 17), (v 18), (v 19), (v 20), (v 21), (v 22), (v 23), (v 24), (v 25), (v 26), (v 27)])), (365, l')] h0) := by
  show j_W jP (d + 1 + 1) 181 0 [(0, .ref 359), (1, .int a), (2, .int b), (3, .int c), (4, .int e), (5, .int f)] [] h _
  refine j_W.one mi_M mi_0 (by decide) (pcJ := 1) (stJ := [.ref 359]) rfl ?_
  refine j_W.one mi_M mi_1 (by decide) (pcJ := 2) (stJ := [.int 0, .ref 359]) rfl ?_
  refine j_W.putK mi_M mi_2 (ci := 10) (j := 0) (k' := [(359, .inl (10, [.int 0, (v 1), (v 2), (v 3), (v 4), (v 5), .ref 365, (v 7), (v 8), .int (nI n), (v 10), (v 11), (v 12), (v 13), (v 14), (v 15), (v 16), (v 17), (v 18), (v 19), (v 20), (v 21), (v 22), (v 23), (v 24), (v 25), (v 26), (v 27)])), (365, .inr (.inl (0, l)))]) rfl K rfl (Nat.le_of_ble_eq_true rfl) rfl (Or.inl rfl) rfl rfl (fun h K => ?_)
  refine j_W.one mi_M mi_5 (by decide) (pcJ := 6) (stJ := [.ref 359]) rfl ?_
  refine j_W.getK mi_M mi_6 (ci := 10) (j := 9) rfl K rfl rfl ?_
  refine j_W.one mi_M mi_9 (by decide) (pcJ := 11) (stJ := [.int 20, .int (nI n)]) rfl ?_
  refine j_W.one mi_M mi_11 (by decide) (pcJ := 12) (stJ := [.int (nI (n + 20))]) (by rw [← mi_add n 20]; rfl) ?_
  refine j_W.one mi_M mi_12 (by decide) (pcJ := 15) (stJ := [.int 700, .int (nI (n + 20))]) rfl ?_
  refine j_W.icmp mi_M mi_15 (t := 20) rfl (fun c9 => ?_) (fun c9 => ?_)
  · rw [jk_le] at c9; have c9 := of_decide_eq_true c9; rw [nI_toInt (by omega), show (700 : Int32).toInt = 700 from rfl] at c9; have h20 : n + 20 ≤ 700 := by omega
    rw [if_pos h20]
    clear c9
    refine j_W.one mi_M mi_20 (by decide) (pcJ := 21) (stJ := [.ref 359]) rfl ?_
    refine j_W.one mi_M mi_21 (by decide) (pcJ := 22) (stJ := [.int a, .ref 359]) rfl ?_
    refine j_W.call mi_M mi_22 rfl (md := 3) (mj := 180) rfl (by decide) mt_M (As := [.ref 359, .int a]) (rest := []) (jk_spl3 (K.at rfl) rfl rfl rfl (Nat.le_of_ble_eq_true rfl) (Nat.le_of_ble_eq_true rfl)) (mt_ok (v := fun j => [.int 0, (v 1), (v 2), (v 3), (v 4), (v 5), .ref 365, (v 7), (v 8), .int (nI n), (v 10), (v 11), (v 12), (v 13), (v 14), (v 15), (v 16), (v 17), (v 18), (v 19), (v 20), (v 21), (v 22), (v 23), (v 24), (v 25), (v 26), (v 27)].getD j .null) (n := n) (by omega) (by first | exact hl | (simp only [fB_len]; exact hl)) (K.sub ⟨rfl, rfl, trivial⟩)) ?_
    rintro r h9 ⟨rfl, K9⟩
    have K : KN h9 [(359, .inl (10, [.int 0, (v 1), (v 2), (v 3), (v 4), (v 5), .ref 365, (v 7), (v 8), .int (nI (n + 4)), (v 10), (v 11), (v 12), (v 13), (v 14), (v 15), (v 16), (v 17), (v 18), (v 19), (v 20), (v 21), (v 22), (v 23), (v 24), (v 25), (v 26), (v 27)])), (365, .inr (.inl (0, (f9B yM a 4 n l))))] h0 := K.go K9 rfl rfl rfl
    clear K9
    show j_W jP _ 181 25 [(0, .ref 359), (1, .int a), (2, .int b), (3, .int c), (4, .int e), (5, .int f)] [] h9 _
    refine j_W.one mi_M mi_25 (by decide) (pcJ := 26) (stJ := [.ref 359]) rfl ?_
    refine j_W.one mi_M mi_26 (by decide) (pcJ := 27) (stJ := [.int b, .ref 359]) rfl ?_
    refine j_W.call mi_M mi_27 rfl (md := 3) (mj := 180) rfl (by decide) mt_M (As := [.ref 359, .int b]) (rest := []) (jk_spl3 (K.at rfl) rfl rfl rfl (Nat.le_of_ble_eq_true rfl) (Nat.le_of_ble_eq_true rfl)) (mt_ok (v := fun j => [.int 0, (v 1), (v 2), (v 3), (v 4), (v 5), .ref 365, (v 7), (v 8), .int (nI (n + 4)), (v 10), (v 11), (v 12), (v 13), (v 14), (v 15), (v 16), (v 17), (v 18), (v 19), (v 20), (v 21), (v 22), (v 23), (v 24), (v 25), (v 26), (v 27)].getD j .null) (n := n + 4) (by omega) (by first | exact hl | (simp only [fB_len]; exact hl)) (K.sub ⟨rfl, rfl, trivial⟩)) ?_
    rintro r h9 ⟨rfl, K9⟩
    have K : KN h9 [(359, .inl (10, [.int 0, (v 1), (v 2), (v 3), (v 4), (v 5), .ref 365, (v 7), (v 8), .int (nI (n + 8)), (v 10), (v 11), (v 12), (v 13), (v 14), (v 15), (v 16), (v 17), (v 18), (v 19), (v 20), (v 21), (v 22), (v 23), (v 24), (v 25), (v 26), (v 27)])), (365, .inr (.inl (0, (f9B yM b 4 (n + 4) (f9B yM a 4 n l)))))] h0 := K.go K9 rfl rfl rfl
    clear K9
    show j_W jP _ 181 30 [(0, .ref 359), (1, .int a), (2, .int b), (3, .int c), (4, .int e), (5, .int f)] [] h9 _
    refine j_W.one mi_M mi_30 (by decide) (pcJ := 31) (stJ := [.ref 359]) rfl ?_
    refine j_W.one mi_M mi_31 (by decide) (pcJ := 32) (stJ := [.int c, .ref 359]) rfl ?_
    refine j_W.call mi_M mi_32 rfl (md := 3) (mj := 180) rfl (by decide) mt_M (As := [.ref 359, .int c]) (rest := []) (jk_spl3 (K.at rfl) rfl rfl rfl (Nat.le_of_ble_eq_true rfl) (Nat.le_of_ble_eq_true rfl)) (mt_ok (v := fun j => [.int 0, (v 1), (v 2), (v 3), (v 4), (v 5), .ref 365, (v 7), (v 8), .int (nI (n + 8)), (v 10), (v 11), (v 12), (v 13), (v 14), (v 15), (v 16), (v 17), (v 18), (v 19), (v 20), (v 21), (v 22), (v 23), (v 24), (v 25), (v 26), (v 27)].getD j .null) (n := n + 8) (by omega) (by first | exact hl | (simp only [fB_len]; exact hl)) (K.sub ⟨rfl, rfl, trivial⟩)) ?_
    rintro r h9 ⟨rfl, K9⟩
    have K : KN h9 [(359, .inl (10, [.int 0, (v 1), (v 2), (v 3), (v 4), (v 5), .ref 365, (v 7), (v 8), .int (nI (n + 12)), (v 10), (v 11), (v 12), (v 13), (v 14), (v 15), (v 16), (v 17), (v 18), (v 19), (v 20), (v 21), (v 22), (v 23), (v 24), (v 25), (v 26), (v 27)])), (365, .inr (.inl (0, (f9B yM c 4 (n + 8) (f9B yM b 4 (n + 4) (f9B yM a 4 n l))))))] h0 := K.go K9 rfl rfl rfl
    clear K9
    show j_W jP _ 181 35 [(0, .ref 359), (1, .int a), (2, .int b), (3, .int c), (4, .int e), (5, .int f)] [] h9 _
    refine j_W.one mi_M mi_35 (by decide) (pcJ := 36) (stJ := [.ref 359]) rfl ?_
    refine j_W.one mi_M mi_36 (by decide) (pcJ := 38) (stJ := [.int e, .ref 359]) rfl ?_
    refine j_W.call mi_M mi_38 rfl (md := 3) (mj := 180) rfl (by decide) mt_M (As := [.ref 359, .int e]) (rest := []) (jk_spl3 (K.at rfl) rfl rfl rfl (Nat.le_of_ble_eq_true rfl) (Nat.le_of_ble_eq_true rfl)) (mt_ok (v := fun j => [.int 0, (v 1), (v 2), (v 3), (v 4), (v 5), .ref 365, (v 7), (v 8), .int (nI (n + 12)), (v 10), (v 11), (v 12), (v 13), (v 14), (v 15), (v 16), (v 17), (v 18), (v 19), (v 20), (v 21), (v 22), (v 23), (v 24), (v 25), (v 26), (v 27)].getD j .null) (n := n + 12) (by omega) (by first | exact hl | (simp only [fB_len]; exact hl)) (K.sub ⟨rfl, rfl, trivial⟩)) ?_
    rintro r h9 ⟨rfl, K9⟩
    have K : KN h9 [(359, .inl (10, [.int 0, (v 1), (v 2), (v 3), (v 4), (v 5), .ref 365, (v 7), (v 8), .int (nI (n + 16)), (v 10), (v 11), (v 12), (v 13), (v 14), (v 15), (v 16), (v 17), (v 18), (v 19), (v 20), (v 21), (v 22), (v 23), (v 24), (v 25), (v 26), (v 27)])), (365, .inr (.inl (0, (f9B yM e 4 (n + 12) (f9B yM c 4 (n + 8) (f9B yM b 4 (n + 4) (f9B yM a 4 n l)))))))] h0 := K.go K9 rfl rfl rfl
    clear K9
    show j_W jP _ 181 41 [(0, .ref 359), (1, .int a), (2, .int b), (3, .int c), (4, .int e), (5, .int f)] [] h9 _
    refine j_W.one mi_M mi_41 (by decide) (pcJ := 42) (stJ := [.ref 359]) rfl ?_
    refine j_W.one mi_M mi_42 (by decide) (pcJ := 44) (stJ := [.int f, .ref 359]) rfl ?_
    refine j_W.call mi_M mi_44 rfl (md := 3) (mj := 180) rfl (by decide) mt_M (As := [.ref 359, .int f]) (rest := []) (jk_spl3 (K.at rfl) rfl rfl rfl (Nat.le_of_ble_eq_true rfl) (Nat.le_of_ble_eq_true rfl)) (mt_ok (v := fun j => [.int 0, (v 1), (v 2), (v 3), (v 4), (v 5), .ref 365, (v 7), (v 8), .int (nI (n + 16)), (v 10), (v 11), (v 12), (v 13), (v 14), (v 15), (v 16), (v 17), (v 18), (v 19), (v 20), (v 21), (v 22), (v 23), (v 24), (v 25), (v 26), (v 27)].getD j .null) (n := n + 16) (by omega) (by first | exact hl | (simp only [fB_len]; exact hl)) (K.sub ⟨rfl, rfl, trivial⟩)) ?_
    rintro r h9 ⟨rfl, K9⟩
    have K : KN h9 [(359, .inl (10, [.int 0, (v 1), (v 2), (v 3), (v 4), (v 5), .ref 365, (v 7), (v 8), .int (nI (n + 20)), (v 10), (v 11), (v 12), (v 13), (v 14), (v 15), (v 16), (v 17), (v 18), (v 19), (v 20), (v 21), (v 22), (v 23), (v 24), (v 25), (v 26), (v 27)])), (365, .inr (.inl (0, (f9B yM f 4 (n + 16) (f9B yM e 4 (n + 12) (f9B yM c 4 (n + 8) (f9B yM b 4 (n + 4) (f9B yM a 4 n l))))))))] h0 := K.go K9 rfl rfl rfl
    clear K9
    show j_W jP _ 181 47 [(0, .ref 359), (1, .int a), (2, .int b), (3, .int c), (4, .int e), (5, .int f)] [] h9 _
    refine j_W.one mi_M mi_47 (by decide) (pcJ := 48) (stJ := [.ref 359]) rfl ?_
    refine j_W.getK mi_M mi_48 (ci := 10) (j := 9) rfl K rfl rfl ?_
    exact j_W.ret mi_M mi_51 rfl rfl ⟨K.at (a := 365) rfl, _, _, K⟩
  · rw [jk_le] at c9; have c9 := of_decide_eq_false c9; rw [nI_toInt (by omega), show (700 : Int32).toInt = 700 from rfl] at c9
    rw [if_neg (by omega)]
    refine j_W.one mi_M mi_18 (by decide) (pcJ := 19) (stJ := [.int (-1)]) rfl ?_
    exact j_W.ret mi_M mi_19 rfl rfl ⟨K.at (a := 365) rfl, _, _, K⟩
noncomputable def i_Sf (m : Nat) : Bool := Nat.beq m 113 || (Nat.beq m 103 || (Nat.beq m 104 || (Nat.beq m 181 || Nat.beq m 180)))
def i_pf (ci j : Nat) : Bool := (Nat.beq ci 4 && (Nat.beq j 2 || Nat.beq j 3)) || (Nat.beq ci 10 && (Nat.beq j 11 || Nat.beq j 12))
set_option maxRecDepth 100000 in
theorem i_Nf : jv_N jP i_Sf i_pf := jv_N_of (by decide +kernel)
theorem i_kp {h h' : J_H} (hk : jv_kp i_pf h h') {a ci j : Nat} {fs : List Value} (ha : h[a]? = some (.inl (ci, fs))) (hp : i_pf ci j = true) : jc_at h' a j = jc_at h a j := by
  obtain ⟨fs', a1, -, a2⟩ := hk a ci fs ha
  rw [jc_at_of a1, jc_at_of ha]
  exact a2 j hp
theorem la_fk_lt {k : Nat} (hk : k < 36) : i_fk k < 36 := by
  unfold i_fk
  split <;> omega
theorem i_fB5 {l m : List Int32} {n : Nat} {a b c e f : Int32} (hn : n + 20 ≤ 700) (hl : l.length = 700) (hm : m.length = 700) (h : bA9 l m n) : bA9 (f9B yX f 4 (n + 16) (f9B yX e 4 (n + 12) (f9B yX c 4 (n + 8) (f9B yX b 4 (n + 4) (f9B yX a 4 n l))))) (f9B yM f 4 (n + 16) (f9B yM e 4 (n + 12) (f9B yM c 4 (n + 8) (f9B yM b 4 (n + 4) (f9B yM a 4 n m))))) (n + 20) := by
  have h1 := fB_R (w := a) 4 n l m (by decide) (by omega) hl hm h
  have h2 := fB_R (w := b) 4 (n + 4) _ _ (by decide) (by omega) (by simp only [fB_len]; exact hl) (by simp only [fB_len]; exact hm) h1
  have h3 := fB_R (w := c) 4 (n + 4 + 4) _ _ (by decide) (by omega) (by simp only [fB_len]; exact hl) (by simp only [fB_len]; exact hm) h2
  have h4 := fB_R (w := e) 4 (n + 4 + 4 + 4) _ _ (by decide) (by omega) (by simp only [fB_len]; exact hl) (by simp only [fB_len]; exact hm) h3
  exact fB_R (w := f) 4 (n + 4 + 4 + 4 + 4) _ _ (by decide) (by omega) (by simp only [fB_len]; exact hl) (by simp only [fB_len]; exact hm) h4
def nbF (ci j : Nat) : Bool := Nat.beq ci 8 && Nat.beq j 1
def nbSF (m : Nat) : Bool := Nat.beq m 113 || (Nat.beq m 103 || Nat.beq m 104)
set_option maxRecDepth 1000000 in
theorem nb_NF : nb_N jP nbSF nbF := nb_N_of (by decide +kernel)
def nbO (ci j : Nat) : Bool := Nat.beq ci 10 && Nat.beq j 0
def nbSO (m : Nat) : Bool := Nat.beq m 297
set_option maxRecDepth 1000000 in
theorem nb_NO : nb_N jP nbSO nbO := nb_N_of (by decide +kernel)
theorem nbF_c : ∀ ci j, nbF ci j = true → ci = 8 := fun ci j h => Nat.eq_of_beq_eq_true (Bool.and_eq_true_iff.mp h).1
theorem nbX_c : ∀ ci j, nbX ci j = true → ci = 6 := fun ci j h => Nat.eq_of_beq_eq_true (Bool.and_eq_true_iff.mp h).1
theorem nbM_c : ∀ ci j, nbM ci j = true → ci = 10 := fun ci j h => Nat.eq_of_beq_eq_true (Bool.and_eq_true_iff.mp h).1
theorem nbO_c : ∀ ci j, nbO ci j = true → ci = 10 := fun ci j h => Nat.eq_of_beq_eq_true (Bool.and_eq_true_iff.mp h).1
theorem la_no3 {a x y z : Nat} (h1 : a ≠ x) (h2 : a ≠ y) (h3 : a ≠ z) : ∀ q, q ∈ [x, y, z] → a ≠ q := fun q hq => by
  rcases List.mem_cons.mp hq with rfl | hq
  · exact h1
  rcases List.mem_cons.mp hq with rfl | hq
  · exact h2
  rcases List.mem_cons.mp hq with rfl | hq
  · exact h3
  exact absurd hq (List.not_mem_nil)
theorem la_q_feed (x1 x2 x3 x4 x5 : Int32) {t : Nat} {h : J_H} (ht : t < 512) (H : la_I t h) : la_Q true (la_I (t + 1)) 113 181 [.ref 0, .int x1, .int x2, .int x3, .int x4, .int x5] [.ref 359, .int x1, .int x2, .int x3, .int x4, .int x5] h := by
  obtain ⟨⟨k, H⟩, L, L', n, S, a, e, w0, w9, kp9, sst, hL, R⟩ := H
  have hk := H.2.1
  obtain ⟨w, v, x, fa, pa, c0, c1, c3⟩ := i_knX H.1.1.1 H.1.2.1
  obtain ⟨⟨l, m, hl, hm, l7, m7, hb⟩, g1, g2⟩ := H.2.2.2
  refine j_W.mono (((((pX_feed hk x1 x2 x3 x4 x5 H.1.1.1 H.1.2.1).andV (xi9_ok (d := 13) (n := 20 * k) (w := fun j => [.ref 1, .ref 3].getD j (w j)) (by omega) l7 (KN.all ⟨c0, c1, hl, trivial⟩)).toV)).andV (jv_V i_Nf (mi := 113) (by decide +kernel))).andV (nb_V nb_NF (mi := 113) rfl)) ?_
  rintro rv h1 ⟨⟨⟨⟨⟨rfl, d1, f1⟩, e1⟩, l1⟩, kp⟩, NB⟩
  have R1 := hR.x9 hL R (fun x a1 a2 a3 a4 => la_nb nbF_c H.2.2.1 NB la_k8 a1 (la_no3 a2 a3 a4))
  have M1 : IM h1 := H.1.1.2.oth f1
  have e3 : jc_at h1 359 9 = some (.int (nI (20 * k))) := (f1.2 359 9 (by decide)).trans H.1.2.2
  have hm1 := i_cellI f1.1 (fun i => f1.2 365 i (by decide)) hm
  obtain ⟨y9, y11, y12, y14, y15, y16, y17, y18, y19, y20, om, y21, th, tm, sd, ot, tk, od, be, C, l9⟩ := la_mm M1 R1.2.2.1
  have e9 := i_ati C.1 rfl e3
  cases e9
  have d0 := C.1
  refine ⟨_, rfl, f1.1, j_W.mono ((((pM_feed hk x1 x2 x3 x4 x5 M1 e3).andV (mi7_ok (d := 13) (n := 20 * k) (v := fun j => ([.int th, .ref 360, .ref 361, .ref 362, .ref 363, .ref 364, .ref 365, .ref 366, .ref 367, .int (nI (20 * k)), .int sst, .int y11, .int y12, .int (nI a), .int y14, .int y15, .int y16, .int y17, .int y18, .int y19, .int y20, .long y21, .ref 368, .int tm, .ref 369, .ref 370, .ref 371, .int om] : List Value).getD j .null) (by omega) m7 (KN.all ⟨C.1, hm1, trivial⟩)).toV)).andV (jv_V i_Nf (mi := 181) (by decide +kernel))) ?_⟩
  rintro rw h2 ⟨⟨⟨⟨rfl, d2, f2⟩, e2⟩, m2, ln, l', K⟩, kp2⟩
  refine ⟨_, rfl, fun _ => rfl, f2.1, ⟨i_fk k, ⟨⟨d1.oth f2, d2⟩, (f2.2 1 1 (by decide)).trans e1, e2⟩, la_fk_lt hk, (H.2.2.1.tr f1.1).tr f2.1, ⟨_, _, i_cellI f2.1 (fun i => f2.2 2 i (by decide)) l1, m2, ?_, ?_, ?_⟩, ?_, ?_⟩, la_R.m9 hL R1 (by omega) (fun x a1 a2 a3 => K.2.1 x (la_lk2 (by omega) (by omega))) ⟨laU ln y11 y12 y14 y15 y16 y17 y18 y19 y20 om y21, 0, tm, sd, ot, tk, od, be, ⟨K.at (a := 359) rfl, (K.2.1 360 rfl).trans C.2.1, (K.2.1 362 rfl).trans C.2.2.1, (K.2.1 363 rfl).trans C.2.2.2.1, (K.2.1 364 rfl).trans C.2.2.2.2.1, (K.2.1 368 rfl).trans C.2.2.2.2.2.1, (K.2.1 369 rfl).trans C.2.2.2.2.2.2.1, (K.2.1 370 rfl).trans C.2.2.2.2.2.2.2⟩, l9.2.1, l9.2.2.1⟩⟩
  · split
    · simp only [fB_len]; exact l7
    · exact l7
  · split
    · simp only [fB_len]; exact m7
    · exact m7
  · unfold i_fk
    by_cases h20 : 20 * k + 20 ≤ 700
    · rw [if_pos h20, if_pos h20, if_pos h20]
      exact i_fB5 h20 l7 m7 hb
    · rw [if_neg h20, if_neg h20, if_neg h20]
      exact hb
  · rw [f2.2 3 2 (by decide), i_kp kp c3 rfl, i_kp kp2 d0 rfl, f1.2 359 11 (by decide)]
    exact g1
  · rw [f2.2 3 3 (by decide), i_kp kp c3 rfl, i_kp kp2 d0 rfl, f1.2 359 12 (by decide)]
    exact g2
theorem la_c325 {h : J_H} (hI : IC h) : ∃ ln : Int32, h[325]? = some (.inl (6, [.ref 326, .int ln])) := by
  rcases hI with ⟨r, t, hg⟩ | ⟨r, t, hg⟩
  · obtain ⟨f1, c1, b1⟩ := i_ok2_ok (a := 325) (ci := 6) (Ts := [some (some (some 326)), some none]) hg (by decide +kernel)
    obtain ⟨w9, f1_0, e9, rfl, b1_0⟩ := b1; subst e9
    obtain ⟨w9, f1_1, e9, ⟨y, rfl⟩, b1_1⟩ := b1_0; subst e9
    obtain rfl := b1_1
    exact ⟨y, c1⟩
  · obtain ⟨f1, c1, b1⟩ := i_ok2_ok (a := 325) (ci := 6) (Ts := [some (some (some 326)), some none]) hg (by decide +kernel)
    obtain ⟨w9, f1_0, e9, rfl, b1_0⟩ := b1; subst e9
    obtain ⟨w9, f1_1, e9, ⟨y, rfl⟩, b1_1⟩ := b1_0; subst e9
    obtain rfl := b1_1
    exact ⟨y, c1⟩
theorem la_q_print {t : Nat} {h : J_H} (ht : t < 512) (H : la_I t h) : la_Q false (la_I (t + 1)) 158 296 [.ref 0] [.ref 359] h := by
  obtain ⟨⟨k, H⟩, L, L', n, S, a, e, w0, w, kp, sst, hL, R⟩ := H
  have J : j_V jP 15 158 0 (lv_args 0 [.ref 0]) [] h (fun rv h' => hX L L' n S w 0 h' ∧ ∀ x, x < 371 → x ≠ 0 → x ≠ 2 → x ≠ 325 → x ≠ 326 → h'[x]? = h[x]?) := by
    obtain ⟨ln, c325⟩ := la_c325 H.1.1.1
    have fin : ∀ (h1 h' : J_H) (ln' : Int32), nbR nbX h h1 → KN h' [(0, .inl (9, [.ref 1, .ref 3, .ref 4, .ref 29, .ref 281, .ref 325, .ref L, .ref L', .int 0])), (325, .inl (6, [.ref 326, .int ln']))] h1 → hX L L' n S w 0 h' ∧ ∀ x, x < 371 → x ≠ 0 → x ≠ 2 → x ≠ 325 → x ≠ 326 → h'[x]? = h[x]? := fun h1 h' ln' NB K => by
      have F : ∀ x, x < 371 → x ≠ 0 → x ≠ 2 → x ≠ 325 → x ≠ 326 → h'[x]? = h[x]? := fun x h5 a0 a2 a3 a4 => (K.2.1 x (la_lk2 a0 a3)).trans (la_nb nbX_c H.2.2.1 NB la_k6 h5 (la_no3 a2 a3 a4))
      exact ⟨R.1.f9 (K.at (a := 0) rfl) (fun x a1 a2 => F x (by omega) (by omega) (by omega) (by omega) (by omega)) (fun x a1 a2 => F x (by omega) (by omega) (by omega) (by omega) (by omega)), F⟩
    rcases hL with ⟨rfl, rfl⟩ | ⟨rfl, rfl⟩
    · refine j_V.mono (xpr_okA (KN.all ⟨R.1.1, c325, trivial⟩)) ?_
      rintro rv h' ⟨-, ln', h1, NB, K⟩
      exact fin h1 h' ln' NB K
    · refine j_V.mono (xpr_okB (KN.all ⟨R.1.1, c325, trivial⟩)) ?_
      rintro rv h' ⟨-, ln', h1, NB, K⟩
      exact fin h1 h' ln' NB K
  refine j_W.mono (j_W.andV (show j_W jP 15 158 0 (lv_args 0 [.ref 0]) [] h _ from pY_print H.1.1.1) J) ?_
  rintro rv h1 ⟨⟨⟨⟨v, rfl⟩, c1, f1⟩, e1, kx⟩, X1, F1⟩
  have H1 := H.kx c1 f1 e1 kx
  have M1 : hM9 w kp sst (nI a) h1 := R.2.2.1.fr (fun x a1 a2 => F1 x (by omega) (by omega) (by omega) (by omega) (by omega))
  obtain ⟨x9, x11, x12, x14, x15, x16, x17, x18, x19, x20, om, x21, th, tm, sd, ot, tk, od, be, C, l9⟩ := la_mm H1.1.1.2 M1
  refine ⟨v, rfl, f1.1, j_W.mono (j_W.andV (j_W.andV (show j_W jP 15 296 0 (lv_args 0 [.ref 359]) [] h1 _ from pN_print H1.1.1.2) (mpr_ok (u := fun j => ([.int th, .ref 360, .ref 361, .ref 362, .ref 363, .ref 364, .ref 365, .ref 366, .ref 367, .int x9, .int sst, .int x11, .int x12, .int (nI a), .int x14, .int x15, .int x16, .int x17, .int x18, .int x19, .int x20, .long x21, .ref 368, .int tm, .ref 369, .ref 370, .ref 371, .int om] : List Value).getD j .null) (KN.all ⟨C.1, C.2.1, trivial⟩))) (nb_V nb_NM (mi := 296) rfl)) ?_⟩
  rintro rw h2 ⟨⟨⟨⟨⟨v2, rfl⟩, c2, f2⟩, e2, km⟩, -, om', c359⟩, NB⟩
  refine ⟨v2, rfl, (fun z => nomatch z), f2.1, ⟨k, H1.km c2 f2 e2 km⟩, la_R.n hL R (by omega) X1 (fun x a1 a2 => F1 x (by omega) (by omega) (by omega) (by omega) (by omega)) (fun x a1 a2 a3 => la_nb nbM_c H1.2.2.1 NB la_k10 (by omega) (la_no3 a2 a3 (by omega))) ⟨laU x9 x11 x12 x14 x15 x16 x17 x18 x19 x20 om' x21, 0, tm, sd, ot, tk, od, be, ⟨c359, NB.int0 C.2.1, NB.int0 C.2.2.1, NB.int0 C.2.2.2.1, NB.int0 C.2.2.2.2.1, NB.int0 C.2.2.2.2.2.1, NB.int0 C.2.2.2.2.2.2.1, NB.int0 C.2.2.2.2.2.2.2⟩, l9.2.1, l9.2.2.1⟩⟩
theorem nbR.th {h h' : J_H} {u : Nat → Value} {th sst acs tm : Int32} {w sd ot kp tk od be : List Int32} (R : nbR nbO h h') (C : hMc h u th sst acs tm w sd ot kp tk od be) : ∃ th', hMc h' u th' sst acs tm w sd ot kp tk od be := by
  obtain ⟨c', e, fs', rfl, -, k⟩ := R.2 359 _ C.1
  obtain ⟨y, hy⟩ := (k 0).2 th rfl
  refine ⟨y, ⟨?_, R.int0 C.2.1, R.int0 C.2.2.1, R.int0 C.2.2.2.1, R.int0 C.2.2.2.2.1, R.int0 C.2.2.2.2.2.1, R.int0 C.2.2.2.2.2.2.1, R.int0 C.2.2.2.2.2.2.2⟩⟩
  rw [e]
  refine congrArg (fun q => some (Sum.inl (10, q))) (List.ext_getElem? fun j => ?_)
  cases j with
  | zero => exact hy
  | succ j => exact ((k (j + 1)).1 rfl).trans rfl
theorem la_r_out (x1 : Int32) {t : Nat} {h : J_H} (H : la_I t h) : j_W jP 15 297 0 (lv_args 0 [.ref 359, .int x1]) [] h (fun rv h' => (∃ v, rv = some (.int v)) ∧ j_same h h' ∧ la_I (t + 1) h') := by
  obtain ⟨⟨k, H⟩, L, L', n, S, a, e, w0, w, kp, sst, hL, R⟩ := H
  refine j_W.mono (j_W.andV (show j_W jP 15 297 0 (lv_args 0 [.ref 359, .int x1]) [] h _ from pN_out x1 H.1.1.2) (nb_V nb_NO (mi := 297) rfl)) ?_
  rintro rv h1 ⟨⟨⟨a9, c1, f1⟩, e1, km⟩, NB⟩
  obtain ⟨u, th, tm, sd, ot, tk, od, be, C, l9⟩ := R.2.2.1
  obtain ⟨th', C'⟩ := NB.th C
  exact ⟨a9, f1.1, ⟨k, H.km c1 f1 e1 km⟩, la_R.m9 hL R (by omega) (fun x a1 a2 a3 => la_nb nbO_c H.2.2.1 NB la_k10 (by omega) (la_no3 a2 a3 (by omega))) ⟨u, th', tm, sd, ot, tk, od, be, C', l9⟩⟩
theorem la_I.st {t : Nat} {h : J_H} {w v : Int64} (H : la_I t h) (hw : h[372]? = some (.inr (.inr (.inl [w])))) : la_I t (h.set 372 (.inr (.inr (.inl [v])))) := by
  obtain ⟨⟨k, H⟩, RR⟩ := H
  have hs : j_same h (h.set 372 (.inr (.inr (.inl [v])))) := j_same.set hw rfl
  have he : ∀ x, x < 372 → (h.set 372 (.inr (.inr (.inl [v]))))[x]? = h[x]? := fun x hx => List.getElem?_set_ne (by omega)
  have hk : ∀ x i, x < 372 → jc_at (h.set 372 (.inr (.inr (.inl [v])))) x i = jc_at h x i := fun x i hx => i_cellE (he x hx)
  obtain ⟨⟨l, m, a1, a2, a3⟩, b1, b2⟩ := H.2.2.2
  exact ⟨⟨k, ⟨⟨H.1.1.1.oth ⟨hs, fun x i hx => hk x i (by omega)⟩, H.1.1.2.oth9 hs hk⟩, (hk 1 1 (by decide)).trans H.1.2.1, (hk 359 9 (by decide)).trans H.1.2.2⟩, H.2.1, H.2.2.1.tr hs, ⟨l, m, (he 2 (by decide)).trans a1, (he 365 (by decide)).trans a2, a3⟩, by rw [hk 3 2 (by decide), hk 359 11 (by decide)]; exact b1, by rw [hk 3 3 (by decide), hk 359 12 (by decide)]; exact b2⟩, RR.fr (Nat.le_refl _) (he 0 (by decide)) (fun x z1 z2 => he x (by omega)) (fun x z1 z2 => he x (by omega)) (fun _ _ _ _ M => M.fr (fun x z1 z2 => he x (by omega)))⟩
theorem la_I.nx {t : Nat} {h : J_H} (H : la_I t h) : la_I (t + 1) h := by
  obtain ⟨k, L, L', n, S, a, e, w0, w, kp, sst, hL, R⟩ := H
  exact ⟨k, la_R.mk hL R (by omega)⟩
theorem la_I.same {t : Nat} {h : J_H} (H : la_I t h) : j_same la_h9 h := by
  obtain ⟨⟨k, H⟩, -⟩ := H
  exact H.2.2.1
theorem la_I.sh {t : Nat} {h : J_H} (H : la_I t h) : i_Sh h := by
  obtain ⟨⟨k, H⟩, -⟩ := H
  exact i_sh H.1.1.1

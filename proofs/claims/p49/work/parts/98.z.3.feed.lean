/-! fault, feed, print, out; the start: written by wip/py/gen_zr.py -/
theorem la_lk1 {a x : Nat} {c : J_C} (h : x ≠ a) : jk_lk [(a, c)] x = none := by
  unfold jk_lk
  cases hb : Nat.beq a x with
  | true => exact absurd (Nat.eq_of_beq_eq_true hb).symm h
  | false => rfl
theorem la_lk2 {a b x : Nat} {c e : J_C} (h : x ≠ a) (g : x ≠ b) : jk_lk [(a, c), (b, e)] x = none := by
  unfold jk_lk
  cases hb : Nat.beq a x with
  | true => exact absurd (Nat.eq_of_beq_eq_true hb).symm h
  | false => exact la_lk1 g
theorem la_lk3 {a b c x : Nat} {u v w : J_C} (h : x ≠ a) (g : x ≠ b) (k : x ≠ c) : jk_lk [(a, u), (b, v), (c, w)] x = none := by
  unfold jk_lk
  cases hb : Nat.beq a x with
  | true => exact absurd (Nat.eq_of_beq_eq_true hb).symm h
  | false => exact la_lk2 g k
theorem la_lk4 {a b c e x : Nat} {u v w z : J_C} (h : x ≠ a) (g : x ≠ b) (k : x ≠ c) (m : x ≠ e) : jk_lk [(a, u), (b, v), (c, w), (e, z)] x = none := by
  unfold jk_lk
  cases hb : Nat.beq a x with
  | true => exact absurd (Nat.eq_of_beq_eq_true hb).symm h
  | false => exact la_lk3 g k m
/-- the class's run, then the reference's -/
theorem la_R.n {t : Nat} {L L' n S a e D : Nat} {w0 w kp : List Int32} {sst st : Int32} {h h1 h2 : J_H} (hL : (L = 327 ∧ L' = 343) ∨ (L = 343 ∧ L' = 327)) (R : hR L L' n S a e D w0 w kp sst h) (hD : D ≤ 2000 + 99 * t) (X : hX L L' n S w st h1) (F1 : ∀ x, 29 ≤ x → x < 281 → h1[x]? = h[x]?) (F : ∀ x, x < 359 → x ≠ 2 → x ≠ 326 → h2[x]? = h1[x]?) (M : hM9 w kp st (nI a) h2) (X2 : la_X L n S h2) : la_R t h2 :=
  la_R.mk hL (R.n9 (X.f9 ((F 0 (by omega) (by omega) (by omega)).trans X.1) (fun x a1 a2 => F x (by omega) (by omega) (by omega)) (fun x a1 a2 => F x (by omega) (by omega) (by omega))) (fun x a1 a2 => (F x (by omega) (by omega) (by omega)).trans (F1 x a1 a2)) M) X2 hD
theorem la_R.m9 {t : Nat} {L L' n S a e D : Nat} {w0 w kp : List Int32} {sst : Int32} {h h' : J_H} (hL : (L = 327 ∧ L' = 343) ∨ (L = 343 ∧ L' = 327)) (R : hR L L' n S a e D w0 w kp sst h) (hD : D ≤ 2000 + 99 * t) (F : ∀ x, x < 359 → x ≠ 2 → x ≠ 326 → h'[x]? = h[x]?) (M : hM9 w kp sst (nI a) h') (X2 : la_X L n S h') : la_R t h' := la_R.n hL R hD R.1 (fun _ _ _ => rfl) F M X2
theorem hR.x9 {L L' n S a e D : Nat} {w0 w kp : List Int32} {sst : Int32} {h h' : J_H} (hL : (L = 327 ∧ L' = 343) ∨ (L = 343 ∧ L' = 327)) (R : hR L L' n S a e D w0 w kp sst h) (F : ∀ x, x < 371 → x ≠ 1 → x ≠ 2 → x ≠ 326 → h'[x]? = h[x]?) : hR L L' n S a e D w0 w kp sst h' :=
  R.n9 (R.1.f9 ((F 0 (by omega) (by omega) (by omega) (by omega)).trans R.1.1) (fun x a1 a2 => F x (by omega) (by omega) (by omega) (by omega)) (fun x a1 a2 => F x (by omega) (by omega) (by omega) (by omega))) (fun x a1 a2 => F x (by omega) (by omega) (by omega) (by omega)) (R.2.2.1.fr (fun x a1 a2 => F x (by omega) (by omega) (by omega) (by omega)))
def i_fv (n fa pa : Int32) : Int32 := if n = 0 then fa else if n = 1 then pa else -1
set_option maxRecDepth 100000 in
theorem xf9_M : j_meth jP 115 = some (yX9_fault, cX9_fault, 2, (some .int), 1, false, 9) := rfl
set_option maxRecDepth 100000 in
theorem xf9_0 : j_code jP 115 0 = some (.iload_n 1) := rfl
set_option maxRecDepth 100000 in
theorem xf9_1 : j_code jP 115 1 = some (.ifCond .ne 11) := rfl
set_option maxRecDepth 100000 in
theorem xf9_4 : j_code jP 115 4 = some (.aload_n 0) := rfl
set_option maxRecDepth 100000 in
theorem xf9_5 : j_code jP 115 5 = some (.getfield 21) := rfl
set_option maxRecDepth 100000 in
theorem xf9_8 : j_code jP 115 8 = some (.getfield 107) := rfl
set_option maxRecDepth 100000 in
theorem xf9_11 : j_code jP 115 11 = some (.ireturn) := rfl
set_option maxRecDepth 100000 in
theorem xf9_12 : j_code jP 115 12 = some (.iload_n 1) := rfl
set_option maxRecDepth 100000 in
theorem xf9_13 : j_code jP 115 13 = some (.iconst 1) := rfl
set_option maxRecDepth 100000 in
theorem xf9_14 : j_code jP 115 14 = some (.if_icmp .ne 13) := rfl
set_option maxRecDepth 100000 in
theorem xf9_17 : j_code jP 115 17 = some (.aload_n 0) := rfl
set_option maxRecDepth 100000 in
theorem xf9_18 : j_code jP 115 18 = some (.getfield 21) := rfl
set_option maxRecDepth 100000 in
theorem xf9_21 : j_code jP 115 21 = some (.getfield 110) := rfl
set_option maxRecDepth 100000 in
theorem xf9_24 : j_code jP 115 24 = some (.goto 4) := rfl
set_option maxRecDepth 100000 in
theorem xf9_27 : j_code jP 115 27 = some (.iconst (-1)) := rfl
set_option maxRecDepth 100000 in
theorem xf9_28 : j_code jP 115 28 = some (.ireturn) := rfl
theorem xf9_ok {w : Nat → Value} {x : Value} {d : Nat} {n fa pa : Int32} {h h0 : J_H} (K : KN h [(0, .inl (9, [.ref 1, .ref 3, (w 2), (w 3), (w 4), (w 5), (w 6), (w 7), (w 8)])), (3, .inl (4, [.ref 1, x, .int fa, .int pa]))] h0) : j_W jP d 115 0 (lv_args 0 [.ref 0, .int n]) [] h (fun rv h' => rv = some (.int (i_fv n fa pa)) ∧ h' = h) := by
  show j_W jP d 115 0 [(0, .ref 0), (1, .int n)] [] h _
  refine j_W.one xf9_M xf9_0 (by decide) (pcJ := 1) (stJ := [.int n]) rfl ?_
  refine j_W.ifc xf9_M xf9_1 (t := 12) rfl (fun c => ?_) (fun c => ?_)
  · rw [jk_ne] at c
    have c0 : ¬ n.toInt = (0 : Int32).toInt := by simpa using c
    clear c
    have c0e : ¬ n = 0 := fun q => c0 (by rw [q])
    refine j_W.one xf9_M xf9_12 (by decide) (pcJ := 13) (stJ := [.int n]) rfl ?_
    refine j_W.one xf9_M xf9_13 (by decide) (pcJ := 14) (stJ := [.int 1, .int n]) rfl ?_
    refine j_W.icmp xf9_M xf9_14 (t := 27) rfl (fun c => ?_) (fun c => ?_)
    · rw [jk_ne] at c
      have c1 : ¬ n.toInt = (1 : Int32).toInt := by simpa using c
      clear c
      have c1e : ¬ n = 1 := fun q => c1 (by rw [q])
      refine j_W.one xf9_M xf9_27 (by decide) (pcJ := 28) (stJ := [.int (-1)]) rfl ?_
      exact j_W.ret xf9_M xf9_28 rfl rfl ⟨(by unfold i_fv; rw [if_neg c0e]; rw [if_neg c1e]), rfl⟩
    · rw [jk_ne] at c
      have c1 : n.toInt = (1 : Int32).toInt := by simpa using c
      clear c
      have c1e : n = 1 := Int32.toInt_inj.mp c1
      refine j_W.one xf9_M xf9_17 (by decide) (pcJ := 18) (stJ := [.ref 0]) rfl ?_
      refine j_W.getK xf9_M xf9_18 (ci := 9) (j := 1) rfl K rfl rfl ?_
      refine j_W.getK xf9_M xf9_21 (ci := 4) (j := 3) rfl K rfl rfl ?_
      refine j_W.gto xf9_M xf9_24 (t := 28) rfl ?_
      exact j_W.ret xf9_M xf9_28 rfl rfl ⟨(by unfold i_fv; rw [if_neg c0e]; rw [if_pos c1e]), rfl⟩
  · rw [jk_ne] at c
    have c0 : n.toInt = (0 : Int32).toInt := by simpa using c
    clear c
    have c0e : n = 0 := Int32.toInt_inj.mp c0
    refine j_W.one xf9_M xf9_4 (by decide) (pcJ := 5) (stJ := [.ref 0]) rfl ?_
    refine j_W.getK xf9_M xf9_5 (ci := 9) (j := 1) rfl K rfl rfl ?_
    refine j_W.getK xf9_M xf9_8 (ci := 4) (j := 2) rfl K rfl rfl ?_
    exact j_W.ret xf9_M xf9_11 rfl rfl ⟨(by unfold i_fv; rw [if_pos c0e]), rfl⟩
set_option maxRecDepth 100000 in
theorem mf9_M : j_meth jP 202 = some (yX10_fault, cX10_fault, 2, (some .int), 1, false, 10) := rfl
set_option maxRecDepth 100000 in
theorem mf9_0 : j_code jP 202 0 = some (.aload_n 0) := rfl
set_option maxRecDepth 100000 in
theorem mf9_1 : j_code jP 202 1 = some (.iconst 0) := rfl
set_option maxRecDepth 100000 in
theorem mf9_2 : j_code jP 202 2 = some (.putfield 55) := rfl
set_option maxRecDepth 100000 in
theorem mf9_5 : j_code jP 202 5 = some (.iload_n 1) := rfl
set_option maxRecDepth 100000 in
theorem mf9_6 : j_code jP 202 6 = some (.ifCond .ne 10) := rfl
set_option maxRecDepth 100000 in
theorem mf9_9 : j_code jP 202 9 = some (.aload_n 0) := rfl
set_option maxRecDepth 100000 in
theorem mf9_10 : j_code jP 202 10 = some (.getfield 35) := rfl
set_option maxRecDepth 100000 in
theorem mf9_13 : j_code jP 202 13 = some (.goto 16) := rfl
set_option maxRecDepth 100000 in
theorem mf9_16 : j_code jP 202 16 = some (.iload_n 1) := rfl
set_option maxRecDepth 100000 in
theorem mf9_17 : j_code jP 202 17 = some (.iconst 1) := rfl
set_option maxRecDepth 100000 in
theorem mf9_18 : j_code jP 202 18 = some (.if_icmp .ne 10) := rfl
set_option maxRecDepth 100000 in
theorem mf9_21 : j_code jP 202 21 = some (.aload_n 0) := rfl
set_option maxRecDepth 100000 in
theorem mf9_22 : j_code jP 202 22 = some (.getfield 39) := rfl
set_option maxRecDepth 100000 in
theorem mf9_25 : j_code jP 202 25 = some (.goto 4) := rfl
set_option maxRecDepth 100000 in
theorem mf9_28 : j_code jP 202 28 = some (.iconst (-1)) := rfl
set_option maxRecDepth 100000 in
theorem mf9_29 : j_code jP 202 29 = some (.ireturn) := rfl
theorem mf9_ok {v : Nat → Value} {d : Nat} {n fa pa : Int32} {h h0 : J_H} (K : KN h [(359, .inl (10, [(v 0), (v 1), (v 2), (v 3), (v 4), (v 5), (v 6), (v 7), (v 8), (v 9), (v 10), .int fa, .int pa, (v 13), (v 14), (v 15), (v 16), (v 17), (v 18), (v 19), (v 20), (v 21), (v 22), (v 23), (v 24), (v 25), (v 26), (v 27)]))] h0) : j_W jP d 202 0 (lv_args 0 [.ref 359, .int n]) [] h (fun rv h' => rv = some (.int (i_fv n fa pa)) ∧ KN h' [(359, .inl (10, [.int 0, (v 1), (v 2), (v 3), (v 4), (v 5), (v 6), (v 7), (v 8), (v 9), (v 10), .int fa, .int pa, (v 13), (v 14), (v 15), (v 16), (v 17), (v 18), (v 19), (v 20), (v 21), (v 22), (v 23), (v 24), (v 25), (v 26), (v 27)]))] h0) := by
  show j_W jP d 202 0 [(0, .ref 359), (1, .int n)] [] h _
  refine j_W.one mf9_M mf9_0 (by decide) (pcJ := 1) (stJ := [.ref 359]) rfl ?_
  refine j_W.one mf9_M mf9_1 (by decide) (pcJ := 2) (stJ := [.int 0, .ref 359]) rfl ?_
  refine j_W.putK mf9_M mf9_2 (ci := 10) (j := 0) (k' := [(359, .inl (10, [.int 0, (v 1), (v 2), (v 3), (v 4), (v 5), (v 6), (v 7), (v 8), (v 9), (v 10), .int fa, .int pa, (v 13), (v 14), (v 15), (v 16), (v 17), (v 18), (v 19), (v 20), (v 21), (v 22), (v 23), (v 24), (v 25), (v 26), (v 27)]))]) rfl K rfl (Nat.le_of_ble_eq_true rfl) rfl (Or.inl rfl) rfl rfl (fun h K => ?_)
  refine j_W.one mf9_M mf9_5 (by decide) (pcJ := 6) (stJ := [.int n]) rfl ?_
  refine j_W.ifc mf9_M mf9_6 (t := 16) rfl (fun c => ?_) (fun c => ?_)
  · rw [jk_ne] at c
    have c0 : ¬ n.toInt = (0 : Int32).toInt := by simpa using c
    clear c
    have c0e : ¬ n = 0 := fun q => c0 (by rw [q])
    refine j_W.one mf9_M mf9_16 (by decide) (pcJ := 17) (stJ := [.int n]) rfl ?_
    refine j_W.one mf9_M mf9_17 (by decide) (pcJ := 18) (stJ := [.int 1, .int n]) rfl ?_
    refine j_W.icmp mf9_M mf9_18 (t := 28) rfl (fun c => ?_) (fun c => ?_)
    · rw [jk_ne] at c
      have c1 : ¬ n.toInt = (1 : Int32).toInt := by simpa using c
      clear c
      have c1e : ¬ n = 1 := fun q => c1 (by rw [q])
      refine j_W.one mf9_M mf9_28 (by decide) (pcJ := 29) (stJ := [.int (-1)]) rfl ?_
      exact j_W.ret mf9_M mf9_29 rfl rfl ⟨(by unfold i_fv; rw [if_neg c0e]; rw [if_neg c1e]), K⟩
    · rw [jk_ne] at c
      have c1 : n.toInt = (1 : Int32).toInt := by simpa using c
      clear c
      have c1e : n = 1 := Int32.toInt_inj.mp c1
      refine j_W.one mf9_M mf9_21 (by decide) (pcJ := 22) (stJ := [.ref 359]) rfl ?_
      refine j_W.getK mf9_M mf9_22 (ci := 10) (j := 12) rfl K rfl rfl ?_
      refine j_W.gto mf9_M mf9_25 (t := 29) rfl ?_
      exact j_W.ret mf9_M mf9_29 rfl rfl ⟨(by unfold i_fv; rw [if_neg c0e]; rw [if_pos c1e]), K⟩
  · rw [jk_ne] at c
    have c0 : n.toInt = (0 : Int32).toInt := by simpa using c
    clear c
    have c0e : n = 0 := Int32.toInt_inj.mp c0
    refine j_W.one mf9_M mf9_9 (by decide) (pcJ := 10) (stJ := [.ref 359]) rfl ?_
    refine j_W.getK mf9_M mf9_10 (ci := 10) (j := 11) rfl K rfl rfl ?_
    refine j_W.gto mf9_M mf9_13 (t := 29) rfl ?_
    exact j_W.ret mf9_M mf9_29 rfl rfl ⟨(by unfold i_fv; rw [if_pos c0e]), K⟩
theorem la_q_fault (x1 : Int32) {t : Nat} {h : J_H} (ht : t < 512) (H : la_I t h) : la_Q true (la_I (t + 1)) 115 202 [.ref 0, .int x1] [.ref 359, .int x1] h := by
  obtain ⟨⟨k, H⟩, RR⟩ := H
  obtain ⟨w, v, x, fa, pa, c0, -, c3⟩ := i_knX H.1.1.1 H.1.2.1
  refine j_W.mono (j_W.andV (show j_W jP 15 115 0 (lv_args 0 [.ref 0, .int x1]) [] h _ from pY_fault x1 H.1.1.1) (xf9_ok (d := 15) (n := x1) (KN.all ⟨c0, c3, trivial⟩)).toV) ?_
  rintro rv h1 ⟨⟨⟨⟨v1, rfl⟩, c1, f1⟩, e1, kx⟩, q1, qh⟩
  cases q1
  have RR1 : la_R t h1 := by rw [qh]; exact RR
  have H1 := H.kx c1 f1 e1 kx
  obtain ⟨L, L', n, S, a, e, w0, w, kp, sst, hL, R, X1⟩ := RR1
  obtain ⟨x9, x11, x12, x14, x15, x16, x17, x18, x19, x20, om, x21, th, tm, sd, ot, tk, od, be, C, l9⟩ := la_mm H1.1.1.2 R.2.2.1
  have ea : fa = x11 := by
    have := H1.2.2.2.2.1
    rw [kx.2.1, jc_at_of c3, jc_at_of C.1] at this
    have this : some (Value.int fa) = some (Value.int x11) := this
    have := Option.some.inj this
    injection this
  have eb : pa = x12 := by
    have := H1.2.2.2.2.2
    rw [kx.2.2, jc_at_of c3, jc_at_of C.1] at this
    have this : some (Value.int pa) = some (Value.int x12) := this
    have := Option.some.inj this
    injection this
  subst ea eb
  refine ⟨_, rfl, f1.1, j_W.mono (j_W.andV (show j_W jP 15 202 0 (lv_args 0 [.ref 359, .int x1]) [] h1 _ from pN_fault x1 H1.1.1.2) (mf9_ok (d := 15) (n := x1) (v := fun j => ([.int th, .ref 360, .ref 361, .ref 362, .ref 363, .ref 364, .ref 365, .ref 366, .ref 367, .int x9, .int sst, .int fa, .int pa, .int (nI a), .int x14, .int x15, .int x16, .int x17, .int x18, .int x19, .int x20, .long x21, .ref 368, .int tm, .ref 369, .ref 370, .ref 371, .int om] : List Value).getD j .null) (KN.all ⟨C.1, trivial⟩)).toV) ?_⟩
  rintro rw h2 ⟨⟨⟨⟨v2, rfl⟩, c2, f2⟩, e2, km⟩, q2, K⟩
  cases q2
  exact ⟨_, rfl, fun _ => rfl, f2.1, ⟨k, H1.km c2 f2 e2 km⟩, la_R.m9 hL R (by omega) (fun x a1 a2 a3 => K.2.1 x (la_lk1 (by omega))) ⟨laU x9 fa pa x14 x15 x16 x17 x18 x19 x20 om x21, 0, tm, sd, ot, tk, od, be, ⟨K.at (a := 359) rfl, (K.2.1 360 rfl).trans C.2.1, (K.2.1 362 rfl).trans C.2.2.1, (K.2.1 363 rfl).trans C.2.2.2.1, (K.2.1 364 rfl).trans C.2.2.2.2.1, (K.2.1 368 rfl).trans C.2.2.2.2.2.1, (K.2.1 369 rfl).trans C.2.2.2.2.2.2.1, (K.2.1 370 rfl).trans C.2.2.2.2.2.2.2⟩, l9.2.1, l9.2.2.1⟩ (X1.fr hL f2.1 (i_kux_m f2) ⟨fun a ha i => i_cellE (K.2.1 a (la_lk1 (by omega))), by have k0 := K.at (a := 359) rfl; rw [jc_at_of k0, jc_at_of C.1]; rfl⟩)⟩
theorem mi7_ok {v : Nat → Value} {d n : Nat} {a b c e f : Int32} {l : List Int32} {h h0 : J_H} (hn : n ≤ 700) (hl : l.length = 700) (K : KN h [(359, .inl (10, [(v 0), (v 1), (v 2), (v 3), (v 4), (v 5), .ref 365, (v 7), (v 8), .int (nI n), (v 10), (v 11), (v 12), (v 13), (v 14), (v 15), (v 16), (v 17), (v 18), (v 19), (v 20), (v 21), (v 22), (v 23), (v 24), (v 25), (v 26), (v 27)])), (365, .inr (.inl (0, l)))] h0) : j_W jP (d + 1 + 1) 181 0 (lv_args 0 [.ref 359, .int a, .int b, .int c, .int e, .int f]) [] h (fun rv h' => h'[365]? = some (.inr (.inl (0, if n + 20 ≤ 700 then (f9B yM f 4 (n + 16) (f9B yM e 4 (n + 12) (f9B yM c 4 (n + 8) (f9B yM b 4 (n + 4) (f9B yM a 4 n l))))) else l))) ∧ ∃ (ln : Int32) (l' : J_C), KN h' [(359, .inl (10, [.int 0, (v 1), (v 2), (v 3), (v 4), (v 5), .ref 365, (v 7), (v 8), .int ln, (v 10), (v 11), (v 12), (v 13), (v 14), (v 15), (v 16), (v 17), (v 18), (v 19), (v 20), (v 21), (v 22), (v 23), (v 24), (v 25), (v 26), (v 27)])), (365, l')] h0) := by
  show j_W jP (d + 1 + 1) 181 0 [(0, .ref 359), (1, .int a), (2, .int b), (3, .int c), (4, .int e), (5, .int f)] [] h _
  refine j_W.one mi_M mi_0 (by decide) (pcJ := 1) (stJ := [.ref 359]) rfl ?_
  refine j_W.one mi_M mi_1 (by decide) (pcJ := 2) (stJ := [.int 0, .ref 359]) rfl ?_
  refine j_W.putK mi_M mi_2 (ci := 10) (j := 0) (k' := [(359, .inl (10, [.int 0, (v 1), (v 2), (v 3), (v 4), (v 5), .ref 365, (v 7), (v 8), .int (nI n), (v 10), (v 11), (v 12), (v 13), (v 14), (v 15), (v 16), (v 17), (v 18), (v 19), (v 20), (v 21), (v 22), (v 23), (v 24), (v 25), (v 26), (v 27)])), (365, .inr (.inl (0, l)))]) rfl K rfl (Nat.le_of_ble_eq_true rfl) rfl (Or.inl rfl) rfl rfl (fun h K => ?_)
  refine j_W.one mi_M mi_5 (by decide) (pcJ := 6) (stJ := [.ref 359]) rfl ?_
  refine j_W.getK mi_M mi_6 (ci := 10) (j := 9) rfl K rfl rfl ?_
  refine j_W.one mi_M mi_9 (by decide) (pcJ := 11) (stJ := [.int 20, .int (nI n)]) rfl ?_
  refine j_W.one mi_M mi_11 (by decide) (pcJ := 12) (stJ := [.int (nI (n + 20))]) (by rw [← mi_add n 20]; rfl) ?_
  refine j_W.one mi_M mi_12 (by decide) (pcJ := 15) (stJ := [.int 700, .int (nI (n + 20))]) rfl ?_
  refine j_W.icmp mi_M mi_15 (t := 20) rfl (fun c9 => ?_) (fun c9 => ?_)
  · rw [jk_le] at c9; have c9 := of_decide_eq_true c9; rw [nI_toInt (by omega), show (700 : Int32).toInt = 700 from rfl] at c9; have h20 : n + 20 ≤ 700 := by omega
    rw [if_pos h20]
    clear c9
    refine j_W.one mi_M mi_20 (by decide) (pcJ := 21) (stJ := [.ref 359]) rfl ?_
    refine j_W.one mi_M mi_21 (by decide) (pcJ := 22) (stJ := [.int a, .ref 359]) rfl ?_
    refine j_W.call mi_M mi_22 rfl (md := 3) (mj := 180) rfl (by decide) mt_M (As := [.ref 359, .int a]) (rest := []) (jk_spl3 (K.at rfl) rfl rfl rfl (Nat.le_of_ble_eq_true rfl) (Nat.le_of_ble_eq_true rfl)) (mt_ok (v := fun j => [.int 0, (v 1), (v 2), (v 3), (v 4), (v 5), .ref 365, (v 7), (v 8), .int (nI n), (v 10), (v 11), (v 12), (v 13), (v 14), (v 15), (v 16), (v 17), (v 18), (v 19), (v 20), (v 21), (v 22), (v 23), (v 24), (v 25), (v 26), (v 27)].getD j .null) (n := n) (by omega) (by first | exact hl | (simp only [fB_len]; exact hl)) (K.sub ⟨rfl, rfl, trivial⟩)) ?_
    rintro r h9 ⟨rfl, K9⟩
    have K : KN h9 [(359, .inl (10, [.int 0, (v 1), (v 2), (v 3), (v 4), (v 5), .ref 365, (v 7), (v 8), .int (nI (n + 4)), (v 10), (v 11), (v 12), (v 13), (v 14), (v 15), (v 16), (v 17), (v 18), (v 19), (v 20), (v 21), (v 22), (v 23), (v 24), (v 25), (v 26), (v 27)])), (365, .inr (.inl (0, (f9B yM a 4 n l))))] h0 := K.go K9 rfl rfl rfl
    clear K9
    show j_W jP _ 181 25 [(0, .ref 359), (1, .int a), (2, .int b), (3, .int c), (4, .int e), (5, .int f)] [] h9 _
    refine j_W.one mi_M mi_25 (by decide) (pcJ := 26) (stJ := [.ref 359]) rfl ?_
    refine j_W.one mi_M mi_26 (by decide) (pcJ := 27) (stJ := [.int b, .ref 359]) rfl ?_
    refine j_W.call mi_M mi_27 rfl (md := 3) (mj := 180) rfl (by decide) mt_M (As := [.ref 359, .int b]) (rest := []) (jk_spl3 (K.at rfl) rfl rfl rfl (Nat.le_of_ble_eq_true rfl) (Nat.le_of_ble_eq_true rfl)) (mt_ok (v := fun j => [.int 0, (v 1), (v 2), (v 3), (v 4), (v 5), .ref 365, (v 7), (v 8), .int (nI (n + 4)), (v 10), (v 11), (v 12), (v 13), (v 14), (v 15), (v 16), (v 17), (v 18), (v 19), (v 20), (v 21), (v 22), (v 23), (v 24), (v 25), (v 26), (v 27)].getD j .null) (n := n + 4) (by omega) (by first | exact hl | (simp only [fB_len]; exact hl)) (K.sub ⟨rfl, rfl, trivial⟩)) ?_
    rintro r h9 ⟨rfl, K9⟩
    have K : KN h9 [(359, .inl (10, [.int 0, (v 1), (v 2), (v 3), (v 4), (v 5), .ref 365, (v 7), (v 8), .int (nI (n + 8)), (v 10), (v 11), (v 12), (v 13), (v 14), (v 15), (v 16), (v 17), (v 18), (v 19), (v 20), (v 21), (v 22), (v 23), (v 24), (v 25), (v 26), (v 27)])), (365, .inr (.inl (0, (f9B yM b 4 (n + 4) (f9B yM a 4 n l)))))] h0 := K.go K9 rfl rfl rfl
    clear K9
    show j_W jP _ 181 30 [(0, .ref 359), (1, .int a), (2, .int b), (3, .int c), (4, .int e), (5, .int f)] [] h9 _
    refine j_W.one mi_M mi_30 (by decide) (pcJ := 31) (stJ := [.ref 359]) rfl ?_
    refine j_W.one mi_M mi_31 (by decide) (pcJ := 32) (stJ := [.int c, .ref 359]) rfl ?_
    refine j_W.call mi_M mi_32 rfl (md := 3) (mj := 180) rfl (by decide) mt_M (As := [.ref 359, .int c]) (rest := []) (jk_spl3 (K.at rfl) rfl rfl rfl (Nat.le_of_ble_eq_true rfl) (Nat.le_of_ble_eq_true rfl)) (mt_ok (v := fun j => [.int 0, (v 1), (v 2), (v 3), (v 4), (v 5), .ref 365, (v 7), (v 8), .int (nI (n + 8)), (v 10), (v 11), (v 12), (v 13), (v 14), (v 15), (v 16), (v 17), (v 18), (v 19), (v 20), (v 21), (v 22), (v 23), (v 24), (v 25), (v 26), (v 27)].getD j .null) (n := n + 8) (by omega) (by first | exact hl | (simp only [fB_len]; exact hl)) (K.sub ⟨rfl, rfl, trivial⟩)) ?_
    rintro r h9 ⟨rfl, K9⟩
    have K : KN h9 [(359, .inl (10, [.int 0, (v 1), (v 2), (v 3), (v 4), (v 5), .ref 365, (v 7), (v 8), .int (nI (n + 12)), (v 10), (v 11), (v 12), (v 13), (v 14), (v 15), (v 16), (v 17), (v 18), (v 19), (v 20), (v 21), (v 22), (v 23), (v 24), (v 25), (v 26), (v 27)])), (365, .inr (.inl (0, (f9B yM c 4 (n + 8) (f9B yM b 4 (n + 4) (f9B yM a 4 n l))))))] h0 := K.go K9 rfl rfl rfl
    clear K9
    show j_W jP _ 181 35 [(0, .ref 359), (1, .int a), (2, .int b), (3, .int c), (4, .int e), (5, .int f)] [] h9 _
    refine j_W.one mi_M mi_35 (by decide) (pcJ := 36) (stJ := [.ref 359]) rfl ?_
    refine j_W.one mi_M mi_36 (by decide) (pcJ := 38) (stJ := [.int e, .ref 359]) rfl ?_
    refine j_W.call mi_M mi_38 rfl (md := 3) (mj := 180) rfl (by decide) mt_M (As := [.ref 359, .int e]) (rest := []) (jk_spl3 (K.at rfl) rfl rfl rfl (Nat.le_of_ble_eq_true rfl) (Nat.le_of_ble_eq_true rfl)) (mt_ok (v := fun j => [.int 0, (v 1), (v 2), (v 3), (v 4), (v 5), .ref 365, (v 7), (v 8), .int (nI (n + 12)), (v 10), (v 11), (v 12), (v 13), (v 14), (v 15), (v 16), (v 17), (v 18), (v 19), (v 20), (v 21), (v 22), (v 23), (v 24), (v 25), (v 26), (v 27)].getD j .null) (n := n + 12) (by omega) (by first | exact hl | (simp only [fB_len]; exact hl)) (K.sub ⟨rfl, rfl, trivial⟩)) ?_
    rintro r h9 ⟨rfl, K9⟩
    have K : KN h9 [(359, .inl (10, [.int 0, (v 1), (v 2), (v 3), (v 4), (v 5), .ref 365, (v 7), (v 8), .int (nI (n + 16)), (v 10), (v 11), (v 12), (v 13), (v 14), (v 15), (v 16), (v 17), (v 18), (v 19), (v 20), (v 21), (v 22), (v 23), (v 24), (v 25), (v 26), (v 27)])), (365, .inr (.inl (0, (f9B yM e 4 (n + 12) (f9B yM c 4 (n + 8) (f9B yM b 4 (n + 4) (f9B yM a 4 n l)))))))] h0 := K.go K9 rfl rfl rfl
    clear K9
    show j_W jP _ 181 41 [(0, .ref 359), (1, .int a), (2, .int b), (3, .int c), (4, .int e), (5, .int f)] [] h9 _
    refine j_W.one mi_M mi_41 (by decide) (pcJ := 42) (stJ := [.ref 359]) rfl ?_
    refine j_W.one mi_M mi_42 (by decide) (pcJ := 44) (stJ := [.int f, .ref 359]) rfl ?_
    refine j_W.call mi_M mi_44 rfl (md := 3) (mj := 180) rfl (by decide) mt_M (As := [.ref 359, .int f]) (rest := []) (jk_spl3 (K.at rfl) rfl rfl rfl (Nat.le_of_ble_eq_true rfl) (Nat.le_of_ble_eq_true rfl)) (mt_ok (v := fun j => [.int 0, (v 1), (v 2), (v 3), (v 4), (v 5), .ref 365, (v 7), (v 8), .int (nI (n + 16)), (v 10), (v 11), (v 12), (v 13), (v 14), (v 15), (v 16), (v 17), (v 18), (v 19), (v 20), (v 21), (v 22), (v 23), (v 24), (v 25), (v 26), (v 27)].getD j .null) (n := n + 16) (by omega) (by first | exact hl | (simp only [fB_len]; exact hl)) (K.sub ⟨rfl, rfl, trivial⟩)) ?_
    rintro r h9 ⟨rfl, K9⟩
    have K : KN h9 [(359, .inl (10, [.int 0, (v 1), (v 2), (v 3), (v 4), (v 5), .ref 365, (v 7), (v 8), .int (nI (n + 20)), (v 10), (v 11), (v 12), (v 13), (v 14), (v 15), (v 16), (v 17), (v 18), (v 19), (v 20), (v 21), (v 22), (v 23), (v 24), (v 25), (v 26), (v 27)])), (365, .inr (.inl (0, (f9B yM f 4 (n + 16) (f9B yM e 4 (n + 12) (f9B yM c 4 (n + 8) (f9B yM b 4 (n + 4) (f9B yM a 4 n l))))))))] h0 := K.go K9 rfl rfl rfl
    clear K9
    show j_W jP _ 181 47 [(0, .ref 359), (1, .int a), (2, .int b), (3, .int c), (4, .int e), (5, .int f)] [] h9 _
    refine j_W.one mi_M mi_47 (by decide) (pcJ := 48) (stJ := [.ref 359]) rfl ?_
    refine j_W.getK mi_M mi_48 (ci := 10) (j := 9) rfl K rfl rfl ?_
    exact j_W.ret mi_M mi_51 rfl rfl ⟨K.at (a := 365) rfl, _, _, K⟩
  · rw [jk_le] at c9; have c9 := of_decide_eq_false c9; rw [nI_toInt (by omega), show (700 : Int32).toInt = 700 from rfl] at c9
    rw [if_neg (by omega)]
    refine j_W.one mi_M mi_18 (by decide) (pcJ := 19) (stJ := [.int (-1)]) rfl ?_
    exact j_W.ret mi_M mi_19 rfl rfl ⟨K.at (a := 365) rfl, _, _, K⟩
theorem xi7_ok {v w : Nat → Value} {d n : Nat} {a b c e f : Int32} {l : List Int32} {h h0 : J_H} (hn : n ≤ 700) (hl : l.length = 700) (K : KN h [(0, .inl (9, [.ref 1, (w 1), (w 2), (w 3), (w 4), (w 5), (w 6), (w 7), (w 8)])), (1, .inl (8, [.ref 2, .int (nI n), (v 2), (v 3), (v 4), (v 5), (v 6), (v 7)])), (2, .inr (.inl (1, l)))] h0) : j_W jP (d + 1 + 1) 113 0 (lv_args 0 [.ref 0, .int a, .int b, .int c, .int e, .int f]) [] h (fun rv h' => h'[2]? = some (.inr (.inl (1, if n + 20 ≤ 700 then (f9B yX f 4 (n + 16) (f9B yX e 4 (n + 12) (f9B yX c 4 (n + 8) (f9B yX b 4 (n + 4) (f9B yX a 4 n l))))) else l))) ∧ ∃ (c1 c2 : J_C), KN h' [(0, .inl (9, [.ref 1, (w 1), (w 2), (w 3), (w 4), (w 5), (w 6), (w 7), (w 8)])), (1, c1), (2, c2)] h0) := by
  show j_W jP (d + 1 + 1) 113 0 [(0, .ref 0), (1, .int a), (2, .int b), (3, .int c), (4, .int e), (5, .int f)] [] h _
  refine j_W.one xi9_M xi9_0 (by decide) (pcJ := 1) (stJ := [.ref 0]) rfl ?_
  refine j_W.getK xi9_M xi9_1 (ci := 9) (j := 0) rfl K rfl rfl ?_
  refine j_W.one xi9_M xi9_4 (by decide) (pcJ := 6) (stJ := [.int 20, .ref 1]) rfl ?_
  refine j_W.call xi9_M xi9_6 rfl (md := 3) (mj := 103) rfl (by decide) xy_M (As := [.ref 1, .int (nI 20)]) (rest := []) (jk_spl3 (K.at rfl) rfl rfl rfl (Nat.le_of_ble_eq_true rfl) (Nat.le_of_ble_eq_true rfl)) (xy_ok hn (by omega) (K.sub ⟨rfl, trivial⟩)) ?_
  rintro r hz ⟨rfl, ez⟩
  rw [ez]
  clear ez
  show j_W jP _ 113 9 [(0, .ref 0), (1, .int a), (2, .int b), (3, .int c), (4, .int e), (5, .int f)] [.int (bif decide (n + 20 ≤ 700) then 1 else 0)] h _
  rcases Decidable.em (n + 20 ≤ 700) with h20 | h20
  · rw [if_pos h20, decide_eq_true h20]
    show j_W jP _ 113 9 [(0, .ref 0), (1, .int a), (2, .int b), (3, .int c), (4, .int e), (5, .int f)] [.int 1] h _
    refine j_W.ifc xi9_M xi9_9 (t := 14) rfl (fun c9 => ?_) (fun c9 => ?_)
    · clear c9
      refine j_W.one xi9_M xi9_14 (by decide) (pcJ := 15) (stJ := [.ref 0]) rfl ?_
      refine j_W.getK xi9_M xi9_15 (ci := 9) (j := 0) rfl K rfl rfl ?_
      refine j_W.one xi9_M xi9_18 (by decide) (pcJ := 19) (stJ := [.int a, .ref 1]) rfl ?_
      refine j_W.call xi9_M xi9_19 rfl (md := 3) (mj := 104) rfl (by decide) xz_M (As := [.ref 1, .int a]) (rest := []) (jk_spl3 (K.at rfl) rfl rfl rfl (Nat.le_of_ble_eq_true rfl) (Nat.le_of_ble_eq_true rfl)) (xz_ok (n := n) (by omega) (by first | exact hl | (simp only [fB_len]; exact hl)) (K.sub ⟨rfl, rfl, trivial⟩)) ?_
      rintro r h9 ⟨rfl, K9⟩
      have K : KN h9 [(0, .inl (9, [.ref 1, (w 1), (w 2), (w 3), (w 4), (w 5), (w 6), (w 7), (w 8)])), (1, .inl (8, [.ref 2, .int (nI (n + 4)), (v 2), (v 3), (v 4), (v 5), (v 6), (v 7)])), (2, .inr (.inl (1, (f9B yX a 4 n l))))] h0 := K.go K9 rfl rfl rfl
      clear K9
      show j_W jP _ 113 22 [(0, .ref 0), (1, .int a), (2, .int b), (3, .int c), (4, .int e), (5, .int f)] [] h9 _
      refine j_W.one xi9_M xi9_22 (by decide) (pcJ := 23) (stJ := [.ref 0]) rfl ?_
      refine j_W.getK xi9_M xi9_23 (ci := 9) (j := 0) rfl K rfl rfl ?_
      refine j_W.one xi9_M xi9_26 (by decide) (pcJ := 27) (stJ := [.int b, .ref 1]) rfl ?_
      refine j_W.call xi9_M xi9_27 rfl (md := 3) (mj := 104) rfl (by decide) xz_M (As := [.ref 1, .int b]) (rest := []) (jk_spl3 (K.at rfl) rfl rfl rfl (Nat.le_of_ble_eq_true rfl) (Nat.le_of_ble_eq_true rfl)) (xz_ok (n := n + 4) (by omega) (by first | exact hl | (simp only [fB_len]; exact hl)) (K.sub ⟨rfl, rfl, trivial⟩)) ?_
      rintro r h9 ⟨rfl, K9⟩
      have K : KN h9 [(0, .inl (9, [.ref 1, (w 1), (w 2), (w 3), (w 4), (w 5), (w 6), (w 7), (w 8)])), (1, .inl (8, [.ref 2, .int (nI (n + 8)), (v 2), (v 3), (v 4), (v 5), (v 6), (v 7)])), (2, .inr (.inl (1, (f9B yX b 4 (n + 4) (f9B yX a 4 n l)))))] h0 := K.go K9 rfl rfl rfl
      clear K9
      show j_W jP _ 113 30 [(0, .ref 0), (1, .int a), (2, .int b), (3, .int c), (4, .int e), (5, .int f)] [] h9 _
      refine j_W.one xi9_M xi9_30 (by decide) (pcJ := 31) (stJ := [.ref 0]) rfl ?_
      refine j_W.getK xi9_M xi9_31 (ci := 9) (j := 0) rfl K rfl rfl ?_
      refine j_W.one xi9_M xi9_34 (by decide) (pcJ := 35) (stJ := [.int c, .ref 1]) rfl ?_
      refine j_W.call xi9_M xi9_35 rfl (md := 3) (mj := 104) rfl (by decide) xz_M (As := [.ref 1, .int c]) (rest := []) (jk_spl3 (K.at rfl) rfl rfl rfl (Nat.le_of_ble_eq_true rfl) (Nat.le_of_ble_eq_true rfl)) (xz_ok (n := n + 8) (by omega) (by first | exact hl | (simp only [fB_len]; exact hl)) (K.sub ⟨rfl, rfl, trivial⟩)) ?_
      rintro r h9 ⟨rfl, K9⟩
      have K : KN h9 [(0, .inl (9, [.ref 1, (w 1), (w 2), (w 3), (w 4), (w 5), (w 6), (w 7), (w 8)])), (1, .inl (8, [.ref 2, .int (nI (n + 12)), (v 2), (v 3), (v 4), (v 5), (v 6), (v 7)])), (2, .inr (.inl (1, (f9B yX c 4 (n + 8) (f9B yX b 4 (n + 4) (f9B yX a 4 n l))))))] h0 := K.go K9 rfl rfl rfl
      clear K9
      show j_W jP _ 113 38 [(0, .ref 0), (1, .int a), (2, .int b), (3, .int c), (4, .int e), (5, .int f)] [] h9 _
      refine j_W.one xi9_M xi9_38 (by decide) (pcJ := 39) (stJ := [.ref 0]) rfl ?_
      refine j_W.getK xi9_M xi9_39 (ci := 9) (j := 0) rfl K rfl rfl ?_
      refine j_W.one xi9_M xi9_42 (by decide) (pcJ := 44) (stJ := [.int e, .ref 1]) rfl ?_
      refine j_W.call xi9_M xi9_44 rfl (md := 3) (mj := 104) rfl (by decide) xz_M (As := [.ref 1, .int e]) (rest := []) (jk_spl3 (K.at rfl) rfl rfl rfl (Nat.le_of_ble_eq_true rfl) (Nat.le_of_ble_eq_true rfl)) (xz_ok (n := n + 12) (by omega) (by first | exact hl | (simp only [fB_len]; exact hl)) (K.sub ⟨rfl, rfl, trivial⟩)) ?_
      rintro r h9 ⟨rfl, K9⟩
      have K : KN h9 [(0, .inl (9, [.ref 1, (w 1), (w 2), (w 3), (w 4), (w 5), (w 6), (w 7), (w 8)])), (1, .inl (8, [.ref 2, .int (nI (n + 16)), (v 2), (v 3), (v 4), (v 5), (v 6), (v 7)])), (2, .inr (.inl (1, (f9B yX e 4 (n + 12) (f9B yX c 4 (n + 8) (f9B yX b 4 (n + 4) (f9B yX a 4 n l)))))))] h0 := K.go K9 rfl rfl rfl
      clear K9
      show j_W jP _ 113 47 [(0, .ref 0), (1, .int a), (2, .int b), (3, .int c), (4, .int e), (5, .int f)] [] h9 _
      refine j_W.one xi9_M xi9_47 (by decide) (pcJ := 48) (stJ := [.ref 0]) rfl ?_
      refine j_W.getK xi9_M xi9_48 (ci := 9) (j := 0) rfl K rfl rfl ?_
      refine j_W.one xi9_M xi9_51 (by decide) (pcJ := 53) (stJ := [.int f, .ref 1]) rfl ?_
      refine j_W.call xi9_M xi9_53 rfl (md := 3) (mj := 104) rfl (by decide) xz_M (As := [.ref 1, .int f]) (rest := []) (jk_spl3 (K.at rfl) rfl rfl rfl (Nat.le_of_ble_eq_true rfl) (Nat.le_of_ble_eq_true rfl)) (xz_ok (n := n + 16) (by omega) (by first | exact hl | (simp only [fB_len]; exact hl)) (K.sub ⟨rfl, rfl, trivial⟩)) ?_
      rintro r h9 ⟨rfl, K9⟩
      have K : KN h9 [(0, .inl (9, [.ref 1, (w 1), (w 2), (w 3), (w 4), (w 5), (w 6), (w 7), (w 8)])), (1, .inl (8, [.ref 2, .int (nI (n + 20)), (v 2), (v 3), (v 4), (v 5), (v 6), (v 7)])), (2, .inr (.inl (1, (f9B yX f 4 (n + 16) (f9B yX e 4 (n + 12) (f9B yX c 4 (n + 8) (f9B yX b 4 (n + 4) (f9B yX a 4 n l))))))))] h0 := K.go K9 rfl rfl rfl
      clear K9
      show j_W jP _ 113 56 [(0, .ref 0), (1, .int a), (2, .int b), (3, .int c), (4, .int e), (5, .int f)] [] h9 _
      refine j_W.one xi9_M xi9_56 (by decide) (pcJ := 57) (stJ := [.ref 0]) rfl ?_
      refine j_W.getK xi9_M xi9_57 (ci := 9) (j := 0) rfl K rfl rfl ?_
      refine j_W.getK xi9_M xi9_60 (ci := 8) (j := 1) rfl K rfl rfl ?_
      exact j_W.ret xi9_M xi9_63 rfl rfl ⟨K.at (a := 2) rfl, _, _, K⟩
    · exact absurd c9 (by decide)
  · rw [if_neg h20, decide_eq_false h20]
    show j_W jP _ 113 9 [(0, .ref 0), (1, .int a), (2, .int b), (3, .int c), (4, .int e), (5, .int f)] [.int 0] h _
    refine j_W.ifc xi9_M xi9_9 (t := 14) rfl (fun c9 => ?_) (fun c9 => ?_)
    · exact absurd c9 (by decide)
    · refine j_W.one xi9_M xi9_12 (by decide) (pcJ := 13) (stJ := [.int (-1)]) rfl ?_
      exact j_W.ret xi9_M xi9_13 rfl rfl ⟨K.at (a := 2) rfl, _, _, K⟩
noncomputable def i_Sf (m : Nat) : Bool := Nat.beq m 113 || (Nat.beq m 103 || (Nat.beq m 104 || (Nat.beq m 181 || Nat.beq m 180)))
def i_pf (ci j : Nat) : Bool := (Nat.beq ci 4 && (Nat.beq j 2 || Nat.beq j 3)) || (Nat.beq ci 10 && (Nat.beq j 11 || Nat.beq j 12))
set_option maxRecDepth 100000 in
theorem i_Nf : jv_N jP i_Sf i_pf := jv_N_of (by decide +kernel)
theorem i_kp {h h' : J_H} (hk : jv_kp i_pf h h') {a ci j : Nat} {fs : List Value} (ha : h[a]? = some (.inl (ci, fs))) (hp : i_pf ci j = true) : jc_at h' a j = jc_at h a j := by
  obtain ⟨fs', a1, -, a2⟩ := hk a ci fs ha
  rw [jc_at_of a1, jc_at_of ha]
  exact a2 j hp
theorem la_fk_lt {k : Nat} (hk : k < 36) : i_fk k < 36 := by
  unfold i_fk
  split <;> omega
theorem i_fB5 {l m : List Int32} {n : Nat} {a b c e f : Int32} (hn : n + 20 ≤ 700) (hl : l.length = 700) (hm : m.length = 700) (h : bA9 l m n) : bA9 (f9B yX f 4 (n + 16) (f9B yX e 4 (n + 12) (f9B yX c 4 (n + 8) (f9B yX b 4 (n + 4) (f9B yX a 4 n l))))) (f9B yM f 4 (n + 16) (f9B yM e 4 (n + 12) (f9B yM c 4 (n + 8) (f9B yM b 4 (n + 4) (f9B yM a 4 n m))))) (n + 20) := by
  have h1 := fB_R (w := a) 4 n l m (by decide) (by omega) hl hm h
  have h2 := fB_R (w := b) 4 (n + 4) _ _ (by decide) (by omega) (by simp only [fB_len]; exact hl) (by simp only [fB_len]; exact hm) h1
  have h3 := fB_R (w := c) 4 (n + 4 + 4) _ _ (by decide) (by omega) (by simp only [fB_len]; exact hl) (by simp only [fB_len]; exact hm) h2
  have h4 := fB_R (w := e) 4 (n + 4 + 4 + 4) _ _ (by decide) (by omega) (by simp only [fB_len]; exact hl) (by simp only [fB_len]; exact hm) h3
  exact fB_R (w := f) 4 (n + 4 + 4 + 4 + 4) _ _ (by decide) (by omega) (by simp only [fB_len]; exact hl) (by simp only [fB_len]; exact hm) h4
def nbF (ci j : Nat) : Bool := Nat.beq ci 8 && Nat.beq j 1
def nbSF (m : Nat) : Bool := Nat.beq m 113 || (Nat.beq m 103 || Nat.beq m 104)
set_option maxRecDepth 1000000 in
theorem nb_NF : nb_N jP nbSF nbF := nb_N_of (by decide +kernel)
def nbO (ci j : Nat) : Bool := Nat.beq ci 10 && Nat.beq j 0
def nbSO (m : Nat) : Bool := Nat.beq m 297
set_option maxRecDepth 1000000 in
theorem nb_NO : nb_N jP nbSO nbO := nb_N_of (by decide +kernel)
theorem nbF_c : ∀ ci j, nbF ci j = true → ci = 8 := fun ci j h => Nat.eq_of_beq_eq_true (Bool.and_eq_true_iff.mp h).1
theorem nbX_c : ∀ ci j, nbX ci j = true → ci = 6 := fun ci j h => Nat.eq_of_beq_eq_true (Bool.and_eq_true_iff.mp h).1
theorem nbM_c : ∀ ci j, nbM ci j = true → ci = 10 := fun ci j h => Nat.eq_of_beq_eq_true (Bool.and_eq_true_iff.mp h).1
theorem nbO_c : ∀ ci j, nbO ci j = true → ci = 10 := fun ci j h => Nat.eq_of_beq_eq_true (Bool.and_eq_true_iff.mp h).1
theorem la_no3 {a x y z : Nat} (h1 : a ≠ x) (h2 : a ≠ y) (h3 : a ≠ z) : ∀ q, q ∈ [x, y, z] → a ≠ q := fun q hq => by
  rcases List.mem_cons.mp hq with rfl | hq
  · exact h1
  rcases List.mem_cons.mp hq with rfl | hq
  · exact h2
  rcases List.mem_cons.mp hq with rfl | hq
  · exact h3
  exact absurd hq (List.not_mem_nil)
theorem la_q_feed (x1 x2 x3 x4 x5 : Int32) {t : Nat} {h : J_H} (ht : t < 512) (H : la_I t h) : la_Q true (la_I (t + 1)) 113 181 [.ref 0, .int x1, .int x2, .int x3, .int x4, .int x5] [.ref 359, .int x1, .int x2, .int x3, .int x4, .int x5] h := by
  obtain ⟨⟨k, H⟩, L, L', n, S, a, e, w0, w9, kp9, sst, hL, R, X⟩ := H
  have hk := H.2.1
  obtain ⟨w, v, x, fa, pa, c0, c1, c3⟩ := i_knX H.1.1.1 H.1.2.1
  obtain ⟨⟨l, m, hl, hm, l7, m7, hb⟩, g1, g2⟩ := H.2.2.2
  refine j_W.mono (((((pX_feed hk x1 x2 x3 x4 x5 H.1.1.1 H.1.2.1).andV (xi7_ok (d := 13) (n := 20 * k) (w := fun j => [.ref 1, .ref 3].getD j (w j)) (by omega) l7 (KN.all ⟨c0, c1, hl, trivial⟩)).toV)).andV (jv_V i_Nf (mi := 113) (by decide +kernel))).andV (nb_V nb_NF (mi := 113) rfl)) ?_
  rintro rv h1 ⟨⟨⟨⟨⟨rfl, d1, f1⟩, e1⟩, l1, y1, y2, K1⟩, kp⟩, NB⟩
  have X1 := X.fr hL f1.1 (i_kux_of (fun a ha => K1.2.1 a (la_lk3 (by omega) (by omega) (by omega)))) (i_kum_x f1)
  have R1 := hR.x9 hL R (fun x a1 a2 a3 a4 => la_nb nbF_c H.2.2.1 NB la_k8 a1 (la_no3 a2 a3 a4))
  have M1 : IM h1 := H.1.1.2.oth f1
  have e3 : jc_at h1 359 9 = some (.int (nI (20 * k))) := (f1.2 359 9 (by decide)).trans H.1.2.2
  have hm1 := i_cellI f1.1 (fun i => f1.2 365 i (by decide)) hm
  obtain ⟨y9, y11, y12, y14, y15, y16, y17, y18, y19, y20, om, y21, th, tm, sd, ot, tk, od, be, C, l9⟩ := la_mm M1 R1.2.2.1
  have e9 := i_ati C.1 rfl e3
  cases e9
  have d0 := C.1
  refine ⟨_, rfl, f1.1, j_W.mono ((((pM_feed hk x1 x2 x3 x4 x5 M1 e3).andV (mi7_ok (d := 13) (n := 20 * k) (v := fun j => ([.int th, .ref 360, .ref 361, .ref 362, .ref 363, .ref 364, .ref 365, .ref 366, .ref 367, .int (nI (20 * k)), .int sst, .int y11, .int y12, .int (nI a), .int y14, .int y15, .int y16, .int y17, .int y18, .int y19, .int y20, .long y21, .ref 368, .int tm, .ref 369, .ref 370, .ref 371, .int om] : List Value).getD j .null) (by omega) m7 (KN.all ⟨C.1, hm1, trivial⟩)).toV)).andV (jv_V i_Nf (mi := 181) (by decide +kernel))) ?_⟩
  rintro rw h2 ⟨⟨⟨⟨rfl, d2, f2⟩, e2⟩, m2, ln, l', K⟩, kp2⟩
  refine ⟨_, rfl, fun _ => rfl, f2.1, ⟨i_fk k, ⟨⟨d1.oth f2, d2⟩, (f2.2 1 1 (by decide)).trans e1, e2⟩, la_fk_lt hk, (H.2.2.1.tr f1.1).tr f2.1, ⟨_, _, i_cellI f2.1 (fun i => f2.2 2 i (by decide)) l1, m2, ?_, ?_, ?_⟩, ?_, ?_⟩, la_R.m9 hL R1 (by omega) (fun x a1 a2 a3 => K.2.1 x (la_lk2 (by omega) (by omega))) ⟨laU ln y11 y12 y14 y15 y16 y17 y18 y19 y20 om y21, 0, tm, sd, ot, tk, od, be, ⟨K.at (a := 359) rfl, (K.2.1 360 rfl).trans C.2.1, (K.2.1 362 rfl).trans C.2.2.1, (K.2.1 363 rfl).trans C.2.2.2.1, (K.2.1 364 rfl).trans C.2.2.2.2.1, (K.2.1 368 rfl).trans C.2.2.2.2.2.1, (K.2.1 369 rfl).trans C.2.2.2.2.2.2.1, (K.2.1 370 rfl).trans C.2.2.2.2.2.2.2⟩, l9.2.1, l9.2.2.1⟩ (X1.fr hL f2.1 (i_kux_m f2) ⟨fun a ha i => i_cellE (K.2.1 a (la_lk2 (by omega) (by omega))), by have k0 := K.at (a := 359) rfl; rw [jc_at_of k0, jc_at_of C.1]; rfl⟩)⟩
  · split
    · simp only [fB_len]; exact l7
    · exact l7
  · split
    · simp only [fB_len]; exact m7
    · exact m7
  · unfold i_fk
    by_cases h20 : 20 * k + 20 ≤ 700
    · rw [if_pos h20, if_pos h20, if_pos h20]
      exact i_fB5 h20 l7 m7 hb
    · rw [if_neg h20, if_neg h20, if_neg h20]
      exact hb
  · rw [f2.2 3 2 (by decide), i_kp kp c3 rfl, i_kp kp2 d0 rfl, f1.2 359 11 (by decide)]
    exact g1
  · rw [f2.2 3 3 (by decide), i_kp kp c3 rfl, i_kp kp2 d0 rfl, f1.2 359 12 (by decide)]
    exact g2
theorem la_c325 {h : J_H} (hI : IC h) : ∃ ln : Int32, h[325]? = some (.inl (6, [.ref 326, .int ln])) := by
  rcases hI with ⟨r, t, hg⟩ | ⟨r, t, hg⟩
  · obtain ⟨f1, c1, b1⟩ := i_ok2_ok (a := 325) (ci := 6) (Ts := [some (some (some 326)), some none]) hg (by decide +kernel)
    obtain ⟨w9, f1_0, e9, rfl, b1_0⟩ := b1; subst e9
    obtain ⟨w9, f1_1, e9, ⟨y, rfl⟩, b1_1⟩ := b1_0; subst e9
    obtain rfl := b1_1
    exact ⟨y, c1⟩
  · obtain ⟨f1, c1, b1⟩ := i_ok2_ok (a := 325) (ci := 6) (Ts := [some (some (some 326)), some none]) hg (by decide +kernel)
    obtain ⟨w9, f1_0, e9, rfl, b1_0⟩ := b1; subst e9
    obtain ⟨w9, f1_1, e9, ⟨y, rfl⟩, b1_1⟩ := b1_0; subst e9
    obtain rfl := b1_1
    exact ⟨y, c1⟩
theorem la_lkL {L x : Nat} (h : 28 < x ∧ x ≠ 325 ∧ x ≠ 326 ∧ (x < L ∨ L + 12 ≤ x)) : ∀ {k : jk_K}, k.all (fun q => Nat.ble q.1 28 || (Nat.beq q.1 325 || (Nat.beq q.1 326 || (Nat.ble L q.1 && Nat.ble (q.1 + 1) (L + 12))))) = true → jk_lk k x = none
  | [], _ => rfl
  | q :: k, hk => by
    obtain ⟨k1, k2⟩ := Bool.and_eq_true_iff.mp (show ((Nat.ble q.1 28 || (Nat.beq q.1 325 || (Nat.beq q.1 326 || (Nat.ble L q.1 && Nat.ble (q.1 + 1) (L + 12))))) && k.all _) = true from hk)
    unfold jk_lk
    cases hb : Nat.beq q.1 x with
    | false => exact la_lkL h k2
    | true =>
      have e := Nat.eq_of_beq_eq_true hb
      rcases Bool.or_eq_true_iff.mp k1 with z | z
      · have := Nat.le_of_ble_eq_true z; omega
      rcases Bool.or_eq_true_iff.mp z with z | z
      · have := Nat.eq_of_beq_eq_true z; omega
      rcases Bool.or_eq_true_iff.mp z with z | z
      · have := Nat.eq_of_beq_eq_true z; omega
      obtain ⟨z1, z2⟩ := Bool.and_eq_true_iff.mp z
      have := Nat.le_of_ble_eq_true z1
      have := Nat.le_of_ble_eq_true z2
      omega
theorem la_pXA {h : J_H} {n S : Nat} {w b : List Int32} {sst ln : Int32} {sn tn nm : List Int64} (R : hX 327 343 n S w sst h) (n1 : h[327 + 1]? = some (.inr (.inr (.inl sn)))) (n2 : h[327 + 5]? = some (.inr (.inr (.inl tn)))) (N1 : ∀ i, i < S → wR (sn.getD i 0) (nm.getD i 0)) (N2 : ∀ i, i < n → wR (tn.getD i 0) (nm.getD (7 + i) 0)) (c325 : h[325]? = some (.inl (6, [.ref 326, .int ln]))) (s1 : h[326]? = some (.inr (.inl (1, b)))) (hb : b.length = 700) : (rtW S n w nm).length ≤ 588 ∧ j_V jP 15 158 0 (lv_args 0 [.ref 0]) [] h (fun rv h' => rv = some (.int (nI (rtW S n w nm).length)) ∧ hX 327 343 n S w 0 h' ∧ (∀ x, 28 < x → x ≠ 325 → x ≠ 326 → (x < 327 ∨ 327 + 12 ≤ x) → h'[x]? = h[x]?) ∧ (h'[327 + 1]? = some (.inr (.inr (.inl sn))) ∧ h'[327 + 5]? = some (.inr (.inr (.inl tn)))) ∧ jc_at h' 325 1 = some (.int (nI (rtW S n w nm).length)) ∧ ∃ b', h'[326]? = some (.inr (.inl (1, b'))) ∧ tT 700 (rtW S n w nm) b') := by
  have R0 := R
  refine hX.opn R (fun mi shu bus lks rl pev rk sta ph sp ce du he ri us cm lf lkd row sea pms pmm pmt pst pwa prs prr pfa CS hl4 V cel run tra len siz frm tto lst slo wei fit way rid lon CL Y Ly hlY => ?_)
  have WF := V.1
  have h5 := WF.n5
  have h7 := WF.S7
  have hs : ∀ t, t < n → gN sta t = ft w t 3 := fun t ht => (V.2.2.1.2.2.1 t ht).1
  have eT := tx_eq WF Ly N1 N2 hs
  have hk : ∀ j, j < S → lpN (gA tra (nI j)) 0 ≤ 3 := fun j hj => by
    obtain ⟨b1, b2, -⟩ := WF.St (show j < 7 by omega)
    rw [gA_n (by omega), (Ly.1 j hj).2.1, b1, lpN_m (by omega)]
    exact b2
  have hT := tx_len (sn := sn) (tn := tn) (sta := sta) WF Ly
  rw [eT] at hT
  refine ⟨hT, ?_⟩
  have K0 : kA h [(0, .inl (9, [.ref 1, .ref 3, .ref 4, .ref 29, .ref 281, .ref 325, .ref 327, .ref 343, .int sst])), (4, .inl (7, [.ref 327, .int mi, .int shu, .int bus, .ref 5, .ref 6, .ref 7, .ref 8, .ref 9, .ref 10, .ref 11, .ref 12, .ref 13, .ref 14, .ref 15, .int lks, .ref 16, .ref 17, .ref 20])), (6, .inr (.inl (0, sta))), (325, .inl (6, [.ref 326, .int ln])), (326, .inr (.inl (1, b))), (327, .inl (2, [.int (nI S), .ref (327 + 1), .ref (327 + 2), .ref (327 + 3), .ref (327 + 4), .int (nI n), .ref (327 + 5), .ref (327 + 6), .ref (327 + 7), .ref (327 + 8), .ref (327 + 9), .ref (327 + 10), .ref (327 + 11), .int cel, .ref (327 + 12), .ref (327 + 13), .ref (327 + 14), .ref (327 + 15)])), (327 + 1, .inr (.inr (.inl sn))), (327 + 2, .inr (.inl (0, run))), (327 + 3, .inr (.inl (0, tra))), (327 + 4, .inr (.inl (0, len))), (327 + 5, .inr (.inr (.inl tn))), (327 + 6, .inr (.inl (0, siz))), (327 + 7, .inr (.inl (0, frm))), (327 + 8, .inr (.inl (0, tto))), (327 + 10, .inr (.inl (0, slo))), (327 + 11, .inr (.inl (0, wei)))] := ⟨R0.1, CS.1, CS.2.2.1, c325, s1, CL.1, n1, CL.2.1, CL.2.2.1, CL.2.2.2.1, n2, CL.2.2.2.2.1, CL.2.2.2.2.2.1, CL.2.2.2.2.2.2.1, CL.2.2.2.2.2.2.2.2.1, CL.2.2.2.2.2.2.2.2.2.1, trivial⟩
  refine j_V.mono (xytA_ok (u := fun jz => ([.ref 327, .int mi, .int shu, .int bus, .ref 5, .ref 6, .ref 7, .ref 8, .ref 9, .ref 10, .ref 11, .ref 12, .ref 13, .ref 14, .ref 15, .int lks, .ref 16, .ref 17, .ref 20] : List Value).getD jz .null) h5 h7 hk hb K0.K) ?_
  rintro rv h' ⟨rfl, b', Tb, K⟩
  rw [eT] at Tb K ⊢
  refine ⟨rfl, ⟨K.at (a := 0) rfl, R0.2.1.fr (fun x x1 x2 => KN.off K0 K ?_), R0.2.2.fr (fun x x1 x2 => KN.off K0 K ?_)⟩, fun x x1 x2 x3 x4 => K.2.1 x (la_lkL (L := 327) ⟨x1, x2, x3, x4⟩ rfl), ⟨K.at rfl, K.at rfl⟩, jc_at_of (K.at (a := 325) rfl), b', K.at (a := 326) rfl, Tb⟩
  · rw [show x = 4 + (x - 4) by omega]
    have hx : x - 4 < 25 := by omega
    generalize x - 4 = k at hx
    match k, hx with
      | 0, _ => rfl
      | 1, _ => rfl
      | 2, _ => rfl
      | 3, _ => rfl
      | 4, _ => rfl
      | 5, _ => rfl
      | 6, _ => rfl
      | 7, _ => rfl
      | 8, _ => rfl
      | 9, _ => rfl
      | 10, _ => rfl
      | 11, _ => rfl
      | 12, _ => rfl
      | 13, _ => rfl
      | 14, _ => rfl
      | 15, _ => rfl
      | 16, _ => rfl
      | 17, _ => rfl
      | 18, _ => rfl
      | 19, _ => rfl
      | 20, _ => rfl
      | 21, _ => rfl
      | 22, _ => rfl
      | 23, _ => rfl
      | 24, _ => rfl
      | k + 25, hk => exact absurd hk (by omega)
  · rw [show x = 327 + (x - 327) by omega]
    have hx : x - 327 < 16 := by omega
    generalize x - 327 = k at hx
    match k, hx with
      | 0, _ => rfl
      | 1, _ => rfl
      | 2, _ => rfl
      | 3, _ => rfl
      | 4, _ => rfl
      | 5, _ => rfl
      | 6, _ => rfl
      | 7, _ => rfl
      | 8, _ => rfl
      | 9, _ => rfl
      | 10, _ => rfl
      | 11, _ => rfl
      | 12, _ => rfl
      | 13, _ => rfl
      | 14, _ => rfl
      | 15, _ => rfl
      | k + 16, hk => exact absurd hk (by omega)
theorem la_pXB {h : J_H} {n S : Nat} {w b : List Int32} {sst ln : Int32} {sn tn nm : List Int64} (R : hX 343 327 n S w sst h) (n1 : h[343 + 1]? = some (.inr (.inr (.inl sn)))) (n2 : h[343 + 5]? = some (.inr (.inr (.inl tn)))) (N1 : ∀ i, i < S → wR (sn.getD i 0) (nm.getD i 0)) (N2 : ∀ i, i < n → wR (tn.getD i 0) (nm.getD (7 + i) 0)) (c325 : h[325]? = some (.inl (6, [.ref 326, .int ln]))) (s1 : h[326]? = some (.inr (.inl (1, b)))) (hb : b.length = 700) : (rtW S n w nm).length ≤ 588 ∧ j_V jP 15 158 0 (lv_args 0 [.ref 0]) [] h (fun rv h' => rv = some (.int (nI (rtW S n w nm).length)) ∧ hX 343 327 n S w 0 h' ∧ (∀ x, 28 < x → x ≠ 325 → x ≠ 326 → (x < 343 ∨ 343 + 12 ≤ x) → h'[x]? = h[x]?) ∧ (h'[343 + 1]? = some (.inr (.inr (.inl sn))) ∧ h'[343 + 5]? = some (.inr (.inr (.inl tn)))) ∧ jc_at h' 325 1 = some (.int (nI (rtW S n w nm).length)) ∧ ∃ b', h'[326]? = some (.inr (.inl (1, b'))) ∧ tT 700 (rtW S n w nm) b') := by
  have R0 := R
  refine hX.opn R (fun mi shu bus lks rl pev rk sta ph sp ce du he ri us cm lf lkd row sea pms pmm pmt pst pwa prs prr pfa CS hl4 V cel run tra len siz frm tto lst slo wei fit way rid lon CL Y Ly hlY => ?_)
  have WF := V.1
  have h5 := WF.n5
  have h7 := WF.S7
  have hs : ∀ t, t < n → gN sta t = ft w t 3 := fun t ht => (V.2.2.1.2.2.1 t ht).1
  have eT := tx_eq WF Ly N1 N2 hs
  have hk : ∀ j, j < S → lpN (gA tra (nI j)) 0 ≤ 3 := fun j hj => by
    obtain ⟨b1, b2, -⟩ := WF.St (show j < 7 by omega)
    rw [gA_n (by omega), (Ly.1 j hj).2.1, b1, lpN_m (by omega)]
    exact b2
  have hT := tx_len (sn := sn) (tn := tn) (sta := sta) WF Ly
  rw [eT] at hT
  refine ⟨hT, ?_⟩
  have K0 : kA h [(0, .inl (9, [.ref 1, .ref 3, .ref 4, .ref 29, .ref 281, .ref 325, .ref 343, .ref 327, .int sst])), (4, .inl (7, [.ref 343, .int mi, .int shu, .int bus, .ref 5, .ref 6, .ref 7, .ref 8, .ref 9, .ref 10, .ref 11, .ref 12, .ref 13, .ref 14, .ref 15, .int lks, .ref 16, .ref 17, .ref 20])), (6, .inr (.inl (0, sta))), (325, .inl (6, [.ref 326, .int ln])), (326, .inr (.inl (1, b))), (343, .inl (2, [.int (nI S), .ref (343 + 1), .ref (343 + 2), .ref (343 + 3), .ref (343 + 4), .int (nI n), .ref (343 + 5), .ref (343 + 6), .ref (343 + 7), .ref (343 + 8), .ref (343 + 9), .ref (343 + 10), .ref (343 + 11), .int cel, .ref (343 + 12), .ref (343 + 13), .ref (343 + 14), .ref (343 + 15)])), (343 + 1, .inr (.inr (.inl sn))), (343 + 2, .inr (.inl (0, run))), (343 + 3, .inr (.inl (0, tra))), (343 + 4, .inr (.inl (0, len))), (343 + 5, .inr (.inr (.inl tn))), (343 + 6, .inr (.inl (0, siz))), (343 + 7, .inr (.inl (0, frm))), (343 + 8, .inr (.inl (0, tto))), (343 + 10, .inr (.inl (0, slo))), (343 + 11, .inr (.inl (0, wei)))] := ⟨R0.1, CS.1, CS.2.2.1, c325, s1, CL.1, n1, CL.2.1, CL.2.2.1, CL.2.2.2.1, n2, CL.2.2.2.2.1, CL.2.2.2.2.2.1, CL.2.2.2.2.2.2.1, CL.2.2.2.2.2.2.2.2.1, CL.2.2.2.2.2.2.2.2.2.1, trivial⟩
  refine j_V.mono (xytB_ok (u := fun jz => ([.ref 343, .int mi, .int shu, .int bus, .ref 5, .ref 6, .ref 7, .ref 8, .ref 9, .ref 10, .ref 11, .ref 12, .ref 13, .ref 14, .ref 15, .int lks, .ref 16, .ref 17, .ref 20] : List Value).getD jz .null) h5 h7 hk hb K0.K) ?_
  rintro rv h' ⟨rfl, b', Tb, K⟩
  rw [eT] at Tb K ⊢
  refine ⟨rfl, ⟨K.at (a := 0) rfl, R0.2.1.fr (fun x x1 x2 => KN.off K0 K ?_), R0.2.2.fr (fun x x1 x2 => KN.off K0 K ?_)⟩, fun x x1 x2 x3 x4 => K.2.1 x (la_lkL (L := 343) ⟨x1, x2, x3, x4⟩ rfl), ⟨K.at rfl, K.at rfl⟩, jc_at_of (K.at (a := 325) rfl), b', K.at (a := 326) rfl, Tb⟩
  · rw [show x = 4 + (x - 4) by omega]
    have hx : x - 4 < 25 := by omega
    generalize x - 4 = k at hx
    match k, hx with
      | 0, _ => rfl
      | 1, _ => rfl
      | 2, _ => rfl
      | 3, _ => rfl
      | 4, _ => rfl
      | 5, _ => rfl
      | 6, _ => rfl
      | 7, _ => rfl
      | 8, _ => rfl
      | 9, _ => rfl
      | 10, _ => rfl
      | 11, _ => rfl
      | 12, _ => rfl
      | 13, _ => rfl
      | 14, _ => rfl
      | 15, _ => rfl
      | 16, _ => rfl
      | 17, _ => rfl
      | 18, _ => rfl
      | 19, _ => rfl
      | 20, _ => rfl
      | 21, _ => rfl
      | 22, _ => rfl
      | 23, _ => rfl
      | 24, _ => rfl
      | k + 25, hk => exact absurd hk (by omega)
  · rw [show x = 343 + (x - 343) by omega]
    have hx : x - 343 < 16 := by omega
    generalize x - 343 = k at hx
    match k, hx with
      | 0, _ => rfl
      | 1, _ => rfl
      | 2, _ => rfl
      | 3, _ => rfl
      | 4, _ => rfl
      | 5, _ => rfl
      | 6, _ => rfl
      | 7, _ => rfl
      | 8, _ => rfl
      | 9, _ => rfl
      | 10, _ => rfl
      | 11, _ => rfl
      | 12, _ => rfl
      | 13, _ => rfl
      | 14, _ => rfl
      | 15, _ => rfl
      | k + 16, hk => exact absurd hk (by omega)
theorem la_q_print {t : Nat} {h : J_H} (ht : t < 512) (H : la_I t h) : la_Q true (la_I (t + 1)) 158 296 [.ref 0] [.ref 359] h := by
  obtain ⟨⟨k, H⟩, L, L', n, S, a, e, w0, w, kp, sst, hL, R, sn, tn, nm, T0, b, b2, ⟨n1, n2, n3⟩, ⟨s1, s2⟩, ⟨s3, s4⟩, ⟨s5, s6, s7⟩, N1, N2⟩ := H
  have WF := R.wf
  have h5 := WF.n5
  have h7 := WF.S7
  obtain ⟨ln, c325⟩ := la_c325 H.1.1.1
  have J : (rtW S n w nm).length ≤ 588 ∧ j_V jP 15 158 0 (lv_args 0 [.ref 0]) [] h (fun rv h' => rv = some (.int (nI (rtW S n w nm).length)) ∧ hX L L' n S w 0 h' ∧ (∀ x, 28 < x → x ≠ 325 → x ≠ 326 → (x < L ∨ L + 12 ≤ x) → h'[x]? = h[x]?) ∧ (h'[L + 1]? = some (.inr (.inr (.inl sn))) ∧ h'[L + 5]? = some (.inr (.inr (.inl tn)))) ∧ jc_at h' 325 1 = some (.int (nI (rtW S n w nm).length)) ∧ ∃ b', h'[326]? = some (.inr (.inl (1, b'))) ∧ tT 700 (rtW S n w nm) b') := by
    rcases hL with ⟨rfl, rfl⟩ | ⟨rfl, rfl⟩
    · exact la_pXA R.1 n1 n2 N1 N2 c325 s1 s5.1
    · exact la_pXB R.1 n1 n2 N1 N2 c325 s1 s5.1
  obtain ⟨hT, J⟩ := J
  refine j_W.mono (j_W.andV (show j_W jP 15 158 0 (lv_args 0 [.ref 0]) [] h _ from pY_print H.1.1.1) J) ?_
  rintro rv h1 ⟨⟨⟨⟨v, rfl⟩, c1, f1⟩, e1, kx⟩, q1, X1, F1, ⟨m1, m2⟩, m3, b', m4, m5⟩
  cases q1
  have H1 := H.kx c1 f1 e1 kx
  have FM : ∀ x, 359 ≤ x → h1[x]? = h[x]? := fun x a1 => F1 x (by omega) (by omega) (by omega) (by omega)
  obtain ⟨x9, x11, x12, x14, x15, x16, x17, x18, x19, x20, om, x21, th, tm, sd, ot, tk, od, be, C, l9⟩ := la_mm H1.1.1.2 (R.2.2.1.fr (fun x a1 a2 => FM x a1))
  have n3' := (FM 366 (by decide)).trans n3
  have s2' := (FM 371 (by decide)).trans s2
  refine ⟨_, rfl, f1.1, j_W.mono (j_W.andV (show j_W jP 15 296 0 (lv_args 0 [.ref 359]) [] h1 _ from pN_print H1.1.1.2) (myt_ok (n := n) (S := S) (u := fun jz => ([.int th, .ref 360, .ref 361, .ref 362, .ref 363, .ref 364, .ref 365, .ref 366, .ref 367, .int x9, .int sst, .int x11, .int x12, .int (nI a), .int x14, .int x15, .int x16, .int x17, .int x18, .int x19, .int x20, .long x21, .ref 368, .int tm, .ref 369, .ref 370, .ref 371, .int om] : List Value).getD jz .null) (by rw [show (203 : Int32) = nI 203 from rfl, gA_n (by decide)]; exact WF.A.2.1) (by rw [show (202 : Int32) = nI 202 from rfl, gA_n (by decide)]; exact WF.A.2.2.2.1) h5 h7 (fun j hj => by
    obtain ⟨b1, b2, -⟩ := WF.St (show j < 7 by omega)
    rw [show m_st w (nI j) 1 = nI (mN w j) from (m_st_n (k := 1) (by omega) (by omega)).trans b1, lpN_m (by omega)]
    exact b2) s6.1 (KN.all ⟨C.1, C.2.1, n3', s2', trivial⟩))) ?_⟩
  rintro rw h2 ⟨⟨⟨⟨v2, rfl⟩, c2, f2⟩, e2, km⟩, q2, b3, m6, K⟩
  cases q2
  have G2 : ∀ x, x < 359 → h2[x]? = h1[x]? := fun x a1 => K.2.1 x (la_lk4 (by omega) (by omega) (by omega) (by omega))
  refine ⟨_, rfl, fun _ => rfl, f2.1, ⟨k, H1.km c2 f2 e2 km⟩, la_R.n hL R (by omega) X1 (fun x a1 a2 => F1 x (by omega) (by omega) (by omega) (by omega)) (fun x a1 a2 a3 => G2 x a1) ⟨laU x9 x11 x12 x14 x15 x16 x17 x18 x19 x20 (nI (rtW S n w nm).length) x21, 0, tm, sd, ot, tk, od, be, ⟨K.at (a := 359) rfl, K.at (a := 360) rfl, (K.2.1 362 rfl).trans C.2.2.1, (K.2.1 363 rfl).trans C.2.2.2.1, (K.2.1 364 rfl).trans C.2.2.2.2.1, (K.2.1 368 rfl).trans C.2.2.2.2.2.1, (K.2.1 369 rfl).trans C.2.2.2.2.2.2.1, (K.2.1 370 rfl).trans C.2.2.2.2.2.2.2⟩, l9.2.1, l9.2.2.1⟩ ⟨sn, tn, nm, rtW S n w nm, b', b3, ⟨(G2 _ (by omega)).trans m1, (G2 _ (by omega)).trans m2, K.at (a := 366) rfl⟩, ⟨(G2 326 (by decide)).trans m4, K.at (a := 371) rfl⟩, ⟨(i_cellE (G2 325 (by decide))).trans m3, jc_at_of (K.at (a := 359) rfl)⟩, ⟨m5, m6, hT⟩, N1, N2⟩⟩
theorem nbR.th {h h' : J_H} {u : Nat → Value} {th sst acs tm : Int32} {w sd ot kp tk od be : List Int32} (R : nbR nbO h h') (C : hMc h u th sst acs tm w sd ot kp tk od be) : ∃ th', hMc h' u th' sst acs tm w sd ot kp tk od be := by
  obtain ⟨c', e, fs', rfl, -, k⟩ := R.2 359 _ C.1
  obtain ⟨y, hy⟩ := (k 0).2 th rfl
  refine ⟨y, ⟨?_, R.int0 C.2.1, R.int0 C.2.2.1, R.int0 C.2.2.2.1, R.int0 C.2.2.2.2.1, R.int0 C.2.2.2.2.2.1, R.int0 C.2.2.2.2.2.2.1, R.int0 C.2.2.2.2.2.2.2⟩⟩
  rw [e]
  refine congrArg (fun q => some (Sum.inl (10, q))) (List.ext_getElem? fun j => ?_)
  cases j with
  | zero => exact hy
  | succ j => exact ((k (j + 1)).1 rfl).trans rfl
theorem la_r_out (x1 : Int32) {t : Nat} {h : J_H} (H : la_I t h) : j_W jP 15 297 0 (lv_args 0 [.ref 359, .int x1]) [] h (fun rv h' => (∃ v, rv = some (.int v)) ∧ j_same h h' ∧ la_I (t + 1) h') := by
  obtain ⟨⟨k, H⟩, L, L', n, S, a, e, w0, w, kp, sst, hL, R, X⟩ := H
  refine j_W.mono (j_W.andV (j_W.andV (show j_W jP 15 297 0 (lv_args 0 [.ref 359, .int x1]) [] h _ from pN_out x1 H.1.1.2) (show j_V jP 15 297 0 (lv_args 0 [.ref 359, .int x1]) [] h _ from pKg_of rfl)) (nb_V nb_NO (mi := 297) rfl)) ?_
  rintro rv h1 ⟨⟨⟨⟨a9, c1, f1⟩, e1, km⟩, tm⟩, NB⟩
  obtain ⟨u, th, tm9, sd, ot, tk, od, be, C, l9⟩ := R.2.2.1
  obtain ⟨th', C'⟩ := NB.th C
  exact ⟨a9, f1.1, ⟨k, H.km c1 f1 e1 km⟩, la_R.m9 hL R (by omega) (fun x a1 a2 a3 => la_nb nbO_c H.2.2.1 NB la_k10 (by omega) (la_no3 a2 a3 (by omega))) ⟨u, th', tm9, sd, ot, tk, od, be, C', l9⟩ (X.fr hL f1.1 (i_kux_m f1) (X.lg H.1.1.2 tm))⟩
theorem la_I.st {t : Nat} {h : J_H} {w v : Int64} (H : la_I t h) (hw : h[372]? = some (.inr (.inr (.inl [w])))) : la_I t (h.set 372 (.inr (.inr (.inl [v])))) := by
  obtain ⟨⟨k, H⟩, RR⟩ := H
  have hs : j_same h (h.set 372 (.inr (.inr (.inl [v])))) := j_same.set hw rfl
  have he : ∀ x, x < 372 → (h.set 372 (.inr (.inr (.inl [v]))))[x]? = h[x]? := fun x hx => List.getElem?_set_ne (by omega)
  have hk : ∀ x i, x < 372 → jc_at (h.set 372 (.inr (.inr (.inl [v])))) x i = jc_at h x i := fun x i hx => i_cellE (he x hx)
  obtain ⟨⟨l, m, a1, a2, a3⟩, b1, b2⟩ := H.2.2.2
  exact ⟨⟨k, ⟨⟨H.1.1.1.oth ⟨hs, fun x i hx => hk x i (by omega)⟩, H.1.1.2.oth9 hs hk⟩, (hk 1 1 (by decide)).trans H.1.2.1, (hk 359 9 (by decide)).trans H.1.2.2⟩, H.2.1, H.2.2.1.tr hs, ⟨l, m, (he 2 (by decide)).trans a1, (he 365 (by decide)).trans a2, a3⟩, by rw [hk 3 2 (by decide), hk 359 11 (by decide)]; exact b1, by rw [hk 3 3 (by decide), hk 359 12 (by decide)]; exact b2⟩, by
    obtain ⟨L, L', n, S, a, e, w0, w, kp, sst, hL, R, X⟩ := RR
    exact la_R.m9 hL R (by omega) (fun x a1 _ _ => he x (by omega)) (R.2.2.1.fr (fun x z1 z2 => he x (by omega))) (X.fr hL hs (i_kux_of (fun x hx => he x (by omega))) ⟨fun x hx i => hk x i (by omega), hk 359 27 (by decide)⟩)⟩
theorem la_I.nx {t : Nat} {h : J_H} (H : la_I t h) : la_I (t + 1) h := by
  obtain ⟨k, L, L', n, S, a, e, w0, w, kp, sst, hL, R, X⟩ := H
  exact ⟨k, la_R.mk hL R X (by omega)⟩
theorem la_I.same {t : Nat} {h : J_H} (H : la_I t h) : j_same la_h9 h := by
  obtain ⟨⟨k, H⟩, -⟩ := H
  exact H.2.2.1
theorem la_I.sh {t : Nat} {h : J_H} (H : la_I t h) : i_Sh h := by
  obtain ⟨⟨k, H⟩, -⟩ := H
  exact i_sh H.1.1.1

/-! tapes and faults of both sides between calls: written by wip/py/gen_zr.py -/
theorem i_mapint {x y : Option Int32} (h : x.map Value.int = y.map Value.int) : x = y := by
  cases x with
  | none => cases y with
    | none => rfl
    | some y => cases h
  | some x => cases y with
    | none => cases h
    | some y =>
      have h := Option.some.inj h
      injection h with h
      rw [h]
theorem i_cellI {h h' : J_H} {a kd : Nat} {m : List Int32} (hs : j_same h h') (hf : ∀ i, jc_at h' a i = jc_at h a i) (hm : h[a]? = some (.inr (.inl (kd, m)))) : h'[a]? = some (.inr (.inl (kd, m))) := by
  obtain ⟨c', c1, c2⟩ := hs.2 a _ hm
  rcases c' with f | f | l | l
  · cases c2
  · obtain ⟨k, m'⟩ := f
    have e1 : k = kd := congrArg (fun q => q.2.1) c2
    subst e1
    have e3 : m' = m := by
      apply List.ext_getElem?
      intro i
      have := hf i
      rw [jc_at_of c1, jc_at_of hm] at this
      exact i_mapint this
    rw [e3] at c1
    exact c1
  · cases c2
  · cases c2
theorem i_cellE {h h' : J_H} {a i : Nat} (he : h'[a]? = h[a]?) : jc_at h' a i = jc_at h a i := by
  unfold jc_at
  rw [he]
/-- the bytes below are the same; so are fault and place -/
def la_T (k : Nat) (h : J_H) : Prop := (∃ l m : List Int32, h[2]? = some (.inr (.inl (1, l))) ∧ h[365]? = some (.inr (.inl (0, m))) ∧ l.length = 700 ∧ m.length = 700 ∧ bA9 l m (20 * k)) ∧ jc_at h 3 2 = jc_at h 359 11 ∧ jc_at h 3 3 = jc_at h 359 12
/-- what holds between the law's calls: both sides' invariants, k twenties of bytes on both tapes -/
def la_S (k : Nat) (h : J_H) : Prop := ((IC h ∧ IM h) ∧ jc_at h 1 1 = some (.int (nI (20 * k))) ∧ jc_at h 359 9 = some (.int (nI (20 * k)))) ∧ k < 36 ∧ j_same la_h9 h ∧ la_T k h
theorem la_T.kx {k : Nat} {h h1 : J_H} (H : la_T k h) (f : i_fx h h1) (kx : i_kx h h1) : la_T k h1 := by
  obtain ⟨⟨l, m, a1, a2, a3⟩, b1, b2⟩ := H
  exact ⟨⟨l, m, i_cellI f.1 kx.1 a1, i_cellI f.1 (fun i => f.2 365 i (by decide)) a2, a3⟩, by rw [kx.2.1, f.2 359 11 (by decide)]; exact b1, by rw [kx.2.2, f.2 359 12 (by decide)]; exact b2⟩
theorem la_T.km {k : Nat} {h h1 : J_H} (H : la_T k h) (f : i_fm h h1) (km : i_km h h1) : la_T k h1 := by
  obtain ⟨⟨l, m, a1, a2, a3⟩, b1, b2⟩ := H
  exact ⟨⟨l, m, i_cellI f.1 (fun i => f.2 2 i (by decide)) a1, i_cellI f.1 km.1 a2, a3⟩, by rw [km.2.1, f.2 3 2 (by decide)]; exact b1, by rw [km.2.2, f.2 3 3 (by decide)]; exact b2⟩
theorem la_S.kx {k : Nat} {h h1 : J_H} (H : la_S k h) (c : IC h1) (f : i_fx h h1) (e : jc_at h1 1 1 = jc_at h 1 1) (kx : i_kx h h1) : la_S k h1 :=
  ⟨⟨⟨c, H.1.1.2.oth f⟩, e.trans H.1.2.1, (f.2 359 9 (by decide)).trans H.1.2.2⟩, H.2.1, H.2.2.1.tr f.1, H.2.2.2.kx f kx⟩
theorem la_S.km {k : Nat} {h h1 : J_H} (H : la_S k h) (c : IM h1) (f : i_fm h h1) (e : jc_at h1 359 9 = jc_at h 359 9) (km : i_km h h1) : la_S k h1 :=
  ⟨⟨⟨H.1.1.1.oth f, c⟩, (f.2 1 1 (by decide)).trans H.1.2.1, e.trans H.1.2.2⟩, H.2.1, H.2.2.1.tr f.1, H.2.2.2.km f km⟩
/-- a call of the class, then the same of the reference; if so asked their answers are the same -/
def la_Q (cmp : Bool) (S : J_H → Prop) (mx mm : Nat) (As Bs : List Value) (h : J_H) : Prop := j_W jP 15 mx 0 (lv_args 0 As) [] h (fun rv h1 => ∃ v, rv = some (.int v) ∧ j_same h h1 ∧ j_W jP 15 mm 0 (lv_args 0 Bs) [] h1 (fun rw h2 => ∃ w, rw = some (.int w) ∧ (cmp = true → v = w) ∧ j_same h1 h2 ∧ S h2))
/-- the cells that feed, load and fault read -/
theorem i_knX {h : J_H} {a : Nat} (hI : IC h) (hL : jc_at h 1 1 = some (.int (nI a))) : ∃ (w v : Nat → Value) (x : Value) (fa pa : Int32), h[0]? = some (.inl (9, [.ref 1, .ref 3, w 2, w 3, w 4, w 5, w 6, w 7, w 8])) ∧ h[1]? = some (.inl (8, [.ref 2, .int (nI a), v 2, v 3, v 4, v 5, v 6, v 7])) ∧ h[3]? = some (.inl (4, [.ref 1, x, .int fa, .int pa])) := by
  rcases hI with ⟨r, t, hg⟩ | ⟨r, t, hg⟩
  · obtain ⟨f0, c0, b0⟩ := i_og_ok (a := 0) (ci := 9) (Ts := [(some (.inr (some 1))), (some (.inr (some 3))), none, none, none, none, none, none, none]) hg (by decide +kernel)
    obtain ⟨f1, c1, b1⟩ := i_og_ok (a := 1) (ci := 8) (Ts := [(some (.inr (some 2))), (some (.inl (.ofNat 0, .ofNat 700))), none, none, none, none, none, none]) hg (by decide +kernel)
    obtain ⟨f3, c3, b3⟩ := i_og_ok (a := 3) (ci := 4) (Ts := [(some (.inr (some 1))), none, (some (.inl (.negSucc 0, .ofNat 5))), (some (.inl (.negSucc 2147483647, .ofNat 2147483647)))]) hg (by decide +kernel)
    obtain ⟨w9, f0_0, e9, t9, b0_0⟩ := i_a2_c b0; clear b0; subst e9; obtain rfl := i_tvr t9; clear t9
    obtain ⟨w9, f0_1, e9, t9, b0_1⟩ := i_a2_c b0_0; clear b0_0; subst e9; obtain rfl := i_tvr t9; clear t9
    obtain ⟨p2, f0_2, e9, t9, b0_2⟩ := i_a2_c b0_1; clear b0_1; subst e9; clear t9
    obtain ⟨p3, f0_3, e9, t9, b0_3⟩ := i_a2_c b0_2; clear b0_2; subst e9; clear t9
    obtain ⟨p4, f0_4, e9, t9, b0_4⟩ := i_a2_c b0_3; clear b0_3; subst e9; clear t9
    obtain ⟨p5, f0_5, e9, t9, b0_5⟩ := i_a2_c b0_4; clear b0_4; subst e9; clear t9
    obtain ⟨p6, f0_6, e9, t9, b0_6⟩ := i_a2_c b0_5; clear b0_5; subst e9; clear t9
    obtain ⟨p7, f0_7, e9, t9, b0_7⟩ := i_a2_c b0_6; clear b0_6; subst e9; clear t9
    obtain ⟨p8, f0_8, e9, t9, b0_8⟩ := i_a2_c b0_7; clear b0_7; subst e9; clear t9
    obtain rfl := i_a2_n b0_8; clear b0_8
    obtain ⟨w9, f1_0, e9, t9, b1_0⟩ := i_a2_c b1; clear b1; subst e9; obtain rfl := i_tvr t9; clear t9
    obtain ⟨w9, f1_1, e9, t9, b1_1⟩ := i_a2_c b1_0; clear b1_0; subst e9; obtain ⟨q1, rfl, -⟩ := i_tvi t9; clear t9
    obtain ⟨q2, f1_2, e9, t9, b1_2⟩ := i_a2_c b1_1; clear b1_1; subst e9; clear t9
    obtain ⟨q3, f1_3, e9, t9, b1_3⟩ := i_a2_c b1_2; clear b1_2; subst e9; clear t9
    obtain ⟨q4, f1_4, e9, t9, b1_4⟩ := i_a2_c b1_3; clear b1_3; subst e9; clear t9
    obtain ⟨q5, f1_5, e9, t9, b1_5⟩ := i_a2_c b1_4; clear b1_4; subst e9; clear t9
    obtain ⟨q6, f1_6, e9, t9, b1_6⟩ := i_a2_c b1_5; clear b1_5; subst e9; clear t9
    obtain ⟨q7, f1_7, e9, t9, b1_7⟩ := i_a2_c b1_6; clear b1_6; subst e9; clear t9
    obtain rfl := i_a2_n b1_7; clear b1_7
    obtain ⟨w9, f3_0, e9, t9, b3_0⟩ := i_a2_c b3; clear b3; subst e9; obtain rfl := i_tvr t9; clear t9
    obtain ⟨x1, f3_1, e9, t9, b3_1⟩ := i_a2_c b3_0; clear b3_0; subst e9; clear t9
    obtain ⟨w9, f3_2, e9, t9, b3_2⟩ := i_a2_c b3_1; clear b3_1; subst e9; obtain ⟨x2, rfl, -⟩ := i_tvi t9; clear t9
    obtain ⟨w9, f3_3, e9, t9, b3_3⟩ := i_a2_c b3_2; clear b3_2; subst e9; obtain ⟨x3, rfl, -⟩ := i_tvi t9; clear t9
    obtain rfl := i_a2_n b3_3; clear b3_3
    have e1 := i_ati c1 rfl hL
    cases e1
    exact ⟨fun j => [(.ref 1), (.ref 3), p2, p3, p4, p5, p6, p7, p8].getD j .null, fun j => [(.ref 2), (.int (nI a)), q2, q3, q4, q5, q6, q7].getD j .null, x1, x2, x3, c0, c1, c3⟩
  · obtain ⟨f0, c0, b0⟩ := i_og_ok (a := 0) (ci := 9) (Ts := [(some (.inr (some 1))), (some (.inr (some 3))), none, none, none, none, none, none, none]) hg (by decide +kernel)
    obtain ⟨f1, c1, b1⟩ := i_og_ok (a := 1) (ci := 8) (Ts := [(some (.inr (some 2))), (some (.inl (.ofNat 0, .ofNat 700))), none, none, none, none, none, none]) hg (by decide +kernel)
    obtain ⟨f3, c3, b3⟩ := i_og_ok (a := 3) (ci := 4) (Ts := [(some (.inr (some 1))), none, (some (.inl (.negSucc 0, .ofNat 5))), (some (.inl (.negSucc 2147483647, .ofNat 2147483647)))]) hg (by decide +kernel)
    obtain ⟨w9, f0_0, e9, t9, b0_0⟩ := i_a2_c b0; clear b0; subst e9; obtain rfl := i_tvr t9; clear t9
    obtain ⟨w9, f0_1, e9, t9, b0_1⟩ := i_a2_c b0_0; clear b0_0; subst e9; obtain rfl := i_tvr t9; clear t9
    obtain ⟨p2, f0_2, e9, t9, b0_2⟩ := i_a2_c b0_1; clear b0_1; subst e9; clear t9
    obtain ⟨p3, f0_3, e9, t9, b0_3⟩ := i_a2_c b0_2; clear b0_2; subst e9; clear t9
    obtain ⟨p4, f0_4, e9, t9, b0_4⟩ := i_a2_c b0_3; clear b0_3; subst e9; clear t9
    obtain ⟨p5, f0_5, e9, t9, b0_5⟩ := i_a2_c b0_4; clear b0_4; subst e9; clear t9
    obtain ⟨p6, f0_6, e9, t9, b0_6⟩ := i_a2_c b0_5; clear b0_5; subst e9; clear t9
    obtain ⟨p7, f0_7, e9, t9, b0_7⟩ := i_a2_c b0_6; clear b0_6; subst e9; clear t9
    obtain ⟨p8, f0_8, e9, t9, b0_8⟩ := i_a2_c b0_7; clear b0_7; subst e9; clear t9
    obtain rfl := i_a2_n b0_8; clear b0_8
    obtain ⟨w9, f1_0, e9, t9, b1_0⟩ := i_a2_c b1; clear b1; subst e9; obtain rfl := i_tvr t9; clear t9
    obtain ⟨w9, f1_1, e9, t9, b1_1⟩ := i_a2_c b1_0; clear b1_0; subst e9; obtain ⟨q1, rfl, -⟩ := i_tvi t9; clear t9
    obtain ⟨q2, f1_2, e9, t9, b1_2⟩ := i_a2_c b1_1; clear b1_1; subst e9; clear t9
    obtain ⟨q3, f1_3, e9, t9, b1_3⟩ := i_a2_c b1_2; clear b1_2; subst e9; clear t9
    obtain ⟨q4, f1_4, e9, t9, b1_4⟩ := i_a2_c b1_3; clear b1_3; subst e9; clear t9
    obtain ⟨q5, f1_5, e9, t9, b1_5⟩ := i_a2_c b1_4; clear b1_4; subst e9; clear t9
    obtain ⟨q6, f1_6, e9, t9, b1_6⟩ := i_a2_c b1_5; clear b1_5; subst e9; clear t9
    obtain ⟨q7, f1_7, e9, t9, b1_7⟩ := i_a2_c b1_6; clear b1_6; subst e9; clear t9
    obtain rfl := i_a2_n b1_7; clear b1_7
    obtain ⟨w9, f3_0, e9, t9, b3_0⟩ := i_a2_c b3; clear b3; subst e9; obtain rfl := i_tvr t9; clear t9
    obtain ⟨x1, f3_1, e9, t9, b3_1⟩ := i_a2_c b3_0; clear b3_0; subst e9; clear t9
    obtain ⟨w9, f3_2, e9, t9, b3_2⟩ := i_a2_c b3_1; clear b3_1; subst e9; obtain ⟨x2, rfl, -⟩ := i_tvi t9; clear t9
    obtain ⟨w9, f3_3, e9, t9, b3_3⟩ := i_a2_c b3_2; clear b3_2; subst e9; obtain ⟨x3, rfl, -⟩ := i_tvi t9; clear t9
    obtain rfl := i_a2_n b3_3; clear b3_3
    have e1 := i_ati c1 rfl hL
    cases e1
    exact ⟨fun j => [(.ref 1), (.ref 3), p2, p3, p4, p5, p6, p7, p8].getD j .null, fun j => [(.ref 2), (.int (nI a)), q2, q3, q4, q5, q6, q7].getD j .null, x1, x2, x3, c0, c1, c3⟩
theorem i_sameI {h h' : J_H} {a kd : Nat} {m : List Int32} (hs : j_same h h') (hm : h[a]? = some (.inr (.inl (kd, m)))) : ∃ m', h'[a]? = some (.inr (.inl (kd, m'))) ∧ m'.length = m.length := by
  obtain ⟨c', c1, c2⟩ := hs.2 a _ hm
  rcases c' with f | f | l | l
  · cases c2
  · obtain ⟨k, m'⟩ := f
    have e1 : k = kd := congrArg (fun q => q.2.1) c2
    subst e1
    exact ⟨m', c1, congrArg (fun q => q.2.2) c2⟩
  · cases c2
  · cases c2
theorem la_h2 : la_h9[2]? = some (.inr (.inl (1, List.replicate 700 0))) := by decide +kernel
theorem la_h365 : la_h9[365]? = some (.inr (.inl (0, List.replicate 700 0))) := by decide +kernel
/-- both stand alike, told by the number of the turn -/
def la_R (t : Nat) (h : J_H) : Prop := ∃ (L L' n S a e : Nat) (w0 w kp : List Int32) (sst : Int32), ((L = 327 ∧ L' = 343) ∨ (L = 343 ∧ L' = 327)) ∧ hR L L' n S a e (2000 + 99 * t) w0 w kp sst h
def la_I (t : Nat) (h : J_H) : Prop := (∃ k, la_S k h) ∧ la_R t h
theorem hR.up {D' : Nat} {L L' n S a e D : Nat} {w0 w kp : List Int32} {sst : Int32} {h : J_H} (R : hR L L' n S a e D w0 w kp sst h) (hD : D ≤ D') : hR L L' n S a e D' w0 w kp sst h := ⟨R.1, R.2.1, R.2.2.1, R.2.2.2.1, R.2.2.2.2.1.mono hD, fun i hi => (R.2.2.2.2.2 i hi).mono hD⟩
theorem hX.f9 {L L' n S : Nat} {w : List Int32} {sst st : Int32} {h h' : J_H} (X : hX L L' n S w sst h) (c : h'[0]? = some (.inl (9, [.ref 1, .ref 3, .ref 4, .ref 29, .ref 281, .ref 325, .ref L, .ref L', .int st]))) (F : ∀ x, 4 ≤ x → x < 29 → h'[x]? = h[x]?) (G : ∀ x, L ≤ x → x < L + 16 → h'[x]? = h[x]?) : hX L L' n S w st h' := ⟨c, X.2.1.fr F, X.2.2.fr G⟩
theorem hR.n9 {L L' n S a e D : Nat} {w0 w kp : List Int32} {sst : Int32} {st : Int32} {h h' : J_H} (R : hR L L' n S a e D w0 w kp sst h) (X : hX L L' n S w st h') (F : ∀ x, 29 ≤ x → x < 281 → h'[x]? = h[x]?) (M : hM9 w kp st (nI a) h') : hR L L' n S a e D w0 w kp st h' := ⟨X, R.2.1.fr F, M, R.2.2.2⟩
theorem la_R.mk {t : Nat} {L L' n S a e D : Nat} {w0 w kp : List Int32} {sst : Int32} {h : J_H} (hL : (L = 327 ∧ L' = 343) ∨ (L = 343 ∧ L' = 327)) (R : hR L L' n S a e D w0 w kp sst h) (hD : D ≤ 2000 + 99 * t) : la_R t h := ⟨L, L', n, S, a, e, w0, w, kp, sst, hL, R.up hD⟩
/-- all that the relation speaks of stands as it was, but for the reference's object -/
theorem la_R.fr {t t' : Nat} {h h' : J_H} (H : la_R t h) (ht : t ≤ t') (c : h'[0]? = h[0]?) (F : ∀ x, 4 ≤ x → x < 325 → h'[x]? = h[x]?) (G : ∀ x, 327 ≤ x → x < 359 → h'[x]? = h[x]?) (M : ∀ (w kp : List Int32) (sst acs : Int32), hM9 w kp sst acs h → hM9 w kp sst acs h') : la_R t' h' := by
  obtain ⟨L, L', n, S, a, e, w0, w, kp, sst, hL, R⟩ := H
  refine la_R.mk hL (R.n9 (R.1.f9 (c.trans R.1.1) (fun x h1 h2 => F x h1 (by omega)) (fun x h1 h2 => G x (by omega) (by omega))) (fun x h1 h2 => F x (by omega) (by omega)) (M _ _ _ _ R.2.2.1)) (by omega)
/-- one answer on both sides -/
theorem la_jq {t mx mm k : Nat} {As : List Value} {h : J_H} {R' : J_H → Prop} (H : la_S k h) (wx : pY mx (.ref 0 :: As) h) (wm : ∀ h1, IM h1 → pN mm (.ref 359 :: As) h1) (J : hJ mx mm As 15 h R') (hR' : ∀ h2, R' h2 → la_R t h2) : la_Q true (la_I t) mx mm (.ref 0 :: As) (.ref 359 :: As) h := by
  refine j_W.mono (j_W.andV (show j_W jP 15 mx 0 (lv_args 0 (.ref 0 :: As)) [] h _ from wx) J) ?_
  rintro rv h1 ⟨⟨⟨⟨v, rfl⟩, c1, f1⟩, e1, kx⟩, v2, e, J2⟩
  cases e
  have H1 := H.kx c1 f1 e1 kx
  refine ⟨v, rfl, f1.1, j_W.mono (j_W.andV (show j_W jP 15 mm 0 (lv_args 0 (.ref 359 :: As)) [] h1 _ from wm h1 H1.1.1.2) (J2 15)) ?_⟩
  rintro rw h2 ⟨⟨⟨⟨w, rfl⟩, c2, f2⟩, e2, km⟩, q, r⟩
  cases q
  exact ⟨_, rfl, fun _ => rfl, f2.1, ⟨k, H1.km c2 f2 e2 km⟩, hR' h2 r⟩
/-- answers left free -/
theorem la_jf {t mx mm k : Nat} {As : List Value} {h : J_H} {R' : J_H → Prop} (H : la_S k h) (wx : pY mx (.ref 0 :: As) h) (wm : ∀ h1, IM h1 → pN mm (.ref 359 :: As) h1) (J : hJf mx mm As 15 h R') (hR' : ∀ h2, R' h2 → la_R t h2) : la_Q false (la_I t) mx mm (.ref 0 :: As) (.ref 359 :: As) h := by
  refine j_W.mono (j_W.andV (show j_W jP 15 mx 0 (lv_args 0 (.ref 0 :: As)) [] h _ from wx) J) ?_
  rintro rv h1 ⟨⟨⟨⟨v, rfl⟩, c1, f1⟩, e1, kx⟩, v2, e, J2⟩
  cases e
  have H1 := H.kx c1 f1 e1 kx
  refine ⟨v, rfl, f1.1, j_W.mono (j_W.andV (show j_W jP 15 mm 0 (lv_args 0 (.ref 359 :: As)) [] h1 _ from wm h1 H1.1.1.2) (J2 15)) ?_⟩
  rintro rw h2 ⟨⟨⟨⟨w, rfl⟩, c2, f2⟩, e2, km⟩, q, r⟩
  exact ⟨w, rfl, (fun z => nomatch z), f2.1, ⟨k, H1.km c2 f2 e2 km⟩, hR' h2 r⟩
/-- the reference's object as its invariant tells it, with what the relation says of it -/
theorem la_mm {h : J_H} {w kp : List Int32} {sst acs : Int32} (hI : IM h) (M : hM9 w kp sst acs h) : ∃ (x9 x11 x12 x14 x15 x16 x17 x18 x19 x20 om : Int32) (x21 : Int64) (th tm : Int32) (sd ot tk od be : List Int32), hMc h (laU x9 x11 x12 x14 x15 x16 x17 x18 x19 x20 om x21) th sst acs tm w sd ot kp tk od be ∧ (w.length = 602 ∧ sd.length = 602 ∧ ot.length = 602 ∧ kp.length = 6020 ∧ tk.length = 5 ∧ od.length = 5 ∧ be.length = 5) := by
  obtain ⟨x9, x11, x12, x14, x15, x16, x17, x18, x19, x20, om, x21, th, sst2, acs2, tm, w2, sd, ot, kp2, tk, od, be, C, l⟩ := la_sm hI
  obtain ⟨u, th', tm', sd', ot', tk', od', be', C', -⟩ := M
  obtain ⟨rfl, rfl, rfl, rfl⟩ := hMc.eq C C'
  exact ⟨x9, x11, x12, x14, x15, x16, x17, x18, x19, x20, om, x21, th, tm, sd, ot, tk, od, be, C, l⟩
theorem la_e5 {h : J_H} (hI : IM h) : (∃ l : List Int32, h[368]? = some (.inr (.inl (0, l))) ∧ l.length = 5) ∧ (∃ l : List Int32, h[369]? = some (.inr (.inl (0, l))) ∧ l.length = 5) ∧ (∃ l : List Int32, h[370]? = some (.inr (.inl (0, l))) ∧ l.length = 5) := by
  obtain ⟨x9, x11, x12, x14, x15, x16, x17, x18, x19, x20, om, x21, th, sst2, acs2, tm, w2, sd, ot, kp2, tk, od, be, C, l⟩ := la_sm hI
  exact ⟨⟨tk, C.2.2.2.2.2.1, l.2.2.2.2.1⟩, ⟨od, C.2.2.2.2.2.2.1, l.2.2.2.2.2.1⟩, ⟨be, C.2.2.2.2.2.2.2, l.2.2.2.2.2.2⟩⟩
/-! cells that a run of bytes leaves, by the shapes -/
noncomputable def la_kc (ci0 : Nat) (c : J_C) : Bool := match c with
  | .inl (ci, _) => !Nat.beq ci ci0
  | .inr (.inl (kd, _)) => Nat.beq kd 0
  | _ => true
theorem la_nbx {pf : Nat → Nat → Bool} {ci0 a : Nat} {c : J_C} {h h' : J_H} (hpf : ∀ ci j, pf ci j = true → ci = ci0) (hs : j_same la_h9 h) (R : nbR pf h h') (ha : la_h9[a]? = some c) (hk : la_kc ci0 c = true) : h'[a]? = h[a]? := by
  obtain ⟨c1, e1, s1⟩ := hs.2 a c ha
  rw [e1]
  rcases c with ⟨ci, fs⟩ | ⟨kd, l⟩ | l | l
  · rcases c1 with ⟨ci1, fs1⟩ | c1 | c1 | c1
    · have e2 : ci1 = ci := congrArg (fun q => q.2.1) s1
      subst e2
      have hk : (!Nat.beq ci1 ci0) = true := hk
      refine R.obj (fun j => ?_) e1
      cases hp : pf ci1 j with
      | false => rfl
      | true => rw [hpf _ _ hp, Nat.beq_refl] at hk; cases hk
    · cases s1
    · cases s1
    · cases s1
  · rcases c1 with c1 | ⟨kd1, l1⟩ | c1 | c1
    · cases s1
    · have e2 : kd1 = kd := congrArg (fun q => q.2.1) s1
      subst e2
      have hk : Nat.beq kd1 0 = true := hk
      obtain rfl := Nat.eq_of_beq_eq_true hk
      exact R.int0 e1
    · cases s1
    · cases s1
  · rcases c1 with c1 | c1 | c1 | c1
    · cases s1
    · cases s1
    · exact R.oth e1
    · cases s1
  · rcases c1 with c1 | c1 | c1 | c1
    · cases s1
    · cases s1
    · cases s1
    · exact R.oth e1
noncomputable def la_kt (ci0 : Nat) (X : List Nat) : Bool := (List.range 371).all (fun a => X.any (Nat.beq a) || (match la_h9[a]? with
  | some c => la_kc ci0 c
  | none => false))
theorem la_nb {pf : Nat → Nat → Bool} {ci0 a : Nat} {X : List Nat} {h h' : J_H} (hpf : ∀ ci j, pf ci j = true → ci = ci0) (hs : j_same la_h9 h) (R : nbR pf h h') (hk : la_kt ci0 X = true) (ha : a < 371) (hx : ∀ x, x ∈ X → a ≠ x) : h'[a]? = h[a]? := by
  have q := List.all_eq_true.mp hk a (List.mem_range.mpr ha)
  rcases Bool.or_eq_true_iff.mp q with q | q
  · obtain ⟨x, x1, x2⟩ := List.any_eq_true.mp q
    exact absurd (Nat.eq_of_beq_eq_true x2) (hx x x1)
  · split at q
    · rename_i c hc
      exact la_nbx hpf hs R hc q
    · cases q
set_option maxRecDepth 100000 in
theorem la_k8 : la_kt 8 [1, 2, 326] = true := by decide +kernel
set_option maxRecDepth 100000 in
theorem la_k6 : la_kt 6 [2, 325, 326] = true := by decide +kernel
set_option maxRecDepth 100000 in
theorem la_k10 : la_kt 10 [2, 326, 359] = true := by decide +kernel

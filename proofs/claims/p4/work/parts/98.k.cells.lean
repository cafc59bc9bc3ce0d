/-! the cells between calls, as they are known: written by wip/p5/gen_cells.py -/
def kn_all (h : J_H) : jk_K → Prop
  | [] => True
  | q :: k => h[q.1]? = some q.2 ∧ kn_all h k
theorem kn_lk {h : J_H} : ∀ {k : jk_K} {a : Nat} {c : J_C}, kn_all h k → jk_lk k a = some c → h[a]? = some c
  | [], _, _, _, hc => nomatch hc
  | q :: k, a, c, hk, hc => by
    unfold jk_lk at hc
    cases hb : Nat.beq q.1 a with
    | true =>
      rw [hb] at hc
      cases hc
      rw [← Nat.eq_of_beq_eq_true hb]
      exact hk.1
    | false =>
      rw [hb] at hc
      exact kn_lk hk.2 hc
theorem KN.all {h : J_H} {k : jk_K} (hk : kn_all h k) : KN h k h := ⟨fun _ _ hc => kn_lk hk hc, fun _ _ => rfl, rfl⟩
def i_a2 : List (Option jc_ty) → List Value → Prop
  | [], [] => True
  | T :: Ts, v :: vs => jc_tv T v ∧ i_a2 Ts vs
  | _, _ => False
theorem i_a2_of : ∀ {Ts : List (Option jc_ty)} {vs : List Value}, vs.length = Ts.length → (∀ (i : Nat) (T : Option jc_ty), Ts[i]? = some T → ∃ v, vs[i]? = some v ∧ jc_tv T v) → i_a2 Ts vs
  | [], [], _, _ => trivial
  | T :: Ts, v :: vs, hl, hi => ⟨by
      obtain ⟨w, w1, w2⟩ := hi 0 T rfl
      cases w1
      exact w2, i_a2_of (by simpa using hl) (fun i T' hT => hi (i + 1) T' hT)⟩
  | [], _ :: _, hl, _ => by cases hl
  | _ :: _, [], hl, _ => by cases hl
theorem i_a2_c {T : Option jc_ty} {Ts : List (Option jc_ty)} {fs : List Value} (h : i_a2 (T :: Ts) fs) : ∃ v vs, fs = v :: vs ∧ jc_tv T v ∧ i_a2 Ts vs := by
  cases fs with
  | nil => exact h.elim
  | cons v vs => exact ⟨v, vs, rfl, h.1, h.2⟩
theorem i_a2_n {fs : List Value} (h : i_a2 [] fs) : fs = [] := by
  cases fs with
  | nil => rfl
  | cons v vs => exact h.elim
theorem i_tv0 {v : Value} : jc_tv none v := by cases v <;> trivial
theorem i_tvl {v : Value} (h : jc_tv (some (.inr none)) v) : ∃ x : Int64, v = .long x := by
  cases v <;> first | exact h.elim | exact ⟨_, rfl⟩
noncomputable def i_ogT (E : jc_E) (O : List (Nat × jc_v)) (a i : Nat) (T : Option jc_ty) : Bool := match T with
  | none => true
  | some T' => match jc_lk O (jc_key a i) with
    | some s => (match s with
      | .inr (some (some b)) => decide (T' = .inr (some b))
      | _ => false)
    | none => (match ja_n2 E.1 a with
      | some d => (match jc_sg d.2 i with
        | some z => decide (z.1 = some T')
        | none => false)
      | none => false)
noncomputable def i_ok (E : jc_E) (a : Nat) (s : Nat × Nat × Nat) : Bool := match ja_n2 E.1 a with
  | some d => decide (d.1 = s)
  | none => false
theorem i_ok_ok {E : jc_E} {a : Nat} {s : Nat × Nat × Nat} (h : i_ok E a s = true) : ∃ d, ja_n2 E.1 a = some d ∧ d.1 = s := by
  unfold i_ok at h
  split at h
  · rename_i d hd
    exact ⟨d, hd, of_decide_eq_true h⟩
  · cases h
noncomputable def i_og (E : jc_E) (O : List (Nat × jc_v)) (a ci : Nat) (Ts : List (Option jc_ty)) : Bool := i_ok E a (0, ci, Ts.length) && i_al (fun i T => i_ogT E O a i T) Ts 0
theorem i_og_ok {E : jc_E} {X : J_H → Prop} {r : jc_R} {t : jc_T} {O : List (Nat × jc_v)} {Of : List Nat} {h : J_H} {a ci : Nat} {Ts : List (Option jc_ty)} (hg : jc_g E X r t (i_st O Of) h) (hq : i_og E O a ci Ts = true) : ∃ fs, h[a]? = some (.inl (ci, fs)) ∧ i_a2 Ts fs := by
  obtain ⟨q1, q2⟩ := Bool.and_eq_true_iff.mp hq
  obtain ⟨d, hd, e1⟩ := i_ok_ok q1
  obtain ⟨fs, f1, f2, f3⟩ := i_ob hg hd e1
  refine ⟨fs, f1, i_a2_of f2 fun i T hT => ?_⟩
  have hi : i < Ts.length := (List.getElem?_eq_some_iff.mp hT).1
  have hi2 : i < d.1.2.2 := by rw [e1]; exact hi
  have q3 : i_ogT E O a (0 + i) T = true := i_al_ok (p := fun i T => i_ogT E O a i T) q2 hT
  rw [Nat.zero_add] at q3
  cases T with
  | none => exact ⟨fs[i]'(by omega), List.getElem?_eq_getElem _, i_tv0⟩
  | some T' =>
    unfold i_ogT at q3
    dsimp only at q3
    split at q3
    · rename_i s hs
      split at q3
      · rename_i b
        obtain ⟨v, v1, v2⟩ := hg.atO hd hi2 hs
        refine ⟨v, by rw [← f3]; exact v1, ?_⟩
        rw [v2.ref, of_decide_eq_true q3]
        exact rfl
      · cases q3
    · rename_i hs
      rw [hd] at q3
      dsimp only at q3
      split at q3
      · rename_i z hz
        obtain ⟨v, v1, v2⟩ := hg.atT hd hi2 hs hz
        rw [of_decide_eq_true q3] at v2
        exact ⟨v, by rw [← f3]; exact v1, v2⟩
      · cases q3
theorem i_oi {E : jc_E} {X : J_H → Prop} {r : jc_R} {t : jc_T} {A : jc_A} {h : J_H} {a kd n : Nat} (hg : jc_g E X r t A h) (hq : i_ok E a (1, kd, n) = true) : ∃ l : List Int32, h[a]? = some (.inr (.inl (kd, l))) ∧ l.length = n := by
  obtain ⟨d, hd, e1⟩ := i_ok_ok hq
  exact i_ar hg hd e1
theorem i_ol {E : jc_E} {X : J_H → Prop} {r : jc_R} {t : jc_T} {A : jc_A} {h : J_H} {a n : Nat} (hg : jc_g E X r t A h) (hq : i_ok E a (2, 0, n) = true) : ∃ l : List Int64, h[a]? = some (.inr (.inr (.inl l))) ∧ l.length = n := by
  obtain ⟨d, hd, e1⟩ := i_ok_ok hq
  obtain ⟨c, c1, c2, -⟩ := hg.2.1 a d hd
  rw [e1] at c2
  rcases c with f | f | l | l
  · cases c2
  · cases c2
  · exact ⟨l, c1, congrArg (fun q => q.2.2) c2⟩
  · cases c2
theorem i_oo {E : jc_E} {X : J_H → Prop} {r : jc_R} {t : jc_T} {A : jc_A} {h : J_H} {a ci n : Nat} (hg : jc_g E X r t A h) (hq : i_ok E a (0, ci, n) = true) : ∃ fs : List Value, h[a]? = some (.inl (ci, fs)) ∧ fs.length = n := by
  obtain ⟨d, hd, e1⟩ := i_ok_ok hq
  obtain ⟨fs, f1, f2, -⟩ := i_ob hg hd e1
  exact ⟨fs, f1, f2⟩
theorem i_ati {h : J_H} {a i : Nat} {c : J_C} {x : Int32} {v : Value} (hc : h[a]? = some c) (hx : jc_get c i = some (.int x)) (hv : jc_at h a i = some v) : v = .int x := by
  rw [jc_at_of hc, hx] at hv
  exact (Option.some.inj hv).symm
theorem i_ldX {h : J_H} {l : List Int32} {a e : Nat} (hI : IC h) (h2 : h[2]? = some (.inr (.inl (1, l)))) (hl : l.length = 700) (hL : jc_at h 1 1 = some (.int (nI a))) (ha : e ≤ a) (ha7 : a ≤ 700) : ∃ (z : rK) (s : rSP) (t : rTP), (z.1 = 0 ∧ wS s ∧ wT t ∧ s.1 = 0 ∧ t.1 = 0) ∧ j_V jP 15 114 0 (lv_args 0 [.ref 0, .int (nI e)]) [] h (PXL (rdL l e (-1) (e + 1) z s t)) := by
  rcases hI with ⟨r, t, hg⟩ | ⟨r, t, hg⟩
  · obtain ⟨f0, c0, b0⟩ := i_og_ok (a := 0) (ci := 9) (Ts := [(some (.inr (some 1))), (some (.inr (some 3))), (some (.inr (some 4))), (some (.inr (some 29))), none, none, (some (.inr (some 327))), (some (.inr (some 343))), none]) hg (by decide +kernel)
    obtain ⟨f1, c1, b1⟩ := i_og_ok (a := 1) (ci := 8) (Ts := [(some (.inr (some 2))), (some (.inl (.ofNat 0, .ofNat 700))), (some (.inl (.ofNat 0, .ofNat 700))), (some (.inl (.ofNat 0, .ofNat 700))), (some (.inl (.ofNat 0, .ofNat 4))), (some (.inl (.ofNat 0, .ofNat 700))), (some (.inr none)), (some (.inl (.negSucc 2147483647, .ofNat 2147483647)))]) hg (by decide +kernel)
    obtain ⟨f3, c3, b3⟩ := i_og_ok (a := 3) (ci := 4) (Ts := [(some (.inr (some 1))), none, (some (.inl (.negSucc 0, .ofNat 5))), (some (.inl (.negSucc 2147483647, .ofNat 2147483647)))]) hg (by decide +kernel)
    obtain ⟨fy, cy, by9⟩ := i_og_ok (a := 343) (ci := 2) (Ts := [(some (.inl (.ofNat 0, .ofNat 7))), (some (.inr (some 344))), (some (.inr (some 345))), (some (.inr (some 346))), (some (.inr (some 347))), (some (.inl (.ofNat 0, .ofNat 5))), (some (.inr (some 348))), (some (.inr (some 349))), (some (.inr (some 350))), (some (.inr (some 351))), (some (.inr (some 352))), (some (.inr (some 353))), (some (.inr (some 354))), (some (.inl (.negSucc 2147483647, .ofNat 2147483647))), (some (.inr (some 355))), (some (.inr (some 356))), (some (.inr (some 357))), (some (.inr (some 358)))]) hg (by decide +kernel)
    obtain ⟨w9, f0_0, e9, t9, b0_0⟩ := i_a2_c b0; clear b0; subst e9; obtain rfl := i_tvr t9; clear t9
    obtain ⟨w9, f0_1, e9, t9, b0_1⟩ := i_a2_c b0_0; clear b0_0; subst e9; obtain rfl := i_tvr t9; clear t9
    obtain ⟨w9, f0_2, e9, t9, b0_2⟩ := i_a2_c b0_1; clear b0_1; subst e9; obtain rfl := i_tvr t9; clear t9
    obtain ⟨w9, f0_3, e9, t9, b0_3⟩ := i_a2_c b0_2; clear b0_2; subst e9; obtain rfl := i_tvr t9; clear t9
    obtain ⟨p4, f0_4, e9, t9, b0_4⟩ := i_a2_c b0_3; clear b0_3; subst e9; clear t9
    obtain ⟨p5, f0_5, e9, t9, b0_5⟩ := i_a2_c b0_4; clear b0_4; subst e9; clear t9
    obtain ⟨w9, f0_6, e9, t9, b0_6⟩ := i_a2_c b0_5; clear b0_5; subst e9; obtain rfl := i_tvr t9; clear t9
    obtain ⟨w9, f0_7, e9, t9, b0_7⟩ := i_a2_c b0_6; clear b0_6; subst e9; obtain rfl := i_tvr t9; clear t9
    obtain ⟨p8, f0_8, e9, t9, b0_8⟩ := i_a2_c b0_7; clear b0_7; subst e9; clear t9
    obtain rfl := i_a2_n b0_8; clear b0_8
    obtain ⟨w9, f1_0, e9, t9, b1_0⟩ := i_a2_c b1; clear b1; subst e9; obtain rfl := i_tvr t9; clear t9
    obtain ⟨w9, f1_1, e9, t9, b1_1⟩ := i_a2_c b1_0; clear b1_0; subst e9; obtain ⟨q1, rfl, -⟩ := i_tvi t9; clear t9
    obtain ⟨w9, f1_2, e9, t9, b1_2⟩ := i_a2_c b1_1; clear b1_1; subst e9; obtain ⟨q2, rfl, -⟩ := i_tvi t9; clear t9
    obtain ⟨w9, f1_3, e9, t9, b1_3⟩ := i_a2_c b1_2; clear b1_2; subst e9; obtain ⟨q3, rfl, -⟩ := i_tvi t9; clear t9
    obtain ⟨w9, f1_4, e9, t9, b1_4⟩ := i_a2_c b1_3; clear b1_3; subst e9; obtain ⟨q4, rfl, -⟩ := i_tvi t9; clear t9
    obtain ⟨w9, f1_5, e9, t9, b1_5⟩ := i_a2_c b1_4; clear b1_4; subst e9; obtain ⟨q5, rfl, -⟩ := i_tvi t9; clear t9
    obtain ⟨w9, f1_6, e9, t9, b1_6⟩ := i_a2_c b1_5; clear b1_5; subst e9; obtain ⟨q6, rfl⟩ := i_tvl t9; clear t9
    obtain ⟨w9, f1_7, e9, t9, b1_7⟩ := i_a2_c b1_6; clear b1_6; subst e9; obtain ⟨q7, rfl, -⟩ := i_tvi t9; clear t9
    obtain rfl := i_a2_n b1_7; clear b1_7
    obtain ⟨w9, f3_0, e9, t9, b3_0⟩ := i_a2_c b3; clear b3; subst e9; obtain rfl := i_tvr t9; clear t9
    obtain ⟨x1, f3_1, e9, t9, b3_1⟩ := i_a2_c b3_0; clear b3_0; subst e9; clear t9
    obtain ⟨w9, f3_2, e9, t9, b3_2⟩ := i_a2_c b3_1; clear b3_1; subst e9; obtain ⟨x2, rfl, -⟩ := i_tvi t9; clear t9
    obtain ⟨w9, f3_3, e9, t9, b3_3⟩ := i_a2_c b3_2; clear b3_2; subst e9; obtain ⟨x3, rfl, -⟩ := i_tvi t9; clear t9
    obtain rfl := i_a2_n b3_3; clear b3_3
    obtain ⟨w9, fy_0, e9, t9, by9_0⟩ := i_a2_c by9; clear by9; subst e9; obtain ⟨y0, rfl, -⟩ := i_tvi t9; clear t9
    obtain ⟨w9, fy_1, e9, t9, by9_1⟩ := i_a2_c by9_0; clear by9_0; subst e9; obtain rfl := i_tvr t9; clear t9
    obtain ⟨w9, fy_2, e9, t9, by9_2⟩ := i_a2_c by9_1; clear by9_1; subst e9; obtain rfl := i_tvr t9; clear t9
    obtain ⟨w9, fy_3, e9, t9, by9_3⟩ := i_a2_c by9_2; clear by9_2; subst e9; obtain rfl := i_tvr t9; clear t9
    obtain ⟨w9, fy_4, e9, t9, by9_4⟩ := i_a2_c by9_3; clear by9_3; subst e9; obtain rfl := i_tvr t9; clear t9
    obtain ⟨w9, fy_5, e9, t9, by9_5⟩ := i_a2_c by9_4; clear by9_4; subst e9; obtain ⟨y5, rfl, -⟩ := i_tvi t9; clear t9
    obtain ⟨w9, fy_6, e9, t9, by9_6⟩ := i_a2_c by9_5; clear by9_5; subst e9; obtain rfl := i_tvr t9; clear t9
    obtain ⟨w9, fy_7, e9, t9, by9_7⟩ := i_a2_c by9_6; clear by9_6; subst e9; obtain rfl := i_tvr t9; clear t9
    obtain ⟨w9, fy_8, e9, t9, by9_8⟩ := i_a2_c by9_7; clear by9_7; subst e9; obtain rfl := i_tvr t9; clear t9
    obtain ⟨w9, fy_9, e9, t9, by9_9⟩ := i_a2_c by9_8; clear by9_8; subst e9; obtain rfl := i_tvr t9; clear t9
    obtain ⟨w9, fy_10, e9, t9, by9_10⟩ := i_a2_c by9_9; clear by9_9; subst e9; obtain rfl := i_tvr t9; clear t9
    obtain ⟨w9, fy_11, e9, t9, by9_11⟩ := i_a2_c by9_10; clear by9_10; subst e9; obtain rfl := i_tvr t9; clear t9
    obtain ⟨w9, fy_12, e9, t9, by9_12⟩ := i_a2_c by9_11; clear by9_11; subst e9; obtain rfl := i_tvr t9; clear t9
    obtain ⟨w9, fy_13, e9, t9, by9_13⟩ := i_a2_c by9_12; clear by9_12; subst e9; obtain ⟨y13, rfl, -⟩ := i_tvi t9; clear t9
    obtain ⟨w9, fy_14, e9, t9, by9_14⟩ := i_a2_c by9_13; clear by9_13; subst e9; obtain rfl := i_tvr t9; clear t9
    obtain ⟨w9, fy_15, e9, t9, by9_15⟩ := i_a2_c by9_14; clear by9_14; subst e9; obtain rfl := i_tvr t9; clear t9
    obtain ⟨w9, fy_16, e9, t9, by9_16⟩ := i_a2_c by9_15; clear by9_15; subst e9; obtain rfl := i_tvr t9; clear t9
    obtain ⟨w9, fy_17, e9, t9, by9_17⟩ := i_a2_c by9_16; clear by9_16; subst e9; obtain rfl := i_tvr t9; clear t9
    obtain rfl := i_a2_n by9_17; clear by9_17
    obtain ⟨l1, d1, m1⟩ := i_ol (a := 344) (n := 7) hg (by decide +kernel)
    obtain ⟨l2, d2, m2⟩ := i_oi (a := 345) (kd := 0) (n := 7) hg (by decide +kernel)
    obtain ⟨l3, d3, m3⟩ := i_oi (a := 346) (kd := 0) (n := 7) hg (by decide +kernel)
    obtain ⟨l4, d4, m4⟩ := i_oi (a := 347) (kd := 0) (n := 21) hg (by decide +kernel)
    obtain ⟨l5, d5, m5⟩ := i_ol (a := 348) (n := 5) hg (by decide +kernel)
    obtain ⟨l6, d6, m6⟩ := i_oi (a := 349) (kd := 0) (n := 5) hg (by decide +kernel)
    obtain ⟨l7, d7, m7⟩ := i_oi (a := 350) (kd := 0) (n := 5) hg (by decide +kernel)
    obtain ⟨l8, d8, m8⟩ := i_oi (a := 351) (kd := 0) (n := 5) hg (by decide +kernel)
    obtain ⟨l9, d9, m9⟩ := i_oi (a := 352) (kd := 0) (n := 5) hg (by decide +kernel)
    obtain ⟨l10, d10, m10⟩ := i_oi (a := 353) (kd := 0) (n := 5) hg (by decide +kernel)
    obtain ⟨l11, d11, m11⟩ := i_oi (a := 354) (kd := 0) (n := 5) hg (by decide +kernel)
    obtain ⟨f4, c4, -⟩ := i_oo (a := 4) (ci := 7) (n := 19) hg (by decide +kernel)
    obtain ⟨f29, c29, -⟩ := i_oo (a := 29) (ci := 0) (n := 3) hg (by decide +kernel)
    have e1 := i_ati c1 rfl hL
    cases e1
    refine ⟨(0, q4, q5, q6, q7), (0, l1, l2, l3, l4), (0, l5, l6, l7, l8, l9, l10, l11), ⟨rfl, ⟨Nat.zero_le _, m1, m2, m3, m4⟩, ⟨Nat.zero_le _, m5, m6, m7, m8, m9, m10, m11⟩, rfl, rfl⟩, ?_⟩
    exact xl_okB (d := 9) (u := fun j => [(.ref 1), (.ref 3), (.ref 4), (.ref 29), p4, p5, (.ref 327), (.ref 343), p8].getD j .null) hl ha ha7 (s := (0, l1, l2, l3, l4)) (t := (0, l5, l6, l7, l8, l9, l10, l11)) ⟨Nat.zero_le _, m1, m2, m3, m4⟩ ⟨Nat.zero_le _, m5, m6, m7, m8, m9, m10, m11⟩ rfl rfl (KN.all ⟨c0, c1, h2, c3, cy, d1, d2, d3, d4, d5, d6, d7, d8, d9, d10, d11, c4, c29, trivial⟩)
  · obtain ⟨f0, c0, b0⟩ := i_og_ok (a := 0) (ci := 9) (Ts := [(some (.inr (some 1))), (some (.inr (some 3))), (some (.inr (some 4))), (some (.inr (some 29))), none, none, (some (.inr (some 343))), (some (.inr (some 327))), none]) hg (by decide +kernel)
    obtain ⟨f1, c1, b1⟩ := i_og_ok (a := 1) (ci := 8) (Ts := [(some (.inr (some 2))), (some (.inl (.ofNat 0, .ofNat 700))), (some (.inl (.ofNat 0, .ofNat 700))), (some (.inl (.ofNat 0, .ofNat 700))), (some (.inl (.ofNat 0, .ofNat 4))), (some (.inl (.ofNat 0, .ofNat 700))), (some (.inr none)), (some (.inl (.negSucc 2147483647, .ofNat 2147483647)))]) hg (by decide +kernel)
    obtain ⟨f3, c3, b3⟩ := i_og_ok (a := 3) (ci := 4) (Ts := [(some (.inr (some 1))), none, (some (.inl (.negSucc 0, .ofNat 5))), (some (.inl (.negSucc 2147483647, .ofNat 2147483647)))]) hg (by decide +kernel)
    obtain ⟨fy, cy, by9⟩ := i_og_ok (a := 327) (ci := 2) (Ts := [(some (.inl (.ofNat 0, .ofNat 7))), (some (.inr (some 328))), (some (.inr (some 329))), (some (.inr (some 330))), (some (.inr (some 331))), (some (.inl (.ofNat 0, .ofNat 5))), (some (.inr (some 332))), (some (.inr (some 333))), (some (.inr (some 334))), (some (.inr (some 335))), (some (.inr (some 336))), (some (.inr (some 337))), (some (.inr (some 338))), (some (.inl (.negSucc 2147483647, .ofNat 2147483647))), (some (.inr (some 339))), (some (.inr (some 340))), (some (.inr (some 341))), (some (.inr (some 342)))]) hg (by decide +kernel)
    obtain ⟨w9, f0_0, e9, t9, b0_0⟩ := i_a2_c b0; clear b0; subst e9; obtain rfl := i_tvr t9; clear t9
    obtain ⟨w9, f0_1, e9, t9, b0_1⟩ := i_a2_c b0_0; clear b0_0; subst e9; obtain rfl := i_tvr t9; clear t9
    obtain ⟨w9, f0_2, e9, t9, b0_2⟩ := i_a2_c b0_1; clear b0_1; subst e9; obtain rfl := i_tvr t9; clear t9
    obtain ⟨w9, f0_3, e9, t9, b0_3⟩ := i_a2_c b0_2; clear b0_2; subst e9; obtain rfl := i_tvr t9; clear t9
    obtain ⟨p4, f0_4, e9, t9, b0_4⟩ := i_a2_c b0_3; clear b0_3; subst e9; clear t9
    obtain ⟨p5, f0_5, e9, t9, b0_5⟩ := i_a2_c b0_4; clear b0_4; subst e9; clear t9
    obtain ⟨w9, f0_6, e9, t9, b0_6⟩ := i_a2_c b0_5; clear b0_5; subst e9; obtain rfl := i_tvr t9; clear t9
    obtain ⟨w9, f0_7, e9, t9, b0_7⟩ := i_a2_c b0_6; clear b0_6; subst e9; obtain rfl := i_tvr t9; clear t9
    obtain ⟨p8, f0_8, e9, t9, b0_8⟩ := i_a2_c b0_7; clear b0_7; subst e9; clear t9
    obtain rfl := i_a2_n b0_8; clear b0_8
    obtain ⟨w9, f1_0, e9, t9, b1_0⟩ := i_a2_c b1; clear b1; subst e9; obtain rfl := i_tvr t9; clear t9
    obtain ⟨w9, f1_1, e9, t9, b1_1⟩ := i_a2_c b1_0; clear b1_0; subst e9; obtain ⟨q1, rfl, -⟩ := i_tvi t9; clear t9
    obtain ⟨w9, f1_2, e9, t9, b1_2⟩ := i_a2_c b1_1; clear b1_1; subst e9; obtain ⟨q2, rfl, -⟩ := i_tvi t9; clear t9
    obtain ⟨w9, f1_3, e9, t9, b1_3⟩ := i_a2_c b1_2; clear b1_2; subst e9; obtain ⟨q3, rfl, -⟩ := i_tvi t9; clear t9
    obtain ⟨w9, f1_4, e9, t9, b1_4⟩ := i_a2_c b1_3; clear b1_3; subst e9; obtain ⟨q4, rfl, -⟩ := i_tvi t9; clear t9
    obtain ⟨w9, f1_5, e9, t9, b1_5⟩ := i_a2_c b1_4; clear b1_4; subst e9; obtain ⟨q5, rfl, -⟩ := i_tvi t9; clear t9
    obtain ⟨w9, f1_6, e9, t9, b1_6⟩ := i_a2_c b1_5; clear b1_5; subst e9; obtain ⟨q6, rfl⟩ := i_tvl t9; clear t9
    obtain ⟨w9, f1_7, e9, t9, b1_7⟩ := i_a2_c b1_6; clear b1_6; subst e9; obtain ⟨q7, rfl, -⟩ := i_tvi t9; clear t9
    obtain rfl := i_a2_n b1_7; clear b1_7
    obtain ⟨w9, f3_0, e9, t9, b3_0⟩ := i_a2_c b3; clear b3; subst e9; obtain rfl := i_tvr t9; clear t9
    obtain ⟨x1, f3_1, e9, t9, b3_1⟩ := i_a2_c b3_0; clear b3_0; subst e9; clear t9
    obtain ⟨w9, f3_2, e9, t9, b3_2⟩ := i_a2_c b3_1; clear b3_1; subst e9; obtain ⟨x2, rfl, -⟩ := i_tvi t9; clear t9
    obtain ⟨w9, f3_3, e9, t9, b3_3⟩ := i_a2_c b3_2; clear b3_2; subst e9; obtain ⟨x3, rfl, -⟩ := i_tvi t9; clear t9
    obtain rfl := i_a2_n b3_3; clear b3_3
    obtain ⟨w9, fy_0, e9, t9, by9_0⟩ := i_a2_c by9; clear by9; subst e9; obtain ⟨y0, rfl, -⟩ := i_tvi t9; clear t9
    obtain ⟨w9, fy_1, e9, t9, by9_1⟩ := i_a2_c by9_0; clear by9_0; subst e9; obtain rfl := i_tvr t9; clear t9
    obtain ⟨w9, fy_2, e9, t9, by9_2⟩ := i_a2_c by9_1; clear by9_1; subst e9; obtain rfl := i_tvr t9; clear t9
    obtain ⟨w9, fy_3, e9, t9, by9_3⟩ := i_a2_c by9_2; clear by9_2; subst e9; obtain rfl := i_tvr t9; clear t9
    obtain ⟨w9, fy_4, e9, t9, by9_4⟩ := i_a2_c by9_3; clear by9_3; subst e9; obtain rfl := i_tvr t9; clear t9
    obtain ⟨w9, fy_5, e9, t9, by9_5⟩ := i_a2_c by9_4; clear by9_4; subst e9; obtain ⟨y5, rfl, -⟩ := i_tvi t9; clear t9
    obtain ⟨w9, fy_6, e9, t9, by9_6⟩ := i_a2_c by9_5; clear by9_5; subst e9; obtain rfl := i_tvr t9; clear t9
    obtain ⟨w9, fy_7, e9, t9, by9_7⟩ := i_a2_c by9_6; clear by9_6; subst e9; obtain rfl := i_tvr t9; clear t9
    obtain ⟨w9, fy_8, e9, t9, by9_8⟩ := i_a2_c by9_7; clear by9_7; subst e9; obtain rfl := i_tvr t9; clear t9
    obtain ⟨w9, fy_9, e9, t9, by9_9⟩ := i_a2_c by9_8; clear by9_8; subst e9; obtain rfl := i_tvr t9; clear t9
    obtain ⟨w9, fy_10, e9, t9, by9_10⟩ := i_a2_c by9_9; clear by9_9; subst e9; obtain rfl := i_tvr t9; clear t9
    obtain ⟨w9, fy_11, e9, t9, by9_11⟩ := i_a2_c by9_10; clear by9_10; subst e9; obtain rfl := i_tvr t9; clear t9
    obtain ⟨w9, fy_12, e9, t9, by9_12⟩ := i_a2_c by9_11; clear by9_11; subst e9; obtain rfl := i_tvr t9; clear t9
    obtain ⟨w9, fy_13, e9, t9, by9_13⟩ := i_a2_c by9_12; clear by9_12; subst e9; obtain ⟨y13, rfl, -⟩ := i_tvi t9; clear t9
    obtain ⟨w9, fy_14, e9, t9, by9_14⟩ := i_a2_c by9_13; clear by9_13; subst e9; obtain rfl := i_tvr t9; clear t9
    obtain ⟨w9, fy_15, e9, t9, by9_15⟩ := i_a2_c by9_14; clear by9_14; subst e9; obtain rfl := i_tvr t9; clear t9
    obtain ⟨w9, fy_16, e9, t9, by9_16⟩ := i_a2_c by9_15; clear by9_15; subst e9; obtain rfl := i_tvr t9; clear t9
    obtain ⟨w9, fy_17, e9, t9, by9_17⟩ := i_a2_c by9_16; clear by9_16; subst e9; obtain rfl := i_tvr t9; clear t9
    obtain rfl := i_a2_n by9_17; clear by9_17
    obtain ⟨l1, d1, m1⟩ := i_ol (a := 328) (n := 7) hg (by decide +kernel)
    obtain ⟨l2, d2, m2⟩ := i_oi (a := 329) (kd := 0) (n := 7) hg (by decide +kernel)
    obtain ⟨l3, d3, m3⟩ := i_oi (a := 330) (kd := 0) (n := 7) hg (by decide +kernel)
    obtain ⟨l4, d4, m4⟩ := i_oi (a := 331) (kd := 0) (n := 21) hg (by decide +kernel)
    obtain ⟨l5, d5, m5⟩ := i_ol (a := 332) (n := 5) hg (by decide +kernel)
    obtain ⟨l6, d6, m6⟩ := i_oi (a := 333) (kd := 0) (n := 5) hg (by decide +kernel)
    obtain ⟨l7, d7, m7⟩ := i_oi (a := 334) (kd := 0) (n := 5) hg (by decide +kernel)
    obtain ⟨l8, d8, m8⟩ := i_oi (a := 335) (kd := 0) (n := 5) hg (by decide +kernel)
    obtain ⟨l9, d9, m9⟩ := i_oi (a := 336) (kd := 0) (n := 5) hg (by decide +kernel)
    obtain ⟨l10, d10, m10⟩ := i_oi (a := 337) (kd := 0) (n := 5) hg (by decide +kernel)
    obtain ⟨l11, d11, m11⟩ := i_oi (a := 338) (kd := 0) (n := 5) hg (by decide +kernel)
    obtain ⟨f4, c4, -⟩ := i_oo (a := 4) (ci := 7) (n := 19) hg (by decide +kernel)
    obtain ⟨f29, c29, -⟩ := i_oo (a := 29) (ci := 0) (n := 3) hg (by decide +kernel)
    have e1 := i_ati c1 rfl hL
    cases e1
    refine ⟨(0, q4, q5, q6, q7), (0, l1, l2, l3, l4), (0, l5, l6, l7, l8, l9, l10, l11), ⟨rfl, ⟨Nat.zero_le _, m1, m2, m3, m4⟩, ⟨Nat.zero_le _, m5, m6, m7, m8, m9, m10, m11⟩, rfl, rfl⟩, ?_⟩
    exact xl_okA (d := 9) (u := fun j => [(.ref 1), (.ref 3), (.ref 4), (.ref 29), p4, p5, (.ref 343), (.ref 327), p8].getD j .null) hl ha ha7 (s := (0, l1, l2, l3, l4)) (t := (0, l5, l6, l7, l8, l9, l10, l11)) ⟨Nat.zero_le _, m1, m2, m3, m4⟩ ⟨Nat.zero_le _, m5, m6, m7, m8, m9, m10, m11⟩ rfl rfl (KN.all ⟨c0, c1, h2, c3, cy, d1, d2, d3, d4, d5, d6, d7, d8, d9, d10, d11, c4, c29, trivial⟩)
theorem i_knM {h : J_H} {a : Nat} (hI : IM h) (hL : jc_at h 359 9 = some (.int (nI a))) : ∃ fs : List Value, h[359]? = some (.inl (10, fs)) ∧ ∃ u : Nat → Value, ∃ u15 u16 u17 u18 u19 u20 : Int32, ∃ u21 : Int64, ∃ w10 w11 w12 : Int32, (u 10 = .int w10 ∧ u 11 = .int w11 ∧ u 12 = .int w12) ∧ fs = [u 0, .ref 360, .ref 361, u 3, u 4, u 5, .ref 365, .ref 366, .ref 367, .int (nI a), u 10, u 11, u 12, u 13, u 14, .int u15, .int u16, .int u17, .int u18, .int u19, .int u20, .long u21, u 22, u 23, u 24, u 25, u 26, u 27] := by
  obtain ⟨r, t, hg⟩ := hI
  obtain ⟨f0, c0, b0⟩ := i_og_ok (a := 359) (ci := 10) (Ts := [(some (.inl (.negSucc 2147483647, .ofNat 2147483647))), (some (.inr (some 360))), (some (.inr (some 361))), (some (.inr (some 362))), (some (.inr (some 363))), (some (.inr (some 364))), (some (.inr (some 365))), (some (.inr (some 366))), (some (.inr (some 367))), (some (.inl (.ofNat 0, .ofNat 700))), (some (.inl (.negSucc 2147483647, .ofNat 2147483647))), (some (.inl (.negSucc 2147483647, .ofNat 2147483647))), (some (.inl (.negSucc 2147483647, .ofNat 2147483647))), (some (.inl (.ofNat 0, .ofNat 10))), (some (.inl (.ofNat 0, .ofNat 700))), (some (.inl (.ofNat 0, .ofNat 700))), (some (.inl (.ofNat 0, .ofNat 700))), (some (.inl (.ofNat 0, .ofNat 4))), (some (.inl (.negSucc 2147483647, .ofNat 2147483647))), (some (.inl (.negSucc 2147483647, .ofNat 2147483647))), (some (.inl (.negSucc 2147483647, .ofNat 2147483647))), (some (.inr none)), none, none, none, none, none, none]) hg (by decide +kernel)
  obtain ⟨w9, f0_0, e9, t9, b0_0⟩ := i_a2_c b0; clear b0; subst e9; obtain ⟨p0, rfl, -⟩ := i_tvi t9; clear t9
  obtain ⟨w9, f0_1, e9, t9, b0_1⟩ := i_a2_c b0_0; clear b0_0; subst e9; obtain rfl := i_tvr t9; clear t9
  obtain ⟨w9, f0_2, e9, t9, b0_2⟩ := i_a2_c b0_1; clear b0_1; subst e9; obtain rfl := i_tvr t9; clear t9
  obtain ⟨w9, f0_3, e9, t9, b0_3⟩ := i_a2_c b0_2; clear b0_2; subst e9; obtain rfl := i_tvr t9; clear t9
  obtain ⟨w9, f0_4, e9, t9, b0_4⟩ := i_a2_c b0_3; clear b0_3; subst e9; obtain rfl := i_tvr t9; clear t9
  obtain ⟨w9, f0_5, e9, t9, b0_5⟩ := i_a2_c b0_4; clear b0_4; subst e9; obtain rfl := i_tvr t9; clear t9
  obtain ⟨w9, f0_6, e9, t9, b0_6⟩ := i_a2_c b0_5; clear b0_5; subst e9; obtain rfl := i_tvr t9; clear t9
  obtain ⟨w9, f0_7, e9, t9, b0_7⟩ := i_a2_c b0_6; clear b0_6; subst e9; obtain rfl := i_tvr t9; clear t9
  obtain ⟨w9, f0_8, e9, t9, b0_8⟩ := i_a2_c b0_7; clear b0_7; subst e9; obtain rfl := i_tvr t9; clear t9
  obtain ⟨w9, f0_9, e9, t9, b0_9⟩ := i_a2_c b0_8; clear b0_8; subst e9; obtain ⟨p9, rfl, -⟩ := i_tvi t9; clear t9
  obtain ⟨w9, f0_10, e9, t9, b0_10⟩ := i_a2_c b0_9; clear b0_9; subst e9; obtain ⟨p10, rfl, -⟩ := i_tvi t9; clear t9
  obtain ⟨w9, f0_11, e9, t9, b0_11⟩ := i_a2_c b0_10; clear b0_10; subst e9; obtain ⟨p11, rfl, -⟩ := i_tvi t9; clear t9
  obtain ⟨w9, f0_12, e9, t9, b0_12⟩ := i_a2_c b0_11; clear b0_11; subst e9; obtain ⟨p12, rfl, -⟩ := i_tvi t9; clear t9
  obtain ⟨w9, f0_13, e9, t9, b0_13⟩ := i_a2_c b0_12; clear b0_12; subst e9; obtain ⟨p13, rfl, -⟩ := i_tvi t9; clear t9
  obtain ⟨w9, f0_14, e9, t9, b0_14⟩ := i_a2_c b0_13; clear b0_13; subst e9; obtain ⟨p14, rfl, -⟩ := i_tvi t9; clear t9
  obtain ⟨w9, f0_15, e9, t9, b0_15⟩ := i_a2_c b0_14; clear b0_14; subst e9; obtain ⟨p15, rfl, -⟩ := i_tvi t9; clear t9
  obtain ⟨w9, f0_16, e9, t9, b0_16⟩ := i_a2_c b0_15; clear b0_15; subst e9; obtain ⟨p16, rfl, -⟩ := i_tvi t9; clear t9
  obtain ⟨w9, f0_17, e9, t9, b0_17⟩ := i_a2_c b0_16; clear b0_16; subst e9; obtain ⟨p17, rfl, -⟩ := i_tvi t9; clear t9
  obtain ⟨w9, f0_18, e9, t9, b0_18⟩ := i_a2_c b0_17; clear b0_17; subst e9; obtain ⟨p18, rfl, -⟩ := i_tvi t9; clear t9
  obtain ⟨w9, f0_19, e9, t9, b0_19⟩ := i_a2_c b0_18; clear b0_18; subst e9; obtain ⟨p19, rfl, -⟩ := i_tvi t9; clear t9
  obtain ⟨w9, f0_20, e9, t9, b0_20⟩ := i_a2_c b0_19; clear b0_19; subst e9; obtain ⟨p20, rfl, -⟩ := i_tvi t9; clear t9
  obtain ⟨w9, f0_21, e9, t9, b0_21⟩ := i_a2_c b0_20; clear b0_20; subst e9; obtain ⟨p21, rfl⟩ := i_tvl t9; clear t9
  obtain ⟨p22, f0_22, e9, t9, b0_22⟩ := i_a2_c b0_21; clear b0_21; subst e9; clear t9
  obtain ⟨p23, f0_23, e9, t9, b0_23⟩ := i_a2_c b0_22; clear b0_22; subst e9; clear t9
  obtain ⟨p24, f0_24, e9, t9, b0_24⟩ := i_a2_c b0_23; clear b0_23; subst e9; clear t9
  obtain ⟨p25, f0_25, e9, t9, b0_25⟩ := i_a2_c b0_24; clear b0_24; subst e9; clear t9
  obtain ⟨p26, f0_26, e9, t9, b0_26⟩ := i_a2_c b0_25; clear b0_25; subst e9; clear t9
  obtain ⟨p27, f0_27, e9, t9, b0_27⟩ := i_a2_c b0_26; clear b0_26; subst e9; clear t9
  obtain rfl := i_a2_n b0_27; clear b0_27
  have e1 := i_ati c0 rfl hL
  cases e1
  exact ⟨_, c0, fun j => [(.int p0), (.ref 360), (.ref 361), (.ref 362), (.ref 363), (.ref 364), (.ref 365), (.ref 366), (.ref 367), (.int (nI a)), (.int p10), (.int p11), (.int p12), (.int p13), (.int p14), (.int p15), (.int p16), (.int p17), (.int p18), (.int p19), (.int p20), (.long p21), p22, p23, p24, p25, p26, p27].getD j .null, p15, p16, p17, p18, p19, p20, p21, p10, p11, p12, ⟨rfl, rfl, rfl⟩, rfl⟩
theorem i_ldM {h : J_H} {l m : List Int32} {a e : Nat} (hI : IM h) (h365 : h[365]? = some (.inr (.inl (0, m)))) (hm : m.length = 700) (hL : jc_at h 359 9 = some (.int (nI a))) (ha : e ≤ a) (ha7 : a ≤ 700) (hb : ∀ k, k < e → 0 ≤ (m.getD k 0).toInt) (hR : bR l m e) {z : rK} {s : rSP} {t : rTP} (hz : z.1 = 0 ∧ wS s ∧ wT t ∧ s.1 = 0 ∧ t.1 = 0) : j_W jP 15 200 0 (lv_args 0 [.ref 359, .int (nI e)]) [] h (PL h (rdL l e (-1) (e + 1) z s t)) := by
  obtain ⟨fs, c0, u, u15, u16, u17, u18, u19, u20, u21, -, -, -, -, rfl⟩ := i_knM hI hL
  obtain ⟨r, t9, hg⟩ := hI
  obtain ⟨nw, d0, m0⟩ := i_oi (a := 360) (kd := 0) (n := 602) hg (by decide +kernel)
  obtain ⟨rd, d1, m1⟩ := i_oi (a := 361) (kd := 0) (n := 602) hg (by decide +kernel)
  obtain ⟨nm, d6, m6⟩ := i_ol (a := 366) (n := 12) hg (by decide +kernel)
  obtain ⟨rn, d7, m7⟩ := i_ol (a := 367) (n := 12) hg (by decide +kernel)
  exact mq_ok (d := 8) (u := u) hm (by omega) hb hR m1 m7 m0 m6 ha ha7 hz.1 hz.2.1 hz.2.2.1 hz.2.2.2.1 hz.2.2.2.2 (KN.all ⟨c0, d1, h365, d7, d0, d6, trivial⟩)

/-! load: written by wip/py/gen_zr.py -/
/-- what the class's load leaves -/
def la_LX (L L' n0 S0 : Nat) (w1 : List Int32) (e9 : Int32) (h : J_H) (C : rY) (rv : Option Value) (h' : J_H) : Prop :=
  (jc_at h' 3 2 = some (.int C.1.1) ∧ jc_at h' 3 3 = some (.int C.1.2)) ∧ ((C.1.1 = 0 ∧ rv = some (.int (nI C.2.2.2.1)) ∧ (∀ rd : List Int32, rd.length = 602 → gN rd 202 = nI C.2.2.1.1 → gN rd 203 = nI C.2.2.2.1 → dR rd C.2.2.1 C.2.2.2 → wS C.2.2.1 → w9T C.2.2.2 → hX L' L C.2.2.2.1 C.2.2.1.1 (ldW C.2.2.2.1 rd) 0 h') ∧ h'[29]? = some (.inl (0, [.ref 30, .int e9, .int 0])) ∧ ∀ x, 29 < x → (x < 327 ∨ 359 ≤ x) → h'[x]? = h[x]?) ∨ (C.1.1 ≠ 0 ∧ rv = some (.int (-1)) ∧ hX L L' n0 S0 w1 9 h' ∧ ∀ x, 29 ≤ x → (x < 327 ∨ 359 ≤ x) → h'[x]? = h[x]?))
theorem la_lXA {h : J_H} {l w1 : List Int32} {a e n0 S0 : Nat} {sst e9 a9 : Int32} (hI : IA h) (R : hX 327 343 n0 S0 w1 sst h) (C29 : h[29]? = some (.inl (0, [.ref 30, .int e9, .int a9]))) (h2 : h[2]? = some (.inr (.inl (1, l)))) (hl : l.length = 700) (hL : jc_at h 1 1 = some (.int (nI a))) (ha : e ≤ a) (ha7 : a ≤ 700) : ∃ (z : rK) (s : rSP) (t : rTP), (z.1 = 0 ∧ wS s ∧ w9T t ∧ s.1 = 0 ∧ t.1 = 0) ∧ j_V jP 15 114 0 (lv_args 0 [.ref 0, .int (nI e)]) [] h (la_LX 327 343 n0 S0 w1 e9 h (rdL l e (-1) (e + 1) z s t)) := by
  obtain ⟨r, t, hg⟩ := hI
  obtain ⟨f1, c1, b1⟩ := i_og_ok (a := 1) (ci := 8) (Ts := [(some (.inr (some 2))), (some (.inl (.ofNat 0, .ofNat 700))), (some (.inl (.ofNat 0, .ofNat 700))), (some (.inl (.ofNat 0, .ofNat 700))), (some (.inl (.ofNat 0, .ofNat 4))), (some (.inl (.ofNat 0, .ofNat 700))), (some (.inr none)), (some (.inl (.negSucc 2147483647, .ofNat 2147483647)))]) hg (by decide +kernel)
  obtain ⟨f3, c3, b3⟩ := i_og_ok (a := 3) (ci := 4) (Ts := [(some (.inr (some 1))), none, (some (.inl (.negSucc 0, .ofNat 5))), (some (.inl (.negSucc 2147483647, .ofNat 2147483647)))]) hg (by decide +kernel)
  obtain ⟨fy, cy, by9⟩ := i_og_ok (a := 343) (ci := 2) (Ts := [(some (.inl (.ofNat 0, .ofNat 7))), (some (.inr (some 344))), (some (.inr (some 345))), (some (.inr (some 346))), (some (.inr (some 347))), (some (.inl (.ofNat 0, .ofNat 5))), (some (.inr (some 348))), (some (.inr (some 349))), (some (.inr (some 350))), (some (.inr (some 351))), (some (.inr (some 352))), (some (.inr (some 353))), (some (.inr (some 354))), (some (.inl (.negSucc 2147483647, .ofNat 2147483647))), (some (.inr (some 355))), (some (.inr (some 356))), (some (.inr (some 357))), (some (.inr (some 358)))]) hg (by decide +kernel)
  obtain ⟨w9, f1_0, e9, t9, b1_0⟩ := i_a2_c b1; clear b1; subst e9; obtain rfl := i_tvr t9; clear t9
  obtain ⟨w9, f1_1, e9, t9, b1_1⟩ := i_a2_c b1_0; clear b1_0; subst e9; obtain ⟨q1, rfl, -⟩ := i_tvi t9; clear t9
  obtain ⟨w9, f1_2, e9, t9, b1_2⟩ := i_a2_c b1_1; clear b1_1; subst e9; obtain ⟨q2, rfl, -⟩ := i_tvi t9; clear t9
  obtain ⟨w9, f1_3, e9, t9, b1_3⟩ := i_a2_c b1_2; clear b1_2; subst e9; obtain ⟨q3, rfl, -⟩ := i_tvi t9; clear t9
  obtain ⟨w9, f1_4, e9, t9, b1_4⟩ := i_a2_c b1_3; clear b1_3; subst e9; obtain ⟨q4, rfl, -⟩ := i_tvi t9; clear t9
  obtain ⟨w9, f1_5, e9, t9, b1_5⟩ := i_a2_c b1_4; clear b1_4; subst e9; obtain ⟨q5, rfl, -⟩ := i_tvi t9; clear t9
  obtain ⟨w9, f1_6, e9, t9, b1_6⟩ := i_a2_c b1_5; clear b1_5; subst e9; obtain ⟨q6, rfl⟩ := i_tvl t9; clear t9
  obtain ⟨w9, f1_7, e9, t9, b1_7⟩ := i_a2_c b1_6; clear b1_6; subst e9; obtain ⟨q7, rfl, -⟩ := i_tvi t9; clear t9
  obtain rfl := i_a2_n b1_7; clear b1_7
  obtain ⟨w9, f3_0, e9, t9, b3_0⟩ := i_a2_c b3; clear b3; subst e9; obtain rfl := i_tvr t9; clear t9
  obtain ⟨x1, f3_1, e9, t9, b3_1⟩ := i_a2_c b3_0; clear b3_0; subst e9; clear t9
  obtain ⟨w9, f3_2, e9, t9, b3_2⟩ := i_a2_c b3_1; clear b3_1; subst e9; obtain ⟨x2, rfl, -⟩ := i_tvi t9; clear t9
  obtain ⟨w9, f3_3, e9, t9, b3_3⟩ := i_a2_c b3_2; clear b3_2; subst e9; obtain ⟨x3, rfl, -⟩ := i_tvi t9; clear t9
  obtain rfl := i_a2_n b3_3; clear b3_3
  obtain ⟨w9, fy_0, e9, t9, by9_0⟩ := i_a2_c by9; clear by9; subst e9; obtain ⟨y0, rfl, -⟩ := i_tvi t9; clear t9
  obtain ⟨w9, fy_1, e9, t9, by9_1⟩ := i_a2_c by9_0; clear by9_0; subst e9; obtain rfl := i_tvr t9; clear t9
  obtain ⟨w9, fy_2, e9, t9, by9_2⟩ := i_a2_c by9_1; clear by9_1; subst e9; obtain rfl := i_tvr t9; clear t9
  obtain ⟨w9, fy_3, e9, t9, by9_3⟩ := i_a2_c by9_2; clear by9_2; subst e9; obtain rfl := i_tvr t9; clear t9
  obtain ⟨w9, fy_4, e9, t9, by9_4⟩ := i_a2_c by9_3; clear by9_3; subst e9; obtain rfl := i_tvr t9; clear t9
  obtain ⟨w9, fy_5, e9, t9, by9_5⟩ := i_a2_c by9_4; clear by9_4; subst e9; obtain ⟨y5, rfl, -⟩ := i_tvi t9; clear t9
  obtain ⟨w9, fy_6, e9, t9, by9_6⟩ := i_a2_c by9_5; clear by9_5; subst e9; obtain rfl := i_tvr t9; clear t9
  obtain ⟨w9, fy_7, e9, t9, by9_7⟩ := i_a2_c by9_6; clear by9_6; subst e9; obtain rfl := i_tvr t9; clear t9
  obtain ⟨w9, fy_8, e9, t9, by9_8⟩ := i_a2_c by9_7; clear by9_7; subst e9; obtain rfl := i_tvr t9; clear t9
  obtain ⟨w9, fy_9, e9, t9, by9_9⟩ := i_a2_c by9_8; clear by9_8; subst e9; obtain rfl := i_tvr t9; clear t9
  obtain ⟨w9, fy_10, e9, t9, by9_10⟩ := i_a2_c by9_9; clear by9_9; subst e9; obtain rfl := i_tvr t9; clear t9
  obtain ⟨w9, fy_11, e9, t9, by9_11⟩ := i_a2_c by9_10; clear by9_10; subst e9; obtain rfl := i_tvr t9; clear t9
  obtain ⟨w9, fy_12, e9, t9, by9_12⟩ := i_a2_c by9_11; clear by9_11; subst e9; obtain rfl := i_tvr t9; clear t9
  obtain ⟨w9, fy_13, e9, t9, by9_13⟩ := i_a2_c by9_12; clear by9_12; subst e9; obtain ⟨y13, rfl, -⟩ := i_tvi t9; clear t9
  obtain ⟨w9, fy_14, e9, t9, by9_14⟩ := i_a2_c by9_13; clear by9_13; subst e9; obtain rfl := i_tvr t9; clear t9
  obtain ⟨w9, fy_15, e9, t9, by9_15⟩ := i_a2_c by9_14; clear by9_14; subst e9; obtain rfl := i_tvr t9; clear t9
  obtain ⟨w9, fy_16, e9, t9, by9_16⟩ := i_a2_c by9_15; clear by9_15; subst e9; obtain rfl := i_tvr t9; clear t9
  obtain ⟨w9, fy_17, e9, t9, by9_17⟩ := i_a2_c by9_16; clear by9_16; subst e9; obtain rfl := i_tvr t9; clear t9
  obtain rfl := i_a2_n by9_17; clear by9_17
  obtain ⟨l1, d1, m1⟩ := i_ol (a := 344) (n := 7) hg (by decide +kernel)
  obtain ⟨l2, d2, m2⟩ := i_oi (a := 345) (kd := 0) (n := 7) hg (by decide +kernel)
  obtain ⟨l3, d3, m3⟩ := i_oi (a := 346) (kd := 0) (n := 7) hg (by decide +kernel)
  obtain ⟨l4, d4, m4⟩ := i_oi (a := 347) (kd := 0) (n := 21) hg (by decide +kernel)
  obtain ⟨l5, d5, m5⟩ := i_ol (a := 348) (n := 5) hg (by decide +kernel)
  obtain ⟨l6, d6, m6⟩ := i_oi (a := 349) (kd := 0) (n := 5) hg (by decide +kernel)
  obtain ⟨l7, d7, m7⟩ := i_oi (a := 350) (kd := 0) (n := 5) hg (by decide +kernel)
  obtain ⟨l8, d8, m8⟩ := i_oi (a := 351) (kd := 0) (n := 5) hg (by decide +kernel)
  obtain ⟨l9, d9, m9⟩ := i_oi (a := 352) (kd := 0) (n := 5) hg (by decide +kernel)
  obtain ⟨l10, d10, m10⟩ := i_oi (a := 353) (kd := 0) (n := 5) hg (by decide +kernel)
  obtain ⟨l11, d11, m11⟩ := i_oi (a := 354) (kd := 0) (n := 5) hg (by decide +kernel)
  obtain ⟨l12, d12, m12⟩ := i_oi (a := 355) (kd := 0) (n := 5) hg (by decide +kernel)
  obtain ⟨l13, d13, m13⟩ := i_oi (a := 356) (kd := 0) (n := 35) hg (by decide +kernel)
  obtain ⟨l14, d14, m14⟩ := i_oi (a := 357) (kd := 0) (n := 30) hg (by decide +kernel)
  obtain ⟨l15, d15, m15⟩ := i_oi (a := 358) (kd := 0) (n := 5) hg (by decide +kernel)
  have e1 := i_ati c1 rfl hL
  cases e1
  refine ⟨(0, q4, q5, q6, q7), (0, l1, l2, l3, l4), (0, l5, l6, l7, l8, l9, l10, l11), ⟨rfl, ⟨Nat.zero_le _, m1, m2, m3, m4⟩, ⟨Nat.zero_le _, m5, m6, m7, m8, m9, m10, m11⟩, rfl, rfl⟩, ?_⟩
  refine j_V.mono (hl_load_B (d := 9) (s := (0, l1, l2, l3, l4)) (t := (0, l5, l6, l7, l8, l9, l10, l11)) R C29 c1 h2 c3 cy d1 d2 d3 d4 d5 d6 d7 d8 d9 d10 d11 d12 d13 d14 d15 hl ha ha7 ⟨Nat.zero_le _, m1, m2, m3, m4⟩ ⟨Nat.zero_le _, m5, m6, m7, m8, m9, m10, m11⟩ rfl rfl m12 m13 m14 m15 rfl) ?_
  rintro rv h' (⟨z1, z2, z3, z4, -, z6, z7⟩ | ⟨z1, z2, z3, z6, z7⟩)
  · exact ⟨⟨jc_at_of z6, jc_at_of z6⟩, Or.inl ⟨z1, z2, z3, z4, z7⟩⟩
  · exact ⟨⟨jc_at_of z6, jc_at_of z6⟩, Or.inr ⟨z1, z2, z3, fun x a1 a2 => z7 x a1 (by omega)⟩⟩
theorem la_lXB {h : J_H} {l w1 : List Int32} {a e n0 S0 : Nat} {sst e9 a9 : Int32} (hI : IB h) (R : hX 343 327 n0 S0 w1 sst h) (C29 : h[29]? = some (.inl (0, [.ref 30, .int e9, .int a9]))) (h2 : h[2]? = some (.inr (.inl (1, l)))) (hl : l.length = 700) (hL : jc_at h 1 1 = some (.int (nI a))) (ha : e ≤ a) (ha7 : a ≤ 700) : ∃ (z : rK) (s : rSP) (t : rTP), (z.1 = 0 ∧ wS s ∧ w9T t ∧ s.1 = 0 ∧ t.1 = 0) ∧ j_V jP 15 114 0 (lv_args 0 [.ref 0, .int (nI e)]) [] h (la_LX 343 327 n0 S0 w1 e9 h (rdL l e (-1) (e + 1) z s t)) := by
  obtain ⟨r, t, hg⟩ := hI
  obtain ⟨f1, c1, b1⟩ := i_og_ok (a := 1) (ci := 8) (Ts := [(some (.inr (some 2))), (some (.inl (.ofNat 0, .ofNat 700))), (some (.inl (.ofNat 0, .ofNat 700))), (some (.inl (.ofNat 0, .ofNat 700))), (some (.inl (.ofNat 0, .ofNat 4))), (some (.inl (.ofNat 0, .ofNat 700))), (some (.inr none)), (some (.inl (.negSucc 2147483647, .ofNat 2147483647)))]) hg (by decide +kernel)
  obtain ⟨f3, c3, b3⟩ := i_og_ok (a := 3) (ci := 4) (Ts := [(some (.inr (some 1))), none, (some (.inl (.negSucc 0, .ofNat 5))), (some (.inl (.negSucc 2147483647, .ofNat 2147483647)))]) hg (by decide +kernel)
  obtain ⟨fy, cy, by9⟩ := i_og_ok (a := 327) (ci := 2) (Ts := [(some (.inl (.ofNat 0, .ofNat 7))), (some (.inr (some 328))), (some (.inr (some 329))), (some (.inr (some 330))), (some (.inr (some 331))), (some (.inl (.ofNat 0, .ofNat 5))), (some (.inr (some 332))), (some (.inr (some 333))), (some (.inr (some 334))), (some (.inr (some 335))), (some (.inr (some 336))), (some (.inr (some 337))), (some (.inr (some 338))), (some (.inl (.negSucc 2147483647, .ofNat 2147483647))), (some (.inr (some 339))), (some (.inr (some 340))), (some (.inr (some 341))), (some (.inr (some 342)))]) hg (by decide +kernel)
  obtain ⟨w9, f1_0, e9, t9, b1_0⟩ := i_a2_c b1; clear b1; subst e9; obtain rfl := i_tvr t9; clear t9
  obtain ⟨w9, f1_1, e9, t9, b1_1⟩ := i_a2_c b1_0; clear b1_0; subst e9; obtain ⟨q1, rfl, -⟩ := i_tvi t9; clear t9
  obtain ⟨w9, f1_2, e9, t9, b1_2⟩ := i_a2_c b1_1; clear b1_1; subst e9; obtain ⟨q2, rfl, -⟩ := i_tvi t9; clear t9
  obtain ⟨w9, f1_3, e9, t9, b1_3⟩ := i_a2_c b1_2; clear b1_2; subst e9; obtain ⟨q3, rfl, -⟩ := i_tvi t9; clear t9
  obtain ⟨w9, f1_4, e9, t9, b1_4⟩ := i_a2_c b1_3; clear b1_3; subst e9; obtain ⟨q4, rfl, -⟩ := i_tvi t9; clear t9
  obtain ⟨w9, f1_5, e9, t9, b1_5⟩ := i_a2_c b1_4; clear b1_4; subst e9; obtain ⟨q5, rfl, -⟩ := i_tvi t9; clear t9
  obtain ⟨w9, f1_6, e9, t9, b1_6⟩ := i_a2_c b1_5; clear b1_5; subst e9; obtain ⟨q6, rfl⟩ := i_tvl t9; clear t9
  obtain ⟨w9, f1_7, e9, t9, b1_7⟩ := i_a2_c b1_6; clear b1_6; subst e9; obtain ⟨q7, rfl, -⟩ := i_tvi t9; clear t9
  obtain rfl := i_a2_n b1_7; clear b1_7
  obtain ⟨w9, f3_0, e9, t9, b3_0⟩ := i_a2_c b3; clear b3; subst e9; obtain rfl := i_tvr t9; clear t9
  obtain ⟨x1, f3_1, e9, t9, b3_1⟩ := i_a2_c b3_0; clear b3_0; subst e9; clear t9
  obtain ⟨w9, f3_2, e9, t9, b3_2⟩ := i_a2_c b3_1; clear b3_1; subst e9; obtain ⟨x2, rfl, -⟩ := i_tvi t9; clear t9
  obtain ⟨w9, f3_3, e9, t9, b3_3⟩ := i_a2_c b3_2; clear b3_2; subst e9; obtain ⟨x3, rfl, -⟩ := i_tvi t9; clear t9
  obtain rfl := i_a2_n b3_3; clear b3_3
  obtain ⟨w9, fy_0, e9, t9, by9_0⟩ := i_a2_c by9; clear by9; subst e9; obtain ⟨y0, rfl, -⟩ := i_tvi t9; clear t9
  obtain ⟨w9, fy_1, e9, t9, by9_1⟩ := i_a2_c by9_0; clear by9_0; subst e9; obtain rfl := i_tvr t9; clear t9
  obtain ⟨w9, fy_2, e9, t9, by9_2⟩ := i_a2_c by9_1; clear by9_1; subst e9; obtain rfl := i_tvr t9; clear t9
  obtain ⟨w9, fy_3, e9, t9, by9_3⟩ := i_a2_c by9_2; clear by9_2; subst e9; obtain rfl := i_tvr t9; clear t9
  obtain ⟨w9, fy_4, e9, t9, by9_4⟩ := i_a2_c by9_3; clear by9_3; subst e9; obtain rfl := i_tvr t9; clear t9
  obtain ⟨w9, fy_5, e9, t9, by9_5⟩ := i_a2_c by9_4; clear by9_4; subst e9; obtain ⟨y5, rfl, -⟩ := i_tvi t9; clear t9
  obtain ⟨w9, fy_6, e9, t9, by9_6⟩ := i_a2_c by9_5; clear by9_5; subst e9; obtain rfl := i_tvr t9; clear t9
  obtain ⟨w9, fy_7, e9, t9, by9_7⟩ := i_a2_c by9_6; clear by9_6; subst e9; obtain rfl := i_tvr t9; clear t9
  obtain ⟨w9, fy_8, e9, t9, by9_8⟩ := i_a2_c by9_7; clear by9_7; subst e9; obtain rfl := i_tvr t9; clear t9
  obtain ⟨w9, fy_9, e9, t9, by9_9⟩ := i_a2_c by9_8; clear by9_8; subst e9; obtain rfl := i_tvr t9; clear t9
  obtain ⟨w9, fy_10, e9, t9, by9_10⟩ := i_a2_c by9_9; clear by9_9; subst e9; obtain rfl := i_tvr t9; clear t9
  obtain ⟨w9, fy_11, e9, t9, by9_11⟩ := i_a2_c by9_10; clear by9_10; subst e9; obtain rfl := i_tvr t9; clear t9
  obtain ⟨w9, fy_12, e9, t9, by9_12⟩ := i_a2_c by9_11; clear by9_11; subst e9; obtain rfl := i_tvr t9; clear t9
  obtain ⟨w9, fy_13, e9, t9, by9_13⟩ := i_a2_c by9_12; clear by9_12; subst e9; obtain ⟨y13, rfl, -⟩ := i_tvi t9; clear t9
  obtain ⟨w9, fy_14, e9, t9, by9_14⟩ := i_a2_c by9_13; clear by9_13; subst e9; obtain rfl := i_tvr t9; clear t9
  obtain ⟨w9, fy_15, e9, t9, by9_15⟩ := i_a2_c by9_14; clear by9_14; subst e9; obtain rfl := i_tvr t9; clear t9
  obtain ⟨w9, fy_16, e9, t9, by9_16⟩ := i_a2_c by9_15; clear by9_15; subst e9; obtain rfl := i_tvr t9; clear t9
  obtain ⟨w9, fy_17, e9, t9, by9_17⟩ := i_a2_c by9_16; clear by9_16; subst e9; obtain rfl := i_tvr t9; clear t9
  obtain rfl := i_a2_n by9_17; clear by9_17
  obtain ⟨l1, d1, m1⟩ := i_ol (a := 328) (n := 7) hg (by decide +kernel)
  obtain ⟨l2, d2, m2⟩ := i_oi (a := 329) (kd := 0) (n := 7) hg (by decide +kernel)
  obtain ⟨l3, d3, m3⟩ := i_oi (a := 330) (kd := 0) (n := 7) hg (by decide +kernel)
  obtain ⟨l4, d4, m4⟩ := i_oi (a := 331) (kd := 0) (n := 21) hg (by decide +kernel)
  obtain ⟨l5, d5, m5⟩ := i_ol (a := 332) (n := 5) hg (by decide +kernel)
  obtain ⟨l6, d6, m6⟩ := i_oi (a := 333) (kd := 0) (n := 5) hg (by decide +kernel)
  obtain ⟨l7, d7, m7⟩ := i_oi (a := 334) (kd := 0) (n := 5) hg (by decide +kernel)
  obtain ⟨l8, d8, m8⟩ := i_oi (a := 335) (kd := 0) (n := 5) hg (by decide +kernel)
  obtain ⟨l9, d9, m9⟩ := i_oi (a := 336) (kd := 0) (n := 5) hg (by decide +kernel)
  obtain ⟨l10, d10, m10⟩ := i_oi (a := 337) (kd := 0) (n := 5) hg (by decide +kernel)
  obtain ⟨l11, d11, m11⟩ := i_oi (a := 338) (kd := 0) (n := 5) hg (by decide +kernel)
  obtain ⟨l12, d12, m12⟩ := i_oi (a := 339) (kd := 0) (n := 5) hg (by decide +kernel)
  obtain ⟨l13, d13, m13⟩ := i_oi (a := 340) (kd := 0) (n := 35) hg (by decide +kernel)
  obtain ⟨l14, d14, m14⟩ := i_oi (a := 341) (kd := 0) (n := 30) hg (by decide +kernel)
  obtain ⟨l15, d15, m15⟩ := i_oi (a := 342) (kd := 0) (n := 5) hg (by decide +kernel)
  have e1 := i_ati c1 rfl hL
  cases e1
  refine ⟨(0, q4, q5, q6, q7), (0, l1, l2, l3, l4), (0, l5, l6, l7, l8, l9, l10, l11), ⟨rfl, ⟨Nat.zero_le _, m1, m2, m3, m4⟩, ⟨Nat.zero_le _, m5, m6, m7, m8, m9, m10, m11⟩, rfl, rfl⟩, ?_⟩
  refine j_V.mono (hl_load_A (d := 9) (s := (0, l1, l2, l3, l4)) (t := (0, l5, l6, l7, l8, l9, l10, l11)) R C29 c1 h2 c3 cy d1 d2 d3 d4 d5 d6 d7 d8 d9 d10 d11 d12 d13 d14 d15 hl ha ha7 ⟨Nat.zero_le _, m1, m2, m3, m4⟩ ⟨Nat.zero_le _, m5, m6, m7, m8, m9, m10, m11⟩ rfl rfl m12 m13 m14 m15 rfl) ?_
  rintro rv h' (⟨z1, z2, z3, z4, -, z6, z7⟩ | ⟨z1, z2, z3, z6, z7⟩)
  · exact ⟨⟨jc_at_of z6, jc_at_of z6⟩, Or.inl ⟨z1, z2, z3, z4, z7⟩⟩
  · exact ⟨⟨jc_at_of z6, jc_at_of z6⟩, Or.inr ⟨z1, z2, z3, fun x a1 a2 => z7 x a1 (by omega)⟩⟩
theorem la_sdA {h : J_H} {v8 : Value} (hI : IC h) (c : h[0]? = some (.inl (9, [.ref 1, .ref 3, .ref 4, .ref 29, .ref 281, .ref 325, .ref 327, .ref 343, v8]))) : IA h := by
  rcases hI with z | ⟨r, t, hg⟩
  · exact z
  · obtain ⟨f1, c1, b1⟩ := i_ok2_ok (a := 0) (ci := 9) (Ts := [none, none, none, none, none, none, some (some (some 343)), none, none]) hg (by decide +kernel)
    obtain ⟨_, _, rfl, -, _, _, rfl, -, _, _, rfl, -, _, _, rfl, -, _, _, rfl, -, _, _, rfl, -, _, _, rfl, y, -⟩ := b1
    rw [c] at c1
    cases c1
    cases y
theorem la_sdB {h : J_H} {v8 : Value} (hI : IC h) (c : h[0]? = some (.inl (9, [.ref 1, .ref 3, .ref 4, .ref 29, .ref 281, .ref 325, .ref 343, .ref 327, v8]))) : IB h := by
  rcases hI with ⟨r, t, hg⟩ | z
  · obtain ⟨f1, c1, b1⟩ := i_ok2_ok (a := 0) (ci := 9) (Ts := [none, none, none, none, none, none, some (some (some 327)), none, none]) hg (by decide +kernel)
    obtain ⟨_, _, rfl, -, _, _, rfl, -, _, _, rfl, -, _, _, rfl, -, _, _, rfl, -, _, _, rfl, -, _, _, rfl, y, -⟩ := b1
    rw [c] at c1
    cases c1
    cases y
  · exact z
/-- how many bytes are left behind load, in twenties -/
def la_lk (k : Nat) (n : Int32) : Nat := if 0 ≤ n.toInt ∧ n.toInt ≤ ((20 * k : Nat) : Int) then 0 else k
theorem la_ln (k : Nat) (n : Int32) : i_ln k n = 20 * la_lk k n := by
  unfold i_ln la_lk
  split <;> rfl
theorem la_lk_lt {k : Nat} (hk : k < 36) (n : Int32) : la_lk k n < 36 := by
  unfold la_lk
  split <;> omega
theorem i_bR {l m : List Int32} {n e : Nat} (h : bA9 l m n) (he : e ≤ n) : bR l m e := fun k hk => h k (by omega)
theorem i_b0 {l m : List Int32} {n e : Nat} (h : bA9 l m n) (he : e ≤ n) : ∀ k, k < e → 0 ≤ (m.getD k 0).toInt := fun k hk => by
  rcases h k (by omega) with ⟨z1, z2⟩ | ⟨-, z2⟩ <;> omega
theorem la_nm {h : J_H} (hI : IM h) : ∃ l : List Int64, h[366]? = some (.inr (.inr (.inl l))) ∧ l.length = 12 := by
  obtain ⟨r, t, hg⟩ := hI
  exact i_ol (a := 366) (n := 12) hg (by decide +kernel)
theorem la_lk6 {x : Nat} {a b c e f g : J_C} (h : x < 359) : jk_lk [(359, a), (361, b), (365, c), (367, e), (360, f), (366, g)] x = none := by
  have z : ∀ (y : Nat) (c : J_C) (k : jk_K), 359 ≤ y → jk_lk k x = none → jk_lk ((y, c) :: k) x = none := fun y c k hy hk => by
    unfold jk_lk
    cases hb : Nat.beq y x with
    | true => exact absurd (Nat.eq_of_beq_eq_true hb) (by omega)
    | false => exact hk
  exact z _ _ _ (by decide) (z _ _ _ (by decide) (z _ _ _ (by decide) (z _ _ _ (by decide) (z _ _ _ (by decide) (z _ _ _ (by decide) rfl)))))
theorem la_q_load (x1 : Int32) {t : Nat} {h : J_H} (ht : t < 512) (H : la_I t h) : la_Q true (la_I (t + 1)) 114 200 [.ref 0, .int x1] [.ref 359, .int x1] h := by
  obtain ⟨⟨k, H⟩, L, L', n, S, a, e0, w0, w9, kp9, sst, hL, R⟩ := H
  have hk := H.2.1
  obtain ⟨⟨l, m, hl, hm, l7, m7, hb⟩, g1, g2⟩ := H.2.2.2
  by_cases hn : 0 ≤ x1.toInt ∧ x1.toInt ≤ ((20 * k : Nat) : Int)
  · obtain ⟨e, he⟩ := Int.eq_ofNat_of_zero_le hn.1
    have hek : e ≤ 20 * k := by have := hn.2; omega
    have hx : x1 = nI e := nI_eq9 he (by omega)
    have wx : ∃ (z : rK) (s : rSP) (t : rTP), (z.1 = 0 ∧ wS s ∧ w9T t ∧ s.1 = 0 ∧ t.1 = 0) ∧ j_V jP 15 114 0 (lv_args 0 [.ref 0, .int (nI e)]) [] h (la_LX L L' n S w9 (nI e0) h (rdL l e (-1) (e + 1) z s t)) := by
      rcases hL with ⟨rfl, rfl⟩ | ⟨rfl, rfl⟩
      · exact la_lXA (la_sdA H.1.1.1 R.1.1) R.1 R.2.1.1 hl l7 H.1.2.1 hek (by omega)
      · exact la_lXB (la_sdB H.1.1.1 R.1.1) R.1 R.2.1.1 hl l7 H.1.2.1 hek (by omega)
    obtain ⟨z, s, t9, hz, wx⟩ := wx
    rw [← hx] at wx
    refine j_W.mono ((pX_load (n := x1) hk H.1.1.1 H.1.2.1).andV wx) ?_
    rintro rv h1 ⟨⟨⟨⟨v1, rfl⟩, d1, f1⟩, e1⟩, ⟨p1, p2⟩, p3⟩
    have M1 : IM h1 := H.1.1.2.oth f1
    have e3 : jc_at h1 359 9 = some (.int (nI (20 * k))) := (f1.2 359 9 (by decide)).trans H.1.2.2
    have hm1 := i_cellI f1.1 (fun i => f1.2 365 i (by decide)) hm
    have FX : ∀ x, 359 ≤ x → h1[x]? = h[x]? := fun x hx => p3.elim (fun q => q.2.2.2.2 x (by omega) (by omega)) (fun q => q.2.2.2 x (by omega) (by omega))
    obtain ⟨x9, x11, x12, x14, x15, x16, x17, x18, x19, x20, om, x21, th, tm, sd, ot, tk, od, be, C, l9⟩ := la_mm M1 (R.2.2.1.fr (fun x a1 a2 => FX x a1))
    have e9 := i_ati C.1 rfl e3
    cases e9
    have wm : j_W jP 15 200 0 (lv_args 0 [.ref 359, .int (nI e)]) [] h1 (PL2 (fun j => ([.int th, .ref 360, .ref 361, .ref 362, .ref 363, .ref 364, .ref 365, .ref 366, .ref 367, .int (nI (20 * k)), .int sst, .int x11, .int x12, .int (nI a), .int x14, .int x15, .int x16, .int x17, .int x18, .int x19, .int x20, .long x21, .ref 368, .int tm, .ref 369, .ref 370, .ref 371, .int om] : List Value).getD j .null) h1 m w9 (Classical.choose (la_nm M1)) e (rdL l e (-1) (e + 1) z s t9)) := by
      obtain ⟨r, t8, hg⟩ := id M1
      obtain ⟨rd, y1, m1⟩ := i_oi (a := 361) (kd := 0) (n := 602) hg (by decide +kernel)
      obtain ⟨rn, y7, m8⟩ := i_ol (a := 367) (n := 12) hg (by decide +kernel)
      have nm := Classical.choose_spec (la_nm M1)
      exact mq_ok (d := 8) (u := (fun j => ([.int th, .ref 360, .ref 361, .ref 362, .ref 363, .ref 364, .ref 365, .ref 366, .ref 367, .int (nI (20 * k)), .int sst, .int x11, .int x12, .int (nI a), .int x14, .int x15, .int x16, .int x17, .int x18, .int x19, .int x20, .long x21, .ref 368, .int tm, .ref 369, .ref 370, .ref 371, .int om] : List Value).getD j .null)) m7 (by omega) (i_b0 hb hek) (i_bR hb hek) m1 m8 l9.1 nm.2 hek (by omega) hz.1 hz.2.1 hz.2.2.1 hz.2.2.2.1 hz.2.2.2.2 (KN.all ⟨C.1, y1, hm1, y7, C.2.1, nm.1, trivial⟩)
    rw [← hx] at wm
    refine ⟨_, rfl, f1.1, j_W.mono ((pM_load (n := x1) hk M1 e3).andV wm.toV) ?_⟩
    rintro rw h2 ⟨⟨⟨⟨v2, rfl⟩, d2, f2⟩, e2⟩, PM⟩
    have z0 : la_lk k x1 = 0 := if_pos hn
    have hs := (H.2.2.1.tr f1.1).tr f2.1
    -- the answers, the relation
    have Q : v1 = v2 ∧ (jc_at h2 359 11 = jc_at h1 3 2 ∧ jc_at h2 359 12 = jc_at h1 3 3) ∧ la_R (t + 1) h2 := by
      rcases PM with ⟨y3, y4, rd, rn, a15, a16, a17, a18, a21, ⟨r1, r2, r3, r4⟩, ⟨r5, r6, r7, r8⟩, K⟩ | ⟨y3, y4, rd, rn, a15, a16, a17, a18, a21, K⟩
      · rcases p3 with ⟨y1, y2, X1, q29, F1⟩ | ⟨y1, y2, X1, F1⟩
        · cases y2
          cases y4
          refine ⟨rfl, ⟨(jc_at_of (K.at (a := 359) rfl)).trans p1.symm, (jc_at_of (K.at (a := 359) rfl)).trans p2.symm⟩, ?_⟩
          have X2 := X1 rd r1 r3 r4 r5 r7 r8
          have LH : ldH (rdL l e (-1) (e + 1) z s t9).2.2.2.1 (rdL l e (-1) (e + 1) z s t9).2.2.1.1 rd _ _ _ _ _ _ _ _ _ _ _ := ⟨⟨r8.1, r7.1⟩, r1, r3, r4, r5⟩
          have F2 : ∀ x, x < 359 → h2[x]? = h1[x]? := fun x a1 => K.2.1 x (la_lk6 (by omega))
          refine la_R.mk (t := t + 1) (hL.symm.imp And.symm And.symm) (w0 := ldW _ rd) (w := ldW _ rd) (kp := kp9) (sst := 0) (a := 0) (e := e0) (D := 2000) ⟨X2.f9 ((F2 0 (by omega)).trans X2.1) (fun x a1 a2 => F2 x (by omega)) (fun x a1 a2 => F2 x (by omega)), ⟨(F2 29 (by omega)).trans q29, (F2 30 (by omega)).trans ((F1 30 (by omega) (by omega)).trans R.2.1.2.1), R.2.1.2.2.1, Nat.zero_le _, fun i hi => absurd hi (by omega), fun j hj => (R.2.1.2.2.2.2.2 j hj).fr (fun x a1 a2 => (F2 x (by omega)).trans (F1 x (by omega) (by omega)))⟩, ⟨laU 0 (rdL l e (-1) (e + 1) z s t9).1.1 (rdL l e (-1) (e + 1) z s t9).1.2 (nI e) a15 a16 a17 a18 (rdL l e (-1) (e + 1) z s t9).1.1 (rdL l e (-1) (e + 1) z s t9).1.2 om a21, 0, tm, sd, ot, tk, od, be, ⟨K.at (a := 359) rfl, K.at (a := 360) rfl, (K.2.1 362 rfl).trans C.2.2.1, (K.2.1 363 rfl).trans C.2.2.2.1, (K.2.1 364 rfl).trans C.2.2.2.2.1, (K.2.1 368 rfl).trans C.2.2.2.2.2.1, (K.2.1 369 rfl).trans C.2.2.2.2.2.2.1, (K.2.1 370 rfl).trans C.2.2.2.2.2.2.2⟩, l9.2.1, l9.2.2.1⟩, R.2.2.2.1, LH.qwG 2000, fun i hi => absurd hi (by omega)⟩ (by omega)
        · exact absurd y3 y1
      · rcases p3 with ⟨y1, y2, X1, q29, F1⟩ | ⟨y1, y2, X1, F1⟩
        · exact absurd y1 y3
        · cases y2
          cases y4
          refine ⟨rfl, ⟨(jc_at_of (K.at (a := 359) rfl)).trans p1.symm, (jc_at_of (K.at (a := 359) rfl)).trans p2.symm⟩, ?_⟩
          exact la_R.n hL R (by omega) X1 (fun x a1 a2 => F1 x a1 (by omega)) (fun x a1 a2 a3 => K.2.1 x (la_lk6 (by omega))) ⟨laU 0 (rdL l e (-1) (e + 1) z s t9).1.1 (rdL l e (-1) (e + 1) z s t9).1.2 (nI e) a15 a16 a17 a18 (rdL l e (-1) (e + 1) z s t9).1.1 (rdL l e (-1) (e + 1) z s t9).1.2 om a21, 0, tm, sd, ot, tk, od, be, ⟨K.at (a := 359) rfl, K.at (a := 360) rfl, (K.2.1 362 rfl).trans C.2.2.1, (K.2.1 363 rfl).trans C.2.2.2.1, (K.2.1 364 rfl).trans C.2.2.2.2.1, (K.2.1 368 rfl).trans C.2.2.2.2.2.1, (K.2.1 369 rfl).trans C.2.2.2.2.2.2.1, (K.2.1 370 rfl).trans C.2.2.2.2.2.2.2⟩, l9.2.1, l9.2.2.1⟩
    refine ⟨_, rfl, fun _ => Q.1, f2.1, ⟨la_lk k x1, ⟨⟨d1.oth f2, d2⟩, ?_, ?_⟩, la_lk_lt hk _, hs, ?_, ?_, ?_⟩, Q.2.2⟩
    · rw [f2.2 1 1 (by decide), e1, la_ln]
    · rw [e2, la_ln]
    · obtain ⟨l', a1, a2⟩ := i_sameI (H.2.2.1.tr (f1.1.tr f2.1)) la_h2
      obtain ⟨m', a3, a4⟩ := i_sameI (H.2.2.1.tr (f1.1.tr f2.1)) la_h365
      exact ⟨l', m', a1, a3, a2.trans List.length_replicate, a4.trans List.length_replicate, fun i hi => by rw [z0] at hi; omega⟩
    · rw [f2.2 3 2 (by decide)]; exact Q.2.1.1.symm
    · rw [f2.2 3 3 (by decide)]; exact Q.2.1.2.symm
  · have z0 : la_lk k x1 = k := if_neg hn
    have hn9 : x1.toInt < 0 ∨ ((20 * k : Nat) : Int) < x1.toInt := by omega
    obtain ⟨w, v, x, fa, pa, c0, c1, c3⟩ := i_knX H.1.1.1 H.1.2.1
    refine j_W.mono ((pX_load (n := x1) hk H.1.1.1 H.1.2.1).andV (xl_bad (d := 14) (u := fun j => [.ref 1, .ref 3, .ref 4, .ref 29, .ref 281, .ref 325, .ref L, .ref L', .int sst].getD j (w j)) (w := fun j => [.ref 2].getD j (v j)) (by omega) hn9 (KN.all ⟨R.1.1, c1, trivial⟩)).toV) ?_
    rintro rv h1 ⟨⟨⟨⟨v1, rfl⟩, d1, f1⟩, e1⟩, p1, K1⟩
    have M1 : IM h1 := H.1.1.2.oth f1
    have e3 : jc_at h1 359 9 = some (.int (nI (20 * k))) := (f1.2 359 9 (by decide)).trans H.1.2.2
    have F1 : ∀ x, x ≠ 0 → x ≠ 1 → h1[x]? = h[x]? := fun x a1 a2 => K1.2.1 x (la_lk2 a1 a2)
    have X1 : hX L L' n S w9 1 h1 := R.1.f9 (K1.at (a := 0) rfl) (fun x a1 a2 => F1 x (by omega) (by omega)) (fun x a1 a2 => F1 x (by omega) (by omega))
    obtain ⟨x9, x11, x12, x14, x15, x16, x17, x18, x19, x20, om, x21, th, tm, sd, ot, tk, od, be, C, l9⟩ := la_mm M1 (R.2.2.1.fr (fun x a1 a2 => F1 x (by omega) (by omega)))
    have e9 := i_ati C.1 rfl e3
    cases e9
    refine ⟨_, rfl, f1.1, j_W.mono ((pM_load (n := x1) hk M1 e3).andV (mq_bad (d := 14) (v := (fun j => ([.int th, .ref 360, .ref 361, .ref 362, .ref 363, .ref 364, .ref 365, .ref 366, .ref 367, .int (nI (20 * k)), .int sst, .int x11, .int x12, .int (nI a), .int x14, .int x15, .int x16, .int x17, .int x18, .int x19, .int x20, .long x21, .ref 368, .int tm, .ref 369, .ref 370, .ref 371, .int om] : List Value).getD j .null)) (by omega) hn9 (KN.all ⟨C.1, trivial⟩)).toV) ?_⟩
    rintro rw h2 ⟨⟨⟨⟨v2, rfl⟩, d2, f2⟩, e2⟩, q1, K⟩
    have k0 := K.at (a := 359) rfl
    refine ⟨_, rfl, fun _ => by cases p1; cases q1; rfl, f2.1, ⟨la_lk k x1, ⟨⟨d1.oth f2, d2⟩, ?_, ?_⟩, la_lk_lt hk _, (H.2.2.1.tr f1.1).tr f2.1, ⟨l, m, ?_, ?_, l7, m7, by rw [z0]; exact hb⟩, ?_, ?_⟩, la_R.n hL R (by omega) X1 (fun x a1 a2 => F1 x (by omega) (by omega)) (fun x a1 a2 a3 => K.2.1 x (la_lk1 (by omega))) ⟨laU (nI (20 * k)) x11 x12 x14 x15 x16 x17 x18 x19 x20 om x21, 0, tm, sd, ot, tk, od, be, ⟨K.at (a := 359) rfl, (K.2.1 360 rfl).trans C.2.1, (K.2.1 362 rfl).trans C.2.2.1, (K.2.1 363 rfl).trans C.2.2.2.1, (K.2.1 364 rfl).trans C.2.2.2.2.1, (K.2.1 368 rfl).trans C.2.2.2.2.2.1, (K.2.1 369 rfl).trans C.2.2.2.2.2.2.1, (K.2.1 370 rfl).trans C.2.2.2.2.2.2.2⟩, l9.2.1, l9.2.2.1⟩⟩
    · rw [f2.2 1 1 (by decide), e1, la_ln]
    · rw [e2, la_ln]
    · rw [K.2.1 2 rfl, K1.2.1 2 rfl]; exact hl
    · rw [K.2.1 365 rfl, K1.2.1 365 rfl]; exact hm
    · rw [i_cellE (K.2.1 3 rfl), i_cellE (K1.2.1 3 rfl), g1, ← i_cellE (i := 11) (K1.2.1 359 rfl), jc_at_of k0, jc_at_of C.1]; rfl
    · rw [i_cellE (K.2.1 3 rfl), i_cellE (K1.2.1 3 rfl), g2, ← i_cellE (i := 12) (K1.2.1 359 rfl), jc_at_of k0, jc_at_of C.1]; rfl

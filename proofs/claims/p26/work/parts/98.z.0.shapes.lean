/-! the cells between calls by their kinds: written by wip/py/gen_zs.py -/
/-- what kind a field is: any; an int; a reference -/
noncomputable def i_ogK (E : jc_E) (O : List (Nat × jc_v)) (a i : Nat) (k : Option (Option (Option Nat))) : Bool := match k with
  | none => true
  | some q => match jc_lk O (jc_key a i) with
    | some (.inr (some (some b))) => decide (q = some (some b))
    | some _ => false
    | none => match ja_n2 E.1 a with
      | some d => match jc_sg d.2 i with
        | some z => match z.1 with
          | some (.inl _) => decide (q = none)
          | some (.inr (some b)) => decide (q = some (some b))
          | some (.inr none) => decide (q = some none)
          | _ => false
        | none => false
      | none => false
def i_kv (k : Option (Option (Option Nat))) (v : Value) : Prop := match k with
  | none => True
  | some none => ∃ x, v = .int x
  | some (some none) => ∃ x, v = .long x
  | some (some (some b)) => v = .ref b
def i_k2 : List (Option (Option (Option Nat))) → List Value → Prop
  | [], vs => vs = []
  | k :: ks, vs => ∃ v vs', vs = v :: vs' ∧ i_kv k v ∧ i_k2 ks vs'
theorem i_k2_of : ∀ {Ts : List (Option (Option (Option Nat)))} {vs : List Value}, vs.length = Ts.length → (∀ (i : Nat) (T : Option (Option (Option Nat))), Ts[i]? = some T → ∃ v, vs[i]? = some v ∧ i_kv T v) → i_k2 Ts vs
  | [], [], _, _ => rfl
  | T :: Ts, v :: vs, hl, hi => ⟨v, vs, rfl, by
      obtain ⟨w, w1, w2⟩ := hi 0 T rfl
      cases w1
      exact w2, i_k2_of (by simpa using hl) (fun i T' hT => hi (i + 1) T' hT)⟩
  | [], _ :: _, hl, _ => by cases hl
  | _ :: _, [], hl, _ => by cases hl
noncomputable def i_ok2 (E : jc_E) (O : List (Nat × jc_v)) (a ci : Nat) (Ts : List (Option (Option (Option Nat)))) : Bool := i_ok E a (0, ci, Ts.length) && i_al (fun i T => i_ogK E O a i T) Ts 0
theorem i_ok2_ok {E : jc_E} {X : J_H → Prop} {r : jc_R} {t : jc_T} {O : List (Nat × jc_v)} {Of : List Nat} {h : J_H} {a ci : Nat} {Ts : List (Option (Option (Option Nat)))} (hg : jc_g E X r t (i_st O Of) h) (hq : i_ok2 E O a ci Ts = true) : ∃ fs, h[a]? = some (.inl (ci, fs)) ∧ i_k2 Ts fs := by
  obtain ⟨q1, q2⟩ := Bool.and_eq_true_iff.mp hq
  obtain ⟨d, hd, e1⟩ := i_ok_ok q1
  obtain ⟨fs, f1, f2, f3⟩ := i_ob hg hd e1
  refine ⟨fs, f1, i_k2_of f2 fun i T hT => ?_⟩
  have hi : i < Ts.length := (List.getElem?_eq_some_iff.mp hT).1
  have hi2 : i < d.1.2.2 := by rw [e1]; exact hi
  have q3 : i_ogK E O a (0 + i) T = true := i_al_ok (p := fun i T => i_ogK E O a i T) q2 hT
  rw [Nat.zero_add] at q3
  cases T with
  | none => exact ⟨fs[i]'(by omega), List.getElem?_eq_getElem _, trivial⟩
  | some q =>
    unfold i_ogK at q3
    dsimp only at q3
    split at q3
    · rename_i b hs
      obtain ⟨v, v1, v2⟩ := hg.atO hd hi2 hs
      refine ⟨v, by rw [← f3]; exact v1, ?_⟩
      rw [of_decide_eq_true q3]
      exact v2.ref
    · cases q3
    · rename_i hs
      rw [hd] at q3
      dsimp only at q3
      split at q3
      · rename_i z hz
        obtain ⟨v, v1, v2⟩ := hg.atT hd hi2 hs hz
        refine ⟨v, by rw [← f3]; exact v1, ?_⟩
        split at q3
        · rename_i ab hz2
          rw [hz2] at v2
          rw [of_decide_eq_true q3]
          obtain ⟨x, hx, -⟩ := i_tvi v2
          exact ⟨x, hx⟩
        · rename_i b hz2
          rw [hz2] at v2
          rw [of_decide_eq_true q3]
          exact i_tvr v2
        · rename_i hz2
          rw [hz2] at v2
          rw [of_decide_eq_true q3]
          exact i_tvl v2
        · cases q3
      · cases q3
theorem la_sxA {h : J_H} (hI : IA h) : hT9 282 0 h ∧ h[281]? = some (.inl (1, [.ref 282, .ref 307, .ref 323, .ref 324])) ∧ hZ9 307 h ∧ (∃ l : List Int32, h[323]? = some (.inr (.inl (0, l))) ∧ l.length = 5) ∧ (∃ l : List Int32, h[324]? = some (.inr (.inl (0, l))) ∧ l.length = 5) := by
  obtain ⟨r, t, hg⟩ := hI
  obtain ⟨f1, c1, b1⟩ := i_ok2_ok (a := 282) (ci := 7) (Ts := [none, some none, some none, some none, some (some (some 283)), some (some (some 284)), some (some (some 285)), some (some (some 286)), some (some (some 287)), some (some (some 288)), some (some (some 289)), some (some (some 290)), some (some (some 291)), some (some (some 292)), some (some (some 293)), some none, some (some (some 294)), some (some (some 295)), some (some (some 298))]) hg (by decide +kernel)
  obtain ⟨v1_0, f1_0, e9, -, b1_0⟩ := b1; subst e9
  obtain ⟨w9, f1_1, e9, ⟨v1_1, rfl⟩, b1_1⟩ := b1_0; subst e9
  obtain ⟨w9, f1_2, e9, ⟨v1_2, rfl⟩, b1_2⟩ := b1_1; subst e9
  obtain ⟨w9, f1_3, e9, ⟨v1_3, rfl⟩, b1_3⟩ := b1_2; subst e9
  obtain ⟨w9, f1_4, e9, rfl, b1_4⟩ := b1_3; subst e9
  obtain ⟨w9, f1_5, e9, rfl, b1_5⟩ := b1_4; subst e9
  obtain ⟨w9, f1_6, e9, rfl, b1_6⟩ := b1_5; subst e9
  obtain ⟨w9, f1_7, e9, rfl, b1_7⟩ := b1_6; subst e9
  obtain ⟨w9, f1_8, e9, rfl, b1_8⟩ := b1_7; subst e9
  obtain ⟨w9, f1_9, e9, rfl, b1_9⟩ := b1_8; subst e9
  obtain ⟨w9, f1_10, e9, rfl, b1_10⟩ := b1_9; subst e9
  obtain ⟨w9, f1_11, e9, rfl, b1_11⟩ := b1_10; subst e9
  obtain ⟨w9, f1_12, e9, rfl, b1_12⟩ := b1_11; subst e9
  obtain ⟨w9, f1_13, e9, rfl, b1_13⟩ := b1_12; subst e9
  obtain ⟨w9, f1_14, e9, rfl, b1_14⟩ := b1_13; subst e9
  obtain ⟨w9, f1_15, e9, ⟨v1_15, rfl⟩, b1_15⟩ := b1_14; subst e9
  obtain ⟨w9, f1_16, e9, rfl, b1_16⟩ := b1_15; subst e9
  obtain ⟨w9, f1_17, e9, rfl, b1_17⟩ := b1_16; subst e9
  obtain ⟨w9, f1_18, e9, rfl, b1_18⟩ := b1_17; subst e9
  obtain rfl := b1_18
  obtain ⟨l2, d2, m2⟩ := i_oi (a := 283) (kd := 0) (n := 5) hg (by decide +kernel)
  obtain ⟨l3, d3, m3⟩ := i_oi (a := 284) (kd := 0) (n := 5) hg (by decide +kernel)
  obtain ⟨l4, d4, m4⟩ := i_oi (a := 285) (kd := 0) (n := 5) hg (by decide +kernel)
  obtain ⟨l5, d5, m5⟩ := i_oi (a := 286) (kd := 0) (n := 5) hg (by decide +kernel)
  obtain ⟨l6, d6, m6⟩ := i_oi (a := 287) (kd := 0) (n := 5) hg (by decide +kernel)
  obtain ⟨l7, d7, m7⟩ := i_oi (a := 288) (kd := 0) (n := 5) hg (by decide +kernel)
  obtain ⟨l8, d8, m8⟩ := i_oi (a := 289) (kd := 0) (n := 5) hg (by decide +kernel)
  obtain ⟨l9, d9, m9⟩ := i_oi (a := 290) (kd := 0) (n := 6) hg (by decide +kernel)
  obtain ⟨l10, d10, m10⟩ := i_oi (a := 291) (kd := 0) (n := 6) hg (by decide +kernel)
  obtain ⟨l11, d11, m11⟩ := i_oi (a := 292) (kd := 0) (n := 35) hg (by decide +kernel)
  obtain ⟨l12, d12, m12⟩ := i_oi (a := 293) (kd := 0) (n := 35) hg (by decide +kernel)
  obtain ⟨l13, d13, m13⟩ := i_oi (a := 294) (kd := 0) (n := 12) hg (by decide +kernel)
  obtain ⟨f14, c14, b14⟩ := i_ok2_ok (a := 295) (ci := 5) (Ts := [some (some (some 296)), some none, some (some (some 297))]) hg (by decide +kernel)
  obtain ⟨w9, f14_0, e9, rfl, b14_0⟩ := b14; subst e9
  obtain ⟨w9, f14_1, e9, ⟨v14_1, rfl⟩, b14_1⟩ := b14_0; subst e9
  obtain ⟨w9, f14_2, e9, rfl, b14_2⟩ := b14_1; subst e9
  obtain rfl := b14_2
  obtain ⟨l15, d15, m15⟩ := i_oi (a := 296) (kd := 0) (n := 5) hg (by decide +kernel)
  obtain ⟨l16, d16, m16⟩ := i_oi (a := 297) (kd := 0) (n := 5) hg (by decide +kernel)
  obtain ⟨f17, c17, b17⟩ := i_og_ok (a := 298) (ci := 3) (Ts := [(some (.inr (some 299))), (some (.inr (some 300))), (some (.inr (some 301))), (some (.inr (some 302))), (some (.inr (some 303))), (some (.inr (some 304))), (some (.inr (some 305))), (some (.inr (some 306))), none, (some (.inl (.ofNat 0, .ofNat 0)))]) hg (by decide +kernel)
  obtain ⟨w9, f17_0, e9, t9, b17_0⟩ := i_a2_c b17; subst e9; obtain rfl := i_tvr t9; clear t9
  obtain ⟨w9, f17_1, e9, t9, b17_1⟩ := i_a2_c b17_0; subst e9; obtain rfl := i_tvr t9; clear t9
  obtain ⟨w9, f17_2, e9, t9, b17_2⟩ := i_a2_c b17_1; subst e9; obtain rfl := i_tvr t9; clear t9
  obtain ⟨w9, f17_3, e9, t9, b17_3⟩ := i_a2_c b17_2; subst e9; obtain rfl := i_tvr t9; clear t9
  obtain ⟨w9, f17_4, e9, t9, b17_4⟩ := i_a2_c b17_3; subst e9; obtain rfl := i_tvr t9; clear t9
  obtain ⟨w9, f17_5, e9, t9, b17_5⟩ := i_a2_c b17_4; subst e9; obtain rfl := i_tvr t9; clear t9
  obtain ⟨w9, f17_6, e9, t9, b17_6⟩ := i_a2_c b17_5; subst e9; obtain rfl := i_tvr t9; clear t9
  obtain ⟨w9, f17_7, e9, t9, b17_7⟩ := i_a2_c b17_6; subst e9; obtain rfl := i_tvr t9; clear t9
  obtain ⟨pv17, f17_8, e9, t9, b17_8⟩ := i_a2_c b17_7; subst e9; clear t9
  obtain ⟨w9, f17_9, e9, t9, b17_9⟩ := i_a2_c b17_8; subst e9; obtain ⟨pk17, rfl, g17⟩ := i_tvi t9; clear t9
  obtain rfl := i_a2_n b17_9
  obtain rfl : pk17 = 0 := Int32.toInt_inj.mp (by have g1 := g17.1; have g2 := g17.2; have e1 : (0 : Int32).toInt = 0 := rfl; simp only [Int.ofNat_eq_natCast] at g1 g2; omega)
  obtain ⟨l18, d18, m18⟩ := i_oi (a := 299) (kd := 0) (n := 25) hg (by decide +kernel)
  obtain ⟨l19, d19, m19⟩ := i_oi (a := 300) (kd := 0) (n := 25) hg (by decide +kernel)
  obtain ⟨l20, d20, m20⟩ := i_oi (a := 301) (kd := 0) (n := 25) hg (by decide +kernel)
  obtain ⟨l21, d21, m21⟩ := i_oi (a := 302) (kd := 0) (n := 7) hg (by decide +kernel)
  obtain ⟨l22, d22, m22⟩ := i_oi (a := 303) (kd := 0) (n := 5) hg (by decide +kernel)
  obtain ⟨l23, d23, m23⟩ := i_oi (a := 304) (kd := 0) (n := 6) hg (by decide +kernel)
  obtain ⟨l24, d24, m24⟩ := i_oi (a := 305) (kd := 0) (n := 30) hg (by decide +kernel)
  obtain ⟨l25, d25, m25⟩ := i_oi (a := 306) (kd := 0) (n := 260) hg (by decide +kernel)
  obtain ⟨x27, y27, z27⟩ := i_ok2_ok (a := 298) (ci := 3) (Ts := [none, none, none, none, none, none, none, none, some none, none]) hg (by decide +kernel)
  obtain ⟨_, _, e9, -, _, _, e8, -, _, _, e7, -, _, _, e6, -, _, _, e5, -, _, _, e4, -, _, _, e3, -, _, _, e2, -, _, _, e1, ⟨pe27, hpe27⟩, -⟩ := z27
  subst e9 e8 e7 e6 e5 e4 e3 e2 e1
  rw [c17] at y27
  have hv27 : pv17 = .int pe27 := by cases y27; exact hpe27
  clear y27
  rw [hv27] at c17
  have h1 : hT9 282 0 h := ⟨v1_0, v1_1, v1_2, v1_3, v1_15, v14_1, pe27, l2, l3, l4, l5, l6, l7, l8, l9, l10, l11, l12, l13, l15, l16, l18, l19, l20, l21, l22, l23, l24, l25, ⟨c1, d2, d3, d4, d5, d6, d7, d8, d9, d10, d11, d12, d13, c14, d15, d16, c17, d18, d19, d20, d21, d22, d23, d24, d25⟩, ⟨m2, m3, m4, m5, m6, m7, m8, m9, m10, m11, m12, m13, m15, m16⟩, fun _ => ⟨m18, m19, m20, m21, m22, m23, m24, m25⟩⟩
  obtain ⟨f28, c28, b28⟩ := i_ok2_ok (a := 281) (ci := 1) (Ts := [some (some (some 282)), some (some (some 307)), some (some (some 323)), some (some (some 324))]) hg (by decide +kernel)
  obtain ⟨w9, f28_0, e9, rfl, b28_0⟩ := b28; subst e9
  obtain ⟨w9, f28_1, e9, rfl, b28_1⟩ := b28_0; subst e9
  obtain ⟨w9, f28_2, e9, rfl, b28_2⟩ := b28_1; subst e9
  obtain ⟨w9, f28_3, e9, rfl, b28_3⟩ := b28_2; subst e9
  obtain rfl := b28_3
  obtain ⟨f29, c29, b29⟩ := i_ok2_ok (a := 307) (ci := 2) (Ts := [some none, some (some (some 308)), some (some (some 309)), some (some (some 310)), some (some (some 311)), some none, some (some (some 312)), some (some (some 313)), some (some (some 314)), some (some (some 315)), some (some (some 316)), some (some (some 317)), some (some (some 318)), some none, some (some (some 319)), some (some (some 320)), some (some (some 321)), some (some (some 322))]) hg (by decide +kernel)
  obtain ⟨w9, f29_0, e9, ⟨v29_0, rfl⟩, b29_0⟩ := b29; subst e9
  obtain ⟨w9, f29_1, e9, rfl, b29_1⟩ := b29_0; subst e9
  obtain ⟨w9, f29_2, e9, rfl, b29_2⟩ := b29_1; subst e9
  obtain ⟨w9, f29_3, e9, rfl, b29_3⟩ := b29_2; subst e9
  obtain ⟨w9, f29_4, e9, rfl, b29_4⟩ := b29_3; subst e9
  obtain ⟨w9, f29_5, e9, ⟨v29_5, rfl⟩, b29_5⟩ := b29_4; subst e9
  obtain ⟨w9, f29_6, e9, rfl, b29_6⟩ := b29_5; subst e9
  obtain ⟨w9, f29_7, e9, rfl, b29_7⟩ := b29_6; subst e9
  obtain ⟨w9, f29_8, e9, rfl, b29_8⟩ := b29_7; subst e9
  obtain ⟨w9, f29_9, e9, rfl, b29_9⟩ := b29_8; subst e9
  obtain ⟨w9, f29_10, e9, rfl, b29_10⟩ := b29_9; subst e9
  obtain ⟨w9, f29_11, e9, rfl, b29_11⟩ := b29_10; subst e9
  obtain ⟨w9, f29_12, e9, rfl, b29_12⟩ := b29_11; subst e9
  obtain ⟨w9, f29_13, e9, ⟨v29_13, rfl⟩, b29_13⟩ := b29_12; subst e9
  obtain ⟨w9, f29_14, e9, rfl, b29_14⟩ := b29_13; subst e9
  obtain ⟨w9, f29_15, e9, rfl, b29_15⟩ := b29_14; subst e9
  obtain ⟨w9, f29_16, e9, rfl, b29_16⟩ := b29_15; subst e9
  obtain ⟨w9, f29_17, e9, rfl, b29_17⟩ := b29_16; subst e9
  obtain rfl := b29_17
  obtain ⟨l30, d30, m30⟩ := i_oi (a := 309) (kd := 0) (n := 7) hg (by decide +kernel)
  obtain ⟨l31, d31, m31⟩ := i_oi (a := 310) (kd := 0) (n := 7) hg (by decide +kernel)
  obtain ⟨l32, d32, m32⟩ := i_oi (a := 311) (kd := 0) (n := 21) hg (by decide +kernel)
  obtain ⟨l33, d33, m33⟩ := i_oi (a := 313) (kd := 0) (n := 5) hg (by decide +kernel)
  obtain ⟨l34, d34, m34⟩ := i_oi (a := 314) (kd := 0) (n := 5) hg (by decide +kernel)
  obtain ⟨l35, d35, m35⟩ := i_oi (a := 315) (kd := 0) (n := 5) hg (by decide +kernel)
  obtain ⟨l36, d36, m36⟩ := i_oi (a := 316) (kd := 0) (n := 5) hg (by decide +kernel)
  obtain ⟨l37, d37, m37⟩ := i_oi (a := 317) (kd := 0) (n := 5) hg (by decide +kernel)
  obtain ⟨l38, d38, m38⟩ := i_oi (a := 318) (kd := 0) (n := 5) hg (by decide +kernel)
  obtain ⟨l39, d39, m39⟩ := i_oi (a := 319) (kd := 0) (n := 5) hg (by decide +kernel)
  obtain ⟨l40, d40, m40⟩ := i_oi (a := 320) (kd := 0) (n := 35) hg (by decide +kernel)
  obtain ⟨l41, d41, m41⟩ := i_oi (a := 321) (kd := 0) (n := 30) hg (by decide +kernel)
  obtain ⟨l42, d42, m42⟩ := i_oi (a := 322) (kd := 0) (n := 5) hg (by decide +kernel)
  have h2 : hZ9 307 h := ⟨v29_0, v29_5, v29_13, l30, l31, l32, l33, l34, l35, l36, l37, l38, l39, l40, l41, l42, ⟨c29, d30, d31, d32, d33, d34, d35, d36, d37, d38, d39, d40, d41, d42⟩, m30, m31, m32, m33, m34, m35, m36, m37, m38, m39, m40, m41, m42⟩
  obtain ⟨l43, d43, m43⟩ := i_oi (a := 323) (kd := 0) (n := 5) hg (by decide +kernel)
  obtain ⟨l44, d44, m44⟩ := i_oi (a := 324) (kd := 0) (n := 5) hg (by decide +kernel)
  exact ⟨h1, c28, h2, ⟨l43, d43, m43⟩, ⟨l44, d44, m44⟩⟩
theorem la_sbA0 {h : J_H} (hI : IA h) : hT9 31 1 h := by
  obtain ⟨r, t, hg⟩ := hI
  obtain ⟨f1, c1, b1⟩ := i_ok2_ok (a := 31) (ci := 7) (Ts := [none, some none, some none, some none, some (some (some 32)), some (some (some 33)), some (some (some 34)), some (some (some 35)), some (some (some 36)), some (some (some 37)), some (some (some 38)), some (some (some 39)), some (some (some 40)), some (some (some 41)), some (some (some 42)), some none, some (some (some 43)), some (some (some 44)), some (some (some 47))]) hg (by decide +kernel)
  obtain ⟨v1_0, f1_0, e9, -, b1_0⟩ := b1; subst e9
  obtain ⟨w9, f1_1, e9, ⟨v1_1, rfl⟩, b1_1⟩ := b1_0; subst e9
  obtain ⟨w9, f1_2, e9, ⟨v1_2, rfl⟩, b1_2⟩ := b1_1; subst e9
  obtain ⟨w9, f1_3, e9, ⟨v1_3, rfl⟩, b1_3⟩ := b1_2; subst e9
  obtain ⟨w9, f1_4, e9, rfl, b1_4⟩ := b1_3; subst e9
  obtain ⟨w9, f1_5, e9, rfl, b1_5⟩ := b1_4; subst e9
  obtain ⟨w9, f1_6, e9, rfl, b1_6⟩ := b1_5; subst e9
  obtain ⟨w9, f1_7, e9, rfl, b1_7⟩ := b1_6; subst e9
  obtain ⟨w9, f1_8, e9, rfl, b1_8⟩ := b1_7; subst e9
  obtain ⟨w9, f1_9, e9, rfl, b1_9⟩ := b1_8; subst e9
  obtain ⟨w9, f1_10, e9, rfl, b1_10⟩ := b1_9; subst e9
  obtain ⟨w9, f1_11, e9, rfl, b1_11⟩ := b1_10; subst e9
  obtain ⟨w9, f1_12, e9, rfl, b1_12⟩ := b1_11; subst e9
  obtain ⟨w9, f1_13, e9, rfl, b1_13⟩ := b1_12; subst e9
  obtain ⟨w9, f1_14, e9, rfl, b1_14⟩ := b1_13; subst e9
  obtain ⟨w9, f1_15, e9, ⟨v1_15, rfl⟩, b1_15⟩ := b1_14; subst e9
  obtain ⟨w9, f1_16, e9, rfl, b1_16⟩ := b1_15; subst e9
  obtain ⟨w9, f1_17, e9, rfl, b1_17⟩ := b1_16; subst e9
  obtain ⟨w9, f1_18, e9, rfl, b1_18⟩ := b1_17; subst e9
  obtain rfl := b1_18
  obtain ⟨l2, d2, m2⟩ := i_oi (a := 32) (kd := 0) (n := 5) hg (by decide +kernel)
  obtain ⟨l3, d3, m3⟩ := i_oi (a := 33) (kd := 0) (n := 5) hg (by decide +kernel)
  obtain ⟨l4, d4, m4⟩ := i_oi (a := 34) (kd := 0) (n := 5) hg (by decide +kernel)
  obtain ⟨l5, d5, m5⟩ := i_oi (a := 35) (kd := 0) (n := 5) hg (by decide +kernel)
  obtain ⟨l6, d6, m6⟩ := i_oi (a := 36) (kd := 0) (n := 5) hg (by decide +kernel)
  obtain ⟨l7, d7, m7⟩ := i_oi (a := 37) (kd := 0) (n := 5) hg (by decide +kernel)
  obtain ⟨l8, d8, m8⟩ := i_oi (a := 38) (kd := 0) (n := 5) hg (by decide +kernel)
  obtain ⟨l9, d9, m9⟩ := i_oi (a := 39) (kd := 0) (n := 6) hg (by decide +kernel)
  obtain ⟨l10, d10, m10⟩ := i_oi (a := 40) (kd := 0) (n := 6) hg (by decide +kernel)
  obtain ⟨l11, d11, m11⟩ := i_oi (a := 41) (kd := 0) (n := 35) hg (by decide +kernel)
  obtain ⟨l12, d12, m12⟩ := i_oi (a := 42) (kd := 0) (n := 35) hg (by decide +kernel)
  obtain ⟨l13, d13, m13⟩ := i_oi (a := 43) (kd := 0) (n := 12) hg (by decide +kernel)
  obtain ⟨f14, c14, b14⟩ := i_ok2_ok (a := 44) (ci := 5) (Ts := [some (some (some 45)), some none, some (some (some 46))]) hg (by decide +kernel)
  obtain ⟨w9, f14_0, e9, rfl, b14_0⟩ := b14; subst e9
  obtain ⟨w9, f14_1, e9, ⟨v14_1, rfl⟩, b14_1⟩ := b14_0; subst e9
  obtain ⟨w9, f14_2, e9, rfl, b14_2⟩ := b14_1; subst e9
  obtain rfl := b14_2
  obtain ⟨l15, d15, m15⟩ := i_oi (a := 45) (kd := 0) (n := 5) hg (by decide +kernel)
  obtain ⟨l16, d16, m16⟩ := i_oi (a := 46) (kd := 0) (n := 5) hg (by decide +kernel)
  obtain ⟨f17, c17, b17⟩ := i_og_ok (a := 47) (ci := 3) (Ts := [(some (.inr (some 48))), (some (.inr (some 49))), (some (.inr (some 50))), (some (.inr (some 51))), (some (.inr (some 52))), (some (.inr (some 53))), (some (.inr (some 54))), (some (.inr (some 55))), none, (some (.inl (.ofNat 1, .ofNat 1)))]) hg (by decide +kernel)
  obtain ⟨w9, f17_0, e9, t9, b17_0⟩ := i_a2_c b17; subst e9; obtain rfl := i_tvr t9; clear t9
  obtain ⟨w9, f17_1, e9, t9, b17_1⟩ := i_a2_c b17_0; subst e9; obtain rfl := i_tvr t9; clear t9
  obtain ⟨w9, f17_2, e9, t9, b17_2⟩ := i_a2_c b17_1; subst e9; obtain rfl := i_tvr t9; clear t9
  obtain ⟨w9, f17_3, e9, t9, b17_3⟩ := i_a2_c b17_2; subst e9; obtain rfl := i_tvr t9; clear t9
  obtain ⟨w9, f17_4, e9, t9, b17_4⟩ := i_a2_c b17_3; subst e9; obtain rfl := i_tvr t9; clear t9
  obtain ⟨w9, f17_5, e9, t9, b17_5⟩ := i_a2_c b17_4; subst e9; obtain rfl := i_tvr t9; clear t9
  obtain ⟨w9, f17_6, e9, t9, b17_6⟩ := i_a2_c b17_5; subst e9; obtain rfl := i_tvr t9; clear t9
  obtain ⟨w9, f17_7, e9, t9, b17_7⟩ := i_a2_c b17_6; subst e9; obtain rfl := i_tvr t9; clear t9
  obtain ⟨pv17, f17_8, e9, t9, b17_8⟩ := i_a2_c b17_7; subst e9; clear t9
  obtain ⟨w9, f17_9, e9, t9, b17_9⟩ := i_a2_c b17_8; subst e9; obtain ⟨pk17, rfl, g17⟩ := i_tvi t9; clear t9
  obtain rfl := i_a2_n b17_9
  obtain rfl : pk17 = 1 := Int32.toInt_inj.mp (by have g1 := g17.1; have g2 := g17.2; have e1 : (1 : Int32).toInt = 1 := rfl; simp only [Int.ofNat_eq_natCast] at g1 g2; omega)
  obtain ⟨l18, d18, m18⟩ := i_oi (a := 48) (kd := 0) (n := 25) hg (by decide +kernel)
  obtain ⟨l19, d19, m19⟩ := i_oi (a := 49) (kd := 0) (n := 25) hg (by decide +kernel)
  obtain ⟨l20, d20, m20⟩ := i_oi (a := 50) (kd := 0) (n := 25) hg (by decide +kernel)
  obtain ⟨l21, d21, m21⟩ := i_oi (a := 51) (kd := 0) (n := 7) hg (by decide +kernel)
  obtain ⟨l22, d22, m22⟩ := i_oi (a := 52) (kd := 0) (n := 5) hg (by decide +kernel)
  obtain ⟨l23, d23, m23⟩ := i_oi (a := 53) (kd := 0) (n := 6) hg (by decide +kernel)
  obtain ⟨l24, d24, m24⟩ := i_oi (a := 54) (kd := 0) (n := 30) hg (by decide +kernel)
  obtain ⟨l25, d25, m25⟩ := i_oi (a := 55) (kd := 0) (n := 260) hg (by decide +kernel)
  obtain ⟨x27, y27, z27⟩ := i_ok2_ok (a := 47) (ci := 3) (Ts := [none, none, none, none, none, none, none, none, some none, none]) hg (by decide +kernel)
  obtain ⟨_, _, e9, -, _, _, e8, -, _, _, e7, -, _, _, e6, -, _, _, e5, -, _, _, e4, -, _, _, e3, -, _, _, e2, -, _, _, e1, ⟨pe27, hpe27⟩, -⟩ := z27
  subst e9 e8 e7 e6 e5 e4 e3 e2 e1
  rw [c17] at y27
  have hv27 : pv17 = .int pe27 := by cases y27; exact hpe27
  clear y27
  rw [hv27] at c17
  have h1 : hT9 31 1 h := ⟨v1_0, v1_1, v1_2, v1_3, v1_15, v14_1, pe27, l2, l3, l4, l5, l6, l7, l8, l9, l10, l11, l12, l13, l15, l16, l18, l19, l20, l21, l22, l23, l24, l25, ⟨c1, d2, d3, d4, d5, d6, d7, d8, d9, d10, d11, d12, d13, c14, d15, d16, c17, d18, d19, d20, d21, d22, d23, d24, d25⟩, ⟨m2, m3, m4, m5, m6, m7, m8, m9, m10, m11, m12, m13, m15, m16⟩, fun _ => ⟨m18, m19, m20, m21, m22, m23, m24, m25⟩⟩
  exact h1
theorem la_sbA1 {h : J_H} (hI : IA h) : hT9 56 1 h := by
  obtain ⟨r, t, hg⟩ := hI
  obtain ⟨f1, c1, b1⟩ := i_ok2_ok (a := 56) (ci := 7) (Ts := [none, some none, some none, some none, some (some (some 57)), some (some (some 58)), some (some (some 59)), some (some (some 60)), some (some (some 61)), some (some (some 62)), some (some (some 63)), some (some (some 64)), some (some (some 65)), some (some (some 66)), some (some (some 67)), some none, some (some (some 68)), some (some (some 69)), some (some (some 72))]) hg (by decide +kernel)
  obtain ⟨v1_0, f1_0, e9, -, b1_0⟩ := b1; subst e9
  obtain ⟨w9, f1_1, e9, ⟨v1_1, rfl⟩, b1_1⟩ := b1_0; subst e9
  obtain ⟨w9, f1_2, e9, ⟨v1_2, rfl⟩, b1_2⟩ := b1_1; subst e9
  obtain ⟨w9, f1_3, e9, ⟨v1_3, rfl⟩, b1_3⟩ := b1_2; subst e9
  obtain ⟨w9, f1_4, e9, rfl, b1_4⟩ := b1_3; subst e9
  obtain ⟨w9, f1_5, e9, rfl, b1_5⟩ := b1_4; subst e9
  obtain ⟨w9, f1_6, e9, rfl, b1_6⟩ := b1_5; subst e9
  obtain ⟨w9, f1_7, e9, rfl, b1_7⟩ := b1_6; subst e9
  obtain ⟨w9, f1_8, e9, rfl, b1_8⟩ := b1_7; subst e9
  obtain ⟨w9, f1_9, e9, rfl, b1_9⟩ := b1_8; subst e9
  obtain ⟨w9, f1_10, e9, rfl, b1_10⟩ := b1_9; subst e9
  obtain ⟨w9, f1_11, e9, rfl, b1_11⟩ := b1_10; subst e9
  obtain ⟨w9, f1_12, e9, rfl, b1_12⟩ := b1_11; subst e9
  obtain ⟨w9, f1_13, e9, rfl, b1_13⟩ := b1_12; subst e9
  obtain ⟨w9, f1_14, e9, rfl, b1_14⟩ := b1_13; subst e9
  obtain ⟨w9, f1_15, e9, ⟨v1_15, rfl⟩, b1_15⟩ := b1_14; subst e9
  obtain ⟨w9, f1_16, e9, rfl, b1_16⟩ := b1_15; subst e9
  obtain ⟨w9, f1_17, e9, rfl, b1_17⟩ := b1_16; subst e9
  obtain ⟨w9, f1_18, e9, rfl, b1_18⟩ := b1_17; subst e9
  obtain rfl := b1_18
  obtain ⟨l2, d2, m2⟩ := i_oi (a := 57) (kd := 0) (n := 5) hg (by decide +kernel)
  obtain ⟨l3, d3, m3⟩ := i_oi (a := 58) (kd := 0) (n := 5) hg (by decide +kernel)
  obtain ⟨l4, d4, m4⟩ := i_oi (a := 59) (kd := 0) (n := 5) hg (by decide +kernel)
  obtain ⟨l5, d5, m5⟩ := i_oi (a := 60) (kd := 0) (n := 5) hg (by decide +kernel)
  obtain ⟨l6, d6, m6⟩ := i_oi (a := 61) (kd := 0) (n := 5) hg (by decide +kernel)
  obtain ⟨l7, d7, m7⟩ := i_oi (a := 62) (kd := 0) (n := 5) hg (by decide +kernel)
  obtain ⟨l8, d8, m8⟩ := i_oi (a := 63) (kd := 0) (n := 5) hg (by decide +kernel)
  obtain ⟨l9, d9, m9⟩ := i_oi (a := 64) (kd := 0) (n := 6) hg (by decide +kernel)
  obtain ⟨l10, d10, m10⟩ := i_oi (a := 65) (kd := 0) (n := 6) hg (by decide +kernel)
  obtain ⟨l11, d11, m11⟩ := i_oi (a := 66) (kd := 0) (n := 35) hg (by decide +kernel)
  obtain ⟨l12, d12, m12⟩ := i_oi (a := 67) (kd := 0) (n := 35) hg (by decide +kernel)
  obtain ⟨l13, d13, m13⟩ := i_oi (a := 68) (kd := 0) (n := 12) hg (by decide +kernel)
  obtain ⟨f14, c14, b14⟩ := i_ok2_ok (a := 69) (ci := 5) (Ts := [some (some (some 70)), some none, some (some (some 71))]) hg (by decide +kernel)
  obtain ⟨w9, f14_0, e9, rfl, b14_0⟩ := b14; subst e9
  obtain ⟨w9, f14_1, e9, ⟨v14_1, rfl⟩, b14_1⟩ := b14_0; subst e9
  obtain ⟨w9, f14_2, e9, rfl, b14_2⟩ := b14_1; subst e9
  obtain rfl := b14_2
  obtain ⟨l15, d15, m15⟩ := i_oi (a := 70) (kd := 0) (n := 5) hg (by decide +kernel)
  obtain ⟨l16, d16, m16⟩ := i_oi (a := 71) (kd := 0) (n := 5) hg (by decide +kernel)
  obtain ⟨f17, c17, b17⟩ := i_og_ok (a := 72) (ci := 3) (Ts := [(some (.inr (some 73))), (some (.inr (some 74))), (some (.inr (some 75))), (some (.inr (some 76))), (some (.inr (some 77))), (some (.inr (some 78))), (some (.inr (some 79))), (some (.inr (some 80))), none, (some (.inl (.ofNat 1, .ofNat 1)))]) hg (by decide +kernel)
  obtain ⟨w9, f17_0, e9, t9, b17_0⟩ := i_a2_c b17; subst e9; obtain rfl := i_tvr t9; clear t9
  obtain ⟨w9, f17_1, e9, t9, b17_1⟩ := i_a2_c b17_0; subst e9; obtain rfl := i_tvr t9; clear t9
  obtain ⟨w9, f17_2, e9, t9, b17_2⟩ := i_a2_c b17_1; subst e9; obtain rfl := i_tvr t9; clear t9
  obtain ⟨w9, f17_3, e9, t9, b17_3⟩ := i_a2_c b17_2; subst e9; obtain rfl := i_tvr t9; clear t9
  obtain ⟨w9, f17_4, e9, t9, b17_4⟩ := i_a2_c b17_3; subst e9; obtain rfl := i_tvr t9; clear t9
  obtain ⟨w9, f17_5, e9, t9, b17_5⟩ := i_a2_c b17_4; subst e9; obtain rfl := i_tvr t9; clear t9
  obtain ⟨w9, f17_6, e9, t9, b17_6⟩ := i_a2_c b17_5; subst e9; obtain rfl := i_tvr t9; clear t9
  obtain ⟨w9, f17_7, e9, t9, b17_7⟩ := i_a2_c b17_6; subst e9; obtain rfl := i_tvr t9; clear t9
  obtain ⟨pv17, f17_8, e9, t9, b17_8⟩ := i_a2_c b17_7; subst e9; clear t9
  obtain ⟨w9, f17_9, e9, t9, b17_9⟩ := i_a2_c b17_8; subst e9; obtain ⟨pk17, rfl, g17⟩ := i_tvi t9; clear t9
  obtain rfl := i_a2_n b17_9
  obtain rfl : pk17 = 1 := Int32.toInt_inj.mp (by have g1 := g17.1; have g2 := g17.2; have e1 : (1 : Int32).toInt = 1 := rfl; simp only [Int.ofNat_eq_natCast] at g1 g2; omega)
  obtain ⟨l18, d18, m18⟩ := i_oi (a := 73) (kd := 0) (n := 25) hg (by decide +kernel)
  obtain ⟨l19, d19, m19⟩ := i_oi (a := 74) (kd := 0) (n := 25) hg (by decide +kernel)
  obtain ⟨l20, d20, m20⟩ := i_oi (a := 75) (kd := 0) (n := 25) hg (by decide +kernel)
  obtain ⟨l21, d21, m21⟩ := i_oi (a := 76) (kd := 0) (n := 7) hg (by decide +kernel)
  obtain ⟨l22, d22, m22⟩ := i_oi (a := 77) (kd := 0) (n := 5) hg (by decide +kernel)
  obtain ⟨l23, d23, m23⟩ := i_oi (a := 78) (kd := 0) (n := 6) hg (by decide +kernel)
  obtain ⟨l24, d24, m24⟩ := i_oi (a := 79) (kd := 0) (n := 30) hg (by decide +kernel)
  obtain ⟨l25, d25, m25⟩ := i_oi (a := 80) (kd := 0) (n := 260) hg (by decide +kernel)
  obtain ⟨x27, y27, z27⟩ := i_ok2_ok (a := 72) (ci := 3) (Ts := [none, none, none, none, none, none, none, none, some none, none]) hg (by decide +kernel)
  obtain ⟨_, _, e9, -, _, _, e8, -, _, _, e7, -, _, _, e6, -, _, _, e5, -, _, _, e4, -, _, _, e3, -, _, _, e2, -, _, _, e1, ⟨pe27, hpe27⟩, -⟩ := z27
  subst e9 e8 e7 e6 e5 e4 e3 e2 e1
  rw [c17] at y27
  have hv27 : pv17 = .int pe27 := by cases y27; exact hpe27
  clear y27
  rw [hv27] at c17
  have h1 : hT9 56 1 h := ⟨v1_0, v1_1, v1_2, v1_3, v1_15, v14_1, pe27, l2, l3, l4, l5, l6, l7, l8, l9, l10, l11, l12, l13, l15, l16, l18, l19, l20, l21, l22, l23, l24, l25, ⟨c1, d2, d3, d4, d5, d6, d7, d8, d9, d10, d11, d12, d13, c14, d15, d16, c17, d18, d19, d20, d21, d22, d23, d24, d25⟩, ⟨m2, m3, m4, m5, m6, m7, m8, m9, m10, m11, m12, m13, m15, m16⟩, fun _ => ⟨m18, m19, m20, m21, m22, m23, m24, m25⟩⟩
  exact h1
theorem la_sbA2 {h : J_H} (hI : IA h) : hT9 81 1 h := by
  obtain ⟨r, t, hg⟩ := hI
  obtain ⟨f1, c1, b1⟩ := i_ok2_ok (a := 81) (ci := 7) (Ts := [none, some none, some none, some none, some (some (some 82)), some (some (some 83)), some (some (some 84)), some (some (some 85)), some (some (some 86)), some (some (some 87)), some (some (some 88)), some (some (some 89)), some (some (some 90)), some (some (some 91)), some (some (some 92)), some none, some (some (some 93)), some (some (some 94)), some (some (some 97))]) hg (by decide +kernel)
  obtain ⟨v1_0, f1_0, e9, -, b1_0⟩ := b1; subst e9
  obtain ⟨w9, f1_1, e9, ⟨v1_1, rfl⟩, b1_1⟩ := b1_0; subst e9
  obtain ⟨w9, f1_2, e9, ⟨v1_2, rfl⟩, b1_2⟩ := b1_1; subst e9
  obtain ⟨w9, f1_3, e9, ⟨v1_3, rfl⟩, b1_3⟩ := b1_2; subst e9
  obtain ⟨w9, f1_4, e9, rfl, b1_4⟩ := b1_3; subst e9
  obtain ⟨w9, f1_5, e9, rfl, b1_5⟩ := b1_4; subst e9
  obtain ⟨w9, f1_6, e9, rfl, b1_6⟩ := b1_5; subst e9
  obtain ⟨w9, f1_7, e9, rfl, b1_7⟩ := b1_6; subst e9
  obtain ⟨w9, f1_8, e9, rfl, b1_8⟩ := b1_7; subst e9
  obtain ⟨w9, f1_9, e9, rfl, b1_9⟩ := b1_8; subst e9
  obtain ⟨w9, f1_10, e9, rfl, b1_10⟩ := b1_9; subst e9
  obtain ⟨w9, f1_11, e9, rfl, b1_11⟩ := b1_10; subst e9
  obtain ⟨w9, f1_12, e9, rfl, b1_12⟩ := b1_11; subst e9
  obtain ⟨w9, f1_13, e9, rfl, b1_13⟩ := b1_12; subst e9
  obtain ⟨w9, f1_14, e9, rfl, b1_14⟩ := b1_13; subst e9
  obtain ⟨w9, f1_15, e9, ⟨v1_15, rfl⟩, b1_15⟩ := b1_14; subst e9
  obtain ⟨w9, f1_16, e9, rfl, b1_16⟩ := b1_15; subst e9
  obtain ⟨w9, f1_17, e9, rfl, b1_17⟩ := b1_16; subst e9
  obtain ⟨w9, f1_18, e9, rfl, b1_18⟩ := b1_17; subst e9
  obtain rfl := b1_18
  obtain ⟨l2, d2, m2⟩ := i_oi (a := 82) (kd := 0) (n := 5) hg (by decide +kernel)
  obtain ⟨l3, d3, m3⟩ := i_oi (a := 83) (kd := 0) (n := 5) hg (by decide +kernel)
  obtain ⟨l4, d4, m4⟩ := i_oi (a := 84) (kd := 0) (n := 5) hg (by decide +kernel)
  obtain ⟨l5, d5, m5⟩ := i_oi (a := 85) (kd := 0) (n := 5) hg (by decide +kernel)
  obtain ⟨l6, d6, m6⟩ := i_oi (a := 86) (kd := 0) (n := 5) hg (by decide +kernel)
  obtain ⟨l7, d7, m7⟩ := i_oi (a := 87) (kd := 0) (n := 5) hg (by decide +kernel)
  obtain ⟨l8, d8, m8⟩ := i_oi (a := 88) (kd := 0) (n := 5) hg (by decide +kernel)
  obtain ⟨l9, d9, m9⟩ := i_oi (a := 89) (kd := 0) (n := 6) hg (by decide +kernel)
  obtain ⟨l10, d10, m10⟩ := i_oi (a := 90) (kd := 0) (n := 6) hg (by decide +kernel)
  obtain ⟨l11, d11, m11⟩ := i_oi (a := 91) (kd := 0) (n := 35) hg (by decide +kernel)
  obtain ⟨l12, d12, m12⟩ := i_oi (a := 92) (kd := 0) (n := 35) hg (by decide +kernel)
  obtain ⟨l13, d13, m13⟩ := i_oi (a := 93) (kd := 0) (n := 12) hg (by decide +kernel)
  obtain ⟨f14, c14, b14⟩ := i_ok2_ok (a := 94) (ci := 5) (Ts := [some (some (some 95)), some none, some (some (some 96))]) hg (by decide +kernel)
  obtain ⟨w9, f14_0, e9, rfl, b14_0⟩ := b14; subst e9
  obtain ⟨w9, f14_1, e9, ⟨v14_1, rfl⟩, b14_1⟩ := b14_0; subst e9
  obtain ⟨w9, f14_2, e9, rfl, b14_2⟩ := b14_1; subst e9
  obtain rfl := b14_2
  obtain ⟨l15, d15, m15⟩ := i_oi (a := 95) (kd := 0) (n := 5) hg (by decide +kernel)
  obtain ⟨l16, d16, m16⟩ := i_oi (a := 96) (kd := 0) (n := 5) hg (by decide +kernel)
  obtain ⟨f17, c17, b17⟩ := i_og_ok (a := 97) (ci := 3) (Ts := [(some (.inr (some 98))), (some (.inr (some 99))), (some (.inr (some 100))), (some (.inr (some 101))), (some (.inr (some 102))), (some (.inr (some 103))), (some (.inr (some 104))), (some (.inr (some 105))), none, (some (.inl (.ofNat 1, .ofNat 1)))]) hg (by decide +kernel)
  obtain ⟨w9, f17_0, e9, t9, b17_0⟩ := i_a2_c b17; subst e9; obtain rfl := i_tvr t9; clear t9
  obtain ⟨w9, f17_1, e9, t9, b17_1⟩ := i_a2_c b17_0; subst e9; obtain rfl := i_tvr t9; clear t9
  obtain ⟨w9, f17_2, e9, t9, b17_2⟩ := i_a2_c b17_1; subst e9; obtain rfl := i_tvr t9; clear t9
  obtain ⟨w9, f17_3, e9, t9, b17_3⟩ := i_a2_c b17_2; subst e9; obtain rfl := i_tvr t9; clear t9
  obtain ⟨w9, f17_4, e9, t9, b17_4⟩ := i_a2_c b17_3; subst e9; obtain rfl := i_tvr t9; clear t9
  obtain ⟨w9, f17_5, e9, t9, b17_5⟩ := i_a2_c b17_4; subst e9; obtain rfl := i_tvr t9; clear t9
  obtain ⟨w9, f17_6, e9, t9, b17_6⟩ := i_a2_c b17_5; subst e9; obtain rfl := i_tvr t9; clear t9
  obtain ⟨w9, f17_7, e9, t9, b17_7⟩ := i_a2_c b17_6; subst e9; obtain rfl := i_tvr t9; clear t9
  obtain ⟨pv17, f17_8, e9, t9, b17_8⟩ := i_a2_c b17_7; subst e9; clear t9
  obtain ⟨w9, f17_9, e9, t9, b17_9⟩ := i_a2_c b17_8; subst e9; obtain ⟨pk17, rfl, g17⟩ := i_tvi t9; clear t9
  obtain rfl := i_a2_n b17_9
  obtain rfl : pk17 = 1 := Int32.toInt_inj.mp (by have g1 := g17.1; have g2 := g17.2; have e1 : (1 : Int32).toInt = 1 := rfl; simp only [Int.ofNat_eq_natCast] at g1 g2; omega)
  obtain ⟨l18, d18, m18⟩ := i_oi (a := 98) (kd := 0) (n := 25) hg (by decide +kernel)
  obtain ⟨l19, d19, m19⟩ := i_oi (a := 99) (kd := 0) (n := 25) hg (by decide +kernel)
  obtain ⟨l20, d20, m20⟩ := i_oi (a := 100) (kd := 0) (n := 25) hg (by decide +kernel)
  obtain ⟨l21, d21, m21⟩ := i_oi (a := 101) (kd := 0) (n := 7) hg (by decide +kernel)
  obtain ⟨l22, d22, m22⟩ := i_oi (a := 102) (kd := 0) (n := 5) hg (by decide +kernel)
  obtain ⟨l23, d23, m23⟩ := i_oi (a := 103) (kd := 0) (n := 6) hg (by decide +kernel)
  obtain ⟨l24, d24, m24⟩ := i_oi (a := 104) (kd := 0) (n := 30) hg (by decide +kernel)
  obtain ⟨l25, d25, m25⟩ := i_oi (a := 105) (kd := 0) (n := 260) hg (by decide +kernel)
  obtain ⟨x27, y27, z27⟩ := i_ok2_ok (a := 97) (ci := 3) (Ts := [none, none, none, none, none, none, none, none, some none, none]) hg (by decide +kernel)
  obtain ⟨_, _, e9, -, _, _, e8, -, _, _, e7, -, _, _, e6, -, _, _, e5, -, _, _, e4, -, _, _, e3, -, _, _, e2, -, _, _, e1, ⟨pe27, hpe27⟩, -⟩ := z27
  subst e9 e8 e7 e6 e5 e4 e3 e2 e1
  rw [c17] at y27
  have hv27 : pv17 = .int pe27 := by cases y27; exact hpe27
  clear y27
  rw [hv27] at c17
  have h1 : hT9 81 1 h := ⟨v1_0, v1_1, v1_2, v1_3, v1_15, v14_1, pe27, l2, l3, l4, l5, l6, l7, l8, l9, l10, l11, l12, l13, l15, l16, l18, l19, l20, l21, l22, l23, l24, l25, ⟨c1, d2, d3, d4, d5, d6, d7, d8, d9, d10, d11, d12, d13, c14, d15, d16, c17, d18, d19, d20, d21, d22, d23, d24, d25⟩, ⟨m2, m3, m4, m5, m6, m7, m8, m9, m10, m11, m12, m13, m15, m16⟩, fun _ => ⟨m18, m19, m20, m21, m22, m23, m24, m25⟩⟩
  exact h1
theorem la_sbA3 {h : J_H} (hI : IA h) : hT9 106 1 h := by
  obtain ⟨r, t, hg⟩ := hI
  obtain ⟨f1, c1, b1⟩ := i_ok2_ok (a := 106) (ci := 7) (Ts := [none, some none, some none, some none, some (some (some 107)), some (some (some 108)), some (some (some 109)), some (some (some 110)), some (some (some 111)), some (some (some 112)), some (some (some 113)), some (some (some 114)), some (some (some 115)), some (some (some 116)), some (some (some 117)), some none, some (some (some 118)), some (some (some 119)), some (some (some 122))]) hg (by decide +kernel)
  obtain ⟨v1_0, f1_0, e9, -, b1_0⟩ := b1; subst e9
  obtain ⟨w9, f1_1, e9, ⟨v1_1, rfl⟩, b1_1⟩ := b1_0; subst e9
  obtain ⟨w9, f1_2, e9, ⟨v1_2, rfl⟩, b1_2⟩ := b1_1; subst e9
  obtain ⟨w9, f1_3, e9, ⟨v1_3, rfl⟩, b1_3⟩ := b1_2; subst e9
  obtain ⟨w9, f1_4, e9, rfl, b1_4⟩ := b1_3; subst e9
  obtain ⟨w9, f1_5, e9, rfl, b1_5⟩ := b1_4; subst e9
  obtain ⟨w9, f1_6, e9, rfl, b1_6⟩ := b1_5; subst e9
  obtain ⟨w9, f1_7, e9, rfl, b1_7⟩ := b1_6; subst e9
  obtain ⟨w9, f1_8, e9, rfl, b1_8⟩ := b1_7; subst e9
  obtain ⟨w9, f1_9, e9, rfl, b1_9⟩ := b1_8; subst e9
  obtain ⟨w9, f1_10, e9, rfl, b1_10⟩ := b1_9; subst e9
  obtain ⟨w9, f1_11, e9, rfl, b1_11⟩ := b1_10; subst e9
  obtain ⟨w9, f1_12, e9, rfl, b1_12⟩ := b1_11; subst e9
  obtain ⟨w9, f1_13, e9, rfl, b1_13⟩ := b1_12; subst e9
  obtain ⟨w9, f1_14, e9, rfl, b1_14⟩ := b1_13; subst e9
  obtain ⟨w9, f1_15, e9, ⟨v1_15, rfl⟩, b1_15⟩ := b1_14; subst e9
  obtain ⟨w9, f1_16, e9, rfl, b1_16⟩ := b1_15; subst e9
  obtain ⟨w9, f1_17, e9, rfl, b1_17⟩ := b1_16; subst e9
  obtain ⟨w9, f1_18, e9, rfl, b1_18⟩ := b1_17; subst e9
  obtain rfl := b1_18
  obtain ⟨l2, d2, m2⟩ := i_oi (a := 107) (kd := 0) (n := 5) hg (by decide +kernel)
  obtain ⟨l3, d3, m3⟩ := i_oi (a := 108) (kd := 0) (n := 5) hg (by decide +kernel)
  obtain ⟨l4, d4, m4⟩ := i_oi (a := 109) (kd := 0) (n := 5) hg (by decide +kernel)
  obtain ⟨l5, d5, m5⟩ := i_oi (a := 110) (kd := 0) (n := 5) hg (by decide +kernel)
  obtain ⟨l6, d6, m6⟩ := i_oi (a := 111) (kd := 0) (n := 5) hg (by decide +kernel)
  obtain ⟨l7, d7, m7⟩ := i_oi (a := 112) (kd := 0) (n := 5) hg (by decide +kernel)
  obtain ⟨l8, d8, m8⟩ := i_oi (a := 113) (kd := 0) (n := 5) hg (by decide +kernel)
  obtain ⟨l9, d9, m9⟩ := i_oi (a := 114) (kd := 0) (n := 6) hg (by decide +kernel)
  obtain ⟨l10, d10, m10⟩ := i_oi (a := 115) (kd := 0) (n := 6) hg (by decide +kernel)
  obtain ⟨l11, d11, m11⟩ := i_oi (a := 116) (kd := 0) (n := 35) hg (by decide +kernel)
  obtain ⟨l12, d12, m12⟩ := i_oi (a := 117) (kd := 0) (n := 35) hg (by decide +kernel)
  obtain ⟨l13, d13, m13⟩ := i_oi (a := 118) (kd := 0) (n := 12) hg (by decide +kernel)
  obtain ⟨f14, c14, b14⟩ := i_ok2_ok (a := 119) (ci := 5) (Ts := [some (some (some 120)), some none, some (some (some 121))]) hg (by decide +kernel)
  obtain ⟨w9, f14_0, e9, rfl, b14_0⟩ := b14; subst e9
  obtain ⟨w9, f14_1, e9, ⟨v14_1, rfl⟩, b14_1⟩ := b14_0; subst e9
  obtain ⟨w9, f14_2, e9, rfl, b14_2⟩ := b14_1; subst e9
  obtain rfl := b14_2
  obtain ⟨l15, d15, m15⟩ := i_oi (a := 120) (kd := 0) (n := 5) hg (by decide +kernel)
  obtain ⟨l16, d16, m16⟩ := i_oi (a := 121) (kd := 0) (n := 5) hg (by decide +kernel)
  obtain ⟨f17, c17, b17⟩ := i_og_ok (a := 122) (ci := 3) (Ts := [(some (.inr (some 123))), (some (.inr (some 124))), (some (.inr (some 125))), (some (.inr (some 126))), (some (.inr (some 127))), (some (.inr (some 128))), (some (.inr (some 129))), (some (.inr (some 130))), none, (some (.inl (.ofNat 1, .ofNat 1)))]) hg (by decide +kernel)
  obtain ⟨w9, f17_0, e9, t9, b17_0⟩ := i_a2_c b17; subst e9; obtain rfl := i_tvr t9; clear t9
  obtain ⟨w9, f17_1, e9, t9, b17_1⟩ := i_a2_c b17_0; subst e9; obtain rfl := i_tvr t9; clear t9
  obtain ⟨w9, f17_2, e9, t9, b17_2⟩ := i_a2_c b17_1; subst e9; obtain rfl := i_tvr t9; clear t9
  obtain ⟨w9, f17_3, e9, t9, b17_3⟩ := i_a2_c b17_2; subst e9; obtain rfl := i_tvr t9; clear t9
  obtain ⟨w9, f17_4, e9, t9, b17_4⟩ := i_a2_c b17_3; subst e9; obtain rfl := i_tvr t9; clear t9
  obtain ⟨w9, f17_5, e9, t9, b17_5⟩ := i_a2_c b17_4; subst e9; obtain rfl := i_tvr t9; clear t9
  obtain ⟨w9, f17_6, e9, t9, b17_6⟩ := i_a2_c b17_5; subst e9; obtain rfl := i_tvr t9; clear t9
  obtain ⟨w9, f17_7, e9, t9, b17_7⟩ := i_a2_c b17_6; subst e9; obtain rfl := i_tvr t9; clear t9
  obtain ⟨pv17, f17_8, e9, t9, b17_8⟩ := i_a2_c b17_7; subst e9; clear t9
  obtain ⟨w9, f17_9, e9, t9, b17_9⟩ := i_a2_c b17_8; subst e9; obtain ⟨pk17, rfl, g17⟩ := i_tvi t9; clear t9
  obtain rfl := i_a2_n b17_9
  obtain rfl : pk17 = 1 := Int32.toInt_inj.mp (by have g1 := g17.1; have g2 := g17.2; have e1 : (1 : Int32).toInt = 1 := rfl; simp only [Int.ofNat_eq_natCast] at g1 g2; omega)
  obtain ⟨l18, d18, m18⟩ := i_oi (a := 123) (kd := 0) (n := 25) hg (by decide +kernel)
  obtain ⟨l19, d19, m19⟩ := i_oi (a := 124) (kd := 0) (n := 25) hg (by decide +kernel)
  obtain ⟨l20, d20, m20⟩ := i_oi (a := 125) (kd := 0) (n := 25) hg (by decide +kernel)
  obtain ⟨l21, d21, m21⟩ := i_oi (a := 126) (kd := 0) (n := 7) hg (by decide +kernel)
  obtain ⟨l22, d22, m22⟩ := i_oi (a := 127) (kd := 0) (n := 5) hg (by decide +kernel)
  obtain ⟨l23, d23, m23⟩ := i_oi (a := 128) (kd := 0) (n := 6) hg (by decide +kernel)
  obtain ⟨l24, d24, m24⟩ := i_oi (a := 129) (kd := 0) (n := 30) hg (by decide +kernel)
  obtain ⟨l25, d25, m25⟩ := i_oi (a := 130) (kd := 0) (n := 260) hg (by decide +kernel)
  obtain ⟨x27, y27, z27⟩ := i_ok2_ok (a := 122) (ci := 3) (Ts := [none, none, none, none, none, none, none, none, some none, none]) hg (by decide +kernel)
  obtain ⟨_, _, e9, -, _, _, e8, -, _, _, e7, -, _, _, e6, -, _, _, e5, -, _, _, e4, -, _, _, e3, -, _, _, e2, -, _, _, e1, ⟨pe27, hpe27⟩, -⟩ := z27
  subst e9 e8 e7 e6 e5 e4 e3 e2 e1
  rw [c17] at y27
  have hv27 : pv17 = .int pe27 := by cases y27; exact hpe27
  clear y27
  rw [hv27] at c17
  have h1 : hT9 106 1 h := ⟨v1_0, v1_1, v1_2, v1_3, v1_15, v14_1, pe27, l2, l3, l4, l5, l6, l7, l8, l9, l10, l11, l12, l13, l15, l16, l18, l19, l20, l21, l22, l23, l24, l25, ⟨c1, d2, d3, d4, d5, d6, d7, d8, d9, d10, d11, d12, d13, c14, d15, d16, c17, d18, d19, d20, d21, d22, d23, d24, d25⟩, ⟨m2, m3, m4, m5, m6, m7, m8, m9, m10, m11, m12, m13, m15, m16⟩, fun _ => ⟨m18, m19, m20, m21, m22, m23, m24, m25⟩⟩
  exact h1
theorem la_sbA4 {h : J_H} (hI : IA h) : hT9 131 1 h := by
  obtain ⟨r, t, hg⟩ := hI
  obtain ⟨f1, c1, b1⟩ := i_ok2_ok (a := 131) (ci := 7) (Ts := [none, some none, some none, some none, some (some (some 132)), some (some (some 133)), some (some (some 134)), some (some (some 135)), some (some (some 136)), some (some (some 137)), some (some (some 138)), some (some (some 139)), some (some (some 140)), some (some (some 141)), some (some (some 142)), some none, some (some (some 143)), some (some (some 144)), some (some (some 147))]) hg (by decide +kernel)
  obtain ⟨v1_0, f1_0, e9, -, b1_0⟩ := b1; subst e9
  obtain ⟨w9, f1_1, e9, ⟨v1_1, rfl⟩, b1_1⟩ := b1_0; subst e9
  obtain ⟨w9, f1_2, e9, ⟨v1_2, rfl⟩, b1_2⟩ := b1_1; subst e9
  obtain ⟨w9, f1_3, e9, ⟨v1_3, rfl⟩, b1_3⟩ := b1_2; subst e9
  obtain ⟨w9, f1_4, e9, rfl, b1_4⟩ := b1_3; subst e9
  obtain ⟨w9, f1_5, e9, rfl, b1_5⟩ := b1_4; subst e9
  obtain ⟨w9, f1_6, e9, rfl, b1_6⟩ := b1_5; subst e9
  obtain ⟨w9, f1_7, e9, rfl, b1_7⟩ := b1_6; subst e9
  obtain ⟨w9, f1_8, e9, rfl, b1_8⟩ := b1_7; subst e9
  obtain ⟨w9, f1_9, e9, rfl, b1_9⟩ := b1_8; subst e9
  obtain ⟨w9, f1_10, e9, rfl, b1_10⟩ := b1_9; subst e9
  obtain ⟨w9, f1_11, e9, rfl, b1_11⟩ := b1_10; subst e9
  obtain ⟨w9, f1_12, e9, rfl, b1_12⟩ := b1_11; subst e9
  obtain ⟨w9, f1_13, e9, rfl, b1_13⟩ := b1_12; subst e9
  obtain ⟨w9, f1_14, e9, rfl, b1_14⟩ := b1_13; subst e9
  obtain ⟨w9, f1_15, e9, ⟨v1_15, rfl⟩, b1_15⟩ := b1_14; subst e9
  obtain ⟨w9, f1_16, e9, rfl, b1_16⟩ := b1_15; subst e9
  obtain ⟨w9, f1_17, e9, rfl, b1_17⟩ := b1_16; subst e9
  obtain ⟨w9, f1_18, e9, rfl, b1_18⟩ := b1_17; subst e9
  obtain rfl := b1_18
  obtain ⟨l2, d2, m2⟩ := i_oi (a := 132) (kd := 0) (n := 5) hg (by decide +kernel)
  obtain ⟨l3, d3, m3⟩ := i_oi (a := 133) (kd := 0) (n := 5) hg (by decide +kernel)
  obtain ⟨l4, d4, m4⟩ := i_oi (a := 134) (kd := 0) (n := 5) hg (by decide +kernel)
  obtain ⟨l5, d5, m5⟩ := i_oi (a := 135) (kd := 0) (n := 5) hg (by decide +kernel)
  obtain ⟨l6, d6, m6⟩ := i_oi (a := 136) (kd := 0) (n := 5) hg (by decide +kernel)
  obtain ⟨l7, d7, m7⟩ := i_oi (a := 137) (kd := 0) (n := 5) hg (by decide +kernel)
  obtain ⟨l8, d8, m8⟩ := i_oi (a := 138) (kd := 0) (n := 5) hg (by decide +kernel)
  obtain ⟨l9, d9, m9⟩ := i_oi (a := 139) (kd := 0) (n := 6) hg (by decide +kernel)
  obtain ⟨l10, d10, m10⟩ := i_oi (a := 140) (kd := 0) (n := 6) hg (by decide +kernel)
  obtain ⟨l11, d11, m11⟩ := i_oi (a := 141) (kd := 0) (n := 35) hg (by decide +kernel)
  obtain ⟨l12, d12, m12⟩ := i_oi (a := 142) (kd := 0) (n := 35) hg (by decide +kernel)
  obtain ⟨l13, d13, m13⟩ := i_oi (a := 143) (kd := 0) (n := 12) hg (by decide +kernel)
  obtain ⟨f14, c14, b14⟩ := i_ok2_ok (a := 144) (ci := 5) (Ts := [some (some (some 145)), some none, some (some (some 146))]) hg (by decide +kernel)
  obtain ⟨w9, f14_0, e9, rfl, b14_0⟩ := b14; subst e9
  obtain ⟨w9, f14_1, e9, ⟨v14_1, rfl⟩, b14_1⟩ := b14_0; subst e9
  obtain ⟨w9, f14_2, e9, rfl, b14_2⟩ := b14_1; subst e9
  obtain rfl := b14_2
  obtain ⟨l15, d15, m15⟩ := i_oi (a := 145) (kd := 0) (n := 5) hg (by decide +kernel)
  obtain ⟨l16, d16, m16⟩ := i_oi (a := 146) (kd := 0) (n := 5) hg (by decide +kernel)
  obtain ⟨f17, c17, b17⟩ := i_og_ok (a := 147) (ci := 3) (Ts := [(some (.inr (some 148))), (some (.inr (some 149))), (some (.inr (some 150))), (some (.inr (some 151))), (some (.inr (some 152))), (some (.inr (some 153))), (some (.inr (some 154))), (some (.inr (some 155))), none, (some (.inl (.ofNat 1, .ofNat 1)))]) hg (by decide +kernel)
  obtain ⟨w9, f17_0, e9, t9, b17_0⟩ := i_a2_c b17; subst e9; obtain rfl := i_tvr t9; clear t9
  obtain ⟨w9, f17_1, e9, t9, b17_1⟩ := i_a2_c b17_0; subst e9; obtain rfl := i_tvr t9; clear t9
  obtain ⟨w9, f17_2, e9, t9, b17_2⟩ := i_a2_c b17_1; subst e9; obtain rfl := i_tvr t9; clear t9
  obtain ⟨w9, f17_3, e9, t9, b17_3⟩ := i_a2_c b17_2; subst e9; obtain rfl := i_tvr t9; clear t9
  obtain ⟨w9, f17_4, e9, t9, b17_4⟩ := i_a2_c b17_3; subst e9; obtain rfl := i_tvr t9; clear t9
  obtain ⟨w9, f17_5, e9, t9, b17_5⟩ := i_a2_c b17_4; subst e9; obtain rfl := i_tvr t9; clear t9
  obtain ⟨w9, f17_6, e9, t9, b17_6⟩ := i_a2_c b17_5; subst e9; obtain rfl := i_tvr t9; clear t9
  obtain ⟨w9, f17_7, e9, t9, b17_7⟩ := i_a2_c b17_6; subst e9; obtain rfl := i_tvr t9; clear t9
  obtain ⟨pv17, f17_8, e9, t9, b17_8⟩ := i_a2_c b17_7; subst e9; clear t9
  obtain ⟨w9, f17_9, e9, t9, b17_9⟩ := i_a2_c b17_8; subst e9; obtain ⟨pk17, rfl, g17⟩ := i_tvi t9; clear t9
  obtain rfl := i_a2_n b17_9
  obtain rfl : pk17 = 1 := Int32.toInt_inj.mp (by have g1 := g17.1; have g2 := g17.2; have e1 : (1 : Int32).toInt = 1 := rfl; simp only [Int.ofNat_eq_natCast] at g1 g2; omega)
  obtain ⟨l18, d18, m18⟩ := i_oi (a := 148) (kd := 0) (n := 25) hg (by decide +kernel)
  obtain ⟨l19, d19, m19⟩ := i_oi (a := 149) (kd := 0) (n := 25) hg (by decide +kernel)
  obtain ⟨l20, d20, m20⟩ := i_oi (a := 150) (kd := 0) (n := 25) hg (by decide +kernel)
  obtain ⟨l21, d21, m21⟩ := i_oi (a := 151) (kd := 0) (n := 7) hg (by decide +kernel)
  obtain ⟨l22, d22, m22⟩ := i_oi (a := 152) (kd := 0) (n := 5) hg (by decide +kernel)
  obtain ⟨l23, d23, m23⟩ := i_oi (a := 153) (kd := 0) (n := 6) hg (by decide +kernel)
  obtain ⟨l24, d24, m24⟩ := i_oi (a := 154) (kd := 0) (n := 30) hg (by decide +kernel)
  obtain ⟨l25, d25, m25⟩ := i_oi (a := 155) (kd := 0) (n := 260) hg (by decide +kernel)
  obtain ⟨x27, y27, z27⟩ := i_ok2_ok (a := 147) (ci := 3) (Ts := [none, none, none, none, none, none, none, none, some none, none]) hg (by decide +kernel)
  obtain ⟨_, _, e9, -, _, _, e8, -, _, _, e7, -, _, _, e6, -, _, _, e5, -, _, _, e4, -, _, _, e3, -, _, _, e2, -, _, _, e1, ⟨pe27, hpe27⟩, -⟩ := z27
  subst e9 e8 e7 e6 e5 e4 e3 e2 e1
  rw [c17] at y27
  have hv27 : pv17 = .int pe27 := by cases y27; exact hpe27
  clear y27
  rw [hv27] at c17
  have h1 : hT9 131 1 h := ⟨v1_0, v1_1, v1_2, v1_3, v1_15, v14_1, pe27, l2, l3, l4, l5, l6, l7, l8, l9, l10, l11, l12, l13, l15, l16, l18, l19, l20, l21, l22, l23, l24, l25, ⟨c1, d2, d3, d4, d5, d6, d7, d8, d9, d10, d11, d12, d13, c14, d15, d16, c17, d18, d19, d20, d21, d22, d23, d24, d25⟩, ⟨m2, m3, m4, m5, m6, m7, m8, m9, m10, m11, m12, m13, m15, m16⟩, fun _ => ⟨m18, m19, m20, m21, m22, m23, m24, m25⟩⟩
  exact h1
theorem la_sbA5 {h : J_H} (hI : IA h) : hT9 156 1 h := by
  obtain ⟨r, t, hg⟩ := hI
  obtain ⟨f1, c1, b1⟩ := i_ok2_ok (a := 156) (ci := 7) (Ts := [none, some none, some none, some none, some (some (some 157)), some (some (some 158)), some (some (some 159)), some (some (some 160)), some (some (some 161)), some (some (some 162)), some (some (some 163)), some (some (some 164)), some (some (some 165)), some (some (some 166)), some (some (some 167)), some none, some (some (some 168)), some (some (some 169)), some (some (some 172))]) hg (by decide +kernel)
  obtain ⟨v1_0, f1_0, e9, -, b1_0⟩ := b1; subst e9
  obtain ⟨w9, f1_1, e9, ⟨v1_1, rfl⟩, b1_1⟩ := b1_0; subst e9
  obtain ⟨w9, f1_2, e9, ⟨v1_2, rfl⟩, b1_2⟩ := b1_1; subst e9
  obtain ⟨w9, f1_3, e9, ⟨v1_3, rfl⟩, b1_3⟩ := b1_2; subst e9
  obtain ⟨w9, f1_4, e9, rfl, b1_4⟩ := b1_3; subst e9
  obtain ⟨w9, f1_5, e9, rfl, b1_5⟩ := b1_4; subst e9
  obtain ⟨w9, f1_6, e9, rfl, b1_6⟩ := b1_5; subst e9
  obtain ⟨w9, f1_7, e9, rfl, b1_7⟩ := b1_6; subst e9
  obtain ⟨w9, f1_8, e9, rfl, b1_8⟩ := b1_7; subst e9
  obtain ⟨w9, f1_9, e9, rfl, b1_9⟩ := b1_8; subst e9
  obtain ⟨w9, f1_10, e9, rfl, b1_10⟩ := b1_9; subst e9
  obtain ⟨w9, f1_11, e9, rfl, b1_11⟩ := b1_10; subst e9
  obtain ⟨w9, f1_12, e9, rfl, b1_12⟩ := b1_11; subst e9
  obtain ⟨w9, f1_13, e9, rfl, b1_13⟩ := b1_12; subst e9
  obtain ⟨w9, f1_14, e9, rfl, b1_14⟩ := b1_13; subst e9
  obtain ⟨w9, f1_15, e9, ⟨v1_15, rfl⟩, b1_15⟩ := b1_14; subst e9
  obtain ⟨w9, f1_16, e9, rfl, b1_16⟩ := b1_15; subst e9
  obtain ⟨w9, f1_17, e9, rfl, b1_17⟩ := b1_16; subst e9
  obtain ⟨w9, f1_18, e9, rfl, b1_18⟩ := b1_17; subst e9
  obtain rfl := b1_18
  obtain ⟨l2, d2, m2⟩ := i_oi (a := 157) (kd := 0) (n := 5) hg (by decide +kernel)
  obtain ⟨l3, d3, m3⟩ := i_oi (a := 158) (kd := 0) (n := 5) hg (by decide +kernel)
  obtain ⟨l4, d4, m4⟩ := i_oi (a := 159) (kd := 0) (n := 5) hg (by decide +kernel)
  obtain ⟨l5, d5, m5⟩ := i_oi (a := 160) (kd := 0) (n := 5) hg (by decide +kernel)
  obtain ⟨l6, d6, m6⟩ := i_oi (a := 161) (kd := 0) (n := 5) hg (by decide +kernel)
  obtain ⟨l7, d7, m7⟩ := i_oi (a := 162) (kd := 0) (n := 5) hg (by decide +kernel)
  obtain ⟨l8, d8, m8⟩ := i_oi (a := 163) (kd := 0) (n := 5) hg (by decide +kernel)
  obtain ⟨l9, d9, m9⟩ := i_oi (a := 164) (kd := 0) (n := 6) hg (by decide +kernel)
  obtain ⟨l10, d10, m10⟩ := i_oi (a := 165) (kd := 0) (n := 6) hg (by decide +kernel)
  obtain ⟨l11, d11, m11⟩ := i_oi (a := 166) (kd := 0) (n := 35) hg (by decide +kernel)
  obtain ⟨l12, d12, m12⟩ := i_oi (a := 167) (kd := 0) (n := 35) hg (by decide +kernel)
  obtain ⟨l13, d13, m13⟩ := i_oi (a := 168) (kd := 0) (n := 12) hg (by decide +kernel)
  obtain ⟨f14, c14, b14⟩ := i_ok2_ok (a := 169) (ci := 5) (Ts := [some (some (some 170)), some none, some (some (some 171))]) hg (by decide +kernel)
  obtain ⟨w9, f14_0, e9, rfl, b14_0⟩ := b14; subst e9
  obtain ⟨w9, f14_1, e9, ⟨v14_1, rfl⟩, b14_1⟩ := b14_0; subst e9
  obtain ⟨w9, f14_2, e9, rfl, b14_2⟩ := b14_1; subst e9
  obtain rfl := b14_2
  obtain ⟨l15, d15, m15⟩ := i_oi (a := 170) (kd := 0) (n := 5) hg (by decide +kernel)
  obtain ⟨l16, d16, m16⟩ := i_oi (a := 171) (kd := 0) (n := 5) hg (by decide +kernel)
  obtain ⟨f17, c17, b17⟩ := i_og_ok (a := 172) (ci := 3) (Ts := [(some (.inr (some 173))), (some (.inr (some 174))), (some (.inr (some 175))), (some (.inr (some 176))), (some (.inr (some 177))), (some (.inr (some 178))), (some (.inr (some 179))), (some (.inr (some 180))), none, (some (.inl (.ofNat 1, .ofNat 1)))]) hg (by decide +kernel)
  obtain ⟨w9, f17_0, e9, t9, b17_0⟩ := i_a2_c b17; subst e9; obtain rfl := i_tvr t9; clear t9
  obtain ⟨w9, f17_1, e9, t9, b17_1⟩ := i_a2_c b17_0; subst e9; obtain rfl := i_tvr t9; clear t9
  obtain ⟨w9, f17_2, e9, t9, b17_2⟩ := i_a2_c b17_1; subst e9; obtain rfl := i_tvr t9; clear t9
  obtain ⟨w9, f17_3, e9, t9, b17_3⟩ := i_a2_c b17_2; subst e9; obtain rfl := i_tvr t9; clear t9
  obtain ⟨w9, f17_4, e9, t9, b17_4⟩ := i_a2_c b17_3; subst e9; obtain rfl := i_tvr t9; clear t9
  obtain ⟨w9, f17_5, e9, t9, b17_5⟩ := i_a2_c b17_4; subst e9; obtain rfl := i_tvr t9; clear t9
  obtain ⟨w9, f17_6, e9, t9, b17_6⟩ := i_a2_c b17_5; subst e9; obtain rfl := i_tvr t9; clear t9
  obtain ⟨w9, f17_7, e9, t9, b17_7⟩ := i_a2_c b17_6; subst e9; obtain rfl := i_tvr t9; clear t9
  obtain ⟨pv17, f17_8, e9, t9, b17_8⟩ := i_a2_c b17_7; subst e9; clear t9
  obtain ⟨w9, f17_9, e9, t9, b17_9⟩ := i_a2_c b17_8; subst e9; obtain ⟨pk17, rfl, g17⟩ := i_tvi t9; clear t9
  obtain rfl := i_a2_n b17_9
  obtain rfl : pk17 = 1 := Int32.toInt_inj.mp (by have g1 := g17.1; have g2 := g17.2; have e1 : (1 : Int32).toInt = 1 := rfl; simp only [Int.ofNat_eq_natCast] at g1 g2; omega)
  obtain ⟨l18, d18, m18⟩ := i_oi (a := 173) (kd := 0) (n := 25) hg (by decide +kernel)
  obtain ⟨l19, d19, m19⟩ := i_oi (a := 174) (kd := 0) (n := 25) hg (by decide +kernel)
  obtain ⟨l20, d20, m20⟩ := i_oi (a := 175) (kd := 0) (n := 25) hg (by decide +kernel)
  obtain ⟨l21, d21, m21⟩ := i_oi (a := 176) (kd := 0) (n := 7) hg (by decide +kernel)
  obtain ⟨l22, d22, m22⟩ := i_oi (a := 177) (kd := 0) (n := 5) hg (by decide +kernel)
  obtain ⟨l23, d23, m23⟩ := i_oi (a := 178) (kd := 0) (n := 6) hg (by decide +kernel)
  obtain ⟨l24, d24, m24⟩ := i_oi (a := 179) (kd := 0) (n := 30) hg (by decide +kernel)
  obtain ⟨l25, d25, m25⟩ := i_oi (a := 180) (kd := 0) (n := 260) hg (by decide +kernel)
  obtain ⟨x27, y27, z27⟩ := i_ok2_ok (a := 172) (ci := 3) (Ts := [none, none, none, none, none, none, none, none, some none, none]) hg (by decide +kernel)
  obtain ⟨_, _, e9, -, _, _, e8, -, _, _, e7, -, _, _, e6, -, _, _, e5, -, _, _, e4, -, _, _, e3, -, _, _, e2, -, _, _, e1, ⟨pe27, hpe27⟩, -⟩ := z27
  subst e9 e8 e7 e6 e5 e4 e3 e2 e1
  rw [c17] at y27
  have hv27 : pv17 = .int pe27 := by cases y27; exact hpe27
  clear y27
  rw [hv27] at c17
  have h1 : hT9 156 1 h := ⟨v1_0, v1_1, v1_2, v1_3, v1_15, v14_1, pe27, l2, l3, l4, l5, l6, l7, l8, l9, l10, l11, l12, l13, l15, l16, l18, l19, l20, l21, l22, l23, l24, l25, ⟨c1, d2, d3, d4, d5, d6, d7, d8, d9, d10, d11, d12, d13, c14, d15, d16, c17, d18, d19, d20, d21, d22, d23, d24, d25⟩, ⟨m2, m3, m4, m5, m6, m7, m8, m9, m10, m11, m12, m13, m15, m16⟩, fun _ => ⟨m18, m19, m20, m21, m22, m23, m24, m25⟩⟩
  exact h1
theorem la_sbA6 {h : J_H} (hI : IA h) : hT9 181 1 h := by
  obtain ⟨r, t, hg⟩ := hI
  obtain ⟨f1, c1, b1⟩ := i_ok2_ok (a := 181) (ci := 7) (Ts := [none, some none, some none, some none, some (some (some 182)), some (some (some 183)), some (some (some 184)), some (some (some 185)), some (some (some 186)), some (some (some 187)), some (some (some 188)), some (some (some 189)), some (some (some 190)), some (some (some 191)), some (some (some 192)), some none, some (some (some 193)), some (some (some 194)), some (some (some 197))]) hg (by decide +kernel)
  obtain ⟨v1_0, f1_0, e9, -, b1_0⟩ := b1; subst e9
  obtain ⟨w9, f1_1, e9, ⟨v1_1, rfl⟩, b1_1⟩ := b1_0; subst e9
  obtain ⟨w9, f1_2, e9, ⟨v1_2, rfl⟩, b1_2⟩ := b1_1; subst e9
  obtain ⟨w9, f1_3, e9, ⟨v1_3, rfl⟩, b1_3⟩ := b1_2; subst e9
  obtain ⟨w9, f1_4, e9, rfl, b1_4⟩ := b1_3; subst e9
  obtain ⟨w9, f1_5, e9, rfl, b1_5⟩ := b1_4; subst e9
  obtain ⟨w9, f1_6, e9, rfl, b1_6⟩ := b1_5; subst e9
  obtain ⟨w9, f1_7, e9, rfl, b1_7⟩ := b1_6; subst e9
  obtain ⟨w9, f1_8, e9, rfl, b1_8⟩ := b1_7; subst e9
  obtain ⟨w9, f1_9, e9, rfl, b1_9⟩ := b1_8; subst e9
  obtain ⟨w9, f1_10, e9, rfl, b1_10⟩ := b1_9; subst e9
  obtain ⟨w9, f1_11, e9, rfl, b1_11⟩ := b1_10; subst e9
  obtain ⟨w9, f1_12, e9, rfl, b1_12⟩ := b1_11; subst e9
  obtain ⟨w9, f1_13, e9, rfl, b1_13⟩ := b1_12; subst e9
  obtain ⟨w9, f1_14, e9, rfl, b1_14⟩ := b1_13; subst e9
  obtain ⟨w9, f1_15, e9, ⟨v1_15, rfl⟩, b1_15⟩ := b1_14; subst e9
  obtain ⟨w9, f1_16, e9, rfl, b1_16⟩ := b1_15; subst e9
  obtain ⟨w9, f1_17, e9, rfl, b1_17⟩ := b1_16; subst e9
  obtain ⟨w9, f1_18, e9, rfl, b1_18⟩ := b1_17; subst e9
  obtain rfl := b1_18
  obtain ⟨l2, d2, m2⟩ := i_oi (a := 182) (kd := 0) (n := 5) hg (by decide +kernel)
  obtain ⟨l3, d3, m3⟩ := i_oi (a := 183) (kd := 0) (n := 5) hg (by decide +kernel)
  obtain ⟨l4, d4, m4⟩ := i_oi (a := 184) (kd := 0) (n := 5) hg (by decide +kernel)
  obtain ⟨l5, d5, m5⟩ := i_oi (a := 185) (kd := 0) (n := 5) hg (by decide +kernel)
  obtain ⟨l6, d6, m6⟩ := i_oi (a := 186) (kd := 0) (n := 5) hg (by decide +kernel)
  obtain ⟨l7, d7, m7⟩ := i_oi (a := 187) (kd := 0) (n := 5) hg (by decide +kernel)
  obtain ⟨l8, d8, m8⟩ := i_oi (a := 188) (kd := 0) (n := 5) hg (by decide +kernel)
  obtain ⟨l9, d9, m9⟩ := i_oi (a := 189) (kd := 0) (n := 6) hg (by decide +kernel)
  obtain ⟨l10, d10, m10⟩ := i_oi (a := 190) (kd := 0) (n := 6) hg (by decide +kernel)
  obtain ⟨l11, d11, m11⟩ := i_oi (a := 191) (kd := 0) (n := 35) hg (by decide +kernel)
  obtain ⟨l12, d12, m12⟩ := i_oi (a := 192) (kd := 0) (n := 35) hg (by decide +kernel)
  obtain ⟨l13, d13, m13⟩ := i_oi (a := 193) (kd := 0) (n := 12) hg (by decide +kernel)
  obtain ⟨f14, c14, b14⟩ := i_ok2_ok (a := 194) (ci := 5) (Ts := [some (some (some 195)), some none, some (some (some 196))]) hg (by decide +kernel)
  obtain ⟨w9, f14_0, e9, rfl, b14_0⟩ := b14; subst e9
  obtain ⟨w9, f14_1, e9, ⟨v14_1, rfl⟩, b14_1⟩ := b14_0; subst e9
  obtain ⟨w9, f14_2, e9, rfl, b14_2⟩ := b14_1; subst e9
  obtain rfl := b14_2
  obtain ⟨l15, d15, m15⟩ := i_oi (a := 195) (kd := 0) (n := 5) hg (by decide +kernel)
  obtain ⟨l16, d16, m16⟩ := i_oi (a := 196) (kd := 0) (n := 5) hg (by decide +kernel)
  obtain ⟨f17, c17, b17⟩ := i_og_ok (a := 197) (ci := 3) (Ts := [(some (.inr (some 198))), (some (.inr (some 199))), (some (.inr (some 200))), (some (.inr (some 201))), (some (.inr (some 202))), (some (.inr (some 203))), (some (.inr (some 204))), (some (.inr (some 205))), none, (some (.inl (.ofNat 1, .ofNat 1)))]) hg (by decide +kernel)
  obtain ⟨w9, f17_0, e9, t9, b17_0⟩ := i_a2_c b17; subst e9; obtain rfl := i_tvr t9; clear t9
  obtain ⟨w9, f17_1, e9, t9, b17_1⟩ := i_a2_c b17_0; subst e9; obtain rfl := i_tvr t9; clear t9
  obtain ⟨w9, f17_2, e9, t9, b17_2⟩ := i_a2_c b17_1; subst e9; obtain rfl := i_tvr t9; clear t9
  obtain ⟨w9, f17_3, e9, t9, b17_3⟩ := i_a2_c b17_2; subst e9; obtain rfl := i_tvr t9; clear t9
  obtain ⟨w9, f17_4, e9, t9, b17_4⟩ := i_a2_c b17_3; subst e9; obtain rfl := i_tvr t9; clear t9
  obtain ⟨w9, f17_5, e9, t9, b17_5⟩ := i_a2_c b17_4; subst e9; obtain rfl := i_tvr t9; clear t9
  obtain ⟨w9, f17_6, e9, t9, b17_6⟩ := i_a2_c b17_5; subst e9; obtain rfl := i_tvr t9; clear t9
  obtain ⟨w9, f17_7, e9, t9, b17_7⟩ := i_a2_c b17_6; subst e9; obtain rfl := i_tvr t9; clear t9
  obtain ⟨pv17, f17_8, e9, t9, b17_8⟩ := i_a2_c b17_7; subst e9; clear t9
  obtain ⟨w9, f17_9, e9, t9, b17_9⟩ := i_a2_c b17_8; subst e9; obtain ⟨pk17, rfl, g17⟩ := i_tvi t9; clear t9
  obtain rfl := i_a2_n b17_9
  obtain rfl : pk17 = 1 := Int32.toInt_inj.mp (by have g1 := g17.1; have g2 := g17.2; have e1 : (1 : Int32).toInt = 1 := rfl; simp only [Int.ofNat_eq_natCast] at g1 g2; omega)
  obtain ⟨l18, d18, m18⟩ := i_oi (a := 198) (kd := 0) (n := 25) hg (by decide +kernel)
  obtain ⟨l19, d19, m19⟩ := i_oi (a := 199) (kd := 0) (n := 25) hg (by decide +kernel)
  obtain ⟨l20, d20, m20⟩ := i_oi (a := 200) (kd := 0) (n := 25) hg (by decide +kernel)
  obtain ⟨l21, d21, m21⟩ := i_oi (a := 201) (kd := 0) (n := 7) hg (by decide +kernel)
  obtain ⟨l22, d22, m22⟩ := i_oi (a := 202) (kd := 0) (n := 5) hg (by decide +kernel)
  obtain ⟨l23, d23, m23⟩ := i_oi (a := 203) (kd := 0) (n := 6) hg (by decide +kernel)
  obtain ⟨l24, d24, m24⟩ := i_oi (a := 204) (kd := 0) (n := 30) hg (by decide +kernel)
  obtain ⟨l25, d25, m25⟩ := i_oi (a := 205) (kd := 0) (n := 260) hg (by decide +kernel)
  obtain ⟨x27, y27, z27⟩ := i_ok2_ok (a := 197) (ci := 3) (Ts := [none, none, none, none, none, none, none, none, some none, none]) hg (by decide +kernel)
  obtain ⟨_, _, e9, -, _, _, e8, -, _, _, e7, -, _, _, e6, -, _, _, e5, -, _, _, e4, -, _, _, e3, -, _, _, e2, -, _, _, e1, ⟨pe27, hpe27⟩, -⟩ := z27
  subst e9 e8 e7 e6 e5 e4 e3 e2 e1
  rw [c17] at y27
  have hv27 : pv17 = .int pe27 := by cases y27; exact hpe27
  clear y27
  rw [hv27] at c17
  have h1 : hT9 181 1 h := ⟨v1_0, v1_1, v1_2, v1_3, v1_15, v14_1, pe27, l2, l3, l4, l5, l6, l7, l8, l9, l10, l11, l12, l13, l15, l16, l18, l19, l20, l21, l22, l23, l24, l25, ⟨c1, d2, d3, d4, d5, d6, d7, d8, d9, d10, d11, d12, d13, c14, d15, d16, c17, d18, d19, d20, d21, d22, d23, d24, d25⟩, ⟨m2, m3, m4, m5, m6, m7, m8, m9, m10, m11, m12, m13, m15, m16⟩, fun _ => ⟨m18, m19, m20, m21, m22, m23, m24, m25⟩⟩
  exact h1
theorem la_sbA7 {h : J_H} (hI : IA h) : hT9 206 1 h := by
  obtain ⟨r, t, hg⟩ := hI
  obtain ⟨f1, c1, b1⟩ := i_ok2_ok (a := 206) (ci := 7) (Ts := [none, some none, some none, some none, some (some (some 207)), some (some (some 208)), some (some (some 209)), some (some (some 210)), some (some (some 211)), some (some (some 212)), some (some (some 213)), some (some (some 214)), some (some (some 215)), some (some (some 216)), some (some (some 217)), some none, some (some (some 218)), some (some (some 219)), some (some (some 222))]) hg (by decide +kernel)
  obtain ⟨v1_0, f1_0, e9, -, b1_0⟩ := b1; subst e9
  obtain ⟨w9, f1_1, e9, ⟨v1_1, rfl⟩, b1_1⟩ := b1_0; subst e9
  obtain ⟨w9, f1_2, e9, ⟨v1_2, rfl⟩, b1_2⟩ := b1_1; subst e9
  obtain ⟨w9, f1_3, e9, ⟨v1_3, rfl⟩, b1_3⟩ := b1_2; subst e9
  obtain ⟨w9, f1_4, e9, rfl, b1_4⟩ := b1_3; subst e9
  obtain ⟨w9, f1_5, e9, rfl, b1_5⟩ := b1_4; subst e9
  obtain ⟨w9, f1_6, e9, rfl, b1_6⟩ := b1_5; subst e9
  obtain ⟨w9, f1_7, e9, rfl, b1_7⟩ := b1_6; subst e9
  obtain ⟨w9, f1_8, e9, rfl, b1_8⟩ := b1_7; subst e9
  obtain ⟨w9, f1_9, e9, rfl, b1_9⟩ := b1_8; subst e9
  obtain ⟨w9, f1_10, e9, rfl, b1_10⟩ := b1_9; subst e9
  obtain ⟨w9, f1_11, e9, rfl, b1_11⟩ := b1_10; subst e9
  obtain ⟨w9, f1_12, e9, rfl, b1_12⟩ := b1_11; subst e9
  obtain ⟨w9, f1_13, e9, rfl, b1_13⟩ := b1_12; subst e9
  obtain ⟨w9, f1_14, e9, rfl, b1_14⟩ := b1_13; subst e9
  obtain ⟨w9, f1_15, e9, ⟨v1_15, rfl⟩, b1_15⟩ := b1_14; subst e9
  obtain ⟨w9, f1_16, e9, rfl, b1_16⟩ := b1_15; subst e9
  obtain ⟨w9, f1_17, e9, rfl, b1_17⟩ := b1_16; subst e9
  obtain ⟨w9, f1_18, e9, rfl, b1_18⟩ := b1_17; subst e9
  obtain rfl := b1_18
  obtain ⟨l2, d2, m2⟩ := i_oi (a := 207) (kd := 0) (n := 5) hg (by decide +kernel)
  obtain ⟨l3, d3, m3⟩ := i_oi (a := 208) (kd := 0) (n := 5) hg (by decide +kernel)
  obtain ⟨l4, d4, m4⟩ := i_oi (a := 209) (kd := 0) (n := 5) hg (by decide +kernel)
  obtain ⟨l5, d5, m5⟩ := i_oi (a := 210) (kd := 0) (n := 5) hg (by decide +kernel)
  obtain ⟨l6, d6, m6⟩ := i_oi (a := 211) (kd := 0) (n := 5) hg (by decide +kernel)
  obtain ⟨l7, d7, m7⟩ := i_oi (a := 212) (kd := 0) (n := 5) hg (by decide +kernel)
  obtain ⟨l8, d8, m8⟩ := i_oi (a := 213) (kd := 0) (n := 5) hg (by decide +kernel)
  obtain ⟨l9, d9, m9⟩ := i_oi (a := 214) (kd := 0) (n := 6) hg (by decide +kernel)
  obtain ⟨l10, d10, m10⟩ := i_oi (a := 215) (kd := 0) (n := 6) hg (by decide +kernel)
  obtain ⟨l11, d11, m11⟩ := i_oi (a := 216) (kd := 0) (n := 35) hg (by decide +kernel)
  obtain ⟨l12, d12, m12⟩ := i_oi (a := 217) (kd := 0) (n := 35) hg (by decide +kernel)
  obtain ⟨l13, d13, m13⟩ := i_oi (a := 218) (kd := 0) (n := 12) hg (by decide +kernel)
  obtain ⟨f14, c14, b14⟩ := i_ok2_ok (a := 219) (ci := 5) (Ts := [some (some (some 220)), some none, some (some (some 221))]) hg (by decide +kernel)
  obtain ⟨w9, f14_0, e9, rfl, b14_0⟩ := b14; subst e9
  obtain ⟨w9, f14_1, e9, ⟨v14_1, rfl⟩, b14_1⟩ := b14_0; subst e9
  obtain ⟨w9, f14_2, e9, rfl, b14_2⟩ := b14_1; subst e9
  obtain rfl := b14_2
  obtain ⟨l15, d15, m15⟩ := i_oi (a := 220) (kd := 0) (n := 5) hg (by decide +kernel)
  obtain ⟨l16, d16, m16⟩ := i_oi (a := 221) (kd := 0) (n := 5) hg (by decide +kernel)
  obtain ⟨f17, c17, b17⟩ := i_og_ok (a := 222) (ci := 3) (Ts := [(some (.inr (some 223))), (some (.inr (some 224))), (some (.inr (some 225))), (some (.inr (some 226))), (some (.inr (some 227))), (some (.inr (some 228))), (some (.inr (some 229))), (some (.inr (some 230))), none, (some (.inl (.ofNat 1, .ofNat 1)))]) hg (by decide +kernel)
  obtain ⟨w9, f17_0, e9, t9, b17_0⟩ := i_a2_c b17; subst e9; obtain rfl := i_tvr t9; clear t9
  obtain ⟨w9, f17_1, e9, t9, b17_1⟩ := i_a2_c b17_0; subst e9; obtain rfl := i_tvr t9; clear t9
  obtain ⟨w9, f17_2, e9, t9, b17_2⟩ := i_a2_c b17_1; subst e9; obtain rfl := i_tvr t9; clear t9
  obtain ⟨w9, f17_3, e9, t9, b17_3⟩ := i_a2_c b17_2; subst e9; obtain rfl := i_tvr t9; clear t9
  obtain ⟨w9, f17_4, e9, t9, b17_4⟩ := i_a2_c b17_3; subst e9; obtain rfl := i_tvr t9; clear t9
  obtain ⟨w9, f17_5, e9, t9, b17_5⟩ := i_a2_c b17_4; subst e9; obtain rfl := i_tvr t9; clear t9
  obtain ⟨w9, f17_6, e9, t9, b17_6⟩ := i_a2_c b17_5; subst e9; obtain rfl := i_tvr t9; clear t9
  obtain ⟨w9, f17_7, e9, t9, b17_7⟩ := i_a2_c b17_6; subst e9; obtain rfl := i_tvr t9; clear t9
  obtain ⟨pv17, f17_8, e9, t9, b17_8⟩ := i_a2_c b17_7; subst e9; clear t9
  obtain ⟨w9, f17_9, e9, t9, b17_9⟩ := i_a2_c b17_8; subst e9; obtain ⟨pk17, rfl, g17⟩ := i_tvi t9; clear t9
  obtain rfl := i_a2_n b17_9
  obtain rfl : pk17 = 1 := Int32.toInt_inj.mp (by have g1 := g17.1; have g2 := g17.2; have e1 : (1 : Int32).toInt = 1 := rfl; simp only [Int.ofNat_eq_natCast] at g1 g2; omega)
  obtain ⟨l18, d18, m18⟩ := i_oi (a := 223) (kd := 0) (n := 25) hg (by decide +kernel)
  obtain ⟨l19, d19, m19⟩ := i_oi (a := 224) (kd := 0) (n := 25) hg (by decide +kernel)
  obtain ⟨l20, d20, m20⟩ := i_oi (a := 225) (kd := 0) (n := 25) hg (by decide +kernel)
  obtain ⟨l21, d21, m21⟩ := i_oi (a := 226) (kd := 0) (n := 7) hg (by decide +kernel)
  obtain ⟨l22, d22, m22⟩ := i_oi (a := 227) (kd := 0) (n := 5) hg (by decide +kernel)
  obtain ⟨l23, d23, m23⟩ := i_oi (a := 228) (kd := 0) (n := 6) hg (by decide +kernel)
  obtain ⟨l24, d24, m24⟩ := i_oi (a := 229) (kd := 0) (n := 30) hg (by decide +kernel)
  obtain ⟨l25, d25, m25⟩ := i_oi (a := 230) (kd := 0) (n := 260) hg (by decide +kernel)
  obtain ⟨x27, y27, z27⟩ := i_ok2_ok (a := 222) (ci := 3) (Ts := [none, none, none, none, none, none, none, none, some none, none]) hg (by decide +kernel)
  obtain ⟨_, _, e9, -, _, _, e8, -, _, _, e7, -, _, _, e6, -, _, _, e5, -, _, _, e4, -, _, _, e3, -, _, _, e2, -, _, _, e1, ⟨pe27, hpe27⟩, -⟩ := z27
  subst e9 e8 e7 e6 e5 e4 e3 e2 e1
  rw [c17] at y27
  have hv27 : pv17 = .int pe27 := by cases y27; exact hpe27
  clear y27
  rw [hv27] at c17
  have h1 : hT9 206 1 h := ⟨v1_0, v1_1, v1_2, v1_3, v1_15, v14_1, pe27, l2, l3, l4, l5, l6, l7, l8, l9, l10, l11, l12, l13, l15, l16, l18, l19, l20, l21, l22, l23, l24, l25, ⟨c1, d2, d3, d4, d5, d6, d7, d8, d9, d10, d11, d12, d13, c14, d15, d16, c17, d18, d19, d20, d21, d22, d23, d24, d25⟩, ⟨m2, m3, m4, m5, m6, m7, m8, m9, m10, m11, m12, m13, m15, m16⟩, fun _ => ⟨m18, m19, m20, m21, m22, m23, m24, m25⟩⟩
  exact h1
theorem la_sbA8 {h : J_H} (hI : IA h) : hT9 231 1 h := by
  obtain ⟨r, t, hg⟩ := hI
  obtain ⟨f1, c1, b1⟩ := i_ok2_ok (a := 231) (ci := 7) (Ts := [none, some none, some none, some none, some (some (some 232)), some (some (some 233)), some (some (some 234)), some (some (some 235)), some (some (some 236)), some (some (some 237)), some (some (some 238)), some (some (some 239)), some (some (some 240)), some (some (some 241)), some (some (some 242)), some none, some (some (some 243)), some (some (some 244)), some (some (some 247))]) hg (by decide +kernel)
  obtain ⟨v1_0, f1_0, e9, -, b1_0⟩ := b1; subst e9
  obtain ⟨w9, f1_1, e9, ⟨v1_1, rfl⟩, b1_1⟩ := b1_0; subst e9
  obtain ⟨w9, f1_2, e9, ⟨v1_2, rfl⟩, b1_2⟩ := b1_1; subst e9
  obtain ⟨w9, f1_3, e9, ⟨v1_3, rfl⟩, b1_3⟩ := b1_2; subst e9
  obtain ⟨w9, f1_4, e9, rfl, b1_4⟩ := b1_3; subst e9
  obtain ⟨w9, f1_5, e9, rfl, b1_5⟩ := b1_4; subst e9
  obtain ⟨w9, f1_6, e9, rfl, b1_6⟩ := b1_5; subst e9
  obtain ⟨w9, f1_7, e9, rfl, b1_7⟩ := b1_6; subst e9
  obtain ⟨w9, f1_8, e9, rfl, b1_8⟩ := b1_7; subst e9
  obtain ⟨w9, f1_9, e9, rfl, b1_9⟩ := b1_8; subst e9
  obtain ⟨w9, f1_10, e9, rfl, b1_10⟩ := b1_9; subst e9
  obtain ⟨w9, f1_11, e9, rfl, b1_11⟩ := b1_10; subst e9
  obtain ⟨w9, f1_12, e9, rfl, b1_12⟩ := b1_11; subst e9
  obtain ⟨w9, f1_13, e9, rfl, b1_13⟩ := b1_12; subst e9
  obtain ⟨w9, f1_14, e9, rfl, b1_14⟩ := b1_13; subst e9
  obtain ⟨w9, f1_15, e9, ⟨v1_15, rfl⟩, b1_15⟩ := b1_14; subst e9
  obtain ⟨w9, f1_16, e9, rfl, b1_16⟩ := b1_15; subst e9
  obtain ⟨w9, f1_17, e9, rfl, b1_17⟩ := b1_16; subst e9
  obtain ⟨w9, f1_18, e9, rfl, b1_18⟩ := b1_17; subst e9
  obtain rfl := b1_18
  obtain ⟨l2, d2, m2⟩ := i_oi (a := 232) (kd := 0) (n := 5) hg (by decide +kernel)
  obtain ⟨l3, d3, m3⟩ := i_oi (a := 233) (kd := 0) (n := 5) hg (by decide +kernel)
  obtain ⟨l4, d4, m4⟩ := i_oi (a := 234) (kd := 0) (n := 5) hg (by decide +kernel)
  obtain ⟨l5, d5, m5⟩ := i_oi (a := 235) (kd := 0) (n := 5) hg (by decide +kernel)
  obtain ⟨l6, d6, m6⟩ := i_oi (a := 236) (kd := 0) (n := 5) hg (by decide +kernel)
  obtain ⟨l7, d7, m7⟩ := i_oi (a := 237) (kd := 0) (n := 5) hg (by decide +kernel)
  obtain ⟨l8, d8, m8⟩ := i_oi (a := 238) (kd := 0) (n := 5) hg (by decide +kernel)
  obtain ⟨l9, d9, m9⟩ := i_oi (a := 239) (kd := 0) (n := 6) hg (by decide +kernel)
  obtain ⟨l10, d10, m10⟩ := i_oi (a := 240) (kd := 0) (n := 6) hg (by decide +kernel)
  obtain ⟨l11, d11, m11⟩ := i_oi (a := 241) (kd := 0) (n := 35) hg (by decide +kernel)
  obtain ⟨l12, d12, m12⟩ := i_oi (a := 242) (kd := 0) (n := 35) hg (by decide +kernel)
  obtain ⟨l13, d13, m13⟩ := i_oi (a := 243) (kd := 0) (n := 12) hg (by decide +kernel)
  obtain ⟨f14, c14, b14⟩ := i_ok2_ok (a := 244) (ci := 5) (Ts := [some (some (some 245)), some none, some (some (some 246))]) hg (by decide +kernel)
  obtain ⟨w9, f14_0, e9, rfl, b14_0⟩ := b14; subst e9
  obtain ⟨w9, f14_1, e9, ⟨v14_1, rfl⟩, b14_1⟩ := b14_0; subst e9
  obtain ⟨w9, f14_2, e9, rfl, b14_2⟩ := b14_1; subst e9
  obtain rfl := b14_2
  obtain ⟨l15, d15, m15⟩ := i_oi (a := 245) (kd := 0) (n := 5) hg (by decide +kernel)
  obtain ⟨l16, d16, m16⟩ := i_oi (a := 246) (kd := 0) (n := 5) hg (by decide +kernel)
  obtain ⟨f17, c17, b17⟩ := i_og_ok (a := 247) (ci := 3) (Ts := [(some (.inr (some 248))), (some (.inr (some 249))), (some (.inr (some 250))), (some (.inr (some 251))), (some (.inr (some 252))), (some (.inr (some 253))), (some (.inr (some 254))), (some (.inr (some 255))), none, (some (.inl (.ofNat 1, .ofNat 1)))]) hg (by decide +kernel)
  obtain ⟨w9, f17_0, e9, t9, b17_0⟩ := i_a2_c b17; subst e9; obtain rfl := i_tvr t9; clear t9
  obtain ⟨w9, f17_1, e9, t9, b17_1⟩ := i_a2_c b17_0; subst e9; obtain rfl := i_tvr t9; clear t9
  obtain ⟨w9, f17_2, e9, t9, b17_2⟩ := i_a2_c b17_1; subst e9; obtain rfl := i_tvr t9; clear t9
  obtain ⟨w9, f17_3, e9, t9, b17_3⟩ := i_a2_c b17_2; subst e9; obtain rfl := i_tvr t9; clear t9
  obtain ⟨w9, f17_4, e9, t9, b17_4⟩ := i_a2_c b17_3; subst e9; obtain rfl := i_tvr t9; clear t9
  obtain ⟨w9, f17_5, e9, t9, b17_5⟩ := i_a2_c b17_4; subst e9; obtain rfl := i_tvr t9; clear t9
  obtain ⟨w9, f17_6, e9, t9, b17_6⟩ := i_a2_c b17_5; subst e9; obtain rfl := i_tvr t9; clear t9
  obtain ⟨w9, f17_7, e9, t9, b17_7⟩ := i_a2_c b17_6; subst e9; obtain rfl := i_tvr t9; clear t9
  obtain ⟨pv17, f17_8, e9, t9, b17_8⟩ := i_a2_c b17_7; subst e9; clear t9
  obtain ⟨w9, f17_9, e9, t9, b17_9⟩ := i_a2_c b17_8; subst e9; obtain ⟨pk17, rfl, g17⟩ := i_tvi t9; clear t9
  obtain rfl := i_a2_n b17_9
  obtain rfl : pk17 = 1 := Int32.toInt_inj.mp (by have g1 := g17.1; have g2 := g17.2; have e1 : (1 : Int32).toInt = 1 := rfl; simp only [Int.ofNat_eq_natCast] at g1 g2; omega)
  obtain ⟨l18, d18, m18⟩ := i_oi (a := 248) (kd := 0) (n := 25) hg (by decide +kernel)
  obtain ⟨l19, d19, m19⟩ := i_oi (a := 249) (kd := 0) (n := 25) hg (by decide +kernel)
  obtain ⟨l20, d20, m20⟩ := i_oi (a := 250) (kd := 0) (n := 25) hg (by decide +kernel)
  obtain ⟨l21, d21, m21⟩ := i_oi (a := 251) (kd := 0) (n := 7) hg (by decide +kernel)
  obtain ⟨l22, d22, m22⟩ := i_oi (a := 252) (kd := 0) (n := 5) hg (by decide +kernel)
  obtain ⟨l23, d23, m23⟩ := i_oi (a := 253) (kd := 0) (n := 6) hg (by decide +kernel)
  obtain ⟨l24, d24, m24⟩ := i_oi (a := 254) (kd := 0) (n := 30) hg (by decide +kernel)
  obtain ⟨l25, d25, m25⟩ := i_oi (a := 255) (kd := 0) (n := 260) hg (by decide +kernel)
  obtain ⟨x27, y27, z27⟩ := i_ok2_ok (a := 247) (ci := 3) (Ts := [none, none, none, none, none, none, none, none, some none, none]) hg (by decide +kernel)
  obtain ⟨_, _, e9, -, _, _, e8, -, _, _, e7, -, _, _, e6, -, _, _, e5, -, _, _, e4, -, _, _, e3, -, _, _, e2, -, _, _, e1, ⟨pe27, hpe27⟩, -⟩ := z27
  subst e9 e8 e7 e6 e5 e4 e3 e2 e1
  rw [c17] at y27
  have hv27 : pv17 = .int pe27 := by cases y27; exact hpe27
  clear y27
  rw [hv27] at c17
  have h1 : hT9 231 1 h := ⟨v1_0, v1_1, v1_2, v1_3, v1_15, v14_1, pe27, l2, l3, l4, l5, l6, l7, l8, l9, l10, l11, l12, l13, l15, l16, l18, l19, l20, l21, l22, l23, l24, l25, ⟨c1, d2, d3, d4, d5, d6, d7, d8, d9, d10, d11, d12, d13, c14, d15, d16, c17, d18, d19, d20, d21, d22, d23, d24, d25⟩, ⟨m2, m3, m4, m5, m6, m7, m8, m9, m10, m11, m12, m13, m15, m16⟩, fun _ => ⟨m18, m19, m20, m21, m22, m23, m24, m25⟩⟩
  exact h1
theorem la_sbA9 {h : J_H} (hI : IA h) : hT9 256 1 h := by
  obtain ⟨r, t, hg⟩ := hI
  obtain ⟨f1, c1, b1⟩ := i_ok2_ok (a := 256) (ci := 7) (Ts := [none, some none, some none, some none, some (some (some 257)), some (some (some 258)), some (some (some 259)), some (some (some 260)), some (some (some 261)), some (some (some 262)), some (some (some 263)), some (some (some 264)), some (some (some 265)), some (some (some 266)), some (some (some 267)), some none, some (some (some 268)), some (some (some 269)), some (some (some 272))]) hg (by decide +kernel)
  obtain ⟨v1_0, f1_0, e9, -, b1_0⟩ := b1; subst e9
  obtain ⟨w9, f1_1, e9, ⟨v1_1, rfl⟩, b1_1⟩ := b1_0; subst e9
  obtain ⟨w9, f1_2, e9, ⟨v1_2, rfl⟩, b1_2⟩ := b1_1; subst e9
  obtain ⟨w9, f1_3, e9, ⟨v1_3, rfl⟩, b1_3⟩ := b1_2; subst e9
  obtain ⟨w9, f1_4, e9, rfl, b1_4⟩ := b1_3; subst e9
  obtain ⟨w9, f1_5, e9, rfl, b1_5⟩ := b1_4; subst e9
  obtain ⟨w9, f1_6, e9, rfl, b1_6⟩ := b1_5; subst e9
  obtain ⟨w9, f1_7, e9, rfl, b1_7⟩ := b1_6; subst e9
  obtain ⟨w9, f1_8, e9, rfl, b1_8⟩ := b1_7; subst e9
  obtain ⟨w9, f1_9, e9, rfl, b1_9⟩ := b1_8; subst e9
  obtain ⟨w9, f1_10, e9, rfl, b1_10⟩ := b1_9; subst e9
  obtain ⟨w9, f1_11, e9, rfl, b1_11⟩ := b1_10; subst e9
  obtain ⟨w9, f1_12, e9, rfl, b1_12⟩ := b1_11; subst e9
  obtain ⟨w9, f1_13, e9, rfl, b1_13⟩ := b1_12; subst e9
  obtain ⟨w9, f1_14, e9, rfl, b1_14⟩ := b1_13; subst e9
  obtain ⟨w9, f1_15, e9, ⟨v1_15, rfl⟩, b1_15⟩ := b1_14; subst e9
  obtain ⟨w9, f1_16, e9, rfl, b1_16⟩ := b1_15; subst e9
  obtain ⟨w9, f1_17, e9, rfl, b1_17⟩ := b1_16; subst e9
  obtain ⟨w9, f1_18, e9, rfl, b1_18⟩ := b1_17; subst e9
  obtain rfl := b1_18
  obtain ⟨l2, d2, m2⟩ := i_oi (a := 257) (kd := 0) (n := 5) hg (by decide +kernel)
  obtain ⟨l3, d3, m3⟩ := i_oi (a := 258) (kd := 0) (n := 5) hg (by decide +kernel)
  obtain ⟨l4, d4, m4⟩ := i_oi (a := 259) (kd := 0) (n := 5) hg (by decide +kernel)
  obtain ⟨l5, d5, m5⟩ := i_oi (a := 260) (kd := 0) (n := 5) hg (by decide +kernel)
  obtain ⟨l6, d6, m6⟩ := i_oi (a := 261) (kd := 0) (n := 5) hg (by decide +kernel)
  obtain ⟨l7, d7, m7⟩ := i_oi (a := 262) (kd := 0) (n := 5) hg (by decide +kernel)
  obtain ⟨l8, d8, m8⟩ := i_oi (a := 263) (kd := 0) (n := 5) hg (by decide +kernel)
  obtain ⟨l9, d9, m9⟩ := i_oi (a := 264) (kd := 0) (n := 6) hg (by decide +kernel)
  obtain ⟨l10, d10, m10⟩ := i_oi (a := 265) (kd := 0) (n := 6) hg (by decide +kernel)
  obtain ⟨l11, d11, m11⟩ := i_oi (a := 266) (kd := 0) (n := 35) hg (by decide +kernel)
  obtain ⟨l12, d12, m12⟩ := i_oi (a := 267) (kd := 0) (n := 35) hg (by decide +kernel)
  obtain ⟨l13, d13, m13⟩ := i_oi (a := 268) (kd := 0) (n := 12) hg (by decide +kernel)
  obtain ⟨f14, c14, b14⟩ := i_ok2_ok (a := 269) (ci := 5) (Ts := [some (some (some 270)), some none, some (some (some 271))]) hg (by decide +kernel)
  obtain ⟨w9, f14_0, e9, rfl, b14_0⟩ := b14; subst e9
  obtain ⟨w9, f14_1, e9, ⟨v14_1, rfl⟩, b14_1⟩ := b14_0; subst e9
  obtain ⟨w9, f14_2, e9, rfl, b14_2⟩ := b14_1; subst e9
  obtain rfl := b14_2
  obtain ⟨l15, d15, m15⟩ := i_oi (a := 270) (kd := 0) (n := 5) hg (by decide +kernel)
  obtain ⟨l16, d16, m16⟩ := i_oi (a := 271) (kd := 0) (n := 5) hg (by decide +kernel)
  obtain ⟨f17, c17, b17⟩ := i_og_ok (a := 272) (ci := 3) (Ts := [(some (.inr (some 273))), (some (.inr (some 274))), (some (.inr (some 275))), (some (.inr (some 276))), (some (.inr (some 277))), (some (.inr (some 278))), (some (.inr (some 279))), (some (.inr (some 280))), none, (some (.inl (.ofNat 1, .ofNat 1)))]) hg (by decide +kernel)
  obtain ⟨w9, f17_0, e9, t9, b17_0⟩ := i_a2_c b17; subst e9; obtain rfl := i_tvr t9; clear t9
  obtain ⟨w9, f17_1, e9, t9, b17_1⟩ := i_a2_c b17_0; subst e9; obtain rfl := i_tvr t9; clear t9
  obtain ⟨w9, f17_2, e9, t9, b17_2⟩ := i_a2_c b17_1; subst e9; obtain rfl := i_tvr t9; clear t9
  obtain ⟨w9, f17_3, e9, t9, b17_3⟩ := i_a2_c b17_2; subst e9; obtain rfl := i_tvr t9; clear t9
  obtain ⟨w9, f17_4, e9, t9, b17_4⟩ := i_a2_c b17_3; subst e9; obtain rfl := i_tvr t9; clear t9
  obtain ⟨w9, f17_5, e9, t9, b17_5⟩ := i_a2_c b17_4; subst e9; obtain rfl := i_tvr t9; clear t9
  obtain ⟨w9, f17_6, e9, t9, b17_6⟩ := i_a2_c b17_5; subst e9; obtain rfl := i_tvr t9; clear t9
  obtain ⟨w9, f17_7, e9, t9, b17_7⟩ := i_a2_c b17_6; subst e9; obtain rfl := i_tvr t9; clear t9
  obtain ⟨pv17, f17_8, e9, t9, b17_8⟩ := i_a2_c b17_7; subst e9; clear t9
  obtain ⟨w9, f17_9, e9, t9, b17_9⟩ := i_a2_c b17_8; subst e9; obtain ⟨pk17, rfl, g17⟩ := i_tvi t9; clear t9
  obtain rfl := i_a2_n b17_9
  obtain rfl : pk17 = 1 := Int32.toInt_inj.mp (by have g1 := g17.1; have g2 := g17.2; have e1 : (1 : Int32).toInt = 1 := rfl; simp only [Int.ofNat_eq_natCast] at g1 g2; omega)
  obtain ⟨l18, d18, m18⟩ := i_oi (a := 273) (kd := 0) (n := 25) hg (by decide +kernel)
  obtain ⟨l19, d19, m19⟩ := i_oi (a := 274) (kd := 0) (n := 25) hg (by decide +kernel)
  obtain ⟨l20, d20, m20⟩ := i_oi (a := 275) (kd := 0) (n := 25) hg (by decide +kernel)
  obtain ⟨l21, d21, m21⟩ := i_oi (a := 276) (kd := 0) (n := 7) hg (by decide +kernel)
  obtain ⟨l22, d22, m22⟩ := i_oi (a := 277) (kd := 0) (n := 5) hg (by decide +kernel)
  obtain ⟨l23, d23, m23⟩ := i_oi (a := 278) (kd := 0) (n := 6) hg (by decide +kernel)
  obtain ⟨l24, d24, m24⟩ := i_oi (a := 279) (kd := 0) (n := 30) hg (by decide +kernel)
  obtain ⟨l25, d25, m25⟩ := i_oi (a := 280) (kd := 0) (n := 260) hg (by decide +kernel)
  obtain ⟨x27, y27, z27⟩ := i_ok2_ok (a := 272) (ci := 3) (Ts := [none, none, none, none, none, none, none, none, some none, none]) hg (by decide +kernel)
  obtain ⟨_, _, e9, -, _, _, e8, -, _, _, e7, -, _, _, e6, -, _, _, e5, -, _, _, e4, -, _, _, e3, -, _, _, e2, -, _, _, e1, ⟨pe27, hpe27⟩, -⟩ := z27
  subst e9 e8 e7 e6 e5 e4 e3 e2 e1
  rw [c17] at y27
  have hv27 : pv17 = .int pe27 := by cases y27; exact hpe27
  clear y27
  rw [hv27] at c17
  have h1 : hT9 256 1 h := ⟨v1_0, v1_1, v1_2, v1_3, v1_15, v14_1, pe27, l2, l3, l4, l5, l6, l7, l8, l9, l10, l11, l12, l13, l15, l16, l18, l19, l20, l21, l22, l23, l24, l25, ⟨c1, d2, d3, d4, d5, d6, d7, d8, d9, d10, d11, d12, d13, c14, d15, d16, c17, d18, d19, d20, d21, d22, d23, d24, d25⟩, ⟨m2, m3, m4, m5, m6, m7, m8, m9, m10, m11, m12, m13, m15, m16⟩, fun _ => ⟨m18, m19, m20, m21, m22, m23, m24, m25⟩⟩
  exact h1
theorem la_sbA {h : J_H} (hI : IA h) : ∀ j, j < 10 → hT9 (31 + 25 * j) 1 h := fun j hj => by
  match j, hj with
  | 0, _ => exact la_sbA0 hI
  | 1, _ => exact la_sbA1 hI
  | 2, _ => exact la_sbA2 hI
  | 3, _ => exact la_sbA3 hI
  | 4, _ => exact la_sbA4 hI
  | 5, _ => exact la_sbA5 hI
  | 6, _ => exact la_sbA6 hI
  | 7, _ => exact la_sbA7 hI
  | 8, _ => exact la_sbA8 hI
  | 9, _ => exact la_sbA9 hI
theorem la_sxB {h : J_H} (hI : IB h) : hT9 282 0 h ∧ h[281]? = some (.inl (1, [.ref 282, .ref 307, .ref 323, .ref 324])) ∧ hZ9 307 h ∧ (∃ l : List Int32, h[323]? = some (.inr (.inl (0, l))) ∧ l.length = 5) ∧ (∃ l : List Int32, h[324]? = some (.inr (.inl (0, l))) ∧ l.length = 5) := by
  obtain ⟨r, t, hg⟩ := hI
  obtain ⟨f1, c1, b1⟩ := i_ok2_ok (a := 282) (ci := 7) (Ts := [none, some none, some none, some none, some (some (some 283)), some (some (some 284)), some (some (some 285)), some (some (some 286)), some (some (some 287)), some (some (some 288)), some (some (some 289)), some (some (some 290)), some (some (some 291)), some (some (some 292)), some (some (some 293)), some none, some (some (some 294)), some (some (some 295)), some (some (some 298))]) hg (by decide +kernel)
  obtain ⟨v1_0, f1_0, e9, -, b1_0⟩ := b1; subst e9
  obtain ⟨w9, f1_1, e9, ⟨v1_1, rfl⟩, b1_1⟩ := b1_0; subst e9
  obtain ⟨w9, f1_2, e9, ⟨v1_2, rfl⟩, b1_2⟩ := b1_1; subst e9
  obtain ⟨w9, f1_3, e9, ⟨v1_3, rfl⟩, b1_3⟩ := b1_2; subst e9
  obtain ⟨w9, f1_4, e9, rfl, b1_4⟩ := b1_3; subst e9
  obtain ⟨w9, f1_5, e9, rfl, b1_5⟩ := b1_4; subst e9
  obtain ⟨w9, f1_6, e9, rfl, b1_6⟩ := b1_5; subst e9
  obtain ⟨w9, f1_7, e9, rfl, b1_7⟩ := b1_6; subst e9
  obtain ⟨w9, f1_8, e9, rfl, b1_8⟩ := b1_7; subst e9
  obtain ⟨w9, f1_9, e9, rfl, b1_9⟩ := b1_8; subst e9
  obtain ⟨w9, f1_10, e9, rfl, b1_10⟩ := b1_9; subst e9
  obtain ⟨w9, f1_11, e9, rfl, b1_11⟩ := b1_10; subst e9
  obtain ⟨w9, f1_12, e9, rfl, b1_12⟩ := b1_11; subst e9
  obtain ⟨w9, f1_13, e9, rfl, b1_13⟩ := b1_12; subst e9
  obtain ⟨w9, f1_14, e9, rfl, b1_14⟩ := b1_13; subst e9
  obtain ⟨w9, f1_15, e9, ⟨v1_15, rfl⟩, b1_15⟩ := b1_14; subst e9
  obtain ⟨w9, f1_16, e9, rfl, b1_16⟩ := b1_15; subst e9
  obtain ⟨w9, f1_17, e9, rfl, b1_17⟩ := b1_16; subst e9
  obtain ⟨w9, f1_18, e9, rfl, b1_18⟩ := b1_17; subst e9
  obtain rfl := b1_18
  obtain ⟨l2, d2, m2⟩ := i_oi (a := 283) (kd := 0) (n := 5) hg (by decide +kernel)
  obtain ⟨l3, d3, m3⟩ := i_oi (a := 284) (kd := 0) (n := 5) hg (by decide +kernel)
  obtain ⟨l4, d4, m4⟩ := i_oi (a := 285) (kd := 0) (n := 5) hg (by decide +kernel)
  obtain ⟨l5, d5, m5⟩ := i_oi (a := 286) (kd := 0) (n := 5) hg (by decide +kernel)
  obtain ⟨l6, d6, m6⟩ := i_oi (a := 287) (kd := 0) (n := 5) hg (by decide +kernel)
  obtain ⟨l7, d7, m7⟩ := i_oi (a := 288) (kd := 0) (n := 5) hg (by decide +kernel)
  obtain ⟨l8, d8, m8⟩ := i_oi (a := 289) (kd := 0) (n := 5) hg (by decide +kernel)
  obtain ⟨l9, d9, m9⟩ := i_oi (a := 290) (kd := 0) (n := 6) hg (by decide +kernel)
  obtain ⟨l10, d10, m10⟩ := i_oi (a := 291) (kd := 0) (n := 6) hg (by decide +kernel)
  obtain ⟨l11, d11, m11⟩ := i_oi (a := 292) (kd := 0) (n := 35) hg (by decide +kernel)
  obtain ⟨l12, d12, m12⟩ := i_oi (a := 293) (kd := 0) (n := 35) hg (by decide +kernel)
  obtain ⟨l13, d13, m13⟩ := i_oi (a := 294) (kd := 0) (n := 12) hg (by decide +kernel)
  obtain ⟨f14, c14, b14⟩ := i_ok2_ok (a := 295) (ci := 5) (Ts := [some (some (some 296)), some none, some (some (some 297))]) hg (by decide +kernel)
  obtain ⟨w9, f14_0, e9, rfl, b14_0⟩ := b14; subst e9
  obtain ⟨w9, f14_1, e9, ⟨v14_1, rfl⟩, b14_1⟩ := b14_0; subst e9
  obtain ⟨w9, f14_2, e9, rfl, b14_2⟩ := b14_1; subst e9
  obtain rfl := b14_2
  obtain ⟨l15, d15, m15⟩ := i_oi (a := 296) (kd := 0) (n := 5) hg (by decide +kernel)
  obtain ⟨l16, d16, m16⟩ := i_oi (a := 297) (kd := 0) (n := 5) hg (by decide +kernel)
  obtain ⟨f17, c17, b17⟩ := i_og_ok (a := 298) (ci := 3) (Ts := [(some (.inr (some 299))), (some (.inr (some 300))), (some (.inr (some 301))), (some (.inr (some 302))), (some (.inr (some 303))), (some (.inr (some 304))), (some (.inr (some 305))), (some (.inr (some 306))), none, (some (.inl (.ofNat 0, .ofNat 0)))]) hg (by decide +kernel)
  obtain ⟨w9, f17_0, e9, t9, b17_0⟩ := i_a2_c b17; subst e9; obtain rfl := i_tvr t9; clear t9
  obtain ⟨w9, f17_1, e9, t9, b17_1⟩ := i_a2_c b17_0; subst e9; obtain rfl := i_tvr t9; clear t9
  obtain ⟨w9, f17_2, e9, t9, b17_2⟩ := i_a2_c b17_1; subst e9; obtain rfl := i_tvr t9; clear t9
  obtain ⟨w9, f17_3, e9, t9, b17_3⟩ := i_a2_c b17_2; subst e9; obtain rfl := i_tvr t9; clear t9
  obtain ⟨w9, f17_4, e9, t9, b17_4⟩ := i_a2_c b17_3; subst e9; obtain rfl := i_tvr t9; clear t9
  obtain ⟨w9, f17_5, e9, t9, b17_5⟩ := i_a2_c b17_4; subst e9; obtain rfl := i_tvr t9; clear t9
  obtain ⟨w9, f17_6, e9, t9, b17_6⟩ := i_a2_c b17_5; subst e9; obtain rfl := i_tvr t9; clear t9
  obtain ⟨w9, f17_7, e9, t9, b17_7⟩ := i_a2_c b17_6; subst e9; obtain rfl := i_tvr t9; clear t9
  obtain ⟨pv17, f17_8, e9, t9, b17_8⟩ := i_a2_c b17_7; subst e9; clear t9
  obtain ⟨w9, f17_9, e9, t9, b17_9⟩ := i_a2_c b17_8; subst e9; obtain ⟨pk17, rfl, g17⟩ := i_tvi t9; clear t9
  obtain rfl := i_a2_n b17_9
  obtain rfl : pk17 = 0 := Int32.toInt_inj.mp (by have g1 := g17.1; have g2 := g17.2; have e1 : (0 : Int32).toInt = 0 := rfl; simp only [Int.ofNat_eq_natCast] at g1 g2; omega)
  obtain ⟨l18, d18, m18⟩ := i_oi (a := 299) (kd := 0) (n := 25) hg (by decide +kernel)
  obtain ⟨l19, d19, m19⟩ := i_oi (a := 300) (kd := 0) (n := 25) hg (by decide +kernel)
  obtain ⟨l20, d20, m20⟩ := i_oi (a := 301) (kd := 0) (n := 25) hg (by decide +kernel)
  obtain ⟨l21, d21, m21⟩ := i_oi (a := 302) (kd := 0) (n := 7) hg (by decide +kernel)
  obtain ⟨l22, d22, m22⟩ := i_oi (a := 303) (kd := 0) (n := 5) hg (by decide +kernel)
  obtain ⟨l23, d23, m23⟩ := i_oi (a := 304) (kd := 0) (n := 6) hg (by decide +kernel)
  obtain ⟨l24, d24, m24⟩ := i_oi (a := 305) (kd := 0) (n := 30) hg (by decide +kernel)
  obtain ⟨l25, d25, m25⟩ := i_oi (a := 306) (kd := 0) (n := 260) hg (by decide +kernel)
  obtain ⟨x27, y27, z27⟩ := i_ok2_ok (a := 298) (ci := 3) (Ts := [none, none, none, none, none, none, none, none, some none, none]) hg (by decide +kernel)
  obtain ⟨_, _, e9, -, _, _, e8, -, _, _, e7, -, _, _, e6, -, _, _, e5, -, _, _, e4, -, _, _, e3, -, _, _, e2, -, _, _, e1, ⟨pe27, hpe27⟩, -⟩ := z27
  subst e9 e8 e7 e6 e5 e4 e3 e2 e1
  rw [c17] at y27
  have hv27 : pv17 = .int pe27 := by cases y27; exact hpe27
  clear y27
  rw [hv27] at c17
  have h1 : hT9 282 0 h := ⟨v1_0, v1_1, v1_2, v1_3, v1_15, v14_1, pe27, l2, l3, l4, l5, l6, l7, l8, l9, l10, l11, l12, l13, l15, l16, l18, l19, l20, l21, l22, l23, l24, l25, ⟨c1, d2, d3, d4, d5, d6, d7, d8, d9, d10, d11, d12, d13, c14, d15, d16, c17, d18, d19, d20, d21, d22, d23, d24, d25⟩, ⟨m2, m3, m4, m5, m6, m7, m8, m9, m10, m11, m12, m13, m15, m16⟩, fun _ => ⟨m18, m19, m20, m21, m22, m23, m24, m25⟩⟩
  obtain ⟨f28, c28, b28⟩ := i_ok2_ok (a := 281) (ci := 1) (Ts := [some (some (some 282)), some (some (some 307)), some (some (some 323)), some (some (some 324))]) hg (by decide +kernel)
  obtain ⟨w9, f28_0, e9, rfl, b28_0⟩ := b28; subst e9
  obtain ⟨w9, f28_1, e9, rfl, b28_1⟩ := b28_0; subst e9
  obtain ⟨w9, f28_2, e9, rfl, b28_2⟩ := b28_1; subst e9
  obtain ⟨w9, f28_3, e9, rfl, b28_3⟩ := b28_2; subst e9
  obtain rfl := b28_3
  obtain ⟨f29, c29, b29⟩ := i_ok2_ok (a := 307) (ci := 2) (Ts := [some none, some (some (some 308)), some (some (some 309)), some (some (some 310)), some (some (some 311)), some none, some (some (some 312)), some (some (some 313)), some (some (some 314)), some (some (some 315)), some (some (some 316)), some (some (some 317)), some (some (some 318)), some none, some (some (some 319)), some (some (some 320)), some (some (some 321)), some (some (some 322))]) hg (by decide +kernel)
  obtain ⟨w9, f29_0, e9, ⟨v29_0, rfl⟩, b29_0⟩ := b29; subst e9
  obtain ⟨w9, f29_1, e9, rfl, b29_1⟩ := b29_0; subst e9
  obtain ⟨w9, f29_2, e9, rfl, b29_2⟩ := b29_1; subst e9
  obtain ⟨w9, f29_3, e9, rfl, b29_3⟩ := b29_2; subst e9
  obtain ⟨w9, f29_4, e9, rfl, b29_4⟩ := b29_3; subst e9
  obtain ⟨w9, f29_5, e9, ⟨v29_5, rfl⟩, b29_5⟩ := b29_4; subst e9
  obtain ⟨w9, f29_6, e9, rfl, b29_6⟩ := b29_5; subst e9
  obtain ⟨w9, f29_7, e9, rfl, b29_7⟩ := b29_6; subst e9
  obtain ⟨w9, f29_8, e9, rfl, b29_8⟩ := b29_7; subst e9
  obtain ⟨w9, f29_9, e9, rfl, b29_9⟩ := b29_8; subst e9
  obtain ⟨w9, f29_10, e9, rfl, b29_10⟩ := b29_9; subst e9
  obtain ⟨w9, f29_11, e9, rfl, b29_11⟩ := b29_10; subst e9
  obtain ⟨w9, f29_12, e9, rfl, b29_12⟩ := b29_11; subst e9
  obtain ⟨w9, f29_13, e9, ⟨v29_13, rfl⟩, b29_13⟩ := b29_12; subst e9
  obtain ⟨w9, f29_14, e9, rfl, b29_14⟩ := b29_13; subst e9
  obtain ⟨w9, f29_15, e9, rfl, b29_15⟩ := b29_14; subst e9
  obtain ⟨w9, f29_16, e9, rfl, b29_16⟩ := b29_15; subst e9
  obtain ⟨w9, f29_17, e9, rfl, b29_17⟩ := b29_16; subst e9
  obtain rfl := b29_17
  obtain ⟨l30, d30, m30⟩ := i_oi (a := 309) (kd := 0) (n := 7) hg (by decide +kernel)
  obtain ⟨l31, d31, m31⟩ := i_oi (a := 310) (kd := 0) (n := 7) hg (by decide +kernel)
  obtain ⟨l32, d32, m32⟩ := i_oi (a := 311) (kd := 0) (n := 21) hg (by decide +kernel)
  obtain ⟨l33, d33, m33⟩ := i_oi (a := 313) (kd := 0) (n := 5) hg (by decide +kernel)
  obtain ⟨l34, d34, m34⟩ := i_oi (a := 314) (kd := 0) (n := 5) hg (by decide +kernel)
  obtain ⟨l35, d35, m35⟩ := i_oi (a := 315) (kd := 0) (n := 5) hg (by decide +kernel)
  obtain ⟨l36, d36, m36⟩ := i_oi (a := 316) (kd := 0) (n := 5) hg (by decide +kernel)
  obtain ⟨l37, d37, m37⟩ := i_oi (a := 317) (kd := 0) (n := 5) hg (by decide +kernel)
  obtain ⟨l38, d38, m38⟩ := i_oi (a := 318) (kd := 0) (n := 5) hg (by decide +kernel)
  obtain ⟨l39, d39, m39⟩ := i_oi (a := 319) (kd := 0) (n := 5) hg (by decide +kernel)
  obtain ⟨l40, d40, m40⟩ := i_oi (a := 320) (kd := 0) (n := 35) hg (by decide +kernel)
  obtain ⟨l41, d41, m41⟩ := i_oi (a := 321) (kd := 0) (n := 30) hg (by decide +kernel)
  obtain ⟨l42, d42, m42⟩ := i_oi (a := 322) (kd := 0) (n := 5) hg (by decide +kernel)
  have h2 : hZ9 307 h := ⟨v29_0, v29_5, v29_13, l30, l31, l32, l33, l34, l35, l36, l37, l38, l39, l40, l41, l42, ⟨c29, d30, d31, d32, d33, d34, d35, d36, d37, d38, d39, d40, d41, d42⟩, m30, m31, m32, m33, m34, m35, m36, m37, m38, m39, m40, m41, m42⟩
  obtain ⟨l43, d43, m43⟩ := i_oi (a := 323) (kd := 0) (n := 5) hg (by decide +kernel)
  obtain ⟨l44, d44, m44⟩ := i_oi (a := 324) (kd := 0) (n := 5) hg (by decide +kernel)
  exact ⟨h1, c28, h2, ⟨l43, d43, m43⟩, ⟨l44, d44, m44⟩⟩
theorem la_sbB0 {h : J_H} (hI : IB h) : hT9 31 1 h := by
  obtain ⟨r, t, hg⟩ := hI
  obtain ⟨f1, c1, b1⟩ := i_ok2_ok (a := 31) (ci := 7) (Ts := [none, some none, some none, some none, some (some (some 32)), some (some (some 33)), some (some (some 34)), some (some (some 35)), some (some (some 36)), some (some (some 37)), some (some (some 38)), some (some (some 39)), some (some (some 40)), some (some (some 41)), some (some (some 42)), some none, some (some (some 43)), some (some (some 44)), some (some (some 47))]) hg (by decide +kernel)
  obtain ⟨v1_0, f1_0, e9, -, b1_0⟩ := b1; subst e9
  obtain ⟨w9, f1_1, e9, ⟨v1_1, rfl⟩, b1_1⟩ := b1_0; subst e9
  obtain ⟨w9, f1_2, e9, ⟨v1_2, rfl⟩, b1_2⟩ := b1_1; subst e9
  obtain ⟨w9, f1_3, e9, ⟨v1_3, rfl⟩, b1_3⟩ := b1_2; subst e9
  obtain ⟨w9, f1_4, e9, rfl, b1_4⟩ := b1_3; subst e9
  obtain ⟨w9, f1_5, e9, rfl, b1_5⟩ := b1_4; subst e9
  obtain ⟨w9, f1_6, e9, rfl, b1_6⟩ := b1_5; subst e9
  obtain ⟨w9, f1_7, e9, rfl, b1_7⟩ := b1_6; subst e9
  obtain ⟨w9, f1_8, e9, rfl, b1_8⟩ := b1_7; subst e9
  obtain ⟨w9, f1_9, e9, rfl, b1_9⟩ := b1_8; subst e9
  obtain ⟨w9, f1_10, e9, rfl, b1_10⟩ := b1_9; subst e9
  obtain ⟨w9, f1_11, e9, rfl, b1_11⟩ := b1_10; subst e9
  obtain ⟨w9, f1_12, e9, rfl, b1_12⟩ := b1_11; subst e9
  obtain ⟨w9, f1_13, e9, rfl, b1_13⟩ := b1_12; subst e9
  obtain ⟨w9, f1_14, e9, rfl, b1_14⟩ := b1_13; subst e9
  obtain ⟨w9, f1_15, e9, ⟨v1_15, rfl⟩, b1_15⟩ := b1_14; subst e9
  obtain ⟨w9, f1_16, e9, rfl, b1_16⟩ := b1_15; subst e9
  obtain ⟨w9, f1_17, e9, rfl, b1_17⟩ := b1_16; subst e9
  obtain ⟨w9, f1_18, e9, rfl, b1_18⟩ := b1_17; subst e9
  obtain rfl := b1_18
  obtain ⟨l2, d2, m2⟩ := i_oi (a := 32) (kd := 0) (n := 5) hg (by decide +kernel)
  obtain ⟨l3, d3, m3⟩ := i_oi (a := 33) (kd := 0) (n := 5) hg (by decide +kernel)
  obtain ⟨l4, d4, m4⟩ := i_oi (a := 34) (kd := 0) (n := 5) hg (by decide +kernel)
  obtain ⟨l5, d5, m5⟩ := i_oi (a := 35) (kd := 0) (n := 5) hg (by decide +kernel)
  obtain ⟨l6, d6, m6⟩ := i_oi (a := 36) (kd := 0) (n := 5) hg (by decide +kernel)
  obtain ⟨l7, d7, m7⟩ := i_oi (a := 37) (kd := 0) (n := 5) hg (by decide +kernel)
  obtain ⟨l8, d8, m8⟩ := i_oi (a := 38) (kd := 0) (n := 5) hg (by decide +kernel)
  obtain ⟨l9, d9, m9⟩ := i_oi (a := 39) (kd := 0) (n := 6) hg (by decide +kernel)
  obtain ⟨l10, d10, m10⟩ := i_oi (a := 40) (kd := 0) (n := 6) hg (by decide +kernel)
  obtain ⟨l11, d11, m11⟩ := i_oi (a := 41) (kd := 0) (n := 35) hg (by decide +kernel)
  obtain ⟨l12, d12, m12⟩ := i_oi (a := 42) (kd := 0) (n := 35) hg (by decide +kernel)
  obtain ⟨l13, d13, m13⟩ := i_oi (a := 43) (kd := 0) (n := 12) hg (by decide +kernel)
  obtain ⟨f14, c14, b14⟩ := i_ok2_ok (a := 44) (ci := 5) (Ts := [some (some (some 45)), some none, some (some (some 46))]) hg (by decide +kernel)
  obtain ⟨w9, f14_0, e9, rfl, b14_0⟩ := b14; subst e9
  obtain ⟨w9, f14_1, e9, ⟨v14_1, rfl⟩, b14_1⟩ := b14_0; subst e9
  obtain ⟨w9, f14_2, e9, rfl, b14_2⟩ := b14_1; subst e9
  obtain rfl := b14_2
  obtain ⟨l15, d15, m15⟩ := i_oi (a := 45) (kd := 0) (n := 5) hg (by decide +kernel)
  obtain ⟨l16, d16, m16⟩ := i_oi (a := 46) (kd := 0) (n := 5) hg (by decide +kernel)
  obtain ⟨f17, c17, b17⟩ := i_og_ok (a := 47) (ci := 3) (Ts := [(some (.inr (some 48))), (some (.inr (some 49))), (some (.inr (some 50))), (some (.inr (some 51))), (some (.inr (some 52))), (some (.inr (some 53))), (some (.inr (some 54))), (some (.inr (some 55))), none, (some (.inl (.ofNat 1, .ofNat 1)))]) hg (by decide +kernel)
  obtain ⟨w9, f17_0, e9, t9, b17_0⟩ := i_a2_c b17; subst e9; obtain rfl := i_tvr t9; clear t9
  obtain ⟨w9, f17_1, e9, t9, b17_1⟩ := i_a2_c b17_0; subst e9; obtain rfl := i_tvr t9; clear t9
  obtain ⟨w9, f17_2, e9, t9, b17_2⟩ := i_a2_c b17_1; subst e9; obtain rfl := i_tvr t9; clear t9
  obtain ⟨w9, f17_3, e9, t9, b17_3⟩ := i_a2_c b17_2; subst e9; obtain rfl := i_tvr t9; clear t9
  obtain ⟨w9, f17_4, e9, t9, b17_4⟩ := i_a2_c b17_3; subst e9; obtain rfl := i_tvr t9; clear t9
  obtain ⟨w9, f17_5, e9, t9, b17_5⟩ := i_a2_c b17_4; subst e9; obtain rfl := i_tvr t9; clear t9
  obtain ⟨w9, f17_6, e9, t9, b17_6⟩ := i_a2_c b17_5; subst e9; obtain rfl := i_tvr t9; clear t9
  obtain ⟨w9, f17_7, e9, t9, b17_7⟩ := i_a2_c b17_6; subst e9; obtain rfl := i_tvr t9; clear t9
  obtain ⟨pv17, f17_8, e9, t9, b17_8⟩ := i_a2_c b17_7; subst e9; clear t9
  obtain ⟨w9, f17_9, e9, t9, b17_9⟩ := i_a2_c b17_8; subst e9; obtain ⟨pk17, rfl, g17⟩ := i_tvi t9; clear t9
  obtain rfl := i_a2_n b17_9
  obtain rfl : pk17 = 1 := Int32.toInt_inj.mp (by have g1 := g17.1; have g2 := g17.2; have e1 : (1 : Int32).toInt = 1 := rfl; simp only [Int.ofNat_eq_natCast] at g1 g2; omega)
  obtain ⟨l18, d18, m18⟩ := i_oi (a := 48) (kd := 0) (n := 25) hg (by decide +kernel)
  obtain ⟨l19, d19, m19⟩ := i_oi (a := 49) (kd := 0) (n := 25) hg (by decide +kernel)
  obtain ⟨l20, d20, m20⟩ := i_oi (a := 50) (kd := 0) (n := 25) hg (by decide +kernel)
  obtain ⟨l21, d21, m21⟩ := i_oi (a := 51) (kd := 0) (n := 7) hg (by decide +kernel)
  obtain ⟨l22, d22, m22⟩ := i_oi (a := 52) (kd := 0) (n := 5) hg (by decide +kernel)
  obtain ⟨l23, d23, m23⟩ := i_oi (a := 53) (kd := 0) (n := 6) hg (by decide +kernel)
  obtain ⟨l24, d24, m24⟩ := i_oi (a := 54) (kd := 0) (n := 30) hg (by decide +kernel)
  obtain ⟨l25, d25, m25⟩ := i_oi (a := 55) (kd := 0) (n := 260) hg (by decide +kernel)
  obtain ⟨x27, y27, z27⟩ := i_ok2_ok (a := 47) (ci := 3) (Ts := [none, none, none, none, none, none, none, none, some none, none]) hg (by decide +kernel)
  obtain ⟨_, _, e9, -, _, _, e8, -, _, _, e7, -, _, _, e6, -, _, _, e5, -, _, _, e4, -, _, _, e3, -, _, _, e2, -, _, _, e1, ⟨pe27, hpe27⟩, -⟩ := z27
  subst e9 e8 e7 e6 e5 e4 e3 e2 e1
  rw [c17] at y27
  have hv27 : pv17 = .int pe27 := by cases y27; exact hpe27
  clear y27
  rw [hv27] at c17
  have h1 : hT9 31 1 h := ⟨v1_0, v1_1, v1_2, v1_3, v1_15, v14_1, pe27, l2, l3, l4, l5, l6, l7, l8, l9, l10, l11, l12, l13, l15, l16, l18, l19, l20, l21, l22, l23, l24, l25, ⟨c1, d2, d3, d4, d5, d6, d7, d8, d9, d10, d11, d12, d13, c14, d15, d16, c17, d18, d19, d20, d21, d22, d23, d24, d25⟩, ⟨m2, m3, m4, m5, m6, m7, m8, m9, m10, m11, m12, m13, m15, m16⟩, fun _ => ⟨m18, m19, m20, m21, m22, m23, m24, m25⟩⟩
  exact h1
theorem la_sbB1 {h : J_H} (hI : IB h) : hT9 56 1 h := by
  obtain ⟨r, t, hg⟩ := hI
  obtain ⟨f1, c1, b1⟩ := i_ok2_ok (a := 56) (ci := 7) (Ts := [none, some none, some none, some none, some (some (some 57)), some (some (some 58)), some (some (some 59)), some (some (some 60)), some (some (some 61)), some (some (some 62)), some (some (some 63)), some (some (some 64)), some (some (some 65)), some (some (some 66)), some (some (some 67)), some none, some (some (some 68)), some (some (some 69)), some (some (some 72))]) hg (by decide +kernel)
  obtain ⟨v1_0, f1_0, e9, -, b1_0⟩ := b1; subst e9
  obtain ⟨w9, f1_1, e9, ⟨v1_1, rfl⟩, b1_1⟩ := b1_0; subst e9
  obtain ⟨w9, f1_2, e9, ⟨v1_2, rfl⟩, b1_2⟩ := b1_1; subst e9
  obtain ⟨w9, f1_3, e9, ⟨v1_3, rfl⟩, b1_3⟩ := b1_2; subst e9
  obtain ⟨w9, f1_4, e9, rfl, b1_4⟩ := b1_3; subst e9
  obtain ⟨w9, f1_5, e9, rfl, b1_5⟩ := b1_4; subst e9
  obtain ⟨w9, f1_6, e9, rfl, b1_6⟩ := b1_5; subst e9
  obtain ⟨w9, f1_7, e9, rfl, b1_7⟩ := b1_6; subst e9
  obtain ⟨w9, f1_8, e9, rfl, b1_8⟩ := b1_7; subst e9
  obtain ⟨w9, f1_9, e9, rfl, b1_9⟩ := b1_8; subst e9
  obtain ⟨w9, f1_10, e9, rfl, b1_10⟩ := b1_9; subst e9
  obtain ⟨w9, f1_11, e9, rfl, b1_11⟩ := b1_10; subst e9
  obtain ⟨w9, f1_12, e9, rfl, b1_12⟩ := b1_11; subst e9
  obtain ⟨w9, f1_13, e9, rfl, b1_13⟩ := b1_12; subst e9
  obtain ⟨w9, f1_14, e9, rfl, b1_14⟩ := b1_13; subst e9
  obtain ⟨w9, f1_15, e9, ⟨v1_15, rfl⟩, b1_15⟩ := b1_14; subst e9
  obtain ⟨w9, f1_16, e9, rfl, b1_16⟩ := b1_15; subst e9
  obtain ⟨w9, f1_17, e9, rfl, b1_17⟩ := b1_16; subst e9
  obtain ⟨w9, f1_18, e9, rfl, b1_18⟩ := b1_17; subst e9
  obtain rfl := b1_18
  obtain ⟨l2, d2, m2⟩ := i_oi (a := 57) (kd := 0) (n := 5) hg (by decide +kernel)
  obtain ⟨l3, d3, m3⟩ := i_oi (a := 58) (kd := 0) (n := 5) hg (by decide +kernel)
  obtain ⟨l4, d4, m4⟩ := i_oi (a := 59) (kd := 0) (n := 5) hg (by decide +kernel)
  obtain ⟨l5, d5, m5⟩ := i_oi (a := 60) (kd := 0) (n := 5) hg (by decide +kernel)
  obtain ⟨l6, d6, m6⟩ := i_oi (a := 61) (kd := 0) (n := 5) hg (by decide +kernel)
  obtain ⟨l7, d7, m7⟩ := i_oi (a := 62) (kd := 0) (n := 5) hg (by decide +kernel)
  obtain ⟨l8, d8, m8⟩ := i_oi (a := 63) (kd := 0) (n := 5) hg (by decide +kernel)
  obtain ⟨l9, d9, m9⟩ := i_oi (a := 64) (kd := 0) (n := 6) hg (by decide +kernel)
  obtain ⟨l10, d10, m10⟩ := i_oi (a := 65) (kd := 0) (n := 6) hg (by decide +kernel)
  obtain ⟨l11, d11, m11⟩ := i_oi (a := 66) (kd := 0) (n := 35) hg (by decide +kernel)
  obtain ⟨l12, d12, m12⟩ := i_oi (a := 67) (kd := 0) (n := 35) hg (by decide +kernel)
  obtain ⟨l13, d13, m13⟩ := i_oi (a := 68) (kd := 0) (n := 12) hg (by decide +kernel)
  obtain ⟨f14, c14, b14⟩ := i_ok2_ok (a := 69) (ci := 5) (Ts := [some (some (some 70)), some none, some (some (some 71))]) hg (by decide +kernel)
  obtain ⟨w9, f14_0, e9, rfl, b14_0⟩ := b14; subst e9
  obtain ⟨w9, f14_1, e9, ⟨v14_1, rfl⟩, b14_1⟩ := b14_0; subst e9
  obtain ⟨w9, f14_2, e9, rfl, b14_2⟩ := b14_1; subst e9
  obtain rfl := b14_2
  obtain ⟨l15, d15, m15⟩ := i_oi (a := 70) (kd := 0) (n := 5) hg (by decide +kernel)
  obtain ⟨l16, d16, m16⟩ := i_oi (a := 71) (kd := 0) (n := 5) hg (by decide +kernel)
  obtain ⟨f17, c17, b17⟩ := i_og_ok (a := 72) (ci := 3) (Ts := [(some (.inr (some 73))), (some (.inr (some 74))), (some (.inr (some 75))), (some (.inr (some 76))), (some (.inr (some 77))), (some (.inr (some 78))), (some (.inr (some 79))), (some (.inr (some 80))), none, (some (.inl (.ofNat 1, .ofNat 1)))]) hg (by decide +kernel)
  obtain ⟨w9, f17_0, e9, t9, b17_0⟩ := i_a2_c b17; subst e9; obtain rfl := i_tvr t9; clear t9
  obtain ⟨w9, f17_1, e9, t9, b17_1⟩ := i_a2_c b17_0; subst e9; obtain rfl := i_tvr t9; clear t9
  obtain ⟨w9, f17_2, e9, t9, b17_2⟩ := i_a2_c b17_1; subst e9; obtain rfl := i_tvr t9; clear t9
  obtain ⟨w9, f17_3, e9, t9, b17_3⟩ := i_a2_c b17_2; subst e9; obtain rfl := i_tvr t9; clear t9
  obtain ⟨w9, f17_4, e9, t9, b17_4⟩ := i_a2_c b17_3; subst e9; obtain rfl := i_tvr t9; clear t9
  obtain ⟨w9, f17_5, e9, t9, b17_5⟩ := i_a2_c b17_4; subst e9; obtain rfl := i_tvr t9; clear t9
  obtain ⟨w9, f17_6, e9, t9, b17_6⟩ := i_a2_c b17_5; subst e9; obtain rfl := i_tvr t9; clear t9
  obtain ⟨w9, f17_7, e9, t9, b17_7⟩ := i_a2_c b17_6; subst e9; obtain rfl := i_tvr t9; clear t9
  obtain ⟨pv17, f17_8, e9, t9, b17_8⟩ := i_a2_c b17_7; subst e9; clear t9
  obtain ⟨w9, f17_9, e9, t9, b17_9⟩ := i_a2_c b17_8; subst e9; obtain ⟨pk17, rfl, g17⟩ := i_tvi t9; clear t9
  obtain rfl := i_a2_n b17_9
  obtain rfl : pk17 = 1 := Int32.toInt_inj.mp (by have g1 := g17.1; have g2 := g17.2; have e1 : (1 : Int32).toInt = 1 := rfl; simp only [Int.ofNat_eq_natCast] at g1 g2; omega)
  obtain ⟨l18, d18, m18⟩ := i_oi (a := 73) (kd := 0) (n := 25) hg (by decide +kernel)
  obtain ⟨l19, d19, m19⟩ := i_oi (a := 74) (kd := 0) (n := 25) hg (by decide +kernel)
  obtain ⟨l20, d20, m20⟩ := i_oi (a := 75) (kd := 0) (n := 25) hg (by decide +kernel)
  obtain ⟨l21, d21, m21⟩ := i_oi (a := 76) (kd := 0) (n := 7) hg (by decide +kernel)
  obtain ⟨l22, d22, m22⟩ := i_oi (a := 77) (kd := 0) (n := 5) hg (by decide +kernel)
  obtain ⟨l23, d23, m23⟩ := i_oi (a := 78) (kd := 0) (n := 6) hg (by decide +kernel)
  obtain ⟨l24, d24, m24⟩ := i_oi (a := 79) (kd := 0) (n := 30) hg (by decide +kernel)
  obtain ⟨l25, d25, m25⟩ := i_oi (a := 80) (kd := 0) (n := 260) hg (by decide +kernel)
  obtain ⟨x27, y27, z27⟩ := i_ok2_ok (a := 72) (ci := 3) (Ts := [none, none, none, none, none, none, none, none, some none, none]) hg (by decide +kernel)
  obtain ⟨_, _, e9, -, _, _, e8, -, _, _, e7, -, _, _, e6, -, _, _, e5, -, _, _, e4, -, _, _, e3, -, _, _, e2, -, _, _, e1, ⟨pe27, hpe27⟩, -⟩ := z27
  subst e9 e8 e7 e6 e5 e4 e3 e2 e1
  rw [c17] at y27
  have hv27 : pv17 = .int pe27 := by cases y27; exact hpe27
  clear y27
  rw [hv27] at c17
  have h1 : hT9 56 1 h := ⟨v1_0, v1_1, v1_2, v1_3, v1_15, v14_1, pe27, l2, l3, l4, l5, l6, l7, l8, l9, l10, l11, l12, l13, l15, l16, l18, l19, l20, l21, l22, l23, l24, l25, ⟨c1, d2, d3, d4, d5, d6, d7, d8, d9, d10, d11, d12, d13, c14, d15, d16, c17, d18, d19, d20, d21, d22, d23, d24, d25⟩, ⟨m2, m3, m4, m5, m6, m7, m8, m9, m10, m11, m12, m13, m15, m16⟩, fun _ => ⟨m18, m19, m20, m21, m22, m23, m24, m25⟩⟩
  exact h1
theorem la_sbB2 {h : J_H} (hI : IB h) : hT9 81 1 h := by
  obtain ⟨r, t, hg⟩ := hI
  obtain ⟨f1, c1, b1⟩ := i_ok2_ok (a := 81) (ci := 7) (Ts := [none, some none, some none, some none, some (some (some 82)), some (some (some 83)), some (some (some 84)), some (some (some 85)), some (some (some 86)), some (some (some 87)), some (some (some 88)), some (some (some 89)), some (some (some 90)), some (some (some 91)), some (some (some 92)), some none, some (some (some 93)), some (some (some 94)), some (some (some 97))]) hg (by decide +kernel)
  obtain ⟨v1_0, f1_0, e9, -, b1_0⟩ := b1; subst e9
  obtain ⟨w9, f1_1, e9, ⟨v1_1, rfl⟩, b1_1⟩ := b1_0; subst e9
  obtain ⟨w9, f1_2, e9, ⟨v1_2, rfl⟩, b1_2⟩ := b1_1; subst e9
  obtain ⟨w9, f1_3, e9, ⟨v1_3, rfl⟩, b1_3⟩ := b1_2; subst e9
  obtain ⟨w9, f1_4, e9, rfl, b1_4⟩ := b1_3; subst e9
  obtain ⟨w9, f1_5, e9, rfl, b1_5⟩ := b1_4; subst e9
  obtain ⟨w9, f1_6, e9, rfl, b1_6⟩ := b1_5; subst e9
  obtain ⟨w9, f1_7, e9, rfl, b1_7⟩ := b1_6; subst e9
  obtain ⟨w9, f1_8, e9, rfl, b1_8⟩ := b1_7; subst e9
  obtain ⟨w9, f1_9, e9, rfl, b1_9⟩ := b1_8; subst e9
  obtain ⟨w9, f1_10, e9, rfl, b1_10⟩ := b1_9; subst e9
  obtain ⟨w9, f1_11, e9, rfl, b1_11⟩ := b1_10; subst e9
  obtain ⟨w9, f1_12, e9, rfl, b1_12⟩ := b1_11; subst e9
  obtain ⟨w9, f1_13, e9, rfl, b1_13⟩ := b1_12; subst e9
  obtain ⟨w9, f1_14, e9, rfl, b1_14⟩ := b1_13; subst e9
  obtain ⟨w9, f1_15, e9, ⟨v1_15, rfl⟩, b1_15⟩ := b1_14; subst e9
  obtain ⟨w9, f1_16, e9, rfl, b1_16⟩ := b1_15; subst e9
  obtain ⟨w9, f1_17, e9, rfl, b1_17⟩ := b1_16; subst e9
  obtain ⟨w9, f1_18, e9, rfl, b1_18⟩ := b1_17; subst e9
  obtain rfl := b1_18
  obtain ⟨l2, d2, m2⟩ := i_oi (a := 82) (kd := 0) (n := 5) hg (by decide +kernel)
  obtain ⟨l3, d3, m3⟩ := i_oi (a := 83) (kd := 0) (n := 5) hg (by decide +kernel)
  obtain ⟨l4, d4, m4⟩ := i_oi (a := 84) (kd := 0) (n := 5) hg (by decide +kernel)
  obtain ⟨l5, d5, m5⟩ := i_oi (a := 85) (kd := 0) (n := 5) hg (by decide +kernel)
  obtain ⟨l6, d6, m6⟩ := i_oi (a := 86) (kd := 0) (n := 5) hg (by decide +kernel)
  obtain ⟨l7, d7, m7⟩ := i_oi (a := 87) (kd := 0) (n := 5) hg (by decide +kernel)
  obtain ⟨l8, d8, m8⟩ := i_oi (a := 88) (kd := 0) (n := 5) hg (by decide +kernel)
  obtain ⟨l9, d9, m9⟩ := i_oi (a := 89) (kd := 0) (n := 6) hg (by decide +kernel)
  obtain ⟨l10, d10, m10⟩ := i_oi (a := 90) (kd := 0) (n := 6) hg (by decide +kernel)
  obtain ⟨l11, d11, m11⟩ := i_oi (a := 91) (kd := 0) (n := 35) hg (by decide +kernel)
  obtain ⟨l12, d12, m12⟩ := i_oi (a := 92) (kd := 0) (n := 35) hg (by decide +kernel)
  obtain ⟨l13, d13, m13⟩ := i_oi (a := 93) (kd := 0) (n := 12) hg (by decide +kernel)
  obtain ⟨f14, c14, b14⟩ := i_ok2_ok (a := 94) (ci := 5) (Ts := [some (some (some 95)), some none, some (some (some 96))]) hg (by decide +kernel)
  obtain ⟨w9, f14_0, e9, rfl, b14_0⟩ := b14; subst e9
  obtain ⟨w9, f14_1, e9, ⟨v14_1, rfl⟩, b14_1⟩ := b14_0; subst e9
  obtain ⟨w9, f14_2, e9, rfl, b14_2⟩ := b14_1; subst e9
  obtain rfl := b14_2
  obtain ⟨l15, d15, m15⟩ := i_oi (a := 95) (kd := 0) (n := 5) hg (by decide +kernel)
  obtain ⟨l16, d16, m16⟩ := i_oi (a := 96) (kd := 0) (n := 5) hg (by decide +kernel)
  obtain ⟨f17, c17, b17⟩ := i_og_ok (a := 97) (ci := 3) (Ts := [(some (.inr (some 98))), (some (.inr (some 99))), (some (.inr (some 100))), (some (.inr (some 101))), (some (.inr (some 102))), (some (.inr (some 103))), (some (.inr (some 104))), (some (.inr (some 105))), none, (some (.inl (.ofNat 1, .ofNat 1)))]) hg (by decide +kernel)
  obtain ⟨w9, f17_0, e9, t9, b17_0⟩ := i_a2_c b17; subst e9; obtain rfl := i_tvr t9; clear t9
  obtain ⟨w9, f17_1, e9, t9, b17_1⟩ := i_a2_c b17_0; subst e9; obtain rfl := i_tvr t9; clear t9
  obtain ⟨w9, f17_2, e9, t9, b17_2⟩ := i_a2_c b17_1; subst e9; obtain rfl := i_tvr t9; clear t9
  obtain ⟨w9, f17_3, e9, t9, b17_3⟩ := i_a2_c b17_2; subst e9; obtain rfl := i_tvr t9; clear t9
  obtain ⟨w9, f17_4, e9, t9, b17_4⟩ := i_a2_c b17_3; subst e9; obtain rfl := i_tvr t9; clear t9
  obtain ⟨w9, f17_5, e9, t9, b17_5⟩ := i_a2_c b17_4; subst e9; obtain rfl := i_tvr t9; clear t9
  obtain ⟨w9, f17_6, e9, t9, b17_6⟩ := i_a2_c b17_5; subst e9; obtain rfl := i_tvr t9; clear t9
  obtain ⟨w9, f17_7, e9, t9, b17_7⟩ := i_a2_c b17_6; subst e9; obtain rfl := i_tvr t9; clear t9
  obtain ⟨pv17, f17_8, e9, t9, b17_8⟩ := i_a2_c b17_7; subst e9; clear t9
  obtain ⟨w9, f17_9, e9, t9, b17_9⟩ := i_a2_c b17_8; subst e9; obtain ⟨pk17, rfl, g17⟩ := i_tvi t9; clear t9
  obtain rfl := i_a2_n b17_9
  obtain rfl : pk17 = 1 := Int32.toInt_inj.mp (by have g1 := g17.1; have g2 := g17.2; have e1 : (1 : Int32).toInt = 1 := rfl; simp only [Int.ofNat_eq_natCast] at g1 g2; omega)
  obtain ⟨l18, d18, m18⟩ := i_oi (a := 98) (kd := 0) (n := 25) hg (by decide +kernel)
  obtain ⟨l19, d19, m19⟩ := i_oi (a := 99) (kd := 0) (n := 25) hg (by decide +kernel)
  obtain ⟨l20, d20, m20⟩ := i_oi (a := 100) (kd := 0) (n := 25) hg (by decide +kernel)
  obtain ⟨l21, d21, m21⟩ := i_oi (a := 101) (kd := 0) (n := 7) hg (by decide +kernel)
  obtain ⟨l22, d22, m22⟩ := i_oi (a := 102) (kd := 0) (n := 5) hg (by decide +kernel)
  obtain ⟨l23, d23, m23⟩ := i_oi (a := 103) (kd := 0) (n := 6) hg (by decide +kernel)
  obtain ⟨l24, d24, m24⟩ := i_oi (a := 104) (kd := 0) (n := 30) hg (by decide +kernel)
  obtain ⟨l25, d25, m25⟩ := i_oi (a := 105) (kd := 0) (n := 260) hg (by decide +kernel)
  obtain ⟨x27, y27, z27⟩ := i_ok2_ok (a := 97) (ci := 3) (Ts := [none, none, none, none, none, none, none, none, some none, none]) hg (by decide +kernel)
  obtain ⟨_, _, e9, -, _, _, e8, -, _, _, e7, -, _, _, e6, -, _, _, e5, -, _, _, e4, -, _, _, e3, -, _, _, e2, -, _, _, e1, ⟨pe27, hpe27⟩, -⟩ := z27
  subst e9 e8 e7 e6 e5 e4 e3 e2 e1
  rw [c17] at y27
  have hv27 : pv17 = .int pe27 := by cases y27; exact hpe27
  clear y27
  rw [hv27] at c17
  have h1 : hT9 81 1 h := ⟨v1_0, v1_1, v1_2, v1_3, v1_15, v14_1, pe27, l2, l3, l4, l5, l6, l7, l8, l9, l10, l11, l12, l13, l15, l16, l18, l19, l20, l21, l22, l23, l24, l25, ⟨c1, d2, d3, d4, d5, d6, d7, d8, d9, d10, d11, d12, d13, c14, d15, d16, c17, d18, d19, d20, d21, d22, d23, d24, d25⟩, ⟨m2, m3, m4, m5, m6, m7, m8, m9, m10, m11, m12, m13, m15, m16⟩, fun _ => ⟨m18, m19, m20, m21, m22, m23, m24, m25⟩⟩
  exact h1
theorem la_sbB3 {h : J_H} (hI : IB h) : hT9 106 1 h := by
  obtain ⟨r, t, hg⟩ := hI
  obtain ⟨f1, c1, b1⟩ := i_ok2_ok (a := 106) (ci := 7) (Ts := [none, some none, some none, some none, some (some (some 107)), some (some (some 108)), some (some (some 109)), some (some (some 110)), some (some (some 111)), some (some (some 112)), some (some (some 113)), some (some (some 114)), some (some (some 115)), some (some (some 116)), some (some (some 117)), some none, some (some (some 118)), some (some (some 119)), some (some (some 122))]) hg (by decide +kernel)
  obtain ⟨v1_0, f1_0, e9, -, b1_0⟩ := b1; subst e9
  obtain ⟨w9, f1_1, e9, ⟨v1_1, rfl⟩, b1_1⟩ := b1_0; subst e9
  obtain ⟨w9, f1_2, e9, ⟨v1_2, rfl⟩, b1_2⟩ := b1_1; subst e9
  obtain ⟨w9, f1_3, e9, ⟨v1_3, rfl⟩, b1_3⟩ := b1_2; subst e9
  obtain ⟨w9, f1_4, e9, rfl, b1_4⟩ := b1_3; subst e9
  obtain ⟨w9, f1_5, e9, rfl, b1_5⟩ := b1_4; subst e9
  obtain ⟨w9, f1_6, e9, rfl, b1_6⟩ := b1_5; subst e9
  obtain ⟨w9, f1_7, e9, rfl, b1_7⟩ := b1_6; subst e9
  obtain ⟨w9, f1_8, e9, rfl, b1_8⟩ := b1_7; subst e9
  obtain ⟨w9, f1_9, e9, rfl, b1_9⟩ := b1_8; subst e9
  obtain ⟨w9, f1_10, e9, rfl, b1_10⟩ := b1_9; subst e9
  obtain ⟨w9, f1_11, e9, rfl, b1_11⟩ := b1_10; subst e9
  obtain ⟨w9, f1_12, e9, rfl, b1_12⟩ := b1_11; subst e9
  obtain ⟨w9, f1_13, e9, rfl, b1_13⟩ := b1_12; subst e9
  obtain ⟨w9, f1_14, e9, rfl, b1_14⟩ := b1_13; subst e9
  obtain ⟨w9, f1_15, e9, ⟨v1_15, rfl⟩, b1_15⟩ := b1_14; subst e9
  obtain ⟨w9, f1_16, e9, rfl, b1_16⟩ := b1_15; subst e9
  obtain ⟨w9, f1_17, e9, rfl, b1_17⟩ := b1_16; subst e9
  obtain ⟨w9, f1_18, e9, rfl, b1_18⟩ := b1_17; subst e9
  obtain rfl := b1_18
  obtain ⟨l2, d2, m2⟩ := i_oi (a := 107) (kd := 0) (n := 5) hg (by decide +kernel)
  obtain ⟨l3, d3, m3⟩ := i_oi (a := 108) (kd := 0) (n := 5) hg (by decide +kernel)
  obtain ⟨l4, d4, m4⟩ := i_oi (a := 109) (kd := 0) (n := 5) hg (by decide +kernel)
  obtain ⟨l5, d5, m5⟩ := i_oi (a := 110) (kd := 0) (n := 5) hg (by decide +kernel)
  obtain ⟨l6, d6, m6⟩ := i_oi (a := 111) (kd := 0) (n := 5) hg (by decide +kernel)
  obtain ⟨l7, d7, m7⟩ := i_oi (a := 112) (kd := 0) (n := 5) hg (by decide +kernel)
  obtain ⟨l8, d8, m8⟩ := i_oi (a := 113) (kd := 0) (n := 5) hg (by decide +kernel)
  obtain ⟨l9, d9, m9⟩ := i_oi (a := 114) (kd := 0) (n := 6) hg (by decide +kernel)
  obtain ⟨l10, d10, m10⟩ := i_oi (a := 115) (kd := 0) (n := 6) hg (by decide +kernel)
  obtain ⟨l11, d11, m11⟩ := i_oi (a := 116) (kd := 0) (n := 35) hg (by decide +kernel)
  obtain ⟨l12, d12, m12⟩ := i_oi (a := 117) (kd := 0) (n := 35) hg (by decide +kernel)
  obtain ⟨l13, d13, m13⟩ := i_oi (a := 118) (kd := 0) (n := 12) hg (by decide +kernel)
  obtain ⟨f14, c14, b14⟩ := i_ok2_ok (a := 119) (ci := 5) (Ts := [some (some (some 120)), some none, some (some (some 121))]) hg (by decide +kernel)
  obtain ⟨w9, f14_0, e9, rfl, b14_0⟩ := b14; subst e9
  obtain ⟨w9, f14_1, e9, ⟨v14_1, rfl⟩, b14_1⟩ := b14_0; subst e9
  obtain ⟨w9, f14_2, e9, rfl, b14_2⟩ := b14_1; subst e9
  obtain rfl := b14_2
  obtain ⟨l15, d15, m15⟩ := i_oi (a := 120) (kd := 0) (n := 5) hg (by decide +kernel)
  obtain ⟨l16, d16, m16⟩ := i_oi (a := 121) (kd := 0) (n := 5) hg (by decide +kernel)
  obtain ⟨f17, c17, b17⟩ := i_og_ok (a := 122) (ci := 3) (Ts := [(some (.inr (some 123))), (some (.inr (some 124))), (some (.inr (some 125))), (some (.inr (some 126))), (some (.inr (some 127))), (some (.inr (some 128))), (some (.inr (some 129))), (some (.inr (some 130))), none, (some (.inl (.ofNat 1, .ofNat 1)))]) hg (by decide +kernel)
  obtain ⟨w9, f17_0, e9, t9, b17_0⟩ := i_a2_c b17; subst e9; obtain rfl := i_tvr t9; clear t9
  obtain ⟨w9, f17_1, e9, t9, b17_1⟩ := i_a2_c b17_0; subst e9; obtain rfl := i_tvr t9; clear t9
  obtain ⟨w9, f17_2, e9, t9, b17_2⟩ := i_a2_c b17_1; subst e9; obtain rfl := i_tvr t9; clear t9
  obtain ⟨w9, f17_3, e9, t9, b17_3⟩ := i_a2_c b17_2; subst e9; obtain rfl := i_tvr t9; clear t9
  obtain ⟨w9, f17_4, e9, t9, b17_4⟩ := i_a2_c b17_3; subst e9; obtain rfl := i_tvr t9; clear t9
  obtain ⟨w9, f17_5, e9, t9, b17_5⟩ := i_a2_c b17_4; subst e9; obtain rfl := i_tvr t9; clear t9
  obtain ⟨w9, f17_6, e9, t9, b17_6⟩ := i_a2_c b17_5; subst e9; obtain rfl := i_tvr t9; clear t9
  obtain ⟨w9, f17_7, e9, t9, b17_7⟩ := i_a2_c b17_6; subst e9; obtain rfl := i_tvr t9; clear t9
  obtain ⟨pv17, f17_8, e9, t9, b17_8⟩ := i_a2_c b17_7; subst e9; clear t9
  obtain ⟨w9, f17_9, e9, t9, b17_9⟩ := i_a2_c b17_8; subst e9; obtain ⟨pk17, rfl, g17⟩ := i_tvi t9; clear t9
  obtain rfl := i_a2_n b17_9
  obtain rfl : pk17 = 1 := Int32.toInt_inj.mp (by have g1 := g17.1; have g2 := g17.2; have e1 : (1 : Int32).toInt = 1 := rfl; simp only [Int.ofNat_eq_natCast] at g1 g2; omega)
  obtain ⟨l18, d18, m18⟩ := i_oi (a := 123) (kd := 0) (n := 25) hg (by decide +kernel)
  obtain ⟨l19, d19, m19⟩ := i_oi (a := 124) (kd := 0) (n := 25) hg (by decide +kernel)
  obtain ⟨l20, d20, m20⟩ := i_oi (a := 125) (kd := 0) (n := 25) hg (by decide +kernel)
  obtain ⟨l21, d21, m21⟩ := i_oi (a := 126) (kd := 0) (n := 7) hg (by decide +kernel)
  obtain ⟨l22, d22, m22⟩ := i_oi (a := 127) (kd := 0) (n := 5) hg (by decide +kernel)
  obtain ⟨l23, d23, m23⟩ := i_oi (a := 128) (kd := 0) (n := 6) hg (by decide +kernel)
  obtain ⟨l24, d24, m24⟩ := i_oi (a := 129) (kd := 0) (n := 30) hg (by decide +kernel)
  obtain ⟨l25, d25, m25⟩ := i_oi (a := 130) (kd := 0) (n := 260) hg (by decide +kernel)
  obtain ⟨x27, y27, z27⟩ := i_ok2_ok (a := 122) (ci := 3) (Ts := [none, none, none, none, none, none, none, none, some none, none]) hg (by decide +kernel)
  obtain ⟨_, _, e9, -, _, _, e8, -, _, _, e7, -, _, _, e6, -, _, _, e5, -, _, _, e4, -, _, _, e3, -, _, _, e2, -, _, _, e1, ⟨pe27, hpe27⟩, -⟩ := z27
  subst e9 e8 e7 e6 e5 e4 e3 e2 e1
  rw [c17] at y27
  have hv27 : pv17 = .int pe27 := by cases y27; exact hpe27
  clear y27
  rw [hv27] at c17
  have h1 : hT9 106 1 h := ⟨v1_0, v1_1, v1_2, v1_3, v1_15, v14_1, pe27, l2, l3, l4, l5, l6, l7, l8, l9, l10, l11, l12, l13, l15, l16, l18, l19, l20, l21, l22, l23, l24, l25, ⟨c1, d2, d3, d4, d5, d6, d7, d8, d9, d10, d11, d12, d13, c14, d15, d16, c17, d18, d19, d20, d21, d22, d23, d24, d25⟩, ⟨m2, m3, m4, m5, m6, m7, m8, m9, m10, m11, m12, m13, m15, m16⟩, fun _ => ⟨m18, m19, m20, m21, m22, m23, m24, m25⟩⟩
  exact h1
theorem la_sbB4 {h : J_H} (hI : IB h) : hT9 131 1 h := by
  obtain ⟨r, t, hg⟩ := hI
  obtain ⟨f1, c1, b1⟩ := i_ok2_ok (a := 131) (ci := 7) (Ts := [none, some none, some none, some none, some (some (some 132)), some (some (some 133)), some (some (some 134)), some (some (some 135)), some (some (some 136)), some (some (some 137)), some (some (some 138)), some (some (some 139)), some (some (some 140)), some (some (some 141)), some (some (some 142)), some none, some (some (some 143)), some (some (some 144)), some (some (some 147))]) hg (by decide +kernel)
  obtain ⟨v1_0, f1_0, e9, -, b1_0⟩ := b1; subst e9
  obtain ⟨w9, f1_1, e9, ⟨v1_1, rfl⟩, b1_1⟩ := b1_0; subst e9
  obtain ⟨w9, f1_2, e9, ⟨v1_2, rfl⟩, b1_2⟩ := b1_1; subst e9
  obtain ⟨w9, f1_3, e9, ⟨v1_3, rfl⟩, b1_3⟩ := b1_2; subst e9
  obtain ⟨w9, f1_4, e9, rfl, b1_4⟩ := b1_3; subst e9
  obtain ⟨w9, f1_5, e9, rfl, b1_5⟩ := b1_4; subst e9
  obtain ⟨w9, f1_6, e9, rfl, b1_6⟩ := b1_5; subst e9
  obtain ⟨w9, f1_7, e9, rfl, b1_7⟩ := b1_6; subst e9
  obtain ⟨w9, f1_8, e9, rfl, b1_8⟩ := b1_7; subst e9
  obtain ⟨w9, f1_9, e9, rfl, b1_9⟩ := b1_8; subst e9
  obtain ⟨w9, f1_10, e9, rfl, b1_10⟩ := b1_9; subst e9
  obtain ⟨w9, f1_11, e9, rfl, b1_11⟩ := b1_10; subst e9
  obtain ⟨w9, f1_12, e9, rfl, b1_12⟩ := b1_11; subst e9
  obtain ⟨w9, f1_13, e9, rfl, b1_13⟩ := b1_12; subst e9
  obtain ⟨w9, f1_14, e9, rfl, b1_14⟩ := b1_13; subst e9
  obtain ⟨w9, f1_15, e9, ⟨v1_15, rfl⟩, b1_15⟩ := b1_14; subst e9
  obtain ⟨w9, f1_16, e9, rfl, b1_16⟩ := b1_15; subst e9
  obtain ⟨w9, f1_17, e9, rfl, b1_17⟩ := b1_16; subst e9
  obtain ⟨w9, f1_18, e9, rfl, b1_18⟩ := b1_17; subst e9
  obtain rfl := b1_18
  obtain ⟨l2, d2, m2⟩ := i_oi (a := 132) (kd := 0) (n := 5) hg (by decide +kernel)
  obtain ⟨l3, d3, m3⟩ := i_oi (a := 133) (kd := 0) (n := 5) hg (by decide +kernel)
  obtain ⟨l4, d4, m4⟩ := i_oi (a := 134) (kd := 0) (n := 5) hg (by decide +kernel)
  obtain ⟨l5, d5, m5⟩ := i_oi (a := 135) (kd := 0) (n := 5) hg (by decide +kernel)
  obtain ⟨l6, d6, m6⟩ := i_oi (a := 136) (kd := 0) (n := 5) hg (by decide +kernel)
  obtain ⟨l7, d7, m7⟩ := i_oi (a := 137) (kd := 0) (n := 5) hg (by decide +kernel)
  obtain ⟨l8, d8, m8⟩ := i_oi (a := 138) (kd := 0) (n := 5) hg (by decide +kernel)
  obtain ⟨l9, d9, m9⟩ := i_oi (a := 139) (kd := 0) (n := 6) hg (by decide +kernel)
  obtain ⟨l10, d10, m10⟩ := i_oi (a := 140) (kd := 0) (n := 6) hg (by decide +kernel)
  obtain ⟨l11, d11, m11⟩ := i_oi (a := 141) (kd := 0) (n := 35) hg (by decide +kernel)
  obtain ⟨l12, d12, m12⟩ := i_oi (a := 142) (kd := 0) (n := 35) hg (by decide +kernel)
  obtain ⟨l13, d13, m13⟩ := i_oi (a := 143) (kd := 0) (n := 12) hg (by decide +kernel)
  obtain ⟨f14, c14, b14⟩ := i_ok2_ok (a := 144) (ci := 5) (Ts := [some (some (some 145)), some none, some (some (some 146))]) hg (by decide +kernel)
  obtain ⟨w9, f14_0, e9, rfl, b14_0⟩ := b14; subst e9
  obtain ⟨w9, f14_1, e9, ⟨v14_1, rfl⟩, b14_1⟩ := b14_0; subst e9
  obtain ⟨w9, f14_2, e9, rfl, b14_2⟩ := b14_1; subst e9
  obtain rfl := b14_2
  obtain ⟨l15, d15, m15⟩ := i_oi (a := 145) (kd := 0) (n := 5) hg (by decide +kernel)
  obtain ⟨l16, d16, m16⟩ := i_oi (a := 146) (kd := 0) (n := 5) hg (by decide +kernel)
  obtain ⟨f17, c17, b17⟩ := i_og_ok (a := 147) (ci := 3) (Ts := [(some (.inr (some 148))), (some (.inr (some 149))), (some (.inr (some 150))), (some (.inr (some 151))), (some (.inr (some 152))), (some (.inr (some 153))), (some (.inr (some 154))), (some (.inr (some 155))), none, (some (.inl (.ofNat 1, .ofNat 1)))]) hg (by decide +kernel)
  obtain ⟨w9, f17_0, e9, t9, b17_0⟩ := i_a2_c b17; subst e9; obtain rfl := i_tvr t9; clear t9
  obtain ⟨w9, f17_1, e9, t9, b17_1⟩ := i_a2_c b17_0; subst e9; obtain rfl := i_tvr t9; clear t9
  obtain ⟨w9, f17_2, e9, t9, b17_2⟩ := i_a2_c b17_1; subst e9; obtain rfl := i_tvr t9; clear t9
  obtain ⟨w9, f17_3, e9, t9, b17_3⟩ := i_a2_c b17_2; subst e9; obtain rfl := i_tvr t9; clear t9
  obtain ⟨w9, f17_4, e9, t9, b17_4⟩ := i_a2_c b17_3; subst e9; obtain rfl := i_tvr t9; clear t9
  obtain ⟨w9, f17_5, e9, t9, b17_5⟩ := i_a2_c b17_4; subst e9; obtain rfl := i_tvr t9; clear t9
  obtain ⟨w9, f17_6, e9, t9, b17_6⟩ := i_a2_c b17_5; subst e9; obtain rfl := i_tvr t9; clear t9
  obtain ⟨w9, f17_7, e9, t9, b17_7⟩ := i_a2_c b17_6; subst e9; obtain rfl := i_tvr t9; clear t9
  obtain ⟨pv17, f17_8, e9, t9, b17_8⟩ := i_a2_c b17_7; subst e9; clear t9
  obtain ⟨w9, f17_9, e9, t9, b17_9⟩ := i_a2_c b17_8; subst e9; obtain ⟨pk17, rfl, g17⟩ := i_tvi t9; clear t9
  obtain rfl := i_a2_n b17_9
  obtain rfl : pk17 = 1 := Int32.toInt_inj.mp (by have g1 := g17.1; have g2 := g17.2; have e1 : (1 : Int32).toInt = 1 := rfl; simp only [Int.ofNat_eq_natCast] at g1 g2; omega)
  obtain ⟨l18, d18, m18⟩ := i_oi (a := 148) (kd := 0) (n := 25) hg (by decide +kernel)
  obtain ⟨l19, d19, m19⟩ := i_oi (a := 149) (kd := 0) (n := 25) hg (by decide +kernel)
  obtain ⟨l20, d20, m20⟩ := i_oi (a := 150) (kd := 0) (n := 25) hg (by decide +kernel)
  obtain ⟨l21, d21, m21⟩ := i_oi (a := 151) (kd := 0) (n := 7) hg (by decide +kernel)
  obtain ⟨l22, d22, m22⟩ := i_oi (a := 152) (kd := 0) (n := 5) hg (by decide +kernel)
  obtain ⟨l23, d23, m23⟩ := i_oi (a := 153) (kd := 0) (n := 6) hg (by decide +kernel)
  obtain ⟨l24, d24, m24⟩ := i_oi (a := 154) (kd := 0) (n := 30) hg (by decide +kernel)
  obtain ⟨l25, d25, m25⟩ := i_oi (a := 155) (kd := 0) (n := 260) hg (by decide +kernel)
  obtain ⟨x27, y27, z27⟩ := i_ok2_ok (a := 147) (ci := 3) (Ts := [none, none, none, none, none, none, none, none, some none, none]) hg (by decide +kernel)
  obtain ⟨_, _, e9, -, _, _, e8, -, _, _, e7, -, _, _, e6, -, _, _, e5, -, _, _, e4, -, _, _, e3, -, _, _, e2, -, _, _, e1, ⟨pe27, hpe27⟩, -⟩ := z27
  subst e9 e8 e7 e6 e5 e4 e3 e2 e1
  rw [c17] at y27
  have hv27 : pv17 = .int pe27 := by cases y27; exact hpe27
  clear y27
  rw [hv27] at c17
  have h1 : hT9 131 1 h := ⟨v1_0, v1_1, v1_2, v1_3, v1_15, v14_1, pe27, l2, l3, l4, l5, l6, l7, l8, l9, l10, l11, l12, l13, l15, l16, l18, l19, l20, l21, l22, l23, l24, l25, ⟨c1, d2, d3, d4, d5, d6, d7, d8, d9, d10, d11, d12, d13, c14, d15, d16, c17, d18, d19, d20, d21, d22, d23, d24, d25⟩, ⟨m2, m3, m4, m5, m6, m7, m8, m9, m10, m11, m12, m13, m15, m16⟩, fun _ => ⟨m18, m19, m20, m21, m22, m23, m24, m25⟩⟩
  exact h1
theorem la_sbB5 {h : J_H} (hI : IB h) : hT9 156 1 h := by
  obtain ⟨r, t, hg⟩ := hI
  obtain ⟨f1, c1, b1⟩ := i_ok2_ok (a := 156) (ci := 7) (Ts := [none, some none, some none, some none, some (some (some 157)), some (some (some 158)), some (some (some 159)), some (some (some 160)), some (some (some 161)), some (some (some 162)), some (some (some 163)), some (some (some 164)), some (some (some 165)), some (some (some 166)), some (some (some 167)), some none, some (some (some 168)), some (some (some 169)), some (some (some 172))]) hg (by decide +kernel)
  obtain ⟨v1_0, f1_0, e9, -, b1_0⟩ := b1; subst e9
  obtain ⟨w9, f1_1, e9, ⟨v1_1, rfl⟩, b1_1⟩ := b1_0; subst e9
  obtain ⟨w9, f1_2, e9, ⟨v1_2, rfl⟩, b1_2⟩ := b1_1; subst e9
  obtain ⟨w9, f1_3, e9, ⟨v1_3, rfl⟩, b1_3⟩ := b1_2; subst e9
  obtain ⟨w9, f1_4, e9, rfl, b1_4⟩ := b1_3; subst e9
  obtain ⟨w9, f1_5, e9, rfl, b1_5⟩ := b1_4; subst e9
  obtain ⟨w9, f1_6, e9, rfl, b1_6⟩ := b1_5; subst e9
  obtain ⟨w9, f1_7, e9, rfl, b1_7⟩ := b1_6; subst e9
  obtain ⟨w9, f1_8, e9, rfl, b1_8⟩ := b1_7; subst e9
  obtain ⟨w9, f1_9, e9, rfl, b1_9⟩ := b1_8; subst e9
  obtain ⟨w9, f1_10, e9, rfl, b1_10⟩ := b1_9; subst e9
  obtain ⟨w9, f1_11, e9, rfl, b1_11⟩ := b1_10; subst e9
  obtain ⟨w9, f1_12, e9, rfl, b1_12⟩ := b1_11; subst e9
  obtain ⟨w9, f1_13, e9, rfl, b1_13⟩ := b1_12; subst e9
  obtain ⟨w9, f1_14, e9, rfl, b1_14⟩ := b1_13; subst e9
  obtain ⟨w9, f1_15, e9, ⟨v1_15, rfl⟩, b1_15⟩ := b1_14; subst e9
  obtain ⟨w9, f1_16, e9, rfl, b1_16⟩ := b1_15; subst e9
  obtain ⟨w9, f1_17, e9, rfl, b1_17⟩ := b1_16; subst e9
  obtain ⟨w9, f1_18, e9, rfl, b1_18⟩ := b1_17; subst e9
  obtain rfl := b1_18
  obtain ⟨l2, d2, m2⟩ := i_oi (a := 157) (kd := 0) (n := 5) hg (by decide +kernel)
  obtain ⟨l3, d3, m3⟩ := i_oi (a := 158) (kd := 0) (n := 5) hg (by decide +kernel)
  obtain ⟨l4, d4, m4⟩ := i_oi (a := 159) (kd := 0) (n := 5) hg (by decide +kernel)
  obtain ⟨l5, d5, m5⟩ := i_oi (a := 160) (kd := 0) (n := 5) hg (by decide +kernel)
  obtain ⟨l6, d6, m6⟩ := i_oi (a := 161) (kd := 0) (n := 5) hg (by decide +kernel)
  obtain ⟨l7, d7, m7⟩ := i_oi (a := 162) (kd := 0) (n := 5) hg (by decide +kernel)
  obtain ⟨l8, d8, m8⟩ := i_oi (a := 163) (kd := 0) (n := 5) hg (by decide +kernel)
  obtain ⟨l9, d9, m9⟩ := i_oi (a := 164) (kd := 0) (n := 6) hg (by decide +kernel)
  obtain ⟨l10, d10, m10⟩ := i_oi (a := 165) (kd := 0) (n := 6) hg (by decide +kernel)
  obtain ⟨l11, d11, m11⟩ := i_oi (a := 166) (kd := 0) (n := 35) hg (by decide +kernel)
  obtain ⟨l12, d12, m12⟩ := i_oi (a := 167) (kd := 0) (n := 35) hg (by decide +kernel)
  obtain ⟨l13, d13, m13⟩ := i_oi (a := 168) (kd := 0) (n := 12) hg (by decide +kernel)
  obtain ⟨f14, c14, b14⟩ := i_ok2_ok (a := 169) (ci := 5) (Ts := [some (some (some 170)), some none, some (some (some 171))]) hg (by decide +kernel)
  obtain ⟨w9, f14_0, e9, rfl, b14_0⟩ := b14; subst e9
  obtain ⟨w9, f14_1, e9, ⟨v14_1, rfl⟩, b14_1⟩ := b14_0; subst e9
  obtain ⟨w9, f14_2, e9, rfl, b14_2⟩ := b14_1; subst e9
  obtain rfl := b14_2
  obtain ⟨l15, d15, m15⟩ := i_oi (a := 170) (kd := 0) (n := 5) hg (by decide +kernel)
  obtain ⟨l16, d16, m16⟩ := i_oi (a := 171) (kd := 0) (n := 5) hg (by decide +kernel)
  obtain ⟨f17, c17, b17⟩ := i_og_ok (a := 172) (ci := 3) (Ts := [(some (.inr (some 173))), (some (.inr (some 174))), (some (.inr (some 175))), (some (.inr (some 176))), (some (.inr (some 177))), (some (.inr (some 178))), (some (.inr (some 179))), (some (.inr (some 180))), none, (some (.inl (.ofNat 1, .ofNat 1)))]) hg (by decide +kernel)
  obtain ⟨w9, f17_0, e9, t9, b17_0⟩ := i_a2_c b17; subst e9; obtain rfl := i_tvr t9; clear t9
  obtain ⟨w9, f17_1, e9, t9, b17_1⟩ := i_a2_c b17_0; subst e9; obtain rfl := i_tvr t9; clear t9
  obtain ⟨w9, f17_2, e9, t9, b17_2⟩ := i_a2_c b17_1; subst e9; obtain rfl := i_tvr t9; clear t9
  obtain ⟨w9, f17_3, e9, t9, b17_3⟩ := i_a2_c b17_2; subst e9; obtain rfl := i_tvr t9; clear t9
  obtain ⟨w9, f17_4, e9, t9, b17_4⟩ := i_a2_c b17_3; subst e9; obtain rfl := i_tvr t9; clear t9
  obtain ⟨w9, f17_5, e9, t9, b17_5⟩ := i_a2_c b17_4; subst e9; obtain rfl := i_tvr t9; clear t9
  obtain ⟨w9, f17_6, e9, t9, b17_6⟩ := i_a2_c b17_5; subst e9; obtain rfl := i_tvr t9; clear t9
  obtain ⟨w9, f17_7, e9, t9, b17_7⟩ := i_a2_c b17_6; subst e9; obtain rfl := i_tvr t9; clear t9
  obtain ⟨pv17, f17_8, e9, t9, b17_8⟩ := i_a2_c b17_7; subst e9; clear t9
  obtain ⟨w9, f17_9, e9, t9, b17_9⟩ := i_a2_c b17_8; subst e9; obtain ⟨pk17, rfl, g17⟩ := i_tvi t9; clear t9
  obtain rfl := i_a2_n b17_9
  obtain rfl : pk17 = 1 := Int32.toInt_inj.mp (by have g1 := g17.1; have g2 := g17.2; have e1 : (1 : Int32).toInt = 1 := rfl; simp only [Int.ofNat_eq_natCast] at g1 g2; omega)
  obtain ⟨l18, d18, m18⟩ := i_oi (a := 173) (kd := 0) (n := 25) hg (by decide +kernel)
  obtain ⟨l19, d19, m19⟩ := i_oi (a := 174) (kd := 0) (n := 25) hg (by decide +kernel)
  obtain ⟨l20, d20, m20⟩ := i_oi (a := 175) (kd := 0) (n := 25) hg (by decide +kernel)
  obtain ⟨l21, d21, m21⟩ := i_oi (a := 176) (kd := 0) (n := 7) hg (by decide +kernel)
  obtain ⟨l22, d22, m22⟩ := i_oi (a := 177) (kd := 0) (n := 5) hg (by decide +kernel)
  obtain ⟨l23, d23, m23⟩ := i_oi (a := 178) (kd := 0) (n := 6) hg (by decide +kernel)
  obtain ⟨l24, d24, m24⟩ := i_oi (a := 179) (kd := 0) (n := 30) hg (by decide +kernel)
  obtain ⟨l25, d25, m25⟩ := i_oi (a := 180) (kd := 0) (n := 260) hg (by decide +kernel)
  obtain ⟨x27, y27, z27⟩ := i_ok2_ok (a := 172) (ci := 3) (Ts := [none, none, none, none, none, none, none, none, some none, none]) hg (by decide +kernel)
  obtain ⟨_, _, e9, -, _, _, e8, -, _, _, e7, -, _, _, e6, -, _, _, e5, -, _, _, e4, -, _, _, e3, -, _, _, e2, -, _, _, e1, ⟨pe27, hpe27⟩, -⟩ := z27
  subst e9 e8 e7 e6 e5 e4 e3 e2 e1
  rw [c17] at y27
  have hv27 : pv17 = .int pe27 := by cases y27; exact hpe27
  clear y27
  rw [hv27] at c17
  have h1 : hT9 156 1 h := ⟨v1_0, v1_1, v1_2, v1_3, v1_15, v14_1, pe27, l2, l3, l4, l5, l6, l7, l8, l9, l10, l11, l12, l13, l15, l16, l18, l19, l20, l21, l22, l23, l24, l25, ⟨c1, d2, d3, d4, d5, d6, d7, d8, d9, d10, d11, d12, d13, c14, d15, d16, c17, d18, d19, d20, d21, d22, d23, d24, d25⟩, ⟨m2, m3, m4, m5, m6, m7, m8, m9, m10, m11, m12, m13, m15, m16⟩, fun _ => ⟨m18, m19, m20, m21, m22, m23, m24, m25⟩⟩
  exact h1
theorem la_sbB6 {h : J_H} (hI : IB h) : hT9 181 1 h := by
  obtain ⟨r, t, hg⟩ := hI
  obtain ⟨f1, c1, b1⟩ := i_ok2_ok (a := 181) (ci := 7) (Ts := [none, some none, some none, some none, some (some (some 182)), some (some (some 183)), some (some (some 184)), some (some (some 185)), some (some (some 186)), some (some (some 187)), some (some (some 188)), some (some (some 189)), some (some (some 190)), some (some (some 191)), some (some (some 192)), some none, some (some (some 193)), some (some (some 194)), some (some (some 197))]) hg (by decide +kernel)
  obtain ⟨v1_0, f1_0, e9, -, b1_0⟩ := b1; subst e9
  obtain ⟨w9, f1_1, e9, ⟨v1_1, rfl⟩, b1_1⟩ := b1_0; subst e9
  obtain ⟨w9, f1_2, e9, ⟨v1_2, rfl⟩, b1_2⟩ := b1_1; subst e9
  obtain ⟨w9, f1_3, e9, ⟨v1_3, rfl⟩, b1_3⟩ := b1_2; subst e9
  obtain ⟨w9, f1_4, e9, rfl, b1_4⟩ := b1_3; subst e9
  obtain ⟨w9, f1_5, e9, rfl, b1_5⟩ := b1_4; subst e9
  obtain ⟨w9, f1_6, e9, rfl, b1_6⟩ := b1_5; subst e9
  obtain ⟨w9, f1_7, e9, rfl, b1_7⟩ := b1_6; subst e9
  obtain ⟨w9, f1_8, e9, rfl, b1_8⟩ := b1_7; subst e9
  obtain ⟨w9, f1_9, e9, rfl, b1_9⟩ := b1_8; subst e9
  obtain ⟨w9, f1_10, e9, rfl, b1_10⟩ := b1_9; subst e9
  obtain ⟨w9, f1_11, e9, rfl, b1_11⟩ := b1_10; subst e9
  obtain ⟨w9, f1_12, e9, rfl, b1_12⟩ := b1_11; subst e9
  obtain ⟨w9, f1_13, e9, rfl, b1_13⟩ := b1_12; subst e9
  obtain ⟨w9, f1_14, e9, rfl, b1_14⟩ := b1_13; subst e9
  obtain ⟨w9, f1_15, e9, ⟨v1_15, rfl⟩, b1_15⟩ := b1_14; subst e9
  obtain ⟨w9, f1_16, e9, rfl, b1_16⟩ := b1_15; subst e9
  obtain ⟨w9, f1_17, e9, rfl, b1_17⟩ := b1_16; subst e9
  obtain ⟨w9, f1_18, e9, rfl, b1_18⟩ := b1_17; subst e9
  obtain rfl := b1_18
  obtain ⟨l2, d2, m2⟩ := i_oi (a := 182) (kd := 0) (n := 5) hg (by decide +kernel)
  obtain ⟨l3, d3, m3⟩ := i_oi (a := 183) (kd := 0) (n := 5) hg (by decide +kernel)
  obtain ⟨l4, d4, m4⟩ := i_oi (a := 184) (kd := 0) (n := 5) hg (by decide +kernel)
  obtain ⟨l5, d5, m5⟩ := i_oi (a := 185) (kd := 0) (n := 5) hg (by decide +kernel)
  obtain ⟨l6, d6, m6⟩ := i_oi (a := 186) (kd := 0) (n := 5) hg (by decide +kernel)
  obtain ⟨l7, d7, m7⟩ := i_oi (a := 187) (kd := 0) (n := 5) hg (by decide +kernel)
  obtain ⟨l8, d8, m8⟩ := i_oi (a := 188) (kd := 0) (n := 5) hg (by decide +kernel)
  obtain ⟨l9, d9, m9⟩ := i_oi (a := 189) (kd := 0) (n := 6) hg (by decide +kernel)
  obtain ⟨l10, d10, m10⟩ := i_oi (a := 190) (kd := 0) (n := 6) hg (by decide +kernel)
  obtain ⟨l11, d11, m11⟩ := i_oi (a := 191) (kd := 0) (n := 35) hg (by decide +kernel)
  obtain ⟨l12, d12, m12⟩ := i_oi (a := 192) (kd := 0) (n := 35) hg (by decide +kernel)
  obtain ⟨l13, d13, m13⟩ := i_oi (a := 193) (kd := 0) (n := 12) hg (by decide +kernel)
  obtain ⟨f14, c14, b14⟩ := i_ok2_ok (a := 194) (ci := 5) (Ts := [some (some (some 195)), some none, some (some (some 196))]) hg (by decide +kernel)
  obtain ⟨w9, f14_0, e9, rfl, b14_0⟩ := b14; subst e9
  obtain ⟨w9, f14_1, e9, ⟨v14_1, rfl⟩, b14_1⟩ := b14_0; subst e9
  obtain ⟨w9, f14_2, e9, rfl, b14_2⟩ := b14_1; subst e9
  obtain rfl := b14_2
  obtain ⟨l15, d15, m15⟩ := i_oi (a := 195) (kd := 0) (n := 5) hg (by decide +kernel)
  obtain ⟨l16, d16, m16⟩ := i_oi (a := 196) (kd := 0) (n := 5) hg (by decide +kernel)
  obtain ⟨f17, c17, b17⟩ := i_og_ok (a := 197) (ci := 3) (Ts := [(some (.inr (some 198))), (some (.inr (some 199))), (some (.inr (some 200))), (some (.inr (some 201))), (some (.inr (some 202))), (some (.inr (some 203))), (some (.inr (some 204))), (some (.inr (some 205))), none, (some (.inl (.ofNat 1, .ofNat 1)))]) hg (by decide +kernel)
  obtain ⟨w9, f17_0, e9, t9, b17_0⟩ := i_a2_c b17; subst e9; obtain rfl := i_tvr t9; clear t9
  obtain ⟨w9, f17_1, e9, t9, b17_1⟩ := i_a2_c b17_0; subst e9; obtain rfl := i_tvr t9; clear t9
  obtain ⟨w9, f17_2, e9, t9, b17_2⟩ := i_a2_c b17_1; subst e9; obtain rfl := i_tvr t9; clear t9
  obtain ⟨w9, f17_3, e9, t9, b17_3⟩ := i_a2_c b17_2; subst e9; obtain rfl := i_tvr t9; clear t9
  obtain ⟨w9, f17_4, e9, t9, b17_4⟩ := i_a2_c b17_3; subst e9; obtain rfl := i_tvr t9; clear t9
  obtain ⟨w9, f17_5, e9, t9, b17_5⟩ := i_a2_c b17_4; subst e9; obtain rfl := i_tvr t9; clear t9
  obtain ⟨w9, f17_6, e9, t9, b17_6⟩ := i_a2_c b17_5; subst e9; obtain rfl := i_tvr t9; clear t9
  obtain ⟨w9, f17_7, e9, t9, b17_7⟩ := i_a2_c b17_6; subst e9; obtain rfl := i_tvr t9; clear t9
  obtain ⟨pv17, f17_8, e9, t9, b17_8⟩ := i_a2_c b17_7; subst e9; clear t9
  obtain ⟨w9, f17_9, e9, t9, b17_9⟩ := i_a2_c b17_8; subst e9; obtain ⟨pk17, rfl, g17⟩ := i_tvi t9; clear t9
  obtain rfl := i_a2_n b17_9
  obtain rfl : pk17 = 1 := Int32.toInt_inj.mp (by have g1 := g17.1; have g2 := g17.2; have e1 : (1 : Int32).toInt = 1 := rfl; simp only [Int.ofNat_eq_natCast] at g1 g2; omega)
  obtain ⟨l18, d18, m18⟩ := i_oi (a := 198) (kd := 0) (n := 25) hg (by decide +kernel)
  obtain ⟨l19, d19, m19⟩ := i_oi (a := 199) (kd := 0) (n := 25) hg (by decide +kernel)
  obtain ⟨l20, d20, m20⟩ := i_oi (a := 200) (kd := 0) (n := 25) hg (by decide +kernel)
  obtain ⟨l21, d21, m21⟩ := i_oi (a := 201) (kd := 0) (n := 7) hg (by decide +kernel)
  obtain ⟨l22, d22, m22⟩ := i_oi (a := 202) (kd := 0) (n := 5) hg (by decide +kernel)
  obtain ⟨l23, d23, m23⟩ := i_oi (a := 203) (kd := 0) (n := 6) hg (by decide +kernel)
  obtain ⟨l24, d24, m24⟩ := i_oi (a := 204) (kd := 0) (n := 30) hg (by decide +kernel)
  obtain ⟨l25, d25, m25⟩ := i_oi (a := 205) (kd := 0) (n := 260) hg (by decide +kernel)
  obtain ⟨x27, y27, z27⟩ := i_ok2_ok (a := 197) (ci := 3) (Ts := [none, none, none, none, none, none, none, none, some none, none]) hg (by decide +kernel)
  obtain ⟨_, _, e9, -, _, _, e8, -, _, _, e7, -, _, _, e6, -, _, _, e5, -, _, _, e4, -, _, _, e3, -, _, _, e2, -, _, _, e1, ⟨pe27, hpe27⟩, -⟩ := z27
  subst e9 e8 e7 e6 e5 e4 e3 e2 e1
  rw [c17] at y27
  have hv27 : pv17 = .int pe27 := by cases y27; exact hpe27
  clear y27
  rw [hv27] at c17
  have h1 : hT9 181 1 h := ⟨v1_0, v1_1, v1_2, v1_3, v1_15, v14_1, pe27, l2, l3, l4, l5, l6, l7, l8, l9, l10, l11, l12, l13, l15, l16, l18, l19, l20, l21, l22, l23, l24, l25, ⟨c1, d2, d3, d4, d5, d6, d7, d8, d9, d10, d11, d12, d13, c14, d15, d16, c17, d18, d19, d20, d21, d22, d23, d24, d25⟩, ⟨m2, m3, m4, m5, m6, m7, m8, m9, m10, m11, m12, m13, m15, m16⟩, fun _ => ⟨m18, m19, m20, m21, m22, m23, m24, m25⟩⟩
  exact h1
theorem la_sbB7 {h : J_H} (hI : IB h) : hT9 206 1 h := by
  obtain ⟨r, t, hg⟩ := hI
  obtain ⟨f1, c1, b1⟩ := i_ok2_ok (a := 206) (ci := 7) (Ts := [none, some none, some none, some none, some (some (some 207)), some (some (some 208)), some (some (some 209)), some (some (some 210)), some (some (some 211)), some (some (some 212)), some (some (some 213)), some (some (some 214)), some (some (some 215)), some (some (some 216)), some (some (some 217)), some none, some (some (some 218)), some (some (some 219)), some (some (some 222))]) hg (by decide +kernel)
  obtain ⟨v1_0, f1_0, e9, -, b1_0⟩ := b1; subst e9
  obtain ⟨w9, f1_1, e9, ⟨v1_1, rfl⟩, b1_1⟩ := b1_0; subst e9
  obtain ⟨w9, f1_2, e9, ⟨v1_2, rfl⟩, b1_2⟩ := b1_1; subst e9
  obtain ⟨w9, f1_3, e9, ⟨v1_3, rfl⟩, b1_3⟩ := b1_2; subst e9
  obtain ⟨w9, f1_4, e9, rfl, b1_4⟩ := b1_3; subst e9
  obtain ⟨w9, f1_5, e9, rfl, b1_5⟩ := b1_4; subst e9
  obtain ⟨w9, f1_6, e9, rfl, b1_6⟩ := b1_5; subst e9
  obtain ⟨w9, f1_7, e9, rfl, b1_7⟩ := b1_6; subst e9
  obtain ⟨w9, f1_8, e9, rfl, b1_8⟩ := b1_7; subst e9
  obtain ⟨w9, f1_9, e9, rfl, b1_9⟩ := b1_8; subst e9
  obtain ⟨w9, f1_10, e9, rfl, b1_10⟩ := b1_9; subst e9
  obtain ⟨w9, f1_11, e9, rfl, b1_11⟩ := b1_10; subst e9
  obtain ⟨w9, f1_12, e9, rfl, b1_12⟩ := b1_11; subst e9
  obtain ⟨w9, f1_13, e9, rfl, b1_13⟩ := b1_12; subst e9
  obtain ⟨w9, f1_14, e9, rfl, b1_14⟩ := b1_13; subst e9
  obtain ⟨w9, f1_15, e9, ⟨v1_15, rfl⟩, b1_15⟩ := b1_14; subst e9
  obtain ⟨w9, f1_16, e9, rfl, b1_16⟩ := b1_15; subst e9
  obtain ⟨w9, f1_17, e9, rfl, b1_17⟩ := b1_16; subst e9
  obtain ⟨w9, f1_18, e9, rfl, b1_18⟩ := b1_17; subst e9
  obtain rfl := b1_18
  obtain ⟨l2, d2, m2⟩ := i_oi (a := 207) (kd := 0) (n := 5) hg (by decide +kernel)
  obtain ⟨l3, d3, m3⟩ := i_oi (a := 208) (kd := 0) (n := 5) hg (by decide +kernel)
  obtain ⟨l4, d4, m4⟩ := i_oi (a := 209) (kd := 0) (n := 5) hg (by decide +kernel)
  obtain ⟨l5, d5, m5⟩ := i_oi (a := 210) (kd := 0) (n := 5) hg (by decide +kernel)
  obtain ⟨l6, d6, m6⟩ := i_oi (a := 211) (kd := 0) (n := 5) hg (by decide +kernel)
  obtain ⟨l7, d7, m7⟩ := i_oi (a := 212) (kd := 0) (n := 5) hg (by decide +kernel)
  obtain ⟨l8, d8, m8⟩ := i_oi (a := 213) (kd := 0) (n := 5) hg (by decide +kernel)
  obtain ⟨l9, d9, m9⟩ := i_oi (a := 214) (kd := 0) (n := 6) hg (by decide +kernel)
  obtain ⟨l10, d10, m10⟩ := i_oi (a := 215) (kd := 0) (n := 6) hg (by decide +kernel)
  obtain ⟨l11, d11, m11⟩ := i_oi (a := 216) (kd := 0) (n := 35) hg (by decide +kernel)
  obtain ⟨l12, d12, m12⟩ := i_oi (a := 217) (kd := 0) (n := 35) hg (by decide +kernel)
  obtain ⟨l13, d13, m13⟩ := i_oi (a := 218) (kd := 0) (n := 12) hg (by decide +kernel)
  obtain ⟨f14, c14, b14⟩ := i_ok2_ok (a := 219) (ci := 5) (Ts := [some (some (some 220)), some none, some (some (some 221))]) hg (by decide +kernel)
  obtain ⟨w9, f14_0, e9, rfl, b14_0⟩ := b14; subst e9
  obtain ⟨w9, f14_1, e9, ⟨v14_1, rfl⟩, b14_1⟩ := b14_0; subst e9
  obtain ⟨w9, f14_2, e9, rfl, b14_2⟩ := b14_1; subst e9
  obtain rfl := b14_2
  obtain ⟨l15, d15, m15⟩ := i_oi (a := 220) (kd := 0) (n := 5) hg (by decide +kernel)
  obtain ⟨l16, d16, m16⟩ := i_oi (a := 221) (kd := 0) (n := 5) hg (by decide +kernel)
  obtain ⟨f17, c17, b17⟩ := i_og_ok (a := 222) (ci := 3) (Ts := [(some (.inr (some 223))), (some (.inr (some 224))), (some (.inr (some 225))), (some (.inr (some 226))), (some (.inr (some 227))), (some (.inr (some 228))), (some (.inr (some 229))), (some (.inr (some 230))), none, (some (.inl (.ofNat 1, .ofNat 1)))]) hg (by decide +kernel)
  obtain ⟨w9, f17_0, e9, t9, b17_0⟩ := i_a2_c b17; subst e9; obtain rfl := i_tvr t9; clear t9
  obtain ⟨w9, f17_1, e9, t9, b17_1⟩ := i_a2_c b17_0; subst e9; obtain rfl := i_tvr t9; clear t9
  obtain ⟨w9, f17_2, e9, t9, b17_2⟩ := i_a2_c b17_1; subst e9; obtain rfl := i_tvr t9; clear t9
  obtain ⟨w9, f17_3, e9, t9, b17_3⟩ := i_a2_c b17_2; subst e9; obtain rfl := i_tvr t9; clear t9
  obtain ⟨w9, f17_4, e9, t9, b17_4⟩ := i_a2_c b17_3; subst e9; obtain rfl := i_tvr t9; clear t9
  obtain ⟨w9, f17_5, e9, t9, b17_5⟩ := i_a2_c b17_4; subst e9; obtain rfl := i_tvr t9; clear t9
  obtain ⟨w9, f17_6, e9, t9, b17_6⟩ := i_a2_c b17_5; subst e9; obtain rfl := i_tvr t9; clear t9
  obtain ⟨w9, f17_7, e9, t9, b17_7⟩ := i_a2_c b17_6; subst e9; obtain rfl := i_tvr t9; clear t9
  obtain ⟨pv17, f17_8, e9, t9, b17_8⟩ := i_a2_c b17_7; subst e9; clear t9
  obtain ⟨w9, f17_9, e9, t9, b17_9⟩ := i_a2_c b17_8; subst e9; obtain ⟨pk17, rfl, g17⟩ := i_tvi t9; clear t9
  obtain rfl := i_a2_n b17_9
  obtain rfl : pk17 = 1 := Int32.toInt_inj.mp (by have g1 := g17.1; have g2 := g17.2; have e1 : (1 : Int32).toInt = 1 := rfl; simp only [Int.ofNat_eq_natCast] at g1 g2; omega)
  obtain ⟨l18, d18, m18⟩ := i_oi (a := 223) (kd := 0) (n := 25) hg (by decide +kernel)
  obtain ⟨l19, d19, m19⟩ := i_oi (a := 224) (kd := 0) (n := 25) hg (by decide +kernel)
  obtain ⟨l20, d20, m20⟩ := i_oi (a := 225) (kd := 0) (n := 25) hg (by decide +kernel)
  obtain ⟨l21, d21, m21⟩ := i_oi (a := 226) (kd := 0) (n := 7) hg (by decide +kernel)
  obtain ⟨l22, d22, m22⟩ := i_oi (a := 227) (kd := 0) (n := 5) hg (by decide +kernel)
  obtain ⟨l23, d23, m23⟩ := i_oi (a := 228) (kd := 0) (n := 6) hg (by decide +kernel)
  obtain ⟨l24, d24, m24⟩ := i_oi (a := 229) (kd := 0) (n := 30) hg (by decide +kernel)
  obtain ⟨l25, d25, m25⟩ := i_oi (a := 230) (kd := 0) (n := 260) hg (by decide +kernel)
  obtain ⟨x27, y27, z27⟩ := i_ok2_ok (a := 222) (ci := 3) (Ts := [none, none, none, none, none, none, none, none, some none, none]) hg (by decide +kernel)
  obtain ⟨_, _, e9, -, _, _, e8, -, _, _, e7, -, _, _, e6, -, _, _, e5, -, _, _, e4, -, _, _, e3, -, _, _, e2, -, _, _, e1, ⟨pe27, hpe27⟩, -⟩ := z27
  subst e9 e8 e7 e6 e5 e4 e3 e2 e1
  rw [c17] at y27
  have hv27 : pv17 = .int pe27 := by cases y27; exact hpe27
  clear y27
  rw [hv27] at c17
  have h1 : hT9 206 1 h := ⟨v1_0, v1_1, v1_2, v1_3, v1_15, v14_1, pe27, l2, l3, l4, l5, l6, l7, l8, l9, l10, l11, l12, l13, l15, l16, l18, l19, l20, l21, l22, l23, l24, l25, ⟨c1, d2, d3, d4, d5, d6, d7, d8, d9, d10, d11, d12, d13, c14, d15, d16, c17, d18, d19, d20, d21, d22, d23, d24, d25⟩, ⟨m2, m3, m4, m5, m6, m7, m8, m9, m10, m11, m12, m13, m15, m16⟩, fun _ => ⟨m18, m19, m20, m21, m22, m23, m24, m25⟩⟩
  exact h1
theorem la_sbB8 {h : J_H} (hI : IB h) : hT9 231 1 h := by
  obtain ⟨r, t, hg⟩ := hI
  obtain ⟨f1, c1, b1⟩ := i_ok2_ok (a := 231) (ci := 7) (Ts := [none, some none, some none, some none, some (some (some 232)), some (some (some 233)), some (some (some 234)), some (some (some 235)), some (some (some 236)), some (some (some 237)), some (some (some 238)), some (some (some 239)), some (some (some 240)), some (some (some 241)), some (some (some 242)), some none, some (some (some 243)), some (some (some 244)), some (some (some 247))]) hg (by decide +kernel)
  obtain ⟨v1_0, f1_0, e9, -, b1_0⟩ := b1; subst e9
  obtain ⟨w9, f1_1, e9, ⟨v1_1, rfl⟩, b1_1⟩ := b1_0; subst e9
  obtain ⟨w9, f1_2, e9, ⟨v1_2, rfl⟩, b1_2⟩ := b1_1; subst e9
  obtain ⟨w9, f1_3, e9, ⟨v1_3, rfl⟩, b1_3⟩ := b1_2; subst e9
  obtain ⟨w9, f1_4, e9, rfl, b1_4⟩ := b1_3; subst e9
  obtain ⟨w9, f1_5, e9, rfl, b1_5⟩ := b1_4; subst e9
  obtain ⟨w9, f1_6, e9, rfl, b1_6⟩ := b1_5; subst e9
  obtain ⟨w9, f1_7, e9, rfl, b1_7⟩ := b1_6; subst e9
  obtain ⟨w9, f1_8, e9, rfl, b1_8⟩ := b1_7; subst e9
  obtain ⟨w9, f1_9, e9, rfl, b1_9⟩ := b1_8; subst e9
  obtain ⟨w9, f1_10, e9, rfl, b1_10⟩ := b1_9; subst e9
  obtain ⟨w9, f1_11, e9, rfl, b1_11⟩ := b1_10; subst e9
  obtain ⟨w9, f1_12, e9, rfl, b1_12⟩ := b1_11; subst e9
  obtain ⟨w9, f1_13, e9, rfl, b1_13⟩ := b1_12; subst e9
  obtain ⟨w9, f1_14, e9, rfl, b1_14⟩ := b1_13; subst e9
  obtain ⟨w9, f1_15, e9, ⟨v1_15, rfl⟩, b1_15⟩ := b1_14; subst e9
  obtain ⟨w9, f1_16, e9, rfl, b1_16⟩ := b1_15; subst e9
  obtain ⟨w9, f1_17, e9, rfl, b1_17⟩ := b1_16; subst e9
  obtain ⟨w9, f1_18, e9, rfl, b1_18⟩ := b1_17; subst e9
  obtain rfl := b1_18
  obtain ⟨l2, d2, m2⟩ := i_oi (a := 232) (kd := 0) (n := 5) hg (by decide +kernel)
  obtain ⟨l3, d3, m3⟩ := i_oi (a := 233) (kd := 0) (n := 5) hg (by decide +kernel)
  obtain ⟨l4, d4, m4⟩ := i_oi (a := 234) (kd := 0) (n := 5) hg (by decide +kernel)
  obtain ⟨l5, d5, m5⟩ := i_oi (a := 235) (kd := 0) (n := 5) hg (by decide +kernel)
  obtain ⟨l6, d6, m6⟩ := i_oi (a := 236) (kd := 0) (n := 5) hg (by decide +kernel)
  obtain ⟨l7, d7, m7⟩ := i_oi (a := 237) (kd := 0) (n := 5) hg (by decide +kernel)
  obtain ⟨l8, d8, m8⟩ := i_oi (a := 238) (kd := 0) (n := 5) hg (by decide +kernel)
  obtain ⟨l9, d9, m9⟩ := i_oi (a := 239) (kd := 0) (n := 6) hg (by decide +kernel)
  obtain ⟨l10, d10, m10⟩ := i_oi (a := 240) (kd := 0) (n := 6) hg (by decide +kernel)
  obtain ⟨l11, d11, m11⟩ := i_oi (a := 241) (kd := 0) (n := 35) hg (by decide +kernel)
  obtain ⟨l12, d12, m12⟩ := i_oi (a := 242) (kd := 0) (n := 35) hg (by decide +kernel)
  obtain ⟨l13, d13, m13⟩ := i_oi (a := 243) (kd := 0) (n := 12) hg (by decide +kernel)
  obtain ⟨f14, c14, b14⟩ := i_ok2_ok (a := 244) (ci := 5) (Ts := [some (some (some 245)), some none, some (some (some 246))]) hg (by decide +kernel)
  obtain ⟨w9, f14_0, e9, rfl, b14_0⟩ := b14; subst e9
  obtain ⟨w9, f14_1, e9, ⟨v14_1, rfl⟩, b14_1⟩ := b14_0; subst e9
  obtain ⟨w9, f14_2, e9, rfl, b14_2⟩ := b14_1; subst e9
  obtain rfl := b14_2
  obtain ⟨l15, d15, m15⟩ := i_oi (a := 245) (kd := 0) (n := 5) hg (by decide +kernel)
  obtain ⟨l16, d16, m16⟩ := i_oi (a := 246) (kd := 0) (n := 5) hg (by decide +kernel)
  obtain ⟨f17, c17, b17⟩ := i_og_ok (a := 247) (ci := 3) (Ts := [(some (.inr (some 248))), (some (.inr (some 249))), (some (.inr (some 250))), (some (.inr (some 251))), (some (.inr (some 252))), (some (.inr (some 253))), (some (.inr (some 254))), (some (.inr (some 255))), none, (some (.inl (.ofNat 1, .ofNat 1)))]) hg (by decide +kernel)
  obtain ⟨w9, f17_0, e9, t9, b17_0⟩ := i_a2_c b17; subst e9; obtain rfl := i_tvr t9; clear t9
  obtain ⟨w9, f17_1, e9, t9, b17_1⟩ := i_a2_c b17_0; subst e9; obtain rfl := i_tvr t9; clear t9
  obtain ⟨w9, f17_2, e9, t9, b17_2⟩ := i_a2_c b17_1; subst e9; obtain rfl := i_tvr t9; clear t9
  obtain ⟨w9, f17_3, e9, t9, b17_3⟩ := i_a2_c b17_2; subst e9; obtain rfl := i_tvr t9; clear t9
  obtain ⟨w9, f17_4, e9, t9, b17_4⟩ := i_a2_c b17_3; subst e9; obtain rfl := i_tvr t9; clear t9
  obtain ⟨w9, f17_5, e9, t9, b17_5⟩ := i_a2_c b17_4; subst e9; obtain rfl := i_tvr t9; clear t9
  obtain ⟨w9, f17_6, e9, t9, b17_6⟩ := i_a2_c b17_5; subst e9; obtain rfl := i_tvr t9; clear t9
  obtain ⟨w9, f17_7, e9, t9, b17_7⟩ := i_a2_c b17_6; subst e9; obtain rfl := i_tvr t9; clear t9
  obtain ⟨pv17, f17_8, e9, t9, b17_8⟩ := i_a2_c b17_7; subst e9; clear t9
  obtain ⟨w9, f17_9, e9, t9, b17_9⟩ := i_a2_c b17_8; subst e9; obtain ⟨pk17, rfl, g17⟩ := i_tvi t9; clear t9
  obtain rfl := i_a2_n b17_9
  obtain rfl : pk17 = 1 := Int32.toInt_inj.mp (by have g1 := g17.1; have g2 := g17.2; have e1 : (1 : Int32).toInt = 1 := rfl; simp only [Int.ofNat_eq_natCast] at g1 g2; omega)
  obtain ⟨l18, d18, m18⟩ := i_oi (a := 248) (kd := 0) (n := 25) hg (by decide +kernel)
  obtain ⟨l19, d19, m19⟩ := i_oi (a := 249) (kd := 0) (n := 25) hg (by decide +kernel)
  obtain ⟨l20, d20, m20⟩ := i_oi (a := 250) (kd := 0) (n := 25) hg (by decide +kernel)
  obtain ⟨l21, d21, m21⟩ := i_oi (a := 251) (kd := 0) (n := 7) hg (by decide +kernel)
  obtain ⟨l22, d22, m22⟩ := i_oi (a := 252) (kd := 0) (n := 5) hg (by decide +kernel)
  obtain ⟨l23, d23, m23⟩ := i_oi (a := 253) (kd := 0) (n := 6) hg (by decide +kernel)
  obtain ⟨l24, d24, m24⟩ := i_oi (a := 254) (kd := 0) (n := 30) hg (by decide +kernel)
  obtain ⟨l25, d25, m25⟩ := i_oi (a := 255) (kd := 0) (n := 260) hg (by decide +kernel)
  obtain ⟨x27, y27, z27⟩ := i_ok2_ok (a := 247) (ci := 3) (Ts := [none, none, none, none, none, none, none, none, some none, none]) hg (by decide +kernel)
  obtain ⟨_, _, e9, -, _, _, e8, -, _, _, e7, -, _, _, e6, -, _, _, e5, -, _, _, e4, -, _, _, e3, -, _, _, e2, -, _, _, e1, ⟨pe27, hpe27⟩, -⟩ := z27
  subst e9 e8 e7 e6 e5 e4 e3 e2 e1
  rw [c17] at y27
  have hv27 : pv17 = .int pe27 := by cases y27; exact hpe27
  clear y27
  rw [hv27] at c17
  have h1 : hT9 231 1 h := ⟨v1_0, v1_1, v1_2, v1_3, v1_15, v14_1, pe27, l2, l3, l4, l5, l6, l7, l8, l9, l10, l11, l12, l13, l15, l16, l18, l19, l20, l21, l22, l23, l24, l25, ⟨c1, d2, d3, d4, d5, d6, d7, d8, d9, d10, d11, d12, d13, c14, d15, d16, c17, d18, d19, d20, d21, d22, d23, d24, d25⟩, ⟨m2, m3, m4, m5, m6, m7, m8, m9, m10, m11, m12, m13, m15, m16⟩, fun _ => ⟨m18, m19, m20, m21, m22, m23, m24, m25⟩⟩
  exact h1
theorem la_sbB9 {h : J_H} (hI : IB h) : hT9 256 1 h := by
  obtain ⟨r, t, hg⟩ := hI
  obtain ⟨f1, c1, b1⟩ := i_ok2_ok (a := 256) (ci := 7) (Ts := [none, some none, some none, some none, some (some (some 257)), some (some (some 258)), some (some (some 259)), some (some (some 260)), some (some (some 261)), some (some (some 262)), some (some (some 263)), some (some (some 264)), some (some (some 265)), some (some (some 266)), some (some (some 267)), some none, some (some (some 268)), some (some (some 269)), some (some (some 272))]) hg (by decide +kernel)
  obtain ⟨v1_0, f1_0, e9, -, b1_0⟩ := b1; subst e9
  obtain ⟨w9, f1_1, e9, ⟨v1_1, rfl⟩, b1_1⟩ := b1_0; subst e9
  obtain ⟨w9, f1_2, e9, ⟨v1_2, rfl⟩, b1_2⟩ := b1_1; subst e9
  obtain ⟨w9, f1_3, e9, ⟨v1_3, rfl⟩, b1_3⟩ := b1_2; subst e9
  obtain ⟨w9, f1_4, e9, rfl, b1_4⟩ := b1_3; subst e9
  obtain ⟨w9, f1_5, e9, rfl, b1_5⟩ := b1_4; subst e9
  obtain ⟨w9, f1_6, e9, rfl, b1_6⟩ := b1_5; subst e9
  obtain ⟨w9, f1_7, e9, rfl, b1_7⟩ := b1_6; subst e9
  obtain ⟨w9, f1_8, e9, rfl, b1_8⟩ := b1_7; subst e9
  obtain ⟨w9, f1_9, e9, rfl, b1_9⟩ := b1_8; subst e9
  obtain ⟨w9, f1_10, e9, rfl, b1_10⟩ := b1_9; subst e9
  obtain ⟨w9, f1_11, e9, rfl, b1_11⟩ := b1_10; subst e9
  obtain ⟨w9, f1_12, e9, rfl, b1_12⟩ := b1_11; subst e9
  obtain ⟨w9, f1_13, e9, rfl, b1_13⟩ := b1_12; subst e9
  obtain ⟨w9, f1_14, e9, rfl, b1_14⟩ := b1_13; subst e9
  obtain ⟨w9, f1_15, e9, ⟨v1_15, rfl⟩, b1_15⟩ := b1_14; subst e9
  obtain ⟨w9, f1_16, e9, rfl, b1_16⟩ := b1_15; subst e9
  obtain ⟨w9, f1_17, e9, rfl, b1_17⟩ := b1_16; subst e9
  obtain ⟨w9, f1_18, e9, rfl, b1_18⟩ := b1_17; subst e9
  obtain rfl := b1_18
  obtain ⟨l2, d2, m2⟩ := i_oi (a := 257) (kd := 0) (n := 5) hg (by decide +kernel)
  obtain ⟨l3, d3, m3⟩ := i_oi (a := 258) (kd := 0) (n := 5) hg (by decide +kernel)
  obtain ⟨l4, d4, m4⟩ := i_oi (a := 259) (kd := 0) (n := 5) hg (by decide +kernel)
  obtain ⟨l5, d5, m5⟩ := i_oi (a := 260) (kd := 0) (n := 5) hg (by decide +kernel)
  obtain ⟨l6, d6, m6⟩ := i_oi (a := 261) (kd := 0) (n := 5) hg (by decide +kernel)
  obtain ⟨l7, d7, m7⟩ := i_oi (a := 262) (kd := 0) (n := 5) hg (by decide +kernel)
  obtain ⟨l8, d8, m8⟩ := i_oi (a := 263) (kd := 0) (n := 5) hg (by decide +kernel)
  obtain ⟨l9, d9, m9⟩ := i_oi (a := 264) (kd := 0) (n := 6) hg (by decide +kernel)
  obtain ⟨l10, d10, m10⟩ := i_oi (a := 265) (kd := 0) (n := 6) hg (by decide +kernel)
  obtain ⟨l11, d11, m11⟩ := i_oi (a := 266) (kd := 0) (n := 35) hg (by decide +kernel)
  obtain ⟨l12, d12, m12⟩ := i_oi (a := 267) (kd := 0) (n := 35) hg (by decide +kernel)
  obtain ⟨l13, d13, m13⟩ := i_oi (a := 268) (kd := 0) (n := 12) hg (by decide +kernel)
  obtain ⟨f14, c14, b14⟩ := i_ok2_ok (a := 269) (ci := 5) (Ts := [some (some (some 270)), some none, some (some (some 271))]) hg (by decide +kernel)
  obtain ⟨w9, f14_0, e9, rfl, b14_0⟩ := b14; subst e9
  obtain ⟨w9, f14_1, e9, ⟨v14_1, rfl⟩, b14_1⟩ := b14_0; subst e9
  obtain ⟨w9, f14_2, e9, rfl, b14_2⟩ := b14_1; subst e9
  obtain rfl := b14_2
  obtain ⟨l15, d15, m15⟩ := i_oi (a := 270) (kd := 0) (n := 5) hg (by decide +kernel)
  obtain ⟨l16, d16, m16⟩ := i_oi (a := 271) (kd := 0) (n := 5) hg (by decide +kernel)
  obtain ⟨f17, c17, b17⟩ := i_og_ok (a := 272) (ci := 3) (Ts := [(some (.inr (some 273))), (some (.inr (some 274))), (some (.inr (some 275))), (some (.inr (some 276))), (some (.inr (some 277))), (some (.inr (some 278))), (some (.inr (some 279))), (some (.inr (some 280))), none, (some (.inl (.ofNat 1, .ofNat 1)))]) hg (by decide +kernel)
  obtain ⟨w9, f17_0, e9, t9, b17_0⟩ := i_a2_c b17; subst e9; obtain rfl := i_tvr t9; clear t9
  obtain ⟨w9, f17_1, e9, t9, b17_1⟩ := i_a2_c b17_0; subst e9; obtain rfl := i_tvr t9; clear t9
  obtain ⟨w9, f17_2, e9, t9, b17_2⟩ := i_a2_c b17_1; subst e9; obtain rfl := i_tvr t9; clear t9
  obtain ⟨w9, f17_3, e9, t9, b17_3⟩ := i_a2_c b17_2; subst e9; obtain rfl := i_tvr t9; clear t9
  obtain ⟨w9, f17_4, e9, t9, b17_4⟩ := i_a2_c b17_3; subst e9; obtain rfl := i_tvr t9; clear t9
  obtain ⟨w9, f17_5, e9, t9, b17_5⟩ := i_a2_c b17_4; subst e9; obtain rfl := i_tvr t9; clear t9
  obtain ⟨w9, f17_6, e9, t9, b17_6⟩ := i_a2_c b17_5; subst e9; obtain rfl := i_tvr t9; clear t9
  obtain ⟨w9, f17_7, e9, t9, b17_7⟩ := i_a2_c b17_6; subst e9; obtain rfl := i_tvr t9; clear t9
  obtain ⟨pv17, f17_8, e9, t9, b17_8⟩ := i_a2_c b17_7; subst e9; clear t9
  obtain ⟨w9, f17_9, e9, t9, b17_9⟩ := i_a2_c b17_8; subst e9; obtain ⟨pk17, rfl, g17⟩ := i_tvi t9; clear t9
  obtain rfl := i_a2_n b17_9
  obtain rfl : pk17 = 1 := Int32.toInt_inj.mp (by have g1 := g17.1; have g2 := g17.2; have e1 : (1 : Int32).toInt = 1 := rfl; simp only [Int.ofNat_eq_natCast] at g1 g2; omega)
  obtain ⟨l18, d18, m18⟩ := i_oi (a := 273) (kd := 0) (n := 25) hg (by decide +kernel)
  obtain ⟨l19, d19, m19⟩ := i_oi (a := 274) (kd := 0) (n := 25) hg (by decide +kernel)
  obtain ⟨l20, d20, m20⟩ := i_oi (a := 275) (kd := 0) (n := 25) hg (by decide +kernel)
  obtain ⟨l21, d21, m21⟩ := i_oi (a := 276) (kd := 0) (n := 7) hg (by decide +kernel)
  obtain ⟨l22, d22, m22⟩ := i_oi (a := 277) (kd := 0) (n := 5) hg (by decide +kernel)
  obtain ⟨l23, d23, m23⟩ := i_oi (a := 278) (kd := 0) (n := 6) hg (by decide +kernel)
  obtain ⟨l24, d24, m24⟩ := i_oi (a := 279) (kd := 0) (n := 30) hg (by decide +kernel)
  obtain ⟨l25, d25, m25⟩ := i_oi (a := 280) (kd := 0) (n := 260) hg (by decide +kernel)
  obtain ⟨x27, y27, z27⟩ := i_ok2_ok (a := 272) (ci := 3) (Ts := [none, none, none, none, none, none, none, none, some none, none]) hg (by decide +kernel)
  obtain ⟨_, _, e9, -, _, _, e8, -, _, _, e7, -, _, _, e6, -, _, _, e5, -, _, _, e4, -, _, _, e3, -, _, _, e2, -, _, _, e1, ⟨pe27, hpe27⟩, -⟩ := z27
  subst e9 e8 e7 e6 e5 e4 e3 e2 e1
  rw [c17] at y27
  have hv27 : pv17 = .int pe27 := by cases y27; exact hpe27
  clear y27
  rw [hv27] at c17
  have h1 : hT9 256 1 h := ⟨v1_0, v1_1, v1_2, v1_3, v1_15, v14_1, pe27, l2, l3, l4, l5, l6, l7, l8, l9, l10, l11, l12, l13, l15, l16, l18, l19, l20, l21, l22, l23, l24, l25, ⟨c1, d2, d3, d4, d5, d6, d7, d8, d9, d10, d11, d12, d13, c14, d15, d16, c17, d18, d19, d20, d21, d22, d23, d24, d25⟩, ⟨m2, m3, m4, m5, m6, m7, m8, m9, m10, m11, m12, m13, m15, m16⟩, fun _ => ⟨m18, m19, m20, m21, m22, m23, m24, m25⟩⟩
  exact h1
theorem la_sbB {h : J_H} (hI : IB h) : ∀ j, j < 10 → hT9 (31 + 25 * j) 1 h := fun j hj => by
  match j, hj with
  | 0, _ => exact la_sbB0 hI
  | 1, _ => exact la_sbB1 hI
  | 2, _ => exact la_sbB2 hI
  | 3, _ => exact la_sbB3 hI
  | 4, _ => exact la_sbB4 hI
  | 5, _ => exact la_sbB5 hI
  | 6, _ => exact la_sbB6 hI
  | 7, _ => exact la_sbB7 hI
  | 8, _ => exact la_sbB8 hI
  | 9, _ => exact la_sbB9 hI
theorem la_sx {h : J_H} (hI : IC h) : hT9 282 0 h ∧ h[281]? = some (.inl (1, [.ref 282, .ref 307, .ref 323, .ref 324])) ∧ hZ9 307 h ∧ (∃ l : List Int32, h[323]? = some (.inr (.inl (0, l))) ∧ l.length = 5) ∧ (∃ l : List Int32, h[324]? = some (.inr (.inl (0, l))) ∧ l.length = 5) := hI.elim la_sxA la_sxB
theorem la_sb {h : J_H} (hI : IC h) : ∀ j, j < 10 → hT9 (31 + 25 * j) 1 h := hI.elim la_sbA la_sbB
/-- the fields of the reference's object that nobody asks for -/
def laU (x9 x11 x12 x14 x15 x16 x17 x18 x19 x20 om : Int32) (x21 : Int64) (j : Nat) : Value := ([.null, .null, .null, .null, .null, .null, .null, .null, .null, .int x9, .null, .int x11, .int x12, .null, .int x14, .int x15, .int x16, .int x17, .int x18, .int x19, .int x20, .long x21, .null, .null, .null, .null, .null, .int om] : List Value).getD j .null
theorem la_sm {h : J_H} (hI : IM h) : ∃ (x9 x11 x12 x14 x15 x16 x17 x18 x19 x20 om : Int32) (x21 : Int64) (th sst acs tm : Int32) (w sd ot kp tk od be : List Int32), hMc h (laU x9 x11 x12 x14 x15 x16 x17 x18 x19 x20 om x21) th sst acs tm w sd ot kp tk od be ∧ (w.length = 602 ∧ sd.length = 602 ∧ ot.length = 602 ∧ kp.length = 6020 ∧ tk.length = 5 ∧ od.length = 5 ∧ be.length = 5) := by
  obtain ⟨r, t, hg⟩ := hI
  obtain ⟨f1, c1, b1⟩ := i_ok2_ok (a := 359) (ci := 10) (Ts := [some none, some (some (some 360)), some (some (some 361)), some (some (some 362)), some (some (some 363)), some (some (some 364)), some (some (some 365)), some (some (some 366)), some (some (some 367)), some none, some none, some none, some none, some none, some none, some none, some none, some none, some none, some none, some none, some (some none), some (some (some 368)), some none, some (some (some 369)), some (some (some 370)), some (some (some 371)), some none]) hg (by decide +kernel)
  obtain ⟨w9, f1_0, e9, ⟨v1_0, rfl⟩, b1_0⟩ := b1; subst e9
  obtain ⟨w9, f1_1, e9, rfl, b1_1⟩ := b1_0; subst e9
  obtain ⟨w9, f1_2, e9, rfl, b1_2⟩ := b1_1; subst e9
  obtain ⟨w9, f1_3, e9, rfl, b1_3⟩ := b1_2; subst e9
  obtain ⟨w9, f1_4, e9, rfl, b1_4⟩ := b1_3; subst e9
  obtain ⟨w9, f1_5, e9, rfl, b1_5⟩ := b1_4; subst e9
  obtain ⟨w9, f1_6, e9, rfl, b1_6⟩ := b1_5; subst e9
  obtain ⟨w9, f1_7, e9, rfl, b1_7⟩ := b1_6; subst e9
  obtain ⟨w9, f1_8, e9, rfl, b1_8⟩ := b1_7; subst e9
  obtain ⟨w9, f1_9, e9, ⟨v1_9, rfl⟩, b1_9⟩ := b1_8; subst e9
  obtain ⟨w9, f1_10, e9, ⟨v1_10, rfl⟩, b1_10⟩ := b1_9; subst e9
  obtain ⟨w9, f1_11, e9, ⟨v1_11, rfl⟩, b1_11⟩ := b1_10; subst e9
  obtain ⟨w9, f1_12, e9, ⟨v1_12, rfl⟩, b1_12⟩ := b1_11; subst e9
  obtain ⟨w9, f1_13, e9, ⟨v1_13, rfl⟩, b1_13⟩ := b1_12; subst e9
  obtain ⟨w9, f1_14, e9, ⟨v1_14, rfl⟩, b1_14⟩ := b1_13; subst e9
  obtain ⟨w9, f1_15, e9, ⟨v1_15, rfl⟩, b1_15⟩ := b1_14; subst e9
  obtain ⟨w9, f1_16, e9, ⟨v1_16, rfl⟩, b1_16⟩ := b1_15; subst e9
  obtain ⟨w9, f1_17, e9, ⟨v1_17, rfl⟩, b1_17⟩ := b1_16; subst e9
  obtain ⟨w9, f1_18, e9, ⟨v1_18, rfl⟩, b1_18⟩ := b1_17; subst e9
  obtain ⟨w9, f1_19, e9, ⟨v1_19, rfl⟩, b1_19⟩ := b1_18; subst e9
  obtain ⟨w9, f1_20, e9, ⟨v1_20, rfl⟩, b1_20⟩ := b1_19; subst e9
  obtain ⟨w9, f1_21, e9, ⟨v1_21, rfl⟩, b1_21⟩ := b1_20; subst e9
  obtain ⟨w9, f1_22, e9, rfl, b1_22⟩ := b1_21; subst e9
  obtain ⟨w9, f1_23, e9, ⟨v1_23, rfl⟩, b1_23⟩ := b1_22; subst e9
  obtain ⟨w9, f1_24, e9, rfl, b1_24⟩ := b1_23; subst e9
  obtain ⟨w9, f1_25, e9, rfl, b1_25⟩ := b1_24; subst e9
  obtain ⟨w9, f1_26, e9, rfl, b1_26⟩ := b1_25; subst e9
  obtain ⟨w9, f1_27, e9, ⟨v1_27, rfl⟩, b1_27⟩ := b1_26; subst e9
  obtain rfl := b1_27
  obtain ⟨l2, d2, m2⟩ := i_oi (a := 360) (kd := 0) (n := 602) hg (by decide +kernel)
  obtain ⟨l3, d3, m3⟩ := i_oi (a := 362) (kd := 0) (n := 602) hg (by decide +kernel)
  obtain ⟨l4, d4, m4⟩ := i_oi (a := 363) (kd := 0) (n := 602) hg (by decide +kernel)
  obtain ⟨l5, d5, m5⟩ := i_oi (a := 364) (kd := 0) (n := 6020) hg (by decide +kernel)
  obtain ⟨l6, d6, m6⟩ := i_oi (a := 368) (kd := 0) (n := 5) hg (by decide +kernel)
  obtain ⟨l7, d7, m7⟩ := i_oi (a := 369) (kd := 0) (n := 5) hg (by decide +kernel)
  obtain ⟨l8, d8, m8⟩ := i_oi (a := 370) (kd := 0) (n := 5) hg (by decide +kernel)
  exact ⟨v1_9, v1_11, v1_12, v1_14, v1_15, v1_16, v1_17, v1_18, v1_19, v1_20, v1_27, v1_21, v1_0, v1_10, v1_13, v1_23, l2, l3, l4, l5, l6, l7, l8, ⟨c1, d2, d3, d4, d5, d6, d7, d8⟩, ⟨m2, m3, m4, m5, m6, m7, m8⟩⟩
/-- the cells are told twice -/
theorem hMc.eq {h : J_H} {u u' : Nat → Value} {th th' sst sst' acs acs' tm tm' : Int32} {w w' sd sd' ot ot' kp kp' tk tk' od od' be be' : List Int32} (A : hMc h u th sst acs tm w sd ot kp tk od be) (B : hMc h u' th' sst' acs' tm' w' sd' ot' kp' tk' od' be') : w' = w ∧ kp' = kp ∧ sst' = sst ∧ acs' = acs := by
  obtain ⟨a0, a1, -, -, a4, -⟩ := A
  obtain ⟨b0, b1, -, -, b4, -⟩ := B
  rw [a1] at b1
  rw [a4] at b4
  rw [a0] at b0
  have f : ∀ j, j < 28 → ([.int th, .ref 360, .ref 361, .ref 362, .ref 363, .ref 364, .ref 365, .ref 366, .ref 367, u 9, .int sst, u 11, u 12, .int acs, u 14, u 15, u 16, u 17, u 18, u 19, u 20, u 21, .ref 368, .int tm, .ref 369, .ref 370, .ref 371, u 27] : List Value)[j]? = ([.int th', .ref 360, .ref 361, .ref 362, .ref 363, .ref 364, .ref 365, .ref 366, .ref 367, u' 9, .int sst', u' 11, u' 12, .int acs', u' 14, u' 15, u' 16, u' 17, u' 18, u' 19, u' 20, u' 21, .ref 368, .int tm', .ref 369, .ref 370, .ref 371, u' 27] : List Value)[j]? := fun j _ => congrArg (fun (z : Option J_C) => match z with
    | some (.inl (_, fs)) => fs[j]?
    | _ => none) b0
  have f10 := f 10 (by decide)
  have f13 := f 13 (by decide)
  cases b1
  cases b4
  cases f10
  cases f13
  exact ⟨rfl, rfl, rfl, rfl⟩

/-! contracts of the reference by hand: keeps, readRank, the read row copied, undo; written by wip/p3/gen_con.py -/
theorem jc_g.fr {E : jc_E} {X X' : J_H → Prop} {r : jc_R} {t : jc_T} {n : Nat} {B : jc_B} {Of : List Nat} {h h' : J_H} {W : jc_W} (hg : jc_g E X r t (n, B, [], [], [], Of) h) (hf : jc_fr W h h') (hs : ∀ (a : Nat) (c : J_C), h[a]? = some c → ∃ c', h'[a]? = some c' ∧ jc_sh c' = jc_sh c) (hty : ∀ a d i v, ja_n2 E.1 a = some d → jc_inW W a i = true → jc_at h' a i = some v → ∀ T, jc_sg d.2 i = some T → jc_tv T.1 v) (hcF : ja_ch2 (fun _ (m : jc_Fa) => jc_off Of m.1 || jc_all (fun c => !jc_inW W c.1 c.2) m.2.1) E.2.1 = true) (hcP : ja_ch2 (fun _ (m : jc_Po) => jc_off Of m.1 || !jc_inW W m.2.1.1 m.2.1.2) E.2.2.1 = true) (hX : X' h') : jc_g E X' r t (n, B, [], [], [], Of) h' := by
  refine ⟨hg.1, fun a d hd => ?_, fun f m hm ho => ?_, fun p m hm ho => ?_, hX⟩
  · obtain ⟨c, c1, c2, c3⟩ := hg.2.1 a d hd
    obtain ⟨c', k1, k2⟩ := hs a c c1
    refine ⟨c', k1, k2.trans c2, fun i v hv => ?_⟩
    unfold jc_cl
    show ∀ T, jc_sg d.2 i = some T → jc_tv T.1 v
    have hv' : jc_at h' a i = some v := by rw [jc_at_of k1]; exact hv
    cases hw : jc_inW W a i with
    | true => exact hty a d i v hd hw hv'
    | false =>
      rw [hf a i hw, jc_at_of c1] at hv'
      exact c3 i v hv'
  · have hck := ja_ch2_ok (p := fun _ (m : jc_Fa) => jc_off Of m.1 || jc_all (fun c => !jc_inW W c.1 c.2) m.2.1) hcF hm
    have ho' : jc_off Of m.1 = false := ho
    rw [ho', Bool.false_or] at hck
    obtain ⟨k1, k2⟩ := hg.fam rfl hm ho
    unfold jc_fm
    exact ⟨k1, jc_in_eq (fun c hc => hf c.1 c.2 (by have := jc_all_ok hck c hc; simpa using this)) k2⟩
  · have hck := ja_ch2_ok (p := fun _ (m : jc_Po) => jc_off Of m.1 || !jc_inW W m.2.1.1 m.2.1.2) hcP hm
    have ho' : jc_off Of m.1 = false := ho
    rw [ho', Bool.false_or] at hck
    obtain ⟨y, y1, y2⟩ := hg.pot rfl hm ho
    exact ⟨y.toInt, ⟨y, by rw [hf _ _ (by simpa using hck)]; exact y1, rfl⟩, y2⟩
theorem nI_eq9 {x : Int32} {a : Nat} (h : x.toInt = (a : Int)) (ha : a < 2 ^ 31) : x = nI a := Int32.toInt_inj.mp (by rw [nI_toInt ha, h])
theorem jm_tvi {q : Int × Int} {v : Value} (h : jc_tv (some (.inl q)) v) : ∃ x : Int32, v = .int x ∧ q.1 ≤ x.toInt ∧ x.toInt ≤ q.2 := by
  cases v <;> first | exact h.elim | exact ⟨_, rfl, h⟩
theorem jm_tvr {b : Nat} {v : Value} (h : jc_tv (some (.inr (some b))) v) : v = .ref b := by
  cases v <;> first | exact h.elim | (cases h; rfl)
theorem jm_full (x : Int32) : jc_tv (some (.inl (-2147483648, 2147483647))) (.int x) := by
  have h1 := Int32.le_toInt x
  have h2 := Int32.toInt_lt x
  exact ⟨by simpa using h1, by have : x.toInt < 2147483648 := by simpa using h2
                               omega⟩
set_option maxRecDepth 100000 in
theorem jm_obj {X : J_H → Prop} {r : jc_R} {t : jc_T} {n : Nat} {B : jc_B} {Of : List Nat} {h : J_H} (hg : jc_g jxm X r t (n, B, [], [], [], Of) h) : ∃ (fs : List Value) (a : Nat), h[359]? = some (.inl (10, fs)) ∧ fs.length = 28 ∧ a ≤ 10 ∧ fs[13]? = some (.int (nI a)) ∧ fs[1]? = some (.ref 360) ∧ fs[2]? = some (.ref 361) ∧ fs[5]? = some (.ref 364) := by
  obtain ⟨c, c1, c2, c3⟩ := hg.2.1 359 _ rfl
  rcases c with f | f | l | l
  · obtain ⟨ci, fs⟩ := f
    have e1 : ci = 10 := congrArg (fun q => q.2.1) c2
    have e2 : fs.length = 28 := congrArg (fun q => q.2.2) c2
    subst e1
    have get : ∀ i, i < 28 → ∃ v, fs[i]? = some v ∧ jc_cl r (n, B, [], [], [], Of) _ 359 i v := fun i hi => by
      have hv := List.getElem?_eq_getElem (show i < fs.length by omega)
      exact ⟨_, hv, c3 i _ hv⟩
    obtain ⟨v13, a1, a2⟩ := get 13 (by decide)
    obtain ⟨v1, b1, b2⟩ := get 1 (by decide)
    obtain ⟨v2, d1, d2⟩ := get 2 (by decide)
    obtain ⟨v5, f1, f2⟩ := get 5 (by decide)
    unfold jc_cl at a2 b2 d2 f2
    obtain ⟨x, rfl, x1, x2⟩ := jm_tvi (a2 _ rfl)
    obtain ⟨a, ha⟩ := Int.eq_ofNat_of_zero_le x1
    have x2 : x.toInt ≤ 10 := x2
    refine ⟨fs, a, c1, e2, by omega, ?_, ?_, ?_, ?_⟩
    · rw [a1, nI_eq9 ha (by omega)]
    · rw [b1, jm_tvr (b2 _ rfl)]
    · rw [d1, jm_tvr (d2 _ rfl)]
    · rw [f1, jm_tvr (f2 _ rfl)]
  · cases c2
  · cases c2
  · cases c2
theorem jm_d364 : ja_n2 jxm.1 364 = some ((1, 0, 6020), [(6020, some (.inl (.negSucc 2147483647, .ofNat 2147483647)), [], [], [])]) := rfl
theorem jm_inW {b lo hi x i : Nat} {W : jc_W} : jc_inW ((b, lo, hi) :: W) x i = (Nat.beq b x && (Nat.ble lo i && Nat.ble (i + 1) hi) || jc_inW W x i) := rfl
theorem jm_inW_t {b lo hi x i : Nat} {W : jc_W} (h : jc_inW ((b, lo, hi) :: W) x i = true) : (b = x ∧ lo ≤ i ∧ i < hi) ∨ jc_inW W x i = true := by
  rw [jm_inW] at h
  rcases Bool.or_eq_true_iff.mp h with h | h
  · obtain ⟨h1, h⟩ := Bool.and_eq_true_iff.mp h
    obtain ⟨h2, h3⟩ := Bool.and_eq_true_iff.mp h
    exact Or.inl ⟨Nat.eq_of_beq_eq_true h1, Nat.le_of_ble_eq_true h2, Nat.le_of_ble_eq_true h3⟩
  · exact Or.inr h
theorem jm_inW_f {b lo hi i : Nat} {W : jc_W} (h : jc_inW ((b, lo, hi) :: W) b i = false) : ¬ (lo ≤ i ∧ i < hi) := by
  rw [jm_inW] at h
  rintro ⟨h1, h2⟩
  rw [Nat.beq_refl, Nat.ble_eq_true_of_le h1, Nat.ble_eq_true_of_le h2] at h
  cases h
theorem jm_inW_r {w : Nat × Nat × Nat} {x i : Nat} {W : jc_W} (h : jc_inW (w :: W) x i = false) : jc_inW W x i = false := (Bool.or_eq_false_iff.mp h).2
/-- the kept rows: each may be the state -/
def jm_X (h : J_H) : Prop := ∀ k, k < 10 → ∃ t, jm_S (fun i => jc_at h 364 (602 * k + i)) t
theorem jm_Xo : jc_Xo jxm jm_X := by
  intro h h' hh hx k hk
  obtain ⟨t, ht⟩ := hx k hk
  refine ⟨t, ht.eq (fun c hc => hh 364 (602 * k + c) ?_)⟩
  show (Nat.beq 364 364 && (Nat.ble 0 _ && Nat.ble (602 * k + c + 1) 6020) || false) = true
  rw [Nat.ble_eq_true_of_le (Nat.zero_le _), Nat.ble_eq_true_of_le (show 602 * k + c + 1 ≤ 6020 by omega)]
  rfl
/-- an object's field is put -/
theorem jm_ob {h : J_H} {fs : List Value} {i j : Nat} {v : Value} (h1 : h[359]? = some (.inl (10, fs))) (hj : j ≠ i) : jc_at (h.set 359 (.inl (10, fs.set i v))) 359 j = jc_at h 359 j := by
  rw [jc_at_of (jk_at h1), jc_at_of h1]
  exact List.getElem?_set_ne (fun z => hj z.symm)
set_option maxRecDepth 100000 in
theorem jmx_13 {v : Value} {d : jc_Dd} {T : jc_Sg} {a' : Nat} (ha' : a' ≤ 10) (hv : v = .int (nI a')) (hd : ja_n2 jxm.1 359 = some d) (hT : jc_sg d.2 13 = some T) : jc_tv T.1 v := by
  obtain rfl := Option.some.inj (hd.symm.trans rfl)
  obtain rfl := Option.some.inj (hT.symm.trans rfl)
  subst hv
  have := nI_toInt (n := a') (by omega)
  exact ⟨by show (0 : Int) ≤ _; omega, by show _ ≤ (10 : Int); omega⟩
set_option maxRecDepth 100000 in
theorem jxm_g44_ok : jc_Con jP jxm jm_X jxm_g44 := by
  intro d hd r t h As hg hA
  obtain ⟨v, st, rfl, q1, q2⟩ := jc_st_cons hA
  obtain rfl := q1.ref
  cases st with
  | cons _ _ => exact q2.elim
  | nil =>
  have hg : jc_g jxm jm_X r t (1, [], [], [], [], [9, 12, 13, 14, 15, 16, 17, 18, 21, 22, 23, 24, 25]) h := hg
  obtain ⟨fs, a, o1, o2, o3, o4, o5, o6, o7⟩ := jm_obj hg
  obtain ⟨K, hK, hKl⟩ := jm_arr hg jm_d364 rfl
  obtain ⟨dn, dn1, dn2, -⟩ := jm_rowN.2.2.2.2.1
  obtain ⟨N, hN, hNl⟩ := jm_arr hg dn1 dn2
  have hS := jm_S.of jm_rowN hg rfl rfl rfl (by decide +kernel) (by decide +kernel)
  refine (jke_ok o3 o7 o5 o4 hNl o1 hK hN hKl).mono ?_
  rintro rv h' ⟨rfl, hF, K', a', k1, k2, k3, k4, k5⟩
  have hoth : ∀ x, x ≠ 364 → x ≠ 359 → h'[x]? = h[x]? := fun x z1 z2 => hF.2 x (by simp; exact ⟨z1, z2⟩)
  have hfr : jc_fr [(364, 0, 6020), (359, 13, 14)] h h' := by
    intro x i hw
    by_cases z1 : x = 364
    · subst z1
      have := jm_inW_f hw
      rw [jm_atg k2, jm_atg hK, List.getElem?_eq_none (by omega), List.getElem?_eq_none (by omega)]
    · by_cases z2 : x = 359
      · subst z2
        have := jm_inW_f (jm_inW_r hw)
        rw [jc_at_of k3, jc_at_of o1]
        exact List.getElem?_set_ne (by omega)
      · unfold jc_at
        rw [hoth x z1 z2]
  refine ⟨hfr, _, List.mem_cons_self, r, t, hg.fr hfr (fun x c hc => ?_) (fun x e i w he hw hat T hT => ?_) (by decide +kernel) (by decide +kernel) ?_, trivial⟩
  · by_cases z1 : x = 364
    · subst z1
      rw [hK] at hc
      cases hc
      exact ⟨_, k2, by show (1, 0, K'.length) = (1, 0, K.length); rw [k4, hKl]⟩
    · by_cases z2 : x = 359
      · subst z2
        rw [o1] at hc
        cases hc
        exact ⟨_, k3, by show (0, 10, (fs.set 13 _).length) = (0, 10, fs.length); rw [List.length_set]⟩
      · exact ⟨c, by rw [hoth x z1 z2]; exact hc, rfl⟩
  · rcases jm_inW_t hw with ⟨z1, z2, z3⟩ | hw
    · subst z1
      obtain rfl := Option.some.inj (he.symm.trans jm_d364)
      rw [jm_atg k2] at hat
      obtain ⟨y, -, rfl⟩ := Option.map_eq_some_iff.mp hat
      have hT : cond (Nat.ble (i + 1) 6020) (some (some (.inl (.negSucc 2147483647, .ofNat 2147483647)), [], [], [])) none = some T := hT
      rw [Nat.ble_eq_true_of_le (show i + 1 ≤ 6020 by omega)] at hT
      cases hT
      exact jm_full y
    · rcases jm_inW_t hw with ⟨z1, z2, z3⟩ | hw
      · subst z1
        obtain rfl : i = 13 := by omega
        rw [jc_at_of k3] at hat
        have hat : (fs.set 13 (.int (nI a')))[13]? = some w := hat
        rw [List.getElem?_set_self (by omega)] at hat
        exact jmx_13 k1 (Option.some.inj hat).symm he hT
      · cases hw
  · intro k hk
    rcases k5 k hk with ⟨k2', c1, c2⟩ | c2
    · obtain ⟨t9, ht9⟩ := hg.2.2.2.2 k2' c1
      refine ⟨t9, ht9.eq (fun c hc => ?_)⟩
      show jc_at h' 364 _ = jc_at h 364 _
      rw [jm_atg k2, jm_atg hK, c2 c hc]
    · refine ⟨_, hS.eq (fun c hc => ?_)⟩
      show jc_at h' 364 _ = jc_at h 360 _
      rw [jm_atg k2, jm_atg hN, c2 c hc]
-- ---- readRank
theorem jc_in_mk {h : J_H} : ∀ {cs : List (Nat × Nat)} {qs : List (Int × Int)}, cs.length = qs.length → (∀ k, k < cs.length → ∃ x : Int32, jc_at h (cs.getD k (0, 0)).1 (cs.getD k (0, 0)).2 = some (.int x) ∧ (qs.getD k (0, 0)).1 ≤ x.toInt ∧ x.toInt ≤ (qs.getD k (0, 0)).2) → jc_in h cs qs
  | [], _, _, _ => trivial
  | c :: cs, [], hl, _ => by cases hl
  | c :: cs, q :: qs, hl, hk => ⟨hk 0 (Nat.succ_pos _), jc_in_mk (Nat.succ.inj hl) (fun k h9 => hk (k + 1) (Nat.succ_lt_succ h9))⟩
theorem rr_f_or {n : Nat} {i : Nat} : ∀ (m t : Nat) (R : List Int32), t + m = n → R.length = 602 → (rr_f n m t R)[i]? = R[i]? ∨ ∃ u, u < n ∧ (rr_f n m t R)[i]? = some (nI u)
  | 0, _, _, _, _ => Or.inl rfl
  | m + 1, t, R, h, hR => by
    show (rr_f n m (t + 1) _)[i]? = _ ∨ ∃ u, u < n ∧ (rr_f n m (t + 1) _)[i]? = some (nI u)
    rcases rr_f_or (i := i) (n := n) m (t + 1) (R.set (196 + rr_c R t n) (nI t)) (by omega) (by rw [List.length_set]; exact hR) with z | z
    · rw [z]
      by_cases e : 196 + rr_c R t n = i
      · subst e
        by_cases hl : 196 + rr_c R t n < 602
        · exact Or.inr ⟨t, by omega, List.getElem?_set_self (by omega)⟩
        · refine Or.inl ?_
          rw [List.getElem?_eq_none (by rw [List.length_set]; omega), List.getElem?_eq_none (by omega)]
      · exact Or.inl (List.getElem?_set_ne e)
    · exact Or.inr z
set_option maxRecDepth 100000 in
theorem jm_t361 : (List.range 5).all (fun i => match ja_n2 jxm.1 361 with
  | some d => (match jc_sg d.2 (196 + i) with
    | some T => decide (T.1 = some (.inl (0, 4)))
    | none => false)
  | none => false) = true := by decide +kernel
theorem jm_t361_ok {i : Nat} (h1 : 196 ≤ i) (h2 : i < 201) {d : jc_Dd} {T : jc_Sg} (hd : ja_n2 jxm.1 361 = some d) (hT : jc_sg d.2 i = some T) : T.1 = some (.inl (0, 4)) := by
  have := List.all_eq_true.mp jm_t361 (i - 196) (List.mem_range.mpr (by omega))
  rw [hd, show 196 + (i - 196) = i by omega] at this
  dsimp only at this
  rw [hT] at this
  exact of_decide_eq_true this
set_option maxRecDepth 100000 in
theorem jm_f86 : ∃ ps, ja_n2 jxm.2.1 96 = some (13, [(361, 203), (361, 196), (361, 197), (361, 198), (361, 199), (361, 200)], jxm_r5, ps) := ⟨_, rfl⟩
theorem jm_f13 : ja_ch2 (fun f (m : jc_Fa) => !Nat.beq m.1 13 || Nat.beq f 96) jxm.2.1 = true := by decide +kernel
theorem jm_p13 : ja_ch2 (fun _ (m : jc_Po) => !Nat.beq m.1 13) jxm.2.2.1 = true := by decide +kernel
theorem jm_dR : ∃ d, ja_n2 jxm.1 361 = some d ∧ d.1 = (1, 0, 602) ∧ ∃ T, jc_sg d.2 203 = some T ∧ T.1 = some (.inl (0, 5)) := ⟨_, rfl, rfl, _, rfl, rfl⟩
theorem jm_ofm {Of Of' : List Nat} {g1 : Nat} (h : jm_ofb Of Of' g1 g1 = true) {g : Nat} (hg : jc_off Of' g = false) : g = g1 ∨ jc_off Of g = false := by
  rcases jm_ofb_ok h g hg with z | z | z
  · exact Or.inl z
  · exact Or.inl z
  · exact Or.inr z
set_option maxRecDepth 100000 in
theorem jxm_g43_ok {X : J_H → Prop} (hX : jc_Xo jxm X) : jc_Con jP jxm X jxm_g43 := by
  intro d hd r t h As hg hA
  obtain ⟨v, st, rfl, q1, q2⟩ := jc_st_cons hA
  obtain rfl := q1.ref
  cases st with
  | cons _ _ => exact q2.elim
  | nil =>
  have hg : jc_g jxm X r t (1, [], [], [], [], [8, 10, 11, 12, 13, 14, 15, 16, 17, 18, 19, 21, 22, 23, 24, 25]) h := hg
  obtain ⟨fs, -, o1, -, -, -, -, o6, -⟩ := jm_obj hg
  obtain ⟨dr, dr1, dr2, T3, dr3, dr4⟩ := jm_dR
  obtain ⟨R, hR, hRl⟩ := jm_arr hg dr1 dr2
  obtain ⟨n, hn, h203⟩ : ∃ n, n ≤ 5 ∧ R[203]? = some (nI n) := by
    obtain ⟨v, v1, v2⟩ := hg.atT dr1 (i := 203) (by rw [dr2]; decide) rfl dr3
    rw [dr4] at v2
    obtain ⟨x, rfl, x1, x2⟩ := jm_tvi v2
    obtain ⟨n, hn⟩ := Int.eq_ofNat_of_zero_le x1
    have x2 : x.toInt ≤ 5 := x2
    rw [jm_atg hR] at v1
    obtain ⟨y, y1, y2⟩ := Option.map_eq_some_iff.mp v1
    cases y2
    exact ⟨n, by omega, by rw [y1, nI_eq9 hn (by omega)]⟩
  obtain ⟨d0, rfl⟩ : ∃ d0, d = d0 + 1 := ⟨d - 1, by have : 1 ≤ d := hd; omega⟩
  refine (jrr_ok hn o6 o1 hR hRl (by simp only [List.getD, h203]; rfl)).mono ?_
  rintro rv h' ⟨rfl, rfl⟩
  have hlt := (List.getElem?_eq_some_iff.mp hR).1
  have hR' : (h.set 361 (.inr (.inl (0, rr_f n n 0 R))))[361]? = some (.inr (.inl (0, rr_f n n 0 R))) := jk_at hR
  have hl' : (rr_f n n 0 R).length = 602 := by rw [rr_f_len]; exact hRl
  have hoth : ∀ x, x ≠ 361 → (h.set 361 (.inr (.inl (0, rr_f n n 0 R))))[x]? = h[x]? := fun x z1 => List.getElem?_set_ne (fun z => z1 z.symm)
  have hfr : jc_fr [(361, 196, 201)] h (h.set 361 (.inr (.inl (0, rr_f n n 0 R)))) := by
    intro x i hw
    by_cases z1 : x = 361
    · subst z1
      have := jm_inW_f hw
      rw [jm_atg hR', jm_atg hR, rr_f_eq hn (by omega) R n 0 (by omega)]
    · unfold jc_at
      rw [hoth x z1]
  have hty : ∀ i, 196 ≤ i → i < 201 → ∃ x : Int32, jc_at (h.set 361 (.inr (.inl (0, rr_f n n 0 R)))) 361 i = some (.int x) ∧ 0 ≤ x.toInt ∧ x.toInt ≤ 4 := by
    intro i z2 z3
    rcases rr_f_or (i := i) (n := n) n 0 R (by omega) hRl with e | ⟨u, u1, e⟩
    · have hsg : ∃ T, jc_sg dr.2 i = some T := by
        have := List.all_eq_true.mp jm_t361 (i - 196) (List.mem_range.mpr (by omega))
        rw [dr1, show 196 + (i - 196) = i by omega] at this
        dsimp only at this
        split at this
        · rename_i T hT
          exact ⟨T, hT⟩
        · cases this
      obtain ⟨T, hT⟩ := hsg
      obtain ⟨v, v1, v2⟩ := hg.atT dr1 (by rw [dr2]; show i < 602; omega) rfl hT
      rw [jm_t361_ok z2 z3 dr1 hT] at v2
      obtain ⟨x, rfl, x1, x2⟩ := jm_tvi v2
      refine ⟨x, ?_, x1, x2⟩
      rw [jm_atg hR', e, ← jm_atg hR]
      exact v1
    · have := nI_toInt (n := u) (by omega)
      exact ⟨nI u, by rw [jm_atg hR', e]; rfl, by omega, by omega⟩
  have g1 := hg.fr (X' := X) hfr (fun x c hc => by
    by_cases z1 : x = 361
    · subst z1
      rw [hR] at hc
      cases hc
      exact ⟨_, hR', by show (1, 0, (rr_f n n 0 R).length) = (1, 0, R.length); rw [hl', hRl]⟩
    · exact ⟨c, by rw [hoth x z1]; exact hc, rfl⟩) (fun x e i w he hw hat T hT => by
    rcases jm_inW_t hw with ⟨z1, z2, z3⟩ | hw
    · subst z1
      obtain ⟨y, y1, y2⟩ := hty i z2 z3
      rw [y1] at hat
      cases hat
      rw [jm_t361_ok z2 z3 he hT]
      exact y2
    · cases hw) (by decide +kernel) (by decide +kernel) (hX h _ (fun a i hw => by
    rcases jm_inW_t hw with ⟨z1, -, -⟩ | hw
    · subst z1
      unfold jc_at
      rw [hoth 364 (by decide)]
    · cases hw) hg.2.2.2.2)
  obtain ⟨b1, b2⟩ := Bool.and_eq_true_iff.mp (rr_all hn (fun t => rr_c R t n) (fun t ht => rr_c_lt R t n ht) (fun t u ht hu htu => rr_c_ne ht hu htu))
  obtain ⟨row, w1, w2⟩ := List.any_eq_true.mp b2
  obtain ⟨w3, w2⟩ := Bool.and_eq_true_iff.mp w2
  obtain ⟨w4, w2⟩ := Bool.and_eq_true_iff.mp w2
  obtain ⟨w5, w6⟩ := Bool.and_eq_true_iff.mp w2
  have w3 := Nat.eq_of_beq_eq_true w3
  have w4 := of_decide_eq_true w4
  have hin : jc_in (h.set 361 (.inr (.inl (0, rr_f n n 0 R)))) [(361, 203), (361, 196), (361, 197), (361, 198), (361, 199), (361, 200)] row := by
    refine jc_in_mk w3.symm (fun k hk => ?_)
    have hk : k < 6 := hk
    cases k with
    | zero =>
      refine ⟨nI n, ?_, ?_⟩
      · show jc_at _ 361 203 = _
        rw [jm_atg hR', rr_f_eq hn (by omega) R n 0 (by omega), h203]
        rfl
      · have e : row.getD 0 (0, 0) = ((n : Int), (n : Int)) := w4
        rw [e, nI_toInt (by omega)]
        exact ⟨Int.le_refl _, Int.le_refl _⟩
    | succ i =>
      have hcell : ([(361, 203), (361, 196), (361, 197), (361, 198), (361, 199), (361, 200)] : List (Nat × Nat)).getD (i + 1) (0, 0) = (361, 196 + i) := by
        have : ∀ i : Fin 5, ([(361, 203), (361, 196), (361, 197), (361, 198), (361, 199), (361, 200)] : List (Nat × Nat)).getD (i.val + 1) (0, 0) = (361, 196 + i.val) := by decide
        exact this ⟨i, by omega⟩
      rw [hcell]
      by_cases hi : i < n
      · obtain ⟨u, u1, u2⟩ := List.any_eq_true.mp (List.all_eq_true.mp b1 i (List.mem_range.mpr hi))
        have u1 := List.mem_range.mp u1
        have eu : ((List.range n).map (fun t => rr_c R t n)).getD u 0 = rr_c R u n := by
          simp only [List.getD, List.getElem?_map, List.getElem?_range u1, Option.map_some, Option.getD_some]
        have u2 := Nat.eq_of_beq_eq_true u2
        rw [eu] at u2
        have w := of_decide_eq_true (List.all_eq_true.mp w5 u (List.mem_range.mpr u1))
        rw [eu, u2, Nat.add_comm 1 i] at w
        refine ⟨nI u, ?_, ?_⟩
        · show jc_at _ 361 (196 + i) = _
          rw [jm_atg hR', ← u2, rr_f_at hn u1 n 0 R (by omega) (by omega) hRl]
          rfl
        · rw [w, nI_toInt (by omega)]
          exact ⟨Int.le_refl _, Int.le_refl _⟩
      · have w := List.all_eq_true.mp w6 i (List.mem_range.mpr (by omega))
        rw [show Nat.ble (i + 1) n = false by
          cases hb : Nat.ble (i + 1) n with
          | false => rfl
          | true => exact absurd (Nat.le_of_ble_eq_true hb) (by omega), Bool.false_or, Nat.add_comm 1 i] at w
        obtain ⟨x, x1, x2⟩ := hty (196 + i) (by omega) (by omega)
        refine ⟨x, x1, ?_⟩
        rw [of_decide_eq_true w]
        exact x2
  refine ⟨hfr, _, List.mem_cons_self, r, _, g1.chg (X' := X) (t' := fun f => if f = 96 then row else t f) (fun f m hm ho => ?_) (fun p m hm ho => ?_) g1.2.2.2.2, trivial⟩
  · by_cases hf : f = 96
    · subst hf
      obtain ⟨ps, e⟩ := jm_f86
      obtain rfl := Option.some.inj (hm.symm.trans e)
      rw [if_pos rfl]
      exact ⟨w1, hin⟩
    · rw [if_neg hf]
      refine g1.fam rfl hm ?_
      rcases jm_ofm (Of := [8, 10, 11, 12, 13, 14, 15, 16, 17, 18, 19, 21, 22, 23, 24, 25]) (g1 := 13) (by decide +kernel) ho with z | z
      · have := ja_ch2_ok (p := fun f (m : jc_Fa) => !Nat.beq m.1 13 || Nat.beq f 96) jm_f13 hm
        rw [z] at this
        exact absurd (Nat.eq_of_beq_eq_true this) hf
      · exact z
  · have hz : m.1 ≠ 13 := by
      intro z
      have := ja_ch2_ok (p := fun _ (m : jc_Po) => !Nat.beq m.1 13) jm_p13 hm
      rw [z] at this
      cases this
    have ho2 := (jm_ofm (Of := [8, 10, 11, 12, 13, 14, 15, 16, 17, 18, 19, 21, 22, 23, 24, 25]) (g1 := 13) (by decide +kernel) ho).resolve_left hz
    obtain ⟨y, y1, y2⟩ := g1.pot rfl hm ho2
    refine ⟨y, y1, ?_⟩
    have hsw : ∀ l : List Nat, (∀ f ∈ l, f ≠ 96) → jc_sw (fun f => if f = 96 then row else t f) m.2.2.2.1 l = jc_sw t m.2.2.2.1 l := by
      intro l
      induction l with
      | nil => intro _; rfl
      | cons x l ih =>
        intro hx
        show jc_w _ (if x = 96 then row else t x) + jc_sw _ _ l = jc_w _ (t x) + jc_sw _ _ l
        rw [if_neg (hx x List.mem_cons_self), ih (fun f hf => hx f (List.mem_cons_of_mem _ hf))]
    rw [hsw]
    · exact y2
    · rintro f hf rfl
      obtain ⟨mf, mf1, mf2⟩ := jxm_ok.2.2.2.2.2.2 p m hm 96 hf
      obtain ⟨ps, e⟩ := jm_f86
      obtain rfl := Option.some.inj (mf1.symm.trans e)
      exact hz mf2.symm
-- ---- the read row, copied
/-- rows of five places that rows of the state tell more of -/
def jm_cov (τ τ' : List (Int × Int)) : Bool := (List.range 5).all (fun k => decide ((τ'.getD k (0, 0)).1 ≤ (τ.getD k (0, 0)).1) && decide ((τ.getD k (0, 0)).2 ≤ (τ'.getD k (0, 0)).2)) && (decide (jc_w 5 τ' ≤ 13) && (List.range 6).all (fun q => decide (jc_w (6 + q) τ' ≤ 1)) && (Nat.ble 5 τ'.length && Nat.beq τ.length 5))
/-- with each number that the second and the third place may have -/
def jm_cv (cov : List (Int × Int) → List (Int × Int) → Bool) (rows : List (List (Int × Int))) : List (Int × Int) → Bool
  | q0 :: q1 :: q2 :: qs => decide (0 ≤ q1.1) && (decide (q1.2 ≤ 6) && (decide (0 ≤ q2.1) && (decide (q2.2 ≤ 6) && (List.range 7).all (fun x => !(decide (q1.1 ≤ (x : Int)) && decide ((x : Int) ≤ q1.2)) || (List.range 7).all (fun y => !(decide (q2.1 ≤ (y : Int)) && decide ((y : Int) ≤ q2.2)) || rows.any (cov (q0 :: ((x : Int), (x : Int)) :: ((y : Int), (y : Int)) :: qs)))))))
  | _ => false
def jm_covs (τ τ' : List (Int × Int)) : Bool := (List.range 5).all (fun k => decide ((τ'.getD k (0, 0)).1 ≤ (τ.getD k (0, 0)).1) && decide ((τ.getD k (0, 0)).2 ≤ (τ'.getD k (0, 0)).2)) && (Nat.ble 5 τ'.length && Nat.beq τ.length 5)
def jm_rrow : Nat → List (List (Int × Int))
  | 0 => jxm_r16
  | 1 => jxm_r17
  | 2 => jxm_r18
  | 3 => jxm_r19
  | _ => jxm_r20

set_option maxRecDepth 1000000 in
theorem jm_cov0 : jxm_r16.all (jm_cv jm_cov jxm_r0) = true := by decide +kernel
set_option maxRecDepth 1000000 in
theorem jm_cov0c : jxm_r16.all (jm_cv jm_covs jxm_r6) = true := by decide +kernel
set_option maxRecDepth 1000000 in
theorem jm_cov1 : jxm_r17.all (jm_cv jm_cov jxm_r1) = true := by decide +kernel
set_option maxRecDepth 1000000 in
theorem jm_cov1c : jxm_r17.all (jm_cv jm_covs jxm_r7) = true := by decide +kernel
set_option maxRecDepth 1000000 in
theorem jm_cov2 : jxm_r18.all (jm_cv jm_cov jxm_r2) = true := by decide +kernel
set_option maxRecDepth 1000000 in
theorem jm_cov2c : jxm_r18.all (jm_cv jm_covs jxm_r8) = true := by decide +kernel
set_option maxRecDepth 1000000 in
theorem jm_cov3 : jxm_r19.all (jm_cv jm_cov jxm_r3) = true := by decide +kernel
set_option maxRecDepth 1000000 in
theorem jm_cov3c : jxm_r19.all (jm_cv jm_covs jxm_r9) = true := by decide +kernel
set_option maxRecDepth 1000000 in
theorem jm_cov4 : jxm_r20.all (jm_cv jm_cov jxm_r4) = true := by decide +kernel
set_option maxRecDepth 1000000 in
theorem jm_cov4c : jxm_r20.all (jm_cv jm_covs jxm_r10) = true := by decide +kernel
theorem jm_cov_a {j : Nat} (hj : j < 5) {τ : List (Int × Int)} (h : τ ∈ jm_rrow j) : jm_cv jm_cov (jm_rows j) τ = true ∧ jm_cv jm_covs (jm_rows (6 + j)) τ = true := by
  match j, hj with
  | 0, _ => exact ⟨List.all_eq_true.mp jm_cov0 τ h, List.all_eq_true.mp jm_cov0c τ h⟩
  | 1, _ => exact ⟨List.all_eq_true.mp jm_cov1 τ h, List.all_eq_true.mp jm_cov1c τ h⟩
  | 2, _ => exact ⟨List.all_eq_true.mp jm_cov2 τ h, List.all_eq_true.mp jm_cov2c τ h⟩
  | 3, _ => exact ⟨List.all_eq_true.mp jm_cov3 τ h, List.all_eq_true.mp jm_cov3c τ h⟩
  | 4, _ => exact ⟨List.all_eq_true.mp jm_cov4 τ h, List.all_eq_true.mp jm_cov4c τ h⟩
  | n + 5, h => exact absurd h (by omega)
theorem jm_cells_eq {j : Nat} (hj : j < 5) : jm_cells j = [203, 57 + 28 * j, 58 + 28 * j, 62 + 28 * j, 63 + 28 * j] ∧ jm_cells (6 + j) = [203, 57 + 28 * j, 58 + 28 * j, 62 + 28 * j, 63 + 28 * j] := by
  match j, hj with
  | 0, _ => exact ⟨rfl, rfl⟩
  | 1, _ => exact ⟨rfl, rfl⟩
  | 2, _ => exact ⟨rfl, rfl⟩
  | 3, _ => exact ⟨rfl, rfl⟩
  | 4, _ => exact ⟨rfl, rfl⟩
  | n + 5, h => exact absurd h (by omega)
theorem jm_cv_ok {src : Nat → Option Value} {cov : List (Int × Int) → List (Int × Int) → Bool} {rows : List (List (Int × Int))} {c0 c1 c2 : Nat} {cs : List Nat} {τ : List (Int × Int)} (hc : jm_cv cov rows τ = true) (hi : jm_in src (c0 :: c1 :: c2 :: cs) τ) : ∃ τ1 τ', τ' ∈ rows ∧ cov τ1 τ' = true ∧ jm_in src (c0 :: c1 :: c2 :: cs) τ1 := by
  match τ, hc, hi with
  | q0 :: q1 :: q2 :: qs, hc, ⟨i0, ⟨x, x1, x2, x3⟩, ⟨y, y1, y2, y3⟩, i2⟩ =>
    obtain ⟨c1, hc⟩ := Bool.and_eq_true_iff.mp hc
    obtain ⟨c2, hc⟩ := Bool.and_eq_true_iff.mp hc
    obtain ⟨c5, hc⟩ := Bool.and_eq_true_iff.mp hc
    obtain ⟨c6, c3⟩ := Bool.and_eq_true_iff.mp hc
    have c1 := of_decide_eq_true c1
    have c2 := of_decide_eq_true c2
    have c5 := of_decide_eq_true c5
    have c6 := of_decide_eq_true c6
    obtain ⟨k, hk⟩ := Int.eq_ofNat_of_zero_le (show 0 ≤ x.toInt by omega)
    obtain ⟨l, hl⟩ := Int.eq_ofNat_of_zero_le (show 0 ≤ y.toInt by omega)
    have c4 := List.all_eq_true.mp c3 k (List.mem_range.mpr (by omega))
    rw [decide_eq_true (show q1.1 ≤ (k : Int) by omega), decide_eq_true (show (k : Int) ≤ q1.2 by omega)] at c4
    have c7 := List.all_eq_true.mp c4 l (List.mem_range.mpr (by omega))
    rw [decide_eq_true (show q2.1 ≤ (l : Int) by omega), decide_eq_true (show (l : Int) ≤ q2.2 by omega)] at c7
    obtain ⟨τ', m1, m2⟩ := List.any_eq_true.mp c7
    exact ⟨_, τ', m1, m2, i0, ⟨x, x1, by rw [hk]; exact Int.le_refl _, by rw [hk]; exact Int.le_refl _⟩, ⟨y, y1, by rw [hl]; exact Int.le_refl _, by rw [hl]; exact Int.le_refl _⟩, i2⟩
theorem jm_cov_ok {src : Nat → Option Value} {j : Nat} (hj : j < 5) {τ : List (Int × Int)} (h : τ ∈ jm_rrow j) (hi : jm_in src (jm_cells j) τ) : ∃ τ1 τ', τ' ∈ jm_rows j ∧ jm_cov τ1 τ' = true ∧ jm_in src (jm_cells j) τ1 := by
  have hc := (jm_cov_a hj h).1
  rw [(jm_cells_eq hj).1] at hi ⊢
  exact jm_cv_ok hc hi
theorem jm_cov1_ok {src : Nat → Option Value} {j : Nat} (hj : j < 5) {τ : List (Int × Int)} (h : τ ∈ jm_rrow j) (hi : jm_in src (jm_cells j) τ) : ∃ τ1 τ', τ' ∈ jm_rows (6 + j) ∧ jm_covs τ1 τ' = true ∧ jm_in src (jm_cells (6 + j)) τ1 := by
  have hc := (jm_cov_a hj h).2
  rw [(jm_cells_eq hj).1] at hi
  rw [(jm_cells_eq hj).2]
  exact jm_cv_ok hc hi
/-- a rank's place, of a whole rank -/
def jm_rkb (p : Nat) (τ : List (Int × Int)) : Bool := (jm_rows (11 + p)).any fun q => Nat.beq q.length 2 && (decide ((q.getD 0 (0, 0)).1 ≤ (τ.getD 0 (0, 0)).1) && (decide ((τ.getD 0 (0, 0)).2 ≤ (q.getD 0 (0, 0)).2) && (decide ((q.getD 1 (0, 0)).1 ≤ (τ.getD (1 + p) (0, 0)).1) && decide ((τ.getD (1 + p) (0, 0)).2 ≤ (q.getD 1 (0, 0)).2))))
set_option maxRecDepth 1000000 in
theorem jm_rk : (List.range 5).all (fun p => jxm_r5.all (jm_rkb p)) = true := by decide +kernel
theorem jm_rk_ok {src : Nat → Option Value} {p : Nat} (hp : p < 5) {τ : List (Int × Int)} (h : τ ∈ jxm_r5) (hi : jm_in src [203, 196, 197, 198, 199, 200] τ) : ∃ τ', τ' ∈ jm_rows (11 + p) ∧ jm_in src (jm_cells (11 + p)) τ' := by
  obtain ⟨q, q1, q2⟩ := List.any_eq_true.mp (List.all_eq_true.mp (List.all_eq_true.mp jm_rk p (List.mem_range.mpr hp)) τ h)
  obtain ⟨e1, q2⟩ := Bool.and_eq_true_iff.mp q2
  obtain ⟨e2, q2⟩ := Bool.and_eq_true_iff.mp q2
  obtain ⟨e3, q2⟩ := Bool.and_eq_true_iff.mp q2
  obtain ⟨e4, e5⟩ := Bool.and_eq_true_iff.mp q2
  have e1 := Nat.eq_of_beq_eq_true e1
  have e2 := of_decide_eq_true e2
  have e3 := of_decide_eq_true e3
  have e4 := of_decide_eq_true e4
  have e5 := of_decide_eq_true e5
  refine ⟨q, q1, ?_⟩
  have hcell : jm_cells (11 + p) = [203, 196 + p] := by
    match p, hp with
    | 0, _ => rfl
    | 1, _ => rfl
    | 2, _ => rfl
    | 3, _ => rfl
    | 4, _ => rfl
    | n + 5, h => exact absurd h (by omega)
  rw [hcell]
  match q, e1 with
  | [a, b], _ =>
    match τ, hi with
    | t0 :: t1 :: t2 :: t3 :: t4 :: t5 :: ts, ⟨⟨x, x1, x2, x3⟩, y1, y2, y3, y4, y5, _⟩ =>
      have e2 : a.1 ≤ t0.1 := e2
      have e3 : t0.2 ≤ a.2 := e3
      refine ⟨⟨x, x1, by omega, by omega⟩, ?_, trivial⟩
      match p, hp with
      | 0, _ => obtain ⟨y, z1, z2, z3⟩ := y1; exact ⟨y, z1, by have e4 : b.1 ≤ t1.1 := e4; omega, by have e5 : t1.2 ≤ b.2 := e5; omega⟩
      | 1, _ => obtain ⟨y, z1, z2, z3⟩ := y2; exact ⟨y, z1, by have e4 : b.1 ≤ t2.1 := e4; omega, by have e5 : t2.2 ≤ b.2 := e5; omega⟩
      | 2, _ => obtain ⟨y, z1, z2, z3⟩ := y3; exact ⟨y, z1, by have e4 : b.1 ≤ t3.1 := e4; omega, by have e5 : t3.2 ≤ b.2 := e5; omega⟩
      | 3, _ => obtain ⟨y, z1, z2, z3⟩ := y4; exact ⟨y, z1, by have e4 : b.1 ≤ t4.1 := e4; omega, by have e5 : t4.2 ≤ b.2 := e5; omega⟩
      | 4, _ => obtain ⟨y, z1, z2, z3⟩ := y5; exact ⟨y, z1, by have e4 : b.1 ≤ t5.1 := e4; omega, by have e5 : t5.2 ≤ b.2 := e5; omega⟩
      | n + 5, h => exact absurd h (by omega)
theorem jm_in_mono {src : Nat → Option Value} : ∀ {cs : List Nat} {τ τ' : List (Int × Int)}, cs.length ≤ τ'.length → (∀ k, k < cs.length → (τ'.getD k (0, 0)).1 ≤ (τ.getD k (0, 0)).1 ∧ (τ.getD k (0, 0)).2 ≤ (τ'.getD k (0, 0)).2) → jm_in src cs τ → jm_in src cs τ'
  | [], _, _, _, _, _ => trivial
  | c :: cs, [], _, _, _, h => h.elim
  | c :: cs, q :: τ, [], hl, _, _ => absurd hl (Nat.not_succ_le_zero _)
  | c :: cs, q :: τ, q' :: τ', hl, hk, h => by
    obtain ⟨⟨x, x1, x2, x3⟩, h2⟩ := h
    have h0 := hk 0 (Nat.succ_pos _)
    have h0 : q'.1 ≤ q.1 ∧ q.2 ≤ q'.2 := h0
    exact ⟨⟨x, x1, by omega, by omega⟩, jm_in_mono (Nat.le_of_succ_le_succ hl) (fun k h9 => hk (k + 1) (Nat.succ_lt_succ h9)) h2⟩
set_option maxRecDepth 100000 in
theorem jm_ftr : ∀ j, j < 5 → ∃ ps, ja_n2 jxm.2.1 (91 + j) = some (9, (jm_cells j).map (fun c => (361, c)), jm_rrow j, ps)
  | 0, _ => ⟨_, rfl⟩
  | 1, _ => ⟨_, rfl⟩
  | 2, _ => ⟨_, rfl⟩
  | 3, _ => ⟨_, rfl⟩
  | 4, _ => ⟨_, rfl⟩
  | n + 5, h => absurd h (by omega)
noncomputable def jm_t2b (i : Nat) : Bool := match ja_n2 jxm.1 361 with
  | some d => (match jc_sg d.2 i, jm_ty i with
    | some T, some T' => decide (T.1 = T'.1) || (decide (T.1 = some (.inl (0, 0))) && (decide (T'.1 = some (.inl (0, 65))) || decide (T'.1 = some (.inl (0, 5)))))
    | _, _ => false)
  | none => false
set_option maxRecDepth 1000000 in
theorem jm_t2 : (List.range 602).all jm_t2b = true := by decide +kernel
theorem jm_t2_ok {i : Nat} (hi : i < 602) {d : jc_Dd} (hd : ja_n2 jxm.1 361 = some d) : ∃ T, jc_sg d.2 i = some T ∧ ∀ v, jc_tv T.1 v → ∀ T', jm_ty i = some T' → jc_tv T'.1 v := by
  have := List.all_eq_true.mp jm_t2 i (List.mem_range.mpr hi)
  unfold jm_t2b at this
  rw [hd] at this
  dsimp only at this
  split at this
  · rename_i T T' e1 e2
    refine ⟨T, e1, fun v hv T9 h9 => ?_⟩
    rw [e2] at h9
    cases h9
    rcases Bool.or_eq_true_iff.mp this with z | z
    · rw [← of_decide_eq_true z]; exact hv
    · obtain ⟨z1, z2⟩ := Bool.and_eq_true_iff.mp z
      rw [of_decide_eq_true z1] at hv
      obtain ⟨x, rfl, x1, x2⟩ := jm_tvi hv
      have x1 : (0 : Int) ≤ x.toInt := x1
      have x2 : x.toInt ≤ 0 := x2
      rcases Bool.or_eq_true_iff.mp z2 with z | z
      · rw [of_decide_eq_true z]; exact ⟨x1, by show x.toInt ≤ 65; omega⟩
      · rw [of_decide_eq_true z]; exact ⟨x1, by show x.toInt ≤ 5; omega⟩
  · cases this
theorem jm_z361 : (List.range 7).all (fun q => match ja_n2 jxm.1 361 with
  | some d => (match jc_sg d.2 (jm_pc q) with
    | some T => decide (T.1 = some (.inl (0, 0)))
    | none => false)
  | none => false) = true := by decide +kernel
set_option maxRecDepth 100000 in
theorem jxm_g42_ok {X : J_H → Prop} (hX : jc_Xo jxm X) : jc_Con jP jxm X jxm_g42 := by
  intro d hd r t h As hg hA
  obtain ⟨v, st, rfl, h1, h2⟩ := jc_st_cons hA
  obtain ⟨v2, st2, rfl, h3, h4⟩ := jc_st_cons h2
  cases st2 with
  | cons _ _ => exact h4.elim
  | nil =>
  obtain rfl := h1.ref
  obtain rfl := h3.ref
  have hg : jc_g jxm X r t (1, [], [], [], [], [8, 10, 11, 12, 14, 15, 16, 17, 18, 19, 21, 22, 23, 24, 25]) h := hg
  obtain ⟨da, da1, da2, -⟩ := jm_dR
  obtain ⟨db, db1, db2, -⟩ := jm_rowN.2.2.2.2.1
  obtain ⟨la, ha, l0⟩ := jm_arr hg da1 da2
  obtain ⟨lb, hb, l1⟩ := jm_arr hg db1 db2
  have hlt := (List.getElem?_eq_some_iff.mp hb).1
  refine (jcp_ok d h 361 360 la lb ha hb l0 l1 (by decide)).mono ?_
  rintro rv h' ⟨rfl, rfl⟩
  refine ⟨jm_fr hb l1 l0, _, List.mem_cons_self, ?_⟩
  have ht5 : ∀ j, j < 5 → ∃ τ', τ' ∈ jm_rows j ∧ jm_in (fun i => jc_at h 361 i) (jm_cells j) τ' ∧ jc_w 5 τ' ≤ 13 ∧ ∀ q, q < 6 → jc_w (6 + q) τ' ≤ 1 := by
    intro j hj
    obtain ⟨ps, e⟩ := jm_ftr j hj
    obtain ⟨k1, k2⟩ := hg.fam rfl e (by show jc_off jxm_g42.2.2.2.1.2.2.2.2.2 9 = false; decide +kernel)
    obtain ⟨τ1, τ', m1, m2, m3⟩ := jm_cov_ok (src := fun i => jc_at h 361 i) hj k1 ((jm_in_of (fun c _ => rfl)).mp k2)
    obtain ⟨c1, c2⟩ := Bool.and_eq_true_iff.mp m2
    obtain ⟨c2, c4⟩ := Bool.and_eq_true_iff.mp c2
    obtain ⟨c2, c3⟩ := Bool.and_eq_true_iff.mp c2
    obtain ⟨c4, c5⟩ := Bool.and_eq_true_iff.mp c4
    have hlen : (jm_cells j).length = 5 := by
      have : ∀ j : Fin 5, (jm_cells j.val).length = 5 := by decide
      exact this ⟨j, hj⟩
    refine ⟨τ', m1, jm_in_mono (by rw [hlen]; exact Nat.le_of_ble_eq_true c4) (fun k hk => ?_) m3, of_decide_eq_true c2, fun q hq => of_decide_eq_true (List.all_eq_true.mp c3 q (List.mem_range.mpr hq))⟩
    obtain ⟨z1, z2⟩ := Bool.and_eq_true_iff.mp (List.all_eq_true.mp c1 k (List.mem_range.mpr (by omega)))
    exact ⟨of_decide_eq_true z1, of_decide_eq_true z2⟩
  obtain ⟨ps, e86⟩ := jm_f86
  obtain ⟨k1, k2⟩ := hg.fam rfl e86 (by show jc_off jxm_g42.2.2.2.1.2.2.2.2.2 13 = false; decide +kernel)
  have ht1 : ∀ j, j < 5 → ∃ τ', τ' ∈ jm_rows (6 + j) ∧ jm_in (fun i => jc_at h 361 i) (jm_cells (6 + j)) τ' := by
    intro j hj
    obtain ⟨ps, e⟩ := jm_ftr j hj
    obtain ⟨k1, k2⟩ := hg.fam rfl e (by show jc_off jxm_g42.2.2.2.1.2.2.2.2.2 9 = false; decide +kernel)
    obtain ⟨τ1, τ', m1, m2, m3⟩ := jm_cov1_ok (src := fun i => jc_at h 361 i) hj k1 ((jm_in_of (fun c _ => rfl)).mp k2)
    obtain ⟨c1, c2⟩ := Bool.and_eq_true_iff.mp m2
    obtain ⟨c4, c5⟩ := Bool.and_eq_true_iff.mp c2
    have hlen : (jm_cells (6 + j)).length = 5 := by rw [(jm_cells_eq hj).2]; rfl
    refine ⟨τ', m1, jm_in_mono (by rw [hlen]; exact Nat.le_of_ble_eq_true c4) (fun k hk => ?_) m3⟩
    obtain ⟨z1, z2⟩ := Bool.and_eq_true_iff.mp (List.all_eq_true.mp c1 k (List.mem_range.mpr (by omega)))
    exact ⟨of_decide_eq_true z1, of_decide_eq_true z2⟩
  obtain ⟨τ0, a0, b0, c0, d0⟩ := ht5 0 (by decide)
  obtain ⟨τ1, a1, b1, c1, d1⟩ := ht5 1 (by decide)
  obtain ⟨τ2, a2, b2, c2, d2⟩ := ht5 2 (by decide)
  obtain ⟨τ3, a3, b3, c3, d3⟩ := ht5 3 (by decide)
  obtain ⟨τ4, a4, b4, c4, d4⟩ := ht5 4 (by decide)
  have hk2 : jm_in (fun i => jc_at h 361 i) [203, 196, 197, 198, 199, 200] (t 96) := (jm_in_of (a := 361) (h := h) (fun c _ => rfl)).mp k2
  obtain ⟨τ6, a6, b6⟩ := ht1 0 (by decide)
  obtain ⟨τ7, a7, b7⟩ := ht1 1 (by decide)
  obtain ⟨τ8, a8, b8⟩ := ht1 2 (by decide)
  obtain ⟨τ9, a9, b9⟩ := ht1 3 (by decide)
  obtain ⟨τ10, a10, b10⟩ := ht1 4 (by decide)
  obtain ⟨τ11, a11, b11⟩ := jm_rk_ok (p := 0) (by decide) k1 hk2
  obtain ⟨τ12, a12, b12⟩ := jm_rk_ok (p := 1) (by decide) k1 hk2
  obtain ⟨τ13, a13, b13⟩ := jm_rk_ok (p := 2) (by decide) k1 hk2
  obtain ⟨τ14, a14, b14⟩ := jm_rk_ok (p := 3) (by decide) k1 hk2
  obtain ⟨τ15, a15, b15⟩ := jm_rk_ok (p := 4) (by decide) k1 hk2
  have hS : jm_S (fun i => jc_at h 361 i) (fun j => match j with
      | 0 => τ0
      | 1 => τ1
      | 2 => τ2
      | 3 => τ3
      | 4 => τ4
      | 5 => t 96
      | 6 => τ6
      | 7 => τ7
      | 8 => τ8
      | 9 => τ9
      | 10 => τ10
      | 11 => τ11
      | 12 => τ12
      | 13 => τ13
      | 14 => τ14
      | _ => τ15) := by
    refine ⟨fun i hi => ?_, jmx_16 ⟨a0, b0⟩ ⟨a1, b1⟩ ⟨a2, b2⟩ ⟨a3, b3⟩ ⟨a4, b4⟩ ⟨k1, hk2⟩ ⟨a6, b6⟩ ⟨a7, b7⟩ ⟨a8, b8⟩ ⟨a9, b9⟩ ⟨a10, b10⟩ ⟨a11, b11⟩ ⟨a12, b12⟩ ⟨a13, b13⟩ ⟨a14, b14⟩ ⟨a15, b15⟩, fun q hq => ?_⟩
    · obtain ⟨T, e1, e2⟩ := jm_t2_ok hi da1
      obtain ⟨v, v1, v2⟩ := hg.atT da1 (by rw [da2]; exact hi) rfl e1
      exact ⟨v, v1, e2 v v2⟩
    · have hz := List.all_eq_true.mp jm_z361 q (List.mem_range.mpr hq)
      rw [da1] at hz
      dsimp only at hz
      split at hz
      · rename_i T hT
        obtain ⟨v, v1, v2⟩ := hg.atT da1 (by rw [da2]; exact jm_pc_lt hq) rfl hT
        rw [of_decide_eq_true hz] at v2
        obtain ⟨x, rfl, x1, x2⟩ := jm_tvi v2
        have x2 : x.toInt ≤ 0 := x2
        refine ⟨x, v1, ?_⟩
        show x.toInt + (jc_w (5 + q) τ0 + (jc_w (5 + q) τ1 + (jc_w (5 + q) τ2 + (jc_w (5 + q) τ3 + (jc_w (5 + q) τ4 + 0))))) ≤ jm_C q
        cases q with
        | zero =>
          show x.toInt + (jc_w 5 τ0 + (jc_w 5 τ1 + (jc_w 5 τ2 + (jc_w 5 τ3 + (jc_w 5 τ4 + 0))))) ≤ 65
          omega
        | succ q =>
          have e0 := d0 q (by omega)
          have e1 := d1 q (by omega)
          have e2 := d2 q (by omega)
          have e3 := d3 q (by omega)
          have e4 := d4 q (by omega)
          rw [show 5 + (q + 1) = 6 + q by omega]
          show _ ≤ (5 : Int)
          omega
      · cases hz
  have hb' : (h.set 360 (.inr (.inl (0, la))))[360]? = some (.inr (.inl (0, la))) := jk_at hb
  have hsrc : ∀ i, i < 602 → jc_at (h.set 360 (.inr (.inl (0, la)))) 360 i = jc_at h 361 i := fun i _ => by rw [jm_atg hb', jm_atg ha]
  obtain ⟨hc1, hc2⟩ := Bool.and_eq_true_iff.mp (show jm_cF [10, 11, 12, 14, 15, 16, 17, 18, 21, 22, 23, 24, 25] 360 8 19 = true by decide +kernel)
  obtain ⟨t2, g2⟩ := hS.put jm_rowN hX hg rfl rfl rfl hsrc ⟨la, hb', l0⟩ (fun x hx => List.getElem?_set_ne (fun z => hx z.symm)) (jm_ofb_ok (by decide +kernel)) hc1 hc2
  exact ⟨r, t2, g2, trivial⟩

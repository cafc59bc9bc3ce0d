/-! what holds between calls -/
theorem jc_gB.snoc {r : jc_R} {n : Nat} {B : jc_B} {x : Int} {b : Int × Int} (hB : jc_gB r n B) (hx : b.1 ≤ x ∧ x ≤ b.2) : jc_gB (jc_up r n x) (n + 1) (B ++ [(n, b)]) := by
  refine ⟨?_, Nat.succ_pos _, fun e he => ?_⟩
  · rw [jc_up_ext r n x 0 hB.2.1]
    exact hB.1
  · rcases List.mem_append.mp he with he | he
    · obtain ⟨h1, h2⟩ := hB.2.2 e he
      rw [jc_up_ext r n x _ h1]
      exact ⟨Nat.lt_succ_of_lt h1, h2⟩
    · obtain rfl := List.mem_singleton.mp he
      dsimp only
      rw [jc_up_at]
      exact ⟨Nat.lt_succ_self _, hx⟩
def i_r0 : jc_R := fun _ => 0
theorem i_B0 : jc_gB i_r0 1 [] := ⟨rfl, Nat.succ_pos _, fun _ h => nomatch h⟩
theorem i_full (x : Int32) : (Int.negSucc 2147483647) ≤ x.toInt ∧ x.toInt ≤ Int.ofNat 2147483647 := jm_full x
def i_b (b : Bool) : Int32 := bif b then 1 else 0
theorem i_bool (b : Bool) : (Int.ofNat 0) ≤ (i_b b).toInt ∧ (i_b b).toInt ≤ Int.ofNat 1 := by cases b <;> decide
/-- a state with nothing open that tells references alone -/
abbrev i_st (O : List (Nat × jc_v)) (Of : List Nat) : jc_A := (1, [], O, [], [], Of)
def i_I (E : jc_E) (X : J_H → Prop) (A : jc_A) (h : J_H) : Prop := ∃ r t, jc_g E X r t A h
noncomputable def i_out (E : jc_E) (T : jc_A) (outs : List (jc_A × Option jc_v)) : Bool := jc_all (fun o => (jc_arr E [] o.1 [] T).isSome && (match o.2 with
  | some (.inl _) => true
  | _ => false)) outs
theorem i_call {E : jc_E} {X : J_H → Prop} {O : List (Nat × jc_v)} {Of : List Nat} {c : jc_Cn} {n : Nat} {B : jc_B} {h : J_H} {As : List Value} (hE : jc_Ok E) (hc : jc_Con jP E X c) (hI : i_I E X (i_st O Of) h) (hO : jc_refs O = true) (hp : c.2.2.2.1 = (n, B, O, [], [], Of)) (ho : i_out E (i_st O Of) c.2.2.2.2.2 = true) (hd : Nat.ble c.2.1 15 = true) (hA : ∃ r', jc_gB r' n B ∧ jc_st r' n c.2.2.1 As) : j_W jP 15 c.1 0 (lv_args 0 As) [] h (fun rv h' => (∃ v, rv = some (.int v)) ∧ i_I E X (i_st O Of) h' ∧ jc_fr c.2.2.2.2.1 h h') := by
  obtain ⟨r, t, hg⟩ := hI
  obtain ⟨r', hB, hS⟩ := hA
  have g1 := hg.args hO hB
  rw [← hp] at g1
  have hn : c.2.2.2.1.1 = n := by rw [hp]
  refine (hc 15 (Nat.le_of_ble_eq_true hd) r' t h As g1 (by rw [hn]; exact hS)).mono ?_
  rintro rv h' ⟨f1, o, o1, r2, t2, g2, an⟩
  obtain ⟨a1, a2⟩ := Bool.and_eq_true_iff.mp (jc_all_ok ho o o1)
  obtain ⟨r3, t3, g3⟩ := g2.to hE a1
  refine ⟨?_, ⟨r3, t3, g3⟩, f1⟩
  split at a2
  · rename_i q hq
    rw [hq] at an
    cases rv with
    | none => exact an.elim
    | some v =>
      obtain ⟨x, rfl, -⟩ := jc_val.int an
      exact ⟨x, rfl⟩
  · cases a2
def iOA : List (Nat × jc_v) := [(6, .inr (some (some 327))), (7, .inr (some (some 343))), (32768, .inr (some (some 327)))]
def iOB : List (Nat × jc_v) := [(6, .inr (some (some 343))), (7, .inr (some (some 327))), (32768, .inr (some (some 343)))]
def iFA : List Nat := [2, 3, 4, 5, 6, 7]
def iFB : List Nat := [1, 3, 4, 5, 6, 7]
def iFM : List Nat := [9, 12, 13, 14, 15, 16, 17, 18, 21, 22, 23, 24, 25]
def IA (h : J_H) : Prop := i_I jxa (jxs_X 30 327) (i_st iOA iFA) h
def IB (h : J_H) : Prop := i_I jxb (jxs_X 40 343) (i_st iOB iFB) h
def IC (h : J_H) : Prop := IA h ∨ IB h
def IM (h : J_H) : Prop := i_I jxm jm_X (i_st [] iFM) h
/-- the reference's cells stay; the class's -/
def i_fx (h h' : J_H) : Prop := j_same h h' ∧ ∀ a i, 359 ≤ a → jc_at h' a i = jc_at h a i
def i_fm (h h' : J_H) : Prop := j_same h h' ∧ ∀ a i, a < 359 → jc_at h' a i = jc_at h a i
noncomputable def i_Wx (W : jc_W) : Bool := jc_all (fun w => Nat.ble (w.1 + 1) 359) W
noncomputable def i_Wm (W : jc_W) : Bool := jc_all (fun w => Nat.ble 359 w.1) W
theorem i_inW {p : Nat × Nat × Nat → Bool} {a i : Nat} : ∀ {W : jc_W}, jc_all p W = true → jc_inW W a i = true → ∃ w ∈ W, p w = true ∧ w.1 = a
  | [], _, h => by cases h
  | w :: W, hp, h => by
    obtain ⟨p1, p2⟩ := Bool.and_eq_true_iff.mp (show (p w && jc_all p W) = true from hp)
    rcases Bool.or_eq_true_iff.mp (show ((Nat.beq w.1 a && (Nat.ble w.2.1 i && Nat.ble (i + 1) w.2.2)) || jc_inW W a i) = true from h) with h | h
    · exact ⟨w, List.mem_cons_self, p1, Nat.eq_of_beq_eq_true (Bool.and_eq_true_iff.mp h).1⟩
    · obtain ⟨w', a1, a2⟩ := i_inW p2 h
      exact ⟨w', List.mem_cons_of_mem _ a1, a2⟩
theorem i_Wx_ok {W : jc_W} (hw : i_Wx W = true) {h h' : J_H} (hf : jc_fr W h h') : ∀ a i, 359 ≤ a → jc_at h' a i = jc_at h a i := by
  intro a i ha
  refine hf a i ?_
  cases hb : jc_inW W a i with
  | false => rfl
  | true =>
    obtain ⟨w, -, w2, w3⟩ := i_inW hw hb
    have := Nat.le_of_ble_eq_true w2
    omega
theorem i_Wm_ok {W : jc_W} (hw : i_Wm W = true) {h h' : J_H} (hf : jc_fr W h h') : ∀ a i, a < 359 → jc_at h' a i = jc_at h a i := by
  intro a i ha
  refine hf a i ?_
  cases hb : jc_inW W a i with
  | false => rfl
  | true =>
    obtain ⟨w, -, w2, w3⟩ := i_inW hw hb
    have := Nat.le_of_ble_eq_true w2
    omega
theorem i_dx : ja_ch2 (fun a (_ : jc_Dd) => Nat.ble (a + 1) 359) jxa.1 = true := by decide +kernel
theorem i_dm : ja_ch2 (fun a (_ : jc_Dd) => Nat.ble 359 a) jxm.1 = true := by decide +kernel
theorem IM.oth {h h' : J_H} (hM : IM h) (hf : i_fx h h') : IM h' := by
  obtain ⟨r, t, hg⟩ := hM
  refine ⟨r, t, hg.oth jxm_ok hf.1 (fun a d hd i => hf.2 a i (Nat.le_of_ble_eq_true (ja_ch2_ok (p := fun a (_ : jc_Dd) => Nat.ble 359 a) i_dm hd))) (jm_Xo h h' (fun a i hw => hf.2 a i ?_) hg.2.2.2.2)⟩
  rcases jm_inW_t hw with ⟨z, -, -⟩ | z
  · omega
  · cases z
theorem i_pA : i_Wx jxa.2.2.2.2 = true := by decide +kernel
theorem i_pB : i_Wx jxb.2.2.2.2 = true := by decide +kernel
theorem IA.oth {h h' : J_H} (hA : IA h) (hf : i_fm h h') : IA h' := by
  obtain ⟨r, t, hg⟩ := hA
  refine ⟨r, t, hg.oth jxa_ok hf.1 (fun a d hd i => hf.2 a i (Nat.le_of_ble_eq_true (ja_ch2_ok (p := fun a (_ : jc_Dd) => Nat.ble (a + 1) 359) i_dx hd))) (jxsA_Xo h h' (fun a i hw => hf.2 a i ?_) hg.2.2.2.2)⟩
  obtain ⟨w, -, w2, w3⟩ := i_inW i_pA hw
  have := Nat.le_of_ble_eq_true w2
  omega
theorem IB.oth {h h' : J_H} (hA : IB h) (hf : i_fm h h') : IB h' := by
  obtain ⟨r, t, hg⟩ := hA
  refine ⟨r, t, hg.oth jxb_ok hf.1 (fun a d hd i => hf.2 a i (Nat.le_of_ble_eq_true (ja_ch2_ok (p := fun a (_ : jc_Dd) => Nat.ble (a + 1) 359) i_dx hd))) (jxsB_Xo h h' (fun a i hw => hf.2 a i ?_) hg.2.2.2.2)⟩
  obtain ⟨w, -, w2, w3⟩ := i_inW i_pB hw
  have := Nat.le_of_ble_eq_true w2
  omega
theorem IC.oth {h h' : J_H} (hA : IC h) (hf : i_fm h h') : IC h' := hA.elim (fun z => Or.inl (z.oth hf)) (fun z => Or.inr (z.oth hf))
/-- what a call of the class comes to, of the reference -/
def pX (mi : Nat) (As : List Value) (h : J_H) : Prop := j_W jP 15 mi 0 (lv_args 0 As) [] h (fun rv h' => ((∃ v, rv = some (.int v)) ∧ IC h' ∧ i_fx h h') ∧ jc_at h' 1 1 = jc_at h 1 1)
def pM (mi : Nat) (As : List Value) (h : J_H) : Prop := j_W jP 15 mi 0 (lv_args 0 As) [] h (fun rv h' => ((∃ v, rv = some (.int v)) ∧ IM h' ∧ i_fm h h') ∧ jc_at h' 359 9 = jc_at h 359 9)
noncomputable def i_cx (mi : Nat) (c : jc_Cn) : Bool := Nat.beq c.1 mi && (jS mi && (i_Wx c.2.2.2.2.1 && !jc_inW c.2.2.2.2.1 1 1))
noncomputable def i_cm (mi : Nat) (c : jc_Cn) : Bool := Nat.beq c.1 mi && (jS mi && (i_Wm c.2.2.2.2.1 && !jc_inW c.2.2.2.2.1 359 9))
theorem i_x {c : jc_Cn} {mi : Nat} {As : List Value} {h : J_H} {I : J_H → Prop} (hj : i_cx mi c = true) (hI : ∀ h', I h' → IC h') (hw : j_W jP 15 c.1 0 (lv_args 0 As) [] h (fun rv h' => (∃ v, rv = some (.int v)) ∧ I h' ∧ jc_fr c.2.2.2.2.1 h h')) : pX mi As h := by
  obtain ⟨j1, hj⟩ := Bool.and_eq_true_iff.mp hj
  obtain ⟨j2, hj⟩ := Bool.and_eq_true_iff.mp hj
  obtain ⟨j3, j4⟩ := Bool.and_eq_true_iff.mp hj
  rw [Nat.eq_of_beq_eq_true j1] at hw
  refine (hw.same jS_ok j2).mono ?_
  rintro rv h' ⟨⟨a1, a2, a3⟩, a4⟩
  exact ⟨⟨a1, hI h' a2, a4, i_Wx_ok j3 a3⟩, a3 1 1 (by simpa using j4)⟩
theorem i_m {c : jc_Cn} {mi : Nat} {As : List Value} {h : J_H} (hj : i_cm mi c = true) (hw : j_W jP 15 c.1 0 (lv_args 0 As) [] h (fun rv h' => (∃ v, rv = some (.int v)) ∧ i_I jxm jm_X (i_st [] iFM) h' ∧ jc_fr c.2.2.2.2.1 h h')) : pM mi As h := by
  obtain ⟨j1, hj⟩ := Bool.and_eq_true_iff.mp hj
  obtain ⟨j2, hj⟩ := Bool.and_eq_true_iff.mp hj
  obtain ⟨j3, j4⟩ := Bool.and_eq_true_iff.mp hj
  rw [Nat.eq_of_beq_eq_true j1] at hw
  refine (hw.same jS_ok j2).mono ?_
  rintro rv h' ⟨⟨a1, a2, a3⟩, a4⟩
  exact ⟨⟨a1, a2, a4, i_Wm_ok j3 a3⟩, a3 359 9 (by simpa using j4)⟩

/-! what is wanted of a call on new objects: both answer alike, nothing is made -/
def jz_ok (mx mm : Nat) (As : List Value) : Prop := ∃ a : Int32, j_W jP 8 mx 0 (lv_args 0 (.ref 0 :: As)) [] jH (fun r h' => r = some (.int a) ∧ h'.length = 372 ∧ ∀ k, 359 ≤ k → h'[k]? = jH[k]?) ∧ ∀ h : J_H, h.length = 372 → (∀ k, 359 ≤ k → h[k]? = jH[k]?) → j_W jP 8 mm 0 (lv_args 0 (.ref 359 :: As)) [] h (fun r h' => r = some (.int a) ∧ h'.length = 372)
theorem ja_at_none {A : ja_H} {k : Nat} (h : A.all (fun q => !(Nat.beq q.1 k)) = true) : ja_at A k = none := by
  induction A with
  | nil => rfl
  | cons p t ih =>
    have e2 : ja_at (p :: t) k = cond (Nat.beq p.1 k) (some p.2) (ja_at t k) := rfl
    rw [e2]
    obtain ⟨a, b⟩ := Bool.and_eq_true_iff.mp (show ((!(Nat.beq p.1 k)) && t.all (fun q => !(Nat.beq q.1 k))) = true from h)
    have a : Nat.beq p.1 k = false := by simpa using a
    rw [a, cond_false]
    exact ih b
theorem jz_xlow : jAx.all (fun q => Nat.ble (q.1 + 1) 359) = true := by decide +kernel
theorem jz_mhigh : jAm.all (fun q => Nat.ble 359 q.1) = true := by decide +kernel
theorem jz_xnone {k : Nat} (hk : 359 ≤ k) : ja_at jAx k = none := ja_at_none (List.all_eq_true.mpr fun q hq => by
  have := Nat.le_of_ble_eq_true (List.all_eq_true.mp jz_xlow q hq)
  cases hb : Nat.beq q.1 k with
  | false => rfl
  | true =>
    have := Nat.eq_of_beq_eq_true hb
    omega)
theorem ja_at_mem {A : ja_H} {k n : Nat} {c : J_C} (hc : ja_at A k = some (n, c)) : (k, n, c) ∈ A := by
  induction A with
  | nil => cases hc
  | cons p t ih =>
    obtain ⟨pk, pn, pc⟩ := p
    have e2 : ja_at ((pk, pn, pc) :: t) k = cond (Nat.beq pk k) (some (pn, pc)) (ja_at t k) := rfl
    rw [e2] at hc
    cases hb : Nat.beq pk k with
    | true =>
      rw [hb] at hc
      cases hc
      rw [← Nat.eq_of_beq_eq_true hb]
      exact List.mem_cons_self
    | false =>
      rw [hb] at hc
      exact List.mem_cons_of_mem _ (ih hc)
theorem jz_x {f mx : Nat} {Us As : List Value} {iv : ja_I} {K : ja_I → Option Value → ja_H → Bool} {env : Nat → Int32} {a : Int32} (hc : ja_call f mx (.ref 0 :: Us) jAx iv K = true) (hs : ja_sat env iv) (hU : Us.map (ja_S env) = As) (hK : ∀ iv' r A', ja_sat env iv' → K iv' r A' = true → r.map (ja_S env) = some (.int a)) : j_W jP 8 mx 0 (lv_args 0 (.ref 0 :: As)) [] jH (fun r h' => r = some (.int a) ∧ h'.length = 372 ∧ ∀ k, 359 ≤ k → h'[k]? = jH[k]?) := by
  have w := ja_call_ok hc (h := jH) hs (ja_hk_ok jAx_ok env)
  rw [List.map_cons, hU] at w
  refine w.mono ?_
  rintro r h' ⟨iv', r0, A', b1, b2, b3, b4, rfl⟩
  exact ⟨hK _ _ _ b2 b1, b4.1.trans jH_size.2.1, fun k hk => (b4.2 k (jz_xnone hk)).2⟩
theorem jz_m {f mm : Nat} {Us As : List Value} {iv : ja_I} {K : ja_I → Option Value → ja_H → Bool} {env : Nat → Int32} {a : Int32} (hc : ja_call f mm (.ref 359 :: Us) jAm iv K = true) (hs : ja_sat env iv) (hU : Us.map (ja_S env) = As) (hK : ∀ iv' r A', ja_sat env iv' → K iv' r A' = true → r.map (ja_S env) = some (.int a)) (h : J_H) (hl : h.length = 372) (hh : ∀ k, 359 ≤ k → h[k]? = jH[k]?) : j_W jP 8 mm 0 (lv_args 0 (.ref 359 :: As)) [] h (fun r h' => r = some (.int a) ∧ h'.length = 372) := by
  have hr : ja_rel env jAm h := by
    intro k n c hk
    have h1 := ja_hk_ok jAm_ok env k n c hk
    have h2 := Nat.le_of_ble_eq_true (List.all_eq_true.mp jz_mhigh _ (ja_at_mem hk))
    rw [hh k h2]
    exact h1
  have w := ja_call_ok hc hs hr
  rw [List.map_cons, hU] at w
  refine w.mono ?_
  rintro r h' ⟨iv', r0, A', b1, b2, b3, b4, rfl⟩
  exact ⟨hK _ _ _ b2 b1, b4.1.trans hl⟩
/-- answers by one unknown: breaks, and the answer between them -/
def jz_r (bps : List Int) (x : Int) : Nat := bps.countP fun b => decide (b ≤ x)
theorem jz_r_mono (bps : List Int) {x y : Int} (h : x ≤ y) : jz_r bps x ≤ jz_r bps y := by
  refine List.countP_mono_left fun b _ hb => ?_
  exact decide_eq_true (Int.le_trans (of_decide_eq_true hb) h)
noncomputable def jz_K (p : Nat) (bps : List Int) (tab : List Int32) (iv : ja_I) (r : Option Value) (_ : ja_H) : Bool := match ja_o iv p with
  | some (lo, hi) => Nat.beq (jz_r bps lo) (jz_r bps hi) && decide (r = some (.int (tab.getD (jz_r bps lo) 0)))
  | none => false
theorem jz_K_ok {p : Nat} {bps : List Int} {tab : List Int32} {env : Nat → Int32} (iv' : ja_I) (r : Option Value) (A' : ja_H) (hs : ja_sat env iv') (hK : jz_K p bps tab iv' r A' = true) : r.map (ja_S env) = some (.int (tab.getD (jz_r bps (env p).toInt) 0)) := by
  unfold jz_K at hK
  split at hK
  · rename_i lo hi hp
    obtain ⟨h1, h2⟩ := hs _ _ _ hp
    obtain ⟨k1, k2⟩ := Bool.and_eq_true_iff.mp hK
    have e1 := Nat.eq_of_beq_eq_true k1
    have e2 := of_decide_eq_true k2
    have m1 := jz_r_mono bps h1
    have m2 := jz_r_mono bps h2
    have e3 : jz_r bps (env p).toInt = jz_r bps lo := by omega
    rw [e2, e3]
    rfl
  · cases hK
theorem jz_box {fx fm mx mm : Nat} {Us As : List Value} {iv : ja_I} {p : Nat} {bps : List Int} {tab : List Int32} {env : Nat → Int32} (hx : ja_call fx mx (.ref 0 :: Us) jAx iv (jz_K p bps tab) = true) (hm : ja_call fm mm (.ref 359 :: Us) jAm iv (jz_K p bps tab) = true) (hs : ja_sat env iv) (hU : Us.map (ja_S env) = As) : jz_ok mx mm As :=
  ⟨tab.getD (jz_r bps (env p).toInt) 0, jz_x hx hs hU jz_K_ok, fun h hl hh => jz_m hm hs hU jz_K_ok h hl hh⟩
theorem jz_full (x : Int32) : (-2147483648 : Int) ≤ x.toInt ∧ x.toInt ≤ 2147483647 := ⟨Int32.le_toInt x, by have := Int32.toInt_lt x; omega⟩
theorem jz_sat1 {env : Nat → Int32} {l0 h0 : Int} (a : l0 ≤ (env 0).toInt ∧ (env 0).toInt ≤ h0) : ja_sat env [(l0, h0)] := by
  intro i lo hi hi0
  rw [ja_o_eq] at hi0
  match i with
  | 0 => cases hi0; exact a
  | i + 1 => cases hi0
theorem jz_sat2 {env : Nat → Int32} {l0 h0 l1 h1 : Int} (a : l0 ≤ (env 0).toInt ∧ (env 0).toInt ≤ h0) (b : l1 ≤ (env 1).toInt ∧ (env 1).toInt ≤ h1) : ja_sat env [(l0, h0), (l1, h1)] := by
  intro i lo hi hi0
  rw [ja_o_eq] at hi0
  match i with
  | 0 => cases hi0; exact a
  | 1 => cases hi0; exact b
  | i + 2 => cases hi0
theorem jz_sat3 {env : Nat → Int32} {l0 h0 l1 h1 l2 h2 : Int} (a : l0 ≤ (env 0).toInt ∧ (env 0).toInt ≤ h0) (b : l1 ≤ (env 1).toInt ∧ (env 1).toInt ≤ h1) (c : l2 ≤ (env 2).toInt ∧ (env 2).toInt ≤ h2) : ja_sat env [(l0, h0), (l1, h1), (l2, h2)] := by
  intro i lo hi hi0
  rw [ja_o_eq] at hi0
  match i with
  | 0 => cases hi0; exact a
  | 1 => cases hi0; exact b
  | 2 => cases hi0; exact c
  | i + 3 => cases hi0
def jz_env (a b c : Int32) : Nat → Int32
  | 0 => a
  | 1 => b
  | 2 => c
  | _ => 0
theorem jz_bool (c : Bool) : (0 : Int) ≤ (bif c then (1 : Int32) else 0).toInt ∧ (bif c then (1 : Int32) else 0).toInt ≤ 1 := by cases c <;> decide

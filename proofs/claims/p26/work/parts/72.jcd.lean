/-! JC: contracts; coming back from a call -/
/-- a contract: the method, how deep, its arguments, the state ahead, where it writes, the states behind with the answer -/
abbrev jc_Cn : Type := Nat × Nat × List jc_v × jc_A × jc_W × List (jc_A × Option jc_v)
def jc_Q (E : jc_E) (X : J_H → Prop) (W : jc_W) (outs : List (jc_A × Option jc_v)) (h : J_H) : Option Value → J_H → Prop := fun rv h' => jc_fr W h h' ∧ ∃ o ∈ outs, ∃ r t, jc_g E X r t o.1 h' ∧ jc_an r o.1.1 o.2 rv
def jc_Con (P : j_P) (E : jc_E) (X : J_H → Prop) (c : jc_Cn) : Prop := ∀ (d : Nat), c.2.1 ≤ d → ∀ (r : jc_R) (t : jc_T) (h : J_H) (As : List Value), jc_g E X r t c.2.2.2.1 h → jc_st r c.2.2.2.1.1 c.2.2.1 As → j_W P d c.1 0 (lv_args 0 As) [] h (jc_Q E X c.2.2.2.2.1 c.2.2.2.2.2 h)
def jc_rn (n : Nat) : jc_v → jc_v
  | .inl q => bif Nat.beq q.1 0 then .inl (0, q.2) else .inl (n + q.1, q.2)
  | s => s
def jc_rb (r r2 : jc_R) (n : Nat) : jc_R := fun i => if i < n then r i else r2 (i - n)
theorem jc_rb_ext (r r2 : jc_R) (n : Nat) : jc_ext n r (jc_rb r r2 n) := fun i hi => if_pos hi
theorem jc_rb_at (r r2 : jc_R) (n j : Nat) : jc_rb r r2 n (n + j) = r2 j := by
  unfold jc_rb
  rw [if_neg (by omega), show n + j - n = j by omega]
theorem jc_rn_ok {r r2 : jc_R} {n n2 : Nat} {s : jc_v} {v : Value} (h0 : 0 < n) (hr0 : r 0 = 0) (hr2 : r2 0 = 0) (hv : jc_val r2 n2 s v) : jc_val (jc_rb r r2 n) (n + n2) (jc_rn n s) v := by
  rcases s with q | _ | _ | a
  · obtain ⟨x, rfl, x1, x2⟩ := hv.int
    unfold jc_rn
    dsimp only
    cases hb : Nat.beq q.1 0 with
    | true =>
      refine ⟨by show (0 : Nat) < n + n2; omega, ?_⟩
      show x.toInt = jc_rb r r2 n 0 + q.2
      rw [jc_rb_ext r r2 n 0 h0, hr0, x2, Nat.eq_of_beq_eq_true hb, hr2]
    | false =>
      refine ⟨by show n + q.1 < n + n2; omega, ?_⟩
      show x.toInt = jc_rb r r2 n (n + q.1) + q.2
      rw [jc_rb_at, x2]
  · obtain ⟨x, rfl⟩ := hv.long; trivial
  · cases v <;> first | exact hv.elim | trivial
  · have := hv.ref; subst this; rfl
noncomputable def jc_mapB (n : Nat) (B : jc_B) (K : jc_B) : jc_B := List.rec (motive := fun _ => jc_B) K (fun e _ ih => bif Nat.beq e.1 0 then ih else (n + e.1, e.2) :: ih) B
noncomputable def jc_mapO (n : Nat) (O : List (Nat × jc_v)) (K : List (Nat × jc_v)) : List (Nat × jc_v) := List.rec (motive := fun _ => List (Nat × jc_v)) K (fun e _ ih => (e.1, jc_rn n e.2) :: ih) O
theorem jc_mapO_lk (n k : Nat) (K : List (Nat × jc_v)) : ∀ O : List (Nat × jc_v), jc_lk (jc_mapO n O K) k = (match jc_lk O k with
    | some s => some (jc_rn n s)
    | none => jc_lk K k)
  | [] => rfl
  | e :: O => by
    have ih := jc_mapO_lk n k K O
    show jc_lk ((e.1, jc_rn n e.2) :: jc_mapO n O K) k = _
    rw [jc_lk_cons, jc_lk_cons, ih]
    cases Nat.beq e.1 k <;> rfl
noncomputable def jc_apl (l K : List (Nat × jc_v)) : List (Nat × jc_v) := List.rec (motive := fun _ => List (Nat × jc_v)) K (fun e _ ih => e :: ih) l
theorem jc_apl_lk (k : Nat) (K : List (Nat × jc_v)) : ∀ l : List (Nat × jc_v), jc_lk (jc_apl l K) k = (match jc_lk l k with
    | some s => some s
    | none => jc_lk K k)
  | [] => rfl
  | e :: l => by
    have ih := jc_apl_lk k K l
    show jc_lk (e :: jc_apl l K) k = _
    rw [jc_lk_cons, jc_lk_cons, ih]
    cases Nat.beq e.1 k <;> rfl
noncomputable def jc_kpt (W : jc_W) (O : List (Nat × jc_v)) : List (Nat × jc_v) := jc_flt (fun e => !jc_inW W (Nat.div e.1 8192) (Nat.mod e.1 8192)) O
/-- a tag whose cells a call doesn't write -/
noncomputable def jc_tgW (E : jc_E) (W : jc_W) (g : Nat) : Bool := match ja_n2 E.2.2.2.1 g with
  | some l => jc_all (fun f => match ja_n2 E.2.1 f with
    | some m => jc_all (fun c => !jc_inW W c.1 c.2) m.2.1
    | none => true) l.1 && jc_all (fun p => match ja_n2 E.2.2.1 p with
    | some m => !jc_inW W m.2.1.1 m.2.1.2
    | none => true) l.2
  | none => true
noncomputable def jc_kap (E : jc_E) (A : jc_A) (W : jc_W) (o : jc_A) (g : Nat) : Bool := !jc_off A.2.2.2.2.2 g && (jc_off o.2.2.2.2.2 g && jc_tgW E W g)
noncomputable def jc_ftg (E : jc_E) (f : Nat) : Option Nat := match ja_n2 E.2.1 f with
  | some m => some m.1
  | none => none
noncomputable def jc_ptg (E : jc_E) (p : Nat) : Option Nat := match ja_n2 E.2.2.1 p with
  | some m => some m.1
  | none => none
noncomputable def jc_kpo (E : jc_E) (A : jc_A) (W : jc_W) (o : jc_A) (x : Option Nat) : Bool := match x with
  | some g => jc_kap E A W o g
  | none => false
/-- a family of no potential whose cells a call doesn't write -/
noncomputable def jc_unt (E : jc_E) (A : jc_A) (W : jc_W) (f : Nat) : Bool := match ja_n2 E.2.1 f with
  | some m => !jc_off A.2.2.2.2.2 m.1 && (jc_nil m.2.2.2 && jc_all (fun c => !jc_inW W c.1 c.2) m.2.1)
  | none => false
noncomputable def jc_kf (E : jc_E) (A : jc_A) (W : jc_W) (o : jc_A) (f : Nat) : Bool := jc_kpo E A W o (jc_ftg E f) || jc_unt E A W f
noncomputable def jc_back (E : jc_E) (A : jc_A) (W : jc_W) (o : jc_A) : jc_A := (A.1 + o.1, jc_mapB A.1 o.2.1 A.2.1, jc_apl (jc_kpt W A.2.2.1) (jc_mapO A.1 o.2.2.1 []), jc_flt (fun e => jc_kf E A W o e.1) A.2.2.2.1, jc_flt (fun e => jc_kpo E A W o (jc_ptg E e.1)) A.2.2.2.2.1, jc_flt (fun g => !jc_kap E A W o g) o.2.2.2.2.2)
theorem jc_off_flt {p : Nat → Bool} (g : Nat) : ∀ O : List Nat, jc_off (jc_flt p O) g = (jc_off O g && p g)
  | [] => rfl
  | x :: O => by
    have ih := jc_off_flt (p := p) g O
    have e1 : jc_flt p (x :: O) = cond (p x) (x :: jc_flt p O) (jc_flt p O) := rfl
    have e2 : ∀ (y : Nat) (l : List Nat), jc_off (y :: l) g = (Nat.beq g y || jc_off l g) := fun y l => by
      unfold jc_off
      rw [List.any_cons]
    rw [e1, e2]
    cases hb : Nat.beq g x with
    | true =>
      rw [← Nat.eq_of_beq_eq_true hb]
      cases hp : p g with
      | true => rw [cond_true, e2, Nat.beq_refl, Bool.true_or, Bool.true_or]; rfl
      | false => rw [cond_false, ih, hp, Bool.and_false, Bool.and_false]
    | false =>
      rw [Bool.false_or]
      cases hp : p x with
      | true => rw [cond_true, e2, hb, Bool.false_or, ih]
      | false => rw [cond_false, ih]
section JCD
variable {E : jc_E} {X : J_H → Prop} {r r2 : jc_R} {t t2 : jc_T} {A o : jc_A} {h h2 : J_H} {W : jc_W}
theorem jc_tgW_F (hE : jc_Ok E) {f : Nat} {m : jc_Fa} (hj : jc_tgW E W m.1 = true) (hm : ja_n2 E.2.1 f = some m) : ∀ c ∈ m.2.1, jc_inW W c.1 c.2 = false := by
  obtain ⟨l, l1, l2⟩ := hE.2.2.2.2.1 f m hm
  unfold jc_tgW at hj
  rw [l1] at hj
  have := jc_all_ok (Bool.and_eq_true_iff.mp hj).1 f l2
  rw [hm] at this
  intro c hc
  simpa using jc_all_ok this c hc
theorem jc_tgW_P (hE : jc_Ok E) {p : Nat} {m : jc_Po} (hj : jc_tgW E W m.1 = true) (hm : ja_n2 E.2.2.1 p = some m) : jc_inW W m.2.1.1 m.2.1.2 = false := by
  obtain ⟨l, l1, l2⟩ := hE.2.2.2.2.2.1 p m hm
  unfold jc_tgW at hj
  rw [l1] at hj
  have := jc_all_ok (Bool.and_eq_true_iff.mp hj).2 p l2
  rw [hm] at this
  simpa using this
theorem jc_back_ok (hE : jc_Ok E) (hg : jc_g E X r t A h) (h2g : jc_g E X r2 t2 o h2) (hoF : o.2.2.2.1 = []) (hoQ : o.2.2.2.2.1 = []) (hf : jc_fr W h h2) : jc_g E X (jc_rb r r2 A.1) (fun f => if jc_kf E A W o f = true then t f else t2 f) (jc_back E A W o) h2 := by
  obtain ⟨g1, g2, g3, g4, g5⟩ := hg
  obtain ⟨k1, k2, k3, k4, k5⟩ := h2g
  refine ⟨?_, fun a d hd => ?_, fun f m hm ho => ?_, fun p m hm ho => ?_, k5⟩
  · refine ⟨by rw [jc_rb_ext r r2 A.1 0 g1.2.1]; exact g1.1, by show 0 < A.1 + o.1; have := g1.2.1; omega, ?_⟩
    have : ∀ l : jc_B, (∀ e ∈ l, e.1 < o.1 ∧ e.2.1 ≤ r2 e.1 ∧ r2 e.1 ≤ e.2.2) → ∀ e ∈ jc_mapB A.1 l A.2.1, e.1 < A.1 + o.1 ∧ e.2.1 ≤ jc_rb r r2 A.1 e.1 ∧ jc_rb r r2 A.1 e.1 ≤ e.2.2 := by
      intro l
      induction l with
      | nil =>
        intro _ e he
        obtain ⟨e1, e2⟩ := g1.2.2 e he
        rw [jc_rb_ext r r2 A.1 _ e1]
        exact ⟨by omega, e2⟩
      | cons x l ih =>
        intro hl e he
        have he : e ∈ (bif Nat.beq x.1 0 then jc_mapB A.1 l A.2.1 else (A.1 + x.1, x.2) :: jc_mapB A.1 l A.2.1) := he
        cases hb : Nat.beq x.1 0 with
        | true =>
          rw [hb] at he
          exact ih (fun y hy => hl y (List.mem_cons_of_mem _ hy)) e he
        | false =>
          rw [hb, cond_false] at he
          rcases List.mem_cons.mp he with rfl | he
          · obtain ⟨a1, a2⟩ := hl x List.mem_cons_self
            dsimp only
            rw [jc_rb_at]
            exact ⟨by omega, a2⟩
          · exact ih (fun y hy => hl y (List.mem_cons_of_mem _ hy)) e he
    exact this _ k1.2.2
  · obtain ⟨c, c1, c2, c3⟩ := k2 a d hd
    refine ⟨c, c1, c2, fun i v hv => ?_⟩
    have h3 := c3 i v hv
    unfold jc_cl at h3 ⊢
    show match jc_lk (jc_apl (jc_kpt W A.2.2.1) (jc_mapO A.1 o.2.2.1 [])) (jc_key a i) with
      | some s => jc_val (jc_rb r r2 A.1) (A.1 + o.1) s v
      | none => ∀ T, jc_sg d.2 i = some T → jc_tv T.1 v
    have hi8 : i < 8192 := by
      have := jc_get_lt hv
      rw [c2] at this
      exact Nat.lt_of_lt_of_le this (hE.1 a d hd)
    have e1 : Nat.div (jc_key a i) 8192 = a := by
      show jc_key a i / 8192 = a
      unfold jc_key
      omega
    have e2 : Nat.mod (jc_key a i) 8192 = i := by
      show jc_key a i % 8192 = i
      unfold jc_key
      omega
    have hk : jc_lk (jc_kpt W A.2.2.1) (jc_key a i) = bif !jc_inW W a i then jc_lk A.2.2.1 (jc_key a i) else none := by
      unfold jc_kpt
      rw [jc_lk_flt (p := fun k => !jc_inW W (Nat.div k 8192) (Nat.mod k 8192)), e1, e2]
    have hc : match (match jc_lk o.2.2.1 (jc_key a i) with
        | some s => some (jc_rn A.1 s)
        | none => none) with
      | some s => jc_val (jc_rb r r2 A.1) (A.1 + o.1) s v
      | none => ∀ T, jc_sg d.2 i = some T → jc_tv T.1 v := by
      cases ho : jc_lk o.2.2.1 (jc_key a i) with
      | some s =>
        rw [ho] at h3
        exact jc_rn_ok g1.2.1 g1.1 k1.1 h3
      | none =>
        rw [ho] at h3
        exact h3
    rw [jc_apl_lk, jc_mapO_lk, hk]
    cases hw : jc_inW W a i with
    | true => exact hc
    | false =>
      rw [Bool.not_false, cond_true]
      cases hA : jc_lk A.2.2.1 (jc_key a i) with
      | none => exact hc
      | some s =>
        dsimp only
        obtain ⟨c', c1', c2', c3'⟩ := g2 a d hd
        have hat := hf a i hw
        rw [jc_at_of c1, jc_at_of c1', hv] at hat
        have := c3' i v hat.symm
        unfold jc_cl at this
        rw [hA] at this
        exact this.up (jc_rb_ext r r2 A.1) (by omega)
  · have ho : jc_off (jc_flt (fun g => !jc_kap E A W o g) o.2.2.2.2.2) m.1 = false := ho
    rw [jc_off_flt] at ho
    have hft : jc_ftg E f = some m.1 := by unfold jc_ftg; rw [hm]
    have hF : jc_lk (jc_back E A W o).2.2.2.1 f = bif jc_kf E A W o f then jc_lk A.2.2.2.1 f else none := by
      show jc_lk (jc_flt (fun e => jc_kf E A W o e.1) A.2.2.2.1) f = _
      rw [jc_lk_flt (p := fun k => jc_kf E A W o k)]
    unfold jc_fm
    rw [hF]
    dsimp only
    cases hk : jc_kf E A W o f with
    | true =>
      have hq : jc_off A.2.2.2.2.2 m.1 = false ∧ ∀ c ∈ m.2.1, jc_inW W c.1 c.2 = false := by
        rcases Bool.or_eq_true_iff.mp hk with hk | hk
        · rw [hft] at hk
          have hk : jc_kap E A W o m.1 = true := hk
          obtain ⟨q1, q2⟩ := Bool.and_eq_true_iff.mp hk
          obtain ⟨q2, q3⟩ := Bool.and_eq_true_iff.mp q2
          exact ⟨by simpa using q1, jc_tgW_F hE q3 hm⟩
        · unfold jc_unt at hk
          rw [hm] at hk
          obtain ⟨q1, q2⟩ := Bool.and_eq_true_iff.mp hk
          obtain ⟨q2, q3⟩ := Bool.and_eq_true_iff.mp q2
          exact ⟨by simpa using q1, fun c hc => by simpa using jc_all_ok q3 c hc⟩
      have h3 := g3 f m hm hq.1
      unfold jc_fm at h3
      rw [cond_true, if_pos rfl]
      cases hl : jc_lk A.2.2.2.1 f with
      | some e =>
        rw [hl] at h3
        exact ⟨h3.1, h3.2.1, h3.2.2.up (jc_rb_ext r r2 A.1) (Nat.le_add_right _ _)⟩
      | none =>
        rw [hl] at h3
        exact ⟨h3.1, jc_in_eq (fun c hc => hf c.1 c.2 (hq.2 c hc)) h3.2⟩
    | false =>
      have hk2 : jc_kap E A W o m.1 = false := by
        have := (Bool.or_eq_false_iff.mp hk).1
        rw [hft] at this
        exact this
      rw [hk2, Bool.not_false, Bool.and_true] at ho
      rw [cond_false, if_neg (by decide)]
      have := k3 f m hm ho
      unfold jc_fm at this
      rw [hoF] at this
      exact this
  · have ho : jc_off (jc_flt (fun g => !jc_kap E A W o g) o.2.2.2.2.2) m.1 = false := ho
    rw [jc_off_flt] at ho
    have hpt : jc_ptg E p = some m.1 := by unfold jc_ptg; rw [hm]
    have hQ : jc_lk (jc_back E A W o).2.2.2.2.1 p = bif jc_kap E A W o m.1 then jc_lk A.2.2.2.2.1 p else none := by
      show jc_lk (jc_flt (fun e => jc_kpo E A W o (jc_ptg E e.1)) A.2.2.2.2.1) p = _
      rw [jc_lk_flt (p := fun k => jc_kpo E A W o (jc_ptg E k)), hpt]
      rfl
    have hsw : ∀ l : List Nat, (∀ f ∈ l, f ∈ m.2.2.2.2) → jc_sw (fun f => if jc_kf E A W o f = true then t f else t2 f) m.2.2.2.1 l = if jc_kap E A W o m.1 = true then jc_sw t m.2.2.2.1 l else jc_sw t2 m.2.2.2.1 l := by
      intro l
      induction l with
      | nil => intro _; cases jc_kap E A W o m.1 <;> rfl
      | cons f l ih =>
        intro hl
        have ih := ih (fun x hx => hl x (List.mem_cons_of_mem _ hx))
        obtain ⟨mf, m1, m2⟩ := hE.2.2.2.2.2.2 p m hm f (hl f List.mem_cons_self)
        have hft : jc_ftg E f = some m.1 := by unfold jc_ftg; rw [m1]; dsimp only; rw [m2]
        have hun : jc_unt E A W f = false := by
          unfold jc_unt
          rw [m1]
          have hp := hE.2.2.2.1 f mf m1 p m hm (hl f List.mem_cons_self)
          cases hps : mf.2.2.2 with
          | nil => rw [hps] at hp; exact nomatch hp
          | cons x xs => dsimp only; rw [hps]; simp [jc_nil]
        have hkf : jc_kf E A W o f = jc_kap E A W o m.1 := by
          unfold jc_kf
          rw [hun, hft, Bool.or_false]
          rfl
        show jc_w _ (if jc_kf E A W o f = true then t f else t2 f) + jc_sw _ _ l = _
        rw [ih, hkf]
        cases jc_kap E A W o m.1 <;> rfl
    have hsw := hsw m.2.2.2.2 (fun f hf => hf)
    unfold jc_po
    rw [hQ, hsw]
    cases hk : jc_kap E A W o m.1 with
    | true =>
      obtain ⟨q1, q2⟩ := Bool.and_eq_true_iff.mp hk
      obtain ⟨q2, q3⟩ := Bool.and_eq_true_iff.mp q2
      obtain ⟨x, x1, x2⟩ := g4 p m hm (by simpa using q1)
      rw [cond_true, if_pos rfl]
      refine ⟨x, ?_, x2⟩
      cases hl : jc_lk A.2.2.2.2.1 p with
      | some q =>
        rw [hl] at x1
        obtain ⟨y1, y2⟩ := x1
        exact ⟨Nat.lt_of_lt_of_le y1 (Nat.le_add_right _ _), by rw [jc_rb_ext r r2 A.1 _ y1]; exact y2⟩
      | none =>
        rw [hl] at x1
        obtain ⟨y, y1, y2⟩ := x1
        exact ⟨y, by rw [hf _ _ (jc_tgW_P hE q3 hm)]; exact y1, y2⟩
    | false =>
      rw [hk, Bool.not_false, Bool.and_true] at ho
      rw [cond_false, if_neg (by decide)]
      obtain ⟨x, x1, x2⟩ := k4 p m hm ho
      rw [hoQ] at x1
      exact ⟨x, x1, x2⟩
/-- where a call writes, we may -/
noncomputable def jc_sbW (W0 W : jc_W) : Bool := jc_all (fun w => Nat.ble w.2.2 w.2.1 || jc_inWr W w.1 w.2.1 (w.2.2 - 1)) W0
theorem jc_sbW_ok {W0 : jc_W} (hj : jc_sbW W0 W = true) {a i : Nat} (hw : jc_inW W a i = false) : jc_inW W0 a i = false := by
  cases h0 : jc_inW W0 a i with
  | false => rfl
  | true =>
    exfalso
    have : ∀ l : jc_W, jc_inW l a i = true → ∃ w ∈ l, w.1 = a ∧ w.2.1 ≤ i ∧ i < w.2.2 := by
      intro l
      induction l with
      | nil => intro z; cases z
      | cons w l ih =>
        intro z
        have z : ((Nat.beq w.1 a && (Nat.ble w.2.1 i && Nat.ble (i + 1) w.2.2)) || jc_inW l a i) = true := z
        rcases Bool.or_eq_true_iff.mp z with z | z
        · obtain ⟨z1, z2⟩ := Bool.and_eq_true_iff.mp z
          obtain ⟨z2, z3⟩ := Bool.and_eq_true_iff.mp z2
          exact ⟨w, List.mem_cons_self, Nat.eq_of_beq_eq_true z1, Nat.le_of_ble_eq_true z2, Nat.le_of_ble_eq_true z3⟩
        · obtain ⟨w', w1, w2⟩ := ih z
          exact ⟨w', List.mem_cons_of_mem _ w1, w2⟩
    obtain ⟨w, w1, w2, w3, w4⟩ := this _ h0
    have := jc_all_ok hj w w1
    rcases Bool.or_eq_true_iff.mp this with z | z
    · have := Nat.le_of_ble_eq_true z
      omega
    · rw [w2] at z
      rw [jc_inWr_ok w3 (by omega) z] at hw
      cases hw
theorem jc_fr.sb {W0 : jc_W} (hj : jc_sbW W0 W = true) (hf : jc_fr W0 h h2) : jc_fr W h h2 := fun a i hi => hf a i (jc_sbW_ok hj hi)
/-- pairs -/
noncomputable def jc_zip (a : List jc_v) : List jc_v → Option (List (jc_v × jc_v)) := List.rec (motive := fun _ => List jc_v → Option (List (jc_v × jc_v))) (fun b => match b with
  | [] => some []
  | _ :: _ => none) (fun x _ ih b => match b with
  | [] => none
  | y :: b => match ih b with
    | some l => some ((x, y) :: l)
    | none => none) a
theorem jc_zip_ok {r1 : jc_R} {n n1 : Nat} : ∀ {a b : List jc_v} {l : List (jc_v × jc_v)} {st : List Value}, jc_zip a b = some l → jc_st r n b st → (∀ e ∈ l, ∀ v, jc_val r n e.2 v → jc_val r1 n1 e.1 v) → jc_st r1 n1 a st
  | [], [], l, [], hj, _, _ => trivial
  | [], [], l, _ :: _, hj, hs, _ => hs.elim
  | [], _ :: _, l, st, hj, _, _ => by cases hj
  | x :: a, [], l, st, hj, _, _ => by cases hj
  | x :: a, y :: b, l, [], hj, hs, _ => hs.elim
  | x :: a, y :: b, l, v :: st, hj, hs, hl => by
    have hj : (match jc_zip a b with
      | some l => some ((x, y) :: l)
      | none => none) = some l := hj
    split at hj
    · rename_i l' hl'
      cases hj
      exact ⟨hl _ List.mem_cons_self v hs.1, jc_zip_ok hl' hs.2 (fun e he => hl e (List.mem_cons_of_mem _ he))⟩
    · cases hj
theorem jc_st_drop {n : Nat} : ∀ {S : jc_S} {st : List Value} (k : Nat), jc_st r n S st → jc_st r n (S.drop k) (st.drop k)
  | S, st, 0, h => h
  | [], [], k + 1, _ => trivial
  | q :: S, v :: st, k + 1, h => jc_st_drop (S := S) (st := st) k h.2
  | [], v :: st, k + 1, h => h.elim
  | q :: S, [], k + 1, h => h.elim
theorem jc_st_take {n : Nat} : ∀ {S : jc_S} {st : List Value} (k : Nat), jc_st r n S st → jc_st r n (S.take k) (st.take k)
  | S, st, 0, h => by rw [List.take_zero, List.take_zero]; trivial
  | [], [], k + 1, _ => trivial
  | q :: S, v :: st, k + 1, h => ⟨h.1, jc_st_take (S := S) (st := st) k h.2⟩
  | [], v :: st, k + 1, h => h.elim
  | q :: S, [], k + 1, h => h.elim
theorem jc_st_app {n : Nat} : ∀ {S S' : jc_S} {st stJ : List Value}, jc_st r n S st → jc_st r n S' stJ → jc_st r n (S ++ S') (st ++ stJ)
  | [], S', [], stJ, _, h => h
  | q :: S, S', v :: st, stJ, h1, h2 => ⟨h1.1, jc_st_app h1.2 h2⟩
  | [], S', v :: st, stJ, h1, _ => h1.elim
  | q :: S, S', [], stJ, h1, _ => h1.elim
theorem jc_st_rev {n : Nat} : ∀ {S : jc_S} {st : List Value}, jc_st r n S st → jc_st r n S.reverse st.reverse
  | [], [], _ => trivial
  | q :: S, v :: st, h => by
    rw [List.reverse_cons, List.reverse_cons]
    exact jc_st_app (jc_st_rev h.2) ⟨h.1, trivial⟩
  | [], v :: st, h => h.elim
  | q :: S, [], h => h.elim
theorem jc_st_len {n : Nat} : ∀ {S : jc_S} {st : List Value}, jc_st r n S st → st.length = S.length
  | [], [], _ => rfl
  | q :: S, v :: st, h => by rw [List.length_cons, List.length_cons, jc_st_len h.2]
  | [], v :: st, h => h.elim
  | q :: S, [], h => h.elim
/-- the receiver -/
noncomputable def jc_rcv (E : jc_E) (md ci : Nat) (As : List jc_v) : Bool := bif Nat.beq md 2 || Nat.beq md 6 then true else match As with
  | .inr (some (some k)) :: _ => bif Nat.beq md 3 then Nat.beq (jc_dk E k).1 0 && Nat.beq (jc_dk E k).2.1 ci else true
  | _ => false
theorem jc_rcv_ok {md ci : Nat} {As : List jc_v} {as : List Value} (hg : jc_g E X r t A h) (hA : jc_st r A.1 As as) (hj : jc_rcv E md ci As = true) : j_rcv md ci h as = true := by
  unfold jc_rcv at hj
  cases h0 : Nat.beq md 2 || Nat.beq md 6 with
  | true =>
    rcases Bool.or_eq_true_iff.mp h0 with e | e <;> rw [Nat.eq_of_beq_eq_true e]
    · rfl
    · rfl
  | false =>
    rw [h0, cond_false] at hj
    obtain ⟨h2, h6⟩ := Bool.or_eq_false_iff.mp h0
    split at hj
    · rename_i k l
      obtain ⟨v, st, rfl, a1, -⟩ := jc_st_cons hA
      have := a1.ref; subst this
      cases h3 : Nat.beq md 3 with
      | true =>
        rw [h3, cond_true] at hj
        obtain ⟨k1, k2⟩ := Bool.and_eq_true_iff.mp hj
        obtain ⟨k3, k4⟩ := jc_dk_eq k1 (by decide)
        obtain ⟨c, c1, c2⟩ := jc_dk_ok hg k3
        rw [k4] at c2
        obtain ⟨fs, rfl, -⟩ := jc_sh0 c2
        rw [Nat.eq_of_beq_eq_true h3]
        simp only [j_rcv, c1]
        exact decide_eq_true (Nat.eq_of_beq_eq_true k2)
      | false =>
        have n2 := jb_ne h2
        have n6 := jb_ne h6
        have n3 := jb_ne h3
        unfold j_rcv
        split
        · rfl
        · rfl
        · exact absurd rfl n3
        · rfl
        · rename_i hn
          first | exact (hn _ _ rfl).elim | simp_all
    · cases hj
noncomputable def jc_spk (E : jc_E) (md : Nat) (N : ja_M) (S : jc_S) : Bool := Nat.ble (j_nar md N.2.2.1) S.length && (Nat.ble (jc_wd (S.drop (j_nar md N.2.2.1))) 8 && (Nat.ble (jc_wd (S.take (j_nar md N.2.2.1))) N.1 && jc_rcv E md N.2.2.2 (S.take (j_nar md N.2.2.1)).reverse))
theorem jc_spk_ok {md : Nat} {N : j_M} {S : jc_S} {st : List Value} (hg : jc_g E X r t A h) (hS : jc_st r A.1 S st) (hj : jc_spk E md (ja_ab N) S = true) : j_spl md N h st = some ((st.take (j_nar md (j_np N))).reverse, st.drop (j_nar md (j_np N))) ∧ jc_st r A.1 (S.take (j_nar md (j_np N))).reverse (st.take (j_nar md (j_np N))).reverse ∧ jc_st r A.1 (S.drop (j_nar md (j_np N))) (st.drop (j_nar md (j_np N))) := by
  obtain ⟨b1, hj⟩ := Bool.and_eq_true_iff.mp hj
  obtain ⟨b2, hj⟩ := Bool.and_eq_true_iff.mp hj
  obtain ⟨b3, b4⟩ := Bool.and_eq_true_iff.mp hj
  have hd := jc_st_drop (j_nar md (j_np N)) hS
  have ht := jc_st_take (j_nar md (j_np N)) hS
  have hv := jc_st_rev ht
  have hlg : (lg_sl (st.take (j_nar md (j_np N))).reverse).length ≤ j_nL N := by
    refine Nat.le_trans (jb_lgsl _) ?_
    rw [jb_cats_rev, jc_wd_ok ht]
    exact Nat.le_of_ble_eq_true b3
  refine ⟨?_, hv, hd⟩
  unfold j_spl
  rw [if_pos ⟨by rw [jc_st_len hS]; exact Nat.le_of_ble_eq_true b1, by rw [jc_wd_ok hd]; exact Nat.le_of_ble_eq_true b2, hlg, jc_rcv_ok hg hv b4⟩]
/-- the arguments as locals -/
noncomputable def jc_ags (l : List jc_v) : Nat → jc_L := List.rec (motive := fun _ => Nat → jc_L) (fun _ => []) (fun s _ ih i => (i, s) :: ih (bif jc_isL s then i + 2 else i + 1)) l
theorem jc_ags_low : ∀ {l : List jc_v} {i : Nat} {q : Nat × jc_v}, q ∈ jc_ags l i → i ≤ q.1
  | [], i, q, h => nomatch h
  | s :: l, i, q, h => by
    have h : q ∈ (i, s) :: jc_ags l (bif jc_isL s then i + 2 else i + 1) := h
    rcases List.mem_cons.mp h with rfl | h
    · exact Nat.le_refl _
    · have h1 := jc_ags_low h
      cases ht : jc_isL s with
      | true => rw [ht, cond_true] at h1; omega
      | false => rw [ht, cond_false] at h1; omega
theorem jc_ags_ok {n : Nat} : ∀ {l : List jc_v} {as : List Value} {i : Nat}, jc_st r n l as → jc_lv r n (jc_ags l i) (lv_args i as)
  | [], [], i, _ => fun q hq => nomatch hq
  | s :: l, v :: as, i, h => by
    have hc := jc_cat h.1
    have e : lv_args i (v :: as) = (i, v) :: lv_args (bif jc_isL s then i + 2 else i + 1) as := by
      simp only [lv_args, hc]
      cases jc_isL s <;> rfl
    rw [e]
    intro q hq
    have hq : q ∈ (i, s) :: jc_ags l (bif jc_isL s then i + 2 else i + 1) := hq
    rcases List.mem_cons.mp hq with rfl | hq
    · exact ⟨v, by unfold j_ld; rw [if_pos rfl], h.1⟩
    · obtain ⟨w, w1, w2⟩ := jc_ags_ok h.2 q hq
      have hlow := jc_ags_low hq
      refine ⟨w, ?_, w2⟩
      unfold j_ld
      rw [if_neg (fun z => by
        cases ht : jc_isL s with
        | true => rw [ht, cond_true] at hlow; omega
        | false => rw [ht, cond_false] at hlow; omega)]
      exact w1
  | [], v :: as, i, h => h.elim
  | s :: l, [], i, h => h.elim
end JCD

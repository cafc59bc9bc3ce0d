/-! JC: families close, potentials hold; Hn says of a family by whose rows it closes (and that it then weighs nothing) -/
noncomputable def jc_any {α : Type} (p : α → Bool) (l : List α) : Bool := List.rec (motive := fun _ => Bool) false (fun x _ ih => p x || ih) l
theorem jc_any_ok {α : Type} {p : α → Bool} : ∀ {l : List α}, jc_any p l = true → ∃ x ∈ l, p x = true
  | [], h => by cases h
  | y :: l, hj => by
    have hj : (p y || jc_any p l) = true := hj
    rcases Bool.or_eq_true_iff.mp hj with h | h
    · exact ⟨y, List.mem_cons_self, h⟩
    · obtain ⟨x, x1, x2⟩ := jc_any_ok h
      exact ⟨x, List.mem_cons_of_mem _ x1, x2⟩
noncomputable def jc_inl (x : Nat) (l : List Nat) : Bool := jc_any (fun y => Nat.beq x y) l
theorem jc_inl_ok {x : Nat} {l : List Nat} (h : jc_inl x l = true) : x ∈ l := by
  obtain ⟨y, y1, y2⟩ := jc_any_ok h
  rw [Nat.eq_of_beq_eq_true y2]
  exact y1
theorem jc_inl_no {x : Nat} : ∀ {l : List Nat}, jc_inl x l = false → x ∉ l
  | [], _, h => nomatch h
  | y :: l, hj, h => by
    have hj : (Nat.beq x y || jc_inl x l) = false := hj
    obtain ⟨h1, h2⟩ := Bool.or_eq_false_iff.mp hj
    rcases List.mem_cons.mp h with rfl | h
    · rw [Nat.beq_refl] at h1; cases h1
    · exact jc_inl_no h2 h
noncomputable def jc_nd (l : List Nat) : Bool := List.rec (motive := fun _ => Bool) true (fun x l ih => !jc_inl x l && ih) l
theorem jc_sw_app (t : jc_T) (k : Nat) : ∀ a b : List Nat, jc_sw t k (a ++ b) = jc_sw t k a + jc_sw t k b
  | [], b => by show jc_sw t k b = 0 + jc_sw t k b; omega
  | x :: a, b => by
    show jc_w k (t x) + jc_sw t k (a ++ b) = jc_w k (t x) + jc_sw t k a + jc_sw t k b
    rw [jc_sw_app t k a b]
    omega
theorem jc_sw_pos (t : jc_T) (k : Nat) : ∀ a : List Nat, 0 ≤ jc_sw t k a
  | [] => Int.le_refl _
  | x :: a => Int.add_nonneg (jc_w_pos _ _) (jc_sw_pos t k a)
theorem jc_sw_nd (t : jc_T) (k : Nat) : ∀ {L F : List Nat}, jc_nd L = true → (∀ x ∈ L, x ∈ F) → jc_sw t k L ≤ jc_sw t k F
  | [], F, _, _ => jc_sw_pos t k F
  | g :: L, F, hn, hs => by
    have hn : (!jc_inl g L && jc_nd L) = true := hn
    obtain ⟨h1, h2⟩ := Bool.and_eq_true_iff.mp hn
    have h1 := jc_inl_no (by simpa using h1)
    obtain ⟨a, b, rfl⟩ := List.append_of_mem (hs g List.mem_cons_self)
    have ih := jc_sw_nd t k (L := L) (F := a ++ b) h2 (fun x hx => by
      have := hs x (List.mem_cons_of_mem _ hx)
      rcases List.mem_append.mp this with h | h
      · exact List.mem_append.mpr (Or.inl h)
      · rcases List.mem_cons.mp h with h | h
        · subst h; exact absurd hx h1
        · exact List.mem_append.mpr (Or.inr h))
    rw [jc_sw_app] at ih ⊢
    show jc_w k (t g) + jc_sw t k L ≤ jc_sw t k a + (jc_w k (t g) + jc_sw t k b)
    omega
abbrev jc_Hn : Type := List (Nat × (Nat × Bool))
noncomputable def jc_hn (Hn : jc_Hn) (f : Nat) : Nat × Bool := match jc_lk Hn f with
  | some z => z
  | none => (f, false)
/-- a family keeps its row -/
noncomputable def jc_kp (E : jc_E) (Hn : jc_Hn) (A T : jc_A) (f : Nat) : Bool := match ja_n2 E.2.1 f with
  | none => true
  | some m => bif jc_off T.2.2.2.2.2 m.1 then true else bif jc_off A.2.2.2.2.2 m.1 then false else match jc_lk A.2.2.2.1 f with
    | none => true
    | some e => match jc_lk Hn f with
      | some _ => false
      | none => match jc_cnt A m.2.1 with
        | some cs => jc_geq cs e.2
        | none => false
/-- whose weight it takes -/
noncomputable def jc_ch (E : jc_E) (Hn : jc_Hn) (A T : jc_A) (f : Nat) : Option Nat := bif jc_kp E Hn A T f then some f else bif (jc_hn Hn f).2 then none else match jc_lk A.2.2.2.1 (jc_hn Hn f).1 with
  | some _ => some (jc_hn Hn f).1
  | none => none
/-- the family to which what a potential's cell grew by is put down -/
noncomputable def jc_fs (E : jc_E) (Hn : jc_Hn) (A T : jc_A) (fs : List Nat) : Option Nat := List.rec (motive := fun _ => Option Nat) none (fun f _ ih => bif jc_kp E Hn A T f then ih else match jc_ch E Hn A T f with
  | some _ => some f
  | none => ih) fs
/-- by how much it grew at most -/
noncomputable def jc_Dp (A : jc_A) (p : Nat) (c : Nat × Nat) : Option Int := match jc_lk A.2.2.2.2.1 p with
  | none => some 0
  | some q => match jc_lk A.2.2.1 (jc_key c.1 c.2) with
    | some (.inl q') => bif Nat.beq q'.1 q.1 then some (q'.2 - q.2) else (match jc_bd A.2.1 q', jc_bd A.2.1 q with
      | some b', some b => some (b'.2 - b.1)
      | _, _ => none)
    | _ => none
noncomputable def jc_dl (E : jc_E) (Hn : jc_Hn) (A T : jc_A) (p : Nat) (mp : jc_Po) (f : Nat) : Int := match jc_fs E Hn A T mp.2.2.2.2 with
  | some g => bif Nat.beq g f then (match jc_Dp A p mp.2.1 with
    | some d => jc_mx d 0
    | none => 0) else 0
  | none => 0
/-- weights -/
noncomputable def jc_wt1 (E : jc_E) (Hn : jc_Hn) (A T : jc_A) (f : Nat) (τ τ' : List (Int × Int)) (p : Nat) : Bool := match ja_n2 E.2.2.1 p with
  | none => true
  | some mp => bif jc_off T.2.2.2.2.2 mp.1 then true else bif jc_off A.2.2.2.2.2 mp.1 then (match jc_lk A.2.2.1 (jc_key mp.2.1.1 mp.2.1.2) with
    | some (.inl q) => (match jc_bd A.2.1 q with
      | some b => jc_le (b.2 + mp.2.2.2.2.length * jc_w mp.2.2.2.1 τ') mp.2.2.1
      | none => false)
    | _ => false) else match jc_ch E Hn A T f with
    | none => jc_le (jc_w mp.2.2.2.1 τ') 0
    | some _ => jc_le (jc_w mp.2.2.2.1 τ' + jc_dl E Hn A T p mp f) (jc_w mp.2.2.2.1 τ)
/-- by the rows of another family, where no potential asks -/
noncomputable def jc_clg (E : jc_E) (A : jc_A) (m : jc_Fa) (g : Nat) : Bool := match jc_cnt A m.2.1, jc_lk A.2.2.2.1 g, ja_n2 E.2.1 g with
  | some cs, some e, some m' => !jc_off A.2.2.2.2.2 m'.1 && jc_all (fun τ => jc_any (fun τ' => jc_mt A.2.1 e.2 τ cs τ') m.2.2.1) (jc_flt (jc_co (jc_bs A.2.1 e.2)) e.1)
  | _, _, _ => false
noncomputable def jc_clh (E : jc_E) (Hn : jc_Hn) (A T : jc_A) (f : Nat) (m : jc_Fa) : Bool := match jc_cnt A m.2.1 with
  | none => false
  | some cs => match jc_lk A.2.2.2.1 (jc_hn Hn f).1 with
    | some e => (match ja_n2 E.2.1 (jc_hn Hn f).1 with
      | some m' => !jc_off A.2.2.2.2.2 m'.1 && jc_all (fun τ => jc_any (fun τ' => jc_mt A.2.1 e.2 τ cs τ' && jc_all (jc_wt1 E Hn A T f τ τ') m.2.2.2) m.2.2.1) (jc_flt (jc_co (jc_bs A.2.1 e.2)) e.1)
      | none => false)
    | none => jc_any (fun τ' => jc_mt A.2.1 [] [] cs τ' && jc_all (jc_wt1 E Hn A T f [] τ') m.2.2.2) m.2.2.1
noncomputable def jc_clf (E : jc_E) (Hn : jc_Hn) (A T : jc_A) (f : Nat) (m : jc_Fa) : Bool := bif jc_clh E Hn A T f m then true else match m.2.2.2 with
  | [] => jc_any (fun e => jc_clg E A m e.1) A.2.2.2.1
  | _ :: _ => false
/-- potentials -/
noncomputable def jc_chs (E : jc_E) (Hn : jc_Hn) (A T : jc_A) (l : List Nat) : List Nat := List.rec (motive := fun _ => List Nat) [] (fun f _ ih => match jc_ch E Hn A T f with
  | some g => g :: ih
  | none => ih) l
noncomputable def jc_pk (E : jc_E) (Hn : jc_Hn) (A T : jc_A) (p : Nat) : Bool := match ja_n2 E.2.2.1 p with
  | none => true
  | some mp => bif jc_off T.2.2.2.2.2 mp.1 then true else bif jc_off A.2.2.2.2.2 mp.1 then (jc_all (fun f => !jc_kp E Hn A T f) mp.2.2.2.2 && (match jc_lk A.2.2.1 (jc_key mp.2.1.1 mp.2.1.2) with
    | some (.inl q) => (match jc_bd A.2.1 q with
      | some b => jc_le b.2 mp.2.2.1
      | none => false)
    | _ => false)) else match jc_Dp A p mp.2.1 with
    | none => false
    | some d => (jc_le d 0 || (match jc_fs E Hn A T mp.2.2.2.2 with
      | some _ => true
      | none => false)) && (jc_nd (jc_chs E Hn A T mp.2.2.2.2) && jc_all (fun g => jc_inl g mp.2.2.2.2) (jc_chs E Hn A T mp.2.2.2.2))
noncomputable def jc_cff (E : jc_E) (Hn : jc_Hn) (A T : jc_A) (f : Nat) : Bool := match ja_n2 E.2.1 f with
  | none => true
  | some m => bif jc_kp E Hn A T f then true else jc_clf E Hn A T f m && jc_all (jc_pk E Hn A T) m.2.2.2
noncomputable def jc_clo (E : jc_E) (Hn : jc_Hn) (A T : jc_A) : Bool := jc_all (fun e => jc_cff E Hn A T e.1) A.2.2.2.1 && (jc_all (fun e => jc_pk E Hn A T e.1) A.2.2.2.2.1 && jc_all (fun g => bif jc_off T.2.2.2.2.2 g then true else match ja_n2 E.2.2.2.1 g with
  | some l => jc_all (jc_cff E Hn A T) l.1 && jc_all (jc_pk E Hn A T) l.2
  | none => true) A.2.2.2.2.2)
section JCB
variable {E : jc_E} {X : J_H → Prop} {r : jc_R} {t : jc_T} {A T : jc_A} {h : J_H} {Hn : jc_Hn}
theorem jc_off_mem {O : List Nat} {g : Nat} (h : jc_off O g = true) : g ∈ O := by
  unfold jc_off at h
  obtain ⟨x, x1, x2⟩ := List.any_eq_true.mp h
  rw [Nat.eq_of_beq_eq_true x2]
  exact x1
/-- each family keeps its row or is checked -/
theorem jc_clo_F (hE : jc_Ok E) (hj : jc_clo E Hn A T = true) {f : Nat} {m : jc_Fa} (hm : ja_n2 E.2.1 f = some m) (ho : jc_off T.2.2.2.2.2 m.1 = false) (hk : jc_kp E Hn A T f = false) : jc_clf E Hn A T f m = true ∧ ∀ p ∈ m.2.2.2, jc_pk E Hn A T p = true := by
  obtain ⟨h1, h2⟩ := Bool.and_eq_true_iff.mp hj
  obtain ⟨h2, h3⟩ := Bool.and_eq_true_iff.mp h2
  have hc : jc_cff E Hn A T f = true := by
    cases hoA : jc_off A.2.2.2.2.2 m.1 with
    | true =>
      have h4 := jc_all_ok h3 _ (jc_off_mem hoA)
      rw [ho, cond_false] at h4
      obtain ⟨l, l1, l2⟩ := hE.2.2.2.2.1 f m hm
      rw [l1] at h4
      exact jc_all_ok (Bool.and_eq_true_iff.mp h4).1 f l2
    | false =>
      unfold jc_kp at hk
      rw [hm] at hk
      dsimp only at hk
      rw [ho, hoA, cond_false, cond_false] at hk
      cases hF : jc_lk A.2.2.2.1 f with
      | none => rw [hF] at hk; cases hk
      | some e => exact jc_all_ok h1 _ (jc_lk_mem hF)
  unfold jc_cff at hc
  rw [hm] at hc
  dsimp only at hc
  rw [hk, cond_false] at hc
  obtain ⟨c1, c2⟩ := Bool.and_eq_true_iff.mp hc
  exact ⟨c1, fun p hp => jc_all_ok c2 p hp⟩
theorem jc_clo_P (hE : jc_Ok E) (hj : jc_clo E Hn A T = true) {p : Nat} {mp : jc_Po} (hm : ja_n2 E.2.2.1 p = some mp) (ho : jc_off T.2.2.2.2.2 mp.1 = false) : jc_pk E Hn A T p = true ∨ (jc_lk A.2.2.2.2.1 p = none ∧ jc_off A.2.2.2.2.2 mp.1 = false ∧ ∀ f ∈ mp.2.2.2.2, jc_kp E Hn A T f = true) := by
  have hj0 := hj
  obtain ⟨h1, h2⟩ := Bool.and_eq_true_iff.mp hj
  obtain ⟨h2, h3⟩ := Bool.and_eq_true_iff.mp h2
  cases hoA : jc_off A.2.2.2.2.2 mp.1 with
  | true =>
    have h4 := jc_all_ok h3 _ (jc_off_mem hoA)
    rw [ho, cond_false] at h4
    obtain ⟨l, l1, l2⟩ := hE.2.2.2.2.2.1 p mp hm
    rw [l1] at h4
    exact Or.inl (jc_all_ok (Bool.and_eq_true_iff.mp h4).2 p l2)
  | false =>
    cases hQ : jc_lk A.2.2.2.2.1 p with
    | some q => exact Or.inl (jc_all_ok h2 _ (jc_lk_mem hQ))
    | none =>
      by_cases hall : ∀ f ∈ mp.2.2.2.2, jc_kp E Hn A T f = true
      · exact Or.inr ⟨rfl, rfl, hall⟩
      · obtain ⟨f, hf⟩ := Classical.not_forall.mp hall
        obtain ⟨f1, f2⟩ := Classical.not_imp.mp hf
        have f2 : jc_kp E Hn A T f = false := by
          cases hk : jc_kp E Hn A T f with
          | false => rfl
          | true => exact absurd hk f2
        have f3 := f2
        unfold jc_kp at f3
        cases hm2 : ja_n2 E.2.1 f with
        | none => rw [hm2] at f3; cases f3
        | some m =>
          rw [hm2] at f3
          dsimp only at f3
          cases hoT : jc_off T.2.2.2.2.2 m.1 with
          | true => rw [hoT] at f3; cases f3
          | false => exact Or.inl ((jc_clo_F hE hj0 hm2 hoT f2).2 p (hE.2.2.2.1 f m hm2 p mp hm f1))
/-- the row by which it was closed -/
noncomputable def jc_sr (t : jc_T) (A : jc_A) (Hn : jc_Hn) (f : Nat) : List (Int × Int) := match jc_lk A.2.2.2.1 (jc_hn Hn f).1 with
  | some _ => t (jc_hn Hn f).1
  | none => []
theorem jc_clh_ok {m : jc_Fa} {f : Nat} (hE : jc_Ok E) (hB : jc_gB r A.1 A.2.1) (hC : jc_gC E r A h) (hF : jc_gF E r t A h) (hm : ja_n2 E.2.1 f = some m) (hj : jc_clh E Hn A T f m = true) : ∃ τ' ∈ m.2.2.1, jc_in h m.2.1 τ' ∧ ∀ p ∈ m.2.2.2, jc_wt1 E Hn A T f (jc_sr t A Hn f) τ' p = true := by
  unfold jc_clh at hj
  unfold jc_sr
  split at hj
  · cases hj
  · rename_i cs hcs
    have hgv := jc_cnt_ok hC (fun c hc => by
      obtain ⟨d, g, d1, d2, -⟩ := hE.2.1 f m hm c hc
      exact ⟨d, d1, d2⟩) hcs
    split at hj
    · rename_i e he
      split at hj
      · rename_i m' hm'
        obtain ⟨j1, j2⟩ := Bool.and_eq_true_iff.mp hj
        have h3 := hF _ m' hm' (by simpa using j1)
        unfold jc_fm at h3
        rw [he] at h3
        obtain ⟨h3, -, h4⟩ := h3
        obtain ⟨τ', a1, a2⟩ := jc_any_ok (jc_all_ok j2 _ (jc_flt_mem h3 (jc_co_ok hB h4)))
        obtain ⟨a2, a3⟩ := Bool.and_eq_true_iff.mp a2
        exact ⟨τ', a1, jc_mt_ok hB h4 hgv a2, fun p hp => jc_all_ok a3 p hp⟩
      · cases hj
    · rename_i he
      obtain ⟨τ', a1, a2⟩ := jc_any_ok hj
      obtain ⟨a2, a3⟩ := Bool.and_eq_true_iff.mp a2
      exact ⟨τ', a1, jc_mt_ok (n := A.1) (gs := []) (τ := []) hB trivial hgv a2, fun p hp => jc_all_ok a3 p hp⟩
theorem jc_clf_ok {m : jc_Fa} {f : Nat} (hE : jc_Ok E) (hB : jc_gB r A.1 A.2.1) (hC : jc_gC E r A h) (hF : jc_gF E r t A h) (hm : ja_n2 E.2.1 f = some m) (hj : jc_clf E Hn A T f m = true) : ∃ τ' ∈ m.2.2.1, jc_in h m.2.1 τ' ∧ ∀ p ∈ m.2.2.2, jc_wt1 E Hn A T f (jc_sr t A Hn f) τ' p = true := by
  unfold jc_clf at hj
  cases hh : jc_clh E Hn A T f m with
  | true => exact jc_clh_ok hE hB hC hF hm hh
  | false =>
    rw [hh, cond_false] at hj
    split at hj
    · rename_i hp
      obtain ⟨e, -, he⟩ := jc_any_ok hj
      unfold jc_clg at he
      split at he
      · rename_i cs e2 m' hcs he2 hm'
        obtain ⟨j1, j2⟩ := Bool.and_eq_true_iff.mp he
        have h3 := hF _ m' hm' (by simpa using j1)
        unfold jc_fm at h3
        rw [he2] at h3
        obtain ⟨h3, -, h4⟩ := h3
        obtain ⟨τ', a1, a2⟩ := jc_any_ok (jc_all_ok j2 _ (jc_flt_mem h3 (jc_co_ok hB h4)))
        have hgv := jc_cnt_ok hC (fun c hc => by
          obtain ⟨d, g, d1, d2, -⟩ := hE.2.1 f m hm c hc
          exact ⟨d, d1, d2⟩) hcs
        refine ⟨τ', a1, jc_mt_ok hB h4 hgv a2, fun p hp' => ?_⟩
        rw [hp] at hp'
        exact nomatch hp'
      · cases he
    · cases hj
/-- the rows behind -/
def jc_tP (E : jc_E) (Hn : jc_Hn) (A T : jc_A) (t : jc_T) (h : J_H) (f : Nat) (τ' : List (Int × Int)) : Prop := (jc_kp E Hn A T f = true → τ' = t f) ∧ (jc_kp E Hn A T f = false → ∀ m, ja_n2 E.2.1 f = some m → τ' ∈ m.2.2.1 ∧ jc_in h m.2.1 τ' ∧ ∀ p ∈ m.2.2.2, jc_wt1 E Hn A T f (jc_sr t A Hn f) τ' p = true)
theorem jc_tP_ex (hE : jc_Ok E) (hB : jc_gB r A.1 A.2.1) (hC : jc_gC E r A h) (hF : jc_gF E r t A h) (hj : jc_clo E Hn A T = true) : ∃ t' : jc_T, ∀ f, jc_tP E Hn A T t h f (t' f) := by
  have : ∀ f, ∃ τ', jc_tP E Hn A T t h f τ' := by
    intro f
    cases hk : jc_kp E Hn A T f with
    | true => exact ⟨t f, fun _ => rfl, fun z => absurd hk (by rw [z]; decide)⟩
    | false =>
      have hk' := hk
      unfold jc_kp at hk'
      cases hm : ja_n2 E.2.1 f with
      | none => rw [hm] at hk'; cases hk'
      | some m =>
        rw [hm] at hk'
        dsimp only at hk'
        cases hoT : jc_off T.2.2.2.2.2 m.1 with
        | true => rw [hoT] at hk'; cases hk'
        | false =>
          obtain ⟨τ', a1, a2, a3⟩ := jc_clf_ok hE hB hC hF hm (jc_clo_F hE hj hm hoT hk).1
          refine ⟨τ', fun z => absurd hk (by rw [z]; decide), fun _ m' hm' => ?_⟩
          rw [hm] at hm'
          cases hm'
          exact ⟨a1, a2, a3⟩
  exact ⟨fun f => Classical.choose (this f), fun f => Classical.choose_spec (this f)⟩
theorem jc_clo_gF {t' : jc_T} (hE : jc_Ok E) (hC : jc_gC E r A h) (hF : jc_gF E r t A h) (hTF : T.2.2.2.1 = []) (ht : ∀ f, jc_tP E Hn A T t h f (t' f)) {r' : jc_R} : jc_gF E r' t' T h := by
  intro f m hm ho
  unfold jc_fm
  rw [hTF]
  show t' f ∈ m.2.2.1 ∧ jc_in h m.2.1 (t' f)
  cases hk : jc_kp E Hn A T f with
  | false =>
    obtain ⟨a1, a2, -⟩ := (ht f).2 hk m hm
    exact ⟨a1, a2⟩
  | true =>
    rw [(ht f).1 hk]
    unfold jc_kp at hk
    rw [hm] at hk
    dsimp only at hk
    rw [ho, cond_false] at hk
    cases hoA : jc_off A.2.2.2.2.2 m.1 with
    | true => rw [hoA] at hk; cases hk
    | false =>
      rw [hoA, cond_false] at hk
      have h3 := hF f m hm hoA
      unfold jc_fm at h3
      split at h3
      · rename_i e he
        rw [he] at hk
        dsimp only at hk
        obtain ⟨-, h4, h5⟩ := h3
        refine ⟨h4, ?_⟩
        split at hk
        · cases hk
        · split at hk
          · rename_i cs hcs
            have e2 := jc_geq_ok hk
            subst e2
            exact jc_ing_in (jc_cnt_ok hC (fun c hc => by
              obtain ⟨d, g, d1, d2, -⟩ := hE.2.1 f m hm c hc
              exact ⟨d, d1, d2⟩) hcs) h5
          · cases hk
      · exact h3
end JCB

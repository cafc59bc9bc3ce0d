/-! JC: what is read becomes a symbol; families and potentials are opened; a cell is written -/
def jc_Ok (E : jc_E) : Prop := (∀ a d, ja_n2 E.1 a = some d → d.1.2.2 ≤ 8192) ∧ (∀ f m, ja_n2 E.2.1 f = some m → ∀ c ∈ m.2.1, ∃ d g, ja_n2 E.1 c.1 = some d ∧ c.2 < d.1.2.2 ∧ jc_sg d.2 c.2 = some g ∧ f ∈ g.2.1) ∧ (∀ p m, ja_n2 E.2.2.1 p = some m → ∃ d g, ja_n2 E.1 m.2.1.1 = some d ∧ m.2.1.2 < d.1.2.2 ∧ jc_sg d.2 m.2.1.2 = some g ∧ p ∈ g.2.2.1) ∧ (∀ f m, ja_n2 E.2.1 f = some m → ∀ p mp, ja_n2 E.2.2.1 p = some mp → f ∈ mp.2.2.2.2 → p ∈ m.2.2.2) ∧ (∀ f m, ja_n2 E.2.1 f = some m → ∃ l, ja_n2 E.2.2.2.1 m.1 = some l ∧ f ∈ l.1) ∧ (∀ p m, ja_n2 E.2.2.1 p = some m → ∃ l, ja_n2 E.2.2.2.1 m.1 = some l ∧ p ∈ l.2) ∧ (∀ p mp, ja_n2 E.2.2.1 p = some mp → ∀ f ∈ mp.2.2.2.2, ∃ m, ja_n2 E.2.1 f = some m ∧ m.1 = mp.1)
section JC2
variable {E : jc_E} {X : J_H → Prop} {r : jc_R} {t : jc_T} {A : jc_A} {h : J_H}
/-- what a cell holds is told once more -/
theorem jc_g.addO {a i : Nat} {s : jc_v} {v : Value} (hE : jc_Ok E) (hg : jc_g E X r t A h) {d : jc_Dd} (hd : ja_n2 E.1 a = some d) (hi : i < d.1.2.2) (hv : jc_at h a i = some v) (hs : jc_val r A.1 s v) : jc_g E X r t (A.1, A.2.1, (jc_key a i, s) :: A.2.2.1, A.2.2.2) h := by
  obtain ⟨h1, h2, h3, h4, h5⟩ := hg
  refine ⟨h1, fun b e he => ?_, h3, h4, h5⟩
  obtain ⟨c, c1, c2, c3⟩ := h2 b e he
  refine ⟨c, c1, c2, fun j w hw => ?_⟩
  by_cases hk : b = a ∧ j = i
  · obtain ⟨rfl, rfl⟩ := hk
    rw [jc_at_of c1, hw] at hv
    cases hv
    unfold jc_cl
    dsimp only
    rw [jc_lk_self]
    exact hs
  · have hj : j < 8192 := by
      have := jc_get_lt hw
      rw [c2] at this
      exact Nat.lt_of_lt_of_le this (hE.1 b e he)
    have hne := jc_key_ne (a := a) (b := b) (i := i) (j := j) (Nat.lt_of_lt_of_le hi (hE.1 a d hd)) hj (by
      by_cases hb : b = a
      · exact Or.inr (fun z => hk ⟨hb, z⟩)
      · exact Or.inl hb)
    have := c3 j w hw
    unfold jc_cl at this ⊢
    dsimp only
    rw [jc_lk_ne _ _ hne]
    exact this
theorem jc_in_put {a i : Nat} {h h' : J_H} (hn : ∀ b j, (b ≠ a ∨ j ≠ i) → jc_at h' b j = jc_at h b j) : ∀ {cs : List (Nat × Nat)} {qs : List (Int × Int)}, (a, i) ∉ cs → jc_in h cs qs → jc_in h' cs qs
  | [], _, _, _ => trivial
  | c :: cs, q :: qs, hm, hi => by
    refine ⟨?_, jc_in_put hn (fun z => hm (List.mem_cons_of_mem _ z)) hi.2⟩
    rw [hn c.1 c.2 (by
      by_cases hb : c.1 = a
      · exact Or.inr (fun z => hm (by rw [← hb, ← z]; exact List.mem_cons_self))
      · exact Or.inl hb)]
    exact hi.1
  | _ :: _, [], _, hi => hi.elim
/-- a cell is written -/
theorem jc_g.put {a i : Nat} {s : jc_v} {v : Value} {c c' : J_C} (hE : jc_Ok E) (hg : jc_g E X r t A h) {d : jc_Dd} (hd : ja_n2 E.1 a = some d) (hi : i < d.1.2.2) (hc : h[a]? = some c) (hp : jc_pt c i v c') (hs : jc_val r A.1 s v)
    (hF : ∀ f m, ja_n2 E.2.1 f = some m → jc_off A.2.2.2.2.2 m.1 = false → (a, i) ∈ m.2.1 → jc_lk A.2.2.2.1 f ≠ none)
    (hP : ∀ p m, ja_n2 E.2.2.1 p = some m → jc_off A.2.2.2.2.2 m.1 = false → (a, i) = m.2.1 → jc_lk A.2.2.2.2.1 p ≠ none)
    (hX : X (h.set a c')) : jc_g E X r t (A.1, A.2.1, (jc_key a i, s) :: jc_wo A.2.2.1 (jc_key a i), A.2.2.2) (h.set a c') := by
  obtain ⟨h1, h2, h3, h4, h5⟩ := hg
  have hlt := (List.getElem?_eq_some_iff.mp hc).1
  have hn := (jc_at_set hc hp).2
  refine ⟨h1, fun b e he => ?_, fun f m hm ho => ?_, fun p m hm ho => ?_, hX⟩
  · obtain ⟨c0, c1, c2, c3⟩ := h2 b e he
    have hd8 := hE.1 a d hd
    by_cases hb : b = a
    · subst hb
      rw [hd] at he
      cases he
      rw [hc] at c1
      cases c1
      refine ⟨c', List.getElem?_set_self hlt, by rw [hp.1]; exact c2, fun j w hw => ?_⟩
      have hj8 : j < 8192 := by
        have := jc_get_lt hw
        rw [hp.1, c2] at this
        exact Nat.lt_of_lt_of_le this hd8
      unfold jc_cl
      dsimp only
      by_cases hj : j = i
      · subst hj
        rw [jc_lk_self]
        rw [hp.2.1] at hw
        cases hw
        exact hs
      · have hne := jc_key_ne (a := b) (b := b) (i := i) (j := j) (Nat.lt_of_lt_of_le hi hd8) hj8 (Or.inr hj)
        rw [jc_lk_ne _ _ hne, jc_lk_wo hne]
        rw [hp.2.2 j hj] at hw
        exact c3 j w hw
    · refine ⟨c0, by rw [List.getElem?_set_ne (fun z => hb z.symm)]; exact c1, c2, fun j w hw => ?_⟩
      have hj8 : j < 8192 := by
        have := jc_get_lt hw
        rw [c2] at this
        exact Nat.lt_of_lt_of_le this (hE.1 b e he)
      have hne := jc_key_ne (a := a) (b := b) (i := i) (j := j) (Nat.lt_of_lt_of_le hi hd8) hj8 (Or.inl hb)
      unfold jc_cl
      dsimp only
      rw [jc_lk_ne _ _ hne, jc_lk_wo hne]
      exact c3 j w hw
  · have h0 := h3 f m hm ho
    have hF := hF f m hm ho
    unfold jc_fm at h0 ⊢
    dsimp only at h0 ⊢
    split
    · rename_i e he
      rw [he] at h0
      exact h0
    · rename_i he
      rw [he] at h0
      exact ⟨h0.1, jc_in_put hn (fun z => hF z he) h0.2⟩
  · obtain ⟨x, x1, x2⟩ := h4 p m hm ho
    have hP := hP p m hm ho
    refine ⟨x, ?_, x2⟩
    dsimp only
    split
    · rename_i e he
      rw [he] at x1
      exact x1
    · rename_i he
      rw [he] at x1
      obtain ⟨y, y1, y2⟩ := x1
      refine ⟨y, ?_, y2⟩
      rw [hn _ _ (by
        by_cases hb : m.2.1.1 = a
        · exact Or.inr (fun z => hP (by rw [← hb, ← z]) he)
        · exact Or.inl hb)]
      exact y1
/-- what a cell holds -/
noncomputable def jc_mat (E : jc_E) (A : jc_A) (a i : Nat) : Option (jc_v × jc_A) := match ja_n2 E.1 a with
  | none => none
  | some d => bif Nat.ble (i + 1) d.1.2.2 then (match jc_lk A.2.2.1 (jc_key a i) with
    | some s => some (s, A)
    | none => match jc_sg d.2 i with
      | some (some (.inl q), _) => some (.inl (A.1, 0), (A.1 + 1, (A.1, q) :: A.2.1, (jc_key a i, .inl (A.1, 0)) :: A.2.2.1, A.2.2.2))
      | some (some (.inr none), _) => some (.inr none, A)
      | some (some (.inr (some b)), _) => some (.inr (some (some b)), A)
      | _ => none) else none
theorem jc_mat_ok {a i : Nat} {s : jc_v} {A' : jc_A} (hE : jc_Ok E) (hg : jc_g E X r t A h) (hm : jc_mat E A a i = some (s, A')) : ∃ r', jc_ext A.1 r r' ∧ A.1 ≤ A'.1 ∧ jc_g E X r' t A' h ∧ ∃ v, jc_at h a i = some v ∧ jc_val r' A'.1 s v := by
  unfold jc_mat at hm
  split at hm
  · cases hm
  · rename_i d hd
    obtain ⟨c, c1, c2, c3⟩ := hg.2.1 a d hd
    cases hb : Nat.ble (i + 1) d.1.2.2 with
    | false => rw [hb] at hm; cases hm
    | true =>
      rw [hb, cond_true] at hm
      have hi : i < d.1.2.2 := Nat.le_of_ble_eq_true hb
      obtain ⟨v, hv⟩ := jc_get_some (c := c) (i := i) (by rw [c2]; exact hi)
      have hat : jc_at h a i = some v := by rw [jc_at_of c1]; exact hv
      have hcl := c3 i v hv
      unfold jc_cl at hcl
      split at hm
      · rename_i s0 hs0
        cases hm
        rw [hs0] at hcl
        exact ⟨r, jc_ext.rf, Nat.le_refl _, hg, v, hat, hcl⟩
      · rename_i hs0
        rw [hs0] at hcl
        split at hm
        · rename_i q z hq
          cases hm
          have hcl := hcl _ hq
          obtain ⟨x, rfl, hx⟩ : ∃ x : Int32, v = .int x ∧ q.1 ≤ x.toInt ∧ x.toInt ≤ q.2 := by
            cases v <;> first | exact hcl.elim | exact ⟨_, rfl, hcl⟩
          have e := jc_up_ext r A.1 x.toInt
          have hg2 := hg.up (n' := A.1 + 1) e (Nat.le_succ _) (hg.1.up hx)
          have hval : jc_val (jc_up r A.1 x.toInt) (A.1 + 1) (.inl (A.1, 0)) (.int x) := ⟨Nat.lt_succ_self _, by dsimp only; rw [jc_up_at]; omega⟩
          exact ⟨_, e, Nat.le_succ _, hg2.addO hE hd hi hat hval, _, hat, hval⟩
        · rename_i z hq
          cases hm
          have hcl := hcl _ hq
          refine ⟨r, jc_ext.rf, Nat.le_refl _, hg, v, hat, ?_⟩
          cases v <;> first | exact hcl.elim | exact hcl
        · rename_i b z hq
          cases hm
          have hcl := hcl _ hq
          refine ⟨r, jc_ext.rf, Nat.le_refl _, hg, v, hat, ?_⟩
          cases v <;> first | exact hcl.elim | exact hcl
        · cases hm
/-- cells hold these -/
def jc_gv (h : J_H) (r : jc_R) (n : Nat) : List (Nat × Nat) → List (Nat × Int) → Prop
  | [], [] => True
  | c :: cs, g :: gs => (∃ x : Int32, jc_at h c.1 c.2 = some (.int x) ∧ g.1 < n ∧ x.toInt = r g.1 + g.2) ∧ jc_gv h r n cs gs
  | _, _ => False
theorem jc_gv.up {h : J_H} {r r' : jc_R} {n n' : Nat} (e : jc_ext n r r') (hn : n ≤ n') : ∀ {cs : List (Nat × Nat)} {gs : List (Nat × Int)}, jc_gv h r n cs gs → jc_gv h r' n' cs gs
  | [], [], _ => trivial
  | c :: cs, g :: gs, hh => by
    obtain ⟨⟨x, x1, x2, x3⟩, h2⟩ := hh
    exact ⟨⟨x, x1, Nat.lt_of_lt_of_le x2 hn, by rw [e _ x2]; exact x3⟩, jc_gv.up e hn h2⟩
  | [], _ :: _, hh => hh.elim
  | _ :: _, [], hh => hh.elim
theorem jc_gv_ing {h : J_H} {r : jc_R} {n : Nat} : ∀ {cs : List (Nat × Nat)} {gs : List (Nat × Int)} {qs : List (Int × Int)}, jc_gv h r n cs gs → jc_in h cs qs → jc_ing r n gs qs
  | [], [], _, _, _ => trivial
  | c :: cs, g :: gs, q :: qs, hh, hi => by
    obtain ⟨⟨x, x1, x2, x3⟩, h2⟩ := hh
    obtain ⟨⟨y, y1, y2, y3⟩, h4⟩ := hi
    rw [x1] at y1
    cases y1
    exact ⟨⟨x2, by rw [← x3]; exact y2, by rw [← x3]; exact y3⟩, jc_gv_ing h2 h4⟩
  | c :: cs, g :: gs, [], _, hi => hi.elim
  | [], _ :: _, _, hh, _ => hh.elim
  | _ :: _, [], _, hh, _ => hh.elim
noncomputable def jc_mats (E : jc_E) (cs : List (Nat × Nat)) : jc_A → Option (List (Nat × Int) × jc_A) := List.rec (motive := fun _ => jc_A → Option (List (Nat × Int) × jc_A)) (fun A => some ([], A)) (fun c _ ih A => match jc_mat E A c.1 c.2 with
  | some (.inl q, A1) => (match ih A1 with
    | some (l, A2) => some (q :: l, A2)
    | none => none)
  | _ => none) cs
theorem jc_mats_ok (hE : jc_Ok E) : ∀ {cs : List (Nat × Nat)} {r : jc_R} {A A' : jc_A} {gs : List (Nat × Int)}, jc_g E X r t A h → jc_mats E cs A = some (gs, A') → ∃ r', jc_ext A.1 r r' ∧ A.1 ≤ A'.1 ∧ jc_g E X r' t A' h ∧ jc_gv h r' A'.1 cs gs
  | [], r, A, A', gs, hg, hm => by
    cases hm
    exact ⟨r, jc_ext.rf, Nat.le_refl _, hg, trivial⟩
  | c :: cs, r, A, A', gs, hg, hm => by
    have hm : (match jc_mat E A c.1 c.2 with
      | some (.inl q, A1) => (match jc_mats E cs A1 with
        | some (l, A2) => some (q :: l, A2)
        | none => none)
      | _ => none) = some (gs, A') := hm
    split at hm
    · rename_i q A1 h1
      split at hm
      · rename_i l A2 h2
        cases hm
        obtain ⟨r1, e1, n1, g1, v, v1, v2⟩ := jc_mat_ok hE hg h1
        obtain ⟨r2, e2, n2, g2, w⟩ := jc_mats_ok hE g1 h2
        obtain ⟨x, rfl, x1, x2⟩ := v2.int
        exact ⟨r2, e1.tr e2 n1, Nat.le_trans n1 n2, g2, ⟨x, v1, Nat.lt_of_lt_of_le x1 n2, by rw [e2 _ x1]; exact x2⟩, w⟩
      · cases hm
    · cases hm
/-- a family is opened -/
noncomputable def jc_opf (E : jc_E) (A : jc_A) (f : Nat) : Option jc_A := match ja_n2 E.2.1 f with
  | none => some A
  | some m => bif jc_off A.2.2.2.2.2 m.1 then some A else match jc_lk A.2.2.2.1 f with
    | some _ => some A
    | none => match jc_mats E m.2.1 A with
      | some (gs, A1) => (match jc_lk A1.2.2.2.1 f with
        | none => some (A1.1, A1.2.1, A1.2.2.1, (f, m.2.2.1, gs) :: A1.2.2.2.1, A1.2.2.2.2)
        | some _ => none)
      | none => none
theorem jc_opf_ok {f : Nat} {A' : jc_A} (hE : jc_Ok E) (hg : jc_g E X r t A h) (hm : jc_opf E A f = some A') : ∃ r', jc_ext A.1 r r' ∧ A.1 ≤ A'.1 ∧ jc_g E X r' t A' h := by
  unfold jc_opf at hm
  split at hm
  · cases hm
    exact ⟨r, jc_ext.rf, Nat.le_refl _, hg⟩
  · rename_i m hf
    cases ho : jc_off A.2.2.2.2.2 m.1 with
    | true =>
      rw [ho] at hm
      cases hm
      exact ⟨r, jc_ext.rf, Nat.le_refl _, hg⟩
    | false =>
      rw [ho, cond_false] at hm
      split at hm
      · cases hm
        exact ⟨r, jc_ext.rf, Nat.le_refl _, hg⟩
      · split at hm
        · rename_i gs A1 h1
          split at hm
          · rename_i h2
            cases hm
            obtain ⟨r1, e1, n1, ⟨g1, g2, g3, g4, g5⟩, w⟩ := jc_mats_ok hE hg h1
            refine ⟨r1, e1, n1, g1, g2, fun f' m' hm' ho' => ?_, g4, g5⟩
            have h3 := g3 f' m' hm' ho'
            unfold jc_fm at h3 ⊢
            dsimp only
            by_cases hf' : f = f'
            · subst hf'
              rw [h2] at h3
              rw [jc_lk_self]
              rw [hf] at hm'
              cases hm'
              exact ⟨h3.1, h3.1, jc_gv_ing w h3.2⟩
            · rw [jc_lk_ne _ _ hf']
              exact h3
          · cases hm
        · cases hm
/-- a potential is opened -/
noncomputable def jc_opq (E : jc_E) (A : jc_A) (p : Nat) : Option jc_A := match ja_n2 E.2.2.1 p with
  | none => some A
  | some m => bif jc_off A.2.2.2.2.2 m.1 then some A else match jc_lk A.2.2.2.2.1 p with
    | some _ => some A
    | none => match jc_mat E A m.2.1.1 m.2.1.2 with
      | some (.inl q, A1) => (match jc_lk A1.2.2.2.2.1 p with
        | none => some (A1.1, A1.2.1, A1.2.2.1, A1.2.2.2.1, (p, q) :: A1.2.2.2.2.1, A1.2.2.2.2.2)
        | some _ => none)
      | _ => none
theorem jc_opq_ok {p : Nat} {A' : jc_A} (hE : jc_Ok E) (hg : jc_g E X r t A h) (hm : jc_opq E A p = some A') : ∃ r', jc_ext A.1 r r' ∧ A.1 ≤ A'.1 ∧ jc_g E X r' t A' h := by
  unfold jc_opq at hm
  split at hm
  · cases hm
    exact ⟨r, jc_ext.rf, Nat.le_refl _, hg⟩
  · rename_i m hf
    cases ho : jc_off A.2.2.2.2.2 m.1 with
    | true =>
      rw [ho] at hm
      cases hm
      exact ⟨r, jc_ext.rf, Nat.le_refl _, hg⟩
    | false =>
      rw [ho, cond_false] at hm
      split at hm
      · cases hm
        exact ⟨r, jc_ext.rf, Nat.le_refl _, hg⟩
      · split at hm
        · rename_i q A1 h1
          split at hm
          · rename_i h2
            cases hm
            obtain ⟨r1, e1, n1, ⟨g1, g2, g3, g4, g5⟩, v, v1, v2⟩ := jc_mat_ok hE hg h1
            obtain ⟨y, rfl, y1, y2⟩ := v2.int
            refine ⟨r1, e1, n1, g1, g2, g3, fun f' m' hm' ho' => ?_, g5⟩
            obtain ⟨x, x1, x2⟩ := g4 f' m' hm' ho'
            refine ⟨x, ?_, x2⟩
            dsimp only
            by_cases hf' : p = f'
            · subst hf'
              rw [h2] at x1
              rw [jc_lk_self]
              rw [hf] at hm'
              cases hm'
              obtain ⟨z, z1, z2⟩ := x1
              rw [v1] at z1
              cases z1
              exact ⟨y1, by rw [z2]; exact y2⟩
            · rw [jc_lk_ne _ _ hf']
              exact x1
          · cases hm
        · cases hm
/-- one after the other -/
noncomputable def jc_fold (F : jc_A → Nat → Option jc_A) (l : List Nat) : jc_A → Option jc_A := List.rec (motive := fun _ => jc_A → Option jc_A) (fun A => some A) (fun f _ ih A => match F A f with
  | some A1 => ih A1
  | none => none) l
theorem jc_fold_ok {F : jc_A → Nat → Option jc_A} (hF : ∀ {r : jc_R} {A A' : jc_A} {f : Nat}, jc_g E X r t A h → F A f = some A' → ∃ r', jc_ext A.1 r r' ∧ A.1 ≤ A'.1 ∧ jc_g E X r' t A' h) : ∀ {l : List Nat} {r : jc_R} {A A' : jc_A}, jc_g E X r t A h → jc_fold F l A = some A' → ∃ r', jc_ext A.1 r r' ∧ A.1 ≤ A'.1 ∧ jc_g E X r' t A' h
  | [], r, A, A', hg, hm => by
    cases hm
    exact ⟨r, jc_ext.rf, Nat.le_refl _, hg⟩
  | f :: l, r, A, A', hg, hm => by
    have hm : (match F A f with
      | some A1 => jc_fold F l A1
      | none => none) = some A' := hm
    split at hm
    · rename_i A1 h1
      obtain ⟨r1, e1, n1, g1⟩ := hF hg h1
      obtain ⟨r2, e2, n2, g2⟩ := jc_fold_ok hF g1 hm
      exact ⟨r2, e1.tr e2 n1, Nat.le_trans n1 n2, g2⟩
    · cases hm
noncomputable def jc_opn (E : jc_E) (A : jc_A) (g : jc_Sg) : Option jc_A := match jc_fold (jc_opf E) g.2.1 A with
  | some A1 => jc_fold (jc_opq E) g.2.2.1 A1
  | none => none
theorem jc_opn_ok {g : jc_Sg} {A' : jc_A} (hE : jc_Ok E) (hg : jc_g E X r t A h) (hm : jc_opn E A g = some A') : ∃ r', jc_ext A.1 r r' ∧ A.1 ≤ A'.1 ∧ jc_g E X r' t A' h := by
  unfold jc_opn at hm
  split at hm
  · rename_i A1 h1
    obtain ⟨r1, e1, n1, g1⟩ := jc_fold_ok (fun hg hm => jc_opf_ok hE hg hm) hg h1
    obtain ⟨r2, e2, n2, g2⟩ := jc_fold_ok (fun hg hm => jc_opq_ok hE hg hm) g1 hm
    exact ⟨r2, e1.tr e2 n1, Nat.le_trans n1 n2, g2⟩
  · cases hm
noncomputable def jc_opl (E : jc_E) (A : jc_A) (g : jc_Sg) : Option jc_A := match jc_fold (jc_opf E) g.2.2.2 A with
  | some A1 => jc_fold (jc_opq E) g.2.2.1 A1
  | none => none
theorem jc_opl_ok {g : jc_Sg} {A' : jc_A} (hE : jc_Ok E) (hg : jc_g E X r t A h) (hm : jc_opl E A g = some A') : ∃ r', jc_ext A.1 r r' ∧ A.1 ≤ A'.1 ∧ jc_g E X r' t A' h := by
  unfold jc_opl at hm
  split at hm
  · rename_i A1 h1
    obtain ⟨r1, e1, n1, g1⟩ := jc_fold_ok (fun hg hm => jc_opf_ok hE hg hm) hg h1
    obtain ⟨r2, e2, n2, g2⟩ := jc_fold_ok (fun hg hm => jc_opq_ok hE hg hm) g1 hm
    exact ⟨r2, e1.tr e2 n1, Nat.le_trans n1 n2, g2⟩
  · cases hm
end JC2

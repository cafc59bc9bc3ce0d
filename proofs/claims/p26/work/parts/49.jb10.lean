/-! calls by contract, the run of a block, nodes -/
theorem jb_st_vs {G : List Nat} {lv : J_L} : ∀ {S : jb_S} {st : List Value}, jb_st G lv S st → jb_vs G (S.map fun q => q.1) st
  | [], [], _ => trivial
  | q :: S, v :: st, h => ⟨h.1.1, jb_st_vs h.2⟩
  | [], v :: st, h => h.elim
  | q :: S, [], h => h.elim
theorem jb_st_drop {G : List Nat} {lv : J_L} : ∀ {S : jb_S} {st : List Value} (n : Nat), jb_st G lv S st → jb_st G lv (S.drop n) (st.drop n)
  | S, st, 0, h => h
  | [], [], n + 1, _ => trivial
  | q :: S, v :: st, n + 1, h => jb_st_drop (S := S) (st := st) n h.2
  | [], v :: st, n + 1, h => h.elim
  | q :: S, [], n + 1, h => h.elim
theorem jb_st_take {G : List Nat} {lv : J_L} : ∀ {S : jb_S} {st : List Value} (n : Nat), jb_st G lv S st → jb_st G lv (S.take n) (st.take n)
  | S, st, 0, h => by rw [List.take_zero, List.take_zero]; trivial
  | [], [], n + 1, _ => trivial
  | q :: S, v :: st, n + 1, h => ⟨h.1, jb_st_take (S := S) (st := st) n h.2⟩
  | [], v :: st, n + 1, h => h.elim
  | q :: S, [], n + 1, h => h.elim
theorem jb_vs_app {G : List Nat} : ∀ {A B : List jb_V} {a b : List Value}, jb_vs G A a → jb_vs G B b → jb_vs G (A ++ B) (a ++ b)
  | [], B, [], b, _, h => h
  | t :: A, B, v :: a, b, h1, h2 => ⟨h1.1, jb_vs_app h1.2 h2⟩
  | [], B, v :: a, b, h1, _ => h1.elim
  | t :: A, B, [], b, h1, _ => h1.elim
theorem jb_vs_rev {G : List Nat} : ∀ {A : List jb_V} {a : List Value}, jb_vs G A a → jb_vs G A.reverse a.reverse
  | [], [], _ => trivial
  | t :: A, v :: a, h => by
    rw [List.reverse_cons, List.reverse_cons]
    exact jb_vs_app (jb_vs_rev h.2) ⟨h.1, trivial⟩
  | [], v :: a, h => h.elim
  | t :: A, [], h => h.elim
def jb_leV : List jb_V → List jb_V → Bool
  | [], [] => true
  | a :: A, b :: B => jb_le a b && jb_leV A B
  | _, _ => false
theorem jb_leV_ok {G : List Nat} : ∀ {A B : List jb_V} {a : List Value}, jb_leV A B = true → jb_vs G A a → jb_vs G B a
  | [], [], a, _, h => h
  | s :: A, t :: B, [], _, h => h.elim
  | s :: A, t :: B, v :: a, hl, h => by
    obtain ⟨h1, h2⟩ := Bool.and_eq_true_iff.mp hl
    exact ⟨jb_le_ok h1 h.1, jb_leV_ok h2 h.2⟩
  | [], t :: B, a, hl, _ => by cases hl
  | s :: A, [], a, hl, _ => by cases hl
theorem jb_lgsl : ∀ As : List Value, (lg_sl As).length ≤ (As.map fun v => v.category).sum
  | [] => Nat.le_refl _
  | v :: r => by
    have h := jb_lgsl r
    simp only [lg_sl, List.flatMap_cons, List.length_append, List.map_cons, List.sum_cons] at h ⊢
    have hc : (if v.category = 2 then [Slot.val v, Slot.second] else [Slot.val v]).length ≤ v.category := by
      by_cases c : v.category = 2
      · rw [if_pos c, c]; exact Nat.le_refl _
      · rw [if_neg c]
        cases v <;> first | exact Nat.le_refl _ | exact absurd rfl c
    omega
theorem jb_cats_rev (l : List Value) : (l.reverse.map fun v => v.category).sum = (l.map fun v => v.category).sum := by
  rw [List.map_reverse, List.sum_reverse]
/-- the receiver is of the class -/
def jb_rcv (K : jb_Ks) (md ci : Nat) (As : List jb_V) : Bool := match md, As with
  | 2, _ => true
  | 6, _ => true
  | 3, .inr (some (k, false)) :: _ => match K[k]? with
    | some (.inl d) => Nat.beq d.1 ci
    | _ => false
  | _, _ => false
theorem jb_rcv_ok {K : jb_Ks} {G : List Nat} {md ci : Nat} {As : List jb_V} {as : List Value} {h : J_H} (hj : jb_rcv K md ci As = true) (hT : jb_T K G h) (hA : jb_vs G As as) : j_rcv md ci h as = true := by
  unfold jb_rcv at hj
  split at hj
  · rfl
  · rfl
  · rename_i k r
    cases as with
    | nil => exact hA.elim
    | cons v as =>
      obtain ⟨a, rfl, ha⟩ := jb_ref hA.1
      split at hj
      · rename_i d hk
        obtain ⟨fs, e1, -⟩ := hT.obj ha hk
        simp only [j_rcv, e1]
        exact decide_eq_true (Nat.eq_of_beq_eq_true hj)
      · cases hj
  · cases hj
def jb_cal (K : jb_Ks) (md : Nat) (N : ja_M) (c : jb_Cn) (S : jb_S) : Bool :=
  Nat.ble (j_nar md N.2.2.1) S.length && (Nat.ble (jb_w (S.drop (j_nar md N.2.2.1))) 8 && (Nat.ble (jb_w (S.take (j_nar md N.2.2.1))) N.1 && (jb_rcv K md N.2.2.2 ((S.take (j_nar md N.2.2.1)).map fun q => q.1).reverse && jb_leV ((S.take (j_nar md N.2.2.1)).map fun q => q.1).reverse c.2.2.1)))
theorem jb_cal_ok {K : jb_Ks} {G : List Nat} {md : Nat} {N : j_M} {c : jb_Cn} {S : jb_S} {lv : J_L} {st : List Value} {h : J_H} (hj : jb_cal K md (ja_ab N) c S = true) (hT : jb_T K G h) (hS : jb_st G lv S st) : j_spl md N h st = some ((st.take (j_nar md (j_np N))).reverse, st.drop (j_nar md (j_np N))) ∧ jb_vs G c.2.2.1 (st.take (j_nar md (j_np N))).reverse ∧ jb_st G lv (S.drop (j_nar md (j_np N))) (st.drop (j_nar md (j_np N))) := by
  obtain ⟨b1, hj⟩ := Bool.and_eq_true_iff.mp hj
  obtain ⟨b2, hj⟩ := Bool.and_eq_true_iff.mp hj
  obtain ⟨b3, hj⟩ := Bool.and_eq_true_iff.mp hj
  obtain ⟨b4, b5⟩ := Bool.and_eq_true_iff.mp hj
  have hd := jb_st_drop (j_nar md (j_np N)) hS
  have ht := jb_st_take (j_nar md (j_np N)) hS
  have hv := jb_vs_rev (jb_st_vs ht)
  have hlg : (lg_sl (st.take (j_nar md (j_np N))).reverse).length ≤ j_nL N := by
    refine Nat.le_trans (jb_lgsl _) ?_
    rw [jb_cats_rev]
    exact Nat.le_trans (jb_w_ok ht) (Nat.le_of_ble_eq_true b3)
  refine ⟨?_, jb_leV_ok b5 hv, hd⟩
  unfold j_spl
  rw [if_pos ⟨by rw [jb_st_len hS]; exact Nat.le_of_ble_eq_true b1, Nat.le_trans (jb_w_ok hd) (Nat.le_of_ble_eq_true b2), hlg, jb_rcv_ok b4 hT hv⟩]
noncomputable def jb_to (N : jb_N) (cur : Nat) (ih : Nat → jb_L → jb_S → Bool) (pc : Nat) (L : jb_L) (S : jb_S) : Bool := match ja_n2 N pc with
  | some ns => S.isEmpty && ns.any fun n => Nat.ble (n.1 + 1) cur && jb_leL L n.2
  | none => ih pc L S
noncomputable def jb_go (Cs : List jb_Cn) (T : ja_T) (K : jb_Ks) (N : jb_N) (cur : Nat) (R : Option jb_V) (M : ja_M) (C : ja_C) (d : Nat) (ih : Nat → jb_L → jb_S → Bool) : Nat → jb_L → jb_S → Bool := fun pc L S => match ja_n2 C pc with
  | none => false
  | some (ins, fl, cl, ct) =>
    bif Nat.beq (j_kd ins) 9 then jb_ret M.2.1 ins S R
    else bif Nat.beq (j_kd ins) 10 then (match cl with
      | none => false
      | some (md, mj) =>
        bif Nat.beq md 0 then false else bif Nat.beq md 1 then (match jb_acp K S with
          | some S' => jb_to N cur ih (pc + 3) L S'
          | none => false)
        else bif Nat.beq md 7 then (match jb_mm true S with
          | some S' => jb_to N cur ih (pc + 3) L S'
          | none => false)
        else bif Nat.beq md 8 then (match jb_mm false S with
          | some S' => jb_to N cur ih (pc + 3) L S'
          | none => false)
        else match ja_n2 T mj with
          | none => false
          | some (Nm, _) => Cs.any fun c => Nat.beq c.1 mj && (Nat.ble (c.2.1 + 1) d && (jb_cal K md Nm c S && jb_to N cur ih (pc + 3) L ((c.2.2.2.toList.map fun t => (t, none)) ++ S.drop (j_nar md Nm.2.2.1)))))
    else bif Nat.beq (j_kd ins) 4 then (match jb_br ins pc L S with
      | none => false
      | some l => l.all fun q => jb_to N cur ih q.1 q.2.1 q.2.2)
    else match jb_one K fl ct M.1 pc ins L S with
      | some (pcJ, L', S') => jb_to N cur ih pcJ L' S'
      | none => false
noncomputable def jb_run (Cs : List jb_Cn) (T : ja_T) (K : jb_Ks) (N : jb_N) (cur : Nat) (R : Option jb_V) (M : ja_M) (C : ja_C) (d : Nat) (f : Nat) : Nat → jb_L → jb_S → Bool := Nat.rec (motive := fun _ => Nat → jb_L → jb_S → Bool) (fun _ _ _ => false) (fun _ ih => jb_go Cs T K N cur R M C d ih) f
theorem jb_run_ok {P : j_P} {Cs : List jb_Cn} {T : ja_T} {K : jb_Ks} {G : List Nat} {N : jb_N} {R : Option jb_V} {mi d cur : Nat} {M : j_M} {C : ja_C} (hM : j_meth P mi = some M) (hC : ja_Co P mi C) (hT : ∀ mj N' C', ja_n2 T mj = some (N', C') → ∃ M', j_meth P mj = some M' ∧ N' = ja_ab M' ∧ ja_Co P mj C') (hCs : ∀ c ∈ Cs, jb_Con P K G c)
    (hN : ∀ pc ns n, ja_n2 N pc = some ns → n ∈ ns → n.1 < cur → ∀ (h : J_H) (lv : J_L), jb_T K G h → jb_lv G n.2 lv → j_W P d mi pc lv [] h (jb_Q K G R)) :
    ∀ (f pc : Nat) (L : jb_L) (S : jb_S) (lv : J_L) (st : List Value) (h : J_H), jb_run Cs T K N cur R (ja_ab M) C d f pc L S = true → jb_T K G h → jb_lv G L lv → jb_st G lv S st → j_W P d mi pc lv st h (jb_Q K G R) := by
  intro f
  induction f with
  | zero => intro pc L S lv st h hj; cases hj
  | succ f ih =>
    intro pc L S lv st h hj hH hL hS
    have hj : jb_go Cs T K N cur R (ja_ab M) C d (jb_run Cs T K N cur R (ja_ab M) C d f) pc L S = true := hj
    have go : ∀ (pc : Nat) (L : jb_L) (S : jb_S) (lv : J_L) (st : List Value) (h : J_H), jb_to N cur (jb_run Cs T K N cur R (ja_ab M) C d f) pc L S = true → jb_T K G h → jb_lv G L lv → jb_st G lv S st → j_W P d mi pc lv st h (jb_Q K G R) := by
      intro pc L S lv st h hj hH hL hS
      unfold jb_to at hj
      split at hj
      · rename_i ns hns
        obtain ⟨b1, b2⟩ := Bool.and_eq_true_iff.mp hj
        obtain ⟨n, n1, n2⟩ := List.any_eq_true.mp b2
        obtain ⟨n2, n3⟩ := Bool.and_eq_true_iff.mp n2
        have e : S = [] := List.isEmpty_iff.mp b1
        subst e
        cases st with
        | cons v r => exact hS.elim
        | nil => exact hN pc ns n hns n1 (Nat.le_of_ble_eq_true n2) h lv hH (jb_leL_ok n3 hL)
      · exact ih pc L S lv st h hj hH hL hS
    unfold jb_go at hj
    split at hj
    · cases hj
    · rename_i ins fl cl ct hn
      have he := hC _ _ hn
      have hc := ja_e_code he
      cases k9 : Nat.beq (j_kd ins) 9 with
      | true =>
        rw [k9, cond_true] at hj
        obtain ⟨r, r1, r2⟩ := jb_ret_ok hj hS
        exact j_W.ret hM hc (Nat.eq_of_beq_eq_true k9) r1 ⟨hH, r2⟩
      | false =>
        rw [k9, cond_false] at hj
        cases k10 : Nat.beq (j_kd ins) 10 with
        | true =>
          rw [k10, cond_true] at hj
          have hk := Nat.eq_of_beq_eq_true k10
          split at hj
          · cases hj
          · rename_i md mj
            have hi := ja_e_inv he
            cases m0 : Nat.beq md 0 with
            | true => rw [m0, cond_true] at hj; cases hj
            | false =>
              rw [m0, cond_false] at hj
              cases m1 : Nat.beq md 1 with
              | true =>
                rw [m1, cond_true] at hj
                have e1 := Nat.eq_of_beq_eq_true m1
                subst e1
                split at hj
                · rename_i S' ha
                  obtain ⟨stJ, h', a1, a2, a3⟩ := jb_acp_ok ha hH hS
                  exact j_W.acp hM hc hk hi a1 (go _ _ _ _ _ _ hj a2 hL a3)
                · cases hj
              | false =>
                rw [m1, cond_false] at hj
                cases m7 : Nat.beq md 7 with
                | true =>
                  rw [m7, cond_true] at hj
                  have e1 := Nat.eq_of_beq_eq_true m7
                  subst e1
                  split at hj
                  · rename_i S' ha
                    obtain ⟨stJ, a1, a2⟩ := jb_mm_ok ha hS
                    exact j_W.max hM hc hk hi a1 (go _ _ _ _ _ _ hj hH hL a2)
                  · cases hj
                | false =>
                  rw [m7, cond_false] at hj
                  cases m8 : Nat.beq md 8 with
                  | true =>
                    rw [m8, cond_true] at hj
                    have e1 := Nat.eq_of_beq_eq_true m8
                    subst e1
                    split at hj
                    · rename_i S' ha
                      obtain ⟨stJ, a1, a2⟩ := jb_mm_ok ha hS
                      exact j_W.min hM hc hk hi a1 (go _ _ _ _ _ _ hj hH hL a2)
                    · cases hj
                  | false =>
                    rw [m8, cond_false] at hj
                    have hmd : md ≠ 0 ∧ md ≠ 1 ∧ md ≠ 7 ∧ md ≠ 8 := ⟨ja_ne m0, ja_ne m1, ja_ne m7, ja_ne m8⟩
                    split at hj
                    · cases hj
                    · rename_i Nm C' hNm
                      obtain ⟨M', hM', rfl, -⟩ := hT _ _ _ hNm
                      obtain ⟨c, c1, hj⟩ := List.any_eq_true.mp hj
                      obtain ⟨c2, hj⟩ := Bool.and_eq_true_iff.mp hj
                      obtain ⟨c3, hj⟩ := Bool.and_eq_true_iff.mp hj
                      obtain ⟨c4, hj⟩ := Bool.and_eq_true_iff.mp hj
                      have c2 := Nat.eq_of_beq_eq_true c2
                      have c3 := Nat.le_of_ble_eq_true c3
                      obtain ⟨d', rfl⟩ : ∃ d', d = d' + 1 := ⟨d - 1, by omega⟩
                      obtain ⟨s1, s2, s3⟩ := jb_cal_ok c4 hH hS
                      have hw := hCs c c1 d' (by omega) h _ hH s2
                      rw [c2] at hw
                      refine j_W.call hM hc hk hi hmd hM' s1 hw ?_
                      rintro r h' ⟨q1, q2⟩
                      refine go _ _ _ _ _ _ hj q1 hL ?_
                      cases hr : c.2.2.2 with
                      | none =>
                        rw [hr] at q2
                        cases r with
                        | none => exact s3
                        | some v => exact q2.elim
                      | some t =>
                        rw [hr] at q2
                        cases r with
                        | none => exact q2.elim
                        | some v => exact ⟨jb_none q2, s3⟩
        | false =>
          rw [k10, cond_false] at hj
          have hkk : j_kd ins ≠ 9 ∧ j_kd ins ≠ 10 := ⟨ja_ne k9, ja_ne k10⟩
          cases k4 : Nat.beq (j_kd ins) 4 with
          | true =>
            rw [k4, cond_true] at hj
            have hk := Nat.eq_of_beq_eq_true k4
            split at hj
            · cases hj
            · rename_i l hl
              obtain ⟨q, q1, stJ, q2, q3, q4⟩ := jb_br_ok hl hL hS
              have hq := List.all_eq_true.mp hj q q1
              refine j_W.one hM hc hkk (pcJ := q.1) (lv' := lv) (stJ := stJ) (h' := h) ?_ (go _ _ _ _ _ _ hq hH q3 q4)
              unfold j_one
              rw [hk]
              simp only [q2, Option.map_some]
          | false =>
            rw [k4, cond_false] at hj
            split at hj
            · rename_i pcJ L' S' ho
              obtain ⟨lv', stJ, h', a1, a2, a3, a4⟩ := jb_one_ok (isI := j_in M) he hH hL hS ho
              exact j_W.one hM hc hkk a1 (go _ _ _ _ _ _ hj a2 a3 a4)
            · cases hj

/-! JC: branches, the greater and the lesser, constants, answers -/
def jc_pn (a : Int × Int) : Bool := jc_le a.1 a.2 && jc_le a.2 a.1
/-- unlike -/
def jc_nq (v : Bool) (a b : Int × Int) : List ((Int × Int) × (Int × Int) × Bool) := bif jc_pn a || jc_pn b then [((a.1, jc_mn a.2 (b.2 - 1)), (jc_mx b.1 (a.1 + 1), b.2), v), ((jc_mx a.1 (b.1 + 1), a.2), (b.1, jc_mn b.2 (a.2 - 1)), v)] else [(a, b, v)]
theorem jc_nq_ok {v : Bool} {a b : Int × Int} {x y : Int32} (hx : jb_i a x) (hy : jb_i b y) (h : x.toInt ≠ y.toInt) : ∃ q ∈ jc_nq v a b, jb_i q.1 x ∧ jb_i q.2.1 y ∧ q.2.2 = v := by
  unfold jc_nq
  cases jc_pn a || jc_pn b with
  | false => exact ⟨_, List.mem_cons_self, hx, hy, rfl⟩
  | true =>
    obtain ⟨x1, x2⟩ := hx
    obtain ⟨y1, y2⟩ := hy
    by_cases c : x.toInt < y.toInt
    · exact ⟨_, List.mem_cons_self, ⟨x1, jc_mn_ok x2 (by omega)⟩, ⟨jc_mx_ok y1 (by omega), y2⟩, rfl⟩
    · exact ⟨_, List.mem_cons_of_mem _ List.mem_cons_self, ⟨jc_mx_ok x1 (by omega), x2⟩, ⟨y1, jc_mn_ok y2 (by omega)⟩, rfl⟩
def jc_cmp (c : ClassFile.Cond) (a b : Int × Int) : List ((Int × Int) × (Int × Int) × Bool) :=
  match c with
  | .lt => [((a.1, jc_mn a.2 (b.2 - 1)), (jc_mx b.1 (a.1 + 1), b.2), true), ((jc_mx a.1 b.1, a.2), (b.1, jc_mn b.2 a.2), false)]
  | .ge => [((a.1, jc_mn a.2 (b.2 - 1)), (jc_mx b.1 (a.1 + 1), b.2), false), ((jc_mx a.1 b.1, a.2), (b.1, jc_mn b.2 a.2), true)]
  | .gt => [((jc_mx a.1 (b.1 + 1), a.2), (b.1, jc_mn b.2 (a.2 - 1)), true), ((a.1, jc_mn a.2 b.2), (jc_mx b.1 a.1, b.2), false)]
  | .le => [((jc_mx a.1 (b.1 + 1), a.2), (b.1, jc_mn b.2 (a.2 - 1)), false), ((a.1, jc_mn a.2 b.2), (jc_mx b.1 a.1, b.2), true)]
  | .eq => [((jc_mx a.1 b.1, jc_mn a.2 b.2), (jc_mx a.1 b.1, jc_mn a.2 b.2), true)] ++ jc_nq false a b
  | .ne => [((jc_mx a.1 b.1, jc_mn a.2 b.2), (jc_mx a.1 b.1, jc_mn a.2 b.2), false)] ++ jc_nq true a b
theorem jc_cmp_ok {c : ClassFile.Cond} {a b : Int × Int} {x y : Int32} (hx : jb_i a x) (hy : jb_i b y) : ∃ q ∈ jc_cmp c a b, jb_i q.1 x ∧ jb_i q.2.1 y ∧ j_cond c x y = q.2.2 := by
  have hlt : ∀ u v : Int32, decide (u < v) = decide (u.toInt < v.toInt) := fun u v => by rw [decide_eq_decide]; exact Int32.lt_iff_toInt_lt
  have hle : ∀ u v : Int32, decide (u ≤ v) = decide (u.toInt ≤ v.toInt) := fun u v => by rw [decide_eq_decide]; exact Int32.le_iff_toInt_le
  have heq : ∀ u v : Int32, decide (u = v) = decide (u.toInt = v.toInt) := fun u v => by rw [decide_eq_decide]; exact Int32.toInt_inj.symm
  have hx0 := hx
  have hy0 := hy
  have NQ : ∀ v : Bool, x.toInt ≠ y.toInt → ∀ w, ∃ q ∈ w ++ jc_nq v a b, jb_i q.1 x ∧ jb_i q.2.1 y ∧ q.2.2 = v := fun v hne w => by
    obtain ⟨q, q1, q2, q3, q4⟩ := jc_nq_ok (v := v) hx0 hy0 hne
    exact ⟨q, List.mem_append_right _ q1, q2, q3, q4⟩
  obtain ⟨x1, x2⟩ := hx
  obtain ⟨y1, y2⟩ := hy
  have L : x.toInt < y.toInt → jb_i (a.1, jc_mn a.2 (b.2 - 1)) x ∧ jb_i (jc_mx b.1 (a.1 + 1), b.2) y := fun h => ⟨⟨x1, jc_mn_ok x2 (by omega)⟩, ⟨jc_mx_ok y1 (by omega), y2⟩⟩
  have Ge : y.toInt ≤ x.toInt → jb_i (jc_mx a.1 b.1, a.2) x ∧ jb_i (b.1, jc_mn b.2 a.2) y := fun h => ⟨⟨jc_mx_ok x1 (by omega), x2⟩, ⟨y1, jc_mn_ok y2 (by omega)⟩⟩
  have Gt : y.toInt < x.toInt → jb_i (jc_mx a.1 (b.1 + 1), a.2) x ∧ jb_i (b.1, jc_mn b.2 (a.2 - 1)) y := fun h => ⟨⟨jc_mx_ok x1 (by omega), x2⟩, ⟨y1, jc_mn_ok y2 (by omega)⟩⟩
  have Le : x.toInt ≤ y.toInt → jb_i (a.1, jc_mn a.2 b.2) x ∧ jb_i (jc_mx b.1 a.1, b.2) y := fun h => ⟨⟨x1, jc_mn_ok x2 (by omega)⟩, ⟨jc_mx_ok y1 (by omega), y2⟩⟩
  have Eq : x.toInt = y.toInt → jb_i (jc_mx a.1 b.1, jc_mn a.2 b.2) x ∧ jb_i (jc_mx a.1 b.1, jc_mn a.2 b.2) y := fun h => ⟨⟨jc_mx_ok x1 (by omega), jc_mn_ok x2 (by omega)⟩, ⟨jc_mx_ok (by omega) y1, jc_mn_ok (by omega) y2⟩⟩
  rcases Int.lt_trichotomy x.toInt y.toInt with h | h | h
  · cases c
    · obtain ⟨q, q1, q2, q3, q4⟩ := NQ false (by omega) _
      exact ⟨q, q1, q2, q3, by rw [q4]; simp only [j_cond, heq]; simp; omega⟩
    · obtain ⟨q, q1, q2, q3, q4⟩ := NQ true (by omega) _
      exact ⟨q, q1, q2, q3, by rw [q4]; simp only [j_cond, heq]; simp; omega⟩
    · exact ⟨_, List.mem_cons_self, (L h).1, (L h).2, by simp only [j_cond, hlt]; simp; omega⟩
    · exact ⟨_, List.mem_cons_self, (L h).1, (L h).2, by simp only [j_cond, hle]; simp; omega⟩
    · exact ⟨_, List.mem_cons_of_mem _ List.mem_cons_self, (Le (by omega)).1, (Le (by omega)).2, by simp only [j_cond, hlt]; simp; omega⟩
    · exact ⟨_, List.mem_cons_of_mem _ List.mem_cons_self, (Le (by omega)).1, (Le (by omega)).2, by simp only [j_cond, hle]; simp; omega⟩
  · cases c
    · exact ⟨_, List.mem_cons_self, (Eq h).1, (Eq h).2, by simp only [j_cond, heq]; simp; omega⟩
    · exact ⟨_, List.mem_cons_self, (Eq h).1, (Eq h).2, by simp only [j_cond, heq]; simp; omega⟩
    · exact ⟨_, List.mem_cons_of_mem _ List.mem_cons_self, (Ge (by omega)).1, (Ge (by omega)).2, by simp only [j_cond, hlt]; simp; omega⟩
    · exact ⟨_, List.mem_cons_of_mem _ List.mem_cons_self, (Ge (by omega)).1, (Ge (by omega)).2, by simp only [j_cond, hle]; simp; omega⟩
    · exact ⟨_, List.mem_cons_of_mem _ List.mem_cons_self, (Le (by omega)).1, (Le (by omega)).2, by simp only [j_cond, hlt]; simp; omega⟩
    · exact ⟨_, List.mem_cons_of_mem _ List.mem_cons_self, (Le (by omega)).1, (Le (by omega)).2, by simp only [j_cond, hle]; simp; omega⟩
  · cases c
    · obtain ⟨q, q1, q2, q3, q4⟩ := NQ false (by omega) _
      exact ⟨q, q1, q2, q3, by rw [q4]; simp only [j_cond, heq]; simp; omega⟩
    · obtain ⟨q, q1, q2, q3, q4⟩ := NQ true (by omega) _
      exact ⟨q, q1, q2, q3, by rw [q4]; simp only [j_cond, heq]; simp; omega⟩
    · exact ⟨_, List.mem_cons_of_mem _ List.mem_cons_self, (Ge (by omega)).1, (Ge (by omega)).2, by simp only [j_cond, hlt]; simp; omega⟩
    · exact ⟨_, List.mem_cons_of_mem _ List.mem_cons_self, (Ge (by omega)).1, (Ge (by omega)).2, by simp only [j_cond, hle]; simp; omega⟩
    · exact ⟨_, List.mem_cons_self, (Gt h).1, (Gt h).2, by simp only [j_cond, hlt]; simp; omega⟩
    · exact ⟨_, List.mem_cons_self, (Gt h).1, (Gt h).2, by simp only [j_cond, hle]; simp; omega⟩
/-- a comparison of two numbers -/
def jc_cz (c : ClassFile.Cond) (a b : Int) : Bool := match c with
  | .eq => jc_le a b && jc_le b a
  | .ne => !(jc_le a b && jc_le b a)
  | .lt => !jc_le b a
  | .ge => jc_le b a
  | .gt => !jc_le a b
  | .le => jc_le a b
theorem jc_cz_ok {c : ClassFile.Cond} {a b g : Int} {x y : Int32} (hx : x.toInt = g + a) (hy : y.toInt = g + b) : j_cond c x y = jc_cz c a b := by
  have hlt : ∀ u v : Int32, decide (u < v) = decide (u.toInt < v.toInt) := fun u v => by rw [decide_eq_decide]; exact Int32.lt_iff_toInt_lt
  have hle : ∀ u v : Int32, decide (u ≤ v) = decide (u.toInt ≤ v.toInt) := fun u v => by rw [decide_eq_decide]; exact Int32.le_iff_toInt_le
  have heq : ∀ u v : Int32, decide (u = v) = decide (u.toInt = v.toInt) := fun u v => by rw [decide_eq_decide]; exact Int32.toInt_inj.symm
  have e1 : ∀ u v : Int, jc_le u v = decide (u ≤ v) := fun u v => by
    cases h : jc_le u v with
    | true => exact (decide_eq_true (jc_le_t h)).symm
    | false => exact (decide_eq_false (by have := jc_le_f h; omega)).symm
  cases c <;> simp only [j_cond, jc_cz, hlt, hle, heq, hx, hy, e1, ← Bool.decide_and, ← decide_not, decide_eq_decide] <;> omega
section JC8
variable {E : jc_E} {X : J_H → Prop} {r : jc_R} {t : jc_T} {A : jc_A} {h : J_H} {W : jc_W}
noncomputable def jc_br1 (E : jc_E) (A : jc_A) (a b : Nat × Int) (t f : Nat) (K : Nat → jc_A → Bool) (l : List ((Int × Int) × (Int × Int) × Bool)) : Bool := jc_all (fun q => bif jc_le q.1.1 q.1.2 && jc_le q.2.1.1 q.2.1.2 then (match jc_cut E A a q.1 with
  | none => true
  | some A1 => match jc_cut E A1 b q.2.1 with
    | none => true
    | some A2 => K (bif q.2.2 then t else f) A2) else true) l
theorem jc_br1_ok {a b : Nat × Int} {x y : Int32} {tt ff : Nat} {c : ClassFile.Cond} {K : Nat → jc_A → Bool} {ba bb : Int × Int} (hg : jc_g E X r t A h) (hx : jc_val r A.1 (.inl a) (.int x)) (hy : jc_val r A.1 (.inl b) (.int y)) (ha : jc_bd A.2.1 a = some ba) (hb : jc_bd A.2.1 b = some bb) (hj : jc_br1 E A a b tt ff K (jc_cmp c ba bb) = true) : ∃ A', K (bif j_cond c x y then tt else ff) A' = true ∧ A'.1 = A.1 ∧ jc_g E X r t A' h := by
  obtain ⟨q, q1, q2, q3, q4⟩ := jc_cmp_ok (c := c) (jc_bd_i hg.1 hx.2 ha) (jc_bd_i hg.1 hy.2 hb)
  have hq := jc_all_ok hj q q1
  rw [(jc_le_iff _ _).mpr (Int.le_trans q2.1 q2.2), (jc_le_iff _ _).mpr (Int.le_trans q3.1 q3.2)] at hq
  have q2' := q2
  obtain ⟨x1, x2⟩ := q2
  obtain ⟨y1, y2⟩ := q3
  rw [hx.2] at x1 x2
  rw [hy.2] at y1 y2
  obtain ⟨A1, c1, c2, c3⟩ := jc_cut_ok hg hx.1 ⟨x1, x2⟩
  obtain ⟨A2, d1, d2, d3⟩ := jc_cut_ok c3 (by rw [c2]; exact hy.1) ⟨y1, y2⟩
  rw [Bool.and_self, cond_true, c1] at hq
  dsimp only at hq
  rw [d1] at hq
  dsimp only at hq
  rw [q4]
  exact ⟨A2, hq, d2.trans c2, d3⟩
noncomputable def jc_br (E : jc_E) (A : jc_A) (ins : Instr) (pc : Nat) (S : jc_S) (K : Nat → jc_S → jc_A → Bool) : Bool := match ins, S with
  | .goto off, S => (match j_tgt pc off with
    | some t => K t S A
    | none => false)
  | .ifCond c off, .inl a :: S => (match j_tgt pc off, jc_bd A.2.1 a with
    | some t, some ba => jc_br1 E A a (0, 0) t (pc + 3) (fun p A' => K p S A') (jc_cmp c ba (0, 0))
    | _, _ => false)
  | .if_icmp c off, .inl b :: .inl a :: S => (match j_tgt pc off, jc_bd A.2.1 a, jc_bd A.2.1 b with
    | some t, some ba, some bb => bif Nat.beq a.1 b.1 then K (bif jc_cz c a.2 b.2 then t else pc + 3) S A else jc_br1 E A a b t (pc + 3) (fun p A' => K p S A') (jc_cmp c ba bb)
    | _, _, _ => false)
  | .tableswitch dflt lo hi offs, .inl a :: S => (match jc_bd A.2.1 a with
    | some b => bif decide (hi < lo + offs.size) && ((j_tgt pc dflt).isSome && (List.range offs.size).all fun k => (j_tgt pc (offs.getD k 0)).isSome) then jc_all (fun q => match jc_cut E A a (q.1, q.2.1) with
      | none => true
      | some A' => K q.2.2 S A') (ja_sw pc dflt lo hi offs b.1 b.2) else false
    | none => false)
  | .lookupswitch dflt ps, .inl a :: S => (match jc_bd A.2.1 a with
    | some b => bif jc_le b.2 b.1 && (ps.toList.zip (ps.toList.drop 1)).all (fun (a, next) => a.1 < next.1) then (match j_tgt pc (Op.lookupswitch.offset ps.toList dflt b.1) with
      | some t => K t S A
      | none => false) else false
    | none => false)
  | _, _ => false
theorem jc_br_ok {ins : Instr} {pc : Nat} {S : jc_S} {st : List Value} {K : Nat → jc_S → jc_A → Bool} (hg : jc_g E X r t A h) (hS : jc_st r A.1 S st) (hj : jc_br E A ins pc S K = true) : ∃ p stJ S' A', j_br ins pc st = some (p, stJ) ∧ K p S' A' = true ∧ A'.1 = A.1 ∧ jc_g E X r t A' h ∧ jc_st r A.1 S' stJ := by
  unfold jc_br at hj
  split at hj
  · split at hj
    · rename_i tt ht
      exact ⟨tt, st, _, A, by simp only [j_br, ht, Option.map_some], hj, rfl, hg, hS⟩
    · cases hj
  · rename_i c off a S
    obtain ⟨v, st1, rfl, a1, b1⟩ := jc_st_cons hS
    obtain ⟨x, rfl, hx⟩ := a1.int
    split at hj
    · rename_i tt ba ht hba
      have h0 : jc_bd A.2.1 (0, 0) = some (0, 0) := rfl
      obtain ⟨A', k1, k2, k3⟩ := jc_br1_ok (y := 0) hg hx (jc_con hg (by decide)) hba h0 hj
      refine ⟨_, st1, S, A', ?_, k1, k2, k3, b1⟩
      simp only [j_br, ht, Option.map_some]
      cases j_cond c x 0 <;> rfl
    · cases hj
  · rename_i c off b a S
    obtain ⟨v, st1, rfl, a1, b1⟩ := jc_st_cons hS
    obtain ⟨w, st2, rfl, a2, b2⟩ := jc_st_cons b1
    obtain ⟨y, rfl, hy⟩ := a1.int
    obtain ⟨x, rfl, hx⟩ := a2.int
    split at hj
    · rename_i tt ba bb ht hba hbb
      cases hab : Nat.beq a.1 b.1 with
      | true =>
        rw [hab, cond_true] at hj
        have e := Nat.eq_of_beq_eq_true hab
        have hc := jc_cz_ok (c := c) (g := r a.1) hx.2 (by rw [e]; exact hy.2)
        refine ⟨_, st2, S, A, ?_, hj, rfl, hg, b2⟩
        simp only [j_br, ht, Option.map_some, hc]
        cases jc_cz c a.2 b.2 <;> rfl
      | false =>
        rw [hab, cond_false] at hj
        obtain ⟨A', k1, k2, k3⟩ := jc_br1_ok hg hx hy hba hbb hj
        refine ⟨_, st2, S, A', ?_, k1, k2, k3, b2⟩
        simp only [j_br, ht, Option.map_some]
        cases j_cond c x y <;> rfl
    · cases hj
  · rename_i dflt lo hi offs a S
    obtain ⟨v, st1, rfl, a1, b1⟩ := jc_st_cons hS
    obtain ⟨x, rfl, hx⟩ := a1.int
    split at hj
    · rename_i b hb
      cases hc : decide (hi < lo + offs.size) && ((j_tgt pc dflt).isSome && (List.range offs.size).all fun k => (j_tgt pc (offs.getD k 0)).isSome) with
      | false => rw [hc] at hj; cases hj
      | true =>
        rw [hc, cond_true] at hj
        obtain ⟨c1, c2⟩ := Bool.and_eq_true_iff.mp hc
        obtain ⟨c2, c3⟩ := Bool.and_eq_true_iff.mp c2
        have hxb := jc_bd_i hg.1 hx.2 hb
        obtain ⟨q, q1, q2, q3, q4⟩ := ja_sw_ok (r := st1) hxb.1 hxb.2 (of_decide_eq_true c1) c2 (fun k hk => List.all_eq_true.mp c3 k (List.mem_range.mpr hk))
        have hq := jc_all_ok hj q q1
        rw [hx.2] at q2 q3
        obtain ⟨A', d1, d2, d3⟩ := jc_cut_ok (b := (q.1, q.2.1)) hg hx.1 ⟨q2, q3⟩
        rw [d1] at hq
        exact ⟨_, st1, S, A', q4, hq, d2, d3, b1⟩
    · cases hj
  · rename_i dflt ps a S
    obtain ⟨v, st1, rfl, a1, b1⟩ := jc_st_cons hS
    obtain ⟨x, rfl, hx⟩ := a1.int
    split at hj
    · rename_i b hb
      cases hc : jc_le b.2 b.1 && (ps.toList.zip (ps.toList.drop 1)).all (fun (a, next) => a.1 < next.1) with
      | false => rw [hc] at hj; cases hj
      | true =>
        rw [hc, cond_true] at hj
        obtain ⟨c1, c2⟩ := Bool.and_eq_true_iff.mp hc
        have c1 := jc_le_t c1
        obtain ⟨x1, x2⟩ := jc_bd_i hg.1 hx.2 hb
        have e : x.toInt = b.1 := by omega
        split at hj
        · rename_i tt ht
          refine ⟨tt, st1, S, A, ?_, hj, rfl, hg, b1⟩
          simp only [j_br]
          rw [if_pos c2, e, ht]
          rfl
        · cases hj
    · cases hj
  · cases hj
noncomputable def jc_wd : jc_S → Nat
  | [] => 0
  | s :: S => (bif jc_isL s then 2 else 1) + jc_wd S
theorem jc_wd_ok {n : Nat} : ∀ {S : jc_S} {st : List Value}, jc_st r n S st → (st.map fun v => v.category).sum = jc_wd S
  | [], [], _ => rfl
  | s :: S, v :: st, h => by
    have ih := jc_wd_ok h.2
    have hc := jc_cat h.1
    simp only [List.map_cons, List.sum_cons, jc_wd, ih, hc]
  | [], _ :: _, h => h.elim
  | _ :: _, [], h => h.elim
noncomputable def jc_mm (mx : Bool) (S : jc_S) (A : jc_A) : Option (jc_S × jc_A) := match S with
  | .inl b :: .inl a :: S => bif Nat.ble (jc_wd S) 8 then (bif Nat.beq a.1 b.1 then some (.inl (a.1, bif mx then jc_mx a.2 b.2 else jc_mn a.2 b.2) :: S, A) else match jc_bd A.2.1 a, jc_bd A.2.1 b with
    | some p, some q => (match jc_new A (bif mx then (jc_mx p.1 q.1, jc_mx p.2 q.2) else (jc_mn p.1 q.1, jc_mn p.2 q.2)) with
      | (s, A') => some (s :: S, A'))
    | _, _ => none) else none
  | _ => none
theorem jc_mm_ok {mx : Bool} {S S' : jc_S} {A' : jc_A} {st : List Value} (hg : jc_g E X r t A h) (hS : jc_st r A.1 S st) (hj : jc_mm mx S A = some (S', A')) : ∃ stJ r', j_mm mx st = some stJ ∧ jc_ext A.1 r r' ∧ A.1 ≤ A'.1 ∧ jc_g E X r' t A' h ∧ jc_st r' A'.1 S' stJ := by
  unfold jc_mm at hj
  split at hj
  · rename_i b a S
    obtain ⟨v, st1, rfl, a1, b1⟩ := jc_st_cons hS
    obtain ⟨w, st2, rfl, a2, b2⟩ := jc_st_cons b1
    obtain ⟨y, rfl, hy0, hy⟩ := a1.int
    obtain ⟨x, rfl, hx0, hx⟩ := a2.int
    cases hw : Nat.ble (jc_wd S) 8 with
    | false => rw [hw] at hj; cases hj
    | true =>
      rw [hw, cond_true] at hj
      have hw := Nat.le_of_ble_eq_true hw
      have hm : j_mm mx (.int y :: .int x :: st2) = some (.int (if mx = true then (if x < y then y else x) else (if y < x then y else x)) :: st2) := by
        simp only [j_mm]
        rw [if_pos (by rw [jc_wd_ok b2]; exact hw)]
      have hz : (if mx = true then (if x < y then y else x) else (if y < x then y else x)).toInt = bif mx then jc_mx x.toInt y.toInt else jc_mn x.toInt y.toInt := by
        cases mx with
        | true =>
          show (if x < y then y else x).toInt = jc_mx x.toInt y.toInt
          unfold jc_mx
          by_cases c : x < y
          · have c' := Int32.lt_iff_toInt_lt.mp c
            rw [if_pos c, (jc_le_iff _ _).mpr (Int.le_of_lt c')]
            rfl
          · have c' : ¬ x.toInt < y.toInt := fun z => c (Int32.lt_iff_toInt_lt.mpr z)
            rw [if_neg c]
            cases hl : jc_le x.toInt y.toInt with
            | true =>
              have := jc_le_t hl
              rw [cond_true]
              omega
            | false => rfl
        | false =>
          show (if y < x then y else x).toInt = jc_mn x.toInt y.toInt
          unfold jc_mn
          by_cases c : y < x
          · have c' := Int32.lt_iff_toInt_lt.mp c
            rw [if_pos c]
            cases hl : jc_le x.toInt y.toInt with
            | true =>
              have := jc_le_t hl
              omega
            | false => rfl
          · have c' : ¬ y.toInt < x.toInt := fun z => c (Int32.lt_iff_toInt_lt.mpr z)
            rw [if_neg c, (jc_le_iff _ _).mpr (by omega)]
            rfl
      cases hab : Nat.beq a.1 b.1 with
      | true =>
        rw [hab] at hj
        cases hj
        have e := Nat.eq_of_beq_eq_true hab
        refine ⟨_, r, hm, jc_ext.rf, Nat.le_refl _, hg, ⟨hx0, ?_⟩, b2⟩
        rw [hz, hx, hy, ← e]
        cases mx with
        | true =>
          show jc_mx _ _ = r a.1 + jc_mx a.2 b.2
          unfold jc_mx
          cases h1 : jc_le a.2 b.2 with
          | true =>
            rw [(jc_le_iff _ _).mpr (by have := jc_le_t h1; omega)]
            rfl
          | false =>
            cases h2 : jc_le (r a.1 + a.2) (r a.1 + b.2) with
            | true => have h1 := jc_le_f h1; have h2 := jc_le_t h2; omega
            | false => rfl
        | false =>
          show jc_mn _ _ = r a.1 + jc_mn a.2 b.2
          unfold jc_mn
          cases h1 : jc_le a.2 b.2 with
          | true =>
            rw [(jc_le_iff _ _).mpr (by have := jc_le_t h1; omega)]
            rfl
          | false =>
            cases h2 : jc_le (r a.1 + a.2) (r a.1 + b.2) with
            | true => have h1 := jc_le_f h1; have h2 := jc_le_t h2; omega
            | false => rfl
      | false =>
        rw [hab, cond_false] at hj
        split at hj
        · rename_i p q hp hq
          cases hj
          obtain ⟨p1, p2⟩ := jc_bd_i hg.1 hx hp
          obtain ⟨q1, q2⟩ := jc_bd_i hg.1 hy hq
          have hzz : jb_i (bif mx then (jc_mx p.1 q.1, jc_mx p.2 q.2) else (jc_mn p.1 q.1, jc_mn p.2 q.2)) (if mx = true then (if x < y then y else x) else (if y < x then y else x)) := by
            unfold jb_i
            rw [hz]
            cases mx with
            | true => exact ⟨jc_mx_ok (Int.le_trans p1 (jc_mx_l _ _).1) (Int.le_trans q1 (jc_mx_l _ _).2), jc_mx_ok (Int.le_trans p2 (jc_mx_l _ _).1) (Int.le_trans q2 (jc_mx_l _ _).2)⟩
            | false => exact ⟨jc_mn_ok (Int.le_trans (jc_mn_l _ _).1 p1) (Int.le_trans (jc_mn_l _ _).2 q1), jc_mn_ok (Int.le_trans (jc_mn_l _ _).1 p2) (Int.le_trans (jc_mn_l _ _).2 q2)⟩
          obtain ⟨r', e1, e2, e3, e4⟩ := jc_new_ok hg hzz
          exact ⟨_, r', hm, e1, e2, e3, e4, b2.up e1 e2⟩
        · cases hj
  · cases hj
def jc_ldk (ct : Option Value) (ins : Instr) (S : jc_S) : Option jc_S := match ins, ct with
  | .ldc _, some (.int x) => some (.inl (0, x.toInt) :: S)
  | .ldc_w _, some (.int x) => some (.inl (0, x.toInt) :: S)
  | .ldc2_w _, some (.long _) => some (.inr none :: S)
  | _, _ => none
theorem jc_ldk_ok {ct : Option Value} {ins : Instr} {S S' : jc_S} {st : List Value} (hg : jc_g E X r t A h) (hS : jc_st r A.1 S st) (hj : jc_ldk ct ins S = some S') : ∃ stJ, j_ldk ins (fun _ => ct) st = some stJ ∧ jc_st r A.1 S' stJ := by
  unfold jc_ldk at hj
  split at hj
  · cases hj; exact ⟨_, rfl, jc_con hg rfl, hS⟩
  · cases hj; exact ⟨_, rfl, jc_con hg rfl, hS⟩
  · cases hj; exact ⟨_, rfl, trivial, hS⟩
  · cases hj
/-- an answer -/
def jc_an (r : jc_R) (n : Nat) : Option jc_v → Option Value → Prop
  | none, none => True
  | some s, some v => jc_val r n s v
  | _, _ => False
noncomputable def jc_ret (B : jc_B) (rt : Option FieldType) (ins : Instr) (S : jc_S) : Option (Option jc_v) := match ins, S, rt with
  | .ireturn, [.inl q], some ty => bif jc_fld B ty (.inl q) then some (some (.inl q)) else none
  | .lreturn, [.inr none], some .long => some (some (.inr none))
  | .areturn, [.inr (some (some a))], some (.object _) => some (some (.inr (some (some a))))
  | .areturn, [.inr (some (some a))], some (.array _) => some (some (.inr (some (some a))))
  | .return_, [], none => some none
  | _, _, _ => none
theorem jc_st1 {n : Nat} {s : jc_v} {st : List Value} (h : jc_st r n [s] st) : ∃ v, st = [v] ∧ jc_val r n s v := by
  obtain ⟨v, stJ, rfl, h1, h2⟩ := jc_st_cons h
  cases stJ with
  | nil => exact ⟨v, rfl, h1⟩
  | cons w q => exact h2.elim
theorem jc_ret_ok {rt : Option FieldType} {ins : Instr} {S : jc_S} {st : List Value} {o : Option jc_v} (hg : jc_g E X r t A h) (hS : jc_st r A.1 S st) (hj : jc_ret A.2.1 rt ins S = some o) : ∃ rv, j_ret rt ins st = some rv ∧ jc_an r A.1 o rv := by
  unfold jc_ret at hj
  split at hj
  · rename_i q ty
    obtain ⟨v, rfl, hv⟩ := jc_st1 hS
    cases hb : jc_fld A.2.1 ty (.inl q) with
    | false => rw [hb] at hj; cases hj
    | true =>
      rw [hb] at hj
      cases hj
      have hf := jc_fld_ok hg.1 hv hb
      obtain ⟨x, rfl, -⟩ := hv.int
      refine ⟨some (.int x), ?_, hv⟩
      simp only [j_ret]
      rw [if_pos hf]
  · cases hj
    obtain ⟨v, rfl, hv⟩ := jc_st1 hS
    obtain ⟨x, rfl⟩ := hv.long
    exact ⟨some (.long x), rfl, hv⟩
  · cases hj
    obtain ⟨v, rfl, hv⟩ := jc_st1 hS
    have := hv.ref; subst this
    exact ⟨_, rfl, hv⟩
  · cases hj
    obtain ⟨v, rfl, hv⟩ := jc_st1 hS
    have := hv.ref; subst this
    exact ⟨_, rfl, hv⟩
  · cases hj
    cases st with
    | nil => exact ⟨none, rfl, trivial⟩
    | cons v q => exact hS.elim
  · cases hj
end JC8

/-! a copied row, the greater and the lesser, constants -/
def jb_w : jb_S → Nat
  | [] => 0
  | q :: S => (bif jb_isL q.1 then 2 else 1) + jb_w S
theorem jb_w_ok {G : List Nat} {lv : J_L} : ∀ {S : jb_S} {st : List Value}, jb_st G lv S st → (st.map fun v => v.category).sum ≤ jb_w S
  | [], [], _ => Nat.le_refl _
  | (t, o) :: S, v :: st, h => by
    have ih := jb_w_ok h.2
    have hc : v.category ≤ (bif jb_isL t then 2 else 1) := by
      rcases t with q | _ | q
      · obtain ⟨x, rfl, -⟩ := jb_int h.1.1; exact Nat.le_refl _
      · obtain ⟨x, rfl⟩ := jb_long h.1.1; exact Nat.le_refl _
      · have h1 := h.1.1
        cases v <;> first | exact h1.elim | exact Nat.le_refl _
    simp only [List.map_cons, List.sum_cons, jb_w]
    omega
  | [], v :: st, h => h.elim
  | q :: S, [], h => h.elim
def jb_mm (mx : Bool) (S : jb_S) : Option jb_S := match S with
  | (.inl b, _) :: (.inl a, _) :: S => bif Nat.ble (jb_w S) 8 then some ((.inl (if mx = true then (max a.1 b.1, max a.2 b.2) else (min a.1 b.1, min a.2 b.2)), none) :: S) else none
  | _ => none
theorem jb_mm_ok {G : List Nat} {lv : J_L} {mx : Bool} {S S' : jb_S} {st : List Value} (hj : jb_mm mx S = some S') (hS : jb_st G lv S st) : ∃ stJ : List Value, j_mm mx st = some stJ ∧ jb_st G lv S' stJ := by
  unfold jb_mm at hj
  split at hj
  · rename_i b o1 a o2 S0
    obtain ⟨v, st0, rfl, h1, h2⟩ := jb_st_cons hS
    obtain ⟨w, st1, rfl, h3, h4⟩ := jb_st_cons h2
    obtain ⟨y, rfl, hy⟩ := jb_int h1.1
    obtain ⟨x, rfl, hx⟩ := jb_int h3.1
    cases hb : Nat.ble (jb_w S0) 8 with
    | false => rw [hb] at hj; cases hj
    | true =>
      rw [hb] at hj
      cases hj
      refine ⟨.int (if mx = true then (if x < y then y else x) else (if y < x then y else x)) :: st1, ?_, jb_none ?_, h4⟩
      · show (if (st1.map fun v => v.category).sum ≤ 8 then _ else none) = _
        rw [if_pos (Nat.le_trans (jb_w_ok h4) (Nat.le_of_ble_eq_true hb))]
      · obtain ⟨x1, x2⟩ := hx
        obtain ⟨y1, y2⟩ := hy
        cases mx with
        | true =>
          by_cases c : x < y
          · have c' := Int32.lt_iff_toInt_lt.mp c
            show max a.1 b.1 ≤ (if x < y then y else x).toInt ∧ (if x < y then y else x).toInt ≤ max a.2 b.2
            rw [if_pos c]
            omega
          · have c' : ¬ x.toInt < y.toInt := fun z => c (Int32.lt_iff_toInt_lt.mpr z)
            show max a.1 b.1 ≤ (if x < y then y else x).toInt ∧ (if x < y then y else x).toInt ≤ max a.2 b.2
            rw [if_neg c]
            omega
        | false =>
          by_cases c : y < x
          · have c' := Int32.lt_iff_toInt_lt.mp c
            show min a.1 b.1 ≤ (if y < x then y else x).toInt ∧ (if y < x then y else x).toInt ≤ min a.2 b.2
            rw [if_pos c]
            omega
          · have c' : ¬ y.toInt < x.toInt := fun z => c (Int32.lt_iff_toInt_lt.mpr z)
            show min a.1 b.1 ≤ (if y < x then y else x).toInt ∧ (if y < x then y else x).toInt ≤ min a.2 b.2
            rw [if_neg c]
            omega
  · cases hj
def jb_ldk (ct : Option Value) (ins : Instr) (S : jb_S) : Option jb_S := match ins, ct with
  | .ldc _, some (.int x) => some (jb_q x :: S)
  | .ldc_w _, some (.int x) => some (jb_q x :: S)
  | .ldc2_w _, some (.long _) => some ((.inr none, none) :: S)
  | _, _ => none
theorem jb_ldk_ok {G : List Nat} {lv : J_L} {ct : Option Value} {ins : Instr} {S S' : jb_S} {st : List Value} (hj : jb_ldk ct ins S = some S') (hS : jb_st G lv S st) : ∃ stJ : List Value, j_ldk ins (fun _ => ct) st = some stJ ∧ jb_st G lv S' stJ := by
  unfold jb_ldk at hj
  split at hj
  · cases hj; exact ⟨_, rfl, jb_q_ok _, hS⟩
  · cases hj; exact ⟨_, rfl, jb_q_ok _, hS⟩
  · cases hj; exact ⟨_, rfl, jb_none trivial, hS⟩
  · cases hj
/-- a row copied: onto one of the same kind at the same place, or onto one that takes all that may come -/
def jb_acp (K : jb_Ks) (S : jb_S) : Option jb_S := match S with
  | (.inl n, _) :: (.inl dp, _) :: (.inr (some (k1, false)), _) :: (.inl sp, _) :: (.inr (some (k0, false)), _) :: S => match K[k0]?, K[k1]? with
    | some (.inr (.inl d0)), some (.inr (.inl d1)) =>
      bif Nat.beq d0.1 0 && (Nat.beq d1.1 0 && (decide (0 ≤ sp.1) && (decide (0 ≤ dp.1) && (decide (0 ≤ n.1) && (decide (sp.2 + n.2 ≤ d0.2.1) && (decide (dp.2 + n.2 ≤ d1.2.1) && (Nat.ble (jb_w S) 8 && ((Nat.beq k0 k1 && (decide (sp.1 = sp.2) && (decide (dp.1 = dp.2) && decide (sp.1 = dp.1)))) || (match jb_sj 0 d0.2.2 sp.1 (sp.2 + n.2 - 1) with
        | some z => jb_so d1.2.2 dp.1 (dp.2 + n.2 - 1) z
        | none => false))))))))) then some S else none
    | _, _ => none
  | _ => none
theorem jb_cpy_get {l0 l1 : List Int32} {sp dp n i : Nat} {x : Int32} (h : (j_cpy 0 l0 l1 sp dp n)[i]? = some x) : (dp ≤ i ∧ i < dp + n ∧ x = l0.getD (sp + (i - dp)) 0 ∧ i < l1.length) ∨ (l1[i]? = some x) := by
  unfold j_cpy at h
  rw [List.getElem?_mapIdx] at h
  obtain ⟨y, hy, e⟩ := Option.map_eq_some_iff.mp h
  by_cases c : dp ≤ i ∧ i < dp + n
  · rw [if_pos c] at e
    exact Or.inl ⟨c.1, c.2, e.symm, (List.getElem?_eq_some_iff.mp hy).1⟩
  · rw [if_neg c] at e
    subst e
    exact Or.inr hy
theorem jb_clamp {x : Int32} (h : 0 ≤ x.toInt) : (x.toNatClampNeg : Int) = x.toInt := Int.toNat_of_nonneg h
theorem jb_nlt {x : Int32} (h : 0 ≤ x.toInt) : ¬ x < 0 := fun z => by
  have := Int32.lt_iff_toInt_lt.mp z
  have h0 : (0 : Int32).toInt = 0 := (by decide)
  omega
theorem jb_acp_ok {K : jb_Ks} {G : List Nat} {lv : J_L} {h : J_H} {S S' : jb_S} {st : List Value} (hj : jb_acp K S = some S') (hT : jb_T K G h) (hS : jb_st G lv S st) : ∃ (stJ : List Value) (h' : J_H), j_acp h st = some (stJ, h') ∧ jb_T K G h' ∧ jb_st G lv S' stJ := by
  unfold jb_acp at hj
  split at hj
  · rename_i n o0 dp o1 k1 o2 sp o3 k0 o4 S0
    obtain ⟨v0, st0, rfl, a0, b0⟩ := jb_st_cons hS
    obtain ⟨v1, st1, rfl, a1, b1⟩ := jb_st_cons b0
    obtain ⟨v2, st2, rfl, a2, b2⟩ := jb_st_cons b1
    obtain ⟨v3, st3, rfl, a3, b3⟩ := jb_st_cons b2
    obtain ⟨v4, st4, rfl, a4, b4⟩ := jb_st_cons b3
    obtain ⟨xn, rfl, hn⟩ := jb_int a0.1
    obtain ⟨xd, rfl, hd⟩ := jb_int a1.1
    obtain ⟨q1, rfl, r1⟩ := jb_ref a2.1
    obtain ⟨xs, rfl, hs⟩ := jb_int a3.1
    obtain ⟨q0, rfl, r0⟩ := jb_ref a4.1
    split at hj
    · rename_i d0 d1 hk0 hk1
      obtain ⟨l0, e1, e2, e3⟩ := hT.arr r0 hk0
      obtain ⟨l1, f1, f2, f3⟩ := hT.arr r1 hk1
      cases hb : Nat.beq d0.1 0 && (Nat.beq d1.1 0 && (decide (0 ≤ sp.1) && (decide (0 ≤ dp.1) && (decide (0 ≤ n.1) && (decide (sp.2 + n.2 ≤ d0.2.1) && (decide (dp.2 + n.2 ≤ d1.2.1) && (Nat.ble (jb_w S0) 8 && ((Nat.beq k0 k1 && (decide (sp.1 = sp.2) && (decide (dp.1 = dp.2) && decide (sp.1 = dp.1)))) || (match jb_sj 0 d0.2.2 sp.1 (sp.2 + n.2 - 1) with
        | some z => jb_so d1.2.2 dp.1 (dp.2 + n.2 - 1) z
        | none => false))))))))) with
      | false => rw [hb] at hj; cases hj
      | true =>
        rw [hb] at hj
        cases hj
        obtain ⟨c1, hb⟩ := Bool.and_eq_true_iff.mp hb
        obtain ⟨c2, hb⟩ := Bool.and_eq_true_iff.mp hb
        obtain ⟨c3, hb⟩ := Bool.and_eq_true_iff.mp hb
        obtain ⟨c4, hb⟩ := Bool.and_eq_true_iff.mp hb
        obtain ⟨c5, hb⟩ := Bool.and_eq_true_iff.mp hb
        obtain ⟨c6, hb⟩ := Bool.and_eq_true_iff.mp hb
        obtain ⟨c7, hb⟩ := Bool.and_eq_true_iff.mp hb
        obtain ⟨c8, hb⟩ := Bool.and_eq_true_iff.mp hb
        have c1 := Nat.eq_of_beq_eq_true c1
        have c2 := Nat.eq_of_beq_eq_true c2
        have c3 := of_decide_eq_true c3
        have c4 := of_decide_eq_true c4
        have c5 := of_decide_eq_true c5
        have c6 := of_decide_eq_true c6
        have c7 := of_decide_eq_true c7
        have c8 := Nat.le_of_ble_eq_true c8
        obtain ⟨n1, n2⟩ := hn
        obtain ⟨s1, s2⟩ := hs
        obtain ⟨g1, g2⟩ := hd
        have kn := jb_clamp (x := xn) (by omega)
        have ks := jb_clamp (x := xs) (by omega)
        have kd := jb_clamp (x := xd) (by omega)
        refine ⟨st4, h.set q1 (.inr (.inl (d1.1, j_cpy 0 l0 l1 xs.toNatClampNeg xd.toNatClampNeg xn.toNatClampNeg))), ?_, hT.set r1 hk1 ⟨rfl, by show (j_cpy 0 l0 l1 _ _ _).length = _; unfold j_cpy; rw [List.length_mapIdx]; exact f2, ?_⟩, b4⟩
        · simp only [j_acp, e1, f1]
          rw [if_pos ⟨c1, c2, jb_nlt (by omega), jb_nlt (by omega), jb_nlt (by omega), by omega, by omega, Nat.le_trans (jb_w_ok b4) c8⟩]
        · intro i x q hx hq
          rcases jb_cpy_get hx with ⟨m1, m2, rfl, m3⟩ | m
          · have hlt : xs.toNatClampNeg + (i - xd.toNatClampNeg) < l0.length := by omega
            have hv : l0[xs.toNatClampNeg + (i - xd.toNatClampNeg)]? = some (l0.getD (xs.toNatClampNeg + (i - xd.toNatClampNeg)) 0) := by rw [List.getD_eq_getElem?_getD, List.getElem?_eq_getElem hlt]; rfl
            rcases Bool.or_eq_true_iff.mp hb with hb | hb
            · obtain ⟨t1, t2⟩ := Bool.and_eq_true_iff.mp hb
              obtain ⟨t2, t3⟩ := Bool.and_eq_true_iff.mp t2
              obtain ⟨t3, t4⟩ := Bool.and_eq_true_iff.mp t3
              have t1 := Nat.eq_of_beq_eq_true t1
              have t2 := of_decide_eq_true t2
              have t3 := of_decide_eq_true t3
              have t4 := of_decide_eq_true t4
              subst t1
              rw [hk0] at hk1
              cases hk1
              have ei : xs.toNatClampNeg + (i - xd.toNatClampNeg) = i := by omega
              rw [ei] at hv
              rw [ei]
              exact e3 i _ q hv hq
            · split at hb
              · rename_i z hz
                obtain ⟨q', u1, u2, u3⟩ := jb_sj_ok (i := xs.toNatClampNeg + (i - xd.toNatClampNeg)) (by omega) (by omega) hz
                obtain ⟨w1, w2⟩ := e3 _ _ _ hv u1
                obtain ⟨y1, y2⟩ := jb_so_ok (i := i) (by omega) (by omega) hb q hq
                exact ⟨Int.le_trans y1 (Int.le_trans u2 w1), Int.le_trans w2 (Int.le_trans u3 y2)⟩
              · cases hb
          · exact f3 i x q m hq
    · cases hj
  · cases hj

/-! JC: the run -/
abbrev jc_Nd : Type := Nat × Option Nat × jc_A × jc_L
abbrev jc_Nt : Type := jc_t2 (List jc_Nd)
abbrev jc_Ct : Type := List jc_Cn
abbrev jc_Sp : Type := jc_t2 (jc_t2 (List Nat))
abbrev jc_K : Type := jc_A → Option jc_v → Bool
abbrev jc_Ft : Type := Nat → Bool → Nat → ja_M → ja_C → Nat → jc_L → jc_S → jc_A → jc_K → Bool
/-- what stays the same in a run: cells, where it may write, hints, methods, contracts, where to part, nodes, the node it began at -/
abbrev jc_G : Type := jc_E × jc_W × jc_Hn × ja_T × jc_Ct × jc_Sp × jc_Nt × Nat × Option Nat
noncomputable def jc_nps (l : jc_L) (L : jc_L) : Option (List (jc_v × jc_v)) := List.rec (motive := fun _ => Option (List (jc_v × jc_v))) (some []) (fun e _ ih => match jc_lk L e.1, ih with
  | some s, some ps => some ((e.2, s) :: ps)
  | _, _ => none) l
/-- known numbers that differ: of no use to look further -/
noncomputable def jc_qk (L : List (Nat × jc_v)) (l : List (Nat × jc_v)) : Bool := List.rec (motive := fun _ => Bool) true (fun e _ ih => (match e.2 with
  | .inl q => bif Nat.beq q.1 0 then (match jc_lk L e.1 with
    | some (.inl q') => !Nat.beq q'.1 0 || (jc_le q.2 q'.2 && jc_le q'.2 q.2)
    | _ => true) else true
  | _ => true) && ih) l
noncomputable def jc_nd1 (E : jc_E) (Hn : jc_Hn) (cur : Nat) (cc : Option Nat) (A : jc_A) (L : jc_L) (n : jc_Nd) : Bool := bif jc_qk L n.2.2.2 && jc_qk A.2.2.1 n.2.2.1.2.2.1 then (match jc_mtk E n.2.2.1.2.2.1 A with
  | none => false
  | some A1 => match jc_nps n.2.2.2 L with
    | none => false
    | some ps => match jc_arr E Hn A1 ps n.2.2.1 with
      | none => false
      | some th => Nat.ble (n.1 + 1) cur || (Nat.beq n.1 cur && (match n.2.1, cc with
        | some g, some g' => Nat.beq g g' && (!Nat.beq g 0 && (match jc_lk th g with
          | some u => Nat.beq u.1 g && jc_le 1 u.2
          | none => false))
        | _, _ => false))) else false
noncomputable def jc_tt (G : jc_G) (ih : Nat → jc_L → jc_S → jc_A → Bool) (nd : Bool) (pc : Nat) (L : jc_L) (S : jc_S) (A : jc_A) : Bool := bif nd then (match ja_n2 G.2.2.2.2.2.2.1 pc with
  | some ns => jc_nil S && jc_any (jc_nd1 G.1 G.2.2.1 G.2.2.2.2.2.2.2.1 G.2.2.2.2.2.2.2.2 A L) ns
  | none => ih pc L S A) else ih pc L S A
noncomputable def jc_sps (E : jc_E) (l : List Nat) (L : jc_L) (S : jc_S) : jc_A → (jc_A → Bool) → Bool := List.rec (motive := fun _ => jc_A → (jc_A → Bool) → Bool) (fun A K => K A) (fun k _ ih A K => bif Nat.ble 1000 k then (match jc_opf E A (k - 1000) with
  | some A' => ih A' K
  | none => false) else match (bif Nat.ble 100 k then jc_lk L (k - 100) else ja_o S k) with
  | some (.inl q) => jc_spl E A q (fun A' => ih A' K)
  | _ => false) l
noncomputable def jc_cal (G : jc_G) (d : Nat) (as rest : jc_S) (A : jc_A) (K : jc_S → jc_A → Bool) (c : jc_Cn) : Bool := Nat.ble (c.2.1 + 1) d && (jc_sbW c.2.2.2.2.1 G.2.1 && (match jc_mtk G.1 c.2.2.2.1.2.2.1 A with
  | none => false
  | some A1 => match jc_zip c.2.2.1 as with
    | none => false
    | some ps => match jc_arr G.1 G.2.2.1 A1 ps c.2.2.2.1 with
      | none => false
      | some _ => jc_all (fun o => jc_nil o.1.2.2.2.1 && (jc_nil o.1.2.2.2.2.1 && K ((match o.2 with
        | some s => [jc_rn A1.1 s]
        | none => []) ++ rest) (jc_back G.1 A1 c.2.2.2.2.1 o.1))) c.2.2.2.2.2))
noncomputable def jc_one (ct : Option Value) (nL pc : Nat) (ins : Instr) (L : jc_L) (S : jc_S) (A : jc_A) : Option (Nat × jc_L × jc_S × jc_A) := match j_kd ins with
  | 0 => (jc_stk ins S A).map fun q => (pc + j_ln ins, L, q.1, q.2)
  | 1 => (jc_lod ins L S).map fun S' => (pc + j_ln ins, L, S', A)
  | 2 => (jc_str ins nL L S).map fun q => (pc + j_ln ins, q.1, q.2, A)
  | 3 => (jc_inc ins nL L A).map fun q => (pc + j_ln ins, q.1, S, q.2)
  | 8 => (jc_ldk ct ins S).map fun S' => (pc + j_ln ins, L, S', A)
  | _ => none
noncomputable def jc_go (G : jc_G) (ih : jc_Ft) : jc_Ft := fun d nd mi M C pc L S A0 K => match ja_n2 C pc with
  | none => false
  | some (ins, fl, cl, ct) => jc_sps G.1 (match ja_n2 G.2.2.2.2.2.1 mi with
    | some q => (match ja_n2 q pc with
      | some l => l
      | none => [])
    | none => []) L S A0 fun A => match jc_tt G (fun p L S A => ih d nd mi M C p L S A K) nd with
    | to => bif Nat.beq (j_kd ins) 9 then (match jc_ret A.2.1 M.2.1 ins S with
        | some o => K A o
        | none => false)
      else bif Nat.beq (j_kd ins) 10 then (match cl with
        | none => false
        | some (md, mj) => bif Nat.beq md 0 then false
          else bif Nat.beq md 1 then (match jc_acp G.1 G.2.1 S A with
            | some (S', A') => to (pc + 3) L S' A'
            | none => false)
          else bif Nat.beq md 7 then (match jc_mm true S A with
            | some (S', A') => to (pc + 3) L S' A'
            | none => false)
          else bif Nat.beq md 8 then (match jc_mm false S A with
            | some (S', A') => to (pc + 3) L S' A'
            | none => false)
          else match ja_n2 G.2.2.2.1 mj with
            | none => false
            | some (Nm, Cm) => jc_spk G.1 md Nm S && (match jc_flt (fun c => Nat.beq c.1 mj) G.2.2.2.2.1 with
              | c0 :: cs => jc_any (jc_cal G d (S.take (j_nar md Nm.2.2.1)).reverse (S.drop (j_nar md Nm.2.2.1)) A (fun S' A' => to (pc + 3) L S' A')) (c0 :: cs)
              | [] => match d with
                | 0 => false
                | d' + 1 => ih d' false mj Nm Cm 0 (jc_ags (S.take (j_nar md Nm.2.2.1)).reverse 0) [] A (fun A' o => to (pc + 3) L ((match o with
                  | some s => [s]
                  | none => []) ++ S.drop (j_nar md Nm.2.2.1)) A')))
      else bif Nat.beq (j_kd ins) 4 then jc_br G.1 A ins pc S (fun p S' A' => to p L S' A')
      else bif Nat.beq (j_kd ins) 5 then jc_ald G.1 A ins S (fun S' A' => to (pc + j_ln ins) L S' A')
      else bif Nat.beq (j_kd ins) 6 then (match jc_ast G.1 G.2.1 A ins S with
        | some (S', A') => to (pc + j_ln ins) L S' A'
        | none => false)
      else bif Nat.beq (j_kd ins) 7 then (match ins with
        | .getfield _ => jc_getf G.1 A fl S (fun S' A' => to (pc + j_ln ins) L S' A')
        | .putfield _ => (match jc_putf G.1 G.2.1 A fl S with
          | some (S', A') => to (pc + j_ln ins) L S' A'
          | none => false)
        | _ => false)
      else match jc_one ct M.1 pc ins L S A with
        | some (pcJ, L', S', A') => to pcJ L' S' A'
        | none => false
noncomputable def jc_run (G : jc_G) (f : Nat) : jc_Ft := Nat.rec (motive := fun _ => jc_Ft) (fun _ _ _ _ _ _ _ _ _ _ => false) (fun _ ih => jc_go G ih) f
section JCE
variable {P : j_P} {X : J_H → Prop} {G : jc_G}
/-- nodes that may be come to -/
def jc_Nok (X : J_H → Prop) (P : j_P) (G : jc_G) (d mi : Nat) (v0 : Int) (h0 : J_H) (Q : Option Value → J_H → Prop) : Prop := ∀ pc ns n, ja_n2 G.2.2.2.2.2.2.1 pc = some ns → n ∈ ns → ∀ (r : jc_R) (t : jc_T) (h : J_H) (lv : J_L), (n.1 < G.2.2.2.2.2.2.2.1 ∨ (n.1 = G.2.2.2.2.2.2.2.1 ∧ ∃ g, n.2.1 = some g ∧ G.2.2.2.2.2.2.2.2 = some g ∧ v0 < r g)) → jc_g G.1 X r t n.2.2.1 h → jc_lv r n.2.2.1.1 n.2.2.2 lv → jc_fr G.2.1 h0 h → j_W P d mi pc lv [] h Q
/-- where a run may go on -/
def jc_Kok (X : J_H → Prop) (G : jc_G) (r : jc_R) (n : Nat) (h0 : J_H) (K : jc_K) (Q : Option Value → J_H → Prop) : Prop := ∀ r' t' A' o h' rv, K A' o = true → jc_ext n r r' → n ≤ A'.1 → jc_g G.1 X r' t' A' h' → jc_an r' A'.1 o rv → jc_fr G.2.1 h0 h' → Q rv h'
theorem jc_Kok.up {r r' : jc_R} {n n' : Nat} {h0 : J_H} {K : jc_K} {Q : Option Value → J_H → Prop} (hk : jc_Kok X G r n h0 K Q) (e : jc_ext n r r') (hn : n ≤ n') : jc_Kok X G r' n' h0 K Q := fun r2 t2 A2 o h2 rv k1 k2 k3 k4 k5 k6 => hk r2 t2 A2 o h2 rv k1 (e.tr k2 hn) (Nat.le_trans hn k3) k4 k5 k6
theorem jc_nps_ok {r r1 : jc_R} {n n1 : Nat} {L : jc_L} {lv : J_L} (hL : jc_lv r n L lv) : ∀ {l : jc_L} {ps : List (jc_v × jc_v)}, jc_nps l L = some ps → (∀ e ∈ ps, ∀ v, jc_val r n e.2 v → jc_val r1 n1 e.1 v) → jc_lv r1 n1 l lv
  | [], ps, _, _ => fun q hq => nomatch hq
  | e :: l, ps, hj, hp => by
    have hj : (match jc_lk L e.1, jc_nps l L with
      | some s, some ps => some ((e.2, s) :: ps)
      | _, _ => none) = some ps := hj
    split at hj
    · rename_i s ps' hs hps
      cases hj
      obtain ⟨v, v1, v2⟩ := hL _ (jc_lk_mem hs)
      have ih := jc_nps_ok hL hps (fun x hx => hp x (List.mem_cons_of_mem _ hx))
      intro q hq
      rcases List.mem_cons.mp hq with rfl | hq
      · exact ⟨v, v1, hp (q.2, s) List.mem_cons_self v v2⟩
      · exact ih q hq
    · cases hj
theorem jc_sps_ok {E : jc_E} {L : jc_L} {S : jc_S} {t : jc_T} {h : J_H} {lv : J_L} {st : List Value} {K : jc_A → Bool} (hE : jc_Ok E) : ∀ {l : List Nat} {r : jc_R} {A : jc_A}, jc_g E X r t A h → jc_lv r A.1 L lv → jc_st r A.1 S st → jc_sps E l L S A K = true → ∃ A' r', K A' = true ∧ jc_ext A.1 r r' ∧ A.1 ≤ A'.1 ∧ jc_g E X r' t A' h
  | [], r, A, hg, _, _, hj => ⟨A, r, hj, jc_ext.rf, Nat.le_refl _, hg⟩
  | k :: l, r, A, hg, hL, hS, hj => by
    have hj : (bif Nat.ble 1000 k then (match jc_opf E A (k - 1000) with
      | some A' => jc_sps E l L S A' K
      | none => false) else match (bif Nat.ble 100 k then jc_lk L (k - 100) else ja_o S k) with
      | some (.inl q) => jc_spl E A q (fun A' => jc_sps E l L S A' K)
      | _ => false) = true := hj
    cases hk : Nat.ble 1000 k with
    | true =>
      rw [hk, cond_true] at hj
      split at hj
      · rename_i A1 h1
        obtain ⟨r1, e1, n1, g1⟩ := jc_opf_ok hE hg h1
        obtain ⟨A2, r2, b1, b2, b3, b4⟩ := jc_sps_ok hE g1 (hL.up e1 n1) (jc_st.up e1 n1 hS) hj
        exact ⟨A2, r2, b1, e1.tr b2 n1, Nat.le_trans n1 b3, b4⟩
      · cases hj
    | false =>
    rw [hk, cond_false] at hj
    split at hj
    · rename_i q hq
      have hq1 : q.1 < A.1 := by
        cases hb : Nat.ble 100 k with
        | true =>
          rw [hb, cond_true] at hq
          obtain ⟨v, v1, v2⟩ := hL _ (jc_lk_mem hq)
          obtain ⟨x, rfl, x1, -⟩ := jc_val.int v2
          exact x1
        | false =>
          rw [hb, cond_false, ja_o_eq] at hq
          have : ∀ (S : jc_S) (st : List Value) (k : Nat), jc_st r A.1 S st → S[k]? = some (.inl q) → q.1 < A.1 := by
            intro S
            induction S with
            | nil => intro st k _ z; cases z
            | cons s S ih =>
              intro st k hs z
              obtain ⟨v, stJ, rfl, a1, a2⟩ := jc_st_cons hs
              cases k with
              | zero =>
                cases z
                obtain ⟨x, rfl, x1, -⟩ := a1.int
                exact x1
              | succ k => exact ih stJ k a2 z
          exact this S st k hS hq
      obtain ⟨A1, a1, a2, a3⟩ := jc_spl_ok hg hq1 hj
      obtain ⟨A2, r2, b1, b2, b3, b4⟩ := jc_sps_ok hE a3 (by rw [a2]; exact hL) (by rw [a2]; exact hS) a1
      rw [a2] at b2 b3
      exact ⟨A2, r2, b1, b2, b3, b4⟩
    · cases hj
theorem jc_one_ok {mi pc nL : Nat} {isI : Bool} {ins : Instr} {fl : Option j_F} {cl : Option (Nat × Nat)} {ct : Option Value} {E : jc_E} {r : jc_R} {t : jc_T} {A A' : jc_A} {L L' : jc_L} {S S' : jc_S} {lv : J_L} {st : List Value} {h : J_H} {pcJ : Nat} (he : ja_e P mi pc (ins, fl, cl, ct) = true) (hg : jc_g E X r t A h) (hL : jc_lv r A.1 L lv) (hS : jc_st r A.1 S st) (hj : jc_one ct nL pc ins L S A = some (pcJ, L', S', A')) : ∃ lv' stJ r', j_one P mi nL isI pc ins lv st h = some (pcJ, lv', stJ, h) ∧ jc_ext A.1 r r' ∧ A.1 ≤ A'.1 ∧ jc_g E X r' t A' h ∧ jc_lv r' A'.1 L' lv' ∧ jc_st r' A'.1 S' stJ := by
  unfold ja_e at he
  obtain ⟨he, he4⟩ := Bool.and_eq_true_iff.mp he
  unfold jc_one at hj
  unfold j_one
  split at hj
  · rename_i hk
    obtain ⟨x, hx, e⟩ := Option.map_eq_some_iff.mp hj
    cases e
    rw [hk]
    obtain ⟨stJ, r', a1, a2, a3, a4, a5⟩ := jc_stk_ok hg hS hx
    exact ⟨lv, stJ, r', by simp only [a1, Option.map_some], a2, a3, a4, hL.up a2 a3, a5⟩
  · rename_i hk
    obtain ⟨x, hx, e⟩ := Option.map_eq_some_iff.mp hj
    cases e
    rw [hk]
    obtain ⟨stJ, a1, a2⟩ := jc_lod_ok hL hS hx
    exact ⟨lv, stJ, r, by simp only [a1, Option.map_some], jc_ext.rf, Nat.le_refl _, hg, hL, a2⟩
  · rename_i hk
    obtain ⟨x, hx, e⟩ := Option.map_eq_some_iff.mp hj
    cases e
    rw [hk]
    obtain ⟨lv', stJ, a1, a2, a3⟩ := jc_str_ok hL hS hx
    exact ⟨lv', stJ, r, by simp only [a1, Option.map_some], jc_ext.rf, Nat.le_refl _, hg, a2, a3⟩
  · rename_i hk
    obtain ⟨x, hx, e⟩ := Option.map_eq_some_iff.mp hj
    cases e
    rw [hk]
    obtain ⟨lv', r', a1, a2, a3, a4, a5⟩ := jc_inc_ok hg hL hx
    exact ⟨lv', st, r', by simp only [a1, Option.map_some], a2, a3, a4, a5, hS.up a2 a3⟩
  · rename_i hk
    obtain ⟨x, hx, e⟩ := Option.map_eq_some_iff.mp hj
    cases e
    rw [hk]
    obtain ⟨stJ, a1, a2⟩ := jc_ldk_ok hg hS hx
    refine ⟨lv, stJ, r, ?_, jc_ext.rf, Nat.le_refl _, hg, hL, a2⟩
    have e2 : j_ldk ins (j_ldc P mi) st = j_ldk ins (fun _ => ct) st := by
      cases ct with
      | none =>
        unfold j_ldk at a1
        split at a1 <;> first | (simp only at a1; cases a1; done) | cases a1
      | some v =>
        cases ins <;> first | rfl | (have hf := of_decide_eq_true he4; simp only [j_ldk, hf])
    simp only [e2, a1, Option.map_some]
  · cases hj
end JCE

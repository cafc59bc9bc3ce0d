/-! JC: copies of rows -/
theorem jc_in_eq {h h' : J_H} : ∀ {cs : List (Nat × Nat)} {qs : List (Int × Int)}, (∀ c ∈ cs, jc_at h' c.1 c.2 = jc_at h c.1 c.2) → jc_in h cs qs → jc_in h' cs qs
  | [], _, _, _ => trivial
  | c :: cs, q :: qs, hm, hi => by
    refine ⟨?_, jc_in_eq (fun c' hc' => hm c' (List.mem_cons_of_mem _ hc')) hi.2⟩
    rw [hm c List.mem_cons_self]
    exact hi.1
  | _ :: _, [], _, hi => hi.elim
section JC9
variable {E : jc_E} {X : J_H → Prop} {r : jc_R} {t : jc_T} {A : jc_A} {h : J_H} {W : jc_W}
theorem jc_g.wk {a lo hi : Nat} {d : jc_Dd} {c c' : J_C} (hE : jc_Ok E) (hg : jc_g E X r t A h) (hd : ja_n2 E.1 a = some d) (hhi : hi < d.1.2.2) (hc : h[a]? = some c) (hsh : jc_sh c' = jc_sh c)
    (hout : ∀ j, ¬ (lo ≤ j ∧ j ≤ hi) → jc_get c' j = jc_get c j)
    (hin : ∀ j v T, lo ≤ j → j ≤ hi → jc_get c' j = some v → jc_sg d.2 j = some T → jc_tv T.1 v)
    (hiso : jc_sga lo hi (fun g => jc_isO E A g) d.2 = true) (hX : X (h.set a c')) : jc_g E X r t (A.1, A.2.1, jc_flt (fun e => !jc_rng (jc_key a lo) (jc_key a hi) e.1) A.2.2.1, A.2.2.2) (h.set a c') := by
  have hlt := (List.getElem?_eq_some_iff.mp hc).1
  obtain ⟨g1, g2, g3, g4, g5⟩ := hg
  have hd8 := hE.1 a d hd
  have hat : ∀ b j, (b ≠ a ∨ ¬ (lo ≤ j ∧ j ≤ hi)) → jc_at (h.set a c') b j = jc_at h b j := by
    intro b j hbj
    by_cases e : b = a
    · subst e
      rw [jc_at_of (List.getElem?_set_self hlt), jc_at_of hc]
      exact hout j (by rcases hbj with h1 | h1; exact absurd rfl h1; exact h1)
    · unfold jc_at
      rw [List.getElem?_set_ne (fun z => e z.symm)]
  have hrng : ∀ b j, j < 8192 → (jc_rng (jc_key a lo) (jc_key a hi) (jc_key b j) = true ↔ b = a ∧ lo ≤ j ∧ j ≤ hi) := by
    intro b j hj
    unfold jc_rng jc_key
    rw [Bool.and_eq_true, Nat.ble_eq, Nat.ble_eq]
    omega
  refine ⟨g1, fun b e he => ?_, fun f m hm ho => ?_, fun p m hm ho => ?_, hX⟩
  · obtain ⟨c0, c1, c2, c3⟩ := g2 b e he
    by_cases hb' : b = a
    · subst hb'
      rw [hd] at he
      cases he
      rw [hc] at c1
      cases c1
      refine ⟨c', List.getElem?_set_self hlt, by rw [hsh]; exact c2, fun j w hw => ?_⟩
      have hj8 : j < 8192 := by
        have := jc_get_lt hw
        rw [hsh, c2] at this
        exact Nat.lt_of_lt_of_le this hd8
      unfold jc_cl
      dsimp only
      rw [jc_lk_flt (p := fun k => !jc_rng (jc_key b lo) (jc_key b hi) k)]
      by_cases hj : lo ≤ j ∧ j ≤ hi
      · rw [(hrng b j hj8).mpr ⟨rfl, hj⟩, Bool.not_true, cond_false]
        intro T hT
        exact hin j w T hj.1 hj.2 hw hT
      · have : jc_rng (jc_key b lo) (jc_key b hi) (jc_key b j) = false := by
          cases hr : jc_rng (jc_key b lo) (jc_key b hi) (jc_key b j) with
          | false => rfl
          | true => exact absurd ((hrng b j hj8).mp hr).2 hj
        rw [this, Bool.not_false, cond_true]
        rw [hout j hj] at hw
        exact c3 j w hw
    · refine ⟨c0, by rw [List.getElem?_set_ne (fun z => hb' z.symm)]; exact c1, c2, fun j w hw => ?_⟩
      have hj8 : j < 8192 := by
        have := jc_get_lt hw
        rw [c2] at this
        exact Nat.lt_of_lt_of_le this (hE.1 b e he)
      have h3 := c3 j w hw
      unfold jc_cl at h3 ⊢
      dsimp only
      rw [jc_lk_flt (p := fun k => !jc_rng (jc_key a lo) (jc_key a hi) k)]
      have : jc_rng (jc_key a lo) (jc_key a hi) (jc_key b j) = false := by
        cases hr : jc_rng (jc_key a lo) (jc_key a hi) (jc_key b j) with
        | false => rfl
        | true => exact absurd ((hrng b j hj8).mp hr).1 hb'
      rw [this, Bool.not_false, cond_true]
      exact h3
  · have h0 := g3 f m hm ho
    unfold jc_fm at h0 ⊢
    dsimp only at h0 ⊢
    split
    · rename_i e he
      rw [he] at h0
      exact h0
    · rename_i he
      rw [he] at h0
      refine ⟨h0.1, jc_in_eq (fun x hx => hat x.1 x.2 ?_) h0.2⟩
      by_cases hb : x.1 = a
      · refine Or.inr (fun z => ?_)
        obtain ⟨d', g', d1, -, d3, d4⟩ := hE.2.1 f m hm _ hx
        rw [hb, hd] at d1
        cases d1
        exact jc_isO_F (jc_sga_ok z.1 z.2 hiso d3) d4 hm ho he
      · exact Or.inl hb
  · obtain ⟨x, x1, x2⟩ := g4 p m hm ho
    refine ⟨x, ?_, x2⟩
    dsimp only
    split
    · rename_i e he
      rw [he] at x1
      exact x1
    · rename_i he
      rw [he] at x1
      obtain ⟨y, y1, y2⟩ := x1
      refine ⟨y, ?_, y2⟩
      rw [hat _ _ (by
        by_cases hb : m.2.1.1 = a
        · refine Or.inr (fun z => ?_)
          obtain ⟨d', g', d1, -, d3, d4⟩ := hE.2.2.1 p m hm
          rw [hb, hd] at d1
          cases d1
          exact jc_isO_P (jc_sga_ok z.1 z.2 hiso d3) d4 hm ho he
        · exact Or.inl hb)]
      exact y1
theorem jc_fr.wk {a lo hi : Nat} {c c' : J_C} (hc : h[a]? = some c) (hout : ∀ j, ¬ (lo ≤ j ∧ j ≤ hi) → jc_get c' j = jc_get c j) (hw : ∀ i, lo ≤ i → i ≤ hi → jc_inW W a i = true) : jc_fr W h (h.set a c') := by
  have hlt := (List.getElem?_eq_some_iff.mp hc).1
  intro b j hj
  by_cases e : b = a
  · subst e
    rw [jc_at_of (List.getElem?_set_self hlt), jc_at_of hc]
    refine hout j (fun z => ?_)
    rw [hw j z.1 z.2] at hj
    cases hj
  · unfold jc_at
    rw [List.getElem?_set_ne (fun z => e z.symm)]
def jc_tsub (z : Int × Int) (T : Option jc_ty) : Bool := match T with
  | none => true
  | some (.inl q) => jc_le q.1 z.1 && jc_le z.2 q.2
  | _ => false
theorem jc_tsub_ok {z : Int × Int} {T : Option jc_ty} {x : Int32} (h : jc_tsub z T = true) (hx : z.1 ≤ x.toInt ∧ x.toInt ≤ z.2) : jc_tv T (.int x) := by
  unfold jc_tsub at h
  split at h
  · trivial
  · obtain ⟨h1, h2⟩ := Bool.and_eq_true_iff.mp h
    exact ⟨Int.le_trans (jc_le_t h1) hx.1, Int.le_trans hx.2 (jc_le_t h2)⟩
  · cases h
/-- ints at places lo to hi lie within z -/
noncomputable def jc_all_z (E : jc_E) (A : jc_A) (a lo hi : Nat) : Option (Int × Int) := match ja_n2 E.1 a with
  | none => none
  | some d => match jc_hu lo hi d.2 with
    | none => none
    | some z => bif jc_all (fun e => !jc_rng (jc_key a lo) (jc_key a hi) e.1 || jc_sub A.2.1 e.2 (some (.inl z))) A.2.2.1 then some z else none
theorem jc_all_z_ok {a lo hi i : Nat} {z : Int × Int} {v : Value} (hg : jc_g E X r t A h) (hj : jc_all_z E A a lo hi = some z) (h1 : lo ≤ i) (h2 : i ≤ hi) (hv : jc_at h a i = some v) : ∃ x : Int32, v = .int x ∧ z.1 ≤ x.toInt ∧ x.toInt ≤ z.2 := by
  unfold jc_all_z at hj
  split at hj
  · cases hj
  · rename_i d hd
    split at hj
    · cases hj
    · rename_i z0 hz
      cases hb2 : jc_all (fun e => !jc_rng (jc_key a lo) (jc_key a hi) e.1 || jc_sub A.2.1 e.2 (some (.inl z0))) A.2.2.1 with
      | false => rw [hb2] at hj; cases hj
      | true =>
        rw [hb2] at hj
        cases hj
        obtain ⟨c, c1, c2, c3⟩ := hg.2.1 a d hd
        rw [jc_at_of c1] at hv
        have hcl := c3 i v hv
        unfold jc_cl at hcl
        split at hcl
        · rename_i s0 hs0
          have hm := jc_all_ok hb2 _ (jc_lk_mem hs0)
          have hr : jc_rng (jc_key a lo) (jc_key a hi) (jc_key a i) = true := by
            unfold jc_rng jc_key
            rw [Nat.ble_eq_true_of_le (show a * 8192 + lo ≤ a * 8192 + i by omega), Nat.ble_eq_true_of_le (show a * 8192 + i ≤ a * 8192 + hi by omega)]
            rfl
          dsimp only at hm
          rw [hr] at hm
          have := jc_sub_ok hg.1 hcl (by simpa using hm)
          cases v <;> first | exact this.elim | exact ⟨_, rfl, this⟩
        · obtain ⟨g, q, a1, a2, a3, a4⟩ := jc_hu_ok h1 h2 hz
          have := hcl g a1
          rw [a2] at this
          cases v <;> first | exact this.elim | exact ⟨_, rfl, Int.le_trans a3 this.1, Int.le_trans this.2 a4⟩
/-- a copy of which only types are told -/
noncomputable def jc_cpw (E : jc_E) (W : jc_W) (A : jc_A) (a : Nat) (sp : Nat × Nat) (b : Nat) (dp n : Nat × Nat) : Option jc_A := match ja_n2 E.1 b with
  | none => none
  | some d => match jc_all_z E A a sp.1 (sp.2 + n.2 - 1) with
    | none => none
    | some z => bif Nat.ble 1 n.2 && (Nat.ble (dp.2 + n.2) d.1.2.2 && (Nat.ble (sp.2 + n.2) (jc_dk E a).2.2 && (jc_inWr W b dp.1 (dp.2 + n.2 - 1) && (jc_nPR E.2.2.2.2 b dp.1 (dp.2 + n.2 - 1) && (jc_sga dp.1 (dp.2 + n.2 - 1) (fun g => jc_tsub z g.1) d.2 && (jc_sga dp.1 (dp.2 + n.2 - 1) (fun g => jc_isO E A g) d.2 && jc_all (fun e => !jc_rng (jc_key b dp.1) (jc_key b (dp.2 + n.2 - 1)) e.1 || (match jc_sg d.2 (e.1 - jc_key b 0) with
        | some g => jc_sub A.2.1 e.2 g.1
        | none => false)) A.2.2.1)))))) then some (A.1, A.2.1, jc_flt (fun e => !jc_rng (jc_key b dp.1) (jc_key b (dp.2 + n.2 - 1)) e.1) A.2.2.1, A.2.2.2) else none
theorem jc_cpw_ok {a b xs xd xn k0 : Nat} {sp dp n : Nat × Nat} {l0 l1 : List Int32} {A' : jc_A} (hE : jc_Ok E) (hX : jc_Xo E X) (hg : jc_g E X r t A h) (ha : h[a]? = some (.inr (.inl (k0, l0)))) (hb : h[b]? = some (.inr (.inl (0, l1)))) (s1 : sp.1 ≤ xs ∧ xs ≤ sp.2) (d1 : dp.1 ≤ xd ∧ xd ≤ dp.2) (n1 : n.1 ≤ xn ∧ xn ≤ n.2) (hj : jc_cpw E W A a sp b dp n = some A') : A'.1 = A.1 ∧ sp.2 + n.2 ≤ (jc_dk E a).2.2 ∧ xd + xn ≤ l1.length ∧ jc_g E X r t A' (h.set b (.inr (.inl (0, j_cpy 0 l0 l1 xs xd xn)))) ∧ jc_fr W h (h.set b (.inr (.inl (0, j_cpy 0 l0 l1 xs xd xn)))) := by
  unfold jc_cpw at hj
  split at hj
  · cases hj
  · rename_i d hd
    split at hj
    · cases hj
    · rename_i z hz
      cases hcnd : Nat.ble 1 n.2 && (Nat.ble (dp.2 + n.2) d.1.2.2 && (Nat.ble (sp.2 + n.2) (jc_dk E a).2.2 && (jc_inWr W b dp.1 (dp.2 + n.2 - 1) && (jc_nPR E.2.2.2.2 b dp.1 (dp.2 + n.2 - 1) && (jc_sga dp.1 (dp.2 + n.2 - 1) (fun g => jc_tsub z g.1) d.2 && (jc_sga dp.1 (dp.2 + n.2 - 1) (fun g => jc_isO E A g) d.2 && jc_all (fun e => !jc_rng (jc_key b dp.1) (jc_key b (dp.2 + n.2 - 1)) e.1 || (match jc_sg d.2 (e.1 - jc_key b 0) with
        | some g => jc_sub A.2.1 e.2 g.1
        | none => false)) A.2.2.1)))))) with
      | false => rw [hcnd] at hj; cases hj
      | true =>
        rw [hcnd] at hj
        cases hj
        obtain ⟨q1, q⟩ := Bool.and_eq_true_iff.mp hcnd
        obtain ⟨q2, q⟩ := Bool.and_eq_true_iff.mp q
        obtain ⟨q3, q⟩ := Bool.and_eq_true_iff.mp q
        obtain ⟨q4, q⟩ := Bool.and_eq_true_iff.mp q
        obtain ⟨q5, q⟩ := Bool.and_eq_true_iff.mp q
        obtain ⟨q6, q⟩ := Bool.and_eq_true_iff.mp q
        obtain ⟨q7, q8⟩ := Bool.and_eq_true_iff.mp q
        have q1 := Nat.le_of_ble_eq_true q1
        have q2 := Nat.le_of_ble_eq_true q2
        have q3 := Nat.le_of_ble_eq_true q3
        obtain ⟨cb, b1, b2, b3⟩ := hg.2.1 b d hd
        rw [hb] at b1
        cases b1
        have hl1 : l1.length = d.1.2.2 := by rw [← b2]; rfl
        have hout : ∀ j, ¬ (dp.1 ≤ j ∧ j ≤ dp.2 + n.2 - 1) → jc_get (.inr (.inl (0, j_cpy 0 l0 l1 xs xd xn))) j = jc_get (.inr (.inl (0, l1))) j := by
          intro j hj
          show ((j_cpy 0 l0 l1 xs xd xn)[j]?).map Value.int = (l1[j]?).map Value.int
          unfold j_cpy
          rw [List.getElem?_mapIdx]
          have : ¬ (xd ≤ j ∧ j < xd + xn) := by omega
          cases hlj : l1[j]? with
          | none => rfl
          | some y => simp only [Option.map_some, if_neg this]
        have hin : ∀ j v T, dp.1 ≤ j → j ≤ dp.2 + n.2 - 1 → jc_get (.inr (.inl (0, j_cpy 0 l0 l1 xs xd xn))) j = some v → jc_sg d.2 j = some T → jc_tv T.1 v := by
          intro j v T j1 j2 hv hT
          obtain ⟨x, hx, rfl⟩ := Option.map_eq_some_iff.mp (show ((j_cpy 0 l0 l1 xs xd xn)[j]?).map Value.int = some v from hv)
          rcases jb_cpy_get hx with ⟨m1, m2, rfl, m3⟩ | m
          · by_cases hlt : xs + (j - xd) < l0.length
            · have hat : jc_at h a (xs + (j - xd)) = some (.int (l0.getD (xs + (j - xd)) 0)) := by
                rw [jc_at_of ha]
                show (l0[xs + (j - xd)]?).map Value.int = _
                rw [List.getD_eq_getElem?_getD, List.getElem?_eq_getElem hlt]
                rfl
              obtain ⟨y, y0, y1⟩ := jc_all_z_ok hg hz (i := xs + (j - xd)) (by omega) (by omega) hat
              cases y0
              exact jc_tsub_ok (jc_sga_ok j1 j2 q6 hT) y1
            · exfalso
              have hdk : (jc_dk E a).2.2 = l0.length := by
                cases hda : ja_n2 E.1 a with
                | none =>
                  unfold jc_all_z at hz
                  rw [hda] at hz
                  cases hz
                | some da =>
                  obtain ⟨ca, ca1, ca2, -⟩ := hg.2.1 a da hda
                  rw [ha] at ca1
                  cases ca1
                  unfold jc_dk
                  rw [hda]
                  dsimp only
                  rw [← ca2]
                  rfl
              omega
          · have hcl := b3 j (.int x) (show (l1[j]?).map Value.int = some (.int x) by rw [m]; rfl)
            unfold jc_cl at hcl
            split at hcl
            · rename_i s0 hs0
              have hm := jc_all_ok q8 _ (jc_lk_mem hs0)
              have hr : jc_rng (jc_key b dp.1) (jc_key b (dp.2 + n.2 - 1)) (jc_key b j) = true := by
                unfold jc_rng jc_key
                rw [Bool.and_eq_true, Nat.ble_eq, Nat.ble_eq]
                omega
              have ej : jc_key b j - jc_key b 0 = j := by unfold jc_key; omega
              dsimp only at hm
              rw [hr, ej, hT] at hm
              exact jc_sub_ok hg.1 hcl (by simpa using hm)
            · exact hcl T hT
        have hsh : jc_sh (.inr (.inl (0, j_cpy 0 l0 l1 xs xd xn))) = jc_sh (.inr (.inl (0, l1))) := by
          show (1, 0, (j_cpy 0 l0 l1 xs xd xn).length) = (1, 0, l1.length)
          rw [j_cpy_len]
        have hfr := jc_fr.wk (W := E.2.2.2.2.map id) (h := h) hb hout
        refine ⟨rfl, q3, by omega, hg.wk hE hd (by omega) hb hsh hout hin q7 ?_, jc_fr.wk hb hout (fun i i1 i2 => jc_inWr_ok i1 i2 q4)⟩
        refine hX h _ (fun x i hi => ?_) hg.2.2.2.2
        by_cases e : x = b
        · subst e
          have hlt := (List.getElem?_eq_some_iff.mp hb).1
          rw [jc_at_of (List.getElem?_set_self hlt), jc_at_of hb]
          refine hout i (fun z => ?_)
          rw [jc_nPR_ok z.1 z.2 q5] at hi
          cases hi
        · unfold jc_at
          rw [List.getElem?_set_ne (fun z => e z.symm)]
/-- a copy cell by cell -/
noncomputable def jc_ldq (E : jc_E) (A : jc_A) (a i : Nat) : Option (jc_v × jc_A) := match ja_n2 E.1 a with
  | none => none
  | some d => match jc_sg d.2 i with
    | none => none
    | some g => match jc_opl E A g with
      | none => none
      | some A1 => jc_mat E A1 a i
theorem jc_ldq_ok {a i : Nat} {s : jc_v} {A' : jc_A} (hE : jc_Ok E) (hg : jc_g E X r t A h) (hj : jc_ldq E A a i = some (s, A')) : ∃ r' v, jc_ext A.1 r r' ∧ A.1 ≤ A'.1 ∧ jc_g E X r' t A' h ∧ jc_at h a i = some v ∧ jc_val r' A'.1 s v := by
  unfold jc_ldq at hj
  split at hj
  · cases hj
  · split at hj
    · cases hj
    · split at hj
      · cases hj
      · rename_i A1 h1
        obtain ⟨r1, e1, n1, g1⟩ := jc_opl_ok hE hg h1
        obtain ⟨r2, e2, n2, g2, v, v1, v2⟩ := jc_mat_ok hE g1 hj
        exact ⟨r2, v, e1.tr e2 n1, Nat.le_trans n1 n2, g2, v1, v2⟩
noncomputable def jc_cpc (E : jc_E) (W : jc_W) (a sp b dp n : Nat) (A : jc_A) : Option jc_A := Nat.rec (motive := fun _ => Option jc_A) (some A) (fun k ih => match ih with
  | none => none
  | some A1 => match jc_ldq E A1 a (sp + k) with
    | none => none
    | some (s, A2) => jc_stc E W A2 b (dp + k) s) n
theorem jc_cpc_ok {a b sp dp k0 : Nat} {l0 l1 : List Int32} (hE : jc_Ok E) (hX : jc_Xo E X) (hab : a ≠ b) (hg : jc_g E X r t A h) (ha : h[a]? = some (.inr (.inl (k0, l0)))) (hb : h[b]? = some (.inr (.inl (0, l1)))) : ∀ {n : Nat} {A' : jc_A}, dp + n ≤ l1.length → jc_cpc E W a sp b dp n A = some A' → ∃ r', jc_ext A.1 r r' ∧ A.1 ≤ A'.1 ∧ jc_g E X r' t A' (h.set b (.inr (.inl (0, j_cpy 0 l0 l1 sp dp n)))) ∧ jc_fr W h (h.set b (.inr (.inl (0, j_cpy 0 l0 l1 sp dp n))))
  | 0, A', _, hj => by
    cases hj
    have e : j_cpy 0 l0 l1 sp dp 0 = l1 := by
      unfold j_cpy
      refine List.ext_getElem? (fun i => ?_)
      rw [List.getElem?_mapIdx]
      cases l1[i]? with
      | none => rfl
      | some y => simp only [Option.map_some, if_neg (show ¬ (dp ≤ i ∧ i < dp + 0) by omega)]
    obtain ⟨hlt, e2⟩ := List.getElem?_eq_some_iff.mp hb
    have e3 : h.set b (.inr (.inl (0, l1))) = h := by
      rw [← e2]
      exact List.set_getElem_self hlt
    rw [e, e3]
    exact ⟨r, jc_ext.rf, Nat.le_refl _, hg, jc_fr.rf⟩
  | n + 1, A', hn, hj => by
    have hj : (match jc_cpc E W a sp b dp n A with
      | none => none
      | some A1 => match jc_ldq E A1 a (sp + n) with
        | none => none
        | some (s, A2) => jc_stc E W A2 b (dp + n) s) = some A' := hj
    split at hj
    · cases hj
    · rename_i A1 h1
      obtain ⟨r1, e1, n1, g1, f1⟩ := jc_cpc_ok hE hX hab hg ha hb (n := n) (by omega) h1
      split at hj
      · cases hj
      · rename_i s A2 h2
        obtain ⟨r2, v, e2, n2, g2, v1, v2⟩ := jc_ldq_ok hE g1 h2
        have hlt := (List.getElem?_eq_some_iff.mp hb).1
        have hat : jc_at (h.set b (.inr (.inl (0, j_cpy 0 l0 l1 sp dp n)))) a (sp + n) = (l0[sp + n]?).map Value.int := by
          unfold jc_at
          rw [List.getElem?_set_ne (fun z => hab z.symm), ha]
          rfl
        rw [hat] at v1
        obtain ⟨x, x1, rfl⟩ := Option.map_eq_some_iff.mp v1
        have hl : (j_cpy 0 l0 l1 sp dp n).length = l1.length := j_cpy_len _ _ _ _ _ _
        have hcb : (h.set b (.inr (.inl (0, j_cpy 0 l0 l1 sp dp n))))[b]? = some (.inr (.inl (0, j_cpy 0 l0 l1 sp dp n))) := List.getElem?_set_self hlt
        obtain ⟨r3, e3, n3, g3, f3⟩ := jc_stc_ok hE hX g2 v2 hj hcb (jc_pt_i (kd := 0) (x := x) (by rw [hl]; omega))
        rw [List.set_set] at g3 f3
        have e4 : (j_cpy 0 l0 l1 sp dp n).set (dp + n) x = j_cpy 0 l0 l1 sp dp (n + 1) := by
          refine List.ext_getElem? (fun i => ?_)
          by_cases hi : i = dp + n
          · subst hi
            rw [List.getElem?_set_self (by rw [hl]; omega)]
            unfold j_cpy
            rw [List.getElem?_mapIdx, List.getElem?_eq_getElem (show dp + n < l1.length by omega)]
            simp only [Option.map_some, if_pos (show dp ≤ dp + n ∧ dp + n < dp + (n + 1) by omega)]
            rw [show sp + (dp + n - dp) = sp + n by omega, List.getD_eq_getElem?_getD, x1]
            rfl
          · rw [List.getElem?_set_ne (fun z => hi z.symm)]
            unfold j_cpy
            rw [List.getElem?_mapIdx, List.getElem?_mapIdx]
            cases l1[i]? with
            | none => rfl
            | some y =>
              simp only [Option.map_some]
              by_cases hc : dp ≤ i ∧ i < dp + n
              · rw [if_pos hc, if_pos (by omega)]
              · rw [if_neg hc, if_neg (by omega)]
        rw [e4] at g3 f3
        exact ⟨r3, (e1.tr e2 n1).tr e3 (Nat.le_trans n1 n2), Nat.le_trans (Nat.le_trans n1 n2) n3, g3, f1.tr f3⟩
noncomputable def jc_acp (E : jc_E) (W : jc_W) (S : jc_S) (A : jc_A) : Option (jc_S × jc_A) := match S with
  | .inl n :: .inl dp :: .inr (some (some b)) :: .inl sp :: .inr (some (some a)) :: S => bif Nat.beq (jc_dk E a).1 1 && (Nat.beq (jc_dk E a).2.1 0 && (Nat.beq (jc_dk E b).1 1 && (Nat.beq (jc_dk E b).2.1 0 && Nat.ble (jc_wd S) 8))) then (match jc_ix A.2.1 n, jc_ix A.2.1 dp, jc_ix A.2.1 sp with
    | some n, some dp, some sp => bif Nat.beq n.1 n.2 && (Nat.beq dp.1 dp.2 && (Nat.beq sp.1 sp.2 && (Nat.ble n.2 12 && !Nat.beq a b))) then (bif Nat.ble (dp.1 + n.1) (jc_dk E b).2.2 && Nat.ble (sp.1 + n.1) (jc_dk E a).2.2 then (jc_cpc E W a sp.1 b dp.1 n.1 A).map (fun A' => (S, A')) else none) else (jc_cpw E W A a sp b dp n).map (fun A' => (S, A'))
    | _, _, _ => none) else none
  | _ => none
theorem jc_acp_ok {S S' : jc_S} {st : List Value} {A' : jc_A} (hE : jc_Ok E) (hX : jc_Xo E X) (hg : jc_g E X r t A h) (hS : jc_st r A.1 S st) (hj : jc_acp E W S A = some (S', A')) : ∃ stJ h' r', j_acp h st = some (stJ, h') ∧ jc_ext A.1 r r' ∧ A.1 ≤ A'.1 ∧ jc_g E X r' t A' h' ∧ jc_fr W h h' ∧ jc_st r' A'.1 S' stJ := by
  unfold jc_acp at hj
  split at hj
  · rename_i n dp b sp a S
    obtain ⟨v0, st0, rfl, a0, b0⟩ := jc_st_cons hS
    obtain ⟨v1, st1, rfl, a1, b1⟩ := jc_st_cons b0
    obtain ⟨v2, st2, rfl, a2, b2⟩ := jc_st_cons b1
    obtain ⟨v3, st3, rfl, a3, b3⟩ := jc_st_cons b2
    obtain ⟨v4, st4, rfl, a4, b4⟩ := jc_st_cons b3
    obtain ⟨xn, rfl, -, hn⟩ := a0.int
    obtain ⟨xd, rfl, -, hd⟩ := a1.int
    have := a2.ref; subst this
    obtain ⟨xs, rfl, -, hs⟩ := a3.int
    have := a4.ref; subst this
    cases hk : Nat.beq (jc_dk E a).1 1 && (Nat.beq (jc_dk E a).2.1 0 && (Nat.beq (jc_dk E b).1 1 && (Nat.beq (jc_dk E b).2.1 0 && Nat.ble (jc_wd S) 8))) with
    | false => rw [hk] at hj; cases hj
    | true =>
      rw [hk, cond_true] at hj
      obtain ⟨k1, hk⟩ := Bool.and_eq_true_iff.mp hk
      obtain ⟨k2, hk⟩ := Bool.and_eq_true_iff.mp hk
      obtain ⟨k3, hk⟩ := Bool.and_eq_true_iff.mp hk
      obtain ⟨k4, k5⟩ := Bool.and_eq_true_iff.mp hk
      have k2 := Nat.eq_of_beq_eq_true k2
      have k4 := Nat.eq_of_beq_eq_true k4
      have k5 := Nat.le_of_ble_eq_true k5
      obtain ⟨ka, kb⟩ := jc_dk_eq k1 (by decide)
      obtain ⟨kc, ke⟩ := jc_dk_eq k3 (by decide)
      obtain ⟨ca, ca1, ca2⟩ := jc_dk_ok hg ka
      obtain ⟨cb, cb1, cb2⟩ := jc_dk_ok hg kc
      rw [kb, k2] at ca2
      rw [ke, k4] at cb2
      obtain ⟨l0, rfl, hl0⟩ := jc_sh1 ca2
      obtain ⟨l1, rfl, hl1⟩ := jc_sh1 cb2
      split at hj
      · rename_i zn zd zs hzn hzd hzs
        obtain ⟨n0, n1, n2⟩ := jc_ix_ok hg.1 hn hzn
        obtain ⟨d0, d1, d2⟩ := jc_ix_ok hg.1 hd hzd
        obtain ⟨s0, s1, s2⟩ := jc_ix_ok hg.1 hs hzs
        have fin : xs.toNatClampNeg + xn.toNatClampNeg ≤ l0.length → xd.toNatClampNeg + xn.toNatClampNeg ≤ l1.length → j_acp h (.int xn :: .int xd :: .ref b :: .int xs :: .ref a :: st4) = some (st4, h.set b (.inr (.inl (0, j_cpy 0 l0 l1 xs.toNatClampNeg xd.toNatClampNeg xn.toNatClampNeg)))) := by
          intro q1 q2
          simp only [j_acp, ca1, cb1]
          rw [if_pos ⟨trivial, trivial, jb_nlt s0, jb_nlt d0, jb_nlt n0, q1, q2, by rw [jc_wd_ok b4]; exact k5⟩]
        cases hc : Nat.beq zn.1 zn.2 && (Nat.beq zd.1 zd.2 && (Nat.beq zs.1 zs.2 && (Nat.ble zn.2 12 && !Nat.beq a b))) with
        | true =>
          rw [hc, cond_true] at hj
          obtain ⟨c1, hc⟩ := Bool.and_eq_true_iff.mp hc
          obtain ⟨c2, hc⟩ := Bool.and_eq_true_iff.mp hc
          obtain ⟨c3, hc⟩ := Bool.and_eq_true_iff.mp hc
          obtain ⟨-, c5⟩ := Bool.and_eq_true_iff.mp hc
          have c1 := Nat.eq_of_beq_eq_true c1
          have c2 := Nat.eq_of_beq_eq_true c2
          have c3 := Nat.eq_of_beq_eq_true c3
          have c5 : Nat.beq a b = false := by simpa using c5
          have en : xn.toNatClampNeg = zn.1 := by omega
          have ed : xd.toNatClampNeg = zd.1 := by omega
          have es : xs.toNatClampNeg = zs.1 := by omega
          cases hl : Nat.ble (zd.1 + zn.1) (jc_dk E b).2.2 && Nat.ble (zs.1 + zn.1) (jc_dk E a).2.2 with
          | false => rw [hl] at hj; cases hj
          | true =>
            rw [hl, cond_true] at hj
            obtain ⟨h1, h2⟩ := Bool.and_eq_true_iff.mp hl
            have h1 := Nat.le_of_ble_eq_true h1
            have h2 := Nat.le_of_ble_eq_true h2
            obtain ⟨A1, hA, e⟩ := Option.map_eq_some_iff.mp hj
            cases e
            obtain ⟨r', e1, e2, e3, e4⟩ := jc_cpc_ok hE hX (jb_ne c5) hg ca1 cb1 (by omega) hA
            refine ⟨st4, _, r', fin (by omega) (by omega), e1, e2, ?_, ?_, b4.up e1 e2⟩
            · rw [en, ed, es]; exact e3
            · rw [en, ed, es]; exact e4
        | false =>
          rw [hc, cond_false] at hj
          obtain ⟨A1, hA, e⟩ := Option.map_eq_some_iff.mp hj
          cases e
          obtain ⟨w1, w2, w3, w4, w5⟩ := jc_cpw_ok hE hX hg ca1 cb1 ⟨s1, s2⟩ ⟨d1, d2⟩ ⟨n1, n2⟩ hA
          exact ⟨st4, _, r, fin (by omega) w3, jc_ext.rf, Nat.le_of_eq w1.symm, w4, w5, by rw [w1]; exact b4⟩
      · cases hj
  · cases hj
end JC9

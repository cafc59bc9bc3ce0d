/-! JC: a contract out of a certificate -/
noncomputable def jc_fin (E : jc_E) (Hn : jc_Hn) (outs : List (jc_A × Option jc_v)) : jc_K := fun A o => jc_any (fun out => match jc_mtk E out.1.2.2.1 A with
  | none => false
  | some A1 => match o, out.2 with
    | none, none => (match jc_arr E Hn A1 [] out.1 with
      | some _ => true
      | none => false)
    | some s, some sT => (match jc_arr E Hn A1 [(sT, s)] out.1 with
      | some _ => true
      | none => false)
    | _, _ => false) outs
noncomputable def jc_ctb (HB : Int) (n : jc_Nd) : Bool := match n.2.1 with
  | none => true
  | some g => match jc_lk n.2.2.1.2.1 g with
    | some b => jc_le b.2 HB
    | none => false
abbrev jc_Ce : Type := jc_E × jc_Hn × ja_T × jc_Ct × jc_Sp × jc_Nt × Int
noncomputable def jc_cG (Z : jc_Ce) (W : jc_W) (cur : Nat) (cc : Option Nat) : jc_G := (Z.1, W, Z.2.1, Z.2.2.1, Z.2.2.2.1, Z.2.2.2.2.1, Z.2.2.2.2.2.1, cur, cc)
noncomputable def jc_mnd (Z : jc_Ce) (f : Nat) (c : jc_Cn) (M : ja_M) (C : ja_C) (pc : Nat) (ns : List jc_Nd) : Bool := jc_all (fun n => jc_ctb Z.2.2.2.2.2.2 n && jc_run (jc_cG Z c.2.2.2.2.1 n.1 n.2.1) f c.2.1 true c.1 M C pc n.2.2.2 [] n.2.2.1 (jc_fin Z.1 Z.2.1 c.2.2.2.2.2)) ns
noncomputable def jc_mth (Z : jc_Ce) (f : Nat) (c : jc_Cn) : Bool := match ja_n2 Z.2.2.1 c.1 with
  | some (M, C) => ja_ch2 (jc_mnd Z f c M C) Z.2.2.2.2.2.1 && jc_run (jc_cG Z c.2.2.2.2.1 1000000 none) f c.2.1 true c.1 M C 0 (jc_ags c.2.2.1 0) [] c.2.2.2.1 (jc_fin Z.1 Z.2.1 c.2.2.2.2.2)
  | none => false
section JCG
variable {P : j_P} {X : J_H → Prop} {Z : jc_Ce}
theorem jc_fin_ok {E : jc_E} {Hn : jc_Hn} {outs : List (jc_A × Option jc_v)} {A : jc_A} {o : Option jc_v} {r : jc_R} {t : jc_T} {h : J_H} {rv : Option Value} (hE : jc_Ok E) (hj : jc_fin E Hn outs A o = true) (hg : jc_g E X r t A h) (han : jc_an r A.1 o rv) : ∃ out ∈ outs, ∃ r' t', jc_g E X r' t' out.1 h ∧ jc_an r' out.1.1 out.2 rv := by
  obtain ⟨out, o1, o2⟩ := jc_any_ok hj
  refine ⟨out, o1, ?_⟩
  split at o2
  · cases o2
  · rename_i A1 h1
    obtain ⟨r1, e1, n1, g1⟩ := jc_mtk_ok hE hg h1
    split at o2
    · rename_i ho2
      split at o2
      · rename_i th hth
        obtain ⟨⟨t', ht'⟩, -⟩ := jc_arr_ok hE g1 hth
        refine ⟨_, t', ht', ?_⟩
        rw [ho2]
        cases rv with
        | none => trivial
        | some v => exact han.elim
      · cases o2
    · rename_i s sT ho2
      split at o2
      · rename_i th hth
        obtain ⟨⟨t', ht'⟩, hp⟩ := jc_arr_ok hE g1 hth
        refine ⟨_, t', ht', ?_⟩
        rw [ho2]
        cases rv with
        | none => exact han.elim
        | some v => exact hp (sT, s) List.mem_cons_self v (jc_val.up han e1 n1)
      · cases o2
    · cases o2
theorem jc_mth_ok {f : Nat} {c : jc_Cn} (hE : jc_Ok Z.1) (hX : jc_Xo Z.1 X) (hT : ∀ mj N' C', ja_n2 Z.2.2.1 mj = some (N', C') → ∃ M', j_meth P mj = some M' ∧ N' = ja_ab M' ∧ ja_Co P mj C') (hCs : ∀ c ∈ Z.2.2.2.1, jc_Con P Z.1 X c) (hm : jc_mth Z f c = true) : jc_Con P Z.1 X c := by
  unfold jc_mth at hm
  split at hm
  · rename_i M0 C hM0
    obtain ⟨M, hM, rfl, hC⟩ := hT _ _ _ hM0
    obtain ⟨h1, h2⟩ := Bool.and_eq_true_iff.mp hm
    intro d hd r0 t0 h0 As hg0 hA0
    refine j_W.deep ?_ d hd
    have hK : ∀ (cur : Nat) (cc : Option Nat) (r : jc_R) (n : Nat), jc_Kok X (jc_cG Z c.2.2.2.2.1 cur cc) r n h0 (jc_fin Z.1 Z.2.1 c.2.2.2.2.2) (jc_Q Z.1 X c.2.2.2.2.1 c.2.2.2.2.2 h0) := fun cur cc r n r' t' A' o h' rv k1 _ _ k4 k5 k6 => ⟨k6, jc_fin_ok hE k1 k4 k5⟩
    have hnode : ∀ (N : Nat) (pc : Nat) (ns : List jc_Nd) (n : jc_Nd), ja_n2 Z.2.2.2.2.2.1 pc = some ns → n ∈ ns → n.1 < N → ∀ (r : jc_R) (t : jc_T) (h : J_H) (lv : J_L), jc_g Z.1 X r t n.2.2.1 h → jc_lv r n.2.2.1.1 n.2.2.2 lv → jc_fr c.2.2.2.2.1 h0 h → j_W P c.2.1 c.1 pc lv [] h (jc_Q Z.1 X c.2.2.2.2.1 c.2.2.2.2.2 h0) := by
      intro N
      induction N with
      | zero => intro pc ns n _ _ hr; exact absurd hr (Nat.not_lt_zero _)
      | succ N ih =>
        have inner : ∀ (k : Nat) (pc : Nat) (ns : List jc_Nd) (n : jc_Nd), ja_n2 Z.2.2.2.2.2.1 pc = some ns → n ∈ ns → n.1 = N → ∀ (r : jc_R) (t : jc_T) (h : J_H) (lv : J_L), (∀ g, n.2.1 = some g → (Z.2.2.2.2.2.2 - r g).toNat < k) → jc_g Z.1 X r t n.2.2.1 h → jc_lv r n.2.2.1.1 n.2.2.2 lv → jc_fr c.2.2.2.2.1 h0 h → j_W P c.2.1 c.1 pc lv [] h (jc_Q Z.1 X c.2.2.2.2.1 c.2.2.2.2.2 h0) := by
          intro k
          induction k with
          | zero =>
            intro pc ns n hn hmem hnum r t h lv hk hg hL hf
            have hq := jc_all_ok (ja_ch2_ok h1 hn) n hmem
            obtain ⟨q1, q2⟩ := Bool.and_eq_true_iff.mp hq
            cases hcc : n.2.1 with
            | some g => exact absurd (hk g hcc) (Nat.not_lt_zero _)
            | none =>
              rw [hcc] at q2
              refine jc_run_ok (G := jc_cG Z c.2.2.2.2.1 n.1 none) hE hX hT hCs f c.2.1 true c.1 M C pc _ [] _ _ lv [] h r t _ h0 0 hM hC q2 hg hL trivial hf (fun _ => ?_) (fun _ g z => nomatch z) (hK _ _ _ _)
              intro pcJ ns' n' a1 a2 r' t' h' lv' a3 a4 a5 a6
              rcases a3 with a3 | ⟨-, g, -, a3, -⟩
              · exact ih pcJ ns' n' a1 a2 (by have a3 : n'.1 < n.1 := a3; omega) r' t' h' lv' a4 a5 a6
              · exact nomatch a3
          | succ k ihk =>
            intro pc ns n hn hmem hnum r t h lv hk hg hL hf
            have hq := jc_all_ok (ja_ch2_ok h1 hn) n hmem
            obtain ⟨q1, q2⟩ := Bool.and_eq_true_iff.mp hq
            cases hcc : n.2.1 with
            | none =>
              rw [hcc] at q2
              refine jc_run_ok (G := jc_cG Z c.2.2.2.2.1 n.1 none) hE hX hT hCs f c.2.1 true c.1 M C pc _ [] _ _ lv [] h r t _ h0 0 hM hC q2 hg hL trivial hf (fun _ => ?_) (fun _ g z => nomatch z) (hK _ _ _ _)
              intro pcJ ns' n' a1 a2 r' t' h' lv' a3 a4 a5 a6
              rcases a3 with a3 | ⟨-, g, -, a3, -⟩
              · exact ih pcJ ns' n' a1 a2 (by have a3 : n'.1 < n.1 := a3; omega) r' t' h' lv' a4 a5 a6
              · exact nomatch a3
            | some g =>
              rw [hcc] at q2
              have hgb : ∀ (n' : jc_Nd) (pcJ : Nat) (ns' : List jc_Nd) (r' : jc_R) (t' : jc_T) (h' : J_H), ja_n2 Z.2.2.2.2.2.1 pcJ = some ns' → n' ∈ ns' → n'.2.1 = some g → jc_g Z.1 X r' t' n'.2.2.1 h' → g < n'.2.2.1.1 ∧ r' g ≤ Z.2.2.2.2.2.2 := by
                intro n' pcJ ns' r' t' h' a1 a2 a3 a4
                have hq := (Bool.and_eq_true_iff.mp (jc_all_ok (ja_ch2_ok h1 a1) n' a2)).1
                unfold jc_ctb at hq
                rw [a3] at hq
                dsimp only at hq
                split at hq
                · rename_i b hb
                  obtain ⟨b1, b2, b3⟩ := a4.1.2.2 _ (jc_lk_mem hb)
                  have := jc_le_t hq
                  exact ⟨b1, Int.le_trans b3 this⟩
                · cases hq
              have hg1 := hgb n pc ns r t h hn hmem hcc hg
              refine jc_run_ok (G := jc_cG Z c.2.2.2.2.1 n.1 (some g)) hE hX hT hCs f c.2.1 true c.1 M C pc _ [] _ _ lv [] h r t _ h0 (r g) hM hC q2 hg hL trivial hf (fun _ => ?_) (fun _ g' z => by cases z; exact ⟨hg1.1, rfl⟩) (hK _ _ _ _)
              intro pcJ ns' n' a1 a2 r' t' h' lv' a3 a4 a5 a6
              rcases a3 with a3 | ⟨b1, g', b2, b3, b4⟩
              · exact ih pcJ ns' n' a1 a2 (by have a3 : n'.1 < n.1 := a3; omega) r' t' h' lv' a4 a5 a6
              · cases b3
                have b1 : n'.1 = n.1 := b1
                refine ihk pcJ ns' n' a1 a2 (by omega) r' t' h' lv' (fun g2 hg2 => ?_) a4 a5 a6
                rw [b2] at hg2
                cases hg2
                have hk := hk g hcc
                have hg2 := hgb n' pcJ ns' r' t' h' a1 a2 b2 a4
                omega
        intro pc ns n hn hmem hnum r t h lv hg hL hf
        by_cases c1 : n.1 < N
        · exact ih pc ns n hn hmem c1 r t h lv hg hL hf
        · cases hcc : n.2.1 with
          | none => exact inner 0 pc ns n hn hmem (by omega) r t h lv (fun g z => by rw [hcc] at z; cases z) hg hL hf
          | some g => exact inner ((Z.2.2.2.2.2.2 - r g).toNat + 1) pc ns n hn hmem (by omega) r t h lv (fun g' z => by rw [hcc] at z; cases z; exact Nat.lt_succ_self _) hg hL hf
    refine jc_run_ok (G := jc_cG Z c.2.2.2.2.1 1000000 none) hE hX hT hCs f c.2.1 true c.1 M C 0 _ [] _ _ (lv_args 0 As) [] h0 r0 t0 _ h0 0 hM hC h2 hg0 (jc_ags_ok hA0) trivial jc_fr.rf (fun _ => ?_) (fun _ g z => nomatch z) (hK _ _ _ _)
    intro pcJ ns' n' a1 a2 r' t' h' lv' a3 a4 a5 a6
    rcases a3 with a3 | ⟨-, g, -, a3, -⟩
    · exact hnode 1000000 pcJ ns' n' a1 a2 a3 r' t' h' lv' a4 a5 a6
    · exact nomatch a3
  · cases hm
end JCG
theorem jc_c0 {P : j_P} {E : jc_E} {X : J_H → Prop} : ∀ c ∈ ([] : jc_Ct), jc_Con P E X c := fun _ h => nomatch h
theorem jc_c1 {P : j_P} {E : jc_E} {X : J_H → Prop} {a : jc_Cn} {l : jc_Ct} (ha : jc_Con P E X a) (hl : ∀ c ∈ l, jc_Con P E X c) : ∀ c ∈ a :: l, jc_Con P E X c := fun c h => by
  rcases List.mem_cons.mp h with rfl | h
  · exact ha
  · exact hl c h

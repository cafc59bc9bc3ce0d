/-! JC: two ends of one run; nodes alone, some of them given; states told otherwise -/
theorem j_W.and {P : j_P} {d mi pc : Nat} {lv : J_L} {st : List Value} {h : J_H} {Q Q' : Option Value → J_H → Prop} (a : j_W P d mi pc lv st h Q) (b : j_W P d mi pc lv st h Q') : j_W P d mi pc lv st h (fun r h' => Q r h' ∧ Q' r h') := by
  obtain ⟨f1, r1, h1, a1, a2⟩ := a
  obtain ⟨f2, r2, h2, b1, b2⟩ := b
  have e1 := j_moreK P a1 f2
  have e2 := j_moreK P b1 f1
  rw [Nat.add_comm f2 f1, e1] at e2
  cases e2
  exact ⟨f1, r1, h1, a1, a2, b2⟩
noncomputable def jc_mndg (Z : jc_Ce) (f : Nat) (c : jc_Cn) (M : ja_M) (C : ja_C) (pc : Nat) (ns : List jc_Nd) : Bool := jc_all (fun n => Nat.beq n.1 0 || (jc_ctb Z.2.2.2.2.2.2 n && jc_run (jc_cG Z c.2.2.2.2.1 n.1 n.2.1) f c.2.1 true c.1 M C pc n.2.2.2 [] n.2.2.1 (jc_fin Z.1 Z.2.1 c.2.2.2.2.2))) ns
noncomputable def jc_nds (Z : jc_Ce) (f : Nat) (c : jc_Cn) : Bool := match ja_n2 Z.2.2.1 c.1 with
  | some (M, C) => ja_ch2 (jc_mndg Z f c M C) Z.2.2.2.2.2.1
  | none => false
noncomputable def jc_mtg (Z : jc_Ce) (f : Nat) (c : jc_Cn) : Bool := match ja_n2 Z.2.2.1 c.1 with
  | some (M, C) => jc_run (jc_cG Z c.2.2.2.2.1 1000000 none) f c.2.1 true c.1 M C 0 (jc_ags c.2.2.1 0) [] c.2.2.2.1 (jc_fin Z.1 Z.2.1 c.2.2.2.2.2)
  | none => false
/-- from a node on -/
def jc_Nd9 (P : j_P) (E : jc_E) (X : J_H → Prop) (c : jc_Cn) (h0 : J_H) (pc : Nat) (n : jc_Nd) : Prop := ∀ (r : jc_R) (t : jc_T) (h : J_H) (lv : J_L), jc_g E X r t n.2.2.1 h → jc_lv r n.2.2.1.1 n.2.2.2 lv → jc_fr c.2.2.2.2.1 h0 h → j_W P c.2.1 c.1 pc lv [] h (jc_Q E X c.2.2.2.2.1 c.2.2.2.2.2 h0)
section JCK
variable {P : j_P} {X : J_H → Prop} {Z : jc_Ce}
theorem jc_ndsH_ok {f : Nat} {c : jc_Cn} (hE : jc_Ok Z.1) (hX : jc_Xo Z.1 X) (hT : ∀ mj N' C', ja_n2 Z.2.2.1 mj = some (N', C') → ∃ M', j_meth P mj = some M' ∧ N' = ja_ab M' ∧ ja_Co P mj C') (hCs : ∀ c ∈ Z.2.2.2.1, jc_Con P Z.1 X c) (hm : ∃ M C, ja_n2 Z.2.2.1 c.1 = some (M, C) ∧ ∀ pc ns n, ja_n2 Z.2.2.2.2.2.1 pc = some ns → n ∈ ns → n.1 ≠ 0 → (jc_ctb Z.2.2.2.2.2.2 n && jc_run (jc_cG Z c.2.2.2.2.1 n.1 n.2.1) f c.2.1 true c.1 M C pc n.2.2.2 [] n.2.2.1 (jc_fin Z.1 Z.2.1 c.2.2.2.2.2)) = true) (h0 : J_H) (hG : ∀ pc ns n, ja_n2 Z.2.2.2.2.2.1 pc = some ns → n ∈ ns → n.1 = 0 → jc_Nd9 P Z.1 X c h0 pc n) :
    ∀ (N : Nat) (pc : Nat) (ns : List jc_Nd) (n : jc_Nd), ja_n2 Z.2.2.2.2.2.1 pc = some ns → n ∈ ns → n.1 < N → jc_Nd9 P Z.1 X c h0 pc n := by
  obtain ⟨M0, C, hM0, hck⟩ := hm
  obtain ⟨M, hM, rfl, hC⟩ := hT _ _ _ hM0
  have hK : ∀ (cur : Nat) (cc : Option Nat) (r : jc_R) (n : Nat), jc_Kok X (jc_cG Z c.2.2.2.2.1 cur cc) r n h0 (jc_fin Z.1 Z.2.1 c.2.2.2.2.2) (jc_Q Z.1 X c.2.2.2.2.1 c.2.2.2.2.2 h0) := fun cur cc r n r' t' A' o h' rv k1 _ _ k4 k5 k6 => ⟨k6, jc_fin_ok hE k1 k4 k5⟩
  intro N
  induction N with
  | zero => intro pc ns n _ _ hr; exact absurd hr (Nat.not_lt_zero _)
  | succ N ih =>
    intro pc ns n hn hmem hnum
    by_cases hz : n.1 = 0
    · exact hG pc ns n hn hmem hz
    have inner : ∀ (k : Nat) (pc : Nat) (ns : List jc_Nd) (n : jc_Nd), ja_n2 Z.2.2.2.2.2.1 pc = some ns → n ∈ ns → n.1 ≠ 0 → n.1 = N → ∀ (r : jc_R) (t : jc_T) (h : J_H) (lv : J_L), (∀ g, n.2.1 = some g → (Z.2.2.2.2.2.2 - r g).toNat < k) → jc_g Z.1 X r t n.2.2.1 h → jc_lv r n.2.2.1.1 n.2.2.2 lv → jc_fr c.2.2.2.2.1 h0 h → j_W P c.2.1 c.1 pc lv [] h (jc_Q Z.1 X c.2.2.2.2.1 c.2.2.2.2.2 h0) := by
      intro k
      induction k with
      | zero =>
        intro pc ns n hn hmem hne hnum r t h lv hk hg hL hf
        obtain ⟨q1, q2⟩ := Bool.and_eq_true_iff.mp (hck pc ns n hn hmem hne)
        cases hcc : n.2.1 with
        | some g => exact absurd (hk g hcc) (Nat.not_lt_zero _)
        | none =>
          rw [hcc] at q2
          refine jc_run_ok (G := jc_cG Z c.2.2.2.2.1 n.1 none) hE hX hT hCs f c.2.1 true c.1 M C pc _ [] _ _ lv [] h r t _ h0 0 hM hC q2 hg hL trivial hf (fun _ => ?_) (fun _ g z => nomatch z) (hK _ _ _ _)
          intro pcJ ns' n' a1 a2 r' t' h' lv' a3 a4 a5 a6
          rcases a3 with a3 | ⟨-, g, -, a3, -⟩
          · exact ih pcJ ns' n' a1 a2 (by have a3 : n'.1 < n.1 := a3; omega) r' t' h' lv' a4 a5 a6
          · exact nomatch a3
      | succ k ihk =>
        intro pc ns n hn hmem hne hnum r t h lv hk hg hL hf
        obtain ⟨q1, q2⟩ := Bool.and_eq_true_iff.mp (hck pc ns n hn hmem hne)
        cases hcc : n.2.1 with
        | none =>
          rw [hcc] at q2
          refine jc_run_ok (G := jc_cG Z c.2.2.2.2.1 n.1 none) hE hX hT hCs f c.2.1 true c.1 M C pc _ [] _ _ lv [] h r t _ h0 0 hM hC q2 hg hL trivial hf (fun _ => ?_) (fun _ g z => nomatch z) (hK _ _ _ _)
          intro pcJ ns' n' a1 a2 r' t' h' lv' a3 a4 a5 a6
          rcases a3 with a3 | ⟨-, g, -, a3, -⟩
          · exact ih pcJ ns' n' a1 a2 (by have a3 : n'.1 < n.1 := a3; omega) r' t' h' lv' a4 a5 a6
          · exact nomatch a3
        | some g =>
          rw [hcc] at q2
          have hgb : ∀ (n' : jc_Nd) (pcJ : Nat) (ns' : List jc_Nd) (r' : jc_R) (t' : jc_T) (h' : J_H), ja_n2 Z.2.2.2.2.2.1 pcJ = some ns' → n' ∈ ns' → n'.1 ≠ 0 → n'.2.1 = some g → jc_g Z.1 X r' t' n'.2.2.1 h' → g < n'.2.2.1.1 ∧ r' g ≤ Z.2.2.2.2.2.2 := by
            intro n' pcJ ns' r' t' h' a1 a2 a9 a3 a4
            have hq := (Bool.and_eq_true_iff.mp (hck pcJ ns' n' a1 a2 a9)).1
            unfold jc_ctb at hq
            rw [a3] at hq
            dsimp only at hq
            split at hq
            · rename_i b hb
              obtain ⟨b1, b2, b3⟩ := a4.1.2.2 _ (jc_lk_mem hb)
              have := jc_le_t hq
              exact ⟨b1, Int.le_trans b3 this⟩
            · cases hq
          have hg1 := hgb n pc ns r t h hn hmem hne hcc hg
          refine jc_run_ok (G := jc_cG Z c.2.2.2.2.1 n.1 (some g)) hE hX hT hCs f c.2.1 true c.1 M C pc _ [] _ _ lv [] h r t _ h0 (r g) hM hC q2 hg hL trivial hf (fun _ => ?_) (fun _ g' z => by cases z; exact ⟨hg1.1, rfl⟩) (hK _ _ _ _)
          intro pcJ ns' n' a1 a2 r' t' h' lv' a3 a4 a5 a6
          rcases a3 with a3 | ⟨b1, g', b2, b3, b4⟩
          · exact ih pcJ ns' n' a1 a2 (by have a3 : n'.1 < n.1 := a3; omega) r' t' h' lv' a4 a5 a6
          · cases b3
            have b1 : n'.1 = n.1 := b1
            have hne' : n'.1 ≠ 0 := by omega
            refine ihk pcJ ns' n' a1 a2 hne' (by omega) r' t' h' lv' (fun g2 hg2 => ?_) a4 a5 a6
            rw [b2] at hg2
            cases hg2
            have hk := hk g hcc
            have hg2 := hgb n' pcJ ns' r' t' h' a1 a2 hne' b2 a4
            omega
    by_cases c1 : n.1 < N
    · exact ih pc ns n hn hmem c1
    · intro r t h lv hg hL hf
      cases hcc : n.2.1 with
      | none => exact inner 0 pc ns n hn hmem hz (by omega) r t h lv (fun g z => by rw [hcc] at z; cases z) hg hL hf
      | some g => exact inner ((Z.2.2.2.2.2.2 - r g).toNat + 1) pc ns n hn hmem hz (by omega) r t h lv (fun g' z => by rw [hcc] at z; cases z; exact Nat.lt_succ_self _) hg hL hf
theorem jc_nds_ok {f : Nat} {c : jc_Cn} (hE : jc_Ok Z.1) (hX : jc_Xo Z.1 X) (hT : ∀ mj N' C', ja_n2 Z.2.2.1 mj = some (N', C') → ∃ M', j_meth P mj = some M' ∧ N' = ja_ab M' ∧ ja_Co P mj C') (hCs : ∀ c ∈ Z.2.2.2.1, jc_Con P Z.1 X c) (hm : jc_nds Z f c = true) (h0 : J_H) (hG : ∀ pc ns n, ja_n2 Z.2.2.2.2.2.1 pc = some ns → n ∈ ns → n.1 = 0 → jc_Nd9 P Z.1 X c h0 pc n) :
    ∀ (N : Nat) (pc : Nat) (ns : List jc_Nd) (n : jc_Nd), ja_n2 Z.2.2.2.2.2.1 pc = some ns → n ∈ ns → n.1 < N → jc_Nd9 P Z.1 X c h0 pc n := by
  refine jc_ndsH_ok (f := f) hE hX hT hCs ?_ h0 hG
  unfold jc_nds at hm
  split at hm
  · rename_i M C hM0
    refine ⟨M, C, hM0, fun pc ns n hn hmem hne => ?_⟩
    have hq := jc_all_ok (ja_ch2_ok hm hn) n hmem
    rcases Bool.or_eq_true_iff.mp hq with h | h
    · exact absurd (Nat.eq_of_beq_eq_true h) hne
    · exact h
  · cases hm
/-- a method up to its nodes, all of them given -/
theorem jc_mtg_ok {f : Nat} {c : jc_Cn} (hE : jc_Ok Z.1) (hX : jc_Xo Z.1 X) (hT : ∀ mj N' C', ja_n2 Z.2.2.1 mj = some (N', C') → ∃ M', j_meth P mj = some M' ∧ N' = ja_ab M' ∧ ja_Co P mj C') (hCs : ∀ c ∈ Z.2.2.2.1, jc_Con P Z.1 X c) (hm : jc_mtg Z f c = true) (hG : ∀ h0 pc ns n, ja_n2 Z.2.2.2.2.2.1 pc = some ns → n ∈ ns → jc_Nd9 P Z.1 X c h0 pc n) : jc_Con P Z.1 X c := by
  unfold jc_mtg at hm
  split at hm
  · rename_i M0 C hM0
    obtain ⟨M, hM, rfl, hC⟩ := hT _ _ _ hM0
    intro d hd r0 t0 h0 As hg0 hA0
    refine j_W.deep ?_ d hd
    have hK : ∀ (cur : Nat) (cc : Option Nat) (r : jc_R) (n : Nat), jc_Kok X (jc_cG Z c.2.2.2.2.1 cur cc) r n h0 (jc_fin Z.1 Z.2.1 c.2.2.2.2.2) (jc_Q Z.1 X c.2.2.2.2.1 c.2.2.2.2.2 h0) := fun cur cc r n r' t' A' o h' rv k1 _ _ k4 k5 k6 => ⟨k6, jc_fin_ok hE k1 k4 k5⟩
    refine jc_run_ok (G := jc_cG Z c.2.2.2.2.1 1000000 none) hE hX hT hCs f c.2.1 true c.1 M C 0 _ [] _ _ (lv_args 0 As) [] h0 r0 t0 _ h0 0 hM hC hm hg0 (jc_ags_ok hA0) trivial jc_fr.rf (fun _ => ?_) (fun _ g z => nomatch z) (hK _ _ _ _)
    intro pcJ ns' n' a1 a2 r' t' h' lv' _ a4 a5 a6
    exact hG h0 pcJ ns' n' a1 a2 r' t' h' lv' a4 a5 a6
  · cases hm
/-- fewer ends -/
theorem jc_Nd9.outs {E : jc_E} {c c' : jc_Cn} {h0 : J_H} {pc : Nat} {n : jc_Nd} (hn : jc_Nd9 P E X c h0 pc n) (e1 : c.1 = c'.1) (e2 : c.2.1 ≤ c'.2.1) (e3 : c.2.2.2.2.1 = c'.2.2.2.2.1) (e4 : ∀ o ∈ c.2.2.2.2.2, o ∈ c'.2.2.2.2.2) : jc_Nd9 P E X c' h0 pc n := by
  intro r t h lv hg hL hf
  rw [← e3] at hf
  rw [← e1, ← e3]
  refine j_W.deep ((hn r t h lv hg hL hf).mono ?_) _ e2
  rintro rv h' ⟨f1, o, o1, o2⟩
  exact ⟨f1, o, e4 o o1, o2⟩
end JCK
section JCK2
variable {E : jc_E} {X X' : J_H → Prop} {r : jc_R} {t t' : jc_T} {A : jc_A} {h : J_H}
/-- what a place holds -/
theorem jc_g.atO (hg : jc_g E X r t A h) {a i : Nat} {d : jc_Dd} {s : jc_v} (hd : ja_n2 E.1 a = some d) (hi : i < d.1.2.2) (hs : jc_lk A.2.2.1 (jc_key a i) = some s) : ∃ v, jc_at h a i = some v ∧ jc_val r A.1 s v := by
  obtain ⟨c, c1, c2, c3⟩ := hg.2.1 a d hd
  obtain ⟨v, hv⟩ := jc_get_some (c := c) (i := i) (by rw [c2]; exact hi)
  have := c3 i v hv
  unfold jc_cl at this
  rw [hs] at this
  exact ⟨v, by rw [jc_at_of c1]; exact hv, this⟩
/-- what a place holds, by its type -/
theorem jc_g.atT (hg : jc_g E X r t A h) {a i : Nat} {d : jc_Dd} {T : jc_Sg} (hd : ja_n2 E.1 a = some d) (hi : i < d.1.2.2) (hs : jc_lk A.2.2.1 (jc_key a i) = none) (hT : jc_sg d.2 i = some T) : ∃ v, jc_at h a i = some v ∧ jc_tv T.1 v := by
  obtain ⟨c, c1, c2, c3⟩ := hg.2.1 a d hd
  obtain ⟨v, hv⟩ := jc_get_some (c := c) (i := i) (by rw [c2]; exact hi)
  have := c3 i v hv
  unfold jc_cl at this
  rw [hs] at this
  exact ⟨v, by rw [jc_at_of c1]; exact hv, this T hT⟩
/-- a family that is on and shut -/
theorem jc_g.fam (hg : jc_g E X r t A h) (hF : A.2.2.2.1 = []) {f : Nat} {m : jc_Fa} (hm : ja_n2 E.2.1 f = some m) (ho : jc_off A.2.2.2.2.2 m.1 = false) : t f ∈ m.2.2.1 ∧ jc_in h m.2.1 (t f) := by
  have := hg.2.2.1 f m hm ho
  unfold jc_fm at this
  rw [hF] at this
  exact this
theorem jc_g.pot (hg : jc_g E X r t A h) (hQ : A.2.2.2.2.1 = []) {p : Nat} {m : jc_Po} (hm : ja_n2 E.2.2.1 p = some m) (ho : jc_off A.2.2.2.2.2 m.1 = false) : ∃ y : Int32, jc_at h m.2.1.1 m.2.1.2 = some (.int y) ∧ y.toInt + jc_sw t m.2.2.2.1 m.2.2.2.2 ≤ m.2.2.1 := by
  obtain ⟨x, x1, x2⟩ := hg.2.2.2.1 p m hm ho
  rw [hQ] at x1
  obtain ⟨y, y1, rfl⟩ := x1
  exact ⟨y, y1, x2⟩
/-- other tags -/
theorem jc_g.chg {O' : List Nat} (hg : jc_g E X r t A h) (hF : ∀ f m, ja_n2 E.2.1 f = some m → jc_off O' m.1 = false → t' f ∈ m.2.2.1 ∧ jc_in h m.2.1 (t' f)) (hP : ∀ p m, ja_n2 E.2.2.1 p = some m → jc_off O' m.1 = false → ∃ y : Int32, jc_at h m.2.1.1 m.2.1.2 = some (.int y) ∧ y.toInt + jc_sw t' m.2.2.2.1 m.2.2.2.2 ≤ m.2.2.1) (hX : X' h) : jc_g E X' r t' (A.1, A.2.1, A.2.2.1, [], [], O') h := by
  refine ⟨hg.1, hg.2.1, fun f m hm ho => ?_, fun p m hm ho => ?_, hX⟩
  · have := hF f m hm ho
    unfold jc_fm
    exact this
  · obtain ⟨y, y1, y2⟩ := hP p m hm ho
    exact ⟨y.toInt, ⟨y, y1, rfl⟩, y2⟩
/-- what places hold is told once more -/
theorem jc_g.adds (hE : jc_Ok E) : ∀ (l : List ((Nat × Nat) × jc_v)) {A : jc_A}, jc_g E X r t A h → (∀ e ∈ l, ∃ d v, ja_n2 E.1 e.1.1 = some d ∧ e.1.2 < d.1.2.2 ∧ jc_at h e.1.1 e.1.2 = some v ∧ jc_val r A.1 e.2 v) → jc_g E X r t (A.1, A.2.1, l.foldr (fun e O => (jc_key e.1.1 e.1.2, e.2) :: O) A.2.2.1, A.2.2.2) h
  | [], A, hg, _ => hg
  | e :: l, A, hg, hl => by
    obtain ⟨d, v, e1, e2, e3, e4⟩ := hl e List.mem_cons_self
    have ih := jc_g.adds hE l hg (fun e' he => hl e' (List.mem_cons_of_mem _ he))
    exact ih.addO hE e1 e2 e3 e4
/-- the state is told as T -/
theorem jc_g.to (hE : jc_Ok E) {T : jc_A} (hg : jc_g E X r t A h) (hj : (jc_arr E [] A [] T).isSome = true) : ∃ r' t', jc_g E X r' t' T h := by
  obtain ⟨th, hth⟩ := Option.isSome_iff_exists.mp hj
  obtain ⟨⟨t', ht'⟩, -⟩ := jc_arr_ok hE hg hth
  exact ⟨_, t', ht'⟩
theorem jc_in_ex {h : J_H} {c : Nat × Nat} {cs : List (Nat × Nat)} {q : Int × Int} {qs : List (Int × Int)} : jc_in h (c :: cs) (q :: qs) ↔ (∃ x : Int32, jc_at h c.1 c.2 = some (.int x) ∧ q.1 ≤ x.toInt ∧ x.toInt ≤ q.2) ∧ jc_in h cs qs := Iff.rfl
end JCK2
section JCK3
variable {P : j_P} {X : J_H → Prop} {Z : jc_Ce}
/-- nodes of one place -/
noncomputable def jc_ndc (Z : jc_Ce) (f : Nat) (c : jc_Cn) (pc : Nat) (ns : List jc_Nd) : Bool := match ja_n2 Z.2.2.1 c.1 with
  | some (M, C) => jc_mnd Z f c M C pc ns && jc_all (fun n => Nat.ble 1 n.1 && Nat.ble (n.1 + 1) 1000000) ns
  | none => false
theorem jc_all_app {α : Type} {p : α → Bool} : ∀ {a b : List α}, jc_all p a = true → jc_all p b = true → jc_all p (a ++ b) = true
  | [], _, _, h => h
  | x :: a, b, h1, h2 => by
    obtain ⟨k1, k2⟩ := Bool.and_eq_true_iff.mp (show (p x && jc_all p a) = true from h1)
    show (p x && jc_all p (a ++ b)) = true
    rw [k1, jc_all_app k2 h2]
    rfl
theorem jc_ndc_app {f pc : Nat} {c : jc_Cn} {a b : List jc_Nd} (h1 : jc_ndc Z f c pc a = true) (h2 : jc_ndc Z f c pc b = true) : jc_ndc Z f c pc (a ++ b) = true := by
  unfold jc_ndc at h1 h2 ⊢
  cases hq : ja_n2 Z.2.2.1 c.1 with
  | none =>
    rw [hq] at h1
    cases h1
  | some MC =>
    rw [hq] at h1 h2
    obtain ⟨a1, a2⟩ := Bool.and_eq_true_iff.mp (show (jc_mnd Z f c MC.1 MC.2 pc a && jc_all (fun n => Nat.ble 1 n.1 && Nat.ble (n.1 + 1) 1000000) a) = true from h1)
    obtain ⟨b1, b2⟩ := Bool.and_eq_true_iff.mp (show (jc_mnd Z f c MC.1 MC.2 pc b && jc_all (fun n => Nat.ble 1 n.1 && Nat.ble (n.1 + 1) 1000000) b) = true from h2)
    show (jc_mnd Z f c MC.1 MC.2 pc (a ++ b) && jc_all (fun n => Nat.ble 1 n.1 && Nat.ble (n.1 + 1) 1000000) (a ++ b)) = true
    rw [show jc_mnd Z f c MC.1 MC.2 pc (a ++ b) = true from jc_all_app a1 b1, jc_all_app a2 b2]
    rfl
/-- nodes checked one list after the other -/
theorem jc_ndsc_ok {f : Nat} {c : jc_Cn} (hE : jc_Ok Z.1) (hX : jc_Xo Z.1 X) (hT : ∀ mj N' C', ja_n2 Z.2.2.1 mj = some (N', C') → ∃ M', j_meth P mj = some M' ∧ N' = ja_ab M' ∧ ja_Co P mj C') (hCs : ∀ c ∈ Z.2.2.2.1, jc_Con P Z.1 X c) (hM : ∃ MC, ja_n2 Z.2.2.1 c.1 = some MC) (hn : ∀ pc ns, ja_n2 Z.2.2.2.2.2.1 pc = some ns → jc_ndc Z f c pc ns = true) (h0 : J_H) : ∀ pc ns n, ja_n2 Z.2.2.2.2.2.1 pc = some ns → n ∈ ns → jc_Nd9 P Z.1 X c h0 pc n := by
  intro pc ns n h1 h2
  have h3 : ∀ pc ns n, ja_n2 Z.2.2.2.2.2.1 pc = some ns → n ∈ ns → n.1 ≠ 0 ∧ n.1 < 1000000 := fun pc ns n h1 h2 => by
    have := hn pc ns h1
    unfold jc_ndc at this
    split at this
    · obtain ⟨-, a2⟩ := Bool.and_eq_true_iff.mp this
      obtain ⟨a3, a4⟩ := Bool.and_eq_true_iff.mp (jc_all_ok a2 n h2)
      have a3 := Nat.le_of_ble_eq_true a3
      have a4 := Nat.le_of_ble_eq_true a4
      omega
    · cases this
  refine jc_ndsH_ok (f := f) hE hX hT hCs ?_ h0 (fun pc ns n a1 a2 a3 => absurd a3 (h3 pc ns n a1 a2).1) 1000000 pc ns n h1 h2 (h3 pc ns n h1 h2).2
  obtain ⟨MC, hMC⟩ := hM
  refine ⟨MC.1, MC.2, hMC, fun pc ns n a1 a2 _ => ?_⟩
  have := hn pc ns a1
  unfold jc_ndc at this
  rw [hMC] at this
  exact jc_all_ok (Bool.and_eq_true_iff.mp this).1 n a2
/-- a method, its nodes checked one list after the other -/
theorem jc_mthc_ok {f : Nat} {c : jc_Cn} (hE : jc_Ok Z.1) (hX : jc_Xo Z.1 X) (hT : ∀ mj N' C', ja_n2 Z.2.2.1 mj = some (N', C') → ∃ M', j_meth P mj = some M' ∧ N' = ja_ab M' ∧ ja_Co P mj C') (hCs : ∀ c ∈ Z.2.2.2.1, jc_Con P Z.1 X c) (hs : jc_mtg Z f c = true) (hn : ∀ pc ns, ja_n2 Z.2.2.2.2.2.1 pc = some ns → jc_ndc Z f c pc ns = true) : jc_Con P Z.1 X c := by
  refine jc_mtg_ok hE hX hT hCs hs (fun h0 pc ns n h1 h2 => jc_ndsc_ok (f := f) hE hX hT hCs ?_ hn h0 pc ns n h1 h2)
  unfold jc_mtg at hs
  split at hs
  · rename_i M C hM
    exact ⟨_, hM⟩
  · cases hs
end JCK3

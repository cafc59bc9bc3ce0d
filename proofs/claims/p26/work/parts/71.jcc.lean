/-! JC: potentials behind an arrival; arriving; coming back from a call -/
section JCC
variable {E : jc_E} {X : J_H → Prop} {r : jc_R} {t : jc_T} {A T : jc_A} {h : J_H} {Hn : jc_Hn} {W : jc_W}
def jc_sd (g : Nat → Int) : List Nat → Int
  | [] => 0
  | f :: fs => g f + jc_sd g fs
theorem jc_fs_mem : ∀ {fs : List Nat} {g : Nat}, jc_fs E Hn A T fs = some g → g ∈ fs ∧ jc_kp E Hn A T g = false ∧ jc_ch E Hn A T g ≠ none
  | [], g, hj => by cases hj
  | f :: fs, g, hj => by
    have hj : (bif jc_kp E Hn A T f then jc_fs E Hn A T fs else match jc_ch E Hn A T f with
      | some _ => some f
      | none => jc_fs E Hn A T fs) = some g := hj
    cases hk : jc_kp E Hn A T f with
    | true =>
      rw [hk] at hj
      obtain ⟨a1, a2⟩ := jc_fs_mem hj
      exact ⟨List.mem_cons_of_mem _ a1, a2⟩
    | false =>
      rw [hk, cond_false] at hj
      split at hj
      · rename_i z hz
        cases hj
        exact ⟨List.mem_cons_self, hk, by rw [hz]; exact fun q => by cases q⟩
      · obtain ⟨a1, a2⟩ := jc_fs_mem hj
        exact ⟨List.mem_cons_of_mem _ a1, a2⟩
theorem jc_dl_pos (p : Nat) (mp : jc_Po) (f : Nat) : 0 ≤ jc_dl E Hn A T p mp f := by
  unfold jc_dl
  split
  · rename_i g _
    cases Nat.beq g f with
    | true =>
      rw [cond_true]
      split
      · exact (jc_mx_l _ _).2
      · exact Int.le_refl _
    | false => exact Int.le_refl _
  · exact Int.le_refl _
theorem jc_sd_pos {g : Nat → Int} (hg : ∀ f, 0 ≤ g f) : ∀ l, 0 ≤ jc_sd g l
  | [] => Int.le_refl _
  | f :: l => Int.add_nonneg (hg f) (jc_sd_pos hg l)
theorem jc_sd_mem {g : Nat → Int} (hg : ∀ f, 0 ≤ g f) {f : Nat} : ∀ {l : List Nat}, f ∈ l → g f ≤ jc_sd g l
  | [], h => nomatch h
  | x :: l, h => by
    show g f ≤ g x + jc_sd g l
    rcases List.mem_cons.mp h with rfl | h
    · have := jc_sd_pos hg l
      omega
    · have := jc_sd_mem hg h
      have := hg x
      omega
theorem jc_S2 {p : Nat} {mp : jc_Po} {d : Int} (hd : jc_Dp A p mp.2.1 = some d) (hj : (jc_le d 0 || (match jc_fs E Hn A T mp.2.2.2.2 with
      | some _ => true
      | none => false)) = true) : d ≤ jc_sd (jc_dl E Hn A T p mp) mp.2.2.2.2 := by
  have h0 := jc_sd_pos (jc_dl_pos (E := E) (Hn := Hn) (A := A) (T := T) p mp) mp.2.2.2.2
  rcases Bool.or_eq_true_iff.mp hj with hj | hj
  · have := jc_le_t hj
    omega
  · split at hj
    · rename_i g hg
      obtain ⟨g1, g2, g3⟩ := jc_fs_mem hg
      have h1 := jc_sd_mem (jc_dl_pos (E := E) (Hn := Hn) (A := A) (T := T) p mp) g1
      have h2 : jc_dl E Hn A T p mp g = jc_mx d 0 := by
        unfold jc_dl
        rw [hg]
        dsimp only
        rw [jc_beq, cond_true, hd]
      have h3 := (jc_mx_l d 0).1
      omega
    · cases hj
theorem jc_S1 {t' : jc_T} {p : Nat} {mp : jc_Po} (hE : jc_Ok E) (ht : ∀ f, jc_tP E Hn A T t h f (t' f)) (hm : ja_n2 E.2.2.1 p = some mp) (hoT : jc_off T.2.2.2.2.2 mp.1 = false) (hoA : jc_off A.2.2.2.2.2 mp.1 = false) : ∀ {l : List Nat}, (∀ f ∈ l, f ∈ mp.2.2.2.2) → jc_sw t' mp.2.2.2.1 l + jc_sd (jc_dl E Hn A T p mp) l ≤ jc_sw t mp.2.2.2.1 (jc_chs E Hn A T l)
  | [], _ => Int.le_refl _
  | f :: l, hl => by
    have ih := jc_S1 hE ht hm hoT hoA (l := l) (fun x hx => hl x (List.mem_cons_of_mem _ hx))
    have e : jc_chs E Hn A T (f :: l) = (match jc_ch E Hn A T f with
      | some g => g :: jc_chs E Hn A T l
      | none => jc_chs E Hn A T l) := rfl
    show jc_w mp.2.2.2.1 (t' f) + jc_sw t' mp.2.2.2.1 l + (jc_dl E Hn A T p mp f + jc_sd (jc_dl E Hn A T p mp) l) ≤ _
    rw [e]
    cases hk : jc_kp E Hn A T f with
    | true =>
      have hch : jc_ch E Hn A T f = some f := by unfold jc_ch; rw [hk]; rfl
      have hdl : jc_dl E Hn A T p mp f = 0 := by
        unfold jc_dl
        split
        · rename_i g hg
          cases hb : Nat.beq g f with
          | false => rfl
          | true =>
            have := (jc_fs_mem hg).2.1
            rw [Nat.eq_of_beq_eq_true hb, hk] at this
            cases this
        · rfl
      rw [hch, (ht f).1 hk, hdl]
      show _ ≤ jc_w mp.2.2.2.1 (t f) + jc_sw t mp.2.2.2.1 (jc_chs E Hn A T l)
      omega
    | false =>
      have hmf : ∃ m, ja_n2 E.2.1 f = some m := by
        cases hm2 : ja_n2 E.2.1 f with
        | none =>
          unfold jc_kp at hk
          rw [hm2] at hk
          cases hk
        | some m => exact ⟨m, rfl⟩
      obtain ⟨m, hmf⟩ := hmf
      obtain ⟨-, -, hw⟩ := (ht f).2 hk m hmf
      have hw := hw p (hE.2.2.2.1 f m hmf p mp hm (hl f List.mem_cons_self))
      unfold jc_wt1 at hw
      rw [hm] at hw
      dsimp only at hw
      rw [hoT, hoA, cond_false, cond_false] at hw
      split at hw
      · rename_i hch
        rw [hch]
        have hdl : jc_dl E Hn A T p mp f = 0 := by
          unfold jc_dl
          split
          · rename_i g hg
            cases hb : Nat.beq g f with
            | false => rfl
            | true =>
              have := (jc_fs_mem hg).2.2
              rw [Nat.eq_of_beq_eq_true hb] at this
              exact absurd hch this
          · rfl
        have hw := jc_le_t hw
        rw [hdl]
        dsimp only
        omega
      · rename_i g hch
        rw [hch]
        have hsr : jc_sr t A Hn f = t g := by
          unfold jc_ch at hch
          rw [hk, cond_false] at hch
          cases hz : (jc_hn Hn f).2 with
          | true => rw [hz] at hch; cases hch
          | false =>
            rw [hz, cond_false] at hch
            unfold jc_sr
            split at hch
            · rename_i e he
              cases hch
              rfl
            · cases hch
        rw [hsr] at hw
        have hw := jc_le_t hw
        show _ ≤ jc_w mp.2.2.2.1 (t g) + jc_sw t mp.2.2.2.1 (jc_chs E Hn A T l)
        omega
theorem jc_S4 {t' : jc_T} {k : Nat} {c n : Int} : ∀ {l : List Nat}, (∀ f ∈ l, n * jc_w k (t' f) ≤ c) → n * jc_sw t' k l ≤ l.length * c
  | [], _ => by show n * 0 ≤ ((0 : Nat) : Int) * c; simp
  | f :: l, hl => by
    have ih := jc_S4 (l := l) (fun x hx => hl x (List.mem_cons_of_mem _ hx))
    have h1 := hl f List.mem_cons_self
    show n * (jc_w k (t' f) + jc_sw t' k l) ≤ ((l.length + 1 : Nat) : Int) * c
    rw [Int.mul_add, Int.natCast_add, Int.add_mul]
    have : ((1 : Nat) : Int) * c = c := by simp
    omega
theorem jc_clo_gP {t' : jc_T} {r' : jc_R} (hE : jc_Ok E) (hB : jc_gB r A.1 A.2.1) (hC : jc_gC E r A h) (hP : jc_gP E r t A h) (hTQ : T.2.2.2.2.1 = []) (ht : ∀ f, jc_tP E Hn A T t h f (t' f)) (hj : jc_clo E Hn A T = true) : jc_gP E r' t' T h := by
  intro p mp hm ho
  unfold jc_po
  rw [hTQ]
  show ∃ x : Int, (∃ y : Int32, jc_at h mp.2.1.1 mp.2.1.2 = some (.int y) ∧ x = y.toInt) ∧ x + jc_sw t' mp.2.2.2.1 mp.2.2.2.2 ≤ mp.2.2.1
  have hcell : ∀ q, jc_lk A.2.2.1 (jc_key mp.2.1.1 mp.2.1.2) = some (.inl q) → ∃ y : Int32, jc_at h mp.2.1.1 mp.2.1.2 = some (.int y) ∧ y.toInt = r q.1 + q.2 := by
    intro q hq
    obtain ⟨d, g, d1, d2, -⟩ := hE.2.2.1 p mp hm
    obtain ⟨c, c1, c2, c3⟩ := hC _ d d1
    obtain ⟨v, hv⟩ := jc_get_some (c := c) (i := mp.2.1.2) (by rw [c2]; exact d2)
    have := c3 _ v hv
    unfold jc_cl at this
    rw [hq] at this
    obtain ⟨y, rfl, y1, y2⟩ := jc_val.int this
    exact ⟨y, by rw [jc_at_of c1]; exact hv, y2⟩
  rcases jc_clo_P hE hj hm ho with hpk | ⟨hQ, hoA, hall⟩
  · unfold jc_pk at hpk
    rw [hm] at hpk
    dsimp only at hpk
    rw [ho, cond_false] at hpk
    cases hoA : jc_off A.2.2.2.2.2 mp.1 with
    | true =>
      rw [hoA, cond_true] at hpk
      obtain ⟨p1, p2⟩ := Bool.and_eq_true_iff.mp hpk
      split at p2
      · rename_i q hq
        split at p2
        · rename_i b hb
          obtain ⟨y, y1, y2⟩ := hcell q hq
          obtain ⟨b1, b2⟩ := jc_bd_i hB y2 hb
          refine ⟨y.toInt, ⟨y, y1, rfl⟩, ?_⟩
          have p2 := jc_le_t p2
          have hw : ∀ f ∈ mp.2.2.2.2, (mp.2.2.2.2.length : Int) * jc_w mp.2.2.2.1 (t' f) ≤ mp.2.2.1 - b.2 := by
            intro f hf
            have hk : jc_kp E Hn A T f = false := by simpa using jc_all_ok p1 f hf
            have hmf : ∃ m, ja_n2 E.2.1 f = some m := by
              cases hm2 : ja_n2 E.2.1 f with
              | none =>
                unfold jc_kp at hk
                rw [hm2] at hk
                cases hk
              | some m => exact ⟨m, rfl⟩
            obtain ⟨m, hmf⟩ := hmf
            obtain ⟨-, -, hw⟩ := (ht f).2 hk m hmf
            have hw := hw p (hE.2.2.2.1 f m hmf p mp hm hf)
            unfold jc_wt1 at hw
            rw [hm] at hw
            dsimp only at hw
            rw [ho, hoA, cond_false, cond_true, hq] at hw
            dsimp only at hw
            rw [hb] at hw
            have := jc_le_t hw
            omega
          have h4 := jc_S4 hw
          by_cases hl : mp.2.2.2.2 = []
          · rw [hl]
            show y.toInt + 0 ≤ mp.2.2.1
            omega
          · have hlen : 0 < (mp.2.2.2.2.length : Int) := by
              have := List.length_pos_iff.mpr hl
              omega
            have := Int.le_of_mul_le_mul_left h4 hlen
            omega
        · cases p2
      · cases p2
    | false =>
      rw [hoA, cond_false] at hpk
      split at hpk
      · cases hpk
      · rename_i d hd
        obtain ⟨p1, p2⟩ := Bool.and_eq_true_iff.mp hpk
        obtain ⟨p2, p3⟩ := Bool.and_eq_true_iff.mp p2
        have hS2 := jc_S2 hd p1
        have hS1 := jc_S1 hE ht hm ho hoA (l := mp.2.2.2.2) (fun f hf => hf)
        have hS3 := jc_sw_nd t mp.2.2.2.1 p2 (F := mp.2.2.2.2) (fun x hx => jc_inl_ok (jc_all_ok p3 x hx))
        obtain ⟨x, x1, x2⟩ := hP p mp hm hoA
        have hx : ∃ y : Int32, jc_at h mp.2.1.1 mp.2.1.2 = some (.int y) ∧ y.toInt ≤ x + d := by
          unfold jc_Dp at hd
          split at hd
          · rename_i hQ
            rw [hQ] at x1
            obtain ⟨y, y1, y2⟩ := x1
            cases hd
            exact ⟨y, y1, by omega⟩
          · rename_i q hQ
            rw [hQ] at x1
            obtain ⟨x3, x4⟩ := x1
            split at hd
            · rename_i q' hq'
              obtain ⟨y, y1, y2⟩ := hcell q' hq'
              refine ⟨y, y1, ?_⟩
              cases hb : Nat.beq q'.1 q.1 with
              | true =>
                rw [hb] at hd
                cases hd
                rw [Nat.eq_of_beq_eq_true hb] at y2
                omega
              | false =>
                rw [hb, cond_false] at hd
                split at hd
                · rename_i b' b hb' hb2
                  cases hd
                  have := jc_bd_ok hB hb'
                  have := jc_bd_ok hB hb2
                  omega
                · cases hd
            · cases hd
        obtain ⟨y, y1, y2⟩ := hx
        exact ⟨y.toInt, ⟨y, y1, rfl⟩, by omega⟩
  · obtain ⟨x, x1, x2⟩ := hP p mp hm hoA
    rw [hQ] at x1
    have : ∀ l : List Nat, (∀ f ∈ l, jc_kp E Hn A T f = true) → jc_sw t' mp.2.2.2.1 l = jc_sw t mp.2.2.2.1 l := by
      intro l
      induction l with
      | nil => intro _; rfl
      | cons f l ih =>
        intro hl
        show jc_w _ (t' f) + jc_sw t' _ l = jc_w _ (t f) + jc_sw t _ l
        rw [(ht f).1 (hl f List.mem_cons_self), ih (fun x hx => hl x (List.mem_cons_of_mem _ hx))]
    exact ⟨x, x1, by rw [this _ hall]; exact x2⟩
/-- arriving -/
noncomputable def jc_mtk (E : jc_E) (l : List (Nat × jc_v)) : jc_A → Option jc_A := List.rec (motive := fun _ => jc_A → Option jc_A) (fun A => some A) (fun e _ ih A => match jc_mat E A (Nat.div e.1 8192) (Nat.mod e.1 8192) with
  | some (_, A1) => ih A1
  | none => none) l
theorem jc_mtk_ok (hE : jc_Ok E) : ∀ {l : List (Nat × jc_v)} {r : jc_R} {A A' : jc_A}, jc_g E X r t A h → jc_mtk E l A = some A' → ∃ r', jc_ext A.1 r r' ∧ A.1 ≤ A'.1 ∧ jc_g E X r' t A' h
  | [], r, A, A', hg, hm => by
    cases hm
    exact ⟨r, jc_ext.rf, Nat.le_refl _, hg⟩
  | e :: l, r, A, A', hg, hm => by
    have hm : (match jc_mat E A (Nat.div e.1 8192) (Nat.mod e.1 8192) with
      | some (_, A1) => jc_mtk E l A1
      | none => none) = some A' := hm
    split at hm
    · rename_i s A1 h1
      obtain ⟨r1, e1, n1, g1, -⟩ := jc_mat_ok hE hg h1
      obtain ⟨r2, e2, n2, g2⟩ := jc_mtk_ok hE g1 hm
      exact ⟨r2, e1.tr e2 n1, Nat.le_trans n1 n2, g2⟩
    · cases hm
def jc_nil {α : Type} : List α → Bool
  | [] => true
  | _ :: _ => false
noncomputable def jc_ops (A T : jc_A) : List (jc_v × jc_v) := List.rec (motive := fun _ => List (jc_v × jc_v)) [] (fun e _ ih => match jc_lk A.2.2.1 e.1 with
  | some s => (e.2, s) :: ih
  | none => ih) T.2.2.1
/-- the state comes to T: with these values for those (pairs), by these symbols -/
noncomputable def jc_arr (E : jc_E) (Hn : jc_Hn) (A : jc_A) (ps : List (jc_v × jc_v)) (T : jc_A) : Option (List (Nat × Nat × Int)) :=
  match jc_th (ps ++ jc_ops A T) with
  | th => bif jc_nil T.2.2.2.1 && (jc_nil T.2.2.2.2.1 && (jc_all (fun e => jc_eqv A.2.1 th T.1 e.1 e.2) ps && (jc_bds A.2.1 th T.1 T.2.1 && (jc_cls E A th T && jc_clo E Hn A T)))) then some th else none
theorem jc_nil_ok {α : Type} {l : List α} (h : jc_nil l = true) : l = [] := by
  cases l with
  | nil => rfl
  | cons x l => cases h
theorem jc_arr_ok {ps : List (jc_v × jc_v)} {th : List (Nat × Nat × Int)} (hE : jc_Ok E) (hg : jc_g E X r t A h) (hj : jc_arr E Hn A ps T = some th) : (∃ t', jc_g E X (jc_rT r th) t' T h) ∧ ∀ e ∈ ps, ∀ v, jc_val r A.1 e.2 v → jc_val (jc_rT r th) T.1 e.1 v := by
  unfold jc_arr at hj
  dsimp only at hj
  generalize hth : jc_th (ps ++ jc_ops A T) = th0 at hj
  cases hc : jc_nil T.2.2.2.1 && (jc_nil T.2.2.2.2.1 && (jc_all (fun e => jc_eqv A.2.1 th0 T.1 e.1 e.2) ps && (jc_bds A.2.1 th0 T.1 T.2.1 && (jc_cls E A th0 T && jc_clo E Hn A T)))) with
  | false => rw [hc] at hj; cases hj
  | true =>
    rw [hc] at hj
    cases hj
    obtain ⟨c1, hc⟩ := Bool.and_eq_true_iff.mp hc
    obtain ⟨c2, hc⟩ := Bool.and_eq_true_iff.mp hc
    obtain ⟨c3, hc⟩ := Bool.and_eq_true_iff.mp hc
    obtain ⟨c4, hc⟩ := Bool.and_eq_true_iff.mp hc
    obtain ⟨c5, c6⟩ := Bool.and_eq_true_iff.mp hc
    obtain ⟨g1, g2, g3, g4, g5⟩ := hg
    obtain ⟨t', ht⟩ := jc_tP_ex hE g1 g2 g3 c6
    exact ⟨⟨t', jc_bds_ok g1 c4, jc_cls_ok hE g1 g2 c5, jc_clo_gF hE g2 g3 (jc_nil_ok c1) ht, jc_clo_gP hE g1 g2 g4 (jc_nil_ok c2) ht c6, g5⟩, fun e he v hv => jc_eqv_ok g1 hv (jc_all_ok c3 e he)⟩
end JCC

/-! more depth does no harm; a method out of its nodes -/
theorem j_moreD (P : j_P) : ∀ (f d mi pc : Nat) (lv : J_L) (st : List Value) (h : J_H) (x : Option Value × J_H), j_run P f d mi pc lv st h = some x → j_run P f (d + 1) mi pc lv st h = some x := by
  intro f
  induction f with
  | zero => intro d mi pc lv st h x hj; cases hj
  | succ f ih =>
    intro d mi pc lv st h x hj
    unfold j_run at hj ⊢
    split at hj
    · rename_i M ins hM hins
      try rw [hM, hins]
      try dsimp only
      split at hj
      · rename_i hk
        try rw [hk]
        exact hj
      · rename_i hk
        try rw [hk]
        try dsimp only
        split at hj
        · rename_i y hi
          try rw [hi]
          try dsimp only
          split at hj
          · rename_i stJ ho
            try rw [ho]
            exact ih _ _ _ _ _ _ _ hj
          · cases hj
        · rename_i y hi
          try rw [hi]
          try dsimp only
          split at hj
          · rename_i stJ h' ho
            try rw [ho]
            exact ih _ _ _ _ _ _ _ hj
          · cases hj
        · rename_i y hi
          try rw [hi]
          try dsimp only
          split at hj
          · rename_i stJ ho
            try rw [ho]
            exact ih _ _ _ _ _ _ _ hj
          · cases hj
        · rename_i y hi
          try rw [hi]
          try dsimp only
          split at hj
          · rename_i stJ ho
            try rw [ho]
            exact ih _ _ _ _ _ _ _ hj
          · cases hj
        · rename_i md mj n1 n2 n3 n4 hi
          try rw [hi]
          split at hj
          · rename_i d' N hN
            try rw [hN]
            try dsimp only
            split at hj
            · rename_i As rest hsp
              try rw [hsp]
              try dsimp only
              split at hj
              · rename_i r1 h1 hc
                rw [ih _ _ _ _ _ _ _ hc]
                exact ih _ _ _ _ _ _ _ hj
              · cases hj
            · cases hj
          · cases hj
        · cases hj
      · rename_i k9 k10
        split at hj
        · rename_i pcJ lv' stJ h' ho
          try rw [ho]
          exact ih _ _ _ _ _ _ _ hj
        · cases hj
    · cases hj
theorem j_W.deep {P : j_P} {d mi pc : Nat} {lv : J_L} {st : List Value} {h : J_H} {Q : Option Value → J_H → Prop} (k : j_W P d mi pc lv st h Q) : ∀ d' : Nat, d ≤ d' → j_W P d' mi pc lv st h Q := by
  obtain ⟨f, r, hf, h1, h2⟩ := k
  intro d' hd
  obtain ⟨n, rfl⟩ : ∃ n, d' = d + n := ⟨d' - d, by omega⟩
  clear hd
  refine ⟨f, r, hf, ?_, h2⟩
  induction n with
  | zero => exact h1
  | succ n ih => exact j_moreD P _ _ _ _ _ _ _ _ ih
def jb_args : Nat → List jb_V → jb_L
  | _, [] => []
  | i, t :: r => (i, t) :: jb_args (bif jb_isL t then i + 2 else i + 1) r
theorem jb_cat2 {G : List Nat} {t : jb_V} {v : Value} (h : jb_v G t v) : v.category = bif jb_isL t then 2 else 1 := by
  rcases t with q | _ | q
  · obtain ⟨x, rfl, -⟩ := jb_int h; rfl
  · obtain ⟨x, rfl⟩ := jb_long h; rfl
  · cases v <;> first | exact h.elim | rfl
theorem jb_args_low : ∀ {A : List jb_V} {i : Nat} {q : Nat × jb_V}, q ∈ jb_args i A → i ≤ q.1
  | [], i, q, h => nomatch h
  | t :: r, i, q, h => by
    rcases List.mem_cons.mp h with rfl | h
    · exact Nat.le_refl _
    · have h1 := jb_args_low h
      cases ht : jb_isL t with
      | true => rw [ht, cond_true] at h1; omega
      | false => rw [ht, cond_false] at h1; omega
theorem jb_args_ok {G : List Nat} : ∀ {A : List jb_V} {as : List Value} {i : Nat}, jb_vs G A as → jb_lv G (jb_args i A) (lv_args i as)
  | [], [], i, _ => fun q hq => nomatch hq
  | t :: A, v :: as, i, h => by
    have hc := jb_cat2 h.1
    have e : lv_args i (v :: as) = (i, v) :: lv_args (bif jb_isL t then i + 2 else i + 1) as := by
      simp only [lv_args, hc]
      cases jb_isL t <;> rfl
    rw [e]
    intro q hq
    rcases List.mem_cons.mp hq with rfl | hq
    · exact ⟨v, by unfold j_ld; rw [if_pos rfl], h.1⟩
    · obtain ⟨w, w1, w2⟩ := jb_args_ok h.2 q hq
      have hlow := jb_args_low hq
      refine ⟨w, ?_, w2⟩
      unfold j_ld
      rw [if_neg (fun z => by
        cases ht : jb_isL t with
        | true => rw [ht, cond_true] at hlow; omega
        | false => rw [ht, cond_false] at hlow; omega)]
      exact w1
  | [], v :: as, i, h => h.elim
  | t :: A, [], i, h => h.elim
/-- a method's certificate: its nodes, and its start -/
noncomputable def jb_meth (Cs : List jb_Cn) (T : ja_T) (K : jb_Ks) (N : jb_N) (f : Nat) (c : jb_Cn) : Bool := match ja_n2 T c.1 with
  | some (M, C) => ja_ch2 (fun pc ns => ns.all fun n => jb_run Cs T K N n.1 c.2.2.2 M C c.2.1 f pc n.2 []) N && jb_run Cs T K N 1000000 c.2.2.2 M C c.2.1 f 0 (jb_args 0 c.2.2.1) []
  | none => false
theorem jb_meth_ok {P : j_P} {Cs : List jb_Cn} {T : ja_T} {K : jb_Ks} {G : List Nat} {N : jb_N} {f : Nat} {c : jb_Cn} (hT : ∀ mj N' C', ja_n2 T mj = some (N', C') → ∃ M', j_meth P mj = some M' ∧ N' = ja_ab M' ∧ ja_Co P mj C') (hCs : ∀ c ∈ Cs, jb_Con P K G c) (hm : jb_meth Cs T K N f c = true) : jb_Con P K G c := by
  unfold jb_meth at hm
  split at hm
  · rename_i M0 C hM0
    obtain ⟨M, hM, rfl, hC⟩ := hT _ _ _ hM0
    obtain ⟨h1, h2⟩ := Bool.and_eq_true_iff.mp hm
    have hnode : ∀ (r pc : Nat) (ns : List (Nat × jb_L)) (n : Nat × jb_L), ja_n2 N pc = some ns → n ∈ ns → n.1 < r → ∀ (h : J_H) (lv : J_L), jb_T K G h → jb_lv G n.2 lv → j_W P c.2.1 c.1 pc lv [] h (jb_Q K G c.2.2.2) := by
      intro r
      induction r with
      | zero => intro pc ns n _ _ hr; exact absurd hr (Nat.not_lt_zero _)
      | succ r ih =>
        intro pc ns n hn hm hr h lv hH hL
        have hq := List.all_eq_true.mp (ja_ch2_ok h1 hn) n hm
        exact jb_run_ok hM hC hT hCs (fun pcJ ns' n' a b d => ih pcJ ns' n' a b (by omega)) f pc n.2 [] lv [] h hq hH hL trivial
    intro d hd h As hH hA
    refine j_W.deep ?_ d hd
    exact jb_run_ok hM hC hT hCs (fun pcJ ns' n' a b d => hnode _ pcJ ns' n' a b d) f 0 (jb_args 0 c.2.2.1) [] (lv_args 0 As) [] h h2 hH (jb_args_ok hA) trivial
  · cases hm

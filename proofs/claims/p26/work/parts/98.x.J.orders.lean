/-! orders told by their first n places: the reference's next order -/
abbrev aG5 (n : Nat) (a b : List Int32) : Prop := ∀ k, k < n → gN a k = gN b k
def itN (g : Int32 → Int32) (v : Int32) : Nat → Int32
  | 0 => v
  | j + 1 => itN g (g v) j
theorem itN_s (g : Int32 → Int32) (v : Int32) (j : Nat) : itN g v (j + 1) = itN g (g v) j := rfl
def dnN (v : Int32) (j : Nat) : Int32 := itN (fun z => z + (-1)) v j
def upN (v : Int32) (j : Nat) : Int32 := itN (fun z => z + 1) v j
theorem dnN_s (v : Int32) (j : Nat) : dnN v (j + 1) = dnN (v + (-1)) j := itN_s _ _ _
theorem upN_s (v : Int32) (j : Nat) : upN v (j + 1) = upN (v + 1) j := itN_s _ _ _
theorem aG5.z {n : Nat} {a b : List Int32} (h : aG5 n a b) {z : Int32} (hz : z.toNatClampNeg < n) : gA a z = gA b z := h _ hz
theorem noA_c {a b : List Int32} : ∀ f v, (∀ j, j ≤ f → ¬ dnN v j < 0 → gA a (dnN v j) = gA b (dnN v j) ∧ gA a (dnN v j + 1) = gA b (dnN v j + 1)) → m_noA a f v = m_noA b f v ∧ ∃ j, j ≤ f ∧ m_noA a f v = dnN v j
  | 0, v, _ => ⟨rfl, 0, Nat.le_refl _, rfl⟩
  | f + 1, v, h => by
    unfold m_noA
    by_cases c0 : v < 0
    · rw [if_pos c0, if_pos c0]; exact ⟨rfl, 0, Nat.zero_le _, rfl⟩
    rw [if_neg c0, if_neg c0, ← (show gA a v = gA b v from (h 0 (Nat.zero_le _) c0).1), ← (show gA a (v + 1) = gA b (v + 1) from (h 0 (Nat.zero_le _) c0).2)]
    by_cases c : gA a (v + 1) < gA a v
    · rw [if_pos c, if_pos c]
      obtain ⟨e, j, h1, h2⟩ := noA_c f (v + (-1)) (fun j hj => by have q := h (j + 1) (by omega); rw [dnN_s] at q; exact q)
      exact ⟨e, j + 1, by omega, by rw [dnN_s]; exact h2⟩
    · rw [if_neg c, if_neg c]; exact ⟨rfl, 0, Nat.zero_le _, rfl⟩
theorem noB_c {a b : List Int32} {v : Int32} (hv : gA a v = gA b v) : ∀ f v3, (∀ j, j ≤ f → gA a (dnN v3 j) = gA b (dnN v3 j)) → m_noB a v f v3 = m_noB b v f v3 ∧ (m_pB a v f v3 ↔ m_pB b v f v3) ∧ ∃ j, j ≤ f ∧ m_noB a v f v3 = dnN v3 j
  | 0, v3, h => by
    refine ⟨rfl, ?_, 0, Nat.le_refl _, rfl⟩
    unfold m_pB
    rw [hv, show gA a v3 = gA b v3 from h 0 (Nat.le_refl _)]
  | f + 1, v3, h => by
    unfold m_noB m_pB
    rw [hv, show gA a v3 = gA b v3 from h 0 (Nat.zero_le _)]
    obtain ⟨e, g, j, h1, h2⟩ := noB_c hv f (v3 + (-1)) (fun j hj => by have q := h (j + 1) (by omega); rw [dnN_s] at q; exact q)
    refine ⟨by rw [e], by rw [g], ?_⟩
    by_cases c : gA b v3 < gA b v
    · rw [if_pos c]; exact ⟨j + 1, by omega, by rw [dnN_s]; exact h2⟩
    · rw [if_neg c]; exact ⟨0, Nat.zero_le _, rfl⟩
theorem trd_c {n : Nat} {a b : List Int32} (h : aG5 n a b) (h5 : n ≤ 5) (la : a.length = 5) (lb : b.length = 5) {x y : Int32} (hx : x.toNatClampNeg < n) (hy : y.toNatClampNeg < n) : aG5 n (m_trades a x y) (m_trades b x y) ∧ (m_trades a x y).length = 5 ∧ (m_trades b x y).length = 5 := by
  refine ⟨fun k hk => ?_, ?_, ?_⟩
  · show gN ((a.set x.toNatClampNeg (gA a y)).set y.toNatClampNeg (gA a x)) k = gN ((b.set x.toNatClampNeg (gA b y)).set y.toNatClampNeg (gA b x)) k
    rw [h.z hx, h.z hy]
    by_cases c : y.toNatClampNeg = k
    · rw [c, gN_eq (by rw [List.length_set]; omega), gN_eq (by rw [List.length_set]; omega)]
    · rw [gN_ne c, gN_ne c]
      by_cases d : x.toNatClampNeg = k
      · rw [d, gN_eq (by omega), gN_eq (by omega)]
      · rw [gN_ne d, gN_ne d]; exact h k hk
  · show ((a.set _ _).set _ _).length = 5
    rw [List.length_set, List.length_set]; exact la
  · show ((b.set _ _).set _ _).length = 5
    rw [List.length_set, List.length_set]; exact lb
theorem noC_c {n : Nat} (h5 : n ≤ 5) : ∀ f v4 v5 (a b : List Int32), aG5 n a b → a.length = 5 → b.length = 5 → (∀ j, j < f → upN v4 j < dnN v5 j → (upN v4 j).toNatClampNeg < n ∧ (dnN v5 j).toNatClampNeg < n) → aG5 n (m_noC f v4 v5 a) (m_noC f v4 v5 b) ∧ (m_noC f v4 v5 a).length = 5 ∧ (m_noC f v4 v5 b).length = 5
  | 0, _, _, _, _, h, la, lb, _ => ⟨h, la, lb⟩
  | f + 1, v4, v5, a, b, h, la, lb, hz => by
    unfold m_noC
    by_cases c : v4 < v5
    · rw [if_pos c, if_pos c]
      obtain ⟨z1, z2⟩ := hz 0 (Nat.succ_pos _) c
      obtain ⟨t1, t2, t3⟩ := trd_c h h5 la lb (x := v4) (y := v5) z1 z2
      exact noC_c h5 f _ _ _ _ t1 t2 t3 (fun j hj => by have q := hz (j + 1) (by omega); rw [dnN_s, upN_s] at q; exact q)
    · rw [if_neg c, if_neg c]; exact ⟨h, la, lb⟩
theorem dn_a : ∀ n : Fin 6, ∀ j : Fin 6, ¬ dnN (nI n.val - 2) j.val < 0 → (dnN (nI n.val - 2) j.val).toNatClampNeg < n.val ∧ (dnN (nI n.val - 2) j.val + 1).toNatClampNeg < n.val ∧ lpN (nI n.val - 1) (dnN (nI n.val - 2) j.val + 1) < 6 := by decide +kernel
theorem dn_b : ∀ n : Fin 6, ∀ j : Fin 6, 1 ≤ n.val → (dnN (nI n.val - 1) j.val).toNatClampNeg < n.val := by decide +kernel
theorem dn_c : ∀ n : Fin 6, ∀ j : Fin 6, ∀ i : Fin 6, ¬ dnN (nI n.val - 2) j.val < 0 → upN (dnN (nI n.val - 2) j.val + 1) i.val < dnN (nI n.val - 1) i.val → (upN (dnN (nI n.val - 2) j.val + 1) i.val).toNatClampNeg < n.val ∧ (dnN (nI n.val - 1) i.val).toNatClampNeg < n.val := by decide +kernel
/-- the next order depends on the first n places alone -/
theorem nx_c {n : Nat} {a b : List Int32} (h : aG5 n a b) (h5 : n ≤ 5) (la : a.length = 5) (lb : b.length = 5) : (m_next_ a (nI n)).1 = (m_next_ b (nI n)).1 ∧ aG5 n (m_next_ a (nI n)).2 (m_next_ b (nI n)).2 ∧ (m_next_ a (nI n)).2.length = 5 ∧ (m_next_ b (nI n)).2.length = 5 ∧ (m_nxok a (nI n) → m_nxok b (nI n)) := by
  obtain ⟨e2, j2, hj2, d2⟩ := noA_c (a := a) (b := b) 5 (nI n - 2) (fun j hj c => ⟨h.z (dn_a ⟨n, by omega⟩ ⟨j, by omega⟩ c).1, h.z (dn_a ⟨n, by omega⟩ ⟨j, by omega⟩ c).2.1⟩)
  have e2 : m_nx2 a (nI n) = m_nx2 b (nI n) := e2
  have d2 : m_nx2 a (nI n) = dnN (nI n - 2) j2 := d2
  by_cases c : m_nx2 a (nI n) < 0
  · have ea : m_next_ a (nI n) = (0, a) := if_pos c
    have eb : m_next_ b (nI n) = (0, b) := if_pos (by rw [← e2]; exact c)
    rw [ea, eb]
    exact ⟨rfl, h, la, lb, fun z => ⟨z.1, fun g => absurd (by rw [← e2]; exact c) g⟩⟩
  have c' := c
  rw [d2] at c'
  obtain ⟨a1, a2, a3⟩ := dn_a ⟨n, by omega⟩ ⟨j2, by omega⟩ c'
  have a1 : (dnN (nI n - 2) j2).toNatClampNeg < n := a1
  have hn : 1 ≤ n := by omega
  have hv : gA a (m_nx2 a (nI n)) = gA b (m_nx2 a (nI n)) := by rw [d2]; exact h.z a1
  obtain ⟨e3, g3, j3, hj3, d3⟩ := noB_c (a := a) (b := b) hv 5 (nI n - 1) (fun j hj => h.z (dn_b ⟨n, by omega⟩ ⟨j, by omega⟩ hn))
  have e3 : m_nx3 a (nI n) = m_nx3 b (nI n) := by show m_noB a (m_nx2 a (nI n)) 5 _ = m_noB b (m_nx2 b (nI n)) 5 _; rw [← e2]; exact e3
  have d3 : m_nx3 a (nI n) = dnN (nI n - 1) j3 := d3
  have ea : m_next_ a (nI n) = (1, m_noC (lpN (nI n - 1) (m_nx2 a (nI n) + 1)) (m_nx2 a (nI n) + 1) (nI n - 1) (m_nxT a (nI n))) := if_neg c
  have eb : m_next_ b (nI n) = (1, m_noC (lpN (nI n - 1) (m_nx2 a (nI n) + 1)) (m_nx2 a (nI n) + 1) (nI n - 1) (m_nxT b (nI n))) := by rw [e2]; exact if_neg (by rw [← e2]; exact c)
  obtain ⟨t1, t2, t3⟩ := trd_c h h5 la lb (x := m_nx2 a (nI n)) (y := m_nx3 a (nI n)) (by rw [d2]; exact a1) (by rw [d3]; exact dn_b ⟨n, by omega⟩ ⟨j3, by omega⟩ hn)
  have eT : m_trades b (m_nx2 a (nI n)) (m_nx3 a (nI n)) = m_nxT b (nI n) := by rw [e2, e3]; rfl
  rw [eT] at t1 t3
  obtain ⟨s1, s2, s3⟩ := noC_c h5 (lpN (nI n - 1) (m_nx2 a (nI n) + 1)) (m_nx2 a (nI n) + 1) (nI n - 1) (m_nxT a (nI n)) (m_nxT b (nI n)) t1 t2 t3 (fun j hj g => by
    rw [d2] at hj g ⊢
    exact dn_c ⟨n, by omega⟩ ⟨j2, by omega⟩ ⟨j, by have a3 : lpN (nI n - 1) (dnN (nI n - 2) j2 + 1) < 6 := a3; omega⟩ c' g)
  rw [ea, eb]
  refine ⟨rfl, s1, s2, s3, fun z => ⟨z.1, fun _ => ?_⟩⟩
  rw [← e2]
  exact g3.mp (z.2 c)
/-- PLAN's walk over a list of orders: the least price, and the first order that has it -/
def plS (pp : List Int32 → Int32) : Int32 → List Int32 → List (List Int32) → Int32 × List Int32
  | v, b, [] => (v, b)
  | v, b, o :: r => if pp o < v then plS pp (pp o) o r else plS pp v b r
theorem pw_c {n : Nat} {a b w : List Int32} (h : aG5 n a b) (h5 : n ≤ 5) (hl : w.length = 602) : m_pw a n 0 w = m_pw b n 0 w := by
  obtain ⟨p1, p2⟩ := pw_n (od := a) n 0 w (by omega) hl
  obtain ⟨q1, q2⟩ := pw_n (od := b) n 0 w (by omega) hl
  refine gN_ext (by rw [p1, q1]) (fun j hj => ?_)
  rw [p2, q2]
  by_cases c : 196 + 0 ≤ j ∧ j < 196 + 0 + n
  · rw [if_pos c, if_pos c]; exact h _ (by omega)
  · rw [if_neg c, if_neg c]
theorem wf.pw9 {n S : Nat} {w od : List Int32} (H : wf n S w) (P : prm n od) : wf n S (m_pw od n 0 w) := by
  have h5 := H.n5
  have hl := H.len
  obtain ⟨l9, b⟩ := pw_n (od := od) n 0 w (by omega) hl
  have h : ∀ j, ¬ (196 ≤ j ∧ j < 201) → gN (m_pw od n 0 w) j = gN w j := fun j hj => by rw [b j, if_neg (by omega)]
  have F : aG (m_pw od n 0 w) w := ⟨l9, fun j hj => h j (fun z => hj (Or.inr (Or.inl z)))⟩
  exact H.aF F (fun s k hs hk => by
    rw [show fs (m_pw od n 0 w) s (5 + k) = fs w s (5 + k) from h _ (by omega)]
    exact (H.St hs).2.2 k hk) (P.wRk h5 hl) (by
    obtain ⟨m, g1, g2, g3⟩ := H.L
    refine ⟨m, g1, by rw [h 296 (by omega)]; exact g2, fun j hj => ?_⟩
    obtain ⟨a, b, q, g4, g5, g6, g7, g8, g9, g10⟩ := g3 j hj
    exact ⟨a, b, q, g4, g5, g6, g7, by rw [h _ (by omega)]; exact g8, by rw [h _ (by omega)]; exact g9, by rw [h _ (by omega)]; exact g10⟩)
theorem pb_n {od : List Int32} : ∀ (f i : Nat) (be : List Int32), i + f ≤ 5 → be.length = 5 → (m_pb od f i be).length = 5 ∧ ∀ k, gN (m_pb od f i be) k = if i ≤ k ∧ k < i + f then gN od k else gN be k
  | 0, i, be, _, hl => ⟨hl, fun k => by rw [if_neg (by omega)]; rfl⟩
  | f + 1, i, be, h, hl => by
    unfold m_pb
    rw [sA_n (by omega), gA_n (by omega)]
    obtain ⟨a, b⟩ := pb_n (od := od) f (i + 1) (be.set i (gN od i)) (by omega) (by rw [List.length_set]; exact hl)
    refine ⟨a, fun k => ?_⟩
    rw [b k]
    by_cases c : i + 1 ≤ k ∧ k < i + 1 + f
    · rw [if_pos c, if_pos (by omega)]
    · rw [if_neg c]
      by_cases d : k = i
      · rw [if_pos (by omega), d, gN_eq (by omega)]
      · rw [if_neg (by omega), gN_ne (fun z => d z.symm)]
/-- the reference's plan over the table: an order told by the table's -/
theorem pl_S {n S : Nat} {w : List Int32} (H : wf n S w) : ∀ (r : List (List Int32)) (o od v3b be : List Int32) (v3 : Int32) (f : Nat), och (fun a => m_next_ a (nI n)) (o :: r) → (∀ a, a ∈ o :: r → a.length = 5 ∧ m_nxok a (nI n) ∧ prm n a) → aG5 n o od → od.length = 5 → be.length = 5 → aG5 n v3b be → r.length < f → m_plk (wf n S) n w (f + 1) 1 od ∧ (m_pl n w f v3 1 od be).1 = (plS (fun a => m_pp n w a) v3 v3b (o :: r)).1 ∧ aG5 n (plS (fun a => m_pp n w a) v3 v3b (o :: r)).2 (m_pl n w f v3 1 od be).2.2
  | r, o, od, v3b, be, v3, 0, _, _, _, _, _, _, hf => absurd hf (Nat.not_lt_zero _)
  | r, o, od, v3b, be, v3, f + 1, C, A, h, lod, lbe, hb, hf => by
    have h5 := H.n5
    have hl := H.len
    obtain ⟨lo, ko, po⟩ := A o (List.mem_cons_self ..)
    obtain ⟨n1, n2, n3, n4, n5⟩ := nx_c h h5 lo lod
    have epp : m_pp n w od = m_pp n w o := by unfold m_pp; rw [pw_c h h5 hl]
    have gs : gA w 203 = nI n := H.gn
    have hw9 : wf n S (m_pw od n 0 w) := by rw [← pw_c h h5 hl]; exact wf.pw9 H po
    obtain ⟨pb1, pb2⟩ := pb_n (od := od) n 0 be (by omega) lbe
    have hob : aG5 n o (m_pb od n 0 be) := fun k hk => by rw [pb2, if_pos (by omega)]; exact h k hk
    unfold m_plk m_pl plS
    rw [if_neg (show ¬ (1 : Int32) = 0 by decide), epp, gs]
    have n1b := n1.symm
    match r, C, A, hf with
    | [], C, A, hf =>
      have C : (m_next_ o (nI n)).1 = 0 := C
      rw [n1b, C]
      have z0 : ∀ f v be, m_pl n w f v 0 (m_next_ od (nI n)).2 be = (v, (m_next_ od (nI n)).2, be) := fun f v be => by cases f; rfl; unfold m_pl; rw [if_pos rfl]
      rw [z0, z0]
      refine ⟨Or.inr ⟨hw9, n5 ko, Or.inl rfl⟩, ?_, ?_⟩
      · by_cases c : m_pp n w o < v3
        · rw [if_pos c, if_pos c]; rfl
        · rw [if_neg c, if_neg c]; rfl
      · by_cases c : m_pp n w o < v3
        · rw [if_pos c, if_pos c]; exact hob
        · rw [if_neg c, if_neg c]; exact hb
    | p :: r, C, A, hf =>
      obtain ⟨C1, C2⟩ : m_next_ o (nI n) = (1, p) ∧ och (fun a => m_next_ a (nI n)) (p :: r) := C
      rw [n1b, C1]
      rw [C1] at n2
      have ih := fun v3b be v3 lbe hb => pl_S H r p (m_next_ od (nI n)).2 v3b be v3 f C2 (fun a ha => A a (List.mem_cons_of_mem _ ha)) n2 n4 lbe hb (by have : (p :: r).length < f + 1 := hf; rw [List.length_cons] at this; omega)
      by_cases c : m_pp n w o < v3
      · rw [if_pos c, if_pos c]
        obtain ⟨i1, i2, i3⟩ := ih o (m_pb od n 0 be) (m_pp n w o) pb1 hob
        exact ⟨Or.inr ⟨hw9, n5 ko, i1⟩, i2, i3⟩
      · rw [if_neg c, if_neg c]
        obtain ⟨i1, i2, i3⟩ := ih v3b be v3 lbe hb
        exact ⟨Or.inr ⟨hw9, n5 ko, i1⟩, i2, i3⟩

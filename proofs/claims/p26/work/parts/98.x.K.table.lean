/-! the table of orders is as both want it -/
def pBb (od : List Int32) (v2 : Int32) : Nat → Int32 → Bool
  | 0, v3 => decide (¬ (gA od v3) < (gA od v2))
  | f + 1, v3 => decide (¬ (gA od v3) < (gA od v2)) || pBb od v2 f (v3 + (-1))
theorem pBb_of {od : List Int32} {v2 : Int32} : ∀ f v3, pBb od v2 f v3 = true → m_pB od v2 f v3
  | 0, v3, h => of_decide_eq_true (p := ¬ (gA od v3) < (gA od v2)) h
  | f + 1, v3, h => by
    have h : (decide (¬ (gA od v3) < (gA od v2)) || pBb od v2 f (v3 + (-1))) = true := h
    rcases Bool.or_eq_true_iff.mp h with z | z
    · exact Or.inl (of_decide_eq_true z)
    · exact Or.inr (pBb_of f _ z)
def nxb (od : List Int32) (x : Int32) : Bool := decide ((x - 2).toInt < 5) && (decide (m_nx2 od x < 0) || pBb od (m_nx2 od x) 5 (x - 1))
theorem nxb_of {od : List Int32} {x : Int32} (h : nxb od x = true) : m_nxok od x := by
  have h := Bool.and_eq_true_iff.mp h
  refine ⟨of_decide_eq_true h.1, fun c => ?_⟩
  rcases Bool.or_eq_true_iff.mp h.2 with z | z
  · exact absurd (of_decide_eq_true z) c
  · exact pBb_of 5 _ z
def prb (n : Nat) (l : List Int32) : Bool := decide (∀ k : Fin n, ∃ t : Fin n, gN l k.val = nI t.val) && decide (∀ j : Fin n, ∀ k : Fin n, gN l j.val = gN l k.val → j = k)
theorem prb_of {n : Nat} {l : List Int32} (h : prb n l = true) : prm n l := by
  have h := Bool.and_eq_true_iff.mp h
  have h1 := of_decide_eq_true h.1
  have h2 := of_decide_eq_true h.2
  refine ⟨fun k hk => ?_, fun j k hj hk e => congrArg Fin.val (h2 ⟨j, hj⟩ ⟨k, hk⟩ e)⟩
  obtain ⟨t, ht⟩ := h1 ⟨k, hk⟩
  exact ⟨t.val, t.isLt, ht⟩
def okb (n : Nat) (l : List Int32) : Bool := decide (l.length = 5) && (nxb l (nI n) && prb n l)
def oT : Nat → List (List Int32)
  | 0 => oT0
  | 1 => oT1
  | 2 => oT2
  | 3 => oT3
  | 4 => oT4
  | _ => oT5
def tbb (n : Nat) : Bool := ochb (fun a => m_next_ a (nI n)) (oT n) && (ochb (fun a => x_nxo a (nI n)) (oT n) && ((oT n).all (okb n) && decide ((oT n).length ≤ 120 ∧ (oT n).head? = some [0, 1, 2, 3, 4])))
theorem tbb_all : ∀ n : Fin 6, tbb n.val = true := by decide +kernel
theorem oT_of {n : Nat} (h5 : n ≤ 5) : ∃ r, och (fun a => m_next_ a (nI n)) ([0, 1, 2, 3, 4] :: r) ∧ och (fun a => x_nxo a (nI n)) ([0, 1, 2, 3, 4] :: r) ∧ (∀ a, a ∈ [0, 1, 2, 3, 4] :: r → a.length = 5 ∧ m_nxok a (nI n) ∧ prm n a) ∧ r.length < 120 := by
  have h : tbb n = true := tbb_all ⟨n, by omega⟩
  obtain ⟨h1, h⟩ := Bool.and_eq_true_iff.mp h
  obtain ⟨h2, h⟩ := Bool.and_eq_true_iff.mp h
  obtain ⟨h3, h4⟩ := Bool.and_eq_true_iff.mp h
  obtain ⟨h5, h6⟩ := of_decide_eq_true h4
  generalize oT n = l at h1 h2 h3 h5 h6
  match l, h6 with
  | o :: r, h6 =>
    have e : o = [0, 1, 2, 3, 4] := Option.some.inj h6
    rw [← e]
    refine ⟨r, och_of _ h1, och_of _ h2, fun a ha => ?_, by rw [List.length_cons] at h5; omega⟩
    have g := List.all_eq_true.mp h3 a ha
    obtain ⟨g1, g⟩ := Bool.and_eq_true_iff.mp g
    obtain ⟨g2, g3⟩ := Bool.and_eq_true_iff.mp g
    exact ⟨of_decide_eq_true g1, nxb_of g2, prb_of g3⟩
/-- the reference's plan: least price and order, by the table -/
theorem qplan_S {n S : Nat} {w od be : List Int32} (H : wf n S w) (lod : od.length = 5) (lbe : be.length = 5) (hp : ∀ o, prm n o → m_pp n w o < 2147483647) : ∃ r, och (fun a => x_nxo a (nI n)) ([0, 1, 2, 3, 4] :: r) ∧ (∀ a, a ∈ [0, 1, 2, 3, 4] :: r → a.length = 5 ∧ prm n a) ∧ r.length < 120 ∧ m_plk (wf n S) n w 121 1 (m_poI n 0 od) ∧ ∀ th sst x1, m_qplan n th sst w od be x1 = (if x1 < (-1) then ((-1), 0, 1) else (if x1 < (nI n) then (if x1 = (-1) then ((plS (fun a => m_pp n w a) (m_pp n w [0, 1, 2, 3, 4]) [0, 1, 2, 3, 4] r).1, 0, 0) else (gA (plS (fun a => m_pp n w a) (m_pp n w [0, 1, 2, 3, 4]) [0, 1, 2, 3, 4] r).2 x1, 0, 0)) else ((-1), 0, 5))) := by
  have h5 := H.n5
  obtain ⟨r, c1, c2, c3, c4⟩ := oT_of h5
  have hI : ∀ (f i : Nat) (l : List Int32), i + f ≤ 5 → l.length = 5 → (m_poI f i l).length = 5 ∧ ∀ k, gN (m_poI f i l) k = if i ≤ k ∧ k < i + f then nI k else gN l k := by
    intro f
    induction f with
    | zero => intro i l _ hl; exact ⟨hl, fun k => by rw [if_neg (by omega)]; rfl⟩
    | succ f ih =>
      intro i l h hl
      unfold m_poI
      rw [sA_n (by omega)]
      obtain ⟨a, b⟩ := ih (i + 1) (l.set i (nI i)) (by omega) (by rw [List.length_set]; exact hl)
      refine ⟨a, fun k => ?_⟩
      rw [b k]
      by_cases c : i + 1 ≤ k ∧ k < i + 1 + f
      · rw [if_pos c, if_pos (by omega)]
      · rw [if_neg c]
        by_cases d : k = i
        · rw [if_pos (by omega), d, gN_eq (by omega)]
        · rw [if_neg (by omega), gN_ne (fun z => d z.symm)]
  obtain ⟨l1, g1⟩ := hI n 0 od (by omega) lod
  have hag : aG5 n [0, 1, 2, 3, 4] (m_poI n 0 od) := fun k hk => by
    rw [g1, if_pos (by omega)]
    have key : ∀ k : Fin 5, gN [0, 1, 2, 3, 4] k.val = nI k.val := by decide +kernel
    exact key ⟨k, by omega⟩
  have h0 := hp _ (c3 _ (List.mem_cons_self ..)).2.2
  have epp : m_pp n w (m_poI n 0 od) = m_pp n w [0, 1, 2, 3, 4] := by unfold m_pp; rw [pw_c hag h5 H.len]
  obtain ⟨k1, k2, k3⟩ := pl_S H r _ _ be be 2147483647 121 c1 c3 hag l1 lbe (fun k _ => rfl) (by omega)
  obtain ⟨k0, -, -⟩ := pl_S H r _ _ be be 2147483647 120 c1 c3 hag l1 lbe (fun k _ => rfl) (by omega)
  have eS : plS (fun a => m_pp n w a) 2147483647 be ([0, 1, 2, 3, 4] :: r) = plS (fun a => m_pp n w a) (m_pp n w [0, 1, 2, 3, 4]) [0, 1, 2, 3, 4] r := by
    show (if m_pp n w [0, 1, 2, 3, 4] < 2147483647 then _ else _) = _
    rw [if_pos h0]
  rw [eS] at k2 k3
  refine ⟨r, c2, fun a ha => ⟨(c3 a ha).1, (c3 a ha).2.2⟩, c4, k0, fun th sst x1 => ?_⟩
  unfold m_qplan
  rw [H.gn]
  by_cases d1 : x1 < (-1)
  · rw [if_pos d1, if_pos d1]; rfl
  rw [if_neg d1, if_neg d1]
  by_cases d2 : x1 < nI n
  · rw [if_pos d2, if_pos d2]
    by_cases d3 : x1 = (-1)
    · rw [if_pos d3, if_pos d3, k2]; rfl
    · rw [if_neg d3, if_neg d3]
      rw [Int32.lt_iff_toInt_lt, show ((-1 : Int32)).toInt = -1 from rfl] at d1
      rw [Int32.lt_iff_toInt_lt, nI_toInt (by omega)] at d2
      have d3 : ¬ x1.toInt = -1 := fun z => d3 (Int32.toInt_inj.mp z)
      have ex : x1 = nI x1.toInt.toNat := Int32.toInt_inj.mp (by rw [nI_toInt (by omega)]; omega)
      obtain ⟨k, hk, rfl⟩ : ∃ k, k < n ∧ x1 = nI k := ⟨_, by omega, ex⟩
      rw [gA_n (i := k) (by omega), gA_n (i := k) (by omega), k3 k hk]; rfl
  · rw [if_neg d2, if_neg d2]; rfl

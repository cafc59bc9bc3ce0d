/-! queries: station, track, train -/
theorem bc_add {v i : Nat} (hv : v < 2 ^ i) (hi : i < 5) : (nI v ||| (1 <<< (nI i &&& 31))) = nI (v + 2 ^ i) ∧ x_bitCount (nI (v + 2 ^ i)) = x_bitCount (nI v) + 1 := by
  have : ∀ (i : Fin 5) (v : Fin 16), v.val < 2 ^ i.val → (nI v.val ||| (1 <<< (nI i.val &&& 31))) = nI (v.val + 2 ^ i.val) ∧ x_bitCount (nI (v.val + 2 ^ i.val)) = x_bitCount (nI v.val) + 1 := by decide +kernel
  have h16 : 2 ^ i ≤ 16 := by
    have : ∀ i : Fin 5, 2 ^ i.val ≤ 16 := by decide
    exact this ⟨i, hi⟩
  exact this ⟨i, hi⟩ ⟨v, by omega⟩ hv
def fB (a b c : Bool) : Nat := (if a then 1 else 0) + (if b then 2 else 0) + (if c then 4 else 0)
theorem fB_lt (a b c : Bool) : fB a b c < 8 := by cases a <;> cases b <;> cases c <;> decide
theorem bc_sh (a b c : Bool) {s : Nat} (hs : s < 7) : x_bitCount (nI (fB a b c) <<< (nI (3 * s) &&& 31)) = ((if a then 1 else 0) + (if b then 1 else 0)) + (if c then 1 else 0) := by
  have : ∀ (a b c : Bool) (s : Fin 7), x_bitCount (nI (fB a b c) <<< (nI (3 * s.val) &&& 31)) = ((if a then 1 else 0) + (if b then 1 else 0)) + (if c then 1 else 0) := by decide +kernel
  exact this a b c ⟨s, hs⟩
theorem fB_tb (a b c : Bool) {k : Nat} (hk : k < 32) : tb (nI (fB a b c)) k = if k = 0 then a else if k = 1 then b else if k = 2 then c else false := by
  have : ∀ (a b c : Bool) (k : Fin 32), tb (nI (fB a b c)) k.val = if k.val = 0 then a else if k.val = 1 then b else if k.val = 2 then c else false := by decide +kernel
  exact this a b c ⟨k, hk⟩
section QT
variable {n S : Nat} {w ph sp ce ri du cm lf tra len frm tto wei fit way rid lon rk sta he lkd siz slo : List Int32} {shu bus cel mi lks sst th sst' : Int32} {t : Nat}
/-- free for a train, at a station -/
def frT (n : Nat) (w : List Int32) (s k : Nat) : Bool := decide (k < mN w s) && (decide (fs w s (5 + k) = 0) && decide (fnd (atC w (3 * s + k)) n 0 = -1))
theorem frC (H : wg n S w) (B : qB n w bus) (U : rU w shu) (Y : qY n S w tra len frm tto wei fit way rid lon cel) {s k : Nat} (hs : s < S) (hk : k < 3) : tb (x_freeCells shu bus cel) (3 * s + k) = frT n w s k := by
  have hS := H.S7
  have h5 := H.n5
  unfold x_freeCells frT
  rw [tb_and, tb_and, tb_not (by omega), tb_not (by omega)]
  have f1 := Y.pcel (c := 3 * s + k) (by omega)
  rw [show (3 * s + k) / 3 = s by omega, show (3 * s + k) % 3 = k by omega] at f1
  have b1 := B (3 * s + k) (by omega)
  have u1 := U s k (by omega) hk
  have ws := (H.St (s := s) (by omega)).2.2 k hk
  have b2 : tb bus (3 * s + k) = false ↔ fnd (atC w (3 * s + k)) n 0 = -1 := by
    rw [fnd_n (by omega), ← Bool.not_eq_true, b1]
    constructor
    · intro h u hu
      unfold atC
      exact Bool.eq_false_iff.mpr (fun z => h ⟨u, hu, Nat.beq_eq.mp z⟩)
    · rintro h ⟨u, hu, e⟩
      have := h u hu
      unfold atC at this
      rw [e, Nat.beq_eq.mpr rfl] at this
      cases this
  have u2 : tb shu (3 * s + k) = false ↔ fs w s (5 + k) = 0 := by
    rw [← Bool.not_eq_true, u1]
    rcases ws with z | z <;> rw [z] <;> decide
  apply Bool.eq_iff_iff.mpr
  rw [Bool.and_eq_true_iff, Bool.and_eq_true_iff, Bool.and_eq_true_iff, Bool.and_eq_true_iff, f1, Bool.not_eq_true', Bool.not_eq_true', b2, u2, decide_eq_true_iff, decide_eq_true_iff, decide_eq_true_iff]
  constructor
  · rintro ⟨⟨⟨-, -, g1⟩, g2⟩, g3⟩; exact ⟨g1, g3, g2⟩
  · rintro ⟨g1, g3, g2⟩; exact ⟨⟨⟨by omega, hs, g1⟩, g2⟩, g3⟩
theorem frM (H : wg n S w) {s k : Nat} (hs : s < 7) (hk : k < mN w s) : (if m_isFree w (nI s) (nI k) = 0 then (0 : Int32) else 1) = if frT n w s k then 1 else 0 := by
  have hw := (H.St hs).2.1
  rw [H.isFree hs (by omega)]
  unfold frT
  rw [decide_eq_true hk, Bool.true_and]
  by_cases c : fs w s (5 + k) = 0
  · rw [if_pos c, decide_eq_true c, Bool.true_and]
    by_cases d : fnd (atC w (3 * s + k)) n 0 = -1
    · rw [if_pos d, decide_eq_true d, if_neg (by decide), if_pos rfl]
    · rw [if_neg d, decide_eq_false d, if_pos rfl, if_neg (by decide)]
  · rw [if_neg c, decide_eq_false c, Bool.false_and, if_pos rfl, if_neg (by decide)]
theorem frX (H : wg n S w) (B : qB n w bus) (U : rU w shu) (Y : qY n S w tra len frm tto wei fit way rid lon cel) {s : Nat} (hs : s < S) : x_bitCount ((x_freeCells shu bus cel) &&& (x_cellsOf tra (nI s))) = m_freeOnes w (nI s) := by
  have hS := H.S7
  have hw := H.St (s := s) (by omega)
  have e : (x_freeCells shu bus cel) &&& (x_cellsOf tra (nI s)) = nI (fB (frT n w s 0) (frT n w s 1) (frT n w s 2)) <<< (nI (3 * s) &&& 31) := by
    apply tb_ext
    intro c hc
    rw [tb_and, tb_cells H Y hs hc, tb_shl (by omega) hc, fB_tb _ _ _ (by omega)]
    by_cases d : 3 * s ≤ c ∧ c < 3 * s + 3
    · obtain ⟨k, hk, rfl⟩ : ∃ k, k < 3 ∧ c = 3 * s + k := ⟨c - 3 * s, by omega, by omega⟩
      rw [frC H B U Y hs hk, decide_eq_true d.1, Bool.true_and, show 3 * s + k - 3 * s = k by omega]
      have e2 : decide (3 * s ≤ 3 * s + k ∧ 3 * s + k < 3 * s + mN w s) = decide (k < mN w s) := by
        apply decide_eq_decide.mpr
        omega
      have e3 : (frT n w s k && decide (k < mN w s)) = frT n w s k := by
        unfold frT
        cases decide (k < mN w s)
        · rfl
        · rw [Bool.and_true]
      rw [e2, e3]
      match k, hk with
      | 0, _ => rfl
      | 1, _ => rfl
      | 2, _ => rfl
    · have e2 : decide (3 * s ≤ c ∧ c < 3 * s + mN w s) = false := decide_eq_false (fun z => d (by have := hw.2.1; omega))
      rw [e2, Bool.and_false]
      by_cases d1 : 3 * s ≤ c
      · rw [if_neg (by omega), if_neg (by omega), if_neg (by omega), Bool.and_false]
      · rw [decide_eq_false d1, Bool.false_and]
  rw [e, bc_sh _ _ _ (by omega)]
  unfold m_freeOnes
  rw [m_st1 (by omega), hw.1, lpN_n0 (by have := hw.2.1; omega)]
  have out : ∀ k, ¬ k < mN w s → frT n w s k = false := fun k hk => by unfold frT; rw [decide_eq_false hk, Bool.false_and]
  have f0 := frM H (s := s) (k := 0) (by omega)
  have f1 := frM H (s := s) (k := 1) (by omega)
  have f2 := frM H (s := s) (k := 2) (by omega)
  rcases (show mN w s = 0 ∨ mN w s = 1 ∨ mN w s = 2 ∨ mN w s = 3 by have := hw.2.1; omega) with h | h | h | h <;> rw [h] at f0 f1 f2 out ⊢
  · rw [out 0 (by omega), out 1 (by omega), out 2 (by omega)]
    rfl
  · rw [out 1 (by omega), out 2 (by omega), ← f0 (by omega)]
    show _ = (0 : Int32) + (if m_isFree w (nI s) (nI 0) = 0 then 0 else 1)
    rw [Int32.zero_add, if_neg (show ¬ false = true by decide), Int32.add_zero, Int32.add_zero]
  · rw [out 2 (by omega), ← f0 (by omega), ← f1 (by omega)]
    show _ = (0 : Int32) + (if m_isFree w (nI s) (nI 0) = 0 then 0 else 1) + (if m_isFree w (nI s) (nI 1) = 0 then 0 else 1)
    rw [Int32.zero_add, if_neg (show ¬ false = true by decide), Int32.add_zero]
  · rw [← f0 (by omega), ← f1 (by omega), ← f2 (by omega)]
    show _ = (0 : Int32) + (if m_isFree w (nI s) (nI 0) = 0 then 0 else 1) + (if m_isFree w (nI s) (nI 1) = 0 then 0 else 1) + (if m_isFree w (nI s) (nI 2) = 0 then 0 else 1)
    rw [Int32.zero_add]
theorem eq_station3 (H : wg n S w) (P : rP n w ph sp ce) {s : Nat} (hs : s < S) {x2 : Int32} : ∀ (f i v : Nat), i + f = n → v < 2 ^ i → (m_qstation_l99 w (nI s) x2 f (nI i) (x_bitCount (nI v)) th sst').1 = x_bitCount (x_trainsIn_l4 ph sp (nI s) f (nI i) (nI v)) ∧ (m_qstation_l99 w (nI s) x2 f (nI i) (x_bitCount (nI v)) th sst').2.2 = 0
  | 0, i, v, e, hv => ⟨rfl, rfl⟩
  | f + 1, i, v, e, hv => by
    have h5 := H.n5
    have p2 : 2 ^ (i + 1) = 2 * 2 ^ i := by rw [Nat.pow_succ, Nat.mul_comm]
    unfold m_qstation_l99 x_trainsIn_l4
    rw [nI_1, gA_n (by omega), gA_n (by omega), m_of6 (by omega), m_of7 (by omega), P.pph (t := i) (by omega)]
    by_cases c : ft w i 6 = 1
    · rw [if_pos c, if_pos c, P.psp (t := i) (by omega) (by rw [c]; decide)]
      by_cases d : ft w i 7 = nI s
      · rw [if_pos d, if_pos d, (bc_add hv (by omega)).1, ← (bc_add hv (by omega)).2]
        exact eq_station3 H P hs f (i + 1) _ (by omega) (by omega)
      · rw [if_neg d, if_neg d, Int32.add_zero]
        exact eq_station3 H P hs f (i + 1) _ (by omega) (by omega)
    · rw [if_neg c, if_neg c, Int32.add_zero]
      exact eq_station3 H P hs f (i + 1) _ (by omega) (by omega)
theorem eq_station4 (H : wg n S w) (Y : qY n S w tra len frm tto wei fit way rid lon cel) {s : Nat} (hs : s < S) {x2 : Int32} : ∀ (f i : Nat) (v : Int32), i + f = mN w s → (m_qstation_l159 w (nI s) x2 f (nI i) v th sst').1 = x_longest_l4 len (nI s) f (nI i) v ∧ (m_qstation_l159 w (nI s) x2 f (nI i) v th sst').2.2 = 0
  | 0, i, v, e => ⟨rfl, rfl⟩
  | f + 1, i, v, e => by
    have hS := H.S7
    have hw := (H.St (s := s) (by omega)).2.1
    unfold m_qstation_l159 x_longest_l4
    rw [nI_1, m_st2 (by omega) (by omega), i3x, gA_n (by omega), Y.plen hs (by omega)]
    exact eq_station4 H Y hs f (i + 1) _ (by omega)
theorem eq_station {run : List Int32} (H : wg n S w) (P : rP n w ph sp ce) (B : qB n w bus) (U : rU w shu) (Y : qY n S w tra len frm tto wei fit way rid lon cel) (R : ∀ s, s < S → gN run s = fs w s 0) (x1 x2 : Int32) : eQ (x_qstation shu bus ph sp (nI S) (nI n) cel run tra len sst x1 x2) (m_qstation th sst' w x1 x2) := by
  have h5 := H.n5
  have hS := H.S7
  unfold x_qstation m_qstation
  rw [g_within, g_stat H]
  refine eQ.if (fun _ => eQ.mk rfl rfl) (fun c1 => eQ.if (fun _ => eQ.mk rfl rfl) (fun c2 => ?_))
  obtain ⟨s, hs, rfl⟩ := (stat_n H).mp c2
  have hw := H.St (s := s) (by omega)
  refine eQ.if (fun _ => eQ.mk ?_ rfl) (fun _ => eQ.if (fun _ => eQ.mk ?_ rfl) (fun _ => eQ.if (fun _ => eQ.mk ?_ rfl) (fun _ => eQ.if (fun _ => ?_) (fun _ => ?_))))
  · rw [gA_n (by omega), R s hs, m_st0 (by omega)]; rfl
  · rw [gA_n (by omega), Y.ptra hs, m_st1 (by omega)]; rfl
  · rw [frX H B U Y hs]; rfl
  · rw [H.gn, lpN_n0 (by omega)]
    have z := eq_station3 (th := th) (sst' := sst') H P hs (x2 := x2) n 0 0 (by omega) (by decide)
    refine eQ.mk ?_ ?_
    · unfold x_trainsIn
      rw [lpN_n0 (by omega)]
      exact z.1.symm
    · exact z.2.symm
  · rw [m_st1 (by omega), hw.1, lpN_n0 (by have := hw.2.1; omega)]
    have z := eq_station4 (th := th) (sst' := sst') H Y hs (x2 := x2) (mN w s) 0 0 (by omega)
    refine eQ.mk ?_ ?_
    · unfold x_longest
      rw [gA_n (by omega), Y.ptra hs, hw.1, lpN_n0 (by have := hw.2.1; omega)]
      exact z.1.symm
    · exact z.2.symm
theorem cI_eq {c d : Nat} (hd : d < 21) : cI c = nI d ↔ c = d := by
  unfold cI
  by_cases h : c < 21
  · rw [if_pos h]
    constructor
    · intro q
      have q := congrArg Int32.toInt q
      rw [nI_toInt (by omega), nI_toInt (by omega)] at q
      omega
    · intro q; rw [q]
  · rw [if_neg h]
    constructor
    · intro q; exact absurd q.symm (nI_nn (by omega))
    · intro q; omega
theorem x_with_l (H : wg n S w) (P : rP n w ph sp ce) {c : Nat} (hc : c < 21) : ∀ (f i : Nat), i + f = n → x_trainWith_l2 ce (nI c) f (nI i) = fnd (atC w c) f i
  | 0, i, e => rfl
  | f + 1, i, e => by
    have h5 := H.n5
    unfold x_trainWith_l2 fnd
    rw [nI_1, gA_n (by omega), P.pce (t := i) (by omega), x_with_l H P hc f (i + 1) (by omega)]
    by_cases d : cL w i = c
    · rw [if_pos ((cI_eq hc).mpr d), if_pos (show atC w c i = true from Nat.beq_eq.mpr d)]
    · rw [if_neg (fun z => d ((cI_eq hc).mp z)), if_neg (show ¬ atC w c i = true from fun z => d (Nat.beq_eq.mp z))]
theorem x_with (H : wg n S w) (P : rP n w ph sp ce) {s k : Nat} (hs : s < 7) (hk : k < 3) : x_trainWith ce (nI n) (nI (3 * s + k)) = m_whoAt w (nI s) (nI k) := by
  unfold x_trainWith
  rw [lpN_n0 (by have := H.n5; omega), H.whoAt hs hk]
  exact x_with_l H P (by omega) n 0 (Nat.zero_add n)
theorem eq_track (H : wg n S w) (P : rP n w ph sp ce) (U : rU w shu) (Y : qY n S w tra len frm tto wei fit way rid lon cel) (x1 x2 x3 : Int32) : eQ (x_qtrack shu ce (nI S) (nI n) tra len sst x1 x2 x3) (m_qtrack th sst' w x1 x2 x3) := by
  have hS := H.S7
  unfold x_qtrack m_qtrack
  rw [g_within, g_track H Y]
  refine eQ.if (fun _ => eQ.mk rfl rfl) (fun c1 => eQ.if (fun _ => eQ.mk rfl rfl) (fun c2 => ?_))
  obtain ⟨s, k, hs, hk, rfl, rfl⟩ := (track_n H).mp c2
  have hw := H.St (s := s) (by omega)
  have hm := hw.2.1
  rw [i3x]
  by_cases d0 : x3 = 0
  · rw [if_pos d0, if_neg (show ¬ x3 = 1 by rw [d0]; decide), if_pos d0, gA_n (by omega), Y.plen hs hk, m_st2 (by omega) (by omega)]
    exact eQ.mk rfl rfl
  · rw [if_neg d0, if_neg d0]
    refine eQ.if (fun _ => ?_) (fun _ => ?_)
    · exact eQ.any (x_with H P (by omega) (by omega))
    · rw [m_st5 (by omega) (by omega), tb_bit (by omega)]
      refine eQ.mk ?_ rfl
      show (if tb shu (3 * s + k) = true then (1 : Int32) else 0) = fs w s (5 + k)
      have u := U s k (by omega) (by omega)
      rcases hw.2.2 k (by omega) with z | z
      · rw [z, if_neg (fun q => by rw [u, z] at q; exact absurd q (by decide))]
      · rw [z, if_pos (u.mpr z)]
end QT

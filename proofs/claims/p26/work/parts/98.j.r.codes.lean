/-! both tapes tell the same: bytes, tokens, codes of words -/
/-- of e bytes, those of the class (signed) and of the reference are the same -/
def bR (l m : List Int32) (e : Nat) : Prop := ∀ k, k < e → (0 ≤ cX l k ∧ cX m k = cX l k) ∨ (cX l k < 0 ∧ 128 ≤ cX m k)
theorem bR.cL {l m : List Int32} {e k : Nat} (h : bR l m e) (hk : k < e) : sL (cX m k) = sL (cX l k) := by
  rcases h k hk with ⟨h1, h2⟩ | ⟨h1, h2⟩
  · rw [h2]
  · generalize cX l k = x at *
    generalize cX m k = y at *
    unfold sL
    rw [decide_eq_false (show ¬ y ≤ 122 by omega), decide_eq_false (show ¬ 97 ≤ x by omega), Bool.and_false, Bool.false_and]
theorem bR.cD {l m : List Int32} {e k : Nat} (h : bR l m e) (hk : k < e) : sD (cX m k) = sD (cX l k) := by
  rcases h k hk with ⟨h1, h2⟩ | ⟨h1, h2⟩
  · rw [h2]
  · generalize cX l k = x at *
    generalize cX m k = y at *
    unfold sD
    rw [decide_eq_false (show ¬ y ≤ 57 by omega), decide_eq_false (show ¬ 48 ≤ x by omega), Bool.and_false, Bool.false_and]
theorem bR.cW {l m : List Int32} {e k : Nat} (h : bR l m e) (hk : k < e) : sW (cX m k) = sW (cX l k) := by
  rcases h k hk with ⟨h1, h2⟩ | ⟨h1, h2⟩
  · rw [h2]
  · generalize cX l k = x at *
    generalize cX m k = y at *
    unfold sW
    rw [decide_eq_false (show ¬ y = 10 by omega), decide_eq_false (show ¬ x = 10 by omega), decide_eq_false (show ¬ y = 32 by omega), decide_eq_false (show ¬ x = 32 by omega)]
theorem bR.semi {l m : List Int32} {e k : Nat} (h : bR l m e) (hk : k < e) : (cX m k = 59) = (cX l k = 59) := by
  apply propext
  rcases h k hk with ⟨h1, h2⟩ | ⟨h1, h2⟩
  · rw [h2]
  · constructor <;> intro z <;> omega
theorem sR_eq {P : Int → Bool} {c c' : Nat → Int} : ∀ (f p : Nat), (∀ k, p ≤ k → k < p + f → P (c' k) = P (c k)) → sR P c' f p = sR P c f p
  | 0, _, _ => rfl
  | f + 1, p, h => by
    unfold sR
    rw [h p (Nat.le_refl _) (by omega), sR_eq f (p + 1) (fun k h1 h2 => h k (by omega) (by omega))]
theorem bR.Q {l m : List Int32} {e p : Nat} (h : bR l m e) (hp : p ≤ e) : tkQ (cX m) e p = tkQ (cX l) e p := sR_eq _ _ fun k _ h2 => h.cW (by omega)
theorem bR.RL {l m : List Int32} {e q : Nat} (h : bR l m e) (hq : q ≤ e) : sR sL (cX m) (e - q) q = sR sL (cX l) (e - q) q := sR_eq _ _ fun k _ h2 => h.cL (by omega)
theorem bR.RD {l m : List Int32} {e q : Nat} (h : bR l m e) (hq : q ≤ e) : sR sD (cX m) (e - q) q = sR sD (cX l) (e - q) q := sR_eq _ _ fun k _ h2 => h.cD (by omega)
theorem bR.K {l m : List Int32} {e p : Nat} (h : bR l m e) (hp : p ≤ e) : tkK (cX m) e p = tkK (cX l) e p := by
  unfold tkK
  rw [h.Q hp]
  have hq := (tkQ_ge (c := cX l) hp).2
  generalize tkQ (cX l) e p = q at hq ⊢
  split
  · rfl
  · rename_i z
    rw [h.cL (by omega), h.cD (by omega), h.RL hq, h.RD hq]
    simp only [h.semi (show q < e by omega)]
theorem bR.N {l m : List Int32} {e p : Nat} (h : bR l m e) (hp : p ≤ e) : tkN (cX m) e p = tkN (cX l) e p := by
  unfold tkN
  rw [h.Q hp]
  have hq := (tkQ_ge (c := cX l) hp).2
  generalize tkQ (cX l) e p = q at hq ⊢
  split
  · rfl
  · rename_i z
    rw [h.cL (by omega), h.cD (by omega), h.RL hq, h.RD hq]
/-- a run is of the kind throughout -/
theorem sR_all {P : Int → Bool} {c : Nat → Int} : ∀ (f p k : Nat), p ≤ k → k < sR P c f p → P (c k) = true
  | 0, p, k, h1, h2 => by
    have h2 : k < p := h2
    omega
  | f + 1, p, k, h1, h2 => by
    unfold sR at h2
    cases hp : P (c p) with
    | true =>
      rw [hp] at h2
      rcases Nat.lt_or_ge p k with h | h
      · exact sR_all f (p + 1) k h h2
      · obtain rfl : k = p := by omega
        exact hp
    | false =>
      rw [hp] at h2
      have h2 : k < p := h2
      omega
/-- the codes as numbers -/
def nX (g : Nat → Nat) : Nat → Nat
  | 0 => 0
  | n + 1 => 256 * nX g n + g n
def nM (g : Nat → Nat) : Nat → Nat
  | 0 => 0
  | n + 1 => 32 * nM g n + (g n - 96)
def lG (g : Nat → Nat) (n : Nat) : Prop := ∀ i, i < n → 97 ≤ g i ∧ g i ≤ 122
theorem nX_lt {g : Nat → Nat} : ∀ n, lG g n → nX g n < 256 ^ n
  | 0, _ => Nat.zero_lt_one
  | n + 1, h => by
    have h1 := nX_lt n (fun i hi => h i (by omega))
    have h2 := h n (by omega)
    unfold nX
    rw [Nat.pow_succ]
    omega
theorem nM_lt {g : Nat → Nat} : ∀ n, lG g n → nM g n < 32 ^ n
  | 0, _ => Nat.zero_lt_one
  | n + 1, h => by
    have h1 := nM_lt n (fun i hi => h i (by omega))
    have h2 := h n (by omega)
    unfold nM
    rw [Nat.pow_succ]
    omega
theorem nXM {g g' : Nat → Nat} : ∀ n n', lG g n → lG g' n' → (nX g n = nX g' n' ↔ nM g n = nM g' n')
  | 0, 0, _, _ => ⟨fun _ => rfl, fun _ => rfl⟩
  | 0, n' + 1, _, h' => by
    have h2 := h' n' (by omega)
    unfold nX nM
    constructor <;> intro z <;> omega
  | n + 1, 0, h, _ => by
    have h2 := h n (by omega)
    unfold nX nM
    constructor <;> intro z <;> omega
  | n + 1, n' + 1, h, h' => by
    have ih := nXM n n' (fun i hi => h i (by omega)) (fun i hi => h' i (by omega))
    have h2 := h n (by omega)
    have h3 := h' n' (by omega)
    unfold nX nM
    constructor
    · intro z
      have e1 : nX g n = nX g' n' := by omega
      have e2 := ih.mp e1
      omega
    · intro z
      have e1 : nM g n = nM g' n' := by omega
      have e2 := ih.mpr e1
      omega
theorem i64_nat (a : Nat) : (Int64.ofNat a).toBitVec.toNat = a % 2 ^ 64 := by
  show (BitVec.ofNat 64 a).toNat = _
  rw [BitVec.toNat_ofNat]
theorem i64_inj {a b : Nat} (ha : a < 2 ^ 64) (hb : b < 2 ^ 64) : Int64.ofNat a = Int64.ofNat b ↔ a = b := by
  constructor
  · intro z
    have z : (Int64.ofNat a).toBitVec.toNat = (Int64.ofNat b).toBitVec.toNat := by rw [z]
    rw [i64_nat, i64_nat, Nat.mod_eq_of_lt ha, Nat.mod_eq_of_lt hb] at z
    exact z
  · intro z
    rw [z]
theorem i64_eq {x y : Int64} (h : x.toBitVec.toNat = y.toBitVec.toNat) : x = y := Int64.toBitVec_inj.mp (BitVec.eq_of_toNat_eq h)
theorem i64_cat {a x k : Nat} (hk : k < 64) (hx : x < 2 ^ k) (ha : a * 2 ^ k + x < 2 ^ 64) : (Int64.ofNat a <<< Int64.ofNat k) ||| Int64.ofNat x = Int64.ofNat (a * 2 ^ k + x) := by
  apply i64_eq
  have hp : 0 < 2 ^ k := Nat.two_pow_pos k
  have ha1 : a < 2 ^ 64 := Nat.lt_of_le_of_lt (Nat.le_trans (Nat.le_mul_of_pos_right a hp) (Nat.le_add_right _ x)) ha
  have ha2 : a * 2 ^ k < 2 ^ 64 := Nat.lt_of_le_of_lt (Nat.le_add_right _ x) ha
  have hx1 : x < 2 ^ 64 := Nat.lt_of_le_of_lt (Nat.le_add_left x _) ha
  rw [Int64.toBitVec_or, BitVec.toNat_or, Int64.toBitVec_shiftLeft, i64_nat, i64_nat, Nat.mod_eq_of_lt hx1, Nat.mod_eq_of_lt ha]
  rw [← Nat.shiftLeft_eq, Nat.shiftLeft_add_eq_or_of_lt hx]
  congr 1
  have e1 : (Int64.ofNat k).toBitVec.smod 64 = BitVec.ofNat 64 k := by
    show (BitVec.ofNat 64 k).smod 64 = _
    clear ha ha1 ha2 hx hx1 hp
    have : ∀ k : Fin 64, (BitVec.ofNat 64 k.val).smod 64 = BitVec.ofNat 64 k.val := by decide
    exact this ⟨k, hk⟩
  rw [e1, BitVec.shiftLeft_eq', BitVec.toNat_shiftLeft, BitVec.toNat_ofNat, Nat.mod_eq_of_lt (show k < 2 ^ 64 by omega), i64_nat, Nat.mod_eq_of_lt ha1, Nat.shiftLeft_eq, Nat.mod_eq_of_lt ha2]
theorem i32_let {b : Int32} {x : Nat} (h : b.toInt = (x : Int)) (hx : x < 2 ^ 31) : b = Int32.ofNat x := Int32.toInt_inj.mp (by rw [h]; exact (nI_toInt (n := x) hx).symm)
theorem i32_64 {x : Nat} (hx : x < 2 ^ 31) : (Int32.ofNat x).toInt64 = Int64.ofNat x := by
  apply Int64.toInt_inj.mp
  rw [Int32.toInt_toInt64]
  have e1 : (Int32.ofNat x).toInt = (x : Int) := nI_toInt (n := x) hx
  rw [e1, Int64.toInt_ofNat_of_lt (by omega)]
/-- letters from q on, of the class's tape -/
def gX (l : List Int32) (q : Nat) (i : Nat) : Nat := (cX l (q + i)).toNat
theorem eX_n {l : List Int32} {q : Nat} : ∀ n, n ≤ 8 → (∀ i, i < n → sL (cX l (q + i)) = true) → lG (gX l q) n ∧ eX l q n = Int64.ofNat (nX (gX l q) n)
  | 0, _, _ => ⟨fun i hi => absurd hi (Nat.not_lt_zero i), rfl⟩
  | n + 1, h8, h => by
    obtain ⟨h1, h2⟩ := eX_n n (by omega) (fun i hi => h i (by omega))
    have h3 := h n (by omega)
    unfold sL at h3
    rw [Bool.and_eq_true, decide_eq_true_iff, decide_eq_true_iff] at h3
    have h4 : cX l (q + n) = (gX l q n : Int) := (Int.toNat_of_nonneg (show 0 ≤ cX l (q + n) by omega)).symm
    have hg : lG (gX l q) (n + 1) := fun i hi => by
      rcases Nat.lt_or_ge i n with z | z
      · exact h1 i z
      · obtain rfl : i = n := by omega
        omega
    refine ⟨hg, ?_⟩
    have h5 := hg n (by omega)
    have h6 := nX_lt (n + 1) hg
    have h7 : 256 ^ (n + 1) ≤ 256 ^ 8 := Nat.pow_le_pow_right (by decide) h8
    have h8 : (256 : Nat) ^ 8 = 2 ^ 64 := by decide
    unfold eX nX
    rw [h2, i32_let (b := l.getD (q + n) 0) h4 (by omega), i32_64 (by omega), show ((8 : Int32).toInt64 &&& 63) = Int64.ofNat 8 from by decide, i64_cat (by decide) (by omega) (by unfold nX at h6; omega), show nX (gX l q) n * 2 ^ 8 + gX l q n = 256 * nX (gX l q) n + gX l q n by omega]
theorem eM_n {l m : List Int32} {q : Nat} : ∀ n, n ≤ 8 → (∀ i, i < n → cX m (q + i) = cX l (q + i)) → (∀ i, i < n → sL (cX l (q + i)) = true) → eM m q n = Int64.ofNat (nM (gX l q) n)
  | 0, _, _, _ => rfl
  | n + 1, h8, hb, h => by
    have h2 := eM_n n (by omega) (fun i hi => hb i (by omega)) (fun i hi => h i (by omega))
    obtain ⟨hg, -⟩ := eX_n (l := l) (q := q) (n + 1) h8 h
    have h3 := h n (by omega)
    have hm := hb n (by omega)
    unfold sL at h3
    rw [Bool.and_eq_true, decide_eq_true_iff, decide_eq_true_iff] at h3
    have h4 : cX m (q + n) = (gX l q n : Int) := by rw [hm]; exact (Int.toNat_of_nonneg (show 0 ≤ cX l (q + n) by omega)).symm
    have h5 := hg n (by omega)
    have h6 := nM_lt (n + 1) hg
    have h7 : 32 ^ (n + 1) ≤ 32 ^ 8 := Nat.pow_le_pow_right (by decide) h8
    have h9 : (32 : Nat) ^ 8 = 2 ^ 40 := by decide
    have h10 : Int64.ofNat (gX l q n) - 96 = Int64.ofNat (gX l q n - 96) := by
      have : Int64.ofNat (gX l q n) = Int64.ofNat (gX l q n - 96) + Int64.ofNat 96 := by
        rw [← Int64.ofNat_add]
        congr 1
        omega
      rw [this]
      exact Int64.add_sub_cancel _ _
    unfold eM nM
    rw [h2, i32_let (b := m.getD (q + n) 0) h4 (by omega), i32_64 (by omega), h10, show ((5 : Int32).toInt64 &&& 63) = Int64.ofNat 5 from by decide, i64_cat (by decide) (by omega) (by unfold nM at h6; omega), show nM (gX l q) n * 2 ^ 5 + (gX l q n - 96) = 32 * nM (gX l q) n + (gX l q n - 96) by omega]
/-- a word, by the class's code and by the reference's -/
def wR (w w' : Int64) : Prop := ∃ g n, n ≤ 8 ∧ lG g n ∧ w = Int64.ofNat (nX g n) ∧ w' = Int64.ofNat (nM g n)
theorem wR.eq {w w' v v' : Int64} (h : wR w w') (k : wR v v') : (w = v) = (w' = v') := by
  obtain ⟨g, n, n8, hg, rfl, rfl⟩ := h
  obtain ⟨g', n', n8', hg', rfl, rfl⟩ := k
  apply propext
  have a1 := nX_lt n hg
  have a2 := nX_lt n' hg'
  have a3 := nM_lt n hg
  have a4 := nM_lt n' hg'
  have b1 : 256 ^ n ≤ 256 ^ 8 := Nat.pow_le_pow_right (by decide) n8
  have b2 : 256 ^ n' ≤ 256 ^ 8 := Nat.pow_le_pow_right (by decide) n8'
  have b3 : 32 ^ n ≤ 32 ^ 8 := Nat.pow_le_pow_right (by decide) n8
  have b4 : 32 ^ n' ≤ 32 ^ 8 := Nat.pow_le_pow_right (by decide) n8'
  have c1 : (256 : Nat) ^ 8 = 2 ^ 64 := by decide
  have c2 : (32 : Nat) ^ 8 = 2 ^ 40 := by decide
  rw [i64_inj (by omega) (by omega), i64_inj (by omega) (by omega)]
  exact nXM n n' hg hg'
def kwG (s : List Nat) (i : Nat) : Nat := s.getD i 97
theorem kwG_ok {s : List Nat} (h : s.all (fun x => decide (97 ≤ x) && decide (x ≤ 122)) = true) (n : Nat) : lG (kwG s) n := by
  intro i _
  unfold kwG
  rw [List.getD_eq_getElem?_getD]
  cases hi : s[i]? with
  | none => exact ⟨by decide, by decide⟩
  | some x =>
    have := List.all_eq_true.mp h x (List.mem_of_getElem? hi)
    rw [Bool.and_eq_true, decide_eq_true_iff, decide_eq_true_iff] at this
    exact this
theorem wR_0 : wR 32497584235442030 W0 := ⟨kwG [115, 116, 97, 116, 105, 111, 110], 7, by decide, kwG_ok (by decide) 7, by decide +kernel, by decide +kernel⟩
theorem wR_1 : wR 500135192942 W1 := ⟨kwG [116, 114, 97, 105, 110], 5, by decide, kwG_ok (by decide) 5, by decide +kernel, by decide +kernel⟩
theorem wR_2 : wR 1936486263 W2 := ⟨kwG [115, 108, 111, 119], 4, by decide, kwG_ok (by decide) 4, by decide +kernel, by decide +kernel⟩
theorem wR_3 : wR 131277443786868 W3 := ⟨kwG [119, 101, 105, 103, 104, 116], 6, by decide, kwG_ok (by decide) 6, by decide +kernel, by decide +kernel⟩

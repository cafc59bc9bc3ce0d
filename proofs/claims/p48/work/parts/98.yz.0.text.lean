/-! print's text: letters and numbers of both sides (for p48, p49) -/
def qb (x : Int32) : Int32 := (x.toInt8.toInt32).toInt8.toInt32
def tT (N : Nat) (T b : List Int32) : Prop := b.length = N ∧ ∀ i, i < T.length → gN b i = gN T i
theorem gN_app1 {T U : List Int32} {i : Nat} (h : i < T.length) : gN (T ++ U) i = gN T i := by
  unfold gN
  rw [List.getD_eq_getElem?_getD, List.getD_eq_getElem?_getD, List.getElem?_append_left h]
theorem gN_app2 {T : List Int32} {x : Int32} : gN (T ++ [x]) T.length = x := by
  unfold gN
  rw [List.getD_eq_getElem?_getD, List.getElem?_append_right (Nat.le_refl _), Nat.sub_self]
  rfl
theorem tT.put {N : Nat} {T b : List Int32} {x : Int32} (H : tT N T b) (h : T.length < N) : tT N (T ++ [x]) (b.set T.length x) := by
  refine ⟨List.length_set.trans H.1, fun i hi => ?_⟩
  rw [List.length_append, List.length_singleton] at hi
  by_cases e : T.length = i
  · subst e
    rw [gN_eq (by rw [H.1]; exact h), gN_app2]
  · rw [gN_ne e, gN_app1 (by omega)]
    exact H.2 i (by omega)
def pnT (v : Int32) : List Int32 := [qb 32] ++ ((if v < 100 then [] else [qb (48 + v / 100)]) ++ ((if v < 10 then [] else [qb (48 + (v / 10 - v / 10 / 10 * 10))]) ++ [qb (48 + (v - v / 10 * 10))]))
theorem pnT_len (v : Int32) : (pnT v).length ≤ 4 := by
  unfold pnT
  split <;> split <;> simp
def xwL (w : Int64) (s : Int32) : Int32 := ((w >>> (s.toInt64 &&& 63)) &&& 255).toInt32
def mwL (w : Int64) (s : Int32) : Int64 := (w >>> (s.toInt64 &&& 63)) &&& 31
def xwT (w : Int64) : Nat → List Int32
  | 0 => []
  | f + 1 => (if xwL w (nI (8 * f)) = 0 then [] else [qb (xwL w (nI (8 * f)))]) ++ xwT w f
def mwT (w : Int64) : Nat → List Int32
  | 0 => []
  | f + 1 => (if mwL w (nI (5 * f)) = 0 then [] else [qb ((mwL w (nI (5 * f))).toInt32 + 96)]) ++ mwT w f
theorem xwT_len (w : Int64) : ∀ f, (xwT w f).length ≤ f
  | 0 => Nat.le_refl _
  | f + 1 => by
    have := xwT_len w f
    unfold xwT
    rw [List.length_append]
    split
    · show 0 + _ ≤ _
      omega
    · show 1 + _ ≤ _
      omega
theorem mwT_len (w : Int64) : ∀ f, (mwT w f).length ≤ f
  | 0 => Nat.le_refl _
  | f + 1 => by
    have := mwT_len w f
    unfold mwT
    rw [List.length_append]
    split
    · show 0 + _ ≤ _
      omega
    · show 1 + _ ≤ _
      omega
theorem nI_inj9 {a b : Nat} (ha : a < 2 ^ 31) (hb : b < 2 ^ 31) (h : nI a = nI b) : a = b := by
  have := congrArg Int32.toInt h
  rw [nI_toInt ha, nI_toInt hb] at this
  exact Int.ofNat_inj.mp this
theorem i64_k63 {k : Nat} (hk : k < 64) : ((nI k).toInt64 &&& 63) = Int64.ofNat k := by
  rw [show (nI k).toInt64 = Int64.ofNat k from i32_64 (by omega)]
  have : ∀ k : Fin 64, Int64.ofNat k.val &&& 63 = Int64.ofNat k.val := by decide
  exact this ⟨k, hk⟩
theorem i64_shr {a k : Nat} (hk : k < 64) (ha : a < 2 ^ 63) : Int64.ofNat a >>> Int64.ofNat k = Int64.ofNat (a / 2 ^ k) := by
  apply i64_eq
  have e1 : (Int64.ofNat k).toBitVec.smod 64 = BitVec.ofNat 64 k := by
    show (BitVec.ofNat 64 k).smod 64 = _
    have : ∀ k : Fin 64, (BitVec.ofNat 64 k.val).smod 64 = BitVec.ofNat 64 k.val := by decide
    exact this ⟨k, hk⟩
  have hq : a / 2 ^ k ≤ a := Nat.div_le_self _ _
  have hm : (Int64.ofNat a).toBitVec.msb = false := by
    rw [BitVec.msb_eq_false_iff_two_mul_lt, i64_nat]
    omega
  rw [Int64.toBitVec_shiftRight, e1, BitVec.sshiftRight_eq', BitVec.sshiftRight_eq_of_msb_false hm, BitVec.toNat_ushiftRight, BitVec.toNat_ofNat, i64_nat, i64_nat, Nat.mod_eq_of_lt (show k < 2 ^ 64 by omega), Nat.mod_eq_of_lt (show a < 2 ^ 64 by omega), Nat.mod_eq_of_lt (show a / 2 ^ k < 2 ^ 64 by omega), Nat.shiftRight_eq_div_pow]
theorem i64_and {a k : Nat} (hk : k < 32) (ha : a < 2 ^ 64) : Int64.ofNat a &&& Int64.ofNat (2 ^ k - 1) = Int64.ofNat (a % 2 ^ k) := by
  apply i64_eq
  have h2 : 2 ^ k < 2 ^ 64 := Nat.pow_lt_pow_right (by decide) (by omega)
  have hp := Nat.two_pow_pos k
  have hq : a % 2 ^ k < 2 ^ k := Nat.mod_lt _ hp
  rw [Int64.toBitVec_and, BitVec.toNat_and, i64_nat, i64_nat, i64_nat, Nat.mod_eq_of_lt ha, Nat.mod_eq_of_lt (show 2 ^ k - 1 < 2 ^ 64 by omega), Nat.mod_eq_of_lt (show a % 2 ^ k < 2 ^ 64 by omega), Nat.and_two_pow_sub_one_eq_mod]
theorem i64_t32 : ∀ c : Fin 256, (Int64.ofNat c.val).toInt32 = Int32.ofNat c.val := by decide +kernel
theorem xwL_n {a f : Nat} (ha : a < 2 ^ 63) (hf : f < 8) : xwL (Int64.ofNat a) (nI (8 * f)) = nI (a / 2 ^ (8 * f) % 256) := by
  unfold xwL
  have hq : a / 2 ^ (8 * f) ≤ a := Nat.div_le_self _ _
  rw [i64_k63 (by omega), i64_shr (by omega) ha, show (255 : Int64) = Int64.ofNat (2 ^ 8 - 1) from by decide, i64_and (by decide) (by omega)]
  exact i64_t32 ⟨_, Nat.mod_lt _ (by decide)⟩
theorem mwL_n {a f : Nat} (ha : a < 2 ^ 63) (hf : f < 9) : mwL (Int64.ofNat a) (nI (5 * f)) = Int64.ofNat (a / 2 ^ (5 * f) % 32) := by
  unfold mwL
  have hq : a / 2 ^ (5 * f) ≤ a := Nat.div_le_self _ _
  rw [i64_k63 (by omega), i64_shr (by omega) ha, show (31 : Int64) = Int64.ofNat (2 ^ 5 - 1) from by decide, i64_and (by decide) (by omega)]
theorem nX_dg {g : Nat → Nat} : ∀ (n f : Nat), lG g n → nX g n / 2 ^ (8 * f) % 256 = if f < n then g (n - 1 - f) else 0
  | 0, f, _ => by
    rw [if_neg (by omega)]
    show 0 / _ % 256 = 0
    rw [Nat.zero_div]
  | n + 1, 0, h => by
    have := h n (by omega)
    rw [if_pos (by omega)]
    show (256 * nX g n + g n) / 2 ^ 0 % 256 = g (n + 1 - 1 - 0)
    rw [show n + 1 - 1 - 0 = n by omega, Nat.pow_zero, Nat.div_one]
    omega
  | n + 1, f + 1, h => by
    have hn := h n (by omega)
    have e : (256 * nX g n + g n) / 2 ^ (8 * (f + 1)) = nX g n / 2 ^ (8 * f) := by
      rw [show 2 ^ (8 * (f + 1)) = 256 * 2 ^ (8 * f) by rw [show 8 * (f + 1) = 8 + 8 * f by omega, Nat.pow_add], ← Nat.div_div_eq_div_mul]
      congr 1
      omega
    show (256 * nX g n + g n) / 2 ^ (8 * (f + 1)) % 256 = _
    rw [e, nX_dg n f (fun i hi => h i (by omega))]
    by_cases c : f < n
    · rw [if_pos c, if_pos (by omega)]
      congr 1
      omega
    · rw [if_neg c, if_neg (by omega)]
theorem nM_dg {g : Nat → Nat} : ∀ (n f : Nat), lG g n → nM g n / 2 ^ (5 * f) % 32 = if f < n then g (n - 1 - f) - 96 else 0
  | 0, f, _ => by
    rw [if_neg (by omega)]
    show 0 / _ % 32 = 0
    rw [Nat.zero_div]
  | n + 1, 0, h => by
    have := h n (by omega)
    rw [if_pos (by omega)]
    show (32 * nM g n + (g n - 96)) / 2 ^ 0 % 32 = g (n + 1 - 1 - 0) - 96
    rw [show n + 1 - 1 - 0 = n by omega, Nat.pow_zero, Nat.div_one]
    omega
  | n + 1, f + 1, h => by
    have hn := h n (by omega)
    have e : (32 * nM g n + (g n - 96)) / 2 ^ (5 * (f + 1)) = nM g n / 2 ^ (5 * f) := by
      rw [show 2 ^ (5 * (f + 1)) = 32 * 2 ^ (5 * f) by rw [show 5 * (f + 1) = 5 + 5 * f by omega, Nat.pow_add], ← Nat.div_div_eq_div_mul]
      congr 1
      omega
    show (32 * nM g n + (g n - 96)) / 2 ^ (5 * (f + 1)) % 32 = _
    rw [e, nM_dg n f (fun i hi => h i (by omega))]
    by_cases c : f < n
    · rw [if_pos c, if_pos (by omega)]
      congr 2
      omega
    · rw [if_neg c, if_neg (by omega)]
theorem nX_lt2 {g : Nat → Nat} : ∀ n, lG g n → 2 * nX g n < 256 ^ n
  | 0, _ => Nat.zero_lt_one
  | n + 1, h => by
    have h1 := nX_lt2 n (fun i hi => h i (by omega))
    have h2 := h n (by omega)
    show 2 * (256 * nX g n + g n) < 256 ^ (n + 1)
    rw [Nat.pow_succ]
    omega
def dgT (g : Nat → Nat) (n : Nat) : Nat → List Int32
  | 0 => []
  | f + 1 => (if f < n then [qb (nI (g (n - 1 - f)))] else []) ++ dgT g n f
theorem xwT_g {g : Nat → Nat} {n : Nat} (h8 : n ≤ 8) (h : lG g n) : ∀ f, f ≤ 8 → xwT (Int64.ofNat (nX g n)) f = dgT g n f
  | 0, _ => rfl
  | f + 1, hf => by
    have h1 := nX_lt2 n h
    have h2 : 256 ^ n ≤ 256 ^ 8 := Nat.pow_le_pow_right (by decide) h8
    unfold xwT dgT
    rw [xwL_n (by omega) (by omega), nX_dg n f h, xwT_g h8 h f (by omega)]
    by_cases c : f < n
    · have := h (n - 1 - f) (by omega)
      rw [if_pos c, if_pos c, if_neg (fun z => by
        have z : nI (g (n - 1 - f)) = nI 0 := z
        have := nI_inj9 (by omega) (by omega) z
        omega)]
    · rw [if_neg c, if_neg c, if_pos (show nI 0 = (0 : Int32) from rfl)]
theorem mwT_g {g : Nat → Nat} {n : Nat} (h8 : n ≤ 8) (h : lG g n) : ∀ f, f ≤ 9 → mwT (Int64.ofNat (nM g n)) f = dgT g n f
  | 0, _ => rfl
  | f + 1, hf => by
    have h1 := nM_lt n h
    have h2 : 32 ^ n ≤ 32 ^ 8 := Nat.pow_le_pow_right (by decide) h8
    unfold mwT dgT
    rw [mwL_n (by omega) (by omega), nM_dg n f h, mwT_g h8 h f (by omega)]
    by_cases c : f < n
    · have := h (n - 1 - f) (by omega)
      rw [if_pos c, if_pos c, if_neg (fun z => by
        have z : Int64.ofNat (g (n - 1 - f) - 96) = Int64.ofNat 0 := z
        have := (i64_inj (by omega) (by omega)).mp z
        omega)]
      have e : (Int64.ofNat (g (n - 1 - f) - 96)).toInt32 = nI (g (n - 1 - f) - 96) := i64_t32 ⟨_, by omega⟩
      rw [e, show nI (g (n - 1 - f) - 96) + 96 = nI (g (n - 1 - f)) from (Int32.ofNat_add _ 96).symm.trans (congrArg Int32.ofNat (by omega))]
    · rw [if_neg c, if_neg c, if_pos (show Int64.ofNat 0 = (0 : Int64) from rfl)]
theorem dgT_s {g : Nat → Nat} {n f : Nat} : dgT g n (f + 1) = (if f < n then [qb (nI (g (n - 1 - f)))] else []) ++ dgT g n f := rfl
theorem dgT_9 {g : Nat → Nat} {n f : Nat} (h : ¬ f < n) : dgT g n (f + 1) = dgT g n f := (dgT_s (f := f)).trans ((congrArg (fun z => z ++ dgT g n f) (if_neg h)).trans (List.nil_append _))
theorem wR.txtf {w w' : Int64} {e f : Nat} (he : e = 8) (hf : f = e + 1) (h : wR w w') : xwT w e = mwT w' f := by
  obtain ⟨g, n, h8, hg, rfl, rfl⟩ := h
  subst hf
  exact (xwT_g h8 hg e (by omega)).trans ((dgT_9 (by omega)).symm.trans (mwT_g h8 hg (e + 1) (by omega)).symm)
/-- a word, as both write it -/
theorem wR.txt {w w' : Int64} (h : wR w w') : xwT w 8 = mwT w' 9 := h.txtf rfl rfl

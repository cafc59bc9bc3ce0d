/-! how many bits an int has: by bytes -/
def usr (x k : Int32) : Int32 := (x.toUInt32 >>> (k.toUInt32 &&& Int32.toUInt32 31)).toInt32
def bcA (x : Int32) : Int32 := x - (usr x 1 &&& 1431655765)
def bcB (y : Int32) : Int32 := (y &&& 858993459) + (usr y 2 &&& 858993459)
def bcC (z : Int32) : Int32 := (z + usr z 4) &&& 252645135
def bcD (z : Int32) : Int32 := z + usr z 8
def bcE (z : Int32) : Int32 := (z + usr z 16) &&& 63
theorem bc_st (x : Int32) : x_bitCount x = bcE (bcD (bcC (bcB (bcA x)))) := rfl
theorem tb_nI {X c : Nat} (hc : c < 32) : tb (nI X) c = X.testBit c := by
  unfold tb
  show (BitVec.ofNat 32 X).getLsbD c = _
  rw [BitVec.getLsbD_ofNat, decide_eq_true hc, Bool.true_and]
theorem and_n (X Y : Nat) : nI X &&& nI Y = nI (X &&& Y) := by
  apply tb_ext
  intro c hc
  rw [tb_and, tb_nI hc, tb_nI hc, tb_nI hc, Nat.testBit_and]
theorem usr_n {X k : Nat} (hX : X < 2 ^ 31) (hk : k < 32) : usr (nI X) (nI k) = nI (X / 2 ^ k) := by
  have e : (((nI k).toUInt32 &&& Int32.toUInt32 31).toBitVec.umod 32).toNat = k := by
    have : ∀ k : Fin 32, (((nI k.val).toUInt32 &&& Int32.toUInt32 31).toBitVec.umod 32).toNat = k.val := by decide +kernel
    exact this ⟨k, hk⟩
  apply Int32.toBitVec_inj.mp
  show (BitVec.ofNat 32 X).ushiftRight (((nI k).toUInt32 &&& Int32.toUInt32 31).toBitVec.umod 32).toNat = BitVec.ofNat 32 (X / 2 ^ k)
  rw [e]
  apply BitVec.eq_of_toNat_eq
  show ((BitVec.ofNat 32 X) >>> k).toNat = _
  rw [BitVec.toNat_ushiftRight, BitVec.toNat_ofNat, BitVec.toNat_ofNat, Nat.shiftRight_eq_div_pow, Nat.mod_eq_of_lt (by omega), Nat.mod_eq_of_lt (by have := Nat.div_le_self X (2 ^ k); omega)]
theorem land256 (a b m M : Nat) (ha : a < 256) (hm : m < 256) : (a + 256 * b) &&& (m + 256 * M) = (a &&& m) + 256 * (b &&& M) := by
  have h1 : ((a + 256 * b) &&& (m + 256 * M)) % 2 ^ 8 = a &&& m := by
    rw [Nat.and_mod_two_pow, show (a + 256 * b) % 2 ^ 8 = a by omega, show (m + 256 * M) % 2 ^ 8 = m by omega]
  have h2 : ((a + 256 * b) &&& (m + 256 * M)) / 2 ^ 8 = b &&& M := by
    rw [Nat.and_div_two_pow, show (a + 256 * b) / 2 ^ 8 = b by omega, show (m + 256 * M) / 2 ^ 8 = M by omega]
  omega
/-- three bytes -/
def by3 (a b c : Nat) : Nat := a + 256 * (b + 256 * c)
theorem land3 {a b c m : Nat} (ha : a < 256) (hb : b < 256) (hc : c < 256) (hm : m < 256) : by3 a b c &&& (m + 256 * (m + 256 * (m + 256 * m))) = by3 (a &&& m) (b &&& m) (c &&& m) := by
  unfold by3
  rw [land256 _ _ _ _ ha hm, land256 _ _ _ _ hb hm]
  have := land256 c 0 m m hc hm
  rw [Nat.mul_zero, Nat.add_zero, Nat.zero_and, Nat.mul_zero, Nat.add_zero] at this
  rw [this]
def pA (a : Nat) : Nat := a - (a / 2 &&& 85)
def pB (a : Nat) : Nat := (a &&& 51) + (a / 4 &&& 51)
def pC (a : Nat) : Nat := a / 16 + a % 16
def p8 (a : Nat) : Nat := pC (pB (pA a))
theorem pA_f {a : Nat} (ha : a < 256) : (∀ e, e < 2 → (a / 2 + 128 * e) &&& 85 = a / 2 &&& 85) ∧ (a / 2 &&& 85) ≤ a ∧ pB (pA a) / 16 ≤ 4 ∧ pB (pA a) % 16 ≤ 4 ∧ pA a < 256 := by
  have : ∀ a : Fin 256, (∀ e : Fin 2, (a.val / 2 + 128 * e.val) &&& 85 = a.val / 2 &&& 85) ∧ (a.val / 2 &&& 85) ≤ a.val ∧ pB (pA a.val) / 16 ≤ 4 ∧ pB (pA a.val) % 16 ≤ 4 ∧ pA a.val < 256 := by decide +kernel
  have h := this ⟨a, ha⟩
  exact ⟨fun e he => h.1 ⟨e, he⟩, h.2⟩
theorem pB_f {a : Nat} (ha : a < 256) : (∀ e, e < 4 → (a / 4 + 64 * e) &&& 51 = a / 4 &&& 51) := by
  have : ∀ a : Fin 256, (∀ e : Fin 4, (a.val / 4 + 64 * e.val) &&& 51 = a.val / 4 &&& 51) := by decide +kernel
  exact fun e he => this ⟨a, ha⟩ ⟨e, he⟩
theorem bcA_n {a b c : Nat} (ha : a < 256) (hb : b < 256) (hc : c < 256) : bcA (nI (by3 a b c)) = nI (by3 (pA a) (pA b) (pA c)) := by
  obtain ⟨fa, la, -⟩ := pA_f ha
  obtain ⟨fb, lb, -⟩ := pA_f hb
  obtain ⟨fc, lc, -⟩ := pA_f hc
  unfold bcA
  rw [show (1 : Int32) = nI 1 from rfl, usr_n (by unfold by3; omega) (by decide), show (1431655765 : Int32) = nI (85 + 256 * (85 + 256 * (85 + 256 * 85))) from rfl, and_n]
  have e : by3 a b c / 2 ^ 1 = by3 (a / 2 + 128 * (b % 2)) (b / 2 + 128 * (c % 2)) (c / 2 + 128 * 0) := by unfold by3; omega
  rw [e, land3 (by omega) (by omega) (by omega) (by decide), fa _ (by omega), fb _ (by omega), fc _ (by omega), sub_nI (by unfold by3; omega)]
  congr 1
  unfold by3 pA
  omega
theorem bcB_n {a b c : Nat} (ha : a < 256) (hb : b < 256) (hc : c < 256) : bcB (nI (by3 a b c)) = nI (by3 (pB a) (pB b) (pB c)) := by
  have fa := pB_f ha
  have fb := pB_f hb
  have fc := pB_f hc
  unfold bcB
  rw [show (2 : Int32) = nI 2 from rfl, usr_n (by unfold by3; omega) (by decide), show (858993459 : Int32) = nI (51 + 256 * (51 + 256 * (51 + 256 * 51))) from rfl, and_n, and_n]
  have e : by3 a b c / 2 ^ 2 = by3 (a / 4 + 64 * (b % 4)) (b / 4 + 64 * (c % 4)) (c / 4 + 64 * 0) := by unfold by3; omega
  rw [e, land3 (by omega) (by omega) (by omega) (by decide), land3 (by omega) (by omega) (by omega) (by decide), fa _ (by omega), fb _ (by omega), fc _ (by omega), nI_add]
  congr 1
  unfold by3 pB
  omega
theorem bcC_n {a b c : Nat} (ha : a / 16 ≤ 4 ∧ a % 16 ≤ 4) (hb : b / 16 ≤ 4 ∧ b % 16 ≤ 4) (hc : c / 16 ≤ 4 ∧ c % 16 ≤ 4) : bcC (nI (by3 a b c)) = nI (by3 (pC a) (pC b) (pC c)) := by
  unfold bcC
  rw [show (4 : Int32) = nI 4 from rfl, usr_n (by unfold by3; omega) (by decide), show (252645135 : Int32) = nI (15 + 256 * (15 + 256 * (15 + 256 * 15))) from rfl, nI_add, and_n]
  have e : by3 a b c + by3 a b c / 2 ^ 4 = by3 (a + a / 16 + 16 * (b % 16)) (b + b / 16 + 16 * (c % 16)) (c + c / 16) := by unfold by3; omega
  have m15 : ∀ x : Nat, x &&& 15 = x % 16 := fun x => Nat.and_two_pow_sub_one_eq_mod x 4
  have r : ∀ x y : Nat, x / 16 ≤ 4 → x % 16 ≤ 4 → (x + x / 16 + 16 * y) % 16 = pC x := fun x y h1 h2 => by unfold pC; omega
  have r3 : (c + c / 16) % 16 = pC c := r c 0 hc.1 hc.2
  rw [e, land3 (by omega) (by omega) (by omega) (by decide), m15, m15, m15, r a _ ha.1 ha.2, r b _ hb.1 hb.2, r3]
theorem bcF_n {a b c : Nat} (ha : a < 9) (hb : b < 9) (hc : c < 9) : bcE (bcD (nI (by3 a b c))) = nI (a + b + c) := by
  unfold bcD bcE
  rw [show (8 : Int32) = nI 8 from rfl, usr_n (by unfold by3; omega) (by decide), nI_add, show (16 : Int32) = nI 16 from rfl, usr_n (by unfold by3; omega) (by decide), nI_add, show (63 : Int32) = nI 63 from rfl, and_n, Nat.and_two_pow_sub_one_eq_mod _ 6]
  have e1 : by3 a b c + by3 a b c / 2 ^ 8 = (a + b) + 256 * ((b + c) + 256 * c) := by unfold by3; omega
  have e2 : ((a + b) + 256 * ((b + c) + 256 * c)) / 2 ^ 16 = c := by omega
  have e3 : ((a + b) + 256 * ((b + c) + 256 * c) + c) % 2 ^ 6 = a + b + c := by omega
  rw [e1, e2, e3]
theorem bc3 {a b c : Nat} (ha : a < 256) (hb : b < 256) (hc : c < 256) : x_bitCount (nI (by3 a b c)) = nI (p8 a + p8 b + p8 c) := by
  obtain ⟨-, -, a1, a2, a3⟩ := pA_f ha
  obtain ⟨-, -, b1, b2, b3⟩ := pA_f hb
  obtain ⟨-, -, c1, c2, c3⟩ := pA_f hc
  rw [bc_st, bcA_n ha hb hc, bcB_n a3 b3 c3, bcC_n ⟨a1, a2⟩ ⟨b1, b2⟩ ⟨c1, c2⟩, bcF_n (by unfold pC; omega) (by unfold pC; omega) (by unfold pC; omega)]
  rfl
def bTn (b : Bool) : Nat := if b = true then 1 else 0
theorem p8_n {a : Nat} (ha : a < 256) : p8 a = bTn (a.testBit 0) + bTn (a.testBit 1) + bTn (a.testBit 2) + bTn (a.testBit 3) + bTn (a.testBit 4) + bTn (a.testBit 5) + bTn (a.testBit 6) + bTn (a.testBit 7) := by
  have : ∀ a : Fin 256, p8 a.val = bTn (a.val.testBit 0) + bTn (a.val.testBit 1) + bTn (a.val.testBit 2) + bTn (a.val.testBit 3) + bTn (a.val.testBit 4) + bTn (a.val.testBit 5) + bTn (a.val.testBit 6) + bTn (a.val.testBit 7) := by decide +kernel
  exact this ⟨a, ha⟩
/-- bits 0 to 23 -/
def bs : Nat → (Nat → Bool) → Nat
  | 0, _ => 0
  | f + 1, p => bs f p + bTn (p f)
theorem bc_bits {x : Int32} (hx : ∀ c, 24 ≤ c → c < 32 → tb x c = false) : x_bitCount x = nI (bs 24 (tb x)) := by
  obtain ⟨X, hX, rfl⟩ : ∃ X, X < 2 ^ 32 ∧ x = nI X := ⟨x.toBitVec.toNat, x.toBitVec.isLt, Int32.toBitVec_inj.mp (by
    show x.toBitVec = BitVec.ofNat 32 x.toBitVec.toNat
    rw [BitVec.ofNat_toNat, BitVec.setWidth_eq])⟩
  have h24 : X < 2 ^ 24 := Nat.lt_pow_two_of_testBit X (fun i hi => by
    by_cases c : i < 32
    · rw [← tb_nI c]; exact hx i hi c
    · exact Nat.testBit_lt_two_pow (Nat.lt_of_lt_of_le hX (Nat.pow_le_pow_right (by decide) (by omega))))
  obtain ⟨a, b, c, ha, hb, hc, rfl⟩ : ∃ a b c, a < 256 ∧ b < 256 ∧ c < 256 ∧ X = by3 a b c := ⟨X % 256, X / 256 % 256, X / 65536, by omega, by omega, by omega, by unfold by3; omega⟩
  rw [bc3 ha hb hc, p8_n ha, p8_n hb, p8_n hc]
  have t0 : ∀ k, k < 8 → tb (nI (by3 a b c)) k = a.testBit k := fun k hk => by
    rw [tb_nI (by omega)]
    have : by3 a b c % 2 ^ 8 = a := by unfold by3; omega
    rw [show a.testBit k = (by3 a b c % 2 ^ 8).testBit k from by rw [this], Nat.testBit_mod_two_pow, decide_eq_true hk, Bool.true_and]
  have t1 : ∀ k, k < 8 → tb (nI (by3 a b c)) (8 + k) = b.testBit k := fun k hk => by
    rw [tb_nI (by omega)]
    have : by3 a b c / 2 ^ 8 % 2 ^ 8 = b := by unfold by3; omega
    rw [show b.testBit k = (by3 a b c / 2 ^ 8 % 2 ^ 8).testBit k from by rw [this], Nat.testBit_mod_two_pow, decide_eq_true hk, Bool.true_and, Nat.testBit_div_two_pow, Nat.add_comm]
  have t2 : ∀ k, k < 8 → tb (nI (by3 a b c)) (16 + k) = c.testBit k := fun k hk => by
    rw [tb_nI (by omega)]
    have : by3 a b c / 2 ^ 16 = c := by unfold by3; omega
    rw [show c.testBit k = (by3 a b c / 2 ^ 16).testBit k from by rw [this], Nat.testBit_div_two_pow, Nat.add_comm]
  congr 1
  simp only [bs]
  rw [t0 0 (by decide), t0 1 (by decide), t0 2 (by decide), t0 3 (by decide), t0 4 (by decide), t0 5 (by decide), t0 6 (by decide), t0 7 (by decide)]
  rw [show tb (nI (by3 a b c)) 8 = b.testBit 0 from t1 0 (by decide), show tb (nI (by3 a b c)) 9 = b.testBit 1 from t1 1 (by decide), show tb (nI (by3 a b c)) 10 = b.testBit 2 from t1 2 (by decide), show tb (nI (by3 a b c)) 11 = b.testBit 3 from t1 3 (by decide), show tb (nI (by3 a b c)) 12 = b.testBit 4 from t1 4 (by decide), show tb (nI (by3 a b c)) 13 = b.testBit 5 from t1 5 (by decide), show tb (nI (by3 a b c)) 14 = b.testBit 6 from t1 6 (by decide), show tb (nI (by3 a b c)) 15 = b.testBit 7 from t1 7 (by decide)]
  rw [show tb (nI (by3 a b c)) 16 = c.testBit 0 from t2 0 (by decide), show tb (nI (by3 a b c)) 17 = c.testBit 1 from t2 1 (by decide), show tb (nI (by3 a b c)) 18 = c.testBit 2 from t2 2 (by decide), show tb (nI (by3 a b c)) 19 = c.testBit 3 from t2 3 (by decide), show tb (nI (by3 a b c)) 20 = c.testBit 4 from t2 4 (by decide), show tb (nI (by3 a b c)) 21 = c.testBit 5 from t2 5 (by decide), show tb (nI (by3 a b c)) 22 = c.testBit 6 from t2 6 (by decide), show tb (nI (by3 a b c)) 23 = c.testBit 7 from t2 7 (by decide)]
  omega

/-! bytes that feed takes: the class's, the reference's -/
def bP (x y : Int32) : Prop := (0 ≤ x.toInt ∧ y.toInt = x.toInt) ∨ (x.toInt < 0 ∧ 128 ≤ y.toInt)
def fS (k : Nat) : Int32 := Int32.ofInt (8 * (k : Int) - 8)
def yM (w : Int32) (k : Nat) : Int32 := (w.toUInt32 >>> ((fS k).toUInt32 &&& Int32.toUInt32 31)).toInt32 &&& 255
def yX (w : Int32) (k : Nat) : Int32 := (w >>> (fS k &&& 31)).toInt8.toInt32.toInt8.toInt32
theorem fb_8 {u : BitVec 32} {x y : Int32} {b : BitVec 8} (hx : x.toBitVec = b.signExtend 32) (hy : y.toBitVec.toNat = b.toNat) : bP x y := by
  have h1 : x.toInt = b.toInt := by
    show x.toBitVec.toInt = _
    rw [hx, BitVec.toInt_signExtend_of_le (by decide)]
  have hb := b.isLt
  have h2 : y.toInt = (b.toNat : Int) := by
    show y.toBitVec.toInt = _
    rw [BitVec.toInt_eq_toNat_of_lt (by rw [hy]; omega), hy]
  unfold bP
  rw [h1, h2]
  have h3 := BitVec.toInt_eq_toNat_cond b
  split at h3
  · exact Or.inl ⟨by omega, by omega⟩
  · exact Or.inr ⟨by omega, by omega⟩
theorem fb_x {w : Int32} {v : BitVec 32} {c : Int32} (h : (w >>> c).toBitVec = v) : (w >>> c).toInt8.toInt32.toInt8.toInt32.toBitVec = (v.setWidth 8).signExtend 32 := by
  subst h
  have e8 : ∀ x : BitVec 32, x.signExtend 8 = x.setWidth 8 := fun x => BitVec.signExtend_eq_setWidth_of_le x (by decide)
  rw [Int8.toBitVec_toInt32, Int32.toBitVec_toInt8, Int8.toBitVec_toInt32, Int32.toBitVec_toInt8, e8, e8]
  generalize (w >>> c).toBitVec.setWidth 8 = v
  have e9 : (v.signExtend 32).setWidth 8 = v := by
    apply BitVec.eq_of_getElem_eq
    intro i hi
    rw [BitVec.getElem_setWidth, BitVec.getLsbD_signExtend, decide_eq_true (show i < 32 by omega), Bool.true_and, if_pos hi, BitVec.getLsbD_eq_getElem hi]
  rw [e9]
theorem fb_y (u : BitVec 32) : (u &&& 255#32).toNat = (u.setWidth 8).toNat := by
  rw [BitVec.toNat_and, BitVec.toNat_setWidth]
  exact Nat.and_two_pow_sub_one_eq_mod u.toNat 8
theorem fb_s (u : BitVec 32) (s : Nat) (hs : s ≤ 24) : (u.sshiftRight s).setWidth 8 = (u >>> s).setWidth 8 := by
  apply BitVec.eq_of_getElem_eq
  intro i hi
  rw [BitVec.getElem_setWidth, BitVec.getElem_setWidth, BitVec.getLsbD_sshiftRight, BitVec.getLsbD_ushiftRight, decide_eq_false (show ¬ 32 ≤ i by omega), if_pos (show s + i < 32 by omega)]
  rfl
theorem fb_ok (w : Int32) {k : Nat} (h1 : 1 ≤ k) (h4 : k ≤ 4) : bP (yX w k) (yM w k) := by
  have hh : ∀ s : Nat, s ≤ 24 → ∀ c : Int32, (w >>> c).toBitVec = w.toBitVec.sshiftRight s → ∀ d : UInt32, (w.toUInt32 >>> d).toBitVec = w.toBitVec >>> s → bP (w >>> c).toInt8.toInt32.toInt8.toInt32 ((w.toUInt32 >>> d).toInt32 &&& 255) := by
    intro s hs c hc d hd
    refine fb_8 (u := w.toBitVec) (b := (w.toBitVec >>> s).setWidth 8) ?_ ?_
    · rw [fb_x hc, fb_s _ _ hs]
    · show ((w.toUInt32 >>> d).toBitVec &&& 255#32).toNat = _
      rw [hd, fb_y]
  unfold yX yM
  match k, h1, h4 with
  | 1, _, _ => exact hh 0 (by decide) _ rfl _ rfl
  | 2, _, _ => exact hh 8 (by decide) _ rfl _ rfl
  | 3, _, _ => exact hh 16 (by decide) _ rfl _ rfl
  | 4, _, _ => exact hh 24 (by decide) _ rfl _ rfl
/-- the last k bytes of an int, from place n on -/
def f9B (y : Int32 → Nat → Int32) (w : Int32) : Nat → Nat → List Int32 → List Int32
  | 0, _, l => l
  | k + 1, n, l => f9B y w k (n + 1) (l.set n (y w (k + 1)))
theorem fB_len {y : Int32 → Nat → Int32} {w : Int32} : ∀ (k n : Nat) (l : List Int32), (f9B y w k n l).length = l.length
  | 0, _, _ => rfl
  | k + 1, n, l => by
    show (f9B y w k (n + 1) _).length = _
    rw [fB_len k (n + 1)]
    simp
def bA9 (l m : List Int32) (n : Nat) : Prop := ∀ i, i < n → bP (l.getD i 0) (m.getD i 0)
theorem fB_R {w : Int32} : ∀ (k n : Nat) (l m : List Int32), k ≤ 4 → n + k ≤ 700 → l.length = 700 → m.length = 700 → bA9 l m n → bA9 (f9B yX w k n l) (f9B yM w k n m) (n + k)
  | 0, _, _, _, _, _, _, _, h => h
  | k + 1, n, l, m, h4, hn, hl, hm, h => by
    have := fB_R (w := w) k (n + 1) (l.set n (yX w (k + 1))) (m.set n (yM w (k + 1))) (by omega) (by omega) (by simp [hl]) (by simp [hm]) (fun i hi => by
      by_cases e : n = i
      · subst e
        rw [jk_gs _ _ _ _ (by omega), jk_gs _ _ _ _ (by omega)]
        exact fb_ok w (by omega) (by omega)
      · rw [jk_gn e, jk_gn e]
        exact h i (by omega))
    rw [show n + (k + 1) = n + 1 + k by omega]
    exact this
theorem fS_s (k : Nat) : fS (k + 1) + Int32.ofInt (-8) = fS k := by
  unfold fS
  rw [← Int32.ofInt_add]
  congr 1
  omega
section JKBAST
variable {P : j_P} {d mi pc : Nat} {lv : J_L} {st : List Value} {h h0 : J_H} {k : jk_K} {Q : Option Value → J_H → Prop}
theorem j_W.bastK {M : j_M} {a n : Nat} {l : List Int32} {x : Int32} {k' : jk_K} (hM : j_meth P mi = some M) (hc : j_code P mi pc = some .bastore) (K : KN h k h0) (ha : jk_lk k a = some (.inr (.inl (1, l)))) (hn : n < l.length) (hl : l.length < 2 ^ 31) (hk : jk_st k a (.inr (.inl (1, l.set n x.toInt8.toInt32))) = k') (kk : ∀ h', KN h' k' h0 → j_W P d mi (pc + 1) lv st h' Q) : j_W P d mi pc lv (.int x :: .int (nI n) :: .ref a :: st) h Q := by
  have h1 : (nI n).toNatClampNeg = n := nI_clamp (by omega)
  refine j_W.one hM hc ⟨fun z => (by cases z), fun z => (by cases z)⟩ (pcJ := pc + 1) (lv' := lv) (stJ := st) (h' := h.set a (.inr (.inl (1, l.set n x.toInt8.toInt32)))) ?_ (kk _ (K.set ha hk))
  simp only [j_one, j_kd, j_ast, K.at ha, j_ln]
  rw [if_pos ⟨by decide, jk_in hn hl⟩, h1]
  rfl
end JKBAST

/-! what the class's out reads; the reference, when the law's own array is written -/
def i_Sh (h : J_H) : Prop := ∃ (fx fk : List Value) (n : Int32) (l : List Int32), h[0]? = some (.inl (9, fx)) ∧ fx[5]? = some (.ref 325) ∧ h[325]? = some (.inl (6, fk)) ∧ fk[1]? = some (.int n) ∧ fk[0]? = some (.ref 326) ∧ h[326]? = some (.inr (.inl (1, l))) ∧ l.length = 700 ∧ n.toInt ≤ 700
noncomputable def i_sg (E : jc_E) (a i : Nat) (s : Nat × Nat × Nat) (T : jc_ty) : Bool := match ja_n2 E.1 a with
  | some d => decide (d.1 = s) && (Nat.ble (i + 1) s.2.2 && (match jc_sg d.2 i with
    | some z => decide (z.1 = some T)
    | none => false))
  | none => false
theorem i_sg_ok {E : jc_E} {X : J_H → Prop} {r : jc_R} {t : jc_T} {A : jc_A} {h : J_H} {a i : Nat} {s : Nat × Nat × Nat} {T : jc_ty} (hg : jc_g E X r t A h) (hs : jc_lk A.2.2.1 (jc_key a i) = none) (hq : i_sg E a i s T = true) : (∃ d, ja_n2 E.1 a = some d ∧ d.1 = s) ∧ ∃ v, jc_at h a i = some v ∧ jc_tv (some T) v := by
  unfold i_sg at hq
  split at hq
  · rename_i d hd
    obtain ⟨q1, hq⟩ := Bool.and_eq_true_iff.mp hq
    obtain ⟨q2, q3⟩ := Bool.and_eq_true_iff.mp hq
    have e1 := of_decide_eq_true q1
    split at q3
    · rename_i z hz
      refine ⟨⟨d, hd, e1⟩, ?_⟩
      have := hg.atT hd (i := i) (by rw [e1]; exact Nat.le_of_ble_eq_true q2) hs hz
      rw [of_decide_eq_true q3] at this
      exact this
    · cases q3
  · cases hq
theorem i_tvr {a : Nat} {v : Value} (h : jc_tv (some (.inr (some a))) v) : v = .ref a := by
  cases v with
  | ref b => exact congrArg _ h
  | _ => exact h.elim
theorem i_tvi {q : Int × Int} {v : Value} (h : jc_tv (some (.inl q)) v) : ∃ x : Int32, v = .int x ∧ q.1 ≤ x.toInt ∧ x.toInt ≤ q.2 := by
  cases v with
  | int x => exact ⟨x, rfl, h⟩
  | _ => exact h.elim
theorem i_sh1 {E : jc_E} {X : J_H → Prop} {r : jc_R} {t : jc_T} {O : List (Nat × jc_v)} {Of : List Nat} {h : J_H} (hg : jc_g E X r t (i_st O Of) h) (o1 : jc_lk O (jc_key 0 5) = none) (o2 : jc_lk O (jc_key 325 0) = none) (o3 : jc_lk O (jc_key 325 1) = none) (o4 : jc_lk O (jc_key 326 0) = none)
    (q1 : i_sg E 0 5 (0, 9, 9) (.inr (some 325)) = true) (q2 : i_sg E 325 0 (0, 6, 2) (.inr (some 326)) = true) (q3 : i_sg E 325 1 (0, 6, 2) (.inl (.ofNat 0, .ofNat 700)) = true) (q4 : i_sg E 326 0 (1, 1, 700) (.inl (.negSucc 127, .ofNat 127)) = true) : i_Sh h := by
  obtain ⟨⟨d1, e1, f1⟩, v1, a1, b1⟩ := i_sg_ok hg o1 q1
  obtain ⟨⟨d2, e2, f2⟩, v2, a2, b2⟩ := i_sg_ok hg o2 q2
  obtain ⟨-, v3, a3, b3⟩ := i_sg_ok hg o3 q3
  obtain ⟨⟨d4, e4, f4⟩, -⟩ := i_sg_ok hg o4 q4
  obtain ⟨fx, x1, -, x3⟩ := i_ob hg e1 f1
  obtain ⟨fk, k1, -, k3⟩ := i_ob hg e2 f2
  obtain ⟨l, l1, l2⟩ := i_ar hg e4 f4
  obtain ⟨n, rfl, -, n2⟩ := i_tvi b3
  rw [i_tvr b1] at a1
  rw [i_tvr b2] at a2
  exact ⟨fx, fk, n, l, x1, (x3 5).symm.trans a1, k1, (k3 1).symm.trans a3, (k3 0).symm.trans a2, l1, l2, n2⟩
theorem i_sh {h : J_H} (hI : IC h) : i_Sh h := by
  rcases hI with ⟨r, t, hg⟩ | ⟨r, t, hg⟩
  · exact i_sh1 hg (by decide +kernel) (by decide +kernel) (by decide +kernel) (by decide +kernel) (by decide +kernel) (by decide +kernel) (by decide +kernel) (by decide +kernel)
  · exact i_sh1 hg (by decide +kernel) (by decide +kernel) (by decide +kernel) (by decide +kernel) (by decide +kernel) (by decide +kernel) (by decide +kernel) (by decide +kernel)
theorem i_dm9 : ja_ch2 (fun a (_ : jc_Dd) => Nat.ble (a + 1) 372) jxm.1 = true := by decide +kernel
theorem IM.oth9 {h h' : J_H} (hM : IM h) (hs : j_same h h') (hf : ∀ a i, a < 372 → jc_at h' a i = jc_at h a i) : IM h' := by
  obtain ⟨r, t, hg⟩ := hM
  refine ⟨r, t, hg.oth jxm_ok hs (fun a d hd i => hf a i (Nat.le_of_ble_eq_true (ja_ch2_ok (p := fun a (_ : jc_Dd) => Nat.ble (a + 1) 372) i_dm9 hd))) (jm_Xo h h' (fun a i hw => hf a i ?_) hg.2.2.2.2)⟩
  rcases jm_inW_t hw with ⟨z, -, -⟩ | z
  · omega
  · cases z

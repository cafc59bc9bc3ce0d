/-! JC: what tables must keep to, checked -/
noncomputable def jc_okb (E : jc_E) : Bool := ja_ch2 (fun _ d => Nat.ble d.1.2.2 8192) E.1 && (ja_ch2 (fun f m => jc_all (fun c => match ja_n2 E.1 c.1 with
  | some d => Nat.ble (c.2 + 1) d.1.2.2 && (match jc_sg d.2 c.2 with
    | some g => jc_inl f g.2.1
    | none => false)
  | none => false) m.2.1) E.2.1 && (ja_ch2 (fun p m => match ja_n2 E.1 m.2.1.1 with
  | some d => Nat.ble (m.2.1.2 + 1) d.1.2.2 && (match jc_sg d.2 m.2.1.2 with
    | some g => jc_inl p g.2.2.1
    | none => false)
  | none => false) E.2.2.1 && (ja_ch2 (fun f m => ja_ch2 (fun p mp => !jc_inl f mp.2.2.2.2 || jc_inl p m.2.2.2) E.2.2.1) E.2.1 && (ja_ch2 (fun f m => match ja_n2 E.2.2.2.1 m.1 with
  | some l => jc_inl f l.1
  | none => false) E.2.1 && (ja_ch2 (fun p m => match ja_n2 E.2.2.2.1 m.1 with
  | some l => jc_inl p l.2
  | none => false) E.2.2.1 && ja_ch2 (fun _ m => jc_all (fun f => match ja_n2 E.2.1 f with
  | some mf => Nat.beq mf.1 m.1
  | none => false) m.2.2.2.2) E.2.2.1)))))
theorem jc_inl_mp {x : Nat} : ∀ {l : List Nat}, x ∈ l → jc_inl x l = true
  | [], h => nomatch h
  | y :: l, h => by
    show (Nat.beq x y || jc_inl x l) = true
    rcases List.mem_cons.mp h with rfl | h
    · rw [Nat.beq_refl]; rfl
    · rw [jc_inl_mp h, Bool.or_true]
theorem jc_okb_ok {E : jc_E} (h : jc_okb E = true) : jc_Ok E := by
  obtain ⟨h1, h⟩ := Bool.and_eq_true_iff.mp h
  obtain ⟨h2, h⟩ := Bool.and_eq_true_iff.mp h
  obtain ⟨h3, h⟩ := Bool.and_eq_true_iff.mp h
  obtain ⟨h4, h⟩ := Bool.and_eq_true_iff.mp h
  obtain ⟨h5, h⟩ := Bool.and_eq_true_iff.mp h
  obtain ⟨h6, h8⟩ := Bool.and_eq_true_iff.mp h
  refine ⟨fun a d hd => Nat.le_of_ble_eq_true (show Nat.ble d.1.2.2 8192 = true from ja_ch2_ok (p := fun _ (d : jc_Dd) => Nat.ble d.1.2.2 8192) h1 hd), fun f m hm c hc => ?_, fun p m hm => ?_, fun f m hm p mp hp hf => ?_, fun f m hm => ?_, fun p m hm => ?_, fun p m hm f hf => ?_⟩
  · have := jc_all_ok (ja_ch2_ok h2 hm) c hc
    split at this
    · rename_i d hd
      obtain ⟨a1, a2⟩ := Bool.and_eq_true_iff.mp this
      split at a2
      · rename_i g hg
        exact ⟨d, g, hd, Nat.le_of_ble_eq_true a1, hg, jc_inl_ok a2⟩
      · cases a2
    · cases this
  · have := ja_ch2_ok h3 hm
    split at this
    · rename_i d hd
      obtain ⟨a1, a2⟩ := Bool.and_eq_true_iff.mp this
      split at a2
      · rename_i g hg
        exact ⟨d, g, hd, Nat.le_of_ble_eq_true a1, hg, jc_inl_ok a2⟩
      · cases a2
    · cases this
  · have h7 := ja_ch2_ok (p := fun f (m : jc_Fa) => ja_ch2 (fun p (mp : jc_Po) => !jc_inl f mp.2.2.2.2 || jc_inl p m.2.2.2) E.2.2.1) h4 hm
    have := ja_ch2_ok (p := fun p (mp : jc_Po) => !jc_inl f mp.2.2.2.2 || jc_inl p m.2.2.2) h7 hp
    rw [jc_inl_mp hf] at this
    exact jc_inl_ok (by simpa using this)
  · have := ja_ch2_ok h5 hm
    split at this
    · rename_i l hl
      exact ⟨l, hl, jc_inl_ok this⟩
    · cases this
  · have := ja_ch2_ok h6 hm
    split at this
    · rename_i l hl
      exact ⟨l, hl, jc_inl_ok this⟩
    · cases this
  · have := jc_all_ok (ja_ch2_ok (p := fun _ (m : jc_Po) => jc_all (fun f => match ja_n2 E.2.1 f with
      | some mf => Nat.beq mf.1 m.1
      | none => false) m.2.2.2.2) h8 hm) f hf
    split at this
    · rename_i mf hmf
      exact ⟨mf, hmf, Nat.eq_of_beq_eq_true this⟩
    · cases this

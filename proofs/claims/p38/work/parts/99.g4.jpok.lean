set_option maxRecDepth 100000 in
theorem jcal_ok_0 : (jcal 0).all (fun c => c.2.all (j_Cchk (jown 0))) = true := by decide +kernel
set_option maxRecDepth 100000 in
theorem jcal_ok_1 : (jcal 1).all (fun c => c.2.all (j_Cchk (jown 1))) = true := by decide +kernel
set_option maxRecDepth 100000 in
theorem jcal_ok_2 : (jcal 2).all (fun c => c.2.all (j_Cchk (jown 2))) = true := by decide +kernel
set_option maxRecDepth 100000 in
theorem jcal_ok_3 : (jcal 3).all (fun c => c.2.all (j_Cchk (jown 3))) = true := by decide +kernel
set_option maxRecDepth 100000 in
theorem jcal_ok_4 : (jcal 4).all (fun c => c.2.all (j_Cchk (jown 4))) = true := by decide +kernel
set_option maxRecDepth 100000 in
theorem jcal_ok_5 : (jcal 5).all (fun c => c.2.all (j_Cchk (jown 5))) = true := by decide +kernel
set_option maxRecDepth 100000 in
theorem jcal_ok_6 : (jcal 6).all (fun c => c.2.all (j_Cchk (jown 6))) = true := by decide +kernel
set_option maxRecDepth 100000 in
theorem jcal_ok_7 : (jcal 7).all (fun c => c.2.all (j_Cchk (jown 7))) = true := by decide +kernel
set_option maxRecDepth 100000 in
theorem jcal_ok_8 : (jcal 8).all (fun c => c.2.all (j_Cchk (jown 8))) = true := by decide +kernel
set_option maxRecDepth 100000 in
theorem jcal_ok_9 : (jcal 9).all (fun c => c.2.all (j_Cchk (jown 9))) = true := by decide +kernel
set_option maxRecDepth 100000 in
theorem jcal_ok_10 : (jcal 10).all (fun c => c.2.all (j_Cchk (jown 10))) = true := by decide +kernel
set_option maxRecDepth 100000 in
theorem jcal_ok_11 : (jcal 11).all (fun c => c.2.all (j_Cchk (jown 11))) = true := by decide +kernel
set_option maxRecDepth 100000 in
theorem jcal_ok_12 : (jcal 12).all (fun c => c.2.all (j_Cchk (jown 12))) = true := by decide +kernel
theorem jcal_ok : ∀ k, (jcal k).all (fun c => c.2.all (j_Cchk (jown k))) = true := fun k => match k with
  | 0 => jcal_ok_0
  | 1 => jcal_ok_1
  | 2 => jcal_ok_2
  | 3 => jcal_ok_3
  | 4 => jcal_ok_4
  | 5 => jcal_ok_5
  | 6 => jcal_ok_6
  | 7 => jcal_ok_7
  | 8 => jcal_ok_8
  | 9 => jcal_ok_9
  | 10 => jcal_ok_10
  | 11 => jcal_ok_11
  | 12 => jcal_ok_12
  | _ + 13 => rfl
set_option maxRecDepth 100000 in
theorem jfld_ok_0 : (jfld 0).all (fun c => c.2.all (j_Fchk (jown 0))) = true := by decide +kernel
set_option maxRecDepth 100000 in
theorem jfld_ok_1 : (jfld 1).all (fun c => c.2.all (j_Fchk (jown 1))) = true := by decide +kernel
set_option maxRecDepth 100000 in
theorem jfld_ok_2 : (jfld 2).all (fun c => c.2.all (j_Fchk (jown 2))) = true := by decide +kernel
set_option maxRecDepth 100000 in
theorem jfld_ok_3 : (jfld 3).all (fun c => c.2.all (j_Fchk (jown 3))) = true := by decide +kernel
set_option maxRecDepth 100000 in
theorem jfld_ok_4 : (jfld 4).all (fun c => c.2.all (j_Fchk (jown 4))) = true := by decide +kernel
set_option maxRecDepth 100000 in
theorem jfld_ok_5 : (jfld 5).all (fun c => c.2.all (j_Fchk (jown 5))) = true := by decide +kernel
set_option maxRecDepth 100000 in
theorem jfld_ok_6 : (jfld 6).all (fun c => c.2.all (j_Fchk (jown 6))) = true := by decide +kernel
set_option maxRecDepth 100000 in
theorem jfld_ok_7 : (jfld 7).all (fun c => c.2.all (j_Fchk (jown 7))) = true := by decide +kernel
set_option maxRecDepth 100000 in
theorem jfld_ok_8 : (jfld 8).all (fun c => c.2.all (j_Fchk (jown 8))) = true := by decide +kernel
set_option maxRecDepth 100000 in
theorem jfld_ok_9 : (jfld 9).all (fun c => c.2.all (j_Fchk (jown 9))) = true := by decide +kernel
set_option maxRecDepth 100000 in
theorem jfld_ok_10 : (jfld 10).all (fun c => c.2.all (j_Fchk (jown 10))) = true := by decide +kernel
set_option maxRecDepth 100000 in
theorem jfld_ok_11 : (jfld 11).all (fun c => c.2.all (j_Fchk (jown 11))) = true := by decide +kernel
set_option maxRecDepth 100000 in
theorem jfld_ok_12 : (jfld 12).all (fun c => c.2.all (j_Fchk (jown 12))) = true := by decide +kernel
theorem jfld_ok : ∀ k, (jfld k).all (fun c => c.2.all (j_Fchk (jown k))) = true := fun k => match k with
  | 0 => jfld_ok_0
  | 1 => jfld_ok_1
  | 2 => jfld_ok_2
  | 3 => jfld_ok_3
  | 4 => jfld_ok_4
  | 5 => jfld_ok_5
  | 6 => jfld_ok_6
  | 7 => jfld_ok_7
  | 8 => jfld_ok_8
  | 9 => jfld_ok_9
  | 10 => jfld_ok_10
  | 11 => jfld_ok_11
  | 12 => jfld_ok_12
  | _ + 13 => rfl
set_option maxRecDepth 100000 in
theorem jnw_ok_0 : (jnw 0).all (fun c => c.2.all (j_Nchk (jown 0))) = true := by decide +kernel
set_option maxRecDepth 100000 in
theorem jnw_ok_1 : (jnw 1).all (fun c => c.2.all (j_Nchk (jown 1))) = true := by decide +kernel
set_option maxRecDepth 100000 in
theorem jnw_ok_2 : (jnw 2).all (fun c => c.2.all (j_Nchk (jown 2))) = true := by decide +kernel
set_option maxRecDepth 100000 in
theorem jnw_ok_3 : (jnw 3).all (fun c => c.2.all (j_Nchk (jown 3))) = true := by decide +kernel
set_option maxRecDepth 100000 in
theorem jnw_ok_4 : (jnw 4).all (fun c => c.2.all (j_Nchk (jown 4))) = true := by decide +kernel
set_option maxRecDepth 100000 in
theorem jnw_ok_5 : (jnw 5).all (fun c => c.2.all (j_Nchk (jown 5))) = true := by decide +kernel
set_option maxRecDepth 100000 in
theorem jnw_ok_6 : (jnw 6).all (fun c => c.2.all (j_Nchk (jown 6))) = true := by decide +kernel
set_option maxRecDepth 100000 in
theorem jnw_ok_7 : (jnw 7).all (fun c => c.2.all (j_Nchk (jown 7))) = true := by decide +kernel
set_option maxRecDepth 100000 in
theorem jnw_ok_8 : (jnw 8).all (fun c => c.2.all (j_Nchk (jown 8))) = true := by decide +kernel
set_option maxRecDepth 100000 in
theorem jnw_ok_9 : (jnw 9).all (fun c => c.2.all (j_Nchk (jown 9))) = true := by decide +kernel
set_option maxRecDepth 100000 in
theorem jnw_ok_10 : (jnw 10).all (fun c => c.2.all (j_Nchk (jown 10))) = true := by decide +kernel
set_option maxRecDepth 100000 in
theorem jnw_ok_11 : (jnw 11).all (fun c => c.2.all (j_Nchk (jown 11))) = true := by decide +kernel
set_option maxRecDepth 100000 in
theorem jnw_ok_12 : (jnw 12).all (fun c => c.2.all (j_Nchk (jown 12))) = true := by decide +kernel
theorem jnw_ok : ∀ k, (jnw k).all (fun c => c.2.all (j_Nchk (jown k))) = true := fun k => match k with
  | 0 => jnw_ok_0
  | 1 => jnw_ok_1
  | 2 => jnw_ok_2
  | 3 => jnw_ok_3
  | 4 => jnw_ok_4
  | 5 => jnw_ok_5
  | 6 => jnw_ok_6
  | 7 => jnw_ok_7
  | 8 => jnw_ok_8
  | 9 => jnw_ok_9
  | 10 => jnw_ok_10
  | 11 => jnw_ok_11
  | 12 => jnw_ok_12
  | _ + 13 => rfl
set_option maxRecDepth 100000 in
theorem jldc_ok_0 : (jldc 0).all (fun c => c.2.all (j_Kchk (jown 0))) = true := by decide +kernel
set_option maxRecDepth 100000 in
theorem jldc_ok_1 : (jldc 1).all (fun c => c.2.all (j_Kchk (jown 1))) = true := by decide +kernel
set_option maxRecDepth 100000 in
theorem jldc_ok_2 : (jldc 2).all (fun c => c.2.all (j_Kchk (jown 2))) = true := by decide +kernel
set_option maxRecDepth 100000 in
theorem jldc_ok_3 : (jldc 3).all (fun c => c.2.all (j_Kchk (jown 3))) = true := by decide +kernel
set_option maxRecDepth 100000 in
theorem jldc_ok_4 : (jldc 4).all (fun c => c.2.all (j_Kchk (jown 4))) = true := by decide +kernel
set_option maxRecDepth 100000 in
theorem jldc_ok_5 : (jldc 5).all (fun c => c.2.all (j_Kchk (jown 5))) = true := by decide +kernel
set_option maxRecDepth 100000 in
theorem jldc_ok_6 : (jldc 6).all (fun c => c.2.all (j_Kchk (jown 6))) = true := by decide +kernel
set_option maxRecDepth 100000 in
theorem jldc_ok_7 : (jldc 7).all (fun c => c.2.all (j_Kchk (jown 7))) = true := by decide +kernel
set_option maxRecDepth 100000 in
theorem jldc_ok_8 : (jldc 8).all (fun c => c.2.all (j_Kchk (jown 8))) = true := by decide +kernel
set_option maxRecDepth 100000 in
theorem jldc_ok_9 : (jldc 9).all (fun c => c.2.all (j_Kchk (jown 9))) = true := by decide +kernel
set_option maxRecDepth 100000 in
theorem jldc_ok_10 : (jldc 10).all (fun c => c.2.all (j_Kchk (jown 10))) = true := by decide +kernel
set_option maxRecDepth 100000 in
theorem jldc_ok_11 : (jldc 11).all (fun c => c.2.all (j_Kchk (jown 11))) = true := by decide +kernel
set_option maxRecDepth 100000 in
theorem jldc_ok_12 : (jldc 12).all (fun c => c.2.all (j_Kchk (jown 12))) = true := by decide +kernel
theorem jldc_ok : ∀ k, (jldc k).all (fun c => c.2.all (j_Kchk (jown k))) = true := fun k => match k with
  | 0 => jldc_ok_0
  | 1 => jldc_ok_1
  | 2 => jldc_ok_2
  | 3 => jldc_ok_3
  | 4 => jldc_ok_4
  | 5 => jldc_ok_5
  | 6 => jldc_ok_6
  | 7 => jldc_ok_7
  | 8 => jldc_ok_8
  | 9 => jldc_ok_9
  | 10 => jldc_ok_10
  | 11 => jldc_ok_11
  | 12 => jldc_ok_12
  | _ + 13 => rfl
def j_Achk (own : String) (q : Nat × Nat) : Bool := j_hw q.2 (.classLink own q.1 "SidingLoops$State")
set_option maxRecDepth 100000 in
theorem janw_ok_0 : (janw 0).all (fun c => c.2.all (j_Achk (jown 0))) = true := by decide +kernel
set_option maxRecDepth 100000 in
theorem janw_ok_1 : (janw 1).all (fun c => c.2.all (j_Achk (jown 1))) = true := by decide +kernel
set_option maxRecDepth 100000 in
theorem janw_ok_2 : (janw 2).all (fun c => c.2.all (j_Achk (jown 2))) = true := by decide +kernel
set_option maxRecDepth 100000 in
theorem janw_ok_3 : (janw 3).all (fun c => c.2.all (j_Achk (jown 3))) = true := by decide +kernel
set_option maxRecDepth 100000 in
theorem janw_ok_4 : (janw 4).all (fun c => c.2.all (j_Achk (jown 4))) = true := by decide +kernel
set_option maxRecDepth 100000 in
theorem janw_ok_5 : (janw 5).all (fun c => c.2.all (j_Achk (jown 5))) = true := by decide +kernel
set_option maxRecDepth 100000 in
theorem janw_ok_6 : (janw 6).all (fun c => c.2.all (j_Achk (jown 6))) = true := by decide +kernel
set_option maxRecDepth 100000 in
theorem janw_ok_7 : (janw 7).all (fun c => c.2.all (j_Achk (jown 7))) = true := by decide +kernel
set_option maxRecDepth 100000 in
theorem janw_ok_8 : (janw 8).all (fun c => c.2.all (j_Achk (jown 8))) = true := by decide +kernel
set_option maxRecDepth 100000 in
theorem janw_ok_9 : (janw 9).all (fun c => c.2.all (j_Achk (jown 9))) = true := by decide +kernel
set_option maxRecDepth 100000 in
theorem janw_ok_10 : (janw 10).all (fun c => c.2.all (j_Achk (jown 10))) = true := by decide +kernel
set_option maxRecDepth 100000 in
theorem janw_ok_11 : (janw 11).all (fun c => c.2.all (j_Achk (jown 11))) = true := by decide +kernel
set_option maxRecDepth 100000 in
theorem janw_ok_12 : (janw 12).all (fun c => c.2.all (j_Achk (jown 12))) = true := by decide +kernel
theorem janw_ok : ∀ k, (janw k).all (fun c => c.2.all (j_Achk (jown k))) = true := fun k => match k with
  | 0 => janw_ok_0
  | 1 => janw_ok_1
  | 2 => janw_ok_2
  | 3 => janw_ok_3
  | 4 => janw_ok_4
  | 5 => janw_ok_5
  | 6 => janw_ok_6
  | 7 => janw_ok_7
  | 8 => janw_ok_8
  | 9 => janw_ok_9
  | 10 => janw_ok_10
  | 11 => janw_ok_11
  | 12 => janw_ok_12
  | _ + 13 => rfl
theorem jP_row {mi : Nat} {M : j_M} (h : j_meth jP mi = some M) : ∃ q : j_MT, j_fc jm_all mi = some q ∧ q.1 = M ∧ j_mfact (mi, q) := by
  obtain ⟨q, h1, h2⟩ := Option.map_eq_some_iff.mp (show (j_fc jm_all mi).map (fun q => q.1) = some M from h)
  obtain ⟨c, h3, h4⟩ := j_fc_mem h1
  exact ⟨q, h1, h2, jm_ok c h3 _ h4⟩
/-- WHAT J TAKES OF THE TABLES HOLDS -/
theorem jP_ok : j_Pok WG vwCl "SidingLoops$State" jNW jP := by
  refine ⟨WG_good, ⟨_, rfl, rfl⟩, ?_, ?_, ?_, ?_, ?_, ?_, ⟨j_hw_ok (n := 187) (by decide +kernel), j_hw_ok (n := 233) (by decide +kernel), j_hw_ok (n := 507) (by decide +kernel)⟩, ?_⟩
  · intro mi M pc ins hM hc
    obtain ⟨q, h1, rfl, h3⟩ := jP_row hM
    have hc : (match j_fc jm_all mi with | some q => j_fc q.2.2 pc | none => none) = some ins := hc
    rw [h1] at hc
    exact j_dchk_ok h3.2.1 hc
  · intro mi M hM
    obtain ⟨q, h1, rfl, h3⟩ := jP_row hM
    exact h3.1
  · intro mi M i f hM hf
    obtain ⟨q, h1, rfl, h3⟩ := jP_row hM
    have hf : (match j_fc jm_all mi with | some q => (j_fc (jfld q.2.1) i).map (fun z => z.1) | none => none) = some f := hf
    rw [h1] at hf
    obtain ⟨z, h4, rfl⟩ := Option.map_eq_some_iff.mp hf
    have h5 := j_Fchk_ok (j_fc_all (jfld_ok q.2.1) h4)
    rw [← h3.2.2] at h5
    exact h5
  · intro mi M i f hM hf
    obtain ⟨q, h1, rfl, h3⟩ := jP_row hM
    have hf : (match j_fc jm_all mi with | some q => (j_fc (jnw q.2.1) i).map (fun z => z.1) | none => none) = some f := hf
    rw [h1] at hf
    obtain ⟨z, h4, rfl⟩ := Option.map_eq_some_iff.mp hf
    have h5 := j_Nchk_ok (j_fc_all (jnw_ok q.2.1) h4)
    rw [← h3.2.2] at h5
    exact h5
  · intro mi M i v hM hf
    obtain ⟨q, h1, rfl, h3⟩ := jP_row hM
    have hf : (match j_fc jm_all mi with | some q => (j_fc (jldc q.2.1) i).map (fun z => z.1) | none => none) = some v := hf
    rw [h1] at hf
    obtain ⟨z, h4, rfl⟩ := Option.map_eq_some_iff.mp hf
    have h5 := j_Kchk_ok (j_fc_all (jldc_ok q.2.1) h4)
    rw [← h3.2.2] at h5
    exact h5
  · intro mi M i hM hf
    obtain ⟨q, h1, rfl, h3⟩ := jP_row hM
    have hf : (match j_fc jm_all mi with | some q => (j_fc (janw q.2.1) i).isSome | none => false) = true := hf
    rw [h1] at hf
    obtain ⟨z, h4⟩ := Option.isSome_iff_exists.mp hf
    have h5 := j_fc_all (janw_ok q.2.1) h4
    rw [← h3.2.2] at h5
    exact j_hw_ok h5
  · intro mi M i md x hM hf
    obtain ⟨q, h1, rfl, h3⟩ := jP_row hM
    have hf : (match j_fc jm_all mi with | some q => (j_fc (jcal q.2.1) i).map (fun z => (z.1, z.2.1)) | none => none) = some (md, x) := hf
    rw [h1] at hf
    obtain ⟨z, h4, h6⟩ := Option.map_eq_some_iff.mp hf
    cases h6
    have h5 := j_Cchk_ok (j_fc_all (jcal_ok q.2.1) h4)
    rw [← h3.2.2] at h5
    exact h5

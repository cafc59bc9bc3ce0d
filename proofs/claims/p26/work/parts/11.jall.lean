section JALL
variable {WG : List Cond} {cl : List vw_C} {RN : String} {NW : j_NL} {P : j_P} {D : va_G} {g : j_G} {b : Nat} {l : Launch}
theorem j_inv_ln {mi : Nat} {ins : Instr} {x : Nat × Nat} (h : j_inv P mi ins = some x) : j_ln ins = 3 ∧ j_sw ins = false := by
  unfold j_inv at h
  split at h
  · exact ⟨rfl, rfl⟩
  · exact ⟨rfl, rfl⟩
  · exact ⟨rfl, rfl⟩
  · cases h
theorem j_ret_ln {rt : Option FieldType} {ins : Instr} {st : List Value} {x : Option Value} (h : j_ret rt ins st = some x) : j_sw ins = false := by
  unfold j_ret at h
  split at h <;> first | rfl | cases h
set_option maxHeartbeats 4000000 in
theorem j_all (hPk : j_Pok WG cl RN NW P) : ∀ f : Nat, j_Goal WG cl RN NW P D g b l f := by
  intro f
  induction f with
  | zero => intro d mi pc lv st h r hf hj; cases hj
  | succ f IH =>
    intro d mi pc lv st h r hf hj M hM p e R s m args below meth c H locs ls A n0 s0 Qc hcx hRf hRl hRc hRs hn hs hl hP hS hD hA hal hq
    have hcx0 := hcx
    obtain ⟨hx, hb, hr, hml, hown, hts, hlocks, hI, hK, hN, hAO⟩ := hcx
    have hml' : c.maxLocals = ls.size := by rw [hml, hl.1]
    unfold j_run at hj
    rw [hM] at hj
    split at hj
    · rename_i M' ins hM' hins
      cases hM'
      obtain ⟨len, hd, hlen⟩ := hPk.2.2.1 mi M pc ins hM hins
      split at hj
      · -- an answer
        obtain ⟨x, hx1, he⟩ := Option.map_eq_some_iff.mp hj
        cases he
        obtain rfl : len = j_ln ins := hlen.resolve_left (by rw [j_ret_ln hx1]; exact Bool.false_ne_true)
        exact j_ret_ok hcx0 hd hx1 hS (fun t ht => hq t (by rw [ht]; exact hP) (hS.F ht))
      · -- a call
        split at hj
        · rename_i x hi
          obtain ⟨e3, e4⟩ := j_inv_ln hi
          obtain rfl : len = 3 := (hlen.resolve_left (by rw [e4]; exact Bool.false_ne_true)).trans e3
          obtain ⟨i, hcal, hcase⟩ := j_inv_md hi
          have hC := hPk.2.2.2.2.2.2.2.2.2 mi M i 0 _ hM hcal
          split at hj
          · rename_i stJ ho
            have w := IH d mi (pc + 3) lv stJ h r hf hj M hM p e R s m args below meth c H locs ls A n0 s0 Qc hcx0 hRf hRl hRc hRs hn hs hl hP hS hD hA hal hq
            rcases hcase with ⟨rfl, -⟩ | ⟨-, h9⟩ | ⟨-, h9⟩
            · exact j_obi_ok hx hb hml' hts hown (hC.1 rfl) (by omega) (by omega) hd ho w
            · omega
            · omega
          · cases hj
        · rename_i x hi
          obtain ⟨e3, e4⟩ := j_inv_ln hi
          obtain rfl : len = 3 := (hlen.resolve_left (by rw [e4]; exact Bool.false_ne_true)).trans e3
          obtain ⟨i, hcal, hcase⟩ := j_inv_md hi
          have hC := hPk.2.2.2.2.2.2.2.2.2 mi M i 1 _ hM hcal
          split at hj
          · rename_i stJ h' ho
            obtain ⟨e1, e2⟩ := j_acp_sl ho
            rcases hcase with ⟨-, h9⟩ | ⟨rfl, -⟩ | ⟨-, h9⟩
            · omega
            · refine j_acp_ok hx hb hml' hts hown hK hP hD hS (hC.2.1 rfl) (by omega) (by omega) hd ho (fun H1 locs1 a1 a2 => ?_)
              have w := IH d mi (pc + 3) lv stJ h' r hf hj M hM p e R s m args below meth c H1 locs1 ls A n0 s0 Qc hcx0 hRf hRl hRc hRs (by omega) (by omega) hl a1 a2 (fun q z1 z2 => hD q z1 (by omega)) hA (by omega) hq
              rw [e1, e2] at w
              exact w
            · omega
          · cases hj
        · rename_i x hi
          obtain ⟨e3, e4⟩ := j_inv_ln hi
          obtain rfl : len = 3 := (hlen.resolve_left (by rw [e4]; exact Bool.false_ne_true)).trans e3
          obtain ⟨i, hcal, hcase⟩ := j_inv_md hi
          have hC := hPk.2.2.2.2.2.2.2.2.2 mi M i 7 _ hM hcal
          split at hj
          · rename_i stJ ho
            have hmo := j_mono P _ _ _ _ _ _ _ _ _ hj
            have w := IH d mi (pc + 3) lv stJ h r hf hj M hM p e R s m args below meth c H locs ls A n0 s0 Qc hcx0 hRf hRl hRc hRs hn hs hl hP hS hD hA hal hq
            rcases hcase with ⟨-, h9⟩ | ⟨rfl, -⟩ | ⟨-, h9⟩
            · omega
            · exact j_mm_ok true hx hb hml' hts hown (hC.2.2.2.2.2.2.2.1 rfl) (by omega) (by omega) (by omega) (by omega) hd ho w
            · omega
          · cases hj
        · rename_i x hi
          obtain ⟨e3, e4⟩ := j_inv_ln hi
          obtain rfl : len = 3 := (hlen.resolve_left (by rw [e4]; exact Bool.false_ne_true)).trans e3
          obtain ⟨i, hcal, hcase⟩ := j_inv_md hi
          have hC := hPk.2.2.2.2.2.2.2.2.2 mi M i 8 _ hM hcal
          split at hj
          · rename_i stJ ho
            have hmo := j_mono P _ _ _ _ _ _ _ _ _ hj
            have w := IH d mi (pc + 3) lv stJ h r hf hj M hM p e R s m args below meth c H locs ls A n0 s0 Qc hcx0 hRf hRl hRc hRs hn hs hl hP hS hD hA hal hq
            rcases hcase with ⟨-, h9⟩ | ⟨rfl, -⟩ | ⟨-, h9⟩
            · omega
            · exact j_mm_ok false hx hb hml' hts hown (hC.2.2.2.2.2.2.2.2 rfl) (by omega) (by omega) (by omega) (by omega) hd ho w
            · omega
          · cases hj
        · rename_i md mj n1 n2 n3 n4 hi
          obtain ⟨e3, e4⟩ := j_inv_ln hi
          obtain rfl : len = 3 := (hlen.resolve_left (by rw [e4]; exact Bool.false_ne_true)).trans e3
          split at hj
          · rename_i d' N hN'
            split at hj
            · rename_i As rest hsp
              split at hj
              · rename_i r1 h1 hc
                have hmo := j_mono P _ _ _ _ _ _ _ _ _ hc
                have hmo2 := j_mono P _ _ _ _ _ _ _ _ _ hj
                refine j_call_ok hPk hM IH hcx0 hl.1 hd hi (fun z9 e9 => ⟨fun z => ?_, fun z => ?_, fun z => ?_, fun z => ?_⟩) hN' hsp hc hRf hRl (by omega) (by omega) hn hs hP hS hD hA (by omega) (fun H1 locs1 a1 a2 => ?_)
                · exact n1 (e9.symm.trans z)
                · exact n2 (e9.symm.trans z)
                · exact n3 (e9.symm.trans z)
                · exact n4 (e9.symm.trans z)
                · refine j_size fun hz => ?_
                  refine IH (d' + 1) mi (pc + 3) lv (r1.toList ++ rest) h1 r hf hj M hM p e R s m args below meth c H1 locs1 ls A n0 s0 Qc hcx0 hRf hRl hRc hRs (by omega) (by omega) hl a1 a2 (fun q z1 z2 => ?_) hA (by omega) hq
                  by_cases hq9 : q < b + h.length
                  · exact hD q z1 hq9
                  · refine hA q ?_
                    rcases hal with z | z <;> omega
              · cases hj
            · cases hj
          · cases hj
        · cases hj
      · -- any other
        split at hj
        · rename_i pcJ lv' stJ h' ho
          have hmo := j_one_mono ho
          have hmo2 := j_mono P _ _ _ _ _ _ _ _ _ hj
          refine j_one_ok hPk hM hcx0 hd hlen ho (by omega) (by omega) hn hs hl hP hS hD hA (by omega) (fun H1 locs1 ls1 hl1 a1 a2 => ?_)
          refine IH d mi pcJ lv' stJ h' r hf hj M hM p e R s m args below meth c H1 locs1 ls1 A n0 s0 Qc hcx0 hRf hRl hRc hRs (by omega) (by omega) hl1 a1 a2 (fun q z1 z2 => ?_) hA (by omega) hq
          by_cases hq9 : q < b + h.length
          · exact hD q z1 hq9
          · refine hA q ?_
            rcases hal with z | z <;> omega
        · cases hj
    · cases hj
/-- A CALL OF J IS A CALL OF THE MACHINE -/
theorem j_met (hPk : j_Pok WG cl RN NW P) {f d mi : Nat} {M : j_M} {As : List Value} {h hf : J_H} {r : Option Value} {sz : Nat} (hj : j_run P f d mi 0 (lv_args 0 As) [] h = some (r, hf)) (hM : j_meth P mi = some M) (hlen : (lg_sl As).length ≤ j_nL M) (hsz : sz = b + h.length ∨ hf.length = h.length) :
    Met l (j_y M) (Cond.code (j_y M) (j_by M) (j_nL M) (j_rt M) :: WG) ({ frames := d + 1, cells := hf.length - h.length, slots := j_sl hf - j_sl h, locals := (d + 1) * 30 }) (va_Pc (As.map (j_v b)) (j_Pre cl RN NW D g b sz h)) (j_Post cl D g b sz h hf r) (hf.length - h.length) (j_sl hf - j_sl h) (j_A b h.length sz) :=
  j_met_of hPk (j_all hPk f) hj hM hlen hsz
end JALL

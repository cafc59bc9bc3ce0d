section JMAIN
variable {WG : List Cond} {cl : List vw_C} {RN : String} {NW : j_NL} {P : j_P} {D : va_G} {g : j_G} {b : Nat} {l : Launch}
theorem j_size {p : Program} {e : Env} {R : Room} {s : State} {m : MethodId} {args : Array Value} {below : List Frame} {meth : Method} {c : Code} {H : Heap} {locs : List Loc} {cells slots : Nat} {Q : State → Prop} {gg : JFrame}
    (k : H.size ≤ s.heap.size + cells → W p l e R s m args below meth c H locs cells slots Q gg) : W p l e R s m args below meth c H locs cells slots Q gg :=
  fun T hT X => k (by rw [← hT]; exact X.heapSize) T hT X
theorem j_lb {h : J_H} {H H0 : Heap} {A : Nat → Prop} {locs : List Loc} (hP : va_P D cl (j_ws g b h) H) (hS : va_S A H0 H locs) (hb : b ≤ H0.size) : b + h.length ≤ H.size := by
  by_cases h0 : h.length = 0
  · have := hS.1
    omega
  · have hk : h.length - 1 < h.length := by omega
    have := (hP _ _ (j_ws_at (g := g) (b := b) (List.getElem?_eq_getElem hk))).lt
    simp only at this
    omega
theorem j_arr_cl {a : ArrayType} {n : Nat} {c : J_C} (h : j_arr a n = some c) : j_cl c = n := by
  unfold j_arr at h
  split at h <;> first | (cases h; simp [j_cl]) | cases h
set_option maxHeartbeats 4000000 in
theorem j_obj_ok (hPk : j_Pok WG cl RN NW P) {mi : Nat} {M : j_M} (hM : j_meth P mi = some M) {p : Program} {e : Env} {R : Room} {s : State} {m : MethodId} {args : Array Value} {below : List Frame} {meth : Method} {c : Code} {H : Heap} {locs : List Loc} {ls : Array Slot} {A : Nat → Prop} {n0 s0 pc : Nat} {Q : State → Prop} {ins : Instr} {st stJ : List Value} {h h' : J_H}
    (hcx : j_cx WG cl RN NW M D g p s m args meth c) (hd : decode (j_by M) pc = .ok (ins, j_ln ins)) (hj : j_obj P mi (j_in M) ins st h = some (stJ, h')) (hRc : h'.length - n0 ≤ R.cells) (hRs : j_sl h' - s0 ≤ R.slots) (hn : n0 ≤ h.length) (hs : s0 ≤ j_sl h) (hP : va_P D cl (j_ws g b h) H) (hS : va_S A s.heap H locs) (hD : ∀ q, b ≤ q → q < b + h.length → A q) (hA : ∀ q, s.heap.size ≤ q → A q) (hal : s.heap.size = b + n0 ∨ h'.length = h.length)
    (k : ∀ (H1 : Heap) (locs1 : List Loc), va_P D cl (j_ws g b h') H1 → va_S A s.heap H1 locs1 → W p l e R s m args below meth c H1 locs1 (h'.length - n0) (j_sl h' - s0) Q (F0 m (pc + j_ln ins) ls (j_st b stJ))) :
    W p l e R s m args below meth c H locs (h.length - n0) (j_sl h - s0) Q (F0 m pc ls (j_st b st)) := by
  obtain ⟨hx, hb, hr, hml, hown, hts, hlocks, hI, hK, hN, hAO⟩ := hcx
  obtain ⟨p1, p2, p3, p4, p5, p6, p7, p8, p9, p10⟩ := hPk
  unfold j_obj at hj
  split at hj
  · rename_i i
    obtain ⟨x, hx1, he⟩ := Option.map_eq_some_iff.mp hj
    cases he
    exact j_get_ok hx hb hts hown hK hP (fun f hf => p5 mi M i f hM hf) hd hx1 (k H locs hP hS)
  · rename_i i
    obtain ⟨e1, e2⟩ := j_put_sl hj
    rw [e1, e2] at k
    exact j_put_ok hx hb hts hown hK hP hD hS (fun f hf => p5 mi M i f hM hf) hI hd hj (fun H1 locs1 a1 a2 _ => k H1 locs1 a1 a2)
  · rename_i i
    obtain ⟨f, hf, he⟩ := Option.map_eq_some_iff.mp hj
    cases he
    have hal : s.heap.size = b + n0 := hal.resolve_right (by simp)
    refine j_size fun hz => ?_
    have hlb := j_lb hP hS (by omega)
    have hsl := j_sl_push h (.inl f)
    simp only [List.length_append, List.length_singleton] at hRc k
    refine j_new_ok hx hb hts hown hK hP hS (by omega) (p6 mi M i f hM hf) hd (by omega) (by simp only [j_cl] at hsl; omega) (fun H1 a1 a2 _ => ?_)
    have w := k H1 locs a1 a2
    rw [hsl, show h.length + 1 - n0 = h.length - n0 + 1 by omega, show j_sl h + j_cl (Sum.inl f) - s0 = j_sl h - s0 + f.2.length by simp only [j_cl]; omega] at w
    exact w
  · rename_i a
    split at hj
    · rename_i n r
      split at hj
      · rename_i hi
        obtain ⟨cell, hc, he⟩ := Option.map_eq_some_iff.mp hj
        cases he
        have hal : s.heap.size = b + n0 := hal.resolve_right (by simp)
        refine j_size fun hz => ?_
        have hlb := j_lb hP hS (by omega)
        have hsl := j_sl_push h cell
        rw [j_arr_cl hc] at hsl
        simp only [List.length_append, List.length_singleton] at hRc k
        have hw : Cond.arrayClass (newarray.typeOf a) ∈ WG := by
          cases a <;> first | exact p9.1 | exact p9.2.1 | exact p9.2.2 | (cases hc)
        refine j_newa_ok hx hb hts hK hP hS (by omega) hw hc hi.1 hi.2 hd (by omega) (by omega) (fun H1 a1 a2 _ => ?_)
        have w := k H1 locs a1 a2
        rw [hsl, show h.length + 1 - n0 = h.length - n0 + 1 by omega, show j_sl h + n.toNatClampNeg - s0 = j_sl h - s0 + n.toNatClampNeg by omega] at w
        exact w
      · cases hj
    · cases hj
  · rename_i i
    split at hj
    · rename_i n r
      split at hj
      · rename_i hi
        cases hj
        have hal : s.heap.size = b + n0 := hal.resolve_right (by simp)
        refine j_size fun hz => ?_
        have hlb := j_lb hP hS (by omega)
        have hsl := j_sl_push h (.inr (.inr (.inr (List.replicate n.toNatClampNeg none))))
        simp only [j_cl, List.length_replicate] at hsl
        simp only [List.length_append, List.length_singleton] at hRc k
        refine j_newq_ok hx hb hts hown hK hP hS (by omega) (p8 mi M i hM hi.1) hAO hi.2.1 hi.2.2 hd (by omega) (by omega) (fun H1 a1 a2 _ => ?_)
        have w := k H1 locs a1 a2
        rw [hsl, show h.length + 1 - n0 = h.length - n0 + 1 by omega, show j_sl h + n.toNatClampNeg - s0 = j_sl h - s0 + n.toNatClampNeg by omega] at w
        exact w
      · cases hj
    · cases hj
  · cases hj
set_option maxHeartbeats 4000000 in
theorem j_one_ok (hPk : j_Pok WG cl RN NW P) {mi : Nat} {M : j_M} (hM : j_meth P mi = some M) {p : Program} {e : Env} {R : Room} {s : State} {m : MethodId} {args : Array Value} {below : List Frame} {meth : Method} {c : Code} {H : Heap} {locs : List Loc} {ls : Array Slot} {A : Nat → Prop} {n0 s0 pc pcJ len : Nat} {Q : State → Prop} {ins : Instr} {lv lv' : J_L} {st stJ : List Value} {h h' : J_H}
    (hcx : j_cx WG cl RN NW M D g p s m args meth c) (hd : decode (j_by M) pc = .ok (ins, len)) (hlen : j_sw ins = true ∨ len = j_ln ins) (hj : j_one P mi (j_nL M) (j_in M) pc ins lv st h = some (pcJ, lv', stJ, h')) (hRc : h'.length - n0 ≤ R.cells) (hRs : j_sl h' - s0 ≤ R.slots) (hn : n0 ≤ h.length) (hs : s0 ≤ j_sl h) (hl : lv_has ls (j_nL M) (j_lv b lv)) (hP : va_P D cl (j_ws g b h) H) (hS : va_S A s.heap H locs) (hD : ∀ q, b ≤ q → q < b + h.length → A q) (hA : ∀ q, s.heap.size ≤ q → A q) (hal : s.heap.size = b + n0 ∨ h'.length = h.length)
    (k : ∀ (H1 : Heap) (locs1 : List Loc) (ls1 : Array Slot), lv_has ls1 (j_nL M) (j_lv b lv') → va_P D cl (j_ws g b h') H1 → va_S A s.heap H1 locs1 → W p l e R s m args below meth c H1 locs1 (h'.length - n0) (j_sl h' - s0) Q (F0 m pcJ ls1 (j_st b stJ))) :
    W p l e R s m args below meth c H locs (h.length - n0) (j_sl h - s0) Q (F0 m pc ls (j_st b st)) := by
  have hcx0 := hcx
  obtain ⟨hx, hb, hr, hml, hown, hts, hlocks, hI, hK, hN, hAO⟩ := hcx
  have nosw : j_kd ins ≠ 4 → len = j_ln ins := fun hk => hlen.elim (fun q => by
    unfold j_sw at q
    split at q
    · exact absurd rfl hk
    · exact absurd rfl hk
    · cases q) id
  unfold j_one at hj
  split at hj
  · rename_i hk
    obtain ⟨x, hx1, he⟩ := Option.map_eq_some_iff.mp hj
    cases he
    obtain rfl := nosw (by rw [hk]; decide)
    exact j_stk_ok hx hb b hd hx1 (k H locs ls hl hP hS)
  · rename_i hk
    obtain ⟨x, hx1, he⟩ := Option.map_eq_some_iff.mp hj
    cases he
    obtain rfl := nosw (by rw [hk]; decide)
    exact j_lod_ok hx hb b hl hd hx1 (k H locs ls hl hP hS)
  · rename_i hk
    obtain ⟨x, hx1, he⟩ := Option.map_eq_some_iff.mp hj
    cases he
    obtain rfl := nosw (by rw [hk]; decide)
    exact j_sto_ok hx hb b hl hd hx1 (fun ls1 hl1 => k H locs ls1 hl1 hP hS)
  · rename_i hk
    obtain ⟨x, hx1, he⟩ := Option.map_eq_some_iff.mp hj
    cases he
    obtain rfl := nosw (by rw [hk]; decide)
    exact j_inc_ok hx hb b hl hd hx1 (fun ls1 hl1 => k H locs ls1 hl1 hP hS)
  · obtain ⟨x, hx1, he⟩ := Option.map_eq_some_iff.mp hj
    cases he
    exact j_br_ok hx hb b hd hlen hx1 (k H locs ls hl hP hS)
  · rename_i hk
    obtain ⟨x, hx1, he⟩ := Option.map_eq_some_iff.mp hj
    cases he
    obtain rfl := nosw (by rw [hk]; decide)
    exact j_ald_ok hx hb hK hP hd hx1 (k H locs ls hl hP hS)
  · rename_i hk
    obtain ⟨x, hx1, he⟩ := Option.map_eq_some_iff.mp hj
    cases he
    obtain rfl := nosw (by rw [hk]; decide)
    obtain ⟨e1, e2⟩ := j_ast_sl hx1
    rw [e1, e2] at k
    exact j_ast_ok hx hb hK hP hD hS hPk.2.1 hd hx1 (fun H1 locs1 a1 a2 _ => k H1 locs1 ls hl a1 a2)
  · rename_i hk
    obtain ⟨x, hx1, he⟩ := Option.map_eq_some_iff.mp hj
    cases he
    obtain rfl := nosw (by rw [hk]; decide)
    exact j_obj_ok hPk hM hcx0 hd hx1 hRc hRs hn hs hP hS hD hA hal (fun H1 locs1 a1 a2 => k H1 locs1 ls hl a1 a2)
  · rename_i hk
    obtain ⟨x, hx1, he⟩ := Option.map_eq_some_iff.mp hj
    cases he
    obtain rfl := nosw (by rw [hk]; decide)
    exact j_ldk_ok hx hb hts hown (fun i v hv => hPk.2.2.2.2.2.2.1 mi M i v hM hv) hd hx1 (k H locs ls hl hP hS)
  · cases hj
/-- an answer -/
theorem j_ret_ok {M : j_M} {p : Program} {e : Env} {R : Room} {s : State} {m : MethodId} {args : Array Value} {below : List Frame} {meth : Method} {c : Code} {H : Heap} {locs : List Loc} {ls : Array Slot} {A : Nat → Prop} {cells slots pc : Nat} {Qc : Array Value → State → Outcome → State → Prop} {ins : Instr} {st : List Value} {r : Option Value}
    (hcx : j_cx WG cl RN NW M D g p s m args meth c) (hd : decode (j_by M) pc = .ok (ins, j_ln ins)) (hj : j_ret (j_rt M) ins st = some r) (hS : va_S A s.heap H locs) (hq : ∀ t : State, t.heap = H → Qc args s (.returned (r.map (j_v b))) t) :
    W p l e R s m args below meth c H locs cells slots (MQ below Qc args s cells slots A) (F0 m pc ls (j_st b st)) := by
  obtain ⟨hx, hb, hr, hml, hown, hts, hlocks, hI, hK, hN, hAO⟩ := hcx
  unfold j_ret at hj
  split at hj
  · rename_i v ty hrt
    split at hj
    · rename_i hf
      cases hj
      exact W.zret hx hb (hr.trans hrt) (j_fit_ok b hf).1 (fun t ht _ => hq t ht) hS.2.2 hd
    · cases hj
  · rename_i v hrt
    cases hj
    exact W.lret hx hb (hr.trans hrt) (fun t ht _ => hq t ht) hS.2.2 hd
  · rename_i q n hrt
    cases hj
    exact W.aret hx hb (hr.trans hrt) (Or.inl ⟨_, rfl⟩) (Or.inr ⟨b + q, rfl⟩) (fun t ht _ => hq t ht) hS.2.2 hd
  · rename_i q n hrt
    cases hj
    exact W.aret hx hb (hr.trans hrt) (Or.inr ⟨_, rfl⟩) (Or.inr ⟨b + q, rfl⟩) (fun t ht _ => hq t ht) hS.2.2 hd
  · rename_i hrt
    cases hj
    exact W.vret hx hb (hr.trans hrt) (fun t ht _ => hq t ht) hS.2.2 hd
  · cases hj
end JMAIN

section LAROWS
variable {l : Launch} {p : Program} {e : Env} {s : State} {m : MethodId} {below : List Frame} {meth : Method} {c : Code} {bs L : Nat} {xs : Nat → Int32} {D : va_G} {g : j_G} {H : Heap} {locs : List Loc} {ls : Array Slot} {cells slots pc : Nat} {Q : State → Prop} {st : List Value}
/-- a virtual call out of the law that makes nothing -/
theorem la_vir (hPk : j_Pok WG vwCl la_RN jNW jP) {mj i : Nat} {N : j_M} {As rest : List Value} {h : J_H} {Q1 : Option Value → J_H → Prop} (C : la_C p s m meth c bs L xs D g) (hls : ls.size = 7) (hd : decode code pc = .ok (.invokevirtual i, 3)) (hC : j_Cok WG vwCl jNW R_law i 3 (j_meth jP mj)) (hN : j_meth jP mj = some N) (hsp : j_spl 3 N h st = some (As, rest)) (hj : j_W jP 8 mj 0 (lv_args 0 As) [] h Q1) (hlen : ∀ r h', Q1 r h' → h'.length = h.length)
    (hRc : cells ≤ 600002) (hRs : slots ≤ 7302232) (hP : va_P D vwCl (j_ws g s.heap.size h) H) (hS : va_S (la_A s) s.heap H locs)
    (k : ∀ (r : Option Value) (h' : J_H) (H1 : Heap) (locs1 : List Loc), Q1 r h' → va_P D vwCl (j_ws g s.heap.size h') H1 → va_S (la_A s) s.heap H1 locs1 → W p l e room_1 s m #[Value.ref bs] below meth c H1 locs1 cells slots Q (F0 m (pc + 3) ls (j_st s.heap.size (r.toList ++ rest)))) :
    W p l e room_1 s m #[Value.ref bs] below meth c H locs cells slots Q (F0 m pc ls (j_st s.heap.size st)) := by
  obtain ⟨f, r, hf, h1, h2⟩ := hj
  have e1 := hlen r hf h2
  have e2 := j_eq jP _ _ _ _ _ _ _ _ _ h1 e1
  have e3 : hf.length - h.length = 0 := by omega
  have e4 : j_sl hf - j_sl h = 0 := by omega
  refine la_call hPk C hls hd (Or.inr ⟨rfl, rfl⟩) hC hN hsp h1 (Nat.le_of_ble_eq_true rfl) (Nat.le_of_ble_eq_true rfl) (by rw [e3]; exact hRc) (by rw [e4]; exact hRs) hP hS (Or.inr e1) (fun H1 locs1 a1 a2 => ?_)
  rw [e3, e4]
  exact k r hf H1 locs1 h2 a1 a2
/-- an int of the script -/
theorem la_arg (C : la_C p s m meth c bs 6 xs D g) (h0 : ls[0]? = some (.val (.ref bs))) (h4 : ls[4]? = some (.val (.int 0))) (hS : va_S (la_A s) s.heap H locs) {n : Int} {k : Nat} (d0 : decode code pc = .ok (.aload_n 0, 1)) (d1 : decode code (pc + 1) = .ok (.iload 4, 2)) (d2 : decode code (pc + 3) = .ok (.iconst n, 1)) (d3 : decode code (pc + 4) = .ok (.iadd, 1)) (d4 : decode code (pc + 5) = .ok (.iaload, 1)) (hk : ((0 : Int32) + Int32.ofInt n).toNatClampNeg = k ∧ ¬ ((0 : Int32) + Int32.ofInt n) < 0 ∧ k < 6)
    (kk : W p l e room_1 s m #[Value.ref bs] below meth c H locs cells slots Q (F0 m (pc + 6) ls (.int (xs k) :: st))) : W p l e room_1 s m #[Value.ref bs] below meth c H locs cells slots Q (F0 m pc ls st) := by
  obtain ⟨⟨hx, hb, -, -, -, -, hX, hbl, -, -⟩, -⟩ := C
  refine lv_aload_n hx hb d0 rfl h0 ?_
  refine lv_iload hx hb d1 h4 ?_
  refine lv_iconst hx hb d2 rfl ?_
  refine lv_iadd hx hb d3 ?_
  refine va_sld hx hb hX hbl (Nat.not_le.mpr hbl) hS (fun z => z.elim hk.2.1 (fun z => by rw [hk.1] at z; omega)) d4 ?_
  rw [hk.1]
  exact kk
/-- an int of the script, whether it isn't 0 -/
theorem la_bool (C : la_C p s m meth c bs 6 xs D g) (h0 : ls[0]? = some (.val (.ref bs))) (h4 : ls[4]? = some (.val (.int 0))) (hS : va_S (la_A s) s.heap H locs) {n : Int} {k : Nat} (d0 : decode code pc = .ok (.aload_n 0, 1)) (d1 : decode code (pc + 1) = .ok (.iload 4, 2)) (d2 : decode code (pc + 3) = .ok (.iconst n, 1)) (d3 : decode code (pc + 4) = .ok (.iadd, 1)) (d4 : decode code (pc + 5) = .ok (.iaload, 1)) (d5 : decode code (pc + 6) = .ok (.ifCond .eq 7, 3)) (d6 : decode code (pc + 9) = .ok (.iconst 1, 1)) (d7 : decode code (pc + 10) = .ok (.goto 4, 3)) (d8 : decode code (pc + 13) = .ok (.iconst 0, 1)) (hk : ((0 : Int32) + Int32.ofInt n).toNatClampNeg = k ∧ ¬ ((0 : Int32) + Int32.ofInt n) < 0 ∧ k < 6)
    (kk : W p l e room_1 s m #[Value.ref bs] below meth c H locs cells slots Q (F0 m (pc + 14) ls (.int (bif !(decide (xs k = 0)) then 1 else 0) :: st))) : W p l e room_1 s m #[Value.ref bs] below meth c H locs cells slots Q (F0 m pc ls st) := by
  refine la_arg C h0 h4 hS d0 d1 d2 d3 d4 hk ?_
  obtain ⟨⟨hx, hb, -, -, -, -, hX, hbl, -, -⟩, -⟩ := C
  refine lv_if_eq (tgt := pc + 13) hx hb d5 (by omega) (fun z => ?_) (fun z => ?_)
  · refine lv_iconst (v := 0) hx hb d8 (by decide) ?_
    rw [decide_eq_true z] at kk
    exact kk
  · refine lv_iconst (v := 1) hx hb d6 (by decide) ?_
    refine lv_goto (tgt := pc + 14) hx hb d7 (by omega) ?_
    rw [decide_eq_false z] at kk
    exact kk
/-- the law's end, behind the one turn of its loop -/
theorem la_end {q1 q2 q3 : Nat} (C : la_C p s m meth c bs 6 xs D g) {lv : List (Nat × Value)} (hl : lv_has ls 7 lv) (h0 : lv[0]? = some (4, .int 0)) (h1 : (lv.filter (fun q => !(q.1 == 4) && !(q.1 + 1 == 4 && q.2.category == 2)))[q1]? = some (0, .ref bs)) (hS : va_S (la_A s) s.heap H locs) (hc : cells ≤ 600002) (hs : slots ≤ 7302232) : W p l e room_1 s m #[Value.ref bs] below meth c H locs cells slots (lw_Z below #[Value.ref bs] s) (F0 m 1919 ls []) := by
  obtain ⟨⟨hx, hb, hr, hml, hown, hts, hX, hbl, hlocks, hgv⟩, -⟩ := C
  refine lv_iinc (v := 6) hx hb dL_law_1919 hl h0 (by decide) (by decide) rfl (fun ls hl => ?_)
  refine lv_goto (tgt := 23) hx hb dL_law_1922 (by decide) ?_
  refine lv_iload hx hb dL_law_23 (lv_at hl 0 rfl) ?_
  refine lv_aload_n hx hb dL_law_25 rfl (lv_at hl (q1 + 1) h1) ?_
  refine va_slen hx hb hX hbl (Nat.not_le.mpr hbl) hS dL_law_26 ?_
  refine lv_bipush (v := 6) hx hb dL_law_27 (by decide) ?_
  refine lv_isub hx hb dL_law_29 ?_
  refine lv_icmp_gt (tgt := 1925) hx hb dL_law_30 (by decide) (fun z => ?_) (fun z => absurd (by decide) z)
  refine lv_iconst (v := 1) hx hb dL_law_1925 (by decide) ?_
  refine va_forget (fun q hq => hS.2.2 q hq) ?_
  exact W.widen hc hs (lw_ret hx hb hr hlocks dL_law_1926)
end LAROWS
/-- the locals in the loop: i, out, m, x, script -/
abbrev la_lv (s : State) (bs q3 : Nat) : List (Nat × Value) := [(4, .int 0), (3, .ref q3), (2, .ref (s.heap.size + 359)), (1, .ref s.heap.size), (0, .ref bs)]
theorem la_h0 : ∃ fs, jH[0]? = some (.inl (9, fs)) := ⟨[.ref 1, .ref 3, .ref 4, .ref 29, .ref 281, .ref 325, .ref 327, .ref 343, .int 0], by decide +kernel⟩
theorem la_h359 : jH[359]? = some (.inl (10, jm_fs)) := by decide +kernel
/-- a place in the loop's body, behind the switch -/
abbrev la_B (l : Launch) (p : Program) (e : Env) (s : State) (m : MethodId) (below : List Frame) (meth : Method) (c : Code) (bs q3 : Nat) (D : va_G) (g : j_G) (pc : Nat) : Prop := ∀ (H : Heap) (locs : List Loc) (ls : Array Slot), va_P D vwCl (j_ws g s.heap.size jH) H → va_S (la_A s) s.heap H locs → lv_has ls 7 (la_lv s bs q3) → W p l e room_1 s m #[Value.ref bs] below meth c H locs 373 19204 (lw_Z below #[Value.ref bs] s) (F0 m pc ls [])

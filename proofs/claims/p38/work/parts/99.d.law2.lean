section LAROWS
variable {l : Launch} {p : Program} {e : Env} {s : State} {m : MethodId} {below : List Frame} {meth : Method} {c : Code} {bs L : Nat} {xs : Nat → Int32} {D : va_G} {g : j_G} {H : Heap} {locs : List Loc} {ls : Array Slot} {cells slots pc : Nat} {Q : State → Prop} {st : List Value}
/-- a virtual call out of the law that makes nothing -/
theorem la_vir (hPk : j_Pok WG vwCl la_RN jNW jP) {mj i : Nat} {N : j_M} {As rest : List Value} {h : J_H} {Q1 : Option Value → J_H → Prop} (C : la_C p s m meth c bs L xs D g) (hls : ls.size = 7) (hd : decode code pc = .ok (.invokevirtual i, 3)) (hC : j_Cok WG vwCl jNW R_law i 3 (j_meth jP mj)) (hN : j_meth jP mj = some N) (hsp : j_spl 3 N h st = some (As, rest)) (hj : j_W jP 15 mj 0 (lv_args 0 As) [] h Q1) (hlen : ∀ r h', Q1 r h' → h'.length = h.length)
    (hRc : cells ≤ 601024) (hRs : slots ≤ 7293034) (hP : va_P D vwCl (j_ws g s.heap.size h) H) (hS : va_S (la_A s) s.heap H locs)
    (k : ∀ (r : Option Value) (h' : J_H) (H1 : Heap) (locs1 : List Loc), Q1 r h' → va_P D vwCl (j_ws g s.heap.size h') H1 → va_S (la_A s) s.heap H1 locs1 → W p l e room_1 s m #[Value.ref bs] below meth c H1 locs1 cells slots Q (F0 m (pc + 3) ls (j_st s.heap.size (r.toList ++ rest)))) :
    W p l e room_1 s m #[Value.ref bs] below meth c H locs cells slots Q (F0 m pc ls (j_st s.heap.size st)) := by
  obtain ⟨f, r, hf, h1, h2⟩ := hj
  have e1 := hlen r hf h2
  have e2 := j_eq jP _ _ _ _ _ _ _ _ _ h1 e1
  have e3 : hf.length - h.length = 0 := by omega
  have e4 : j_sl hf - j_sl h = 0 := by omega
  refine la_call hPk C hls hd (Or.inr ⟨rfl, rfl⟩) hC hN hsp h1 (Nat.le_of_ble_eq_true rfl) (Nat.le_of_ble_eq_true rfl) (by rw [e3]; exact hRc) (by rw [e4]; exact hRs) hP hS (Or.inr e1) (fun H1 locs1 a1 a2 => ?_)
  rw [e3, e4]
  exact k r hf H1 locs1 h2 a1 a2
theorem la_ix {t k : Nat} {n : Int} (ht : 6 * t + 6 ≤ L) (hL : L ≤ 3072) (hk : Int32.ofInt n = nI k ∧ k < 6) : (nI (6 * t) + Int32.ofInt n).toNatClampNeg = 6 * t + k ∧ ¬ (nI (6 * t) + Int32.ofInt n) < 0 := by
  have e : nI (6 * t) + Int32.ofInt n = nI (6 * t + k) := by
    rw [hk.1]
    exact (Int32.ofNat_add _ _).symm
  have := hk.2
  rw [e]
  exact ⟨nI_clamp (by omega), nI_pos (by omega)⟩
/-- an int of the script -/
theorem la_arg (C : la_C p s m meth c bs L xs D g) {t : Nat} (ht : 6 * t + 6 ≤ L) (hL : L ≤ 3072) (h0 : ls[0]? = some (.val (.ref bs))) (h4 : ls[4]? = some (.val (.int (nI (6 * t))))) (hS : va_S (la_A s) s.heap H locs) {n : Int} {k : Nat} (d0 : decode code pc = .ok (.aload_n 0, 1)) (d1 : decode code (pc + 1) = .ok (.iload 4, 2)) (d2 : decode code (pc + 3) = .ok (.iconst n, 1)) (d3 : decode code (pc + 4) = .ok (.iadd, 1)) (d4 : decode code (pc + 5) = .ok (.iaload, 1)) (hk : Int32.ofInt n = nI k ∧ k < 6)
    (kk : W p l e room_1 s m #[Value.ref bs] below meth c H locs cells slots Q (F0 m (pc + 6) ls (.int (xs (6 * t + k)) :: st))) : W p l e room_1 s m #[Value.ref bs] below meth c H locs cells slots Q (F0 m pc ls st) := by
  obtain ⟨⟨hx, hb, -, -, -, -, hX, hbl, -, -⟩, -⟩ := C
  obtain ⟨i1, i2⟩ := la_ix ht hL hk
  have hk2 := hk.2
  refine lv_aload_n hx hb d0 rfl h0 ?_
  refine lv_iload hx hb d1 h4 ?_
  refine lv_iconst hx hb d2 rfl ?_
  refine lv_iadd hx hb d3 ?_
  refine va_sld hx hb hX hbl (Nat.not_le.mpr hbl) hS (fun z => z.elim i2 (fun z => by rw [i1] at z; omega)) d4 ?_
  rw [i1]
  exact kk
/-- an int of the script, whether it isn't 0 -/
theorem la_bool (C : la_C p s m meth c bs L xs D g) {t : Nat} (ht : 6 * t + 6 ≤ L) (hL : L ≤ 3072) (h0 : ls[0]? = some (.val (.ref bs))) (h4 : ls[4]? = some (.val (.int (nI (6 * t))))) (hS : va_S (la_A s) s.heap H locs) {n : Int} {k : Nat} (d0 : decode code pc = .ok (.aload_n 0, 1)) (d1 : decode code (pc + 1) = .ok (.iload 4, 2)) (d2 : decode code (pc + 3) = .ok (.iconst n, 1)) (d3 : decode code (pc + 4) = .ok (.iadd, 1)) (d4 : decode code (pc + 5) = .ok (.iaload, 1)) (d5 : decode code (pc + 6) = .ok (.ifCond .eq 7, 3)) (d6 : decode code (pc + 9) = .ok (.iconst 1, 1)) (d7 : decode code (pc + 10) = .ok (.goto 4, 3)) (d8 : decode code (pc + 13) = .ok (.iconst 0, 1)) (hk : Int32.ofInt n = nI k ∧ k < 6)
    (kk : W p l e room_1 s m #[Value.ref bs] below meth c H locs cells slots Q (F0 m (pc + 14) ls (.int (i_b (!(decide (xs (6 * t + k) = 0)))) :: st))) : W p l e room_1 s m #[Value.ref bs] below meth c H locs cells slots Q (F0 m pc ls st) := by
  refine la_arg C ht hL h0 h4 hS d0 d1 d2 d3 d4 hk ?_
  obtain ⟨⟨hx, hb, -, -, -, -, hX, hbl, -, -⟩, -⟩ := C
  refine lv_if_eq (tgt := pc + 13) hx hb d5 (by omega) (fun z => ?_) (fun z => ?_)
  · refine lv_iconst (v := 0) hx hb d8 (by decide) ?_
    rw [decide_eq_true z] at kk
    exact kk
  · refine lv_iconst (v := 1) hx hb d6 (by decide) ?_
    refine lv_goto (tgt := pc + 14) hx hb d7 (by omega) ?_
    rw [decide_eq_false z] at kk
    exact kk
end LAROWS
def la_isob (h : J_H) (a ci : Nat) : Bool := match h[a]? with
  | some (.inl (k, _)) => Nat.beq k ci
  | _ => false
theorem la_isob_ok {h : J_H} {a ci : Nat} (hq : la_isob h a ci = true) : ∃ fs, h[a]? = some (.inl (ci, fs)) := by
  unfold la_isob at hq
  split at hq
  · rename_i k fs hf
    exact ⟨fs, by rw [hf, Nat.eq_of_beq_eq_true hq]⟩
  · cases hq
theorem la_n9 : la_h9.length = 373 ∧ (∃ fs, la_h9[0]? = some (.inl (9, fs))) ∧ (∃ fs, la_h9[359]? = some (.inl (10, fs))) ∧ la_h9[372]? = some (.inr (.inr (.inl [0]))) := ⟨by decide +kernel, la_isob_ok (by decide +kernel), la_isob_ok (by decide +kernel), by decide +kernel⟩
theorem la_obj {h h' : J_H} (hs : j_same h h') {a ci : Nat} {fs : List Value} (ha : h[a]? = some (.inl (ci, fs))) : ∃ fs', h'[a]? = some (.inl (ci, fs')) := by
  obtain ⟨c', c1, c2⟩ := hs.2 a _ ha
  rcases c' with f | f | l | l
  · obtain ⟨k, fs'⟩ := f
    have e1 : k = ci := congrArg (fun q => q.2.1) c2
    subst e1
    exact ⟨fs', c1⟩
  · cases c2
  · cases c2
  · cases c2
theorem la_I.len {t : Nat} {h : J_H} (H : la_I t h) : h.length = 373 := H.same.1.trans la_n9.1
theorem la_I.h0 {t : Nat} {h : J_H} (H : la_I t h) : ∃ fs, h[0]? = some (.inl (9, fs)) := by
  obtain ⟨fs, z⟩ := la_n9.2.1
  exact la_obj H.same z
theorem la_h359 {t : Nat} {h h1 : J_H} (H : la_I t h) (hs : j_same h h1) : ∃ fs, h1[359]? = some (.inl (10, fs)) := by
  obtain ⟨fs, z⟩ := la_n9.2.2.1
  exact la_obj (H.same.tr hs) z
theorem la_I.h372 {t : Nat} {h : J_H} (H : la_I t h) : ∃ v, h[372]? = some (.inr (.inr (.inl [v]))) := by
  obtain ⟨c', c1, c2⟩ := H.same.2 372 _ la_n9.2.2.2
  rcases c' with f | f | l | l
  · cases c2
  · cases c2
  · have e1 : l.length = 1 := congrArg (fun q => q.2.2) c2
    match l, e1 with
    | [v], _ => exact ⟨v, c1⟩
  · cases c2
/-- the locals in the loop: i, out, m, x, script -/
abbrev la_lv (s : State) (bs t : Nat) : List (Nat × Value) := [(4, .int (nI (6 * t))), (3, .ref (s.heap.size + 372)), (2, .ref (s.heap.size + 359)), (1, .ref s.heap.size), (0, .ref bs)]
/-- a place in the loop's body, at its turn t -/
abbrev la_B (l : Launch) (p : Program) (e : Env) (s : State) (m : MethodId) (below : List Frame) (meth : Method) (c : Code) (bs : Nat) (D : va_G) (g : j_G) (t pc : Nat) : Prop := ∀ (h : J_H) (H : Heap) (locs : List Loc) (ls : Array Slot), la_I t h → va_P D vwCl (j_ws g s.heap.size h) H → va_S (la_A s) s.heap H locs → lv_has ls 7 (la_lv s bs t) → W p l e room_1 s m #[Value.ref bs] below meth c H locs (373 + t) (19204 + 6 * t) (lw_Z below #[Value.ref bs] s) (F0 m pc ls [])
theorem la_up {t : Nat} : nI (6 * t) + Int32.ofInt 6 = nI (6 * (t + 1)) := (Int32.ofNat_add _ _).symm
/-- the end of a turn -/
theorem la_end {l : Launch} {p : Program} {e : Env} {s : State} {m : MethodId} {below : List Frame} {meth : Method} {c : Code} {bs L : Nat} {xs : Nat → Int32} {D : va_G} {g : j_G} {H : Heap} {locs : List Loc} {ls : Array Slot} {cells slots t : Nat} {h : J_H} (C : la_C p s m meth c bs L xs D g) (nxt : la_B l p e s m below meth c bs D g (t + 1) 23) (hc : cells ≤ 373 + (t + 1)) (hs : slots ≤ 19204 + 6 * (t + 1)) (hk : la_I (t + 1) h) (hP : va_P D vwCl (j_ws g s.heap.size h) H) (hS : va_S (la_A s) s.heap H locs) (hl : lv_has ls 7 (la_lv s bs t)) : W p l e room_1 s m #[Value.ref bs] below meth c H locs cells slots (lw_Z below #[Value.ref bs] s) (F0 m 1891 ls []) := by
  obtain ⟨⟨hx, hb, -⟩, -⟩ := C
  refine lv_iinc (k := 0) (lv' := la_lv s bs (t + 1)) hx hb dL_law_1891 hl rfl la_up (by decide) rfl (fun ls hl => ?_)
  refine lv_goto (tgt := 23) hx hb dL_law_1894 (by decide) ?_
  exact W.widen hc hs (nxt h H locs ls hk hP hS hl)

/-! THE CLAIM OUT OF ONE WALK OF THE LAW'S BODY. Your part is whole_start (and what it stands on); all else here is the same for every law, but numbers. -/
def R_law : String := "SidingLoopsLaw"
def lw_P (b : Addr) (xs : List Int32) (args : Array Value) (s : State) : Prop := args = #[.ref b] ∧ s.IntsAt b xs ∧ xs.length ≤ 3072 ∧ (Jvm.Cond.and given_1 narrow_1).before args s = true
def lw_Q (_ : Array Value) (s : State) (o : Outcome) (t : State) : Prop := o = .returned (some (.int 1)) ∧ Framed s o t [] 601024 7293034
def lw_Z (below : List Frame) (a : Array Value) (s : State) : State → Prop := fun t => ∃ o, t.status = .running ∧ Ended t below o ∧ lw_Q a s o t
/-- the law's own end, with 1 on the stack, nothing written that was there before, its room as the claim has it -/
theorem lw_ret {p : Program} {l : Launch} {e : Env} {s : State} {m : MethodId} {below : List Frame} {meth : Method} {c : Code} {b : Nat} (hx : p.tables.exec = Jvm.exec) (hb : c.code = code) (hr : meth.sig.returnType = ret) (hlocks : meth.locks = false) {pc : Nat} {H : Heap} {ls : Array Slot} (hdg : decode code pc = .ok (.ireturn, 1)) : W p l e room_1 s m #[Value.ref b] below meth c H [] 601024 7293034 (lw_Z below #[Value.ref b] s) (F0 m pc ls [.int 1]) := by
  intro T hT X
  obtain ⟨fs, hret, hrun, hended, hW, hframe⟩ := X.leave (v := some (.int 1)) (hlocks := hlocks) (fun h => by rw [hr] at h; cases h)
  have hmeth' : T.vm.method? m = some meth := X.method'
  refine ⟨T.setFrames fs, ?_, .returned (some (.int 1)), hrun, hended, rfl, ⟨_, rfl⟩, hW, hframe⟩
  jvm_step X.here [X.here.top, hx, hb, hdg, hmeth', hr, ret, narrow_b1]
  (try refine ⟨rfl, ?_⟩); (try refine ⟨rfl, ?_⟩)
  first | (intro acts; rw [hret _ acts rfl rfl rfl]) | rw [hret _ _ rfl rfl rfl]
  exact Steps.refl _
/-- what holds at the law's entry: the machine, the code, the tables' words (any of lw_tbl by 'hts w (by decide +kernel)'), the script of L ints xs at the cell b, what the Statement gives of the start (any of its parts by flat_of_before) -/
def lw_At (p : Program) (s : State) (m : MethodId) (meth : Method) (c : Code) (b L : Nat) (xs : Nat → Int32) : Prop :=
  p.tables.exec = Jvm.exec ∧ c.code = code ∧ meth.sig.returnType = ret ∧ c.maxLocals = 7 ∧ s.vm.findClass R_law = some m.cls ∧ (∀ w ∈ lw_tbl, w.before #[Value.ref b] s = true) ∧ va_X b L xs s s.heap ∧ b < s.heap.size ∧ meth.locks = false ∧ (Jvm.Cond.and given_1 narrow_1).before #[Value.ref b] s = true
/-! nothing new made: no slot more -/
theorem j_obj_eq {P : j_P} {mi : Nat} {isI : Bool} {ins : Instr} {st stJ : List Value} {h h' : J_H} (hj : j_obj P mi isI ins st h = some (stJ, h')) : h'.length = h.length → j_sl h' = j_sl h := by
  unfold j_obj at hj
  split at hj
  · obtain ⟨x, -, he⟩ := Option.map_eq_some_iff.mp hj
    cases he
    exact fun _ => rfl
  · obtain ⟨e1, e2⟩ := j_put_sl hj
    exact fun _ => by omega
  · obtain ⟨x, -, he⟩ := Option.map_eq_some_iff.mp hj
    cases he
    exact fun z => absurd z (by simp)
  · split at hj
    · split at hj
      · obtain ⟨x, -, he⟩ := Option.map_eq_some_iff.mp hj
        cases he
        exact fun z => absurd z (by simp)
      · cases hj
    · cases hj
  · split at hj
    · split at hj
      · cases hj
        exact fun z => absurd z (by simp)
      · cases hj
    · cases hj
  · cases hj
theorem j_one_eq {P : j_P} {mi nL pc : Nat} {isI : Bool} {ins : Instr} {lv lv' : J_L} {st stJ : List Value} {h h' : J_H} {pcJ : Nat} (hj : j_one P mi nL isI pc ins lv st h = some (pcJ, lv', stJ, h')) : h'.length = h.length → j_sl h' = j_sl h := by
  unfold j_one at hj
  split at hj
  all_goals first
    | (cases hj; done)
    | (obtain ⟨x, hx, he⟩ := Option.map_eq_some_iff.mp hj
       cases he
       first
         | exact fun _ => rfl
         | exact j_obj_eq hx
         | exact fun _ => by have := (j_ast_sl hx).1; have := (j_ast_sl hx).2; omega)
theorem j_eq (P : j_P) : ∀ (f d mi pc : Nat) (lv : J_L) (st : List Value) (h : J_H) (r : Option Value) (hf : J_H), j_run P f d mi pc lv st h = some (r, hf) → hf.length = h.length → j_sl hf = j_sl h := by
  intro f
  induction f with
  | zero => intro d mi pc lv st h r hf hj; cases hj
  | succ f ih =>
    intro d mi pc lv st h r hf hj hl
    unfold j_run at hj
    split at hj
    · split at hj
      · obtain ⟨x, -, he⟩ := Option.map_eq_some_iff.mp hj
        cases he
        rfl
      · split at hj
        · split at hj
          · exact ih _ _ _ _ _ _ _ _ hj hl
          · cases hj
        · split at hj
          · rename_i stJ h' ha
            have h1 := j_acp_sl ha
            have h2 := ih _ _ _ _ _ _ _ _ hj (by omega)
            omega
          · cases hj
        · split at hj
          · exact ih _ _ _ _ _ _ _ _ hj hl
          · cases hj
        · split at hj
          · exact ih _ _ _ _ _ _ _ _ hj hl
          · cases hj
        · split at hj
          · split at hj
            · split at hj
              · rename_i r' h' hc
                have m1 := (j_mono P _ _ _ _ _ _ _ _ _ hc).1
                have m2 := (j_mono P _ _ _ _ _ _ _ _ _ hj).1
                have h1 := ih _ _ _ _ _ _ _ _ hc (by omega)
                have h2 := ih _ _ _ _ _ _ _ _ hj (by omega)
                omega
              · cases hj
            · cases hj
          · cases hj
        · cases hj
      · split at hj
        · rename_i pcJ lv' stJ h' ho
          have m1 := (j_one_mono ho).1
          have m2 := (j_mono P _ _ _ _ _ _ _ _ _ hj).1
          have h1 := j_one_eq ho (by omega)
          have h2 := ih _ _ _ _ _ _ _ _ hj (by omega)
          omega
        · cases hj
    · cases hj
/-! the law's world -/
theorem la_arr {s : State} {ty : FieldType} {a : Array Value} (h : (Cond.arrayClass ty).before a s = true) : ∃ cA : ClassId, ArrOfT s cA ty ∧ s.vm.findClass ("[" ++ ty.toString) = some cA := by
  obtain ⟨cA, kA, comp, h1, h2, h3⟩ := Cond.arrayClass_spec h
  exact ⟨cA, fun n z => ⟨fun k h => (by cases h), kA, h2, comp, h3⟩, h1⟩
theorem la_arrO {s : State} {C : String} (h : va_AO C s) : ∃ cA : ClassId, ArrOfT s cA (.object C) ∧ va_RA s cA (.object C) := by
  obtain ⟨comp, cA, kA, h1, h2, h3, h4, h5⟩ := Cond.arrayOver_spec h
  exact ⟨cA, fun n z => ⟨fun k h => (by cases h), kA, h3, comp, h4⟩, kA, comp, h3, h4, h1, h5⟩
abbrev la_RN : String := "SidingLoops$State"
theorem la_ins {s : State} {a : Array Value} (hts : ∀ w ∈ WG, w.before a s = true) : ∀ (k : Nat), ∃ z : ClassId × (Nat → Nat), ∀ q : vw_C, vwCl[k]? = some q → u_Kn s q.1 q.2.1 q.2.2 z.1 z.2 := by
  intro k
  have go : ∀ (C : String) (T : u_T) (N n : Nat) , vwCl[k]? = some (C, T, N) → Cond.instantiable C n ∈ WG → ∃ z : ClassId × (Nat → Nat), ∀ q : vw_C, vwCl[k]? = some q → u_Kn s q.1 q.2.1 q.2.2 z.1 z.2 := by
    intro C T N n hk hi
    obtain ⟨c1, -, -⟩ := j_cls_all k C T N hk
    obtain ⟨cC, iS, hKn⟩ := u_known hts c1 (hts _ hi)
    exact ⟨(cC, iS), fun q hq => by rw [hk] at hq; cases hq; exact hKn⟩
  match k with
  | 0 => exact go _ _ _ 3 rfl (j_hw_ok (n := 367) (by decide +kernel))
  | 1 => exact go _ _ _ 4 rfl (j_hw_ok (n := 387) (by decide +kernel))
  | 2 => exact go _ _ _ 18 rfl (j_hw_ok (n := 395) (by decide +kernel))
  | 3 => exact go _ _ _ 10 rfl (j_hw_ok (n := 235) (by decide +kernel))
  | 4 => exact go _ _ _ 4 rfl (j_hw_ok (n := 189) (by decide +kernel))
  | 5 => exact go _ _ _ 3 rfl (j_hw_ok (n := 216) (by decide +kernel))
  | 6 => exact go _ _ _ 2 rfl (j_hw_ok (n := 523) (by decide +kernel))
  | 7 => exact go _ _ _ 19 rfl (j_hw_ok (n := 210) (by decide +kernel))
  | 8 => exact go _ _ _ 8 rfl (j_hw_ok (n := 152) (by decide +kernel))
  | 9 => exact go _ _ _ 9 rfl (j_hw_ok (n := 144) (by decide +kernel))
  | 10 => exact go _ _ _ 28 rfl (j_hw_ok (n := 1323) (by decide +kernel))
  | k + 11 => exact ⟨(0, fun _ => 0), fun q hq => by simp [vwCl] at hq⟩
theorem la_known {s : State} {a : Array Value} (hts : ∀ w ∈ WG, w.before a s = true) (hAO : va_AO la_RN s) : ∃ (D : va_G) (g : j_G), va_K D vwCl (j_tys la_RN g) s := by
  obtain ⟨f, hf⟩ := Classical.axiomOfChoice (la_ins hts)
  obtain ⟨c0, a0, b0⟩ := la_arr (hts (.arrayClass .byte) (j_hw_ok (n := 187) (by decide +kernel)))
  obtain ⟨c1, a1, b1⟩ := la_arr (hts (.arrayClass .int) (j_hw_ok (n := 233) (by decide +kernel)))
  obtain ⟨c2, a2, b2⟩ := la_arr (hts (.arrayClass .long) (j_hw_ok (n := 507) (by decide +kernel)))
  obtain ⟨c3, a3, b3⟩ := la_arrO hAO
  refine ⟨(fun k => (f k).1, fun k => (f k).2), (c0, c1, c2, c3), fun k q hq => hf k q hq, ?_⟩
  intro k q hq
  match k, hq with
  | 0, hq => cases hq; exact ⟨a0, b0⟩
  | 1, hq => cases hq; exact ⟨a1, b1⟩
  | 2, hq => cases hq; exact ⟨a2, b2⟩
  | 3, hq => cases hq; exact ⟨a3, b3⟩
  | k + 4, hq => simp [j_tys] at hq
theorem la_nest {s : State} {a : Array Value} (hts : ∀ w ∈ lw_tbl, w.before a s = true) : j_NW jNW s := by
  intro q hq
  have h : ∀ q ∈ jNW, Cond.methodLinkNest q.1 q.2.1 q.2.2.1 q.2.2.2 ∈ lw_tbl := by decide +kernel
  exact va_Nw.of rfl (hts _ (h q hq))
theorem la_over {s : State} {a : Array Value} (hts : ∀ w ∈ lw_tbl, w.before a s = true) : va_AO la_RN s := va_AO.of (hts _ (List.mem_of_getElem? (i := 373) (by decide +kernel)))
/-- what the law's body may use -/
def la_C (p : Program) (s : State) (m : MethodId) (meth : Method) (c : Code) (bs L : Nat) (xs : Nat → Int32) (D : va_G) (g : j_G) : Prop :=
  lw_At p s m meth c bs L xs ∧ va_K D vwCl (j_tys la_RN g) s ∧ j_NW jNW s ∧ va_AO la_RN s ∧ (∀ w ∈ WG, w.before #[Value.ref bs] s = true)
abbrev la_A (s : State) : Nat → Prop := fun q => s.heap.size ≤ q
theorem la_start {p : Program} {s : State} {m : MethodId} {meth : Method} {c : Code} {bs L : Nat} {xs : Nat → Int32} (C0 : lw_At p s m meth c bs L xs) : ∃ (D : va_G) (g : j_G), la_C p s m meth c bs L xs D g := by
  obtain ⟨hx, hb, hr, hml, hown, hts, hX, hbl, hlocks, hgv⟩ := id C0
  have htw : ∀ w ∈ WG, w.before #[Value.ref bs] s = true := fun w hw => hts w (List.mem_filter.mp hw).1
  obtain ⟨D, g, hK⟩ := la_known htw (la_over hts)
  exact ⟨D, g, C0, hK, la_nest hts, la_over hts, htw⟩
set_option maxHeartbeats 4000000 in
/-- a call out of the law -/
theorem la_call (hPk : j_Pok WG vwCl la_RN jNW jP) {l : Launch} {p : Program} {e : Env} {s : State} {m : MethodId} {below : List Frame} {meth : Method} {c : Code} {bs L : Nat} {xs : Nat → Int32} {D : va_G} {g : j_G} {H : Heap} {locs : List Loc} {ls : Array Slot} {cells slots pc md mj i f d : Nat} {Q : State → Prop} {ins : Instr} {N : j_M} {st As rest : List Value} {h hf : J_H} {r : Option Value}
    (C : la_C p s m meth c bs L xs D g) (hls : ls.size = 7) (hd : decode code pc = .ok (ins, 3)) (hins : (ins = .invokespecial i ∧ md = 4) ∨ (ins = .invokevirtual i ∧ md = 3)) (hC : j_Cok WG vwCl jNW R_law i md (j_meth jP mj)) (hN : j_meth jP mj = some N) (hsp : j_spl md N h st = some (As, rest)) (hj : j_run jP f d mj 0 (lv_args 0 As) [] h = some (r, hf))
    (hRf : d + 2 ≤ 17) (hRl : (d + 2) * 30 ≤ 672) (hRc : cells + (hf.length - h.length) ≤ 601024) (hRs : slots + (j_sl hf - j_sl h) ≤ 7293034) (hP : va_P D vwCl (j_ws g s.heap.size h) H) (hS : va_S (la_A s) s.heap H locs) (hal : H.size = s.heap.size + h.length ∨ hf.length = h.length)
    (k : ∀ (H1 : Heap) (locs1 : List Loc), va_P D vwCl (j_ws g s.heap.size hf) H1 → va_S (la_A s) s.heap H1 locs1 → W p l e room_1 s m #[Value.ref bs] below meth c H1 locs1 (cells + (hf.length - h.length)) (slots + (j_sl hf - j_sl h)) Q (F0 m (pc + 3) ls (j_st s.heap.size (r.toList ++ rest)))) :
    W p l e room_1 s m #[Value.ref bs] below meth c H locs cells slots Q (F0 m pc ls (j_st s.heap.size st)) := by
  obtain ⟨⟨hx, hb, -, hml, hown, -, -, -, -, -⟩, hK, hNW, hAO, hts⟩ := C
  obtain ⟨hst, hAl, hcat, hlg, hrc⟩ := j_spl_ok hsp
  obtain ⟨m1, m2, m3, m4, m5, m6⟩ := hPk.2.2.2.1 mj N hN
  rw [hN] at hC
  obtain ⟨-, -, -, c3, c4, -, -, -, -⟩ := hC
  have hMet := j_met_of (sz := H.size) (l := l) (D := D) (g := g) (b := s.heap.size) hPk (j_all hPk f) hj hN hlg hal
  have hG : GoodIn WG (Cond.code (j_y N) (j_by N) (j_nL N) (j_rt N) :: WG) := fun w hw => by
    have hw' : w ∈ WG := (List.mem_cons.mp hw).elim (fun z => by rw [z]; exact m3) id
    exact ⟨hw', hPk.1 w hw'⟩
  have hfix : CallFix p m c code 7 s #[Value.ref bs] WG R_law := ⟨hx, hb, hml, hown, hts⟩
  have hRoom : ({ frames := d + 1, cells := hf.length - h.length, slots := j_sl hf - j_sl h, locals := (d + 1) * 30 } : Room).frames + 1 ≤ room_1.frames ∧ 8 + (j_nL N + 11) + ({ frames := d + 1, cells := hf.length - h.length, slots := j_sl hf - j_sl h, locals := (d + 1) * 30 } : Room).locals ≤ room_1.locals := ⟨hRf, Nat.le_trans (j_ar3 m5) hRl⟩
  have hpre : ∀ U : State, U.heap = H → s.WarmedH U.vm → va_Pc (As.map (j_v s.heap.size)) (j_Pre vwCl la_RN jNW D g s.heap.size H.size h) (As.map (j_v s.heap.size)).toArray U := fun U hU hW => ⟨rfl, by rw [hU], by rw [hU]; exact hP, va_K.moved hW.alike hK, fun w hw => va_Nw.warmM hW (hNW w hw), va_AO.moved hW.alike hAO⟩
  have hcat' : 2 * (F0 m pc ls (j_st s.heap.size st)).monitorRoom + ((j_st s.heap.size rest).map fun v => v.category).sum ≤ 8 := by
    rw [j_st_cat]
    show 2 * 0 + _ ≤ 8
    rw [Nat.mul_zero, Nat.zero_add]
    exact hcat
  have fin : va_Run p l e room_1 s m #[Value.ref bs] below meth c H locs cells slots (hf.length - h.length) (j_sl hf - j_sl h) (F0 m pc ls (j_st s.heap.size st)) (j_st s.heap.size rest) (j_Post vwCl D g s.heap.size H.size h hf r (As.map (j_v s.heap.size)).toArray) (j_A s.heap.size h.length H.size) → W p l e room_1 s m #[Value.ref bs] below meth c H locs cells slots Q (F0 m pc ls (j_st s.heap.size st)) := by
    intro hr
    refine j_goes hr fun v st₀ t H1 L' h0 ht hq hL => ?_
    obtain ⟨q1, q2, q3, q4⟩ := hq
    cases q1
    rw [j_rst]
    rw [ht] at q2
    rw [h0] at q3 q4
    exact k H1 (locs ++ L') q2 ⟨Nat.le_trans hS.1 (by rw [← ht]; exact q3), fun q z1 z2 => by
        rw [← ht, q4 q (Nat.lt_of_lt_of_le z1 hS.1) (fun y => y.elim (fun y => z2 y.1) (fun y => absurd (Nat.lt_of_lt_of_le z1 hS.1) (Nat.not_lt.mpr y)))]
        exact hS.2.1 q z1 z2, fun q hq => by
        rcases List.mem_append.mp hq with y | y
        · exact hS.2.2 q y
        · exact (hL q y).elim (fun y => y.1) (fun y => Nat.le_trans hS.1 y)⟩
  rcases hins with ⟨rfl, rfl⟩ | ⟨rfl, rfl⟩
  · have hn1 : j_nar 4 (j_np N) = j_np N + 1 := j_nar1 (Or.inr (Or.inl rfl))
    rw [hn1] at hAl
    obtain ⟨v0, As', rfl⟩ : ∃ v0 As', As = v0 :: As' := by
      cases As with
      | nil => cases hAl
      | cons v0 As' => exact ⟨v0, As', rfl⟩
    obtain ⟨q0, rfl⟩ := j_rcv_ref hrc (Or.inr (Or.inl rfl))
    have hlen : (As'.map (j_v s.heap.size)).length = j_np N := by
      rw [List.length_map]
      exact Nat.succ.inj hAl
    have hstack : (F0 m pc ls (j_st s.heap.size st)).stack = (As'.map (j_v s.heap.size)).reverse ++ .ref (s.heap.size + q0) :: j_st s.heap.size rest := by
      show j_st s.heap.size st = _
      rw [hst]
      simp [j_st, j_v]
    obtain ⟨w1, w2, w3, w4⟩ := c4 rfl N rfl
    rw [w4] at hMet hG m3
    exact fin (va_runI (As := As'.map (j_v s.heap.size)) (b := s.heap.size + q0) (rest := j_st s.heap.size rest) hfix hMet ⟨callB_of (j_np N) hts hG rfl rfl rfl (hts _ m6) (hts _ w1) m4 hRoom, w3, hts _ w2⟩ ⟨j_blind, hpre⟩ rfl hlen hls hstack hcat' hd ⟨hRc, hRs⟩)
  · obtain ⟨w1, w2, w3, qc, w4, w5⟩ := c3 rfl N rfl
    have hn1 : j_nar 3 (j_np N) = j_np N + 1 := j_nar1 (Or.inl rfl)
    rw [hn1] at hAl
    obtain ⟨v0, As', rfl⟩ : ∃ v0 As', As = v0 :: As' := by
      cases As with
      | nil => cases hAl
      | cons v0 As' => exact ⟨v0, As', rfl⟩
    obtain ⟨q0, rfl⟩ := j_rcv_ref hrc (Or.inl rfl)
    obtain ⟨fs, hfs⟩ : ∃ fs, h[q0]? = some (.inl (j_ci N, fs)) := by
      simp only [j_rcv] at hrc
      split at hrc
      · rename_i ci fs hq
        exact ⟨fs, by rw [hq, of_decide_eq_true hrc]⟩
      · cases hrc
    have hlen : (As'.map (j_v s.heap.size)).length = j_np N := by
      rw [List.length_map]
      exact Nat.succ.inj hAl
    have hstack : (F0 m pc ls (j_st s.heap.size st)).stack = (As'.map (j_v s.heap.size)).reverse ++ .ref (s.heap.size + q0) :: j_st s.heap.size rest := by
      show j_st s.heap.size st = _
      rw [hst]
      simp [j_st, j_v]
    have hrv := va_recv hK hP (ci := j_ci N) (q0 := q0) w4 (j_ws_at hfs)
    rw [w5] at hrv
    exact fin (va_runV (As := As'.map (j_v s.heap.size)) (b := s.heap.size + q0) (rest := j_st s.heap.size rest) hfix hMet ⟨callB_of (j_np N) hts hG rfl rfl rfl (hts _ m6) (hts _ w1) m4 hRoom, hts _ w2, hts _ w3⟩ ⟨j_blind, hrv, hpre⟩ rfl hlen hls hstack hcat' hd ⟨hRc, hRs⟩)

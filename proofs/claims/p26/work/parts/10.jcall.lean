section JCALL
variable {WG : List Cond} {cl : List vw_C} {RN : String} {NW : j_NL} {P : j_P} {D : va_G} {g : j_G} {b : Nat} {l : Launch}
theorem j_inv_md {mi : Nat} {ins : Instr} {md mj : Nat} (h : j_inv P mi ins = some (md, mj)) : ∃ i, j_cal P mi i = some (md, mj) ∧ ((ins = .invokespecial i ∧ (md = 0 ∨ md = 4 ∨ md = 5)) ∨ (ins = .invokestatic i ∧ (md = 1 ∨ md = 2 ∨ md = 6 ∨ md = 7 ∨ md = 8)) ∨ (ins = .invokevirtual i ∧ md = 3)) := by
  unfold j_inv at h
  split at h
  · split at h <;> first | (cases h; done) | (rename_i hc; cases h; exact ⟨_, hc, Or.inl ⟨rfl, by omega⟩⟩)
  · split at h <;> first | (cases h; done) | (rename_i hc; cases h; exact ⟨_, hc, Or.inr (Or.inl ⟨rfl, by omega⟩)⟩)
  · split at h <;> first | (cases h; done) | (rename_i hc; cases h; exact ⟨_, hc, Or.inr (Or.inr ⟨rfl, rfl⟩)⟩)
  · cases h
theorem j_ar1 {a b c : Nat} (h1 : c ≤ a) (h2 : a ≤ b) : b - c = a - c + (b - a) := by omega
theorem j_ar2 {a b c r : Nat} (h1 : c ≤ a) (h2 : a ≤ b) (h3 : b - c ≤ r) : a - c + (b - a) ≤ r := by omega
theorem j_ar3 {n d : Nat} (h : n ≤ 11) : 8 + (n + 11) + (d + 1) * 30 ≤ (d + 2) * 30 := by omega
theorem j_ar4 {a b n z x : Nat} (h1 : x = b + n) (h2 : n ≤ a) (h3 : b + a ≤ z) (h4 : z ≤ x + (a - n)) : z = b + a := by omega
theorem j_rcv_ref {md ci : Nat} {h : J_H} {v0 : Value} {As : List Value} (hr : j_rcv md ci h (v0 :: As) = true) (h2 : md = 3 ∨ md = 4 ∨ md = 5) : ∃ q, v0 = .ref q := by
  unfold j_rcv at hr
  split at hr
  · rcases h2 with h | h | h <;> cases h
  · rcases h2 with h | h | h <;> cases h
  · rename_i e
    cases e
    exact ⟨_, rfl⟩
  · rename_i e
    cases e
    exact ⟨_, rfl⟩
  · cases hr
theorem j_nar1 {md np : Nat} (h : md = 3 ∨ md = 4 ∨ md = 5) : j_nar md np = np + 1 := by
  unfold j_nar
  rcases h with h | h | h <;> subst h <;> rfl
set_option maxHeartbeats 4000000 in
theorem j_call_ok (hPk : j_Pok WG cl RN NW P) {mi : Nat} {M : j_M} (hM : j_meth P mi = some M) {f d : Nat} (IH : j_Goal WG cl RN NW P D g b l f) {p : Program} {e : Env} {R : Room} {s : State} {m : MethodId} {args : Array Value} {below : List Frame} {meth : Method} {c : Code} {H : Heap} {locs : List Loc} {ls : Array Slot} {A : Nat → Prop} {n0 s0 pc md mj : Nat} {Q : State → Prop} {ins : Instr} {N : j_M} {st As rest : List Value} {h h1 : J_H} {r : Option Value}
    (hcx : j_cx WG cl RN NW M D g p s m args meth c) (hls : ls.size = j_nL M) (hd : decode (j_by M) pc = .ok (ins, 3)) (hi : j_inv P mi ins = some (md, mj)) (hmd : ∀ z : Nat, z = md → z ≠ 0 ∧ z ≠ 1 ∧ z ≠ 7 ∧ z ≠ 8) (hN : j_meth P mj = some N) (hsp : j_spl md N h st = some (As, rest)) (hj : j_run P f d mj 0 (lv_args 0 As) [] h = some (r, h1))
    (hRf : R.frames = d + 2) (hRl : R.locals = (d + 2) * 30) (hRc : h1.length - n0 ≤ R.cells) (hRs : j_sl h1 - s0 ≤ R.slots) (hn : n0 ≤ h.length) (hs : s0 ≤ j_sl h) (hP : va_P D cl (j_ws g b h) H) (hS : va_S A s.heap H locs) (hD : ∀ q, b ≤ q → q < b + h.length → A q) (hA : ∀ q, s.heap.size ≤ q → A q) (hal : s.heap.size = b + n0 ∨ h1.length = h.length)
    (k : ∀ (H1 : Heap) (locs1 : List Loc), va_P D cl (j_ws g b h1) H1 → va_S A s.heap H1 locs1 → W p l e R s m args below meth c H1 locs1 (h1.length - n0) (j_sl h1 - s0) Q (F0 m (pc + 3) ls (j_st b (r.toList ++ rest)))) :
    W p l e R s m args below meth c H locs (h.length - n0) (j_sl h - s0) Q (F0 m pc ls (j_st b st)) := by
  obtain ⟨hx, hb, hr, hml, hown, hts, hlocks, hI, hK, hNW, hAO⟩ := hcx
  obtain ⟨hst, hAl, hcat, hlg, hrc⟩ := j_spl_ok hsp
  obtain ⟨mo1, mo2⟩ := j_mono P _ _ _ _ _ _ _ _ _ hj
  obtain ⟨m1, m2, m3, m4, m5, m6⟩ := hPk.2.2.2.1 mj N hN
  obtain ⟨i, hcal, hins⟩ := j_inv_md hi
  have hC := hPk.2.2.2.2.2.2.2.2.2 mi M i md mj hM hcal
  rw [hN] at hC
  obtain ⟨-, -, c2, c3, c4, c5, c6, -, -⟩ := hC
  refine j_size fun hz => ?_
  have hal2 : H.size = b + h.length ∨ h1.length = h.length := hal.elim (fun z => Or.inl (j_ar4 z hn (j_lb hP hS (by rw [z]; exact Nat.le_add_right _ _)) hz)) Or.inr
  have hMet := j_met_of (sz := H.size) hPk IH hj hN hlg hal2
  have hG : GoodIn WG (Cond.code (j_y N) (j_by N) (j_nL N) (j_rt N) :: WG) := fun w hw => by
    have hw' : w ∈ WG := (List.mem_cons.mp hw).elim (fun z => by rw [z]; exact m3) id
    exact ⟨hw', hPk.1 w hw'⟩
  have hfix : CallFix p m c (j_by M) (j_nL M) s args WG (j_y M).cls := ⟨hx, hb, hml, hown, hts⟩
  have hRoom : ({ frames := d + 1, cells := h1.length - h.length, slots := j_sl h1 - j_sl h, locals := (d + 1) * 30 } : Room).frames + 1 ≤ R.frames ∧ 8 + (j_nL N + 11) + ({ frames := d + 1, cells := h1.length - h.length, slots := j_sl h1 - j_sl h, locals := (d + 1) * 30 } : Room).locals ≤ R.locals := ⟨by rw [hRf]; exact Nat.le_refl _, by rw [hRl]; exact j_ar3 m5⟩
  have hpre : ∀ U : State, U.heap = H → s.WarmedH U.vm → va_Pc (As.map (j_v b)) (j_Pre cl RN NW D g b H.size h) (As.map (j_v b)).toArray U := fun U hU hW => ⟨rfl, by rw [hU], by rw [hU]; exact hP, va_K.moved hW.alike hK, fun w hw => va_Nw.warmM hW (hNW w hw), va_AO.moved hW.alike hAO⟩
  have hcat' : 2 * (F0 m pc ls (j_st b st)).monitorRoom + ((j_st b rest).map fun v => v.category).sum ≤ 8 := by
    rw [j_st_cat]
    show 2 * 0 + _ ≤ 8
    rw [Nat.mul_zero, Nat.zero_add]
    exact hcat
  have hfit : h.length - n0 + (h1.length - h.length) ≤ R.cells ∧ j_sl h - s0 + (j_sl h1 - j_sl h) ≤ R.slots := ⟨j_ar2 hn mo1 hRc, j_ar2 hs mo2 hRs⟩
  have fin : va_Run p l e R s m args below meth c H locs (h.length - n0) (j_sl h - s0) (h1.length - h.length) (j_sl h1 - j_sl h) (F0 m pc ls (j_st b st)) (j_st b rest) (j_Post cl D g b H.size h h1 r (As.map (j_v b)).toArray) (j_A b h.length H.size) → W p l e R s m args below meth c H locs (h.length - n0) (j_sl h - s0) Q (F0 m pc ls (j_st b st)) := by
    intro hr
    refine j_goes hr fun v st₀ t H1 L h0 ht hq hL => ?_
    obtain ⟨q1, q2, q3, q4⟩ := hq
    cases q1
    rw [j_rst]
    rw [ht] at q2
    rw [h0] at q3 q4
    have w := k H1 (locs ++ L) q2 ⟨Nat.le_trans hS.1 (by rw [← ht]; exact q3), fun q z1 z2 => by
        rw [← ht, q4 q (Nat.lt_of_lt_of_le z1 hS.1) (fun y => y.elim (fun y => z2 (hD q y.1 y.2)) (fun y => absurd (Nat.lt_of_lt_of_le z1 hS.1) (Nat.not_lt.mpr y)))]
        exact hS.2.1 q z1 z2, fun q hq => by
        rcases List.mem_append.mp hq with y | y
        · exact hS.2.2 q y
        · exact (hL q y).elim (fun y => hD _ y.1 y.2) (fun y => hA _ (Nat.le_trans hS.1 y))⟩
    rw [j_ar1 hn mo1, j_ar1 hs mo2] at w
    exact w
  rcases hins with ⟨rfl, hm⟩ | ⟨rfl, hm⟩ | ⟨rfl, hm⟩
  · -- invokespecial: a constructor
    have hm2 : md = 3 ∨ md = 4 ∨ md = 5 := hm.elim (fun h => absurd rfl (hmd 0 h.symm).1) Or.inr
    have hn1 : j_nar md (j_np N) = j_np N + 1 := j_nar1 hm2
    rw [hn1] at hAl
    obtain ⟨v0, As', rfl⟩ : ∃ v0 As', As = v0 :: As' := by
      cases As with
      | nil => cases hAl
      | cons v0 As' => exact ⟨v0, As', rfl⟩
    obtain ⟨q0, rfl⟩ := j_rcv_ref hrc hm2
    have hlen : (As'.map (j_v b)).length = j_np N := by
      rw [List.length_map]
      exact Nat.succ.inj hAl
    have hstack : (F0 m pc ls (j_st b st)).stack = (As'.map (j_v b)).reverse ++ .ref (b + q0) :: j_st b rest := by
      show j_st b st = _
      rw [hst]
      simp [j_st, j_v]
    rcases hm with h | h | h
    · exact absurd rfl (hmd 0 h.symm).1
    · subst h
      obtain ⟨w1, w2, w3, w4⟩ := c4 rfl N rfl
      rw [w4] at hMet hG m3
      refine fin (va_runI (As := As'.map (j_v b)) (b := b + q0) (rest := j_st b rest) hfix hMet ⟨callB_of (j_np N) hts hG rfl rfl rfl (hts _ m6) (hts _ w1) m4 hRoom, w3, hts _ w2⟩ ⟨j_blind, hpre⟩ rfl hlen hls hstack hcat' hd hfit)
    · subst h
      obtain ⟨⟨host, w1⟩, w2, w3, w4⟩ := c5 rfl N rfl
      rw [w4] at hMet hG m3
      refine fin (va_runIN (host := host) (As := As'.map (j_v b)) (b := b + q0) (rest := j_st b rest) hfix hMet ⟨va_cnB (j_np N) hts hG rfl rfl rfl (hNW _ w1) (hts _ m6) m4 hRoom, w3, hts _ w2⟩ ⟨j_blind, hpre⟩ rfl hlen hls hstack hcat' hd hfit)
  · -- invokestatic
    rcases hm with h | h | h | h | h
    · exact absurd rfl (hmd 1 h.symm).2.1
    · subst h
      obtain ⟨w1, w2⟩ := c2 rfl N rfl
      refine fin (va_runS (As := As.map (j_v b)) (rest := j_st b rest) hfix hMet ⟨callB_of (j_np N) hts hG rfl rfl rfl (hts _ m6) (hts _ w1) m4 hRoom, hts _ w2⟩ ⟨j_blind, hpre⟩ rfl (by rw [List.length_map, hAl]; rfl) hls (by show j_st b st = _; rw [hst]; simp [j_st]) hcat' hd hfit)
    · subst h
      obtain ⟨⟨host, w1⟩, w2⟩ := c6 rfl N rfl
      refine fin (va_runSN (host := host) (As := As.map (j_v b)) (rest := j_st b rest) hfix hMet ⟨va_cnB (j_np N) hts hG rfl rfl rfl (hNW _ w1) (hts _ m6) m4 hRoom, hts _ w2, trivial⟩ ⟨j_blind, hpre⟩ rfl (by rw [List.length_map, hAl]; rfl) hls (by show j_st b st = _; rw [hst]; simp [j_st]) hcat' hd hfit)
    · exact absurd rfl (hmd 7 h.symm).2.2.1
    · exact absurd rfl (hmd 8 h.symm).2.2.2
  · -- invokevirtual
    subst hm
    obtain ⟨w1, w2, w3, qc, w4, w5⟩ := c3 rfl N rfl
    have hn1 : j_nar 3 (j_np N) = j_np N + 1 := j_nar1 (Or.inl rfl)
    rw [hn1] at hAl
    obtain ⟨v0, As', rfl⟩ : ∃ v0 As', As = v0 :: As' := by
      cases As with
      | nil => cases hAl
      | cons v0 As' => exact ⟨v0, As', rfl⟩
    obtain ⟨q0, rfl⟩ := j_rcv_ref hrc (Or.inl rfl)
    obtain ⟨fs, hfs⟩ : ∃ fs, h[q0]? = some (.inl (j_ci N, fs)) := by
      simp only [j_rcv] at hrc
      split at hrc
      · rename_i ci fs hq
        exact ⟨fs, by rw [hq, of_decide_eq_true hrc]⟩
      · cases hrc
    have hlen : (As'.map (j_v b)).length = j_np N := by
      rw [List.length_map]
      exact Nat.succ.inj hAl
    have hstack : (F0 m pc ls (j_st b st)).stack = (As'.map (j_v b)).reverse ++ .ref (b + q0) :: j_st b rest := by
      show j_st b st = _
      rw [hst]
      simp [j_st, j_v]
    have hrv := va_recv hK hP (ci := j_ci N) (q0 := q0) w4 (j_ws_at hfs)
    rw [w5] at hrv
    refine fin (va_runV (As := As'.map (j_v b)) (b := b + q0) (rest := j_st b rest) hfix hMet ⟨callB_of (j_np N) hts hG rfl rfl rfl (hts _ m6) (hts _ w1) m4 hRoom, hts _ w2, hts _ w3⟩ ⟨j_blind, hrv, hpre⟩ rfl hlen hls hstack hcat' hd hfit)
end JCALL

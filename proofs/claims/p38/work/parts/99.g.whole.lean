/-! the last case, and the whole of the law -/
theorem lo_start {p : Program} {s : State} {m : MethodId} {meth : Method} {c : Code} {bs L : Nat} {xs : Nat → Int32} (C0 : lw_At p s m meth c bs L xs) : ∃ sa : Nat, lo_E (la_A s) sa s s.heap := by
  obtain ⟨hx, hb, hr, hml, hown, hts, hX, hbl, hlocks, hgv⟩ := C0
  have hf := flat_of_before _ hgv
  have hstr : (Cond.exactly (.string "SidingLoops" 407) "java/lang/String").before #[Value.ref bs] s = true := hf _ (by decide +kernel)
  obtain ⟨a, -, -, -, e1, -⟩ := Cond.exactly_spec hstr
  refine ⟨a, vx_Zqof (hts _ (List.mem_of_getElem? (i := 1284) (by decide +kernel))) (hts _ (List.mem_of_getElem? (i := 139) (by decide +kernel))) (hf _ (by decide +kernel)) (fun q hq => Nat.not_le.mpr hq), vx_Zqof (hts _ (List.mem_of_getElem? (i := 1286) (by decide +kernel))) (hts _ (List.mem_of_getElem? (i := 139) (by decide +kernel))) (hf _ (by decide +kernel)) (fun q hq => Nat.not_le.mpr hq), vk_R.of (hts _ (List.mem_of_getElem? (i := 1296) (by decide +kernel))) e1, fun w hw => ?_⟩
  exact va_Nw.of (by simp only [lo_B, List.mem_cons, List.not_mem_nil, or_false] at hw; rcases hw with rfl | rfl | rfl | rfl <;> rfl) (hts _ (lo_tbl w hw))
theorem lo_gL : GoodIn WG (va_wsS R_law 216 yL_out lo_wsL) := by
  have h1 : Cond.methodLink R_law 216 yL_out ∈ WG := j_hw_ok (n := 1249) (by decide +kernel)
  have h2 : Cond.static yL_out ∈ WG := j_hw_ok (n := 1250) (by decide +kernel)
  have h3 : Cond.initialized yL_out.cls ∈ WG := j_hw_ok (n := 123) (by decide +kernel)
  have h4 : Cond.codeWith yL_out cL_out 4 (some .int) [(0, 9, 12, 13)] ∈ WG := j_hw_ok (n := 1251) (by decide +kernel)
  intro w hw
  have hw' : w ∈ WG := by
    simp only [va_wsS, List.mem_append, List.mem_cons, List.not_mem_nil, or_false] at hw
    rcases hw with (rfl | rfl | rfl) | rfl | hw
    · exact h1
    · exact h2
    · exact h3
    · exact h4
    · exact hw
  exact ⟨hw', WG_good w hw'⟩
set_option maxHeartbeats 4000000 in
theorem la_case_47 (hPk : j_Pok WG vwCl la_RN jNW jP) {l : Launch} (hl0 : l.stackTraces = false) {p : Program} {e : Env} {s : State} {m : MethodId} {below : List Frame} {meth : Method} {c : Code} {bs L t : Nat} {xs : Nat → Int32} {D : va_G} {g : j_G} (C : la_C p s m meth c bs L xs D g) (ht : 6 * t + 6 ≤ L) (hL : L ≤ 3072) (nxt : la_B l p e s m below meth c bs D g (t + 1) 23) : la_B l p e s m below meth c bs D g t 1863 := by
  intro h H locs ls hk hP hS hl
  have hx := C.1.1
  have hb := C.1.2.1
  obtain ⟨⟨-, -, hr, hml, hown, -, -, -, -, -⟩, hK, hNW, hAO, hts⟩ := id C
  obtain ⟨sa, hE⟩ := lo_start C.1
  refine lv_aload_n hx hb dL_law_1863 rfl (lv_at hl 3 rfl) ?_
  refine la_arg C ht hL (lv_at hl 4 rfl) (lv_at hl 0 rfl) hS dL_law_1864 dL_law_1865 dL_law_1867 dL_law_1868 dL_law_1869 (k := 1) ⟨by decide, by decide⟩ ?_
  refine lv_aload_n hx hb dL_law_1870 rfl (lv_at hl 1 rfl) ?_
  have hpre : ∀ U : State, U.heap = H → s.WarmedH U.vm → va_Pc [.ref (s.heap.size + 0), .int (xs (6 * t + 1)), .ref (s.heap.size + 372)] (lo_Pre D g s.heap.size H.size sa h) ([.ref (s.heap.size + 0), .int (xs (6 * t + 1)), .ref (s.heap.size + 372)] : List Value).toArray U := fun U hU hW => ⟨rfl, ⟨by rw [hU], by rw [hU]; exact hP, va_K.moved hW.alike hK, fun w hw => va_Nw.warmM hW (hNW w hw), va_AO.moved hW.alike hAO⟩, by
    rw [hU]
    have h2 : lo_E (la_A s) sa s H := ⟨hE.1.kept hS.2.1, hE.2.1.kept hS.2.1, hE.2.2⟩
    exact h2.moved hW⟩
  have hup : ∀ q : Nat, H.size ≤ q → la_A s q := fun q hq => Nat.le_trans hS.1 hq
  refine vx_calli (st0 := [.ref (s.heap.size + 372), .int (xs (6 * t + 1)), .ref (s.heap.size + 0)]) (A0 := la_A s) (H0 := s.heap) (vx_runSX (As := [.ref (s.heap.size + 0), .int (xs (6 * t + 1)), .ref (s.heap.size + 372)]) (rest := []) (own := R_law) (Ts := WG) (cc := code) (nL := 7) ⟨hx, hb, hml, hown, hts⟩ (lo_L hPk hl0 (D := D) (g := g) (b := s.heap.size) (sz := H.size) (sa := sa) (v := xs (6 * t + 1)) hk.sh hk.h372 hS.1) (vx_cwSW 3 hts lo_gL rfl rfl rfl ⟨by decide, by decide, by decide +kernel⟩ ⟨Nat.le_of_ble_eq_true rfl, Nat.le_of_ble_eq_true rfl⟩) ⟨lo_blind, hpre⟩ rfl rfl hl.1 rfl (Nat.le_of_ble_eq_true rfl) dL_law_1871 ⟨show 373 + t + 1 ≤ 601024 by omega, show 19204 + 6 * t + 6 ≤ 7293034 by omega⟩) hS (fun q _ hq => hq) (fun q hq => hq) (fun q _ hq => hup q hq) (fun E ce q9 u t9 H1 locs1 ht9 hvm hp hB hz hkk hS1 hcell hcv hcl => hp.elim) ?_
  intro r u t9 H1 locs1 ht9 hvm hpost hB hz hkk hS1
  have hk1 : la_I t u := by
    obtain ⟨w0, hw0⟩ := hk.h372
    rcases hpost with rfl | ⟨w, rfl⟩
    · exact hk
    · exact hk.st hw0
  have hP1 : va_P D vwCl (j_ws g s.heap.size u) H1 := by rw [← ht9]; exact hB
  clear hS hP hkk
  have hS := hS1
  refine lv_istore (lv' := [(5, .int r), (4, .int (nI (6 * t))), (3, .ref (s.heap.size + 372)), (2, .ref (s.heap.size + 359)), (1, .ref s.heap.size), (0, .ref bs)]) hx hb dL_law_1874 hl (by decide) rfl (fun ls hl => ?_)
  refine lv_aload_n hx hb dL_law_1876 rfl (lv_at hl 3 rfl) ?_
  refine la_arg C ht hL (lv_at hl 5 rfl) (lv_at hl 1 rfl) hS dL_law_1877 dL_law_1878 dL_law_1880 dL_law_1881 dL_law_1882 (k := 1) ⟨by decide, by decide⟩ ?_
  obtain ⟨f9, hf9⟩ := la_h359 hk1 j_same.rf
  refine la_vir hPk (st := [.int (xs (6 * t + 1)), .ref 359]) (As := [.ref 359, .int (xs (6 * t + 1))]) (rest := []) (N := (yX10_out, cX10_out, 2, (some .int), 1, false, 10)) C hl.1 dL_law_1883 (j_Cchk_ok (own := R_law) (q := (221, 3, 297, [1932, 1933, 1934])) (by decide +kernel)) rfl (j_spl3 hf9 rfl rfl rfl (Nat.zero_le _) (Nat.le_of_ble_eq_true rfl)) (la_r_out (xs (6 * t + 1)) hk1) (fun r h' z => z.2.1.1) (by omega) (by omega) hP1 hS ?_
  rintro r2 h2 H2 locs2 ⟨⟨w, rfl⟩, s2, hk2⟩ hP2 hS2
  show W p l e room_1 s m #[Value.ref bs] below meth c H2 locs2 (373 + t + 1) (19204 + 6 * t + 6) _ (F0 m 1886 ls [.int w])
  refine lv_istore (lv' := [(6, .int w), (5, .int r), (4, .int (nI (6 * t))), (3, .ref (s.heap.size + 372)), (2, .ref (s.heap.size + 359)), (1, .ref s.heap.size), (0, .ref bs)]) hx hb dL_law_1886 hl (by decide) rfl (fun ls hl => ?_)
  refine lv_goto (tgt := 1891) hx hb dL_law_1888 (by decide) ?_
  exact la_end C nxt (by omega) (by omega) hk2 hP2 hS2 (lv_sub hl (l' := la_lv s bs t) [2, 3, 4, 5, 6] rfl)
theorem la_low : ∀ L : Fin 6, Int32.ofNat L.val - 6 < nI (6 * 0) := by decide
theorem la_cmp {L t : Nat} (hL : L ≤ 3072) (ht : 6 * t ≤ L) : Int32.ofNat L - 6 < nI (6 * t) ↔ ¬ 6 * t + 6 ≤ L := by
  rcases Nat.lt_or_ge L 6 with h | h
  · have e : t = 0 := by omega
    subst e
    exact ⟨fun _ => by omega, fun _ => la_low ⟨L, h⟩⟩
  · have e : Int32.ofNat L - 6 = nI (L - 6) := by
      have e1 : Int32.ofNat L = nI (L - 6) + 6 := by
        have : Int32.ofNat ((L - 6) + 6) = Int32.ofNat (L - 6) + Int32.ofNat 6 := Int32.ofNat_add _ _
        rw [show L - 6 + 6 = L by omega] at this
        exact this
      rw [e1, Int32.add_sub_cancel]
    rw [e]
    constructor
    · intro z y
      exact nI_nlt (show 6 * t ≤ L - 6 by omega) (by omega) z
    · intro z
      exact nI_lt (by omega) (by omega)
set_option maxHeartbeats 4000000 in
theorem la_turn (hPk : j_Pok WG vwCl la_RN jNW jP) {l : Launch} (hl0 : l.stackTraces = false) {p : Program} {e : Env} {s : State} {m : MethodId} {below : List Frame} {meth : Method} {c : Code} {bs L t : Nat} {xs : Nat → Int32} {D : va_G} {g : j_G} (C : la_C p s m meth c bs L xs D g) (hL : L ≤ 3072) (ht6 : 6 * t ≤ L) (nxt : 6 * t + 6 ≤ L → la_B l p e s m below meth c bs D g (t + 1) 23) : la_B l p e s m below meth c bs D g t 23 := by
  intro h H1 locs1 ls hk hP1 hS1 hl
  obtain ⟨hx, hb, hr, hml, hown, hts, hX, hbl, hlocks, hgv⟩ := id C.1
  refine lv_iload hx hb dL_law_23 (lv_at hl 0 rfl) ?_
  refine lv_aload_n hx hb dL_law_25 rfl (lv_at hl 4 rfl) ?_
  refine va_slen hx hb hX hbl (Nat.not_le.mpr hbl) hS1 dL_law_26 ?_
  refine lv_bipush (v := 6) hx hb dL_law_27 (by decide) ?_
  refine lv_isub hx hb dL_law_29 ?_
  refine lv_icmp_gt (tgt := 1897) hx hb dL_law_30 (by decide) (fun _ => ?_) (fun z => ?_)
  · refine lv_iconst (v := 1) hx hb dL_law_1897 (by decide) ?_
    refine va_forget (fun q hq => hS1.2.2 q hq) ?_
    exact W.widen (by omega) (by omega) (lw_ret hx hb hr hlocks dL_law_1898)
  · have ht : 6 * t + 6 ≤ L := Decidable.byContradiction fun y => z ((la_cmp hL ht6).mpr y)
    have nxt := nxt ht
    have hn6 : (nI (6 * t)).toNatClampNeg = 6 * t := nI_clamp (by omega)
    refine lv_aload_n hx hb dL_law_33 rfl (lv_at hl 4 rfl) ?_
    refine lv_iload hx hb dL_law_34 (lv_at hl 0 rfl) ?_
    refine va_sld hx hb hX hbl (Nat.not_le.mpr hbl) hS1 (fun y => y.elim (nI_pos (by omega)) (fun y => by rw [hn6] at y; omega)) dL_law_36 ?_
    rw [hn6]
    refine lv_bipush (v := 63) hx hb dL_law_37 (by decide) ?_
    refine lv_iand hx hb dL_law_39 ?_
    show W p l e room_1 s m #[Value.ref bs] below meth c H1 locs1 (373 + t) (19204 + 6 * t) _ (F0 m 40 ls [.int (xs (6 * t) &&& 63)])
    by_cases hn : (xs (6 * t) &&& 63).toInt < 0 ∨ 47 < (xs (6 * t) &&& 63).toInt
    · refine lv_tableOut (tgt := 1891) hx hb dL_law_40 hn (by decide) ?_
      exact la_end C nxt (by omega) (by omega) hk.nx hP1 hS1 hl
    · have hn0 : ¬ (xs (6 * t) &&& 63).toInt < 0 := fun y => hn (Or.inl y)
      have hn1 : ¬ 47 < (xs (6 * t) &&& 63).toInt := fun y => hn (Or.inr y)
      have h48 : (xs (6 * t) &&& 63).toInt = 0 ∨ (xs (6 * t) &&& 63).toInt = 1 ∨ (xs (6 * t) &&& 63).toInt = 2 ∨ (xs (6 * t) &&& 63).toInt = 3 ∨ (xs (6 * t) &&& 63).toInt = 4 ∨ (xs (6 * t) &&& 63).toInt = 5 ∨ (xs (6 * t) &&& 63).toInt = 6 ∨ (xs (6 * t) &&& 63).toInt = 7 ∨ (xs (6 * t) &&& 63).toInt = 8 ∨ (xs (6 * t) &&& 63).toInt = 9 ∨ (xs (6 * t) &&& 63).toInt = 10 ∨ (xs (6 * t) &&& 63).toInt = 11 ∨ (xs (6 * t) &&& 63).toInt = 12 ∨ (xs (6 * t) &&& 63).toInt = 13 ∨ (xs (6 * t) &&& 63).toInt = 14 ∨ (xs (6 * t) &&& 63).toInt = 15 ∨ (xs (6 * t) &&& 63).toInt = 16 ∨ (xs (6 * t) &&& 63).toInt = 17 ∨ (xs (6 * t) &&& 63).toInt = 18 ∨ (xs (6 * t) &&& 63).toInt = 19 ∨ (xs (6 * t) &&& 63).toInt = 20 ∨ (xs (6 * t) &&& 63).toInt = 21 ∨ (xs (6 * t) &&& 63).toInt = 22 ∨ (xs (6 * t) &&& 63).toInt = 23 ∨ (xs (6 * t) &&& 63).toInt = 24 ∨ (xs (6 * t) &&& 63).toInt = 25 ∨ (xs (6 * t) &&& 63).toInt = 26 ∨ (xs (6 * t) &&& 63).toInt = 27 ∨ (xs (6 * t) &&& 63).toInt = 28 ∨ (xs (6 * t) &&& 63).toInt = 29 ∨ (xs (6 * t) &&& 63).toInt = 30 ∨ (xs (6 * t) &&& 63).toInt = 31 ∨ (xs (6 * t) &&& 63).toInt = 32 ∨ (xs (6 * t) &&& 63).toInt = 33 ∨ (xs (6 * t) &&& 63).toInt = 34 ∨ (xs (6 * t) &&& 63).toInt = 35 ∨ (xs (6 * t) &&& 63).toInt = 36 ∨ (xs (6 * t) &&& 63).toInt = 37 ∨ (xs (6 * t) &&& 63).toInt = 38 ∨ (xs (6 * t) &&& 63).toInt = 39 ∨ (xs (6 * t) &&& 63).toInt = 40 ∨ (xs (6 * t) &&& 63).toInt = 41 ∨ (xs (6 * t) &&& 63).toInt = 42 ∨ (xs (6 * t) &&& 63).toInt = 43 ∨ (xs (6 * t) &&& 63).toInt = 44 ∨ (xs (6 * t) &&& 63).toInt = 45 ∨ (xs (6 * t) &&& 63).toInt = 46 ∨ (xs (6 * t) &&& 63).toInt = 47 := by omega
      rcases h48 with h48 | h48 | h48 | h48 | h48 | h48 | h48 | h48 | h48 | h48 | h48 | h48 | h48 | h48 | h48 | h48 | h48 | h48 | h48 | h48 | h48 | h48 | h48 | h48 | h48 | h48 | h48 | h48 | h48 | h48 | h48 | h48 | h48 | h48 | h48 | h48 | h48 | h48 | h48 | h48 | h48 | h48 | h48 | h48 | h48 | h48 | h48 | h48
      · refine lv_tableIn hx hb dL_law_40 hn0 hn1 (off := 208) (tgt := 248) (by rw [h48]; rfl) (by decide) ?_
        exact la_case_0 hPk C ht hL nxt h H1 locs1 ls hk hP1 hS1 hl
      · refine lv_tableIn hx hb dL_law_40 hn0 hn1 (off := 221) (tgt := 261) (by rw [h48]; rfl) (by decide) ?_
        exact la_case_1 hPk C ht hL nxt h H1 locs1 ls hk hP1 hS1 hl
      · refine lv_tableIn hx hb dL_law_40 hn0 hn1 (off := 294) (tgt := 334) (by rw [h48]; rfl) (by decide) ?_
        exact la_case_2 hPk C ht hL nxt h H1 locs1 ls hk hP1 hS1 hl
      · refine lv_tableIn hx hb dL_law_40 hn0 hn1 (off := 319) (tgt := 359) (by rw [h48]; rfl) (by decide) ?_
        exact la_case_3 hPk C ht hL nxt h H1 locs1 ls hk hP1 hS1 hl
      · refine lv_tableIn hx hb dL_law_40 hn0 hn1 (off := 344) (tgt := 384) (by rw [h48]; rfl) (by decide) ?_
        exact la_case_4 hPk C ht hL nxt h H1 locs1 ls hk hP1 hS1 hl
      · refine lv_tableIn hx hb dL_law_40 hn0 hn1 (off := 369) (tgt := 409) (by rw [h48]; rfl) (by decide) ?_
        exact la_case_5 hPk C ht hL nxt h H1 locs1 ls hk hP1 hS1 hl
      · refine lv_tableIn hx hb dL_law_40 hn0 hn1 (off := 406) (tgt := 446) (by rw [h48]; rfl) (by decide) ?_
        exact la_case_6 hPk C ht hL nxt h H1 locs1 ls hk hP1 hS1 hl
      · refine lv_tableIn hx hb dL_law_40 hn0 hn1 (off := 455) (tgt := 495) (by rw [h48]; rfl) (by decide) ?_
        exact la_case_7 hPk C ht hL nxt h H1 locs1 ls hk hP1 hS1 hl
      · refine lv_tableIn hx hb dL_law_40 hn0 hn1 (off := 492) (tgt := 532) (by rw [h48]; rfl) (by decide) ?_
        exact la_case_8 hPk C ht hL nxt h H1 locs1 ls hk hP1 hS1 hl
      · refine lv_tableIn hx hb dL_law_40 hn0 hn1 (off := 517) (tgt := 557) (by rw [h48]; rfl) (by decide) ?_
        exact la_case_9 hPk C ht hL nxt h H1 locs1 ls hk hP1 hS1 hl
      · refine lv_tableIn hx hb dL_law_40 hn0 hn1 (off := 542) (tgt := 582) (by rw [h48]; rfl) (by decide) ?_
        exact la_case_10 hPk C ht hL nxt h H1 locs1 ls hk hP1 hS1 hl
      · refine lv_tableIn hx hb dL_law_40 hn0 hn1 (off := 567) (tgt := 607) (by rw [h48]; rfl) (by decide) ?_
        exact la_case_11 hPk C ht hL nxt h H1 locs1 ls hk hP1 hS1 hl
      · refine lv_tableIn hx hb dL_law_40 hn0 hn1 (off := 580) (tgt := 620) (by rw [h48]; rfl) (by decide) ?_
        exact la_case_12 hPk C ht hL nxt h H1 locs1 ls hk hP1 hS1 hl
      · refine lv_tableIn hx hb dL_law_40 hn0 hn1 (off := 605) (tgt := 645) (by rw [h48]; rfl) (by decide) ?_
        exact la_case_13 hPk C ht hL nxt h H1 locs1 ls hk hP1 hS1 hl
      · refine lv_tableIn hx hb dL_law_40 hn0 hn1 (off := 642) (tgt := 682) (by rw [h48]; rfl) (by decide) ?_
        exact la_case_14 hPk C ht hL nxt h H1 locs1 ls hk hP1 hS1 hl
      · refine lv_tableIn hx hb dL_law_40 hn0 hn1 (off := 667) (tgt := 707) (by rw [h48]; rfl) (by decide) ?_
        exact la_case_15 hPk C ht hL nxt h H1 locs1 ls hk hP1 hS1 hl
      · refine lv_tableIn hx hb dL_law_40 hn0 hn1 (off := 680) (tgt := 720) (by rw [h48]; rfl) (by decide) ?_
        exact la_case_16 hPk C ht hL nxt h H1 locs1 ls hk hP1 hS1 hl
      · refine lv_tableIn hx hb dL_law_40 hn0 hn1 (off := 705) (tgt := 745) (by rw [h48]; rfl) (by decide) ?_
        exact la_case_17 hPk C ht hL nxt h H1 locs1 ls hk hP1 hS1 hl
      · refine lv_tableIn hx hb dL_law_40 hn0 hn1 (off := 770) (tgt := 810) (by rw [h48]; rfl) (by decide) ?_
        exact la_case_18 hPk C ht hL nxt h H1 locs1 ls hk hP1 hS1 hl
      · refine lv_tableIn hx hb dL_law_40 hn0 hn1 (off := 835) (tgt := 875) (by rw [h48]; rfl) (by decide) ?_
        exact la_case_19 hPk C ht hL nxt h H1 locs1 ls hk hP1 hS1 hl
      · refine lv_tableIn hx hb dL_law_40 hn0 hn1 (off := 872) (tgt := 912) (by rw [h48]; rfl) (by decide) ?_
        exact la_case_20 hPk C ht hL nxt h H1 locs1 ls hk hP1 hS1 hl
      · refine lv_tableIn hx hb dL_law_40 hn0 hn1 (off := 897) (tgt := 937) (by rw [h48]; rfl) (by decide) ?_
        exact la_case_21 hPk C ht hL nxt h H1 locs1 ls hk hP1 hS1 hl
      · refine lv_tableIn hx hb dL_law_40 hn0 hn1 (off := 934) (tgt := 974) (by rw [h48]; rfl) (by decide) ?_
        exact la_case_22 hPk C ht hL nxt h H1 locs1 ls hk hP1 hS1 hl
      · refine lv_tableIn hx hb dL_law_40 hn0 hn1 (off := 971) (tgt := 1011) (by rw [h48]; rfl) (by decide) ?_
        exact la_case_23 hPk C ht hL nxt h H1 locs1 ls hk hP1 hS1 hl
      · refine lv_tableIn hx hb dL_law_40 hn0 hn1 (off := 996) (tgt := 1036) (by rw [h48]; rfl) (by decide) ?_
        exact la_case_24 hPk C ht hL nxt h H1 locs1 ls hk hP1 hS1 hl
      · refine lv_tableIn hx hb dL_law_40 hn0 hn1 (off := 1033) (tgt := 1073) (by rw [h48]; rfl) (by decide) ?_
        exact la_case_25 hPk C ht hL nxt h H1 locs1 ls hk hP1 hS1 hl
      · refine lv_tableIn hx hb dL_law_40 hn0 hn1 (off := 1058) (tgt := 1098) (by rw [h48]; rfl) (by decide) ?_
        exact la_case_26 hPk C ht hL nxt h H1 locs1 ls hk hP1 hS1 hl
      · refine lv_tableIn hx hb dL_law_40 hn0 hn1 (off := 1123) (tgt := 1163) (by rw [h48]; rfl) (by decide) ?_
        exact la_case_27 hPk C ht hL nxt h H1 locs1 ls hk hP1 hS1 hl
      · refine lv_tableIn hx hb dL_law_40 hn0 hn1 (off := 1176) (tgt := 1216) (by rw [h48]; rfl) (by decide) ?_
        exact la_case_28 hPk C ht hL nxt h H1 locs1 ls hk hP1 hS1 hl
      · refine lv_tableIn hx hb dL_law_40 hn0 hn1 (off := 1201) (tgt := 1241) (by rw [h48]; rfl) (by decide) ?_
        exact la_case_29 hPk C ht hL nxt h H1 locs1 ls hk hP1 hS1 hl
      · refine lv_tableIn hx hb dL_law_40 hn0 hn1 (off := 1226) (tgt := 1266) (by rw [h48]; rfl) (by decide) ?_
        exact la_case_30 hPk C ht hL nxt h H1 locs1 ls hk hP1 hS1 hl
      · refine lv_tableIn hx hb dL_law_40 hn0 hn1 (off := 1263) (tgt := 1303) (by rw [h48]; rfl) (by decide) ?_
        exact la_case_31 hPk C ht hL nxt h H1 locs1 ls hk hP1 hS1 hl
      · refine lv_tableIn hx hb dL_law_40 hn0 hn1 (off := 1288) (tgt := 1328) (by rw [h48]; rfl) (by decide) ?_
        exact la_case_32 hPk C ht hL nxt h H1 locs1 ls hk hP1 hS1 hl
      · refine lv_tableIn hx hb dL_law_40 hn0 hn1 (off := 1341) (tgt := 1381) (by rw [h48]; rfl) (by decide) ?_
        exact la_case_33 hPk C ht hL nxt h H1 locs1 ls hk hP1 hS1 hl
      · refine lv_tableIn hx hb dL_law_40 hn0 hn1 (off := 1378) (tgt := 1418) (by rw [h48]; rfl) (by decide) ?_
        exact la_case_34 hPk C ht hL nxt h H1 locs1 ls hk hP1 hS1 hl
      · refine lv_tableIn hx hb dL_law_40 hn0 hn1 (off := 1419) (tgt := 1459) (by rw [h48]; rfl) (by decide) ?_
        exact la_case_35 hPk C ht hL nxt h H1 locs1 ls hk hP1 hS1 hl
      · refine lv_tableIn hx hb dL_law_40 hn0 hn1 (off := 1456) (tgt := 1496) (by rw [h48]; rfl) (by decide) ?_
        exact la_case_36 hPk C ht hL nxt h H1 locs1 ls hk hP1 hS1 hl
      · refine lv_tableIn hx hb dL_law_40 hn0 hn1 (off := 1469) (tgt := 1509) (by rw [h48]; rfl) (by decide) ?_
        exact la_case_37 hPk C ht hL nxt h H1 locs1 ls hk hP1 hS1 hl
      · refine lv_tableIn hx hb dL_law_40 hn0 hn1 (off := 1522) (tgt := 1562) (by rw [h48]; rfl) (by decide) ?_
        exact la_case_38 hPk C ht hL nxt h H1 locs1 ls hk hP1 hS1 hl
      · refine lv_tableIn hx hb dL_law_40 hn0 hn1 (off := 1559) (tgt := 1599) (by rw [h48]; rfl) (by decide) ?_
        exact la_case_39 hPk C ht hL nxt h H1 locs1 ls hk hP1 hS1 hl
      · refine lv_tableIn hx hb dL_law_40 hn0 hn1 (off := 1624) (tgt := 1664) (by rw [h48]; rfl) (by decide) ?_
        exact la_case_40 hPk C ht hL nxt h H1 locs1 ls hk hP1 hS1 hl
      · refine lv_tableIn hx hb dL_law_40 hn0 hn1 (off := 1649) (tgt := 1689) (by rw [h48]; rfl) (by decide) ?_
        exact la_case_41 hPk C ht hL nxt h H1 locs1 ls hk hP1 hS1 hl
      · refine lv_tableIn hx hb dL_law_40 hn0 hn1 (off := 1686) (tgt := 1726) (by rw [h48]; rfl) (by decide) ?_
        exact la_case_42 hPk C ht hL nxt h H1 locs1 ls hk hP1 hS1 hl
      · refine lv_tableIn hx hb dL_law_40 hn0 hn1 (off := 1723) (tgt := 1763) (by rw [h48]; rfl) (by decide) ?_
        exact la_case_43 hPk C ht hL nxt h H1 locs1 ls hk hP1 hS1 hl
      · refine lv_tableIn hx hb dL_law_40 hn0 hn1 (off := 1772) (tgt := 1812) (by rw [h48]; rfl) (by decide) ?_
        exact la_case_44 hPk C ht hL nxt h H1 locs1 ls hk hP1 hS1 hl
      · refine lv_tableIn hx hb dL_law_40 hn0 hn1 (off := 1797) (tgt := 1837) (by rw [h48]; rfl) (by decide) ?_
        exact la_case_45 hPk C ht hL nxt h H1 locs1 ls hk hP1 hS1 hl
      · refine lv_tableIn hx hb dL_law_40 hn0 hn1 (off := 1810) (tgt := 1850) (by rw [h48]; rfl) (by decide) ?_
        exact la_case_46 hPk C ht hL nxt h H1 locs1 ls hk hP1 hS1 hl
      · refine lv_tableIn hx hb dL_law_40 hn0 hn1 (off := 1823) (tgt := 1863) (by rw [h48]; rfl) (by decide) ?_
        exact la_case_47 hPk hl0 C ht hL nxt h H1 locs1 ls hk hP1 hS1 hl
theorem la_loop (hPk : j_Pok WG vwCl la_RN jNW jP) {l : Launch} (hl0 : l.stackTraces = false) {p : Program} {e : Env} {s : State} {m : MethodId} {below : List Frame} {meth : Method} {c : Code} {bs L : Nat} {xs : Nat → Int32} {D : va_G} {g : j_G} (C : la_C p s m meth c bs L xs D g) (hL : L ≤ 3072) : ∀ n t : Nat, 6 * t ≤ L → L < 6 * t + 6 * (n + 1) → la_B l p e s m below meth c bs D g t 23 := by
  intro n
  induction n with
  | zero => exact fun t ht hn => la_turn hPk hl0 C hL ht (fun y => by omega)
  | succ n ih => exact fun t ht hn => la_turn hPk hl0 C hL ht (fun y => ih (t + 1) (by omega) (by omega))
set_option maxHeartbeats 4000000 in
theorem whole_of (hPk : j_Pok WG vwCl la_RN jNW jP) {p : Program} {e : Env} {s : State} {m : MethodId} {below : List Frame} {meth : Method} {c : Code} (l : Launch) (hflags : l.flags = flags0) {b L : Nat} {xs : Nat → Int32} (hL : L ≤ 3072) (C0 : lw_At p s m meth c b L xs) : W p l e room_1 s m #[Value.ref b] below meth c s.heap [] 0 0 (lw_Z below #[Value.ref b] s) (entryFrame m ([Value.ref b] : List Value).toArray 7) := by
  have hl0 : l.stackTraces = false := by
    unfold Launch.stackTraces
    rw [hflags]
    decide +kernel
  obtain ⟨D, g, C⟩ := la_start C0
  obtain ⟨hx, hb, hr, hml, hown, hts, hX, hbl, hlocks, hgv⟩ := id C0
  have hK := C.2.1
  have htw := C.2.2.2.2
  have hS : va_S (la_A s) s.heap s.heap [] := va_S.rf
  have hP : va_P D vwCl (j_ws g s.heap.size []) s.heap := fun k q h => by simp [j_ws] at h
  have hl := lv_entry ([.ref b] : List Value) (n := 7) (Nat.le_of_ble_eq_true rfl)
  rw [lg_entry_eq]
  generalize (lg_sl ([.ref b] : List Value) ++ List.replicate (7 - (lg_sl ([.ref b] : List Value)).length) Slot.unset).toArray = ls at hl ⊢
  have hl : lv_has ls 7 [(0, .ref b)] := hl
  refine j_new_ok (g := g) (b := s.heap.size) (h := []) (st := []) (f := (9, [.null, .null, .null, .null, .null, .null, .null, .null, .int 0])) (own := R_law) hx hb htw hown hK hP hS rfl (j_Nchk_ok (own := R_law) (q := (8, ((9, [.null, .null, .null, .null, .null, .null, .null, .null, .int 0]), 143, 144, 124))) (by decide +kernel)) dL_law_0 (Nat.le_of_ble_eq_true rfl) (Nat.le_of_ble_eq_true rfl) (fun H1 hP1 hS1 hz1 => ?_)
  show W p l e room_1 s m #[Value.ref b] below meth c H1 [] 1 9 _ (F0 m 3 ls [.ref (s.heap.size + 0)])
  refine lv_dup hx hb dL_law_3 rfl ?_
  refine la_call hPk (st := [.ref 0, .ref 0]) (As := [.ref 0]) (rest := [.ref 0]) (h := [jX0]) (hf := jHx) (r := none) (d := 5) (N := (yX9_init, cX9_init, 1, none, 0, true, 9)) C hl.1 dL_law_4 (Or.inl ⟨rfl, rfl⟩) (j_Cchk_ok (own := R_law) (q := (15, 4, 111, [145, 146])) (by decide +kernel)) rfl (by decide +kernel) jHx_ok (Nat.le_of_ble_eq_true rfl) (Nat.le_of_ble_eq_true rfl) (by decide +kernel) (by decide +kernel) hP1 hS1 (Or.inl hz1) (fun H2 locs2 hP2 hS2 => ?_)
  refine W.widen (k := 359) (n := 8608) (by decide +kernel) (by decide +kernel) ?_
  show W p l e room_1 s m #[Value.ref b] below meth c H2 locs2 359 8608 _ (F0 m 7 ls [.ref (s.heap.size + 0)])
  refine lv_astore_n (lv' := [(1, .ref (s.heap.size + 0)), (0, .ref b)]) hx hb dL_law_7 rfl hl (by decide) rfl (fun ls hl => ?_)
  refine j_size fun hz => ?_
  have hz2 : H2.size = s.heap.size + jHx.length := by
    have h1 := j_lb hP2 hS2 (Nat.le_refl _)
    rw [jH_size.1] at h1 ⊢
    omega
  refine j_new_ok (g := g) (b := s.heap.size) (h := jHx) (st := []) (f := (10, [.int 0, .null, .null, .null, .null, .null, .null, .null, .null, .int 0, .int 0, .int 0, .int 0, .int 0, .int 0, .int 0, .int 0, .int 0, .int 0, .int 0, .int 0, .long 0, .null, .int 0, .null, .null, .null, .int 0])) (own := R_law) hx hb htw hown hK hP2 hS2 hz2 (j_Nchk_ok (own := R_law) (q := (16, ((10, [.int 0, .null, .null, .null, .null, .null, .null, .null, .null, .int 0, .int 0, .int 0, .int 0, .int 0, .int 0, .int 0, .int 0, .int 0, .int 0, .int 0, .int 0, .long 0, .null, .int 0, .null, .null, .null, .int 0]), 1322, 1323, 136))) (by decide +kernel)) dL_law_8 (Nat.le_of_ble_eq_true rfl) (Nat.le_of_ble_eq_true rfl) (fun H3 hP3 hS3 hz3 => ?_)
  rw [show j_st s.heap.size (.ref jHx.length :: []) = [.ref (s.heap.size + 359)] by rw [jH_size.1]; rfl]
  refine lv_dup hx hb dL_law_11 rfl ?_
  refine la_call hPk (st := [.ref 359, .ref 359]) (As := [.ref 359]) (rest := [.ref 359]) (h := jHx ++ [jM0]) (hf := jH) (r := none) (d := 5) (N := (yX10_init, cX10_init, 1, none, 0, true, 10)) C hl.1 dL_law_12 (Or.inl ⟨rfl, rfl⟩) (j_Cchk_ok (own := R_law) (q := (18, 4, 167, [1324, 1325])) (by decide +kernel)) rfl (by decide +kernel) jH_ok (Nat.le_of_ble_eq_true rfl) (Nat.le_of_ble_eq_true rfl) (by decide +kernel) (by decide +kernel) hP3 hS3 (Or.inl hz3) (fun H4 locs4 hP4 hS4 => ?_)
  refine W.widen (k := 372) (n := 19203) (by decide +kernel) (by decide +kernel) ?_
  show W p l e room_1 s m #[Value.ref b] below meth c H4 locs4 372 19203 _ (F0 m 15 ls [.ref (s.heap.size + 359)])
  refine lv_astore_n (lv' := [(2, .ref (s.heap.size + 359)), (1, .ref (s.heap.size + 0)), (0, .ref b)]) hx hb dL_law_15 rfl hl (by decide) rfl (fun ls hl => ?_)
  refine lv_iconst (v := 1) hx hb dL_law_16 (by decide) ?_
  refine j_size fun hz => ?_
  have hz4 : H4.size = s.heap.size + jH.length := by
    have h1 := j_lb hP4 hS4 (Nat.le_refl _)
    rw [jH_size.2.1] at h1 ⊢
    omega
  refine j_newa_ok (g := g) (b := s.heap.size) (h := jH) (st := []) (n := 1) (at_ := .long) (cell := .inr (.inr (.inl [0]))) hx hb htw hK hP4 hS4 hz4 (j_hw_ok (n := 507) (by decide +kernel)) rfl (by decide) (by decide) dL_law_17 (Nat.le_of_ble_eq_true rfl) (Nat.le_of_ble_eq_true rfl) (fun H5 hP5 hS5 hz5 => ?_)
  rw [show j_st s.heap.size (.ref jH.length :: []) = [.ref (s.heap.size + 372)] by rw [jH_size.2.1]; rfl]
  show W p l e room_1 s m #[Value.ref b] below meth c H5 locs4 373 19204 _ (F0 m 19 ls [.ref (s.heap.size + 372)])
  refine lv_astore_n (lv' := [(3, .ref (s.heap.size + 372)), (2, .ref (s.heap.size + 359)), (1, .ref (s.heap.size + 0)), (0, .ref b)]) hx hb dL_law_19 rfl hl (by decide) rfl (fun ls hl => ?_)
  refine lv_iconst (v := 0) hx hb dL_law_20 (by decide) ?_
  refine lv_istore (lv' := [(4, .int 0), (3, .ref (s.heap.size + 372)), (2, .ref (s.heap.size + 359)), (1, .ref (s.heap.size + 0)), (0, .ref b)]) hx hb dL_law_21 hl (by decide) rfl (fun ls hl => ?_)
  exact la_loop hPk hl0 C hL 512 0 (by omega) (by omega) la_h9 H5 locs4 ls la_I0 hP5 hS5 hl

/-! cases of the law: written by wip/p5/gen_law5.py -/
theorem la_case_12 (hPk : j_Pok WG vwCl la_RN jNW jP) {l : Launch} {p : Program} {e : Env} {s : State} {m : MethodId} {below : List Frame} {meth : Method} {c : Code} {bs L t : Nat} {xs : Nat → Int32} {D : va_G} {g : j_G} (C : la_C p s m meth c bs L xs D g) (ht : 6 * t + 6 ≤ L) (hL : L ≤ 3072) (nxt : la_B l p e s m below meth c bs D g (t + 1) 23) : la_B l p e s m below meth c bs D g t 620 := by
  intro h H locs ls hk hP hS hl
  have hx := C.1.1
  have hb := C.1.2.1
  have hc9 : 373 + t ≤ 601024 := by omega
  have ht9 : t < 512 := by omega
  have hs9 : 19204 + 6 * t ≤ 7293034 := by omega
  refine lv_aload_n hx hb dL_law_620 rfl (lv_at hl 3 rfl) ?_
  refine la_arg C ht hL (lv_at hl 4 rfl) (lv_at hl 0 rfl) hS dL_law_621 dL_law_622 dL_law_624 dL_law_625 dL_law_626 (k := 1) ⟨by decide, by decide⟩ ?_
  obtain ⟨f0, hf0⟩ := hk.h0
  refine la_vir hPk (st := [.int (xs (6 * t + 1)), .ref 0]) (As := [.ref 0, .int (xs (6 * t + 1))]) (rest := []) (N := (yX9_weak, cX9_weak, 4, (some .int), 1, false, 9)) C hl.1 dL_law_627 (j_Cchk_ok (own := R_law) (q := (71, 3, 124, [887, 888, 889])) (by decide +kernel)) rfl (j_spl3 hf0 rfl rfl rfl (Nat.zero_le _) (Nat.le_of_ble_eq_true rfl)) (la_q_weak (xs (6 * t + 1)) ht9 hk) (fun r h' z => z.elim fun v y => y.2.1.1) hc9 hs9 hP hS ?_
  rintro r h1 H1 locs1 ⟨v, rfl, s1, q1⟩ hP1 hS1
  clear hP hS
  have hS := hS1
  show W p l e room_1 s m #[Value.ref bs] below meth c H1 locs1 (373 + t) (19204 + 6 * t) _ (F0 m 630 ls [.int v])
  refine lv_pop hx hb dL_law_630 rfl ?_
  refine lv_aload_n hx hb dL_law_631 rfl (lv_at hl 2 rfl) ?_
  refine la_arg C ht hL (lv_at hl 4 rfl) (lv_at hl 0 rfl) hS dL_law_632 dL_law_633 dL_law_635 dL_law_636 dL_law_637 (k := 1) ⟨by decide, by decide⟩ ?_
  obtain ⟨f9, hf9⟩ := la_h359 hk s1
  refine la_vir hPk (st := [.int (xs (6 * t + 1)), .ref 359]) (As := [.ref 359, .int (xs (6 * t + 1))]) (rest := []) (N := (yX10_weak, cX10_weak, 4, (some .int), 1, false, 10)) C hl.1 dL_law_638 (j_Cchk_ok (own := R_law) (q := (74, 3, 250, [1706, 1707, 1708])) (by decide +kernel)) rfl (j_spl3 hf9 rfl rfl rfl (Nat.zero_le _) (Nat.le_of_ble_eq_true rfl)) q1 (fun r h' z => z.elim fun v y => y.2.2.1.1) hc9 hs9 hP1 hS ?_
  rintro r h2 H2 locs2 ⟨w, rfl, ew, s2, hk2⟩ hP2 hS2
  show W p l e room_1 s m #[Value.ref bs] below meth c H2 locs2 (373 + t) (19204 + 6 * t) _ (F0 m 641 ls [.int w])
  refine lv_pop hx hb dL_law_641 rfl ?_
  refine lv_goto (tgt := 1891) hx hb dL_law_642 (by decide) ?_
  exact la_end C nxt (by omega) (by omega) hk2 hP2 hS2 hl
theorem la_case_13 (hPk : j_Pok WG vwCl la_RN jNW jP) {l : Launch} {p : Program} {e : Env} {s : State} {m : MethodId} {below : List Frame} {meth : Method} {c : Code} {bs L t : Nat} {xs : Nat → Int32} {D : va_G} {g : j_G} (C : la_C p s m meth c bs L xs D g) (ht : 6 * t + 6 ≤ L) (hL : L ≤ 3072) (nxt : la_B l p e s m below meth c bs D g (t + 1) 23) : la_B l p e s m below meth c bs D g t 645 := by
  intro h H locs ls hk hP hS hl
  have hx := C.1.1
  have hb := C.1.2.1
  have hc9 : 373 + t ≤ 601024 := by omega
  have ht9 : t < 512 := by omega
  have hs9 : 19204 + 6 * t ≤ 7293034 := by omega
  refine lv_aload_n hx hb dL_law_645 rfl (lv_at hl 3 rfl) ?_
  refine la_arg C ht hL (lv_at hl 4 rfl) (lv_at hl 0 rfl) hS dL_law_646 dL_law_647 dL_law_649 dL_law_650 dL_law_651 (k := 1) ⟨by decide, by decide⟩ ?_
  refine la_arg C ht hL (lv_at hl 4 rfl) (lv_at hl 0 rfl) hS dL_law_652 dL_law_653 dL_law_655 dL_law_656 dL_law_657 (k := 2) ⟨by decide, by decide⟩ ?_
  obtain ⟨f0, hf0⟩ := hk.h0
  refine la_vir hPk (st := [.int (xs (6 * t + 2)), .int (xs (6 * t + 1)), .ref 0]) (As := [.ref 0, .int (xs (6 * t + 1)), .int (xs (6 * t + 2))]) (rest := []) (N := (yX9_links, cX9_links, 3, (some .int), 2, false, 9)) C hl.1 dL_law_658 (j_Cchk_ok (own := R_law) (q := (75, 3, 125, [896, 897, 898])) (by decide +kernel)) rfl (j_spl3 hf0 rfl rfl rfl (Nat.zero_le _) (Nat.le_of_ble_eq_true rfl)) (la_q_links (xs (6 * t + 1)) (xs (6 * t + 2)) ht9 hk) (fun r h' z => z.elim fun v y => y.2.1.1) hc9 hs9 hP hS ?_
  rintro r h1 H1 locs1 ⟨v, rfl, s1, q1⟩ hP1 hS1
  clear hP hS
  have hS := hS1
  show W p l e room_1 s m #[Value.ref bs] below meth c H1 locs1 (373 + t) (19204 + 6 * t) _ (F0 m 661 ls [.int v])
  refine lv_pop hx hb dL_law_661 rfl ?_
  refine lv_aload_n hx hb dL_law_662 rfl (lv_at hl 2 rfl) ?_
  refine la_arg C ht hL (lv_at hl 4 rfl) (lv_at hl 0 rfl) hS dL_law_663 dL_law_664 dL_law_666 dL_law_667 dL_law_668 (k := 1) ⟨by decide, by decide⟩ ?_
  refine la_arg C ht hL (lv_at hl 4 rfl) (lv_at hl 0 rfl) hS dL_law_669 dL_law_670 dL_law_672 dL_law_673 dL_law_674 (k := 2) ⟨by decide, by decide⟩ ?_
  obtain ⟨f9, hf9⟩ := la_h359 hk s1
  refine la_vir hPk (st := [.int (xs (6 * t + 2)), .int (xs (6 * t + 1)), .ref 359]) (As := [.ref 359, .int (xs (6 * t + 1)), .int (xs (6 * t + 2))]) (rest := []) (N := (yX10_links, cX10_links, 3, (some .int), 2, false, 10)) C hl.1 dL_law_675 (j_Cchk_ok (own := R_law) (q := (78, 3, 251, [1710, 1711, 1712])) (by decide +kernel)) rfl (j_spl3 hf9 rfl rfl rfl (Nat.zero_le _) (Nat.le_of_ble_eq_true rfl)) q1 (fun r h' z => z.elim fun v y => y.2.2.1.1) hc9 hs9 hP1 hS ?_
  rintro r h2 H2 locs2 ⟨w, rfl, ew, s2, hk2⟩ hP2 hS2
  show W p l e room_1 s m #[Value.ref bs] below meth c H2 locs2 (373 + t) (19204 + 6 * t) _ (F0 m 678 ls [.int w])
  refine lv_pop hx hb dL_law_678 rfl ?_
  refine lv_goto (tgt := 1891) hx hb dL_law_679 (by decide) ?_
  exact la_end C nxt (by omega) (by omega) hk2 hP2 hS2 hl
theorem la_case_14 (hPk : j_Pok WG vwCl la_RN jNW jP) {l : Launch} {p : Program} {e : Env} {s : State} {m : MethodId} {below : List Frame} {meth : Method} {c : Code} {bs L t : Nat} {xs : Nat → Int32} {D : va_G} {g : j_G} (C : la_C p s m meth c bs L xs D g) (ht : 6 * t + 6 ≤ L) (hL : L ≤ 3072) (nxt : la_B l p e s m below meth c bs D g (t + 1) 23) : la_B l p e s m below meth c bs D g t 682 := by
  intro h H locs ls hk hP hS hl
  have hx := C.1.1
  have hb := C.1.2.1
  have hc9 : 373 + t ≤ 601024 := by omega
  have ht9 : t < 512 := by omega
  have hs9 : 19204 + 6 * t ≤ 7293034 := by omega
  refine lv_aload_n hx hb dL_law_682 rfl (lv_at hl 3 rfl) ?_
  refine la_arg C ht hL (lv_at hl 4 rfl) (lv_at hl 0 rfl) hS dL_law_683 dL_law_684 dL_law_686 dL_law_687 dL_law_688 (k := 1) ⟨by decide, by decide⟩ ?_
  obtain ⟨f0, hf0⟩ := hk.h0
  refine la_vir hPk (st := [.int (xs (6 * t + 1)), .ref 0]) (As := [.ref 0, .int (xs (6 * t + 1))]) (rest := []) (N := (yX9_blocks, cX9_blocks, 2, (some .int), 1, false, 9)) C hl.1 dL_law_689 (j_Cchk_ok (own := R_law) (q := (79, 3, 126, [904, 905, 906])) (by decide +kernel)) rfl (j_spl3 hf0 rfl rfl rfl (Nat.zero_le _) (Nat.le_of_ble_eq_true rfl)) (la_q_blocks (xs (6 * t + 1)) ht9 hk) (fun r h' z => z.elim fun v y => y.2.1.1) hc9 hs9 hP hS ?_
  rintro r h1 H1 locs1 ⟨v, rfl, s1, q1⟩ hP1 hS1
  clear hP hS
  have hS := hS1
  show W p l e room_1 s m #[Value.ref bs] below meth c H1 locs1 (373 + t) (19204 + 6 * t) _ (F0 m 692 ls [.int v])
  refine lv_pop hx hb dL_law_692 rfl ?_
  refine lv_aload_n hx hb dL_law_693 rfl (lv_at hl 2 rfl) ?_
  refine la_arg C ht hL (lv_at hl 4 rfl) (lv_at hl 0 rfl) hS dL_law_694 dL_law_695 dL_law_697 dL_law_698 dL_law_699 (k := 1) ⟨by decide, by decide⟩ ?_
  obtain ⟨f9, hf9⟩ := la_h359 hk s1
  refine la_vir hPk (st := [.int (xs (6 * t + 1)), .ref 359]) (As := [.ref 359, .int (xs (6 * t + 1))]) (rest := []) (N := (yX10_blocks, cX10_blocks, 2, (some .int), 1, false, 10)) C hl.1 dL_law_700 (j_Cchk_ok (own := R_law) (q := (82, 3, 245, [1678, 1679, 1680])) (by decide +kernel)) rfl (j_spl3 hf9 rfl rfl rfl (Nat.zero_le _) (Nat.le_of_ble_eq_true rfl)) q1 (fun r h' z => z.elim fun v y => y.2.2.1.1) hc9 hs9 hP1 hS ?_
  rintro r h2 H2 locs2 ⟨w, rfl, ew, s2, hk2⟩ hP2 hS2
  show W p l e room_1 s m #[Value.ref bs] below meth c H2 locs2 (373 + t) (19204 + 6 * t) _ (F0 m 703 ls [.int w])
  refine lv_pop hx hb dL_law_703 rfl ?_
  refine lv_goto (tgt := 1891) hx hb dL_law_704 (by decide) ?_
  exact la_end C nxt (by omega) (by omega) hk2 hP2 hS2 hl
theorem la_case_15 (hPk : j_Pok WG vwCl la_RN jNW jP) {l : Launch} {p : Program} {e : Env} {s : State} {m : MethodId} {below : List Frame} {meth : Method} {c : Code} {bs L t : Nat} {xs : Nat → Int32} {D : va_G} {g : j_G} (C : la_C p s m meth c bs L xs D g) (ht : 6 * t + 6 ≤ L) (hL : L ≤ 3072) (nxt : la_B l p e s m below meth c bs D g (t + 1) 23) : la_B l p e s m below meth c bs D g t 707 := by
  intro h H locs ls hk hP hS hl
  have hx := C.1.1
  have hb := C.1.2.1
  have hc9 : 373 + t ≤ 601024 := by omega
  have ht9 : t < 512 := by omega
  have hs9 : 19204 + 6 * t ≤ 7293034 := by omega
  refine lv_aload_n hx hb dL_law_707 rfl (lv_at hl 3 rfl) ?_
  obtain ⟨f0, hf0⟩ := hk.h0
  refine la_vir hPk (st := [.ref 0]) (As := [.ref 0]) (rest := []) (N := (yX9_ring, cX9_ring, 3, (some .int), 0, false, 9)) C hl.1 dL_law_708 (j_Cchk_ok (own := R_law) (q := (83, 3, 127, [914, 915, 916])) (by decide +kernel)) rfl (j_spl3 hf0 rfl rfl rfl (Nat.zero_le _) (Nat.le_of_ble_eq_true rfl)) (la_q_ring  ht9 hk) (fun r h' z => z.elim fun v y => y.2.1.1) hc9 hs9 hP hS ?_
  rintro r h1 H1 locs1 ⟨v, rfl, s1, q1⟩ hP1 hS1
  clear hP hS
  have hS := hS1
  show W p l e room_1 s m #[Value.ref bs] below meth c H1 locs1 (373 + t) (19204 + 6 * t) _ (F0 m 711 ls [.int v])
  refine lv_pop hx hb dL_law_711 rfl ?_
  refine lv_aload_n hx hb dL_law_712 rfl (lv_at hl 2 rfl) ?_
  obtain ⟨f9, hf9⟩ := la_h359 hk s1
  refine la_vir hPk (st := [.ref 359]) (As := [.ref 359]) (rest := []) (N := (yX10_ring, cX10_ring, 6, (some .int), 0, false, 10)) C hl.1 dL_law_713 (j_Cchk_ok (own := R_law) (q := (86, 3, 246, [1686, 1687, 1688])) (by decide +kernel)) rfl (j_spl3 hf9 rfl rfl rfl (Nat.zero_le _) (Nat.le_of_ble_eq_true rfl)) q1 (fun r h' z => z.elim fun v y => y.2.2.1.1) hc9 hs9 hP1 hS ?_
  rintro r h2 H2 locs2 ⟨w, rfl, ew, s2, hk2⟩ hP2 hS2
  show W p l e room_1 s m #[Value.ref bs] below meth c H2 locs2 (373 + t) (19204 + 6 * t) _ (F0 m 716 ls [.int w])
  refine lv_pop hx hb dL_law_716 rfl ?_
  refine lv_goto (tgt := 1891) hx hb dL_law_717 (by decide) ?_
  exact la_end C nxt (by omega) (by omega) hk2 hP2 hS2 hl
theorem la_case_16 (hPk : j_Pok WG vwCl la_RN jNW jP) {l : Launch} {p : Program} {e : Env} {s : State} {m : MethodId} {below : List Frame} {meth : Method} {c : Code} {bs L t : Nat} {xs : Nat → Int32} {D : va_G} {g : j_G} (C : la_C p s m meth c bs L xs D g) (ht : 6 * t + 6 ≤ L) (hL : L ≤ 3072) (nxt : la_B l p e s m below meth c bs D g (t + 1) 23) : la_B l p e s m below meth c bs D g t 720 := by
  intro h H locs ls hk hP hS hl
  have hx := C.1.1
  have hb := C.1.2.1
  have hc9 : 373 + t ≤ 601024 := by omega
  have ht9 : t < 512 := by omega
  have hs9 : 19204 + 6 * t ≤ 7293034 := by omega
  refine lv_aload_n hx hb dL_law_720 rfl (lv_at hl 3 rfl) ?_
  refine la_arg C ht hL (lv_at hl 4 rfl) (lv_at hl 0 rfl) hS dL_law_721 dL_law_722 dL_law_724 dL_law_725 dL_law_726 (k := 1) ⟨by decide, by decide⟩ ?_
  obtain ⟨f0, hf0⟩ := hk.h0
  refine la_vir hPk (st := [.int (xs (6 * t + 1)), .ref 0]) (As := [.ref 0, .int (xs (6 * t + 1))]) (rest := []) (N := (yX9_section, cX9_section, 2, (some .int), 1, false, 9)) C hl.1 dL_law_727 (j_Cchk_ok (own := R_law) (q := (87, 3, 128, [923, 924, 925])) (by decide +kernel)) rfl (j_spl3 hf0 rfl rfl rfl (Nat.zero_le _) (Nat.le_of_ble_eq_true rfl)) (la_q_section (xs (6 * t + 1)) ht9 hk) (fun r h' z => z.elim fun v y => y.2.1.1) hc9 hs9 hP hS ?_
  rintro r h1 H1 locs1 ⟨v, rfl, s1, q1⟩ hP1 hS1
  clear hP hS
  have hS := hS1
  show W p l e room_1 s m #[Value.ref bs] below meth c H1 locs1 (373 + t) (19204 + 6 * t) _ (F0 m 730 ls [.int v])
  refine lv_pop hx hb dL_law_730 rfl ?_
  refine lv_aload_n hx hb dL_law_731 rfl (lv_at hl 2 rfl) ?_
  refine la_arg C ht hL (lv_at hl 4 rfl) (lv_at hl 0 rfl) hS dL_law_732 dL_law_733 dL_law_735 dL_law_736 dL_law_737 (k := 1) ⟨by decide, by decide⟩ ?_
  obtain ⟨f9, hf9⟩ := la_h359 hk s1
  refine la_vir hPk (st := [.int (xs (6 * t + 1)), .ref 359]) (As := [.ref 359, .int (xs (6 * t + 1))]) (rest := []) (N := (yX10_section, cX10_section, 3, (some .int), 1, false, 10)) C hl.1 dL_law_738 (j_Cchk_ok (own := R_law) (q := (90, 3, 247, [1690, 1691, 1692])) (by decide +kernel)) rfl (j_spl3 hf9 rfl rfl rfl (Nat.zero_le _) (Nat.le_of_ble_eq_true rfl)) q1 (fun r h' z => z.elim fun v y => y.2.2.1.1) hc9 hs9 hP1 hS ?_
  rintro r h2 H2 locs2 ⟨w, rfl, ew, s2, hk2⟩ hP2 hS2
  show W p l e room_1 s m #[Value.ref bs] below meth c H2 locs2 (373 + t) (19204 + 6 * t) _ (F0 m 741 ls [.int w])
  refine lv_pop hx hb dL_law_741 rfl ?_
  refine lv_goto (tgt := 1891) hx hb dL_law_742 (by decide) ?_
  exact la_end C nxt (by omega) (by omega) hk2 hP2 hS2 hl
theorem la_case_17 (hPk : j_Pok WG vwCl la_RN jNW jP) {l : Launch} {p : Program} {e : Env} {s : State} {m : MethodId} {below : List Frame} {meth : Method} {c : Code} {bs L t : Nat} {xs : Nat → Int32} {D : va_G} {g : j_G} (C : la_C p s m meth c bs L xs D g) (ht : 6 * t + 6 ≤ L) (hL : L ≤ 3072) (nxt : la_B l p e s m below meth c bs D g (t + 1) 23) : la_B l p e s m below meth c bs D g t 745 := by
  intro h H locs ls hk hP hS hl
  have hx := C.1.1
  have hb := C.1.2.1
  have hc9 : 373 + t ≤ 601024 := by omega
  have ht9 : t < 512 := by omega
  have hs9 : 19204 + 6 * t ≤ 7293034 := by omega
  refine lv_aload_n hx hb dL_law_745 rfl (lv_at hl 3 rfl) ?_
  refine la_arg C ht hL (lv_at hl 4 rfl) (lv_at hl 0 rfl) hS dL_law_746 dL_law_747 dL_law_749 dL_law_750 dL_law_751 (k := 1) ⟨by decide, by decide⟩ ?_
  refine la_arg C ht hL (lv_at hl 4 rfl) (lv_at hl 0 rfl) hS dL_law_752 dL_law_753 dL_law_755 dL_law_756 dL_law_757 (k := 2) ⟨by decide, by decide⟩ ?_
  refine la_bool C ht hL (lv_at hl 4 rfl) (lv_at hl 0 rfl) hS dL_law_758 dL_law_759 dL_law_761 dL_law_762 dL_law_763 dL_law_764 dL_law_767 dL_law_768 dL_law_771 (k := 3) ⟨by decide, by decide⟩ ?_
  obtain ⟨f0, hf0⟩ := hk.h0
  refine la_vir hPk (st := [.int (i_b (!(decide (xs (6 * t + 3) = 0)))), .int (xs (6 * t + 2)), .int (xs (6 * t + 1)), .ref 0]) (As := [.ref 0, .int (xs (6 * t + 1)), .int (xs (6 * t + 2)), .int (i_b (!(decide (xs (6 * t + 3) = 0))))]) (rest := []) (N := (yX9_time, cX9_time, 5, (some .int), 3, false, 9)) C hl.1 dL_law_772 (j_Cchk_ok (own := R_law) (q := (91, 3, 129, [931, 932, 933])) (by decide +kernel)) rfl (j_spl3 hf0 rfl rfl rfl (Nat.zero_le _) (Nat.le_of_ble_eq_true rfl)) (la_q_time (xs (6 * t + 1)) (xs (6 * t + 2)) (!(decide (xs (6 * t + 3) = 0))) ht9 hk) (fun r h' z => z.elim fun v y => y.2.1.1) hc9 hs9 hP hS ?_
  rintro r h1 H1 locs1 ⟨v, rfl, s1, q1⟩ hP1 hS1
  clear hP hS
  have hS := hS1
  show W p l e room_1 s m #[Value.ref bs] below meth c H1 locs1 (373 + t) (19204 + 6 * t) _ (F0 m 775 ls [.int v])
  refine lv_pop hx hb dL_law_775 rfl ?_
  refine lv_aload_n hx hb dL_law_776 rfl (lv_at hl 2 rfl) ?_
  refine la_arg C ht hL (lv_at hl 4 rfl) (lv_at hl 0 rfl) hS dL_law_777 dL_law_778 dL_law_780 dL_law_781 dL_law_782 (k := 1) ⟨by decide, by decide⟩ ?_
  refine la_arg C ht hL (lv_at hl 4 rfl) (lv_at hl 0 rfl) hS dL_law_783 dL_law_784 dL_law_786 dL_law_787 dL_law_788 (k := 2) ⟨by decide, by decide⟩ ?_
  refine la_bool C ht hL (lv_at hl 4 rfl) (lv_at hl 0 rfl) hS dL_law_789 dL_law_790 dL_law_792 dL_law_793 dL_law_794 dL_law_795 dL_law_798 dL_law_799 dL_law_802 (k := 3) ⟨by decide, by decide⟩ ?_
  obtain ⟨f9, hf9⟩ := la_h359 hk s1
  refine la_vir hPk (st := [.int (i_b (!(decide (xs (6 * t + 3) = 0)))), .int (xs (6 * t + 2)), .int (xs (6 * t + 1)), .ref 359]) (As := [.ref 359, .int (xs (6 * t + 1)), .int (xs (6 * t + 2)), .int (i_b (!(decide (xs (6 * t + 3) = 0))))]) (rest := []) (N := (yX10_time, cX10_time, 5, (some .int), 3, false, 10)) C hl.1 dL_law_803 (j_Cchk_ok (own := R_law) (q := (95, 3, 252, [1722, 1723, 1724])) (by decide +kernel)) rfl (j_spl3 hf9 rfl rfl rfl (Nat.zero_le _) (Nat.le_of_ble_eq_true rfl)) q1 (fun r h' z => z.elim fun v y => y.2.2.1.1) hc9 hs9 hP1 hS ?_
  rintro r h2 H2 locs2 ⟨w, rfl, ew, s2, hk2⟩ hP2 hS2
  show W p l e room_1 s m #[Value.ref bs] below meth c H2 locs2 (373 + t) (19204 + 6 * t) _ (F0 m 806 ls [.int w])
  refine lv_pop hx hb dL_law_806 rfl ?_
  refine lv_goto (tgt := 1891) hx hb dL_law_807 (by decide) ?_
  exact la_end C nxt (by omega) (by omega) hk2 hP2 hS2 hl
theorem la_case_18 (hPk : j_Pok WG vwCl la_RN jNW jP) {l : Launch} {p : Program} {e : Env} {s : State} {m : MethodId} {below : List Frame} {meth : Method} {c : Code} {bs L t : Nat} {xs : Nat → Int32} {D : va_G} {g : j_G} (C : la_C p s m meth c bs L xs D g) (ht : 6 * t + 6 ≤ L) (hL : L ≤ 3072) (nxt : la_B l p e s m below meth c bs D g (t + 1) 23) : la_B l p e s m below meth c bs D g t 810 := by
  intro h H locs ls hk hP hS hl
  have hx := C.1.1
  have hb := C.1.2.1
  have hc9 : 373 + t ≤ 601024 := by omega
  have ht9 : t < 512 := by omega
  have hs9 : 19204 + 6 * t ≤ 7293034 := by omega
  refine lv_aload_n hx hb dL_law_810 rfl (lv_at hl 3 rfl) ?_
  refine la_arg C ht hL (lv_at hl 4 rfl) (lv_at hl 0 rfl) hS dL_law_811 dL_law_812 dL_law_814 dL_law_815 dL_law_816 (k := 1) ⟨by decide, by decide⟩ ?_
  refine la_arg C ht hL (lv_at hl 4 rfl) (lv_at hl 0 rfl) hS dL_law_817 dL_law_818 dL_law_820 dL_law_821 dL_law_822 (k := 2) ⟨by decide, by decide⟩ ?_
  refine la_bool C ht hL (lv_at hl 4 rfl) (lv_at hl 0 rfl) hS dL_law_823 dL_law_824 dL_law_826 dL_law_827 dL_law_828 dL_law_829 dL_law_832 dL_law_833 dL_law_836 (k := 3) ⟨by decide, by decide⟩ ?_
  obtain ⟨f0, hf0⟩ := hk.h0
  refine la_vir hPk (st := [.int (i_b (!(decide (xs (6 * t + 3) = 0)))), .int (xs (6 * t + 2)), .int (xs (6 * t + 1)), .ref 0]) (As := [.ref 0, .int (xs (6 * t + 1)), .int (xs (6 * t + 2)), .int (i_b (!(decide (xs (6 * t + 3) = 0))))]) (rest := []) (N := (yX9_together, cX9_together, 5, (some .int), 3, false, 9)) C hl.1 dL_law_837 (j_Cchk_ok (own := R_law) (q := (96, 3, 130, [935, 936, 937])) (by decide +kernel)) rfl (j_spl3 hf0 rfl rfl rfl (Nat.zero_le _) (Nat.le_of_ble_eq_true rfl)) (la_q_together (xs (6 * t + 1)) (xs (6 * t + 2)) (!(decide (xs (6 * t + 3) = 0))) ht9 hk) (fun r h' z => z.elim fun v y => y.2.1.1) hc9 hs9 hP hS ?_
  rintro r h1 H1 locs1 ⟨v, rfl, s1, q1⟩ hP1 hS1
  clear hP hS
  have hS := hS1
  show W p l e room_1 s m #[Value.ref bs] below meth c H1 locs1 (373 + t) (19204 + 6 * t) _ (F0 m 840 ls [.int v])
  refine lv_pop hx hb dL_law_840 rfl ?_
  refine lv_aload_n hx hb dL_law_841 rfl (lv_at hl 2 rfl) ?_
  refine la_arg C ht hL (lv_at hl 4 rfl) (lv_at hl 0 rfl) hS dL_law_842 dL_law_843 dL_law_845 dL_law_846 dL_law_847 (k := 1) ⟨by decide, by decide⟩ ?_
  refine la_arg C ht hL (lv_at hl 4 rfl) (lv_at hl 0 rfl) hS dL_law_848 dL_law_849 dL_law_851 dL_law_852 dL_law_853 (k := 2) ⟨by decide, by decide⟩ ?_
  refine la_bool C ht hL (lv_at hl 4 rfl) (lv_at hl 0 rfl) hS dL_law_854 dL_law_855 dL_law_857 dL_law_858 dL_law_859 dL_law_860 dL_law_863 dL_law_864 dL_law_867 (k := 3) ⟨by decide, by decide⟩ ?_
  obtain ⟨f9, hf9⟩ := la_h359 hk s1
  refine la_vir hPk (st := [.int (i_b (!(decide (xs (6 * t + 3) = 0)))), .int (xs (6 * t + 2)), .int (xs (6 * t + 1)), .ref 359]) (As := [.ref 359, .int (xs (6 * t + 1)), .int (xs (6 * t + 2)), .int (i_b (!(decide (xs (6 * t + 3) = 0))))]) (rest := []) (N := (yX10_together, cX10_together, 5, (some .int), 3, false, 10)) C hl.1 dL_law_868 (j_Cchk_ok (own := R_law) (q := (99, 3, 253, [1726, 1727, 1728])) (by decide +kernel)) rfl (j_spl3 hf9 rfl rfl rfl (Nat.zero_le _) (Nat.le_of_ble_eq_true rfl)) q1 (fun r h' z => z.elim fun v y => y.2.2.1.1) hc9 hs9 hP1 hS ?_
  rintro r h2 H2 locs2 ⟨w, rfl, ew, s2, hk2⟩ hP2 hS2
  show W p l e room_1 s m #[Value.ref bs] below meth c H2 locs2 (373 + t) (19204 + 6 * t) _ (F0 m 871 ls [.int w])
  refine lv_pop hx hb dL_law_871 rfl ?_
  refine lv_goto (tgt := 1891) hx hb dL_law_872 (by decide) ?_
  exact la_end C nxt (by omega) (by omega) hk2 hP2 hS2 hl
theorem la_case_19 (hPk : j_Pok WG vwCl la_RN jNW jP) {l : Launch} {p : Program} {e : Env} {s : State} {m : MethodId} {below : List Frame} {meth : Method} {c : Code} {bs L t : Nat} {xs : Nat → Int32} {D : va_G} {g : j_G} (C : la_C p s m meth c bs L xs D g) (ht : 6 * t + 6 ≤ L) (hL : L ≤ 3072) (nxt : la_B l p e s m below meth c bs D g (t + 1) 23) : la_B l p e s m below meth c bs D g t 875 := by
  intro h H locs ls hk hP hS hl
  have hx := C.1.1
  have hb := C.1.2.1
  have hc9 : 373 + t ≤ 601024 := by omega
  have ht9 : t < 512 := by omega
  have hs9 : 19204 + 6 * t ≤ 7293034 := by omega
  refine lv_aload_n hx hb dL_law_875 rfl (lv_at hl 3 rfl) ?_
  refine la_arg C ht hL (lv_at hl 4 rfl) (lv_at hl 0 rfl) hS dL_law_876 dL_law_877 dL_law_879 dL_law_880 dL_law_881 (k := 1) ⟨by decide, by decide⟩ ?_
  refine la_arg C ht hL (lv_at hl 4 rfl) (lv_at hl 0 rfl) hS dL_law_882 dL_law_883 dL_law_885 dL_law_886 dL_law_887 (k := 2) ⟨by decide, by decide⟩ ?_
  obtain ⟨f0, hf0⟩ := hk.h0
  refine la_vir hPk (st := [.int (xs (6 * t + 2)), .int (xs (6 * t + 1)), .ref 0]) (As := [.ref 0, .int (xs (6 * t + 1)), .int (xs (6 * t + 2))]) (rest := []) (N := (yX9_passes, cX9_passes, 3, (some .int), 2, false, 9)) C hl.1 dL_law_888 (j_Cchk_ok (own := R_law) (q := (100, 3, 131, [939, 940, 941])) (by decide +kernel)) rfl (j_spl3 hf0 rfl rfl rfl (Nat.zero_le _) (Nat.le_of_ble_eq_true rfl)) (la_q_passes (xs (6 * t + 1)) (xs (6 * t + 2)) ht9 hk) (fun r h' z => z.elim fun v y => y.2.1.1) hc9 hs9 hP hS ?_
  rintro r h1 H1 locs1 ⟨v, rfl, s1, q1⟩ hP1 hS1
  clear hP hS
  have hS := hS1
  show W p l e room_1 s m #[Value.ref bs] below meth c H1 locs1 (373 + t) (19204 + 6 * t) _ (F0 m 891 ls [.int v])
  refine lv_pop hx hb dL_law_891 rfl ?_
  refine lv_aload_n hx hb dL_law_892 rfl (lv_at hl 2 rfl) ?_
  refine la_arg C ht hL (lv_at hl 4 rfl) (lv_at hl 0 rfl) hS dL_law_893 dL_law_894 dL_law_896 dL_law_897 dL_law_898 (k := 1) ⟨by decide, by decide⟩ ?_
  refine la_arg C ht hL (lv_at hl 4 rfl) (lv_at hl 0 rfl) hS dL_law_899 dL_law_900 dL_law_902 dL_law_903 dL_law_904 (k := 2) ⟨by decide, by decide⟩ ?_
  obtain ⟨f9, hf9⟩ := la_h359 hk s1
  refine la_vir hPk (st := [.int (xs (6 * t + 2)), .int (xs (6 * t + 1)), .ref 359]) (As := [.ref 359, .int (xs (6 * t + 1)), .int (xs (6 * t + 2))]) (rest := []) (N := (yX10_passes, cX10_passes, 5, (some .int), 2, false, 10)) C hl.1 dL_law_905 (j_Cchk_ok (own := R_law) (q := (103, 3, 254, [1730, 1731, 1732])) (by decide +kernel)) rfl (j_spl3 hf9 rfl rfl rfl (Nat.zero_le _) (Nat.le_of_ble_eq_true rfl)) q1 (fun r h' z => z.elim fun v y => y.2.2.1.1) hc9 hs9 hP1 hS ?_
  rintro r h2 H2 locs2 ⟨w, rfl, ew, s2, hk2⟩ hP2 hS2
  show W p l e room_1 s m #[Value.ref bs] below meth c H2 locs2 (373 + t) (19204 + 6 * t) _ (F0 m 908 ls [.int w])
  refine lv_pop hx hb dL_law_908 rfl ?_
  refine lv_goto (tgt := 1891) hx hb dL_law_909 (by decide) ?_
  exact la_end C nxt (by omega) (by omega) hk2 hP2 hS2 hl
theorem la_case_20 (hPk : j_Pok WG vwCl la_RN jNW jP) {l : Launch} {p : Program} {e : Env} {s : State} {m : MethodId} {below : List Frame} {meth : Method} {c : Code} {bs L t : Nat} {xs : Nat → Int32} {D : va_G} {g : j_G} (C : la_C p s m meth c bs L xs D g) (ht : 6 * t + 6 ≤ L) (hL : L ≤ 3072) (nxt : la_B l p e s m below meth c bs D g (t + 1) 23) : la_B l p e s m below meth c bs D g t 912 := by
  intro h H locs ls hk hP hS hl
  have hx := C.1.1
  have hb := C.1.2.1
  have hc9 : 373 + t ≤ 601024 := by omega
  have ht9 : t < 512 := by omega
  have hs9 : 19204 + 6 * t ≤ 7293034 := by omega
  refine lv_aload_n hx hb dL_law_912 rfl (lv_at hl 3 rfl) ?_
  refine la_arg C ht hL (lv_at hl 4 rfl) (lv_at hl 0 rfl) hS dL_law_913 dL_law_914 dL_law_916 dL_law_917 dL_law_918 (k := 1) ⟨by decide, by decide⟩ ?_
  obtain ⟨f0, hf0⟩ := hk.h0
  refine la_vir hPk (st := [.int (xs (6 * t + 1)), .ref 0]) (As := [.ref 0, .int (xs (6 * t + 1))]) (rest := []) (N := (yX9_stood, cX9_stood, 2, (some .int), 1, false, 9)) C hl.1 dL_law_919 (j_Cchk_ok (own := R_law) (q := (104, 3, 132, [943, 944, 945])) (by decide +kernel)) rfl (j_spl3 hf0 rfl rfl rfl (Nat.zero_le _) (Nat.le_of_ble_eq_true rfl)) (la_q_stood (xs (6 * t + 1)) ht9 hk) (fun r h' z => z.elim fun v y => y.2.1.1) hc9 hs9 hP hS ?_
  rintro r h1 H1 locs1 ⟨v, rfl, s1, q1⟩ hP1 hS1
  clear hP hS
  have hS := hS1
  show W p l e room_1 s m #[Value.ref bs] below meth c H1 locs1 (373 + t) (19204 + 6 * t) _ (F0 m 922 ls [.int v])
  refine lv_pop hx hb dL_law_922 rfl ?_
  refine lv_aload_n hx hb dL_law_923 rfl (lv_at hl 2 rfl) ?_
  refine la_arg C ht hL (lv_at hl 4 rfl) (lv_at hl 0 rfl) hS dL_law_924 dL_law_925 dL_law_927 dL_law_928 dL_law_929 (k := 1) ⟨by decide, by decide⟩ ?_
  obtain ⟨f9, hf9⟩ := la_h359 hk s1
  refine la_vir hPk (st := [.int (xs (6 * t + 1)), .ref 359]) (As := [.ref 359, .int (xs (6 * t + 1))]) (rest := []) (N := (yX10_stood, cX10_stood, 2, (some .int), 1, false, 10)) C hl.1 dL_law_930 (j_Cchk_ok (own := R_law) (q := (107, 3, 255, [1734, 1735, 1736])) (by decide +kernel)) rfl (j_spl3 hf9 rfl rfl rfl (Nat.zero_le _) (Nat.le_of_ble_eq_true rfl)) q1 (fun r h' z => z.elim fun v y => y.2.2.1.1) hc9 hs9 hP1 hS ?_
  rintro r h2 H2 locs2 ⟨w, rfl, ew, s2, hk2⟩ hP2 hS2
  show W p l e room_1 s m #[Value.ref bs] below meth c H2 locs2 (373 + t) (19204 + 6 * t) _ (F0 m 933 ls [.int w])
  refine lv_pop hx hb dL_law_933 rfl ?_
  refine lv_goto (tgt := 1891) hx hb dL_law_934 (by decide) ?_
  exact la_end C nxt (by omega) (by omega) hk2 hP2 hS2 hl
theorem la_case_21 (hPk : j_Pok WG vwCl la_RN jNW jP) {l : Launch} {p : Program} {e : Env} {s : State} {m : MethodId} {below : List Frame} {meth : Method} {c : Code} {bs L t : Nat} {xs : Nat → Int32} {D : va_G} {g : j_G} (C : la_C p s m meth c bs L xs D g) (ht : 6 * t + 6 ≤ L) (hL : L ≤ 3072) (nxt : la_B l p e s m below meth c bs D g (t + 1) 23) : la_B l p e s m below meth c bs D g t 937 := by
  intro h H locs ls hk hP hS hl
  have hx := C.1.1
  have hb := C.1.2.1
  have hc9 : 373 + t ≤ 601024 := by omega
  have ht9 : t < 512 := by omega
  have hs9 : 19204 + 6 * t ≤ 7293034 := by omega
  refine lv_aload_n hx hb dL_law_937 rfl (lv_at hl 3 rfl) ?_
  refine la_arg C ht hL (lv_at hl 4 rfl) (lv_at hl 0 rfl) hS dL_law_938 dL_law_939 dL_law_941 dL_law_942 dL_law_943 (k := 1) ⟨by decide, by decide⟩ ?_
  refine la_arg C ht hL (lv_at hl 4 rfl) (lv_at hl 0 rfl) hS dL_law_944 dL_law_945 dL_law_947 dL_law_948 dL_law_949 (k := 2) ⟨by decide, by decide⟩ ?_
  obtain ⟨f0, hf0⟩ := hk.h0
  refine la_vir hPk (st := [.int (xs (6 * t + 2)), .int (xs (6 * t + 1)), .ref 0]) (As := [.ref 0, .int (xs (6 * t + 1)), .int (xs (6 * t + 2))]) (rest := []) (N := (yX9_late, cX9_late, 5, (some .int), 2, false, 9)) C hl.1 dL_law_950 (j_Cchk_ok (own := R_law) (q := (108, 3, 133, [947, 948, 949])) (by decide +kernel)) rfl (j_spl3 hf0 rfl rfl rfl (Nat.zero_le _) (Nat.le_of_ble_eq_true rfl)) (la_q_late (xs (6 * t + 1)) (xs (6 * t + 2)) ht9 hk) (fun r h' z => z.elim fun v y => y.2.1.1) hc9 hs9 hP hS ?_
  rintro r h1 H1 locs1 ⟨v, rfl, s1, q1⟩ hP1 hS1
  clear hP hS
  have hS := hS1
  show W p l e room_1 s m #[Value.ref bs] below meth c H1 locs1 (373 + t) (19204 + 6 * t) _ (F0 m 953 ls [.int v])
  refine lv_pop hx hb dL_law_953 rfl ?_
  refine lv_aload_n hx hb dL_law_954 rfl (lv_at hl 2 rfl) ?_
  refine la_arg C ht hL (lv_at hl 4 rfl) (lv_at hl 0 rfl) hS dL_law_955 dL_law_956 dL_law_958 dL_law_959 dL_law_960 (k := 1) ⟨by decide, by decide⟩ ?_
  refine la_arg C ht hL (lv_at hl 4 rfl) (lv_at hl 0 rfl) hS dL_law_961 dL_law_962 dL_law_964 dL_law_965 dL_law_966 (k := 2) ⟨by decide, by decide⟩ ?_
  obtain ⟨f9, hf9⟩ := la_h359 hk s1
  refine la_vir hPk (st := [.int (xs (6 * t + 2)), .int (xs (6 * t + 1)), .ref 359]) (As := [.ref 359, .int (xs (6 * t + 1)), .int (xs (6 * t + 2))]) (rest := []) (N := (yX10_late, cX10_late, 6, (some .int), 2, false, 10)) C hl.1 dL_law_967 (j_Cchk_ok (own := R_law) (q := (111, 3, 256, [1738, 1739, 1740])) (by decide +kernel)) rfl (j_spl3 hf9 rfl rfl rfl (Nat.zero_le _) (Nat.le_of_ble_eq_true rfl)) q1 (fun r h' z => z.elim fun v y => y.2.2.1.1) hc9 hs9 hP1 hS ?_
  rintro r h2 H2 locs2 ⟨w, rfl, ew, s2, hk2⟩ hP2 hS2
  show W p l e room_1 s m #[Value.ref bs] below meth c H2 locs2 (373 + t) (19204 + 6 * t) _ (F0 m 970 ls [.int w])
  refine lv_pop hx hb dL_law_970 rfl ?_
  refine lv_goto (tgt := 1891) hx hb dL_law_971 (by decide) ?_
  exact la_end C nxt (by omega) (by omega) hk2 hP2 hS2 hl
theorem la_case_22 (hPk : j_Pok WG vwCl la_RN jNW jP) {l : Launch} {p : Program} {e : Env} {s : State} {m : MethodId} {below : List Frame} {meth : Method} {c : Code} {bs L t : Nat} {xs : Nat → Int32} {D : va_G} {g : j_G} (C : la_C p s m meth c bs L xs D g) (ht : 6 * t + 6 ≤ L) (hL : L ≤ 3072) (nxt : la_B l p e s m below meth c bs D g (t + 1) 23) : la_B l p e s m below meth c bs D g t 974 := by
  intro h H locs ls hk hP hS hl
  have hx := C.1.1
  have hb := C.1.2.1
  have hc9 : 373 + t ≤ 601024 := by omega
  have ht9 : t < 512 := by omega
  have hs9 : 19204 + 6 * t ≤ 7293034 := by omega
  refine lv_aload_n hx hb dL_law_974 rfl (lv_at hl 3 rfl) ?_
  refine la_arg C ht hL (lv_at hl 4 rfl) (lv_at hl 0 rfl) hS dL_law_975 dL_law_976 dL_law_978 dL_law_979 dL_law_980 (k := 1) ⟨by decide, by decide⟩ ?_
  refine la_arg C ht hL (lv_at hl 4 rfl) (lv_at hl 0 rfl) hS dL_law_981 dL_law_982 dL_law_984 dL_law_985 dL_law_986 (k := 2) ⟨by decide, by decide⟩ ?_
  obtain ⟨f0, hf0⟩ := hk.h0
  refine la_vir hPk (st := [.int (xs (6 * t + 2)), .int (xs (6 * t + 1)), .ref 0]) (As := [.ref 0, .int (xs (6 * t + 1)), .int (xs (6 * t + 2))]) (rest := []) (N := (yX9_event, cX9_event, 3, (some .int), 2, false, 9)) C hl.1 dL_law_987 (j_Cchk_ok (own := R_law) (q := (112, 3, 134, [952, 953, 954])) (by decide +kernel)) rfl (j_spl3 hf0 rfl rfl rfl (Nat.zero_le _) (Nat.le_of_ble_eq_true rfl)) (la_q_event (xs (6 * t + 1)) (xs (6 * t + 2)) ht9 hk) (fun r h' z => z.elim fun v y => y.2.1.1) hc9 hs9 hP hS ?_
  rintro r h1 H1 locs1 ⟨v, rfl, s1, q1⟩ hP1 hS1
  clear hP hS
  have hS := hS1
  show W p l e room_1 s m #[Value.ref bs] below meth c H1 locs1 (373 + t) (19204 + 6 * t) _ (F0 m 990 ls [.int v])
  refine lv_pop hx hb dL_law_990 rfl ?_
  refine lv_aload_n hx hb dL_law_991 rfl (lv_at hl 2 rfl) ?_
  refine la_arg C ht hL (lv_at hl 4 rfl) (lv_at hl 0 rfl) hS dL_law_992 dL_law_993 dL_law_995 dL_law_996 dL_law_997 (k := 1) ⟨by decide, by decide⟩ ?_
  refine la_arg C ht hL (lv_at hl 4 rfl) (lv_at hl 0 rfl) hS dL_law_998 dL_law_999 dL_law_1001 dL_law_1002 dL_law_1003 (k := 2) ⟨by decide, by decide⟩ ?_
  obtain ⟨f9, hf9⟩ := la_h359 hk s1
  refine la_vir hPk (st := [.int (xs (6 * t + 2)), .int (xs (6 * t + 1)), .ref 359]) (As := [.ref 359, .int (xs (6 * t + 1)), .int (xs (6 * t + 2))]) (rest := []) (N := (yX10_event_, cX10_event_, 3, (some .int), 2, false, 10)) C hl.1 dL_law_1004 (j_Cchk_ok (own := R_law) (q := (115, 3, 257, [1742, 1743, 1744])) (by decide +kernel)) rfl (j_spl3 hf9 rfl rfl rfl (Nat.zero_le _) (Nat.le_of_ble_eq_true rfl)) q1 (fun r h' z => z.elim fun v y => y.2.2.1.1) hc9 hs9 hP1 hS ?_
  rintro r h2 H2 locs2 ⟨w, rfl, ew, s2, hk2⟩ hP2 hS2
  show W p l e room_1 s m #[Value.ref bs] below meth c H2 locs2 (373 + t) (19204 + 6 * t) _ (F0 m 1007 ls [.int w])
  refine lv_pop hx hb dL_law_1007 rfl ?_
  refine lv_goto (tgt := 1891) hx hb dL_law_1008 (by decide) ?_
  exact la_end C nxt (by omega) (by omega) hk2 hP2 hS2 hl
theorem la_case_23 (hPk : j_Pok WG vwCl la_RN jNW jP) {l : Launch} {p : Program} {e : Env} {s : State} {m : MethodId} {below : List Frame} {meth : Method} {c : Code} {bs L t : Nat} {xs : Nat → Int32} {D : va_G} {g : j_G} (C : la_C p s m meth c bs L xs D g) (ht : 6 * t + 6 ≤ L) (hL : L ≤ 3072) (nxt : la_B l p e s m below meth c bs D g (t + 1) 23) : la_B l p e s m below meth c bs D g t 1011 := by
  intro h H locs ls hk hP hS hl
  have hx := C.1.1
  have hb := C.1.2.1
  have hc9 : 373 + t ≤ 601024 := by omega
  have ht9 : t < 512 := by omega
  have hs9 : 19204 + 6 * t ≤ 7293034 := by omega
  refine lv_aload_n hx hb dL_law_1011 rfl (lv_at hl 3 rfl) ?_
  refine la_arg C ht hL (lv_at hl 4 rfl) (lv_at hl 0 rfl) hS dL_law_1012 dL_law_1013 dL_law_1015 dL_law_1016 dL_law_1017 (k := 1) ⟨by decide, by decide⟩ ?_
  obtain ⟨f0, hf0⟩ := hk.h0
  refine la_vir hPk (st := [.int (xs (6 * t + 1)), .ref 0]) (As := [.ref 0, .int (xs (6 * t + 1))]) (rest := []) (N := (yX9_use, cX9_use, 2, (some .int), 1, false, 9)) C hl.1 dL_law_1018 (j_Cchk_ok (own := R_law) (q := (116, 3, 135, [956, 957, 958])) (by decide +kernel)) rfl (j_spl3 hf0 rfl rfl rfl (Nat.zero_le _) (Nat.le_of_ble_eq_true rfl)) (la_q_use (xs (6 * t + 1)) ht9 hk) (fun r h' z => z.elim fun v y => y.2.1.1) hc9 hs9 hP hS ?_
  rintro r h1 H1 locs1 ⟨v, rfl, s1, q1⟩ hP1 hS1
  clear hP hS
  have hS := hS1
  show W p l e room_1 s m #[Value.ref bs] below meth c H1 locs1 (373 + t) (19204 + 6 * t) _ (F0 m 1021 ls [.int v])
  refine lv_pop hx hb dL_law_1021 rfl ?_
  refine lv_aload_n hx hb dL_law_1022 rfl (lv_at hl 2 rfl) ?_
  refine la_arg C ht hL (lv_at hl 4 rfl) (lv_at hl 0 rfl) hS dL_law_1023 dL_law_1024 dL_law_1026 dL_law_1027 dL_law_1028 (k := 1) ⟨by decide, by decide⟩ ?_
  obtain ⟨f9, hf9⟩ := la_h359 hk s1
  refine la_vir hPk (st := [.int (xs (6 * t + 1)), .ref 359]) (As := [.ref 359, .int (xs (6 * t + 1))]) (rest := []) (N := (yX10_use, cX10_use, 2, (some .int), 1, false, 10)) C hl.1 dL_law_1029 (j_Cchk_ok (own := R_law) (q := (119, 3, 258, [1746, 1747, 1748])) (by decide +kernel)) rfl (j_spl3 hf9 rfl rfl rfl (Nat.zero_le _) (Nat.le_of_ble_eq_true rfl)) q1 (fun r h' z => z.elim fun v y => y.2.2.1.1) hc9 hs9 hP1 hS ?_
  rintro r h2 H2 locs2 ⟨w, rfl, ew, s2, hk2⟩ hP2 hS2
  show W p l e room_1 s m #[Value.ref bs] below meth c H2 locs2 (373 + t) (19204 + 6 * t) _ (F0 m 1032 ls [.int w])
  refine lv_pop hx hb dL_law_1032 rfl ?_
  refine lv_goto (tgt := 1891) hx hb dL_law_1033 (by decide) ?_
  exact la_end C nxt (by omega) (by omega) hk2 hP2 hS2 hl

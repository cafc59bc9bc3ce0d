/-! cases of the law: written by wip/p5/gen_law5.py -/
theorem la_case_36 (hPk : j_Pok WG vwCl la_RN jNW jP) {l : Launch} {p : Program} {e : Env} {s : State} {m : MethodId} {below : List Frame} {meth : Method} {c : Code} {bs L t : Nat} {xs : Nat → Int32} {D : va_G} {g : j_G} (C : la_C p s m meth c bs L xs D g) (ht : 6 * t + 6 ≤ L) (hL : L ≤ 3072) (nxt : la_B l p e s m below meth c bs D g (t + 1) 23) : la_B l p e s m below meth c bs D g t 1496 := by
  intro h H locs ls hk hP hS hl
  have hx := C.1.1
  have hb := C.1.2.1
  have hc9 : 373 + t ≤ 601024 := by omega
  have ht9 : t < 512 := by omega
  have hs9 : 19204 + 6 * t ≤ 7293034 := by omega
  refine lv_aload_n hx hb dL_law_1496 rfl (lv_at hl 3 rfl) ?_
  obtain ⟨f0, hf0⟩ := hk.h0
  refine la_vir hPk (st := [.ref 0]) (As := [.ref 0]) (rest := []) (N := (yX9_build, cX9_build, 5, (some .int), 0, false, 9)) C hl.1 dL_law_1497 (j_Cchk_ok (own := R_law) (q := (172, 3, 148, [1139, 1140, 1141])) (by decide +kernel)) rfl (j_spl3 hf0 rfl rfl rfl (Nat.zero_le _) (Nat.le_of_ble_eq_true rfl)) (la_q_build  ht9 hk) (fun r h' z => z.elim fun v y => y.2.1.1) hc9 hs9 hP hS ?_
  rintro r h1 H1 locs1 ⟨v, rfl, s1, q1⟩ hP1 hS1
  clear hP hS
  have hS := hS1
  show W p l e room_1 s m #[Value.ref bs] below meth c H1 locs1 (373 + t) (19204 + 6 * t) _ (F0 m 1500 ls [.int v])
  refine lv_aload_n hx hb dL_law_1500 rfl (lv_at hl 2 rfl) ?_
  obtain ⟨f9, hf9⟩ := la_h359 hk s1
  refine la_vir hPk (st := [.ref 359, .int v]) (As := [.ref 359]) (rest := [.int v]) (N := (yX10_build, cX10_build, 5, (some .int), 0, false, 10)) C hl.1 dL_law_1501 (j_Cchk_ok (own := R_law) (q := (175, 3, 280, [1863, 1864, 1865])) (by decide +kernel)) rfl (j_spl3 hf9 rfl rfl rfl (Nat.le_of_ble_eq_true rfl) (Nat.le_of_ble_eq_true rfl)) q1 (fun r h' z => z.elim fun v y => y.2.2.1.1) hc9 hs9 hP1 hS ?_
  rintro r h2 H2 locs2 ⟨w, rfl, ew, s2, hk2⟩ hP2 hS2
  obtain rfl := ew rfl
  show W p l e room_1 s m #[Value.ref bs] below meth c H2 locs2 (373 + t) (19204 + 6 * t) _ (F0 m 1504 ls [.int v, .int v])
  refine lv_icmp_eq (tgt := 1891) hx hb dL_law_1504 (by decide) (fun _ => ?_) (fun z => absurd rfl z)
  exact la_end C nxt (by omega) (by omega) hk2 hP2 hS2 hl
theorem la_case_37 (hPk : j_Pok WG vwCl la_RN jNW jP) {l : Launch} {p : Program} {e : Env} {s : State} {m : MethodId} {below : List Frame} {meth : Method} {c : Code} {bs L t : Nat} {xs : Nat → Int32} {D : va_G} {g : j_G} (C : la_C p s m meth c bs L xs D g) (ht : 6 * t + 6 ≤ L) (hL : L ≤ 3072) (nxt : la_B l p e s m below meth c bs D g (t + 1) 23) : la_B l p e s m below meth c bs D g t 1509 := by
  intro h H locs ls hk hP hS hl
  have hx := C.1.1
  have hb := C.1.2.1
  have hc9 : 373 + t ≤ 601024 := by omega
  have ht9 : t < 512 := by omega
  have hs9 : 19204 + 6 * t ≤ 7293034 := by omega
  refine lv_aload_n hx hb dL_law_1509 rfl (lv_at hl 3 rfl) ?_
  refine la_arg C ht hL (lv_at hl 4 rfl) (lv_at hl 0 rfl) hS dL_law_1510 dL_law_1511 dL_law_1513 dL_law_1514 dL_law_1515 (k := 1) ⟨by decide, by decide⟩ ?_
  refine la_bool C ht hL (lv_at hl 4 rfl) (lv_at hl 0 rfl) hS dL_law_1516 dL_law_1517 dL_law_1519 dL_law_1520 dL_law_1521 dL_law_1522 dL_law_1525 dL_law_1526 dL_law_1529 (k := 2) ⟨by decide, by decide⟩ ?_
  obtain ⟨f0, hf0⟩ := hk.h0
  refine la_vir hPk (st := [.int (i_b (!(decide (xs (6 * t + 2) = 0)))), .int (xs (6 * t + 1)), .ref 0]) (As := [.ref 0, .int (xs (6 * t + 1)), .int (i_b (!(decide (xs (6 * t + 2) = 0))))]) (rest := []) (N := (yX9_go, cX9_go, 3, (some .int), 2, false, 9)) C hl.1 dL_law_1530 (j_Cchk_ok (own := R_law) (q := (176, 3, 149, [1143, 1144, 1145])) (by decide +kernel)) rfl (j_spl3 hf0 rfl rfl rfl (Nat.zero_le _) (Nat.le_of_ble_eq_true rfl)) (la_q_go (xs (6 * t + 1)) (!(decide (xs (6 * t + 2) = 0))) ht9 hk) (fun r h' z => z.elim fun v y => y.2.1.1) hc9 hs9 hP hS ?_
  rintro r h1 H1 locs1 ⟨v, rfl, s1, q1⟩ hP1 hS1
  clear hP hS
  have hS := hS1
  show W p l e room_1 s m #[Value.ref bs] below meth c H1 locs1 (373 + t) (19204 + 6 * t) _ (F0 m 1533 ls [.int v])
  refine lv_pop hx hb dL_law_1533 rfl ?_
  refine lv_aload_n hx hb dL_law_1534 rfl (lv_at hl 2 rfl) ?_
  refine la_arg C ht hL (lv_at hl 4 rfl) (lv_at hl 0 rfl) hS dL_law_1535 dL_law_1536 dL_law_1538 dL_law_1539 dL_law_1540 (k := 1) ⟨by decide, by decide⟩ ?_
  refine la_bool C ht hL (lv_at hl 4 rfl) (lv_at hl 0 rfl) hS dL_law_1541 dL_law_1542 dL_law_1544 dL_law_1545 dL_law_1546 dL_law_1547 dL_law_1550 dL_law_1551 dL_law_1554 (k := 2) ⟨by decide, by decide⟩ ?_
  obtain ⟨f9, hf9⟩ := la_h359 hk s1
  refine la_vir hPk (st := [.int (i_b (!(decide (xs (6 * t + 2) = 0)))), .int (xs (6 * t + 1)), .ref 359]) (As := [.ref 359, .int (xs (6 * t + 1)), .int (i_b (!(decide (xs (6 * t + 2) = 0))))]) (rest := []) (N := (yX10_go_, cX10_go_, 4, (some .int), 2, false, 10)) C hl.1 dL_law_1555 (j_Cchk_ok (own := R_law) (q := (179, 3, 283, [1871, 1872, 1873])) (by decide +kernel)) rfl (j_spl3 hf9 rfl rfl rfl (Nat.zero_le _) (Nat.le_of_ble_eq_true rfl)) q1 (fun r h' z => z.elim fun v y => y.2.2.1.1) hc9 hs9 hP1 hS ?_
  rintro r h2 H2 locs2 ⟨w, rfl, ew, s2, hk2⟩ hP2 hS2
  show W p l e room_1 s m #[Value.ref bs] below meth c H2 locs2 (373 + t) (19204 + 6 * t) _ (F0 m 1558 ls [.int w])
  refine lv_pop hx hb dL_law_1558 rfl ?_
  refine lv_goto (tgt := 1891) hx hb dL_law_1559 (by decide) ?_
  exact la_end C nxt (by omega) (by omega) hk2 hP2 hS2 hl
theorem la_case_38 (hPk : j_Pok WG vwCl la_RN jNW jP) {l : Launch} {p : Program} {e : Env} {s : State} {m : MethodId} {below : List Frame} {meth : Method} {c : Code} {bs L t : Nat} {xs : Nat → Int32} {D : va_G} {g : j_G} (C : la_C p s m meth c bs L xs D g) (ht : 6 * t + 6 ≤ L) (hL : L ≤ 3072) (nxt : la_B l p e s m below meth c bs D g (t + 1) 23) : la_B l p e s m below meth c bs D g t 1562 := by
  intro h H locs ls hk hP hS hl
  have hx := C.1.1
  have hb := C.1.2.1
  have hc9 : 373 + t ≤ 601024 := by omega
  have ht9 : t < 512 := by omega
  have hs9 : 19204 + 6 * t ≤ 7293034 := by omega
  refine lv_aload_n hx hb dL_law_1562 rfl (lv_at hl 3 rfl) ?_
  refine la_arg C ht hL (lv_at hl 4 rfl) (lv_at hl 0 rfl) hS dL_law_1563 dL_law_1564 dL_law_1566 dL_law_1567 dL_law_1568 (k := 1) ⟨by decide, by decide⟩ ?_
  refine la_arg C ht hL (lv_at hl 4 rfl) (lv_at hl 0 rfl) hS dL_law_1569 dL_law_1570 dL_law_1572 dL_law_1573 dL_law_1574 (k := 2) ⟨by decide, by decide⟩ ?_
  obtain ⟨f0, hf0⟩ := hk.h0
  refine la_vir hPk (st := [.int (xs (6 * t + 2)), .int (xs (6 * t + 1)), .ref 0]) (As := [.ref 0, .int (xs (6 * t + 1)), .int (xs (6 * t + 2))]) (rest := []) (N := (yX9_hold, cX9_hold, 3, (some .int), 2, false, 9)) C hl.1 dL_law_1575 (j_Cchk_ok (own := R_law) (q := (180, 3, 150, [1154, 1155, 1156])) (by decide +kernel)) rfl (j_spl3 hf0 rfl rfl rfl (Nat.zero_le _) (Nat.le_of_ble_eq_true rfl)) (la_q_hold (xs (6 * t + 1)) (xs (6 * t + 2)) ht9 hk) (fun r h' z => z.elim fun v y => y.2.1.1) hc9 hs9 hP hS ?_
  rintro r h1 H1 locs1 ⟨v, rfl, s1, q1⟩ hP1 hS1
  clear hP hS
  have hS := hS1
  show W p l e room_1 s m #[Value.ref bs] below meth c H1 locs1 (373 + t) (19204 + 6 * t) _ (F0 m 1578 ls [.int v])
  refine lv_pop hx hb dL_law_1578 rfl ?_
  refine lv_aload_n hx hb dL_law_1579 rfl (lv_at hl 2 rfl) ?_
  refine la_arg C ht hL (lv_at hl 4 rfl) (lv_at hl 0 rfl) hS dL_law_1580 dL_law_1581 dL_law_1583 dL_law_1584 dL_law_1585 (k := 1) ⟨by decide, by decide⟩ ?_
  refine la_arg C ht hL (lv_at hl 4 rfl) (lv_at hl 0 rfl) hS dL_law_1586 dL_law_1587 dL_law_1589 dL_law_1590 dL_law_1591 (k := 2) ⟨by decide, by decide⟩ ?_
  obtain ⟨f9, hf9⟩ := la_h359 hk s1
  refine la_vir hPk (st := [.int (xs (6 * t + 2)), .int (xs (6 * t + 1)), .ref 359]) (As := [.ref 359, .int (xs (6 * t + 1)), .int (xs (6 * t + 2))]) (rest := []) (N := (yX10_hold, cX10_hold, 3, (some .int), 2, false, 10)) C hl.1 dL_law_1592 (j_Cchk_ok (own := R_law) (q := (183, 3, 284, [1879, 1880, 1881])) (by decide +kernel)) rfl (j_spl3 hf9 rfl rfl rfl (Nat.zero_le _) (Nat.le_of_ble_eq_true rfl)) q1 (fun r h' z => z.elim fun v y => y.2.2.1.1) hc9 hs9 hP1 hS ?_
  rintro r h2 H2 locs2 ⟨w, rfl, ew, s2, hk2⟩ hP2 hS2
  show W p l e room_1 s m #[Value.ref bs] below meth c H2 locs2 (373 + t) (19204 + 6 * t) _ (F0 m 1595 ls [.int w])
  refine lv_pop hx hb dL_law_1595 rfl ?_
  refine lv_goto (tgt := 1891) hx hb dL_law_1596 (by decide) ?_
  exact la_end C nxt (by omega) (by omega) hk2 hP2 hS2 hl
theorem la_case_39 (hPk : j_Pok WG vwCl la_RN jNW jP) {l : Launch} {p : Program} {e : Env} {s : State} {m : MethodId} {below : List Frame} {meth : Method} {c : Code} {bs L t : Nat} {xs : Nat → Int32} {D : va_G} {g : j_G} (C : la_C p s m meth c bs L xs D g) (ht : 6 * t + 6 ≤ L) (hL : L ≤ 3072) (nxt : la_B l p e s m below meth c bs D g (t + 1) 23) : la_B l p e s m below meth c bs D g t 1599 := by
  intro h H locs ls hk hP hS hl
  have hx := C.1.1
  have hb := C.1.2.1
  have hc9 : 373 + t ≤ 601024 := by omega
  have ht9 : t < 512 := by omega
  have hs9 : 19204 + 6 * t ≤ 7293034 := by omega
  refine lv_aload_n hx hb dL_law_1599 rfl (lv_at hl 3 rfl) ?_
  refine la_arg C ht hL (lv_at hl 4 rfl) (lv_at hl 0 rfl) hS dL_law_1600 dL_law_1601 dL_law_1603 dL_law_1604 dL_law_1605 (k := 1) ⟨by decide, by decide⟩ ?_
  refine la_arg C ht hL (lv_at hl 4 rfl) (lv_at hl 0 rfl) hS dL_law_1606 dL_law_1607 dL_law_1609 dL_law_1610 dL_law_1611 (k := 2) ⟨by decide, by decide⟩ ?_
  refine la_bool C ht hL (lv_at hl 4 rfl) (lv_at hl 0 rfl) hS dL_law_1612 dL_law_1613 dL_law_1615 dL_law_1616 dL_law_1617 dL_law_1618 dL_law_1621 dL_law_1622 dL_law_1625 (k := 3) ⟨by decide, by decide⟩ ?_
  obtain ⟨f0, hf0⟩ := hk.h0
  refine la_vir hPk (st := [.int (i_b (!(decide (xs (6 * t + 3) = 0)))), .int (xs (6 * t + 2)), .int (xs (6 * t + 1)), .ref 0]) (As := [.ref 0, .int (xs (6 * t + 1)), .int (xs (6 * t + 2)), .int (i_b (!(decide (xs (6 * t + 3) = 0))))]) (rest := []) (N := (yX9_shut, cX9_shut, 6, (some .int), 3, false, 9)) C hl.1 dL_law_1626 (j_Cchk_ok (own := R_law) (q := (184, 3, 151, [1158, 1159, 1160])) (by decide +kernel)) rfl (j_spl3 hf0 rfl rfl rfl (Nat.zero_le _) (Nat.le_of_ble_eq_true rfl)) (la_q_shut (xs (6 * t + 1)) (xs (6 * t + 2)) (!(decide (xs (6 * t + 3) = 0))) ht9 hk) (fun r h' z => z.elim fun v y => y.2.1.1) hc9 hs9 hP hS ?_
  rintro r h1 H1 locs1 ⟨v, rfl, s1, q1⟩ hP1 hS1
  clear hP hS
  have hS := hS1
  show W p l e room_1 s m #[Value.ref bs] below meth c H1 locs1 (373 + t) (19204 + 6 * t) _ (F0 m 1629 ls [.int v])
  refine lv_pop hx hb dL_law_1629 rfl ?_
  refine lv_aload_n hx hb dL_law_1630 rfl (lv_at hl 2 rfl) ?_
  refine la_arg C ht hL (lv_at hl 4 rfl) (lv_at hl 0 rfl) hS dL_law_1631 dL_law_1632 dL_law_1634 dL_law_1635 dL_law_1636 (k := 1) ⟨by decide, by decide⟩ ?_
  refine la_arg C ht hL (lv_at hl 4 rfl) (lv_at hl 0 rfl) hS dL_law_1637 dL_law_1638 dL_law_1640 dL_law_1641 dL_law_1642 (k := 2) ⟨by decide, by decide⟩ ?_
  refine la_bool C ht hL (lv_at hl 4 rfl) (lv_at hl 0 rfl) hS dL_law_1643 dL_law_1644 dL_law_1646 dL_law_1647 dL_law_1648 dL_law_1649 dL_law_1652 dL_law_1653 dL_law_1656 (k := 3) ⟨by decide, by decide⟩ ?_
  obtain ⟨f9, hf9⟩ := la_h359 hk s1
  refine la_vir hPk (st := [.int (i_b (!(decide (xs (6 * t + 3) = 0)))), .int (xs (6 * t + 2)), .int (xs (6 * t + 1)), .ref 359]) (As := [.ref 359, .int (xs (6 * t + 1)), .int (xs (6 * t + 2)), .int (i_b (!(decide (xs (6 * t + 3) = 0))))]) (rest := []) (N := (yX10_shut, cX10_shut, 7, (some .int), 3, false, 10)) C hl.1 dL_law_1657 (j_Cchk_ok (own := R_law) (q := (187, 3, 285, [1883, 1884, 1885])) (by decide +kernel)) rfl (j_spl3 hf9 rfl rfl rfl (Nat.zero_le _) (Nat.le_of_ble_eq_true rfl)) q1 (fun r h' z => z.elim fun v y => y.2.2.1.1) hc9 hs9 hP1 hS ?_
  rintro r h2 H2 locs2 ⟨w, rfl, ew, s2, hk2⟩ hP2 hS2
  show W p l e room_1 s m #[Value.ref bs] below meth c H2 locs2 (373 + t) (19204 + 6 * t) _ (F0 m 1660 ls [.int w])
  refine lv_pop hx hb dL_law_1660 rfl ?_
  refine lv_goto (tgt := 1891) hx hb dL_law_1661 (by decide) ?_
  exact la_end C nxt (by omega) (by omega) hk2 hP2 hS2 hl
theorem la_case_40 (hPk : j_Pok WG vwCl la_RN jNW jP) {l : Launch} {p : Program} {e : Env} {s : State} {m : MethodId} {below : List Frame} {meth : Method} {c : Code} {bs L t : Nat} {xs : Nat → Int32} {D : va_G} {g : j_G} (C : la_C p s m meth c bs L xs D g) (ht : 6 * t + 6 ≤ L) (hL : L ≤ 3072) (nxt : la_B l p e s m below meth c bs D g (t + 1) 23) : la_B l p e s m below meth c bs D g t 1664 := by
  intro h H locs ls hk hP hS hl
  have hx := C.1.1
  have hb := C.1.2.1
  have hc9 : 373 + t ≤ 601024 := by omega
  have ht9 : t < 512 := by omega
  have hs9 : 19204 + 6 * t ≤ 7293034 := by omega
  refine lv_aload_n hx hb dL_law_1664 rfl (lv_at hl 3 rfl) ?_
  refine la_arg C ht hL (lv_at hl 4 rfl) (lv_at hl 0 rfl) hS dL_law_1665 dL_law_1666 dL_law_1668 dL_law_1669 dL_law_1670 (k := 1) ⟨by decide, by decide⟩ ?_
  obtain ⟨f0, hf0⟩ := hk.h0
  refine la_vir hPk (st := [.int (xs (6 * t + 1)), .ref 0]) (As := [.ref 0, .int (xs (6 * t + 1))]) (rest := []) (N := (yX9_rank, cX9_rank, 3, (some .int), 1, false, 9)) C hl.1 dL_law_1671 (j_Cchk_ok (own := R_law) (q := (188, 3, 152, [1162, 1163, 1164])) (by decide +kernel)) rfl (j_spl3 hf0 rfl rfl rfl (Nat.zero_le _) (Nat.le_of_ble_eq_true rfl)) (la_q_rank (xs (6 * t + 1)) ht9 hk) (fun r h' z => z.elim fun v y => y.2.1.1) hc9 hs9 hP hS ?_
  rintro r h1 H1 locs1 ⟨v, rfl, s1, q1⟩ hP1 hS1
  clear hP hS
  have hS := hS1
  show W p l e room_1 s m #[Value.ref bs] below meth c H1 locs1 (373 + t) (19204 + 6 * t) _ (F0 m 1674 ls [.int v])
  refine lv_pop hx hb dL_law_1674 rfl ?_
  refine lv_aload_n hx hb dL_law_1675 rfl (lv_at hl 2 rfl) ?_
  refine la_arg C ht hL (lv_at hl 4 rfl) (lv_at hl 0 rfl) hS dL_law_1676 dL_law_1677 dL_law_1679 dL_law_1680 dL_law_1681 (k := 1) ⟨by decide, by decide⟩ ?_
  obtain ⟨f9, hf9⟩ := la_h359 hk s1
  refine la_vir hPk (st := [.int (xs (6 * t + 1)), .ref 359]) (As := [.ref 359, .int (xs (6 * t + 1))]) (rest := []) (N := (yX10_rank, cX10_rank, 7, (some .int), 1, false, 10)) C hl.1 dL_law_1682 (j_Cchk_ok (own := R_law) (q := (191, 3, 286, [1887, 1888, 1889])) (by decide +kernel)) rfl (j_spl3 hf9 rfl rfl rfl (Nat.zero_le _) (Nat.le_of_ble_eq_true rfl)) q1 (fun r h' z => z.elim fun v y => y.2.2.1.1) hc9 hs9 hP1 hS ?_
  rintro r h2 H2 locs2 ⟨w, rfl, ew, s2, hk2⟩ hP2 hS2
  show W p l e room_1 s m #[Value.ref bs] below meth c H2 locs2 (373 + t) (19204 + 6 * t) _ (F0 m 1685 ls [.int w])
  refine lv_pop hx hb dL_law_1685 rfl ?_
  refine lv_goto (tgt := 1891) hx hb dL_law_1686 (by decide) ?_
  exact la_end C nxt (by omega) (by omega) hk2 hP2 hS2 hl
theorem la_case_41 (hPk : j_Pok WG vwCl la_RN jNW jP) {l : Launch} {p : Program} {e : Env} {s : State} {m : MethodId} {below : List Frame} {meth : Method} {c : Code} {bs L t : Nat} {xs : Nat → Int32} {D : va_G} {g : j_G} (C : la_C p s m meth c bs L xs D g) (ht : 6 * t + 6 ≤ L) (hL : L ≤ 3072) (nxt : la_B l p e s m below meth c bs D g (t + 1) 23) : la_B l p e s m below meth c bs D g t 1689 := by
  intro h H locs ls hk hP hS hl
  have hx := C.1.1
  have hb := C.1.2.1
  have hc9 : 373 + t ≤ 601024 := by omega
  have ht9 : t < 512 := by omega
  have hs9 : 19204 + 6 * t ≤ 7293034 := by omega
  refine lv_aload_n hx hb dL_law_1689 rfl (lv_at hl 3 rfl) ?_
  refine la_arg C ht hL (lv_at hl 4 rfl) (lv_at hl 0 rfl) hS dL_law_1690 dL_law_1691 dL_law_1693 dL_law_1694 dL_law_1695 (k := 1) ⟨by decide, by decide⟩ ?_
  refine la_arg C ht hL (lv_at hl 4 rfl) (lv_at hl 0 rfl) hS dL_law_1696 dL_law_1697 dL_law_1699 dL_law_1700 dL_law_1701 (k := 2) ⟨by decide, by decide⟩ ?_
  obtain ⟨f0, hf0⟩ := hk.h0
  refine la_vir hPk (st := [.int (xs (6 * t + 2)), .int (xs (6 * t + 1)), .ref 0]) (As := [.ref 0, .int (xs (6 * t + 1)), .int (xs (6 * t + 2))]) (rest := []) (N := (yX9_start, cX9_start, 4, (some .int), 2, false, 9)) C hl.1 dL_law_1702 (j_Cchk_ok (own := R_law) (q := (192, 3, 153, [1176, 1177, 1178])) (by decide +kernel)) rfl (j_spl3 hf0 rfl rfl rfl (Nat.zero_le _) (Nat.le_of_ble_eq_true rfl)) (la_q_start (xs (6 * t + 1)) (xs (6 * t + 2)) ht9 hk) (fun r h' z => z.elim fun v y => y.2.1.1) hc9 hs9 hP hS ?_
  rintro r h1 H1 locs1 ⟨v, rfl, s1, q1⟩ hP1 hS1
  clear hP hS
  have hS := hS1
  show W p l e room_1 s m #[Value.ref bs] below meth c H1 locs1 (373 + t) (19204 + 6 * t) _ (F0 m 1705 ls [.int v])
  refine lv_pop hx hb dL_law_1705 rfl ?_
  refine lv_aload_n hx hb dL_law_1706 rfl (lv_at hl 2 rfl) ?_
  refine la_arg C ht hL (lv_at hl 4 rfl) (lv_at hl 0 rfl) hS dL_law_1707 dL_law_1708 dL_law_1710 dL_law_1711 dL_law_1712 (k := 1) ⟨by decide, by decide⟩ ?_
  refine la_arg C ht hL (lv_at hl 4 rfl) (lv_at hl 0 rfl) hS dL_law_1713 dL_law_1714 dL_law_1716 dL_law_1717 dL_law_1718 (k := 2) ⟨by decide, by decide⟩ ?_
  obtain ⟨f9, hf9⟩ := la_h359 hk s1
  refine la_vir hPk (st := [.int (xs (6 * t + 2)), .int (xs (6 * t + 1)), .ref 359]) (As := [.ref 359, .int (xs (6 * t + 1)), .int (xs (6 * t + 2))]) (rest := []) (N := (yX10_start, cX10_start, 4, (some .int), 2, false, 10)) C hl.1 dL_law_1719 (j_Cchk_ok (own := R_law) (q := (195, 3, 287, [1891, 1892, 1893])) (by decide +kernel)) rfl (j_spl3 hf9 rfl rfl rfl (Nat.zero_le _) (Nat.le_of_ble_eq_true rfl)) q1 (fun r h' z => z.elim fun v y => y.2.2.1.1) hc9 hs9 hP1 hS ?_
  rintro r h2 H2 locs2 ⟨w, rfl, ew, s2, hk2⟩ hP2 hS2
  show W p l e room_1 s m #[Value.ref bs] below meth c H2 locs2 (373 + t) (19204 + 6 * t) _ (F0 m 1722 ls [.int w])
  refine lv_pop hx hb dL_law_1722 rfl ?_
  refine lv_goto (tgt := 1891) hx hb dL_law_1723 (by decide) ?_
  exact la_end C nxt (by omega) (by omega) hk2 hP2 hS2 hl
theorem la_case_42 (hPk : j_Pok WG vwCl la_RN jNW jP) {l : Launch} {p : Program} {e : Env} {s : State} {m : MethodId} {below : List Frame} {meth : Method} {c : Code} {bs L t : Nat} {xs : Nat → Int32} {D : va_G} {g : j_G} (C : la_C p s m meth c bs L xs D g) (ht : 6 * t + 6 ≤ L) (hL : L ≤ 3072) (nxt : la_B l p e s m below meth c bs D g (t + 1) 23) : la_B l p e s m below meth c bs D g t 1726 := by
  intro h H locs ls hk hP hS hl
  have hx := C.1.1
  have hb := C.1.2.1
  have hc9 : 373 + t ≤ 601024 := by omega
  have ht9 : t < 512 := by omega
  have hs9 : 19204 + 6 * t ≤ 7293034 := by omega
  refine lv_aload_n hx hb dL_law_1726 rfl (lv_at hl 3 rfl) ?_
  refine la_arg C ht hL (lv_at hl 4 rfl) (lv_at hl 0 rfl) hS dL_law_1727 dL_law_1728 dL_law_1730 dL_law_1731 dL_law_1732 (k := 1) ⟨by decide, by decide⟩ ?_
  refine la_arg C ht hL (lv_at hl 4 rfl) (lv_at hl 0 rfl) hS dL_law_1733 dL_law_1734 dL_law_1736 dL_law_1737 dL_law_1738 (k := 2) ⟨by decide, by decide⟩ ?_
  obtain ⟨f0, hf0⟩ := hk.h0
  refine la_vir hPk (st := [.int (xs (6 * t + 2)), .int (xs (6 * t + 1)), .ref 0]) (As := [.ref 0, .int (xs (6 * t + 1)), .int (xs (6 * t + 2))]) (rest := []) (N := (yX9_stall, cX9_stall, 3, (some .int), 2, false, 9)) C hl.1 dL_law_1739 (j_Cchk_ok (own := R_law) (q := (196, 3, 154, [1180, 1181, 1182])) (by decide +kernel)) rfl (j_spl3 hf0 rfl rfl rfl (Nat.zero_le _) (Nat.le_of_ble_eq_true rfl)) (la_q_stall (xs (6 * t + 1)) (xs (6 * t + 2)) ht9 hk) (fun r h' z => z.elim fun v y => y.2.1.1) hc9 hs9 hP hS ?_
  rintro r h1 H1 locs1 ⟨v, rfl, s1, q1⟩ hP1 hS1
  clear hP hS
  have hS := hS1
  show W p l e room_1 s m #[Value.ref bs] below meth c H1 locs1 (373 + t) (19204 + 6 * t) _ (F0 m 1742 ls [.int v])
  refine lv_pop hx hb dL_law_1742 rfl ?_
  refine lv_aload_n hx hb dL_law_1743 rfl (lv_at hl 2 rfl) ?_
  refine la_arg C ht hL (lv_at hl 4 rfl) (lv_at hl 0 rfl) hS dL_law_1744 dL_law_1745 dL_law_1747 dL_law_1748 dL_law_1749 (k := 1) ⟨by decide, by decide⟩ ?_
  refine la_arg C ht hL (lv_at hl 4 rfl) (lv_at hl 0 rfl) hS dL_law_1750 dL_law_1751 dL_law_1753 dL_law_1754 dL_law_1755 (k := 2) ⟨by decide, by decide⟩ ?_
  obtain ⟨f9, hf9⟩ := la_h359 hk s1
  refine la_vir hPk (st := [.int (xs (6 * t + 2)), .int (xs (6 * t + 1)), .ref 359]) (As := [.ref 359, .int (xs (6 * t + 1)), .int (xs (6 * t + 2))]) (rest := []) (N := (yX10_stall, cX10_stall, 3, (some .int), 2, false, 10)) C hl.1 dL_law_1756 (j_Cchk_ok (own := R_law) (q := (199, 3, 288, [1895, 1896, 1897])) (by decide +kernel)) rfl (j_spl3 hf9 rfl rfl rfl (Nat.zero_le _) (Nat.le_of_ble_eq_true rfl)) q1 (fun r h' z => z.elim fun v y => y.2.2.1.1) hc9 hs9 hP1 hS ?_
  rintro r h2 H2 locs2 ⟨w, rfl, ew, s2, hk2⟩ hP2 hS2
  show W p l e room_1 s m #[Value.ref bs] below meth c H2 locs2 (373 + t) (19204 + 6 * t) _ (F0 m 1759 ls [.int w])
  refine lv_pop hx hb dL_law_1759 rfl ?_
  refine lv_goto (tgt := 1891) hx hb dL_law_1760 (by decide) ?_
  exact la_end C nxt (by omega) (by omega) hk2 hP2 hS2 hl
theorem la_case_43 (hPk : j_Pok WG vwCl la_RN jNW jP) {l : Launch} {p : Program} {e : Env} {s : State} {m : MethodId} {below : List Frame} {meth : Method} {c : Code} {bs L t : Nat} {xs : Nat → Int32} {D : va_G} {g : j_G} (C : la_C p s m meth c bs L xs D g) (ht : 6 * t + 6 ≤ L) (hL : L ≤ 3072) (nxt : la_B l p e s m below meth c bs D g (t + 1) 23) : la_B l p e s m below meth c bs D g t 1763 := by
  intro h H locs ls hk hP hS hl
  have hx := C.1.1
  have hb := C.1.2.1
  have hc9 : 373 + t ≤ 601024 := by omega
  have ht9 : t < 512 := by omega
  have hs9 : 19204 + 6 * t ≤ 7293034 := by omega
  refine lv_aload_n hx hb dL_law_1763 rfl (lv_at hl 3 rfl) ?_
  refine la_arg C ht hL (lv_at hl 4 rfl) (lv_at hl 0 rfl) hS dL_law_1764 dL_law_1765 dL_law_1767 dL_law_1768 dL_law_1769 (k := 1) ⟨by decide, by decide⟩ ?_
  refine la_arg C ht hL (lv_at hl 4 rfl) (lv_at hl 0 rfl) hS dL_law_1770 dL_law_1771 dL_law_1773 dL_law_1774 dL_law_1775 (k := 2) ⟨by decide, by decide⟩ ?_
  refine la_arg C ht hL (lv_at hl 4 rfl) (lv_at hl 0 rfl) hS dL_law_1776 dL_law_1777 dL_law_1779 dL_law_1780 dL_law_1781 (k := 3) ⟨by decide, by decide⟩ ?_
  obtain ⟨f0, hf0⟩ := hk.h0
  refine la_vir hPk (st := [.int (xs (6 * t + 3)), .int (xs (6 * t + 2)), .int (xs (6 * t + 1)), .ref 0]) (As := [.ref 0, .int (xs (6 * t + 1)), .int (xs (6 * t + 2)), .int (xs (6 * t + 3))]) (rest := []) (N := (yX9_link, cX9_link, 4, (some .int), 3, false, 9)) C hl.1 dL_law_1782 (j_Cchk_ok (own := R_law) (q := (200, 3, 155, [1184, 1185, 1186])) (by decide +kernel)) rfl (j_spl3 hf0 rfl rfl rfl (Nat.zero_le _) (Nat.le_of_ble_eq_true rfl)) (la_q_link (xs (6 * t + 1)) (xs (6 * t + 2)) (xs (6 * t + 3)) ht9 hk) (fun r h' z => z.elim fun v y => y.2.1.1) hc9 hs9 hP hS ?_
  rintro r h1 H1 locs1 ⟨v, rfl, s1, q1⟩ hP1 hS1
  clear hP hS
  have hS := hS1
  show W p l e room_1 s m #[Value.ref bs] below meth c H1 locs1 (373 + t) (19204 + 6 * t) _ (F0 m 1785 ls [.int v])
  refine lv_pop hx hb dL_law_1785 rfl ?_
  refine lv_aload_n hx hb dL_law_1786 rfl (lv_at hl 2 rfl) ?_
  refine la_arg C ht hL (lv_at hl 4 rfl) (lv_at hl 0 rfl) hS dL_law_1787 dL_law_1788 dL_law_1790 dL_law_1791 dL_law_1792 (k := 1) ⟨by decide, by decide⟩ ?_
  refine la_arg C ht hL (lv_at hl 4 rfl) (lv_at hl 0 rfl) hS dL_law_1793 dL_law_1794 dL_law_1796 dL_law_1797 dL_law_1798 (k := 2) ⟨by decide, by decide⟩ ?_
  refine la_arg C ht hL (lv_at hl 4 rfl) (lv_at hl 0 rfl) hS dL_law_1799 dL_law_1800 dL_law_1802 dL_law_1803 dL_law_1804 (k := 3) ⟨by decide, by decide⟩ ?_
  obtain ⟨f9, hf9⟩ := la_h359 hk s1
  refine la_vir hPk (st := [.int (xs (6 * t + 3)), .int (xs (6 * t + 2)), .int (xs (6 * t + 1)), .ref 359]) (As := [.ref 359, .int (xs (6 * t + 1)), .int (xs (6 * t + 2)), .int (xs (6 * t + 3))]) (rest := []) (N := (yX10_link, cX10_link, 6, (some .int), 3, false, 10)) C hl.1 dL_law_1805 (j_Cchk_ok (own := R_law) (q := (203, 3, 289, [1899, 1900, 1901])) (by decide +kernel)) rfl (j_spl3 hf9 rfl rfl rfl (Nat.zero_le _) (Nat.le_of_ble_eq_true rfl)) q1 (fun r h' z => z.elim fun v y => y.2.2.1.1) hc9 hs9 hP1 hS ?_
  rintro r h2 H2 locs2 ⟨w, rfl, ew, s2, hk2⟩ hP2 hS2
  show W p l e room_1 s m #[Value.ref bs] below meth c H2 locs2 (373 + t) (19204 + 6 * t) _ (F0 m 1808 ls [.int w])
  refine lv_pop hx hb dL_law_1808 rfl ?_
  refine lv_goto (tgt := 1891) hx hb dL_law_1809 (by decide) ?_
  exact la_end C nxt (by omega) (by omega) hk2 hP2 hS2 hl
theorem la_case_44 (hPk : j_Pok WG vwCl la_RN jNW jP) {l : Launch} {p : Program} {e : Env} {s : State} {m : MethodId} {below : List Frame} {meth : Method} {c : Code} {bs L t : Nat} {xs : Nat → Int32} {D : va_G} {g : j_G} (C : la_C p s m meth c bs L xs D g) (ht : 6 * t + 6 ≤ L) (hL : L ≤ 3072) (nxt : la_B l p e s m below meth c bs D g (t + 1) 23) : la_B l p e s m below meth c bs D g t 1812 := by
  intro h H locs ls hk hP hS hl
  have hx := C.1.1
  have hb := C.1.2.1
  have hc9 : 373 + t ≤ 601024 := by omega
  have ht9 : t < 512 := by omega
  have hs9 : 19204 + 6 * t ≤ 7293034 := by omega
  refine lv_aload_n hx hb dL_law_1812 rfl (lv_at hl 3 rfl) ?_
  refine la_arg C ht hL (lv_at hl 4 rfl) (lv_at hl 0 rfl) hS dL_law_1813 dL_law_1814 dL_law_1816 dL_law_1817 dL_law_1818 (k := 1) ⟨by decide, by decide⟩ ?_
  obtain ⟨f0, hf0⟩ := hk.h0
  refine la_vir hPk (st := [.int (xs (6 * t + 1)), .ref 0]) (As := [.ref 0, .int (xs (6 * t + 1))]) (rest := []) (N := (yX9_cut, cX9_cut, 2, (some .int), 1, false, 9)) C hl.1 dL_law_1819 (j_Cchk_ok (own := R_law) (q := (204, 3, 156, [1196, 1197, 1198])) (by decide +kernel)) rfl (j_spl3 hf0 rfl rfl rfl (Nat.zero_le _) (Nat.le_of_ble_eq_true rfl)) (la_q_cut (xs (6 * t + 1)) ht9 hk) (fun r h' z => z.elim fun v y => y.2.1.1) hc9 hs9 hP hS ?_
  rintro r h1 H1 locs1 ⟨v, rfl, s1, q1⟩ hP1 hS1
  clear hP hS
  have hS := hS1
  show W p l e room_1 s m #[Value.ref bs] below meth c H1 locs1 (373 + t) (19204 + 6 * t) _ (F0 m 1822 ls [.int v])
  refine lv_pop hx hb dL_law_1822 rfl ?_
  refine lv_aload_n hx hb dL_law_1823 rfl (lv_at hl 2 rfl) ?_
  refine la_arg C ht hL (lv_at hl 4 rfl) (lv_at hl 0 rfl) hS dL_law_1824 dL_law_1825 dL_law_1827 dL_law_1828 dL_law_1829 (k := 1) ⟨by decide, by decide⟩ ?_
  obtain ⟨f9, hf9⟩ := la_h359 hk s1
  refine la_vir hPk (st := [.int (xs (6 * t + 1)), .ref 359]) (As := [.ref 359, .int (xs (6 * t + 1))]) (rest := []) (N := (yX10_cut, cX10_cut, 2, (some .int), 1, false, 10)) C hl.1 dL_law_1830 (j_Cchk_ok (own := R_law) (q := (207, 3, 290, [1903, 1904, 1905])) (by decide +kernel)) rfl (j_spl3 hf9 rfl rfl rfl (Nat.zero_le _) (Nat.le_of_ble_eq_true rfl)) q1 (fun r h' z => z.elim fun v y => y.2.2.1.1) hc9 hs9 hP1 hS ?_
  rintro r h2 H2 locs2 ⟨w, rfl, ew, s2, hk2⟩ hP2 hS2
  show W p l e room_1 s m #[Value.ref bs] below meth c H2 locs2 (373 + t) (19204 + 6 * t) _ (F0 m 1833 ls [.int w])
  refine lv_pop hx hb dL_law_1833 rfl ?_
  refine lv_goto (tgt := 1891) hx hb dL_law_1834 (by decide) ?_
  exact la_end C nxt (by omega) (by omega) hk2 hP2 hS2 hl
theorem la_case_45 (hPk : j_Pok WG vwCl la_RN jNW jP) {l : Launch} {p : Program} {e : Env} {s : State} {m : MethodId} {below : List Frame} {meth : Method} {c : Code} {bs L t : Nat} {xs : Nat → Int32} {D : va_G} {g : j_G} (C : la_C p s m meth c bs L xs D g) (ht : 6 * t + 6 ≤ L) (hL : L ≤ 3072) (nxt : la_B l p e s m below meth c bs D g (t + 1) 23) : la_B l p e s m below meth c bs D g t 1837 := by
  intro h H locs ls hk hP hS hl
  have hx := C.1.1
  have hb := C.1.2.1
  have hc9 : 373 + t ≤ 601024 := by omega
  have ht9 : t < 512 := by omega
  have hs9 : 19204 + 6 * t ≤ 7293034 := by omega
  refine lv_aload_n hx hb dL_law_1837 rfl (lv_at hl 3 rfl) ?_
  obtain ⟨f0, hf0⟩ := hk.h0
  refine la_vir hPk (st := [.ref 0]) (As := [.ref 0]) (rest := []) (N := (yX9_undo, cX9_undo, 1, (some .int), 0, false, 9)) C hl.1 dL_law_1838 (j_Cchk_ok (own := R_law) (q := (208, 3, 157, [1204, 1205, 1206])) (by decide +kernel)) rfl (j_spl3 hf0 rfl rfl rfl (Nat.zero_le _) (Nat.le_of_ble_eq_true rfl)) (la_q_undo  ht9 hk) (fun r h' z => z.elim fun v y => y.2.1.1) hc9 hs9 hP hS ?_
  rintro r h1 H1 locs1 ⟨v, rfl, s1, q1⟩ hP1 hS1
  clear hP hS
  have hS := hS1
  show W p l e room_1 s m #[Value.ref bs] below meth c H1 locs1 (373 + t) (19204 + 6 * t) _ (F0 m 1841 ls [.int v])
  refine lv_pop hx hb dL_law_1841 rfl ?_
  refine lv_aload_n hx hb dL_law_1842 rfl (lv_at hl 2 rfl) ?_
  obtain ⟨f9, hf9⟩ := la_h359 hk s1
  refine la_vir hPk (st := [.ref 359]) (As := [.ref 359]) (rest := []) (N := (yX10_undo, cX10_undo, 2, (some .int), 0, false, 10)) C hl.1 dL_law_1843 (j_Cchk_ok (own := R_law) (q := (211, 3, 282, [1867, 1868, 1869])) (by decide +kernel)) rfl (j_spl3 hf9 rfl rfl rfl (Nat.zero_le _) (Nat.le_of_ble_eq_true rfl)) q1 (fun r h' z => z.elim fun v y => y.2.2.1.1) hc9 hs9 hP1 hS ?_
  rintro r h2 H2 locs2 ⟨w, rfl, ew, s2, hk2⟩ hP2 hS2
  show W p l e room_1 s m #[Value.ref bs] below meth c H2 locs2 (373 + t) (19204 + 6 * t) _ (F0 m 1846 ls [.int w])
  refine lv_pop hx hb dL_law_1846 rfl ?_
  refine lv_goto (tgt := 1891) hx hb dL_law_1847 (by decide) ?_
  exact la_end C nxt (by omega) (by omega) hk2 hP2 hS2 hl
theorem la_case_46 (hPk : j_Pok WG vwCl la_RN jNW jP) {l : Launch} {p : Program} {e : Env} {s : State} {m : MethodId} {below : List Frame} {meth : Method} {c : Code} {bs L t : Nat} {xs : Nat → Int32} {D : va_G} {g : j_G} (C : la_C p s m meth c bs L xs D g) (ht : 6 * t + 6 ≤ L) (hL : L ≤ 3072) (nxt : la_B l p e s m below meth c bs D g (t + 1) 23) : la_B l p e s m below meth c bs D g t 1850 := by
  intro h H locs ls hk hP hS hl
  have hx := C.1.1
  have hb := C.1.2.1
  have hc9 : 373 + t ≤ 601024 := by omega
  have ht9 : t < 512 := by omega
  have hs9 : 19204 + 6 * t ≤ 7293034 := by omega
  refine lv_aload_n hx hb dL_law_1850 rfl (lv_at hl 3 rfl) ?_
  obtain ⟨f0, hf0⟩ := hk.h0
  refine la_vir hPk (st := [.ref 0]) (As := [.ref 0]) (rest := []) (N := (yX9_print, cX9_print, 1, (some .int), 0, false, 9)) C hl.1 dL_law_1851 (j_Cchk_ok (own := R_law) (q := (212, 3, 158, [1212, 1213, 1214])) (by decide +kernel)) rfl (j_spl3 hf0 rfl rfl rfl (Nat.zero_le _) (Nat.le_of_ble_eq_true rfl)) (la_q_print  ht9 hk) (fun r h' z => z.elim fun v y => y.2.1.1) hc9 hs9 hP hS ?_
  rintro r h1 H1 locs1 ⟨v, rfl, s1, q1⟩ hP1 hS1
  clear hP hS
  have hS := hS1
  show W p l e room_1 s m #[Value.ref bs] below meth c H1 locs1 (373 + t) (19204 + 6 * t) _ (F0 m 1854 ls [.int v])
  refine lv_pop hx hb dL_law_1854 rfl ?_
  refine lv_aload_n hx hb dL_law_1855 rfl (lv_at hl 2 rfl) ?_
  obtain ⟨f9, hf9⟩ := la_h359 hk s1
  refine la_vir hPk (st := [.ref 359]) (As := [.ref 359]) (rest := []) (N := (yX10_print, cX10_print, 3, (some .int), 0, false, 10)) C hl.1 dL_law_1856 (j_Cchk_ok (own := R_law) (q := (215, 3, 296, [1907, 1908, 1909])) (by decide +kernel)) rfl (j_spl3 hf9 rfl rfl rfl (Nat.zero_le _) (Nat.le_of_ble_eq_true rfl)) q1 (fun r h' z => z.elim fun v y => y.2.2.1.1) hc9 hs9 hP1 hS ?_
  rintro r h2 H2 locs2 ⟨w, rfl, ew, s2, hk2⟩ hP2 hS2
  show W p l e room_1 s m #[Value.ref bs] below meth c H2 locs2 (373 + t) (19204 + 6 * t) _ (F0 m 1859 ls [.int w])
  refine lv_pop hx hb dL_law_1859 rfl ?_
  refine lv_goto (tgt := 1891) hx hb dL_law_1860 (by decide) ?_
  exact la_end C nxt (by omega) (by omega) hk2 hP2 hS2 hl

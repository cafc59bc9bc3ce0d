/-! load of a number that is too small or too large: written by wip/jk/gen_bad.py -/
theorem xl_bad {u w : Nat → Value} {a : Nat} {n : Int32} {d : Nat} {h h0 : J_H} (ha : a ≤ 700) (hn : n.toInt < 0 ∨ (a : Int) < n.toInt) (K : KN h [(0, .inl (9, [.ref 1, (u 1), (u 2), (u 3), (u 4), (u 5), (u 6), (u 7), (u 8)])), (1, .inl (8, [(w 0), .int (nI a), (w 2), (w 3), (w 4), (w 5), (w 6), (w 7)]))] h0) : j_W jP (d + 1) 114 0 (lv_args 0 [.ref 0, .int n]) [] h (fun rv h' => rv = some (.int (-1)) ∧ KN h' [(0, .inl (9, [.ref 1, (u 1), (u 2), (u 3), (u 4), (u 5), (u 6), (u 7), .int 1])), (1, .inl (8, [(w 0), .int (nI a), (w 2), (w 3), (w 4), (w 5), (w 6), (w 7)]))] h0) := by
  show j_W jP (d + 1) 114 0 [(0, .ref 0), (1, .int n)] [] h _
  refine j_W.one xl_M xl_0 (by decide) (pcJ := 1) (stJ := [.int n]) rfl ?_
  refine j_W.ifc xl_M xl_1 (t := 15) rfl (fun c => ?_) (fun c => ?_)
  · clear c
    refine j_W.one xl_M xl_15 (by decide) (pcJ := 16) (stJ := [.ref 0]) rfl ?_
    refine j_W.one xl_M xl_16 (by decide) (pcJ := 17) (stJ := [.int 1, .ref 0]) rfl ?_
    refine j_W.call xl_M xl_17 rfl (md := 3) (mj := 161) rfl (by decide) xj_M (As := [.ref 0, .int 1]) (rest := []) (jk_spl3 (K.at rfl) rfl rfl rfl (Nat.le_of_ble_eq_true rfl) (Nat.le_of_ble_eq_true rfl)) (xj_ok (v := fun j => [.ref 1, (u 1), (u 2), (u 3), (u 4), (u 5), (u 6), (u 7), (u 8)].getD j .null) (K.sub ⟨rfl, trivial⟩)) ?_
    rintro r h9 ⟨rfl, K9⟩
    have K : KN h9 [(0, .inl (9, [.ref 1, (u 1), (u 2), (u 3), (u 4), (u 5), (u 6), (u 7), .int 1])), (1, .inl (8, [(w 0), .int (nI a), (w 2), (w 3), (w 4), (w 5), (w 6), (w 7)]))] h0 := K.go K9 rfl rfl rfl
    clear K9
    show j_W jP _ 114 20 [(0, .ref 0), (1, .int n)] [.int (-1)] h9 _
    exact j_W.ret xl_M xl_20 rfl rfl ⟨rfl, K⟩
  · rw [sk_lt] at c; have c1 := of_decide_eq_false c; rw [show (0 : Int32).toInt = 0 from rfl] at c1
    clear c
    refine j_W.one xl_M xl_4 (by decide) (pcJ := 5) (stJ := [.int n]) rfl ?_
    refine j_W.one xl_M xl_5 (by decide) (pcJ := 6) (stJ := [.ref 0, .int n]) rfl ?_
    refine j_W.getK xl_M xl_6 (ci := 9) (j := 0) rfl K rfl rfl ?_
    refine j_W.getK xl_M xl_9 (ci := 8) (j := 1) rfl K rfl rfl ?_
    refine j_W.icmp xl_M xl_12 (t := 21) rfl (fun c => ?_) (fun c => ?_)
    · exfalso; rw [jk_le] at c; have c := of_decide_eq_true c; rw [nI_toInt (by omega)] at c; omega
    · clear c
      refine j_W.one xl_M xl_15 (by decide) (pcJ := 16) (stJ := [.ref 0]) rfl ?_
      refine j_W.one xl_M xl_16 (by decide) (pcJ := 17) (stJ := [.int 1, .ref 0]) rfl ?_
      refine j_W.call xl_M xl_17 rfl (md := 3) (mj := 161) rfl (by decide) xj_M (As := [.ref 0, .int 1]) (rest := []) (jk_spl3 (K.at rfl) rfl rfl rfl (Nat.le_of_ble_eq_true rfl) (Nat.le_of_ble_eq_true rfl)) (xj_ok (v := fun j => [.ref 1, (u 1), (u 2), (u 3), (u 4), (u 5), (u 6), (u 7), (u 8)].getD j .null) (K.sub ⟨rfl, trivial⟩)) ?_
      rintro r h9 ⟨rfl, K9⟩
      have K : KN h9 [(0, .inl (9, [.ref 1, (u 1), (u 2), (u 3), (u 4), (u 5), (u 6), (u 7), .int 1])), (1, .inl (8, [(w 0), .int (nI a), (w 2), (w 3), (w 4), (w 5), (w 6), (w 7)]))] h0 := K.go K9 rfl rfl rfl
      clear K9
      show j_W jP _ 114 20 [(0, .ref 0), (1, .int n)] [.int (-1)] h9 _
      exact j_W.ret xl_M xl_20 rfl rfl ⟨rfl, K⟩
theorem mq_bad {v : Nat → Value} {a : Nat} {n : Int32} {d : Nat} {h h0 : J_H} (ha : a ≤ 700) (hn : n.toInt < 0 ∨ (a : Int) < n.toInt) (K : KN h [(359, .inl (10, [(v 0), (v 1), (v 2), (v 3), (v 4), (v 5), (v 6), (v 7), (v 8), .int (nI a), (v 10), (v 11), (v 12), (v 13), (v 14), (v 15), (v 16), (v 17), (v 18), (v 19), (v 20), (v 21), (v 22), (v 23), (v 24), (v 25), (v 26), (v 27)]))] h0) : j_W jP (d + 1) 200 0 (lv_args 0 [.ref 359, .int n]) [] h (fun rv h' => rv = some (.int (-1)) ∧ KN h' [(359, .inl (10, [.int 0, (v 1), (v 2), (v 3), (v 4), (v 5), (v 6), (v 7), (v 8), .int (nI a), .int 1, (v 11), (v 12), (v 13), (v 14), (v 15), (v 16), (v 17), (v 18), (v 19), (v 20), (v 21), (v 22), (v 23), (v 24), (v 25), (v 26), (v 27)]))] h0) := by
  show j_W jP (d + 1) 200 0 [(0, .ref 359), (1, .int n)] [] h _
  refine j_W.one mq_M mq_0 (by decide) (pcJ := 1) (stJ := [.int n]) rfl ?_
  refine j_W.one mq_M mq_1 (by decide) (pcJ := 2) (stJ := [.int 0, .int n]) rfl ?_
  refine j_W.one mq_M mq_2 (by decide) (pcJ := 3) (stJ := [.ref 359, .int 0, .int n]) rfl ?_
  refine j_W.getK mq_M mq_3 (ci := 10) (j := 9) rfl K rfl rfl ?_
  refine j_W.call mq_M mq_6 rfl (md := 2) (mj := 171) rfl (by decide) mf_M (As := [.int n, .int 0, .int (nI a)]) (rest := []) (jk_spl2 rfl rfl (Nat.le_of_ble_eq_true rfl) (Nat.le_of_ble_eq_true rfl)) (mf_ok) ?_
  rintro r hz ⟨rfl, ez⟩
  rw [ez]
  clear ez
  show j_W jP _ 200 9 [(0, .ref 359), (1, .int n)] [.int (bif inB n 0 (nI a) then 1 else 0)] h _
  rw [show inB n 0 (nI a) = false by unfold inB; rw [nI_toInt (by omega), show (0 : Int32).toInt = 0 from rfl]; rcases hn with q | q; rw [decide_eq_false (show ¬ (0 : Int) ≤ n.toInt by omega)]; rfl; rw [decide_eq_false (show ¬ n.toInt ≤ (a : Int) by omega), Bool.and_false]]
  refine j_W.ifc mq_M mq_9 (t := 18) rfl (fun c => ?_) (fun c => ?_)
  · exact absurd c (by decide)
  · clear c
    refine j_W.one mq_M mq_12 (by decide) (pcJ := 13) (stJ := [.ref 359]) rfl ?_
    refine j_W.one mq_M mq_13 (by decide) (pcJ := 14) (stJ := [.int 1, .ref 359]) rfl ?_
    refine j_W.call mq_M mq_14 rfl (md := 3) (mj := 169) rfl (by decide) mj_M (As := [.ref 359, .int 1]) (rest := []) (jk_spl3 (K.at rfl) rfl rfl rfl (Nat.le_of_ble_eq_true rfl) (Nat.le_of_ble_eq_true rfl)) (mj_ok (v := fun j => [(v 0), (v 1), (v 2), (v 3), (v 4), (v 5), (v 6), (v 7), (v 8), .int (nI a), (v 10), (v 11), (v 12), (v 13), (v 14), (v 15), (v 16), (v 17), (v 18), (v 19), (v 20), (v 21), (v 22), (v 23), (v 24), (v 25), (v 26), (v 27)].getD j .null) (K.sub ⟨rfl, trivial⟩)) ?_
    rintro r h9 ⟨rfl, K9⟩
    have K : KN h9 [(359, .inl (10, [.int 0, (v 1), (v 2), (v 3), (v 4), (v 5), (v 6), (v 7), (v 8), .int (nI a), .int 1, (v 11), (v 12), (v 13), (v 14), (v 15), (v 16), (v 17), (v 18), (v 19), (v 20), (v 21), (v 22), (v 23), (v 24), (v 25), (v 26), (v 27)]))] h0 := K.go K9 rfl rfl rfl
    clear K9
    show j_W jP _ 200 17 [(0, .ref 359), (1, .int n)] [.int (-1)] h9 _
    exact j_W.ret mq_M mq_17 rfl rfl ⟨rfl, K⟩

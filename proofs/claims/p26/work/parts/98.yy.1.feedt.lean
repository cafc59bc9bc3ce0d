/-! feed's bytes: written by wip/jk/gen_feedt.py -/
set_option maxRecDepth 100000 in
theorem mt_M : j_meth jP 180 = some (yX10_come, cX10_come, 3, none, 1, false, 10) := rfl
set_option maxRecDepth 100000 in
theorem mt_0 : j_code jP 180 0 = some (.bipush 24) := rfl
set_option maxRecDepth 100000 in
theorem mt_2 : j_code jP 180 2 = some (.istore_n 2) := rfl
set_option maxRecDepth 100000 in
theorem mt_3 : j_code jP 180 3 = some (.iload_n 2) := rfl
set_option maxRecDepth 100000 in
theorem mt_4 : j_code jP 180 4 = some (.ifCond .lt 35) := rfl
set_option maxRecDepth 100000 in
theorem mt_7 : j_code jP 180 7 = some (.aload_n 0) := rfl
set_option maxRecDepth 100000 in
theorem mt_8 : j_code jP 180 8 = some (.getfield 25) := rfl
set_option maxRecDepth 100000 in
theorem mt_11 : j_code jP 180 11 = some (.aload_n 0) := rfl
set_option maxRecDepth 100000 in
theorem mt_12 : j_code jP 180 12 = some (.getfield 76) := rfl
set_option maxRecDepth 100000 in
theorem mt_15 : j_code jP 180 15 = some (.iload_n 1) := rfl
set_option maxRecDepth 100000 in
theorem mt_16 : j_code jP 180 16 = some (.iload_n 2) := rfl
set_option maxRecDepth 100000 in
theorem mt_17 : j_code jP 180 17 = some (.iushr) := rfl
set_option maxRecDepth 100000 in
theorem mt_18 : j_code jP 180 18 = some (.sipush 255) := rfl
set_option maxRecDepth 100000 in
theorem mt_21 : j_code jP 180 21 = some (.iand) := rfl
set_option maxRecDepth 100000 in
theorem mt_22 : j_code jP 180 22 = some (.iastore) := rfl
set_option maxRecDepth 100000 in
theorem mt_23 : j_code jP 180 23 = some (.aload_n 0) := rfl
set_option maxRecDepth 100000 in
theorem mt_24 : j_code jP 180 24 = some (.dup) := rfl
set_option maxRecDepth 100000 in
theorem mt_25 : j_code jP 180 25 = some (.getfield 76) := rfl
set_option maxRecDepth 100000 in
theorem mt_28 : j_code jP 180 28 = some (.iconst 1) := rfl
set_option maxRecDepth 100000 in
theorem mt_29 : j_code jP 180 29 = some (.iadd) := rfl
set_option maxRecDepth 100000 in
theorem mt_30 : j_code jP 180 30 = some (.putfield 76) := rfl
set_option maxRecDepth 100000 in
theorem mt_33 : j_code jP 180 33 = some (.iinc 2 (-8)) := rfl
set_option maxRecDepth 100000 in
theorem mt_36 : j_code jP 180 36 = some (.goto (-33)) := rfl
set_option maxRecDepth 100000 in
theorem mt_39 : j_code jP 180 39 = some (.return_) := rfl
theorem fS_n (k : Nat) (h : k < 4) : ¬ fS (k + 1) < 0 := by
  match k, h with
  | 0, _ => decide
  | 1, _ => decide
  | 2, _ => decide
  | 3, _ => decide
theorem mt_l {v : Nat → Value} {d : Nat} {w : Int32} {h0 : J_H} : ∀ (k n : Nat) (l : List Int32) (h : J_H), k ≤ 4 → n + k ≤ 700 → l.length = 700 → KN h [(359, .inl (10, [(v 0), (v 1), (v 2), (v 3), (v 4), (v 5), .ref 365, (v 7), (v 8), .int (nI n), (v 10), (v 11), (v 12), (v 13), (v 14), (v 15), (v 16), (v 17), (v 18), (v 19), (v 20), (v 21), (v 22), (v 23), (v 24), (v 25), (v 26), (v 27)])), (365, .inr (.inl (0, l)))] h0 → j_W jP d 180 3 [(2, .int (fS k)), (0, .ref 359), (1, .int w)] [] h (fun rv h' => rv = none ∧ KN h' [(359, .inl (10, [(v 0), (v 1), (v 2), (v 3), (v 4), (v 5), .ref 365, (v 7), (v 8), .int (nI (n + k)), (v 10), (v 11), (v 12), (v 13), (v 14), (v 15), (v 16), (v 17), (v 18), (v 19), (v 20), (v 21), (v 22), (v 23), (v 24), (v 25), (v 26), (v 27)])), (365, .inr (.inl (0, (f9B yM w k n l))))] h0) := by
  intro k
  induction k with
  | zero =>
    intro n l h hk hn hl K
    refine j_W.one mt_M mt_3 (by decide) (pcJ := 4) (stJ := [.int (fS 0)]) rfl ?_
    refine j_W.ifc mt_M mt_4 (t := 39) rfl (fun c => ?_) (fun c => ?_)
    · refine j_W.ret mt_M mt_39 rfl rfl ⟨rfl, K⟩
    · exact absurd c (by decide)
  | succ k ih =>
    intro n l h hk hn hl K
    refine j_W.one mt_M mt_3 (by decide) (pcJ := 4) (stJ := [.int (fS (k + 1))]) rfl ?_
    refine j_W.ifc mt_M mt_4 (t := 39) rfl (fun c => ?_) (fun c => ?_)
    · exact absurd (of_decide_eq_true c) (fS_n k (by omega))
    · clear c
      refine j_W.one mt_M mt_7 (by decide) (pcJ := 8) (stJ := [.ref 359]) rfl ?_
      refine j_W.getK mt_M mt_8 (ci := 10) (j := 6) rfl K rfl rfl ?_
      refine j_W.one mt_M mt_11 (by decide) (pcJ := 12) (stJ := [.ref 359, .ref 365]) rfl ?_
      refine j_W.getK mt_M mt_12 (ci := 10) (j := 9) rfl K rfl rfl ?_
      refine j_W.one mt_M mt_15 (by decide) (pcJ := 16) (stJ := [.int w, .int (nI n), .ref 365]) rfl ?_
      refine j_W.one mt_M mt_16 (by decide) (pcJ := 17) (stJ := [.int (fS (k + 1)), .int w, .int (nI n), .ref 365]) rfl ?_
      refine j_W.one mt_M mt_17 (by decide) (pcJ := 18) (stJ := [.int ((w.toUInt32 >>> ((fS (k + 1)).toUInt32 &&& Int32.toUInt32 31)).toInt32), .int (nI n), .ref 365]) rfl ?_
      refine j_W.one mt_M mt_18 (by decide) (pcJ := 21) (stJ := [.int 255, .int ((w.toUInt32 >>> ((fS (k + 1)).toUInt32 &&& Int32.toUInt32 31)).toInt32), .int (nI n), .ref 365]) rfl ?_
      refine j_W.one mt_M mt_21 (by decide) (pcJ := 22) (stJ := [.int (yM w (k + 1)), .int (nI n), .ref 365]) rfl ?_
      refine j_W.iastK mt_M mt_22 (n := n) (k' := [(359, .inl (10, [(v 0), (v 1), (v 2), (v 3), (v 4), (v 5), .ref 365, (v 7), (v 8), .int (nI n), (v 10), (v 11), (v 12), (v 13), (v 14), (v 15), (v 16), (v 17), (v 18), (v 19), (v 20), (v 21), (v 22), (v 23), (v 24), (v 25), (v 26), (v 27)])), (365, .inr (.inl (0, (l.set n (yM w (k + 1))))))]) K rfl (by omega) (by omega) rfl (fun h K => ?_)
      refine j_W.one mt_M mt_23 (by decide) (pcJ := 24) (stJ := [.ref 359]) rfl ?_
      refine j_W.one mt_M mt_24 (by decide) (pcJ := 25) (stJ := [.ref 359, .ref 359]) rfl ?_
      refine j_W.getK mt_M mt_25 (ci := 10) (j := 9) rfl K rfl rfl ?_
      refine j_W.one mt_M mt_28 (by decide) (pcJ := 29) (stJ := [.int 1, .int (nI n), .ref 359]) rfl ?_
      refine j_W.one mt_M mt_29 (by decide) (pcJ := 30) (stJ := [.int (nI (n + 1)), .ref 359]) (by rw [show nI (n + 1) = nI n + 1 from Int32.ofNat_add n 1]; rfl) ?_
      refine j_W.putK mt_M mt_30 (ci := 10) (j := 9) (k' := [(359, .inl (10, [(v 0), (v 1), (v 2), (v 3), (v 4), (v 5), .ref 365, (v 7), (v 8), .int (nI (n + 1)), (v 10), (v 11), (v 12), (v 13), (v 14), (v 15), (v 16), (v 17), (v 18), (v 19), (v 20), (v 21), (v 22), (v 23), (v 24), (v 25), (v 26), (v 27)])), (365, .inr (.inl (0, (l.set n (yM w (k + 1))))))]) rfl K rfl (Nat.le_of_ble_eq_true rfl) rfl (Or.inl rfl) rfl rfl (fun h K => ?_)
      refine j_W.one mt_M mt_33 (by decide) (pcJ := 36) (lv' := [(2, .int (fS k)), (0, .ref 359), (1, .int w)]) (stJ := []) (by rw [← fS_s k]; rfl) ?_
      refine j_W.gto mt_M mt_36 (t := 3) rfl ?_
      rw [show n + (k + 1) = n + 1 + k by omega]
      exact ih (n + 1) _ h (by omega) (by omega) (by simp [hl]) K
theorem mt_ok {v : Nat → Value} {d n : Nat} {w : Int32} {l : List Int32} {h h0 : J_H} (hn : n + 4 ≤ 700) (hl : l.length = 700) (K : KN h [(359, .inl (10, [(v 0), (v 1), (v 2), (v 3), (v 4), (v 5), .ref 365, (v 7), (v 8), .int (nI n), (v 10), (v 11), (v 12), (v 13), (v 14), (v 15), (v 16), (v 17), (v 18), (v 19), (v 20), (v 21), (v 22), (v 23), (v 24), (v 25), (v 26), (v 27)])), (365, .inr (.inl (0, l)))] h0) : j_W jP (d + 1) 180 0 (lv_args 0 [.ref 359, .int w]) [] h (fun rv h' => rv = none ∧ KN h' [(359, .inl (10, [(v 0), (v 1), (v 2), (v 3), (v 4), (v 5), .ref 365, (v 7), (v 8), .int (nI (n + 4)), (v 10), (v 11), (v 12), (v 13), (v 14), (v 15), (v 16), (v 17), (v 18), (v 19), (v 20), (v 21), (v 22), (v 23), (v 24), (v 25), (v 26), (v 27)])), (365, .inr (.inl (0, (f9B yM w 4 n l))))] h0) := by
  show j_W jP (d + 1) 180 0 [(0, .ref 359), (1, .int w)] [] h _
  refine j_W.one mt_M mt_0 (by decide) (pcJ := 2) (stJ := [.int 24]) rfl ?_
  refine j_W.one mt_M mt_2 (by decide) (pcJ := 3) (lv' := [(2, .int 24), (0, .ref 359), (1, .int w)]) (stJ := []) rfl ?_
  exact mt_l 4 n l h (by omega) hn hl K
set_option maxRecDepth 100000 in
theorem xz_M : j_meth jP 104 = some (yX8_append, cX8_append, 3, none, 1, false, 8) := rfl
set_option maxRecDepth 100000 in
theorem xz_0 : j_code jP 104 0 = some (.aload_n 0) := rfl
set_option maxRecDepth 100000 in
theorem xz_1 : j_code jP 104 1 = some (.iconst 4) := rfl
set_option maxRecDepth 100000 in
theorem xz_2 : j_code jP 104 2 = some (.invokevirtual 19) := rfl
set_option maxRecDepth 100000 in
theorem xz_5 : j_code jP 104 5 = some (.ifCond .ne 4) := rfl
set_option maxRecDepth 100000 in
theorem xz_8 : j_code jP 104 8 = some (.return_) := rfl
set_option maxRecDepth 100000 in
theorem xz_9 : j_code jP 104 9 = some (.bipush 24) := rfl
set_option maxRecDepth 100000 in
theorem xz_11 : j_code jP 104 11 = some (.istore_n 2) := rfl
set_option maxRecDepth 100000 in
theorem xz_12 : j_code jP 104 12 = some (.iload_n 2) := rfl
set_option maxRecDepth 100000 in
theorem xz_13 : j_code jP 104 13 = some (.ifCond .lt 32) := rfl
set_option maxRecDepth 100000 in
theorem xz_16 : j_code jP 104 16 = some (.aload_n 0) := rfl
set_option maxRecDepth 100000 in
theorem xz_17 : j_code jP 104 17 = some (.getfield 9) := rfl
set_option maxRecDepth 100000 in
theorem xz_20 : j_code jP 104 20 = some (.aload_n 0) := rfl
set_option maxRecDepth 100000 in
theorem xz_21 : j_code jP 104 21 = some (.getfield 15) := rfl
set_option maxRecDepth 100000 in
theorem xz_24 : j_code jP 104 24 = some (.iload_n 1) := rfl
set_option maxRecDepth 100000 in
theorem xz_25 : j_code jP 104 25 = some (.iload_n 2) := rfl
set_option maxRecDepth 100000 in
theorem xz_26 : j_code jP 104 26 = some (.ishr) := rfl
set_option maxRecDepth 100000 in
theorem xz_27 : j_code jP 104 27 = some (.i2b) := rfl
set_option maxRecDepth 100000 in
theorem xz_28 : j_code jP 104 28 = some (.bastore) := rfl
set_option maxRecDepth 100000 in
theorem xz_29 : j_code jP 104 29 = some (.aload_n 0) := rfl
set_option maxRecDepth 100000 in
theorem xz_30 : j_code jP 104 30 = some (.dup) := rfl
set_option maxRecDepth 100000 in
theorem xz_31 : j_code jP 104 31 = some (.getfield 15) := rfl
set_option maxRecDepth 100000 in
theorem xz_34 : j_code jP 104 34 = some (.iconst 1) := rfl
set_option maxRecDepth 100000 in
theorem xz_35 : j_code jP 104 35 = some (.iadd) := rfl
set_option maxRecDepth 100000 in
theorem xz_36 : j_code jP 104 36 = some (.putfield 15) := rfl
set_option maxRecDepth 100000 in
theorem xz_39 : j_code jP 104 39 = some (.iinc 2 (-8)) := rfl
set_option maxRecDepth 100000 in
theorem xz_42 : j_code jP 104 42 = some (.goto (-30)) := rfl
set_option maxRecDepth 100000 in
theorem xz_45 : j_code jP 104 45 = some (.return_) := rfl
set_option maxRecDepth 100000 in
theorem xy_M : j_meth jP 103 = some (yX8_hasRoom, cX8_hasRoom, 2, (some .boolean), 1, false, 8) := rfl
set_option maxRecDepth 100000 in
theorem xy_0 : j_code jP 103 0 = some (.aload_n 0) := rfl
set_option maxRecDepth 100000 in
theorem xy_1 : j_code jP 103 1 = some (.getfield 15) := rfl
set_option maxRecDepth 100000 in
theorem xy_4 : j_code jP 103 4 = some (.iload_n 1) := rfl
set_option maxRecDepth 100000 in
theorem xy_5 : j_code jP 103 5 = some (.iadd) := rfl
set_option maxRecDepth 100000 in
theorem xy_6 : j_code jP 103 6 = some (.sipush 700) := rfl
set_option maxRecDepth 100000 in
theorem xy_9 : j_code jP 103 9 = some (.if_icmp .gt 7) := rfl
set_option maxRecDepth 100000 in
theorem xy_12 : j_code jP 103 12 = some (.iconst 1) := rfl
set_option maxRecDepth 100000 in
theorem xy_13 : j_code jP 103 13 = some (.goto 4) := rfl
set_option maxRecDepth 100000 in
theorem xy_16 : j_code jP 103 16 = some (.iconst 0) := rfl
set_option maxRecDepth 100000 in
theorem xy_17 : j_code jP 103 17 = some (.ireturn) := rfl
theorem xy_ok {v : Nat → Value} {d n k : Nat} {h h0 : J_H} (hn : n ≤ 700) (hk : k ≤ 700) (K : KN h [(1, .inl (8, [.ref 2, .int (nI n), (v 2), (v 3), (v 4), (v 5), (v 6), (v 7)]))] h0) : j_W jP d 103 0 (lv_args 0 [.ref 1, .int (nI k)]) [] h (fun rv h' => rv = some (.int (bif decide (n + k ≤ 700) then 1 else 0)) ∧ h' = h) := by
  show j_W jP d 103 0 [(0, .ref 1), (1, .int (nI k))] [] h _
  refine j_W.one xy_M xy_0 (by decide) (pcJ := 1) (stJ := [.ref 1]) rfl ?_
  refine j_W.getK xy_M xy_1 (ci := 8) (j := 1) rfl K rfl rfl ?_
  refine j_W.one xy_M xy_4 (by decide) (pcJ := 5) (stJ := [.int (nI k), .int (nI n)]) rfl ?_
  refine j_W.one xy_M xy_5 (by decide) (pcJ := 6) (stJ := [.int (nI (n + k))]) (by rw [← mi_add n k]; rfl) ?_
  refine j_W.one xy_M xy_6 (by decide) (pcJ := 9) (stJ := [.int 700, .int (nI (n + k))]) rfl ?_
  refine j_W.icmp xy_M xy_9 (t := 16) rfl (fun c => ?_) (fun c => ?_)
  · rw [jk_gt] at c; have c := of_decide_eq_true c; rw [nI_toInt (by omega), show (700 : Int32).toInt = 700 from rfl] at c
    refine j_W.one xy_M xy_16 (by decide) (pcJ := 17) (stJ := [.int 0]) rfl ?_
    refine j_W.ret xy_M xy_17 rfl rfl ⟨by rw [decide_eq_false (show ¬ n + k ≤ 700 by omega)]; rfl, rfl⟩
  · rw [jk_gt] at c; have c := of_decide_eq_false c; rw [nI_toInt (by omega), show (700 : Int32).toInt = 700 from rfl] at c
    refine j_W.one xy_M xy_12 (by decide) (pcJ := 13) (stJ := [.int 1]) rfl ?_
    refine j_W.gto xy_M xy_13 (t := 17) rfl ?_
    refine j_W.ret xy_M xy_17 rfl rfl ⟨by rw [decide_eq_true (show n + k ≤ 700 by omega)]; rfl, rfl⟩
theorem xz_l {v : Nat → Value} {d : Nat} {w : Int32} {h0 : J_H} : ∀ (k n : Nat) (l : List Int32) (h : J_H), k ≤ 4 → n + k ≤ 700 → l.length = 700 → KN h [(1, .inl (8, [.ref 2, .int (nI n), (v 2), (v 3), (v 4), (v 5), (v 6), (v 7)])), (2, .inr (.inl (1, l)))] h0 → j_W jP d 104 12 [(2, .int (fS k)), (0, .ref 1), (1, .int w)] [] h (fun rv h' => rv = none ∧ KN h' [(1, .inl (8, [.ref 2, .int (nI (n + k)), (v 2), (v 3), (v 4), (v 5), (v 6), (v 7)])), (2, .inr (.inl (1, (f9B yX w k n l))))] h0) := by
  intro k
  induction k with
  | zero =>
    intro n l h hk hn hl K
    refine j_W.one xz_M xz_12 (by decide) (pcJ := 13) (stJ := [.int (fS 0)]) rfl ?_
    refine j_W.ifc xz_M xz_13 (t := 45) rfl (fun c => ?_) (fun c => ?_)
    · refine j_W.ret xz_M xz_45 rfl rfl ⟨rfl, K⟩
    · exact absurd c (by decide)
  | succ k ih =>
    intro n l h hk hn hl K
    refine j_W.one xz_M xz_12 (by decide) (pcJ := 13) (stJ := [.int (fS (k + 1))]) rfl ?_
    refine j_W.ifc xz_M xz_13 (t := 45) rfl (fun c => ?_) (fun c => ?_)
    · exact absurd (of_decide_eq_true c) (fS_n k (by omega))
    · clear c
      refine j_W.one xz_M xz_16 (by decide) (pcJ := 17) (stJ := [.ref 1]) rfl ?_
      refine j_W.getK xz_M xz_17 (ci := 8) (j := 0) rfl K rfl rfl ?_
      refine j_W.one xz_M xz_20 (by decide) (pcJ := 21) (stJ := [.ref 1, .ref 2]) rfl ?_
      refine j_W.getK xz_M xz_21 (ci := 8) (j := 1) rfl K rfl rfl ?_
      refine j_W.one xz_M xz_24 (by decide) (pcJ := 25) (stJ := [.int w, .int (nI n), .ref 2]) rfl ?_
      refine j_W.one xz_M xz_25 (by decide) (pcJ := 26) (stJ := [.int (fS (k + 1)), .int w, .int (nI n), .ref 2]) rfl ?_
      refine j_W.one xz_M xz_26 (by decide) (pcJ := 27) (stJ := [.int (w >>> (fS (k + 1) &&& 31)), .int (nI n), .ref 2]) rfl ?_
      refine j_W.one xz_M xz_27 (by decide) (pcJ := 28) (stJ := [.int (w >>> (fS (k + 1) &&& 31)).toInt8.toInt32, .int (nI n), .ref 2]) rfl ?_
      refine j_W.bastK xz_M xz_28 (n := n) (k' := [(1, .inl (8, [.ref 2, .int (nI n), (v 2), (v 3), (v 4), (v 5), (v 6), (v 7)])), (2, .inr (.inl (1, (l.set n (yX w (k + 1))))))]) K rfl (by omega) (by omega) rfl (fun h K => ?_)
      refine j_W.one xz_M xz_29 (by decide) (pcJ := 30) (stJ := [.ref 1]) rfl ?_
      refine j_W.one xz_M xz_30 (by decide) (pcJ := 31) (stJ := [.ref 1, .ref 1]) rfl ?_
      refine j_W.getK xz_M xz_31 (ci := 8) (j := 1) rfl K rfl rfl ?_
      refine j_W.one xz_M xz_34 (by decide) (pcJ := 35) (stJ := [.int 1, .int (nI n), .ref 1]) rfl ?_
      refine j_W.one xz_M xz_35 (by decide) (pcJ := 36) (stJ := [.int (nI (n + 1)), .ref 1]) (by rw [show nI (n + 1) = nI n + 1 from Int32.ofNat_add n 1]; rfl) ?_
      refine j_W.putK xz_M xz_36 (ci := 8) (j := 1) (k' := [(1, .inl (8, [.ref 2, .int (nI (n + 1)), (v 2), (v 3), (v 4), (v 5), (v 6), (v 7)])), (2, .inr (.inl (1, (l.set n (yX w (k + 1))))))]) rfl K rfl (Nat.le_of_ble_eq_true rfl) rfl (Or.inl rfl) rfl rfl (fun h K => ?_)
      refine j_W.one xz_M xz_39 (by decide) (pcJ := 42) (lv' := [(2, .int (fS k)), (0, .ref 1), (1, .int w)]) (stJ := []) (by rw [← fS_s k]; rfl) ?_
      refine j_W.gto xz_M xz_42 (t := 12) rfl ?_
      rw [show n + (k + 1) = n + 1 + k by omega]
      exact ih (n + 1) _ h (by omega) (by omega) (by simp [hl]) K
theorem xz_ok {v : Nat → Value} {d n : Nat} {w : Int32} {l : List Int32} {h h0 : J_H} (hn : n + 4 ≤ 700) (hl : l.length = 700) (K : KN h [(1, .inl (8, [.ref 2, .int (nI n), (v 2), (v 3), (v 4), (v 5), (v 6), (v 7)])), (2, .inr (.inl (1, l)))] h0) : j_W jP (d + 1) 104 0 (lv_args 0 [.ref 1, .int w]) [] h (fun rv h' => rv = none ∧ KN h' [(1, .inl (8, [.ref 2, .int (nI (n + 4)), (v 2), (v 3), (v 4), (v 5), (v 6), (v 7)])), (2, .inr (.inl (1, (f9B yX w 4 n l))))] h0) := by
  show j_W jP (d + 1) 104 0 [(0, .ref 1), (1, .int w)] [] h _
  refine j_W.one xz_M xz_0 (by decide) (pcJ := 1) (stJ := [.ref 1]) rfl ?_
  refine j_W.one xz_M xz_1 (by decide) (pcJ := 2) (stJ := [.int 4, .ref 1]) rfl ?_
  refine j_W.call xz_M xz_2 rfl (md := 3) (mj := 103) rfl (by decide) xy_M (As := [.ref 1, .int (nI 4)]) (rest := []) (jk_spl3 (K.at rfl) rfl rfl rfl (Nat.le_of_ble_eq_true rfl) (Nat.le_of_ble_eq_true rfl)) (xy_ok (by omega) (by omega) (K.sub ⟨rfl, trivial⟩)) ?_
  rintro r hz ⟨rfl, ez⟩
  rw [ez]
  clear ez
  show j_W jP _ 104 5 [(0, .ref 1), (1, .int w)] [.int (bif decide (n + 4 ≤ 700) then 1 else 0)] h _
  rw [decide_eq_true hn]
  refine j_W.ifc xz_M xz_5 (t := 9) rfl (fun c => ?_) (fun c => ?_)
  · clear c
    refine j_W.one xz_M xz_9 (by decide) (pcJ := 11) (stJ := [.int 24]) rfl ?_
    refine j_W.one xz_M xz_11 (by decide) (pcJ := 12) (lv' := [(2, .int 24), (0, .ref 1), (1, .int w)]) (stJ := []) rfl ?_
    exact xz_l 4 n l h (by omega) hn hl K
  · exact absurd c (by decide)
set_option maxRecDepth 100000 in
theorem mi_M : j_meth jP 181 = some (yX10_feed, cX10_feed, 6, (some .int), 5, false, 10) := rfl
set_option maxRecDepth 100000 in
theorem mi_0 : j_code jP 181 0 = some (.aload_n 0) := rfl
set_option maxRecDepth 100000 in
theorem mi_1 : j_code jP 181 1 = some (.iconst 0) := rfl
set_option maxRecDepth 100000 in
theorem mi_2 : j_code jP 181 2 = some (.putfield 55) := rfl
set_option maxRecDepth 100000 in
theorem mi_5 : j_code jP 181 5 = some (.aload_n 0) := rfl
set_option maxRecDepth 100000 in
theorem mi_6 : j_code jP 181 6 = some (.getfield 76) := rfl
set_option maxRecDepth 100000 in
theorem mi_9 : j_code jP 181 9 = some (.bipush 20) := rfl
set_option maxRecDepth 100000 in
theorem mi_11 : j_code jP 181 11 = some (.iadd) := rfl
set_option maxRecDepth 100000 in
theorem mi_12 : j_code jP 181 12 = some (.sipush 700) := rfl
set_option maxRecDepth 100000 in
theorem mi_15 : j_code jP 181 15 = some (.if_icmp .le 5) := rfl
set_option maxRecDepth 100000 in
theorem mi_18 : j_code jP 181 18 = some (.iconst (-1)) := rfl
set_option maxRecDepth 100000 in
theorem mi_19 : j_code jP 181 19 = some (.ireturn) := rfl
set_option maxRecDepth 100000 in
theorem mi_20 : j_code jP 181 20 = some (.aload_n 0) := rfl
set_option maxRecDepth 100000 in
theorem mi_21 : j_code jP 181 21 = some (.iload_n 1) := rfl
set_option maxRecDepth 100000 in
theorem mi_22 : j_code jP 181 22 = some (.invokevirtual 79) := rfl
set_option maxRecDepth 100000 in
theorem mi_25 : j_code jP 181 25 = some (.aload_n 0) := rfl
set_option maxRecDepth 100000 in
theorem mi_26 : j_code jP 181 26 = some (.iload_n 2) := rfl
set_option maxRecDepth 100000 in
theorem mi_27 : j_code jP 181 27 = some (.invokevirtual 79) := rfl
set_option maxRecDepth 100000 in
theorem mi_30 : j_code jP 181 30 = some (.aload_n 0) := rfl
set_option maxRecDepth 100000 in
theorem mi_31 : j_code jP 181 31 = some (.iload_n 3) := rfl
set_option maxRecDepth 100000 in
theorem mi_32 : j_code jP 181 32 = some (.invokevirtual 79) := rfl
set_option maxRecDepth 100000 in
theorem mi_35 : j_code jP 181 35 = some (.aload_n 0) := rfl
set_option maxRecDepth 100000 in
theorem mi_36 : j_code jP 181 36 = some (.iload 4) := rfl
set_option maxRecDepth 100000 in
theorem mi_38 : j_code jP 181 38 = some (.invokevirtual 79) := rfl
set_option maxRecDepth 100000 in
theorem mi_41 : j_code jP 181 41 = some (.aload_n 0) := rfl
set_option maxRecDepth 100000 in
theorem mi_42 : j_code jP 181 42 = some (.iload 5) := rfl
set_option maxRecDepth 100000 in
theorem mi_44 : j_code jP 181 44 = some (.invokevirtual 79) := rfl
set_option maxRecDepth 100000 in
theorem mi_47 : j_code jP 181 47 = some (.aload_n 0) := rfl
set_option maxRecDepth 100000 in
theorem mi_48 : j_code jP 181 48 = some (.getfield 76) := rfl
set_option maxRecDepth 100000 in
theorem mi_51 : j_code jP 181 51 = some (.ireturn) := rfl
theorem mi_ok {v : Nat → Value} {d n : Nat} {a b c e f : Int32} {l : List Int32} {h h0 : J_H} (hn : n ≤ 700) (hl : l.length = 700) (K : KN h [(359, .inl (10, [(v 0), (v 1), (v 2), (v 3), (v 4), (v 5), .ref 365, (v 7), (v 8), .int (nI n), (v 10), (v 11), (v 12), (v 13), (v 14), (v 15), (v 16), (v 17), (v 18), (v 19), (v 20), (v 21), (v 22), (v 23), (v 24), (v 25), (v 26), (v 27)])), (365, .inr (.inl (0, l)))] h0) : j_W jP (d + 1 + 1) 181 0 (lv_args 0 [.ref 359, .int a, .int b, .int c, .int e, .int f]) [] h (fun rv h' => h'[365]? = some (.inr (.inl (0, if n + 20 ≤ 700 then (f9B yM f 4 (n + 16) (f9B yM e 4 (n + 12) (f9B yM c 4 (n + 8) (f9B yM b 4 (n + 4) (f9B yM a 4 n l))))) else l)))) := by
  show j_W jP (d + 1 + 1) 181 0 [(0, .ref 359), (1, .int a), (2, .int b), (3, .int c), (4, .int e), (5, .int f)] [] h _
  refine j_W.one mi_M mi_0 (by decide) (pcJ := 1) (stJ := [.ref 359]) rfl ?_
  refine j_W.one mi_M mi_1 (by decide) (pcJ := 2) (stJ := [.int 0, .ref 359]) rfl ?_
  refine j_W.putK mi_M mi_2 (ci := 10) (j := 0) (k' := [(359, .inl (10, [.int 0, (v 1), (v 2), (v 3), (v 4), (v 5), .ref 365, (v 7), (v 8), .int (nI n), (v 10), (v 11), (v 12), (v 13), (v 14), (v 15), (v 16), (v 17), (v 18), (v 19), (v 20), (v 21), (v 22), (v 23), (v 24), (v 25), (v 26), (v 27)])), (365, .inr (.inl (0, l)))]) rfl K rfl (Nat.le_of_ble_eq_true rfl) rfl (Or.inl rfl) rfl rfl (fun h K => ?_)
  refine j_W.one mi_M mi_5 (by decide) (pcJ := 6) (stJ := [.ref 359]) rfl ?_
  refine j_W.getK mi_M mi_6 (ci := 10) (j := 9) rfl K rfl rfl ?_
  refine j_W.one mi_M mi_9 (by decide) (pcJ := 11) (stJ := [.int 20, .int (nI n)]) rfl ?_
  refine j_W.one mi_M mi_11 (by decide) (pcJ := 12) (stJ := [.int (nI (n + 20))]) (by rw [← mi_add n 20]; rfl) ?_
  refine j_W.one mi_M mi_12 (by decide) (pcJ := 15) (stJ := [.int 700, .int (nI (n + 20))]) rfl ?_
  refine j_W.icmp mi_M mi_15 (t := 20) rfl (fun c9 => ?_) (fun c9 => ?_)
  · rw [jk_le] at c9; have c9 := of_decide_eq_true c9; rw [nI_toInt (by omega), show (700 : Int32).toInt = 700 from rfl] at c9; have h20 : n + 20 ≤ 700 := by omega
    rw [if_pos h20]
    clear c9
    refine j_W.one mi_M mi_20 (by decide) (pcJ := 21) (stJ := [.ref 359]) rfl ?_
    refine j_W.one mi_M mi_21 (by decide) (pcJ := 22) (stJ := [.int a, .ref 359]) rfl ?_
    refine j_W.call mi_M mi_22 rfl (md := 3) (mj := 180) rfl (by decide) mt_M (As := [.ref 359, .int a]) (rest := []) (jk_spl3 (K.at rfl) rfl rfl rfl (Nat.le_of_ble_eq_true rfl) (Nat.le_of_ble_eq_true rfl)) (mt_ok (v := fun j => [.int 0, (v 1), (v 2), (v 3), (v 4), (v 5), .ref 365, (v 7), (v 8), .int (nI n), (v 10), (v 11), (v 12), (v 13), (v 14), (v 15), (v 16), (v 17), (v 18), (v 19), (v 20), (v 21), (v 22), (v 23), (v 24), (v 25), (v 26), (v 27)].getD j .null) (n := n) (by omega) (by first | exact hl | (simp only [fB_len]; exact hl)) (K.sub ⟨rfl, rfl, trivial⟩)) ?_
    rintro r h9 ⟨rfl, K9⟩
    have K : KN h9 [(359, .inl (10, [.int 0, (v 1), (v 2), (v 3), (v 4), (v 5), .ref 365, (v 7), (v 8), .int (nI (n + 4)), (v 10), (v 11), (v 12), (v 13), (v 14), (v 15), (v 16), (v 17), (v 18), (v 19), (v 20), (v 21), (v 22), (v 23), (v 24), (v 25), (v 26), (v 27)])), (365, .inr (.inl (0, (f9B yM a 4 n l))))] h0 := K.go K9 rfl rfl rfl
    clear K9
    show j_W jP _ 181 25 [(0, .ref 359), (1, .int a), (2, .int b), (3, .int c), (4, .int e), (5, .int f)] [] h9 _
    refine j_W.one mi_M mi_25 (by decide) (pcJ := 26) (stJ := [.ref 359]) rfl ?_
    refine j_W.one mi_M mi_26 (by decide) (pcJ := 27) (stJ := [.int b, .ref 359]) rfl ?_
    refine j_W.call mi_M mi_27 rfl (md := 3) (mj := 180) rfl (by decide) mt_M (As := [.ref 359, .int b]) (rest := []) (jk_spl3 (K.at rfl) rfl rfl rfl (Nat.le_of_ble_eq_true rfl) (Nat.le_of_ble_eq_true rfl)) (mt_ok (v := fun j => [.int 0, (v 1), (v 2), (v 3), (v 4), (v 5), .ref 365, (v 7), (v 8), .int (nI (n + 4)), (v 10), (v 11), (v 12), (v 13), (v 14), (v 15), (v 16), (v 17), (v 18), (v 19), (v 20), (v 21), (v 22), (v 23), (v 24), (v 25), (v 26), (v 27)].getD j .null) (n := n + 4) (by omega) (by first | exact hl | (simp only [fB_len]; exact hl)) (K.sub ⟨rfl, rfl, trivial⟩)) ?_
    rintro r h9 ⟨rfl, K9⟩
    have K : KN h9 [(359, .inl (10, [.int 0, (v 1), (v 2), (v 3), (v 4), (v 5), .ref 365, (v 7), (v 8), .int (nI (n + 8)), (v 10), (v 11), (v 12), (v 13), (v 14), (v 15), (v 16), (v 17), (v 18), (v 19), (v 20), (v 21), (v 22), (v 23), (v 24), (v 25), (v 26), (v 27)])), (365, .inr (.inl (0, (f9B yM b 4 (n + 4) (f9B yM a 4 n l)))))] h0 := K.go K9 rfl rfl rfl
    clear K9
    show j_W jP _ 181 30 [(0, .ref 359), (1, .int a), (2, .int b), (3, .int c), (4, .int e), (5, .int f)] [] h9 _
    refine j_W.one mi_M mi_30 (by decide) (pcJ := 31) (stJ := [.ref 359]) rfl ?_
    refine j_W.one mi_M mi_31 (by decide) (pcJ := 32) (stJ := [.int c, .ref 359]) rfl ?_
    refine j_W.call mi_M mi_32 rfl (md := 3) (mj := 180) rfl (by decide) mt_M (As := [.ref 359, .int c]) (rest := []) (jk_spl3 (K.at rfl) rfl rfl rfl (Nat.le_of_ble_eq_true rfl) (Nat.le_of_ble_eq_true rfl)) (mt_ok (v := fun j => [.int 0, (v 1), (v 2), (v 3), (v 4), (v 5), .ref 365, (v 7), (v 8), .int (nI (n + 8)), (v 10), (v 11), (v 12), (v 13), (v 14), (v 15), (v 16), (v 17), (v 18), (v 19), (v 20), (v 21), (v 22), (v 23), (v 24), (v 25), (v 26), (v 27)].getD j .null) (n := n + 8) (by omega) (by first | exact hl | (simp only [fB_len]; exact hl)) (K.sub ⟨rfl, rfl, trivial⟩)) ?_
    rintro r h9 ⟨rfl, K9⟩
    have K : KN h9 [(359, .inl (10, [.int 0, (v 1), (v 2), (v 3), (v 4), (v 5), .ref 365, (v 7), (v 8), .int (nI (n + 12)), (v 10), (v 11), (v 12), (v 13), (v 14), (v 15), (v 16), (v 17), (v 18), (v 19), (v 20), (v 21), (v 22), (v 23), (v 24), (v 25), (v 26), (v 27)])), (365, .inr (.inl (0, (f9B yM c 4 (n + 8) (f9B yM b 4 (n + 4) (f9B yM a 4 n l))))))] h0 := K.go K9 rfl rfl rfl
    clear K9
    show j_W jP _ 181 35 [(0, .ref 359), (1, .int a), (2, .int b), (3, .int c), (4, .int e), (5, .int f)] [] h9 _
    refine j_W.one mi_M mi_35 (by decide) (pcJ := 36) (stJ := [.ref 359]) rfl ?_
    refine j_W.one mi_M mi_36 (by decide) (pcJ := 38) (stJ := [.int e, .ref 359]) rfl ?_
    refine j_W.call mi_M mi_38 rfl (md := 3) (mj := 180) rfl (by decide) mt_M (As := [.ref 359, .int e]) (rest := []) (jk_spl3 (K.at rfl) rfl rfl rfl (Nat.le_of_ble_eq_true rfl) (Nat.le_of_ble_eq_true rfl)) (mt_ok (v := fun j => [.int 0, (v 1), (v 2), (v 3), (v 4), (v 5), .ref 365, (v 7), (v 8), .int (nI (n + 12)), (v 10), (v 11), (v 12), (v 13), (v 14), (v 15), (v 16), (v 17), (v 18), (v 19), (v 20), (v 21), (v 22), (v 23), (v 24), (v 25), (v 26), (v 27)].getD j .null) (n := n + 12) (by omega) (by first | exact hl | (simp only [fB_len]; exact hl)) (K.sub ⟨rfl, rfl, trivial⟩)) ?_
    rintro r h9 ⟨rfl, K9⟩
    have K : KN h9 [(359, .inl (10, [.int 0, (v 1), (v 2), (v 3), (v 4), (v 5), .ref 365, (v 7), (v 8), .int (nI (n + 16)), (v 10), (v 11), (v 12), (v 13), (v 14), (v 15), (v 16), (v 17), (v 18), (v 19), (v 20), (v 21), (v 22), (v 23), (v 24), (v 25), (v 26), (v 27)])), (365, .inr (.inl (0, (f9B yM e 4 (n + 12) (f9B yM c 4 (n + 8) (f9B yM b 4 (n + 4) (f9B yM a 4 n l)))))))] h0 := K.go K9 rfl rfl rfl
    clear K9
    show j_W jP _ 181 41 [(0, .ref 359), (1, .int a), (2, .int b), (3, .int c), (4, .int e), (5, .int f)] [] h9 _
    refine j_W.one mi_M mi_41 (by decide) (pcJ := 42) (stJ := [.ref 359]) rfl ?_
    refine j_W.one mi_M mi_42 (by decide) (pcJ := 44) (stJ := [.int f, .ref 359]) rfl ?_
    refine j_W.call mi_M mi_44 rfl (md := 3) (mj := 180) rfl (by decide) mt_M (As := [.ref 359, .int f]) (rest := []) (jk_spl3 (K.at rfl) rfl rfl rfl (Nat.le_of_ble_eq_true rfl) (Nat.le_of_ble_eq_true rfl)) (mt_ok (v := fun j => [.int 0, (v 1), (v 2), (v 3), (v 4), (v 5), .ref 365, (v 7), (v 8), .int (nI (n + 16)), (v 10), (v 11), (v 12), (v 13), (v 14), (v 15), (v 16), (v 17), (v 18), (v 19), (v 20), (v 21), (v 22), (v 23), (v 24), (v 25), (v 26), (v 27)].getD j .null) (n := n + 16) (by omega) (by first | exact hl | (simp only [fB_len]; exact hl)) (K.sub ⟨rfl, rfl, trivial⟩)) ?_
    rintro r h9 ⟨rfl, K9⟩
    have K : KN h9 [(359, .inl (10, [.int 0, (v 1), (v 2), (v 3), (v 4), (v 5), .ref 365, (v 7), (v 8), .int (nI (n + 20)), (v 10), (v 11), (v 12), (v 13), (v 14), (v 15), (v 16), (v 17), (v 18), (v 19), (v 20), (v 21), (v 22), (v 23), (v 24), (v 25), (v 26), (v 27)])), (365, .inr (.inl (0, (f9B yM f 4 (n + 16) (f9B yM e 4 (n + 12) (f9B yM c 4 (n + 8) (f9B yM b 4 (n + 4) (f9B yM a 4 n l))))))))] h0 := K.go K9 rfl rfl rfl
    clear K9
    show j_W jP _ 181 47 [(0, .ref 359), (1, .int a), (2, .int b), (3, .int c), (4, .int e), (5, .int f)] [] h9 _
    refine j_W.one mi_M mi_47 (by decide) (pcJ := 48) (stJ := [.ref 359]) rfl ?_
    refine j_W.getK mi_M mi_48 (ci := 10) (j := 9) rfl K rfl rfl ?_
    exact j_W.ret mi_M mi_51 rfl rfl (K.at (a := 365) rfl)
  · rw [jk_le] at c9; have c9 := of_decide_eq_false c9; rw [nI_toInt (by omega), show (700 : Int32).toInt = 700 from rfl] at c9
    rw [if_neg (by omega)]
    refine j_W.one mi_M mi_18 (by decide) (pcJ := 19) (stJ := [.int (-1)]) rfl ?_
    exact j_W.ret mi_M mi_19 rfl rfl (K.at (a := 365) rfl)
set_option maxRecDepth 100000 in
theorem xi9_M : j_meth jP 113 = some (yX9_feed, cX9_feed, 6, (some .int), 5, false, 9) := rfl
set_option maxRecDepth 100000 in
theorem xi9_0 : j_code jP 113 0 = some (.aload_n 0) := rfl
set_option maxRecDepth 100000 in
theorem xi9_1 : j_code jP 113 1 = some (.getfield 12) := rfl
set_option maxRecDepth 100000 in
theorem xi9_4 : j_code jP 113 4 = some (.bipush 20) := rfl
set_option maxRecDepth 100000 in
theorem xi9_6 : j_code jP 113 6 = some (.invokevirtual 73) := rfl
set_option maxRecDepth 100000 in
theorem xi9_9 : j_code jP 113 9 = some (.ifCond .ne 5) := rfl
set_option maxRecDepth 100000 in
theorem xi9_12 : j_code jP 113 12 = some (.iconst (-1)) := rfl
set_option maxRecDepth 100000 in
theorem xi9_13 : j_code jP 113 13 = some (.ireturn) := rfl
set_option maxRecDepth 100000 in
theorem xi9_14 : j_code jP 113 14 = some (.aload_n 0) := rfl
set_option maxRecDepth 100000 in
theorem xi9_15 : j_code jP 113 15 = some (.getfield 12) := rfl
set_option maxRecDepth 100000 in
theorem xi9_18 : j_code jP 113 18 = some (.iload_n 1) := rfl
set_option maxRecDepth 100000 in
theorem xi9_19 : j_code jP 113 19 = some (.invokevirtual 77) := rfl
set_option maxRecDepth 100000 in
theorem xi9_22 : j_code jP 113 22 = some (.aload_n 0) := rfl
set_option maxRecDepth 100000 in
theorem xi9_23 : j_code jP 113 23 = some (.getfield 12) := rfl
set_option maxRecDepth 100000 in
theorem xi9_26 : j_code jP 113 26 = some (.iload_n 2) := rfl
set_option maxRecDepth 100000 in
theorem xi9_27 : j_code jP 113 27 = some (.invokevirtual 77) := rfl
set_option maxRecDepth 100000 in
theorem xi9_30 : j_code jP 113 30 = some (.aload_n 0) := rfl
set_option maxRecDepth 100000 in
theorem xi9_31 : j_code jP 113 31 = some (.getfield 12) := rfl
set_option maxRecDepth 100000 in
theorem xi9_34 : j_code jP 113 34 = some (.iload_n 3) := rfl
set_option maxRecDepth 100000 in
theorem xi9_35 : j_code jP 113 35 = some (.invokevirtual 77) := rfl
set_option maxRecDepth 100000 in
theorem xi9_38 : j_code jP 113 38 = some (.aload_n 0) := rfl
set_option maxRecDepth 100000 in
theorem xi9_39 : j_code jP 113 39 = some (.getfield 12) := rfl
set_option maxRecDepth 100000 in
theorem xi9_42 : j_code jP 113 42 = some (.iload 4) := rfl
set_option maxRecDepth 100000 in
theorem xi9_44 : j_code jP 113 44 = some (.invokevirtual 77) := rfl
set_option maxRecDepth 100000 in
theorem xi9_47 : j_code jP 113 47 = some (.aload_n 0) := rfl
set_option maxRecDepth 100000 in
theorem xi9_48 : j_code jP 113 48 = some (.getfield 12) := rfl
set_option maxRecDepth 100000 in
theorem xi9_51 : j_code jP 113 51 = some (.iload 5) := rfl
set_option maxRecDepth 100000 in
theorem xi9_53 : j_code jP 113 53 = some (.invokevirtual 77) := rfl
set_option maxRecDepth 100000 in
theorem xi9_56 : j_code jP 113 56 = some (.aload_n 0) := rfl
set_option maxRecDepth 100000 in
theorem xi9_57 : j_code jP 113 57 = some (.getfield 12) := rfl
set_option maxRecDepth 100000 in
theorem xi9_60 : j_code jP 113 60 = some (.getfield 81) := rfl
set_option maxRecDepth 100000 in
theorem xi9_63 : j_code jP 113 63 = some (.ireturn) := rfl
theorem xi9_ok {v w : Nat → Value} {d n : Nat} {a b c e f : Int32} {l : List Int32} {h h0 : J_H} (hn : n ≤ 700) (hl : l.length = 700) (K : KN h [(0, .inl (9, [.ref 1, (w 1), (w 2), (w 3), (w 4), (w 5), (w 6), (w 7), (w 8)])), (1, .inl (8, [.ref 2, .int (nI n), (v 2), (v 3), (v 4), (v 5), (v 6), (v 7)])), (2, .inr (.inl (1, l)))] h0) : j_W jP (d + 1 + 1) 113 0 (lv_args 0 [.ref 0, .int a, .int b, .int c, .int e, .int f]) [] h (fun rv h' => h'[2]? = some (.inr (.inl (1, if n + 20 ≤ 700 then (f9B yX f 4 (n + 16) (f9B yX e 4 (n + 12) (f9B yX c 4 (n + 8) (f9B yX b 4 (n + 4) (f9B yX a 4 n l))))) else l)))) := by
  show j_W jP (d + 1 + 1) 113 0 [(0, .ref 0), (1, .int a), (2, .int b), (3, .int c), (4, .int e), (5, .int f)] [] h _
  refine j_W.one xi9_M xi9_0 (by decide) (pcJ := 1) (stJ := [.ref 0]) rfl ?_
  refine j_W.getK xi9_M xi9_1 (ci := 9) (j := 0) rfl K rfl rfl ?_
  refine j_W.one xi9_M xi9_4 (by decide) (pcJ := 6) (stJ := [.int 20, .ref 1]) rfl ?_
  refine j_W.call xi9_M xi9_6 rfl (md := 3) (mj := 103) rfl (by decide) xy_M (As := [.ref 1, .int (nI 20)]) (rest := []) (jk_spl3 (K.at rfl) rfl rfl rfl (Nat.le_of_ble_eq_true rfl) (Nat.le_of_ble_eq_true rfl)) (xy_ok hn (by omega) (K.sub ⟨rfl, trivial⟩)) ?_
  rintro r hz ⟨rfl, ez⟩
  rw [ez]
  clear ez
  show j_W jP _ 113 9 [(0, .ref 0), (1, .int a), (2, .int b), (3, .int c), (4, .int e), (5, .int f)] [.int (bif decide (n + 20 ≤ 700) then 1 else 0)] h _
  rcases Decidable.em (n + 20 ≤ 700) with h20 | h20
  · rw [if_pos h20, decide_eq_true h20]
    show j_W jP _ 113 9 [(0, .ref 0), (1, .int a), (2, .int b), (3, .int c), (4, .int e), (5, .int f)] [.int 1] h _
    refine j_W.ifc xi9_M xi9_9 (t := 14) rfl (fun c9 => ?_) (fun c9 => ?_)
    · clear c9
      refine j_W.one xi9_M xi9_14 (by decide) (pcJ := 15) (stJ := [.ref 0]) rfl ?_
      refine j_W.getK xi9_M xi9_15 (ci := 9) (j := 0) rfl K rfl rfl ?_
      refine j_W.one xi9_M xi9_18 (by decide) (pcJ := 19) (stJ := [.int a, .ref 1]) rfl ?_
      refine j_W.call xi9_M xi9_19 rfl (md := 3) (mj := 104) rfl (by decide) xz_M (As := [.ref 1, .int a]) (rest := []) (jk_spl3 (K.at rfl) rfl rfl rfl (Nat.le_of_ble_eq_true rfl) (Nat.le_of_ble_eq_true rfl)) (xz_ok (n := n) (by omega) (by first | exact hl | (simp only [fB_len]; exact hl)) (K.sub ⟨rfl, rfl, trivial⟩)) ?_
      rintro r h9 ⟨rfl, K9⟩
      have K : KN h9 [(0, .inl (9, [.ref 1, (w 1), (w 2), (w 3), (w 4), (w 5), (w 6), (w 7), (w 8)])), (1, .inl (8, [.ref 2, .int (nI (n + 4)), (v 2), (v 3), (v 4), (v 5), (v 6), (v 7)])), (2, .inr (.inl (1, (f9B yX a 4 n l))))] h0 := K.go K9 rfl rfl rfl
      clear K9
      show j_W jP _ 113 22 [(0, .ref 0), (1, .int a), (2, .int b), (3, .int c), (4, .int e), (5, .int f)] [] h9 _
      refine j_W.one xi9_M xi9_22 (by decide) (pcJ := 23) (stJ := [.ref 0]) rfl ?_
      refine j_W.getK xi9_M xi9_23 (ci := 9) (j := 0) rfl K rfl rfl ?_
      refine j_W.one xi9_M xi9_26 (by decide) (pcJ := 27) (stJ := [.int b, .ref 1]) rfl ?_
      refine j_W.call xi9_M xi9_27 rfl (md := 3) (mj := 104) rfl (by decide) xz_M (As := [.ref 1, .int b]) (rest := []) (jk_spl3 (K.at rfl) rfl rfl rfl (Nat.le_of_ble_eq_true rfl) (Nat.le_of_ble_eq_true rfl)) (xz_ok (n := n + 4) (by omega) (by first | exact hl | (simp only [fB_len]; exact hl)) (K.sub ⟨rfl, rfl, trivial⟩)) ?_
      rintro r h9 ⟨rfl, K9⟩
      have K : KN h9 [(0, .inl (9, [.ref 1, (w 1), (w 2), (w 3), (w 4), (w 5), (w 6), (w 7), (w 8)])), (1, .inl (8, [.ref 2, .int (nI (n + 8)), (v 2), (v 3), (v 4), (v 5), (v 6), (v 7)])), (2, .inr (.inl (1, (f9B yX b 4 (n + 4) (f9B yX a 4 n l)))))] h0 := K.go K9 rfl rfl rfl
      clear K9
      show j_W jP _ 113 30 [(0, .ref 0), (1, .int a), (2, .int b), (3, .int c), (4, .int e), (5, .int f)] [] h9 _
      refine j_W.one xi9_M xi9_30 (by decide) (pcJ := 31) (stJ := [.ref 0]) rfl ?_
      refine j_W.getK xi9_M xi9_31 (ci := 9) (j := 0) rfl K rfl rfl ?_
      refine j_W.one xi9_M xi9_34 (by decide) (pcJ := 35) (stJ := [.int c, .ref 1]) rfl ?_
      refine j_W.call xi9_M xi9_35 rfl (md := 3) (mj := 104) rfl (by decide) xz_M (As := [.ref 1, .int c]) (rest := []) (jk_spl3 (K.at rfl) rfl rfl rfl (Nat.le_of_ble_eq_true rfl) (Nat.le_of_ble_eq_true rfl)) (xz_ok (n := n + 8) (by omega) (by first | exact hl | (simp only [fB_len]; exact hl)) (K.sub ⟨rfl, rfl, trivial⟩)) ?_
      rintro r h9 ⟨rfl, K9⟩
      have K : KN h9 [(0, .inl (9, [.ref 1, (w 1), (w 2), (w 3), (w 4), (w 5), (w 6), (w 7), (w 8)])), (1, .inl (8, [.ref 2, .int (nI (n + 12)), (v 2), (v 3), (v 4), (v 5), (v 6), (v 7)])), (2, .inr (.inl (1, (f9B yX c 4 (n + 8) (f9B yX b 4 (n + 4) (f9B yX a 4 n l))))))] h0 := K.go K9 rfl rfl rfl
      clear K9
      show j_W jP _ 113 38 [(0, .ref 0), (1, .int a), (2, .int b), (3, .int c), (4, .int e), (5, .int f)] [] h9 _
      refine j_W.one xi9_M xi9_38 (by decide) (pcJ := 39) (stJ := [.ref 0]) rfl ?_
      refine j_W.getK xi9_M xi9_39 (ci := 9) (j := 0) rfl K rfl rfl ?_
      refine j_W.one xi9_M xi9_42 (by decide) (pcJ := 44) (stJ := [.int e, .ref 1]) rfl ?_
      refine j_W.call xi9_M xi9_44 rfl (md := 3) (mj := 104) rfl (by decide) xz_M (As := [.ref 1, .int e]) (rest := []) (jk_spl3 (K.at rfl) rfl rfl rfl (Nat.le_of_ble_eq_true rfl) (Nat.le_of_ble_eq_true rfl)) (xz_ok (n := n + 12) (by omega) (by first | exact hl | (simp only [fB_len]; exact hl)) (K.sub ⟨rfl, rfl, trivial⟩)) ?_
      rintro r h9 ⟨rfl, K9⟩
      have K : KN h9 [(0, .inl (9, [.ref 1, (w 1), (w 2), (w 3), (w 4), (w 5), (w 6), (w 7), (w 8)])), (1, .inl (8, [.ref 2, .int (nI (n + 16)), (v 2), (v 3), (v 4), (v 5), (v 6), (v 7)])), (2, .inr (.inl (1, (f9B yX e 4 (n + 12) (f9B yX c 4 (n + 8) (f9B yX b 4 (n + 4) (f9B yX a 4 n l)))))))] h0 := K.go K9 rfl rfl rfl
      clear K9
      show j_W jP _ 113 47 [(0, .ref 0), (1, .int a), (2, .int b), (3, .int c), (4, .int e), (5, .int f)] [] h9 _
      refine j_W.one xi9_M xi9_47 (by decide) (pcJ := 48) (stJ := [.ref 0]) rfl ?_
      refine j_W.getK xi9_M xi9_48 (ci := 9) (j := 0) rfl K rfl rfl ?_
      refine j_W.one xi9_M xi9_51 (by decide) (pcJ := 53) (stJ := [.int f, .ref 1]) rfl ?_
      refine j_W.call xi9_M xi9_53 rfl (md := 3) (mj := 104) rfl (by decide) xz_M (As := [.ref 1, .int f]) (rest := []) (jk_spl3 (K.at rfl) rfl rfl rfl (Nat.le_of_ble_eq_true rfl) (Nat.le_of_ble_eq_true rfl)) (xz_ok (n := n + 16) (by omega) (by first | exact hl | (simp only [fB_len]; exact hl)) (K.sub ⟨rfl, rfl, trivial⟩)) ?_
      rintro r h9 ⟨rfl, K9⟩
      have K : KN h9 [(0, .inl (9, [.ref 1, (w 1), (w 2), (w 3), (w 4), (w 5), (w 6), (w 7), (w 8)])), (1, .inl (8, [.ref 2, .int (nI (n + 20)), (v 2), (v 3), (v 4), (v 5), (v 6), (v 7)])), (2, .inr (.inl (1, (f9B yX f 4 (n + 16) (f9B yX e 4 (n + 12) (f9B yX c 4 (n + 8) (f9B yX b 4 (n + 4) (f9B yX a 4 n l))))))))] h0 := K.go K9 rfl rfl rfl
      clear K9
      show j_W jP _ 113 56 [(0, .ref 0), (1, .int a), (2, .int b), (3, .int c), (4, .int e), (5, .int f)] [] h9 _
      refine j_W.one xi9_M xi9_56 (by decide) (pcJ := 57) (stJ := [.ref 0]) rfl ?_
      refine j_W.getK xi9_M xi9_57 (ci := 9) (j := 0) rfl K rfl rfl ?_
      refine j_W.getK xi9_M xi9_60 (ci := 8) (j := 1) rfl K rfl rfl ?_
      exact j_W.ret xi9_M xi9_63 rfl rfl (K.at (a := 2) rfl)
    · exact absurd c9 (by decide)
  · rw [if_neg h20, decide_eq_false h20]
    show j_W jP _ 113 9 [(0, .ref 0), (1, .int a), (2, .int b), (3, .int c), (4, .int e), (5, .int f)] [.int 0] h _
    refine j_W.ifc xi9_M xi9_9 (t := 14) rfl (fun c9 => ?_) (fun c9 => ?_)
    · exact absurd c9 (by decide)
    · refine j_W.one xi9_M xi9_12 (by decide) (pcJ := 13) (stJ := [.int (-1)]) rfl ?_
      exact j_W.ret xi9_M xi9_13 rfl rfl (K.at (a := 2) rfl)

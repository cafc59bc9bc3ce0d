/-! the reference's readers: written by wip/jk/gen_mread.py -/
def PN (u : Nat → Value) (e : Nat) (m : List Int32) (h0 : J_H) (R : rM) (rv : Option Value) (h' : J_H) : Prop := rv = some (.int (bif R.1 then 1 else 0)) ∧ KN h' [(359, .inl (10, [(u 0), (u 1), .ref 361, (u 3), (u 4), (u 5), .ref 365, (u 7), .ref 367, (u 9), (u 10), (u 11), (u 12), (u 13), .int (nI e), .int R.2.2.1.2.2.1, .int (nI R.2.2.1.1), .int R.2.2.1.2.1, .int R.2.2.1.2.2.2.2, .int R.2.1.1, .int R.2.1.2, .long R.2.2.1.2.2.2.1, (u 22), (u 23), (u 24), (u 25), (u 26), (u 27)])), (361, .inr (.inl (0, R.2.2.2.1))), (365, .inr (.inl (0, m))), (367, .inr (.inr (.inl R.2.2.2.2)))] h0
set_option maxRecDepth 100000 in
theorem mw_M : j_meth jP 187 = some (yX10_wordOf, cX10_wordOf, 1, (some .long), 1, false, 10) := rfl
set_option maxRecDepth 100000 in
theorem mw_0 : j_code jP 187 0 = some (.iload_n 0) := rfl
set_option maxRecDepth 100000 in
theorem mw_1 : j_code jP 187 1 = some (.tableswitch 84 0 2 #[27, 54, 72]) := rfl
set_option maxRecDepth 100000 in
theorem mw_28 : j_code jP 187 28 = some (.bipush 115) := rfl
set_option maxRecDepth 100000 in
theorem mw_30 : j_code jP 187 30 = some (.bipush 116) := rfl
set_option maxRecDepth 100000 in
theorem mw_32 : j_code jP 187 32 = some (.bipush 97) := rfl
set_option maxRecDepth 100000 in
theorem mw_34 : j_code jP 187 34 = some (.bipush 116) := rfl
set_option maxRecDepth 100000 in
theorem mw_36 : j_code jP 187 36 = some (.invokestatic 114) := rfl
set_option maxRecDepth 100000 in
theorem mw_39 : j_code jP 187 39 = some (.bipush 15) := rfl
set_option maxRecDepth 100000 in
theorem mw_41 : j_code jP 187 41 = some (.lshl) := rfl
set_option maxRecDepth 100000 in
theorem mw_42 : j_code jP 187 42 = some (.ldc2_w 118) := rfl
set_option maxRecDepth 100000 in
theorem mw_45 : j_code jP 187 45 = some (.lor) := rfl
set_option maxRecDepth 100000 in
theorem mw_46 : j_code jP 187 46 = some (.ldc2_w 120) := rfl
set_option maxRecDepth 100000 in
theorem mw_49 : j_code jP 187 49 = some (.lor) := rfl
set_option maxRecDepth 100000 in
theorem mw_50 : j_code jP 187 50 = some (.ldc2_w 122) := rfl
set_option maxRecDepth 100000 in
theorem mw_53 : j_code jP 187 53 = some (.lor) := rfl
set_option maxRecDepth 100000 in
theorem mw_54 : j_code jP 187 54 = some (.lreturn) := rfl
set_option maxRecDepth 100000 in
theorem mw_55 : j_code jP 187 55 = some (.bipush 116) := rfl
set_option maxRecDepth 100000 in
theorem mw_57 : j_code jP 187 57 = some (.bipush 114) := rfl
set_option maxRecDepth 100000 in
theorem mw_59 : j_code jP 187 59 = some (.bipush 97) := rfl
set_option maxRecDepth 100000 in
theorem mw_61 : j_code jP 187 61 = some (.bipush 105) := rfl
set_option maxRecDepth 100000 in
theorem mw_63 : j_code jP 187 63 = some (.invokestatic 114) := rfl
set_option maxRecDepth 100000 in
theorem mw_66 : j_code jP 187 66 = some (.iconst 5) := rfl
set_option maxRecDepth 100000 in
theorem mw_67 : j_code jP 187 67 = some (.lshl) := rfl
set_option maxRecDepth 100000 in
theorem mw_68 : j_code jP 187 68 = some (.ldc2_w 122) := rfl
set_option maxRecDepth 100000 in
theorem mw_71 : j_code jP 187 71 = some (.lor) := rfl
set_option maxRecDepth 100000 in
theorem mw_72 : j_code jP 187 72 = some (.lreturn) := rfl
set_option maxRecDepth 100000 in
theorem mw_73 : j_code jP 187 73 = some (.bipush 115) := rfl
set_option maxRecDepth 100000 in
theorem mw_75 : j_code jP 187 75 = some (.bipush 108) := rfl
set_option maxRecDepth 100000 in
theorem mw_77 : j_code jP 187 77 = some (.bipush 111) := rfl
set_option maxRecDepth 100000 in
theorem mw_79 : j_code jP 187 79 = some (.bipush 119) := rfl
set_option maxRecDepth 100000 in
theorem mw_81 : j_code jP 187 81 = some (.invokestatic 114) := rfl
set_option maxRecDepth 100000 in
theorem mw_84 : j_code jP 187 84 = some (.lreturn) := rfl
set_option maxRecDepth 100000 in
theorem mw_85 : j_code jP 187 85 = some (.bipush 119) := rfl
set_option maxRecDepth 100000 in
theorem mw_87 : j_code jP 187 87 = some (.bipush 101) := rfl
set_option maxRecDepth 100000 in
theorem mw_89 : j_code jP 187 89 = some (.bipush 105) := rfl
set_option maxRecDepth 100000 in
theorem mw_91 : j_code jP 187 91 = some (.bipush 103) := rfl
set_option maxRecDepth 100000 in
theorem mw_93 : j_code jP 187 93 = some (.invokestatic 114) := rfl
set_option maxRecDepth 100000 in
theorem mw_96 : j_code jP 187 96 = some (.bipush 10) := rfl
set_option maxRecDepth 100000 in
theorem mw_98 : j_code jP 187 98 = some (.lshl) := rfl
set_option maxRecDepth 100000 in
theorem mw_99 : j_code jP 187 99 = some (.ldc2_w 124) := rfl
set_option maxRecDepth 100000 in
theorem mw_102 : j_code jP 187 102 = some (.lor) := rfl
set_option maxRecDepth 100000 in
theorem mw_103 : j_code jP 187 103 = some (.ldc2_w 126) := rfl
set_option maxRecDepth 100000 in
theorem mw_106 : j_code jP 187 106 = some (.lor) := rfl
set_option maxRecDepth 100000 in
theorem mw_107 : j_code jP 187 107 = some (.lreturn) := rfl
set_option maxRecDepth 100000 in
theorem mw_0k {d : Nat} {h : J_H} : j_W jP (d + 1) 187 0 (lv_args 0 [.int 0]) [] h (fun rv h' => rv = some (.long W0) ∧ h' = h) := ⟨60, some (.long W0), h, rfl, rfl, rfl⟩
set_option maxRecDepth 100000 in
theorem mw_1k {d : Nat} {h : J_H} : j_W jP (d + 1) 187 0 (lv_args 0 [.int 1]) [] h (fun rv h' => rv = some (.long W1) ∧ h' = h) := ⟨60, some (.long W1), h, rfl, rfl, rfl⟩
set_option maxRecDepth 100000 in
theorem mw_2k {d : Nat} {h : J_H} : j_W jP (d + 1) 187 0 (lv_args 0 [.int 2]) [] h (fun rv h' => rv = some (.long W2) ∧ h' = h) := ⟨60, some (.long W2), h, rfl, rfl, rfl⟩
set_option maxRecDepth 100000 in
theorem mw_3k {d : Nat} {h : J_H} : j_W jP (d + 1) 187 0 (lv_args 0 [.int 3]) [] h (fun rv h' => rv = some (.long W3) ∧ h' = h) := ⟨60, some (.long W3), h, rfl, rfl, rfl⟩
set_option maxRecDepth 100000 in
theorem mo_M : j_meth jP 188 = some (yX10_isWord, cX10_isWord, 2, (some .boolean), 1, false, 10) := rfl
set_option maxRecDepth 100000 in
theorem mo_0 : j_code jP 188 0 = some (.aload_n 0) := rfl
set_option maxRecDepth 100000 in
theorem mo_1 : j_code jP 188 1 = some (.getfield 96) := rfl
set_option maxRecDepth 100000 in
theorem mo_4 : j_code jP 188 4 = some (.iconst 2) := rfl
set_option maxRecDepth 100000 in
theorem mo_5 : j_code jP 188 5 = some (.if_icmp .ne 19) := rfl
set_option maxRecDepth 100000 in
theorem mo_8 : j_code jP 188 8 = some (.aload_n 0) := rfl
set_option maxRecDepth 100000 in
theorem mo_9 : j_code jP 188 9 = some (.getfield 102) := rfl
set_option maxRecDepth 100000 in
theorem mo_12 : j_code jP 188 12 = some (.iload_n 1) := rfl
set_option maxRecDepth 100000 in
theorem mo_13 : j_code jP 188 13 = some (.invokestatic 128) := rfl
set_option maxRecDepth 100000 in
theorem mo_16 : j_code jP 188 16 = some (.lcmp) := rfl
set_option maxRecDepth 100000 in
theorem mo_17 : j_code jP 188 17 = some (.ifCond .ne 7) := rfl
set_option maxRecDepth 100000 in
theorem mo_20 : j_code jP 188 20 = some (.iconst 1) := rfl
set_option maxRecDepth 100000 in
theorem mo_21 : j_code jP 188 21 = some (.goto 4) := rfl
set_option maxRecDepth 100000 in
theorem mo_24 : j_code jP 188 24 = some (.iconst 0) := rfl
set_option maxRecDepth 100000 in
theorem mo_25 : j_code jP 188 25 = some (.ireturn) := rfl
theorem mo_ok0 {u : Nat → Value} {e : Nat} {h h0 : J_H} {d : Nat} {F : Int32 × Int32} {y : rK}   (K : KN h [(359, .inl (10, [(u 0), (u 1), .ref 361, (u 3), (u 4), (u 5), .ref 365, (u 7), .ref 367, (u 9), (u 10), (u 11), (u 12), (u 13), .int (nI e), .int y.2.2.1, .int (nI y.1), .int y.2.1, .int y.2.2.2.2, .int F.1, .int F.2, .long y.2.2.2.1, (u 22), (u 23), (u 24), (u 25), (u 26), (u 27)]))] h0) : j_W jP (d + 1 + 1) 188 0 (lv_args 0 [.ref 359, .int 0]) [] h (fun rv h' => rv = some (.int (if y.2.1 = 2 ∧ y.2.2.2.1 = W0 then 1 else 0)) ∧ h' = h) := by
  show j_W jP (d + 1 + 1) 188 0 [(0, .ref 359), (1, .int 0)] [] h _
  refine j_W.one mo_M mo_0 (by decide) (pcJ := 1) (stJ := [.ref 359]) rfl ?_
  refine j_W.getK mo_M mo_1 (ci := 10) (j := 17) rfl K rfl rfl ?_
  refine j_W.one mo_M mo_4 (by decide) (pcJ := 5) (stJ := [.int 2, .int y.2.1]) rfl ?_
  refine j_W.icmp mo_M mo_5 (t := 24) rfl (fun c => ?_) (fun c => ?_)
  · have c : ¬ y.2.1 = 2 := by simpa [j_cond] using c
    rw [if_neg (fun z => c z.1)]
    refine j_W.one mo_M mo_24 (by decide) (pcJ := 25) (stJ := [.int 0]) rfl ?_
    refine j_W.ret mo_M mo_25 rfl rfl ⟨rfl, rfl⟩
  · have c1 : y.2.1 = 2 := by simpa [j_cond] using c
    clear c
    refine j_W.one mo_M mo_8 (by decide) (pcJ := 9) (stJ := [.ref 359]) rfl ?_
    refine j_W.getK mo_M mo_9 (ci := 10) (j := 21) rfl K rfl rfl ?_
    refine j_W.one mo_M mo_12 (by decide) (pcJ := 13) (stJ := [.int 0, .long y.2.2.2.1]) rfl ?_
    refine j_W.call mo_M mo_13 rfl (md := 2) (mj := 187) rfl (by decide) mw_M (As := [.int 0]) (rest := [.long y.2.2.2.1]) (jk_spl2 rfl rfl (Nat.le_of_ble_eq_true rfl) (Nat.le_of_ble_eq_true rfl)) (mw_0k) ?_
    rintro r hz ⟨rfl, ez⟩
    rw [ez]
    clear ez
    show j_W jP _ 188 16 [(0, .ref 359), (1, .int 0)] [.long W0, .long y.2.2.2.1] h _
    refine j_W.one mo_M mo_16 (by decide) (pcJ := 17) (stJ := [.int (lg_cmp y.2.2.2.1 W0)]) rfl ?_
    refine j_W.ifc mo_M mo_17 (t := 24) rfl (fun c => ?_) (fun c => ?_)
    · rw [jk_lcmp] at c; have c : ¬ y.2.2.2.1 = W0 := by simpa using c
      rw [if_neg (fun z => c z.2)]
      refine j_W.one mo_M mo_24 (by decide) (pcJ := 25) (stJ := [.int 0]) rfl ?_
      refine j_W.ret mo_M mo_25 rfl rfl ⟨rfl, rfl⟩
    · rw [jk_lcmp] at c; have c : y.2.2.2.1 = W0 := by simpa using c
      rw [if_pos ⟨c1, c⟩]
      refine j_W.one mo_M mo_20 (by decide) (pcJ := 21) (stJ := [.int 1]) rfl ?_
      refine j_W.gto mo_M mo_21 (t := 25) rfl ?_
      refine j_W.ret mo_M mo_25 rfl rfl ⟨rfl, rfl⟩
theorem mo_ok1 {u : Nat → Value} {e : Nat} {h h0 : J_H} {d : Nat} {F : Int32 × Int32} {y : rK}   (K : KN h [(359, .inl (10, [(u 0), (u 1), .ref 361, (u 3), (u 4), (u 5), .ref 365, (u 7), .ref 367, (u 9), (u 10), (u 11), (u 12), (u 13), .int (nI e), .int y.2.2.1, .int (nI y.1), .int y.2.1, .int y.2.2.2.2, .int F.1, .int F.2, .long y.2.2.2.1, (u 22), (u 23), (u 24), (u 25), (u 26), (u 27)]))] h0) : j_W jP (d + 1 + 1) 188 0 (lv_args 0 [.ref 359, .int 1]) [] h (fun rv h' => rv = some (.int (if y.2.1 = 2 ∧ y.2.2.2.1 = W1 then 1 else 0)) ∧ h' = h) := by
  show j_W jP (d + 1 + 1) 188 0 [(0, .ref 359), (1, .int 1)] [] h _
  refine j_W.one mo_M mo_0 (by decide) (pcJ := 1) (stJ := [.ref 359]) rfl ?_
  refine j_W.getK mo_M mo_1 (ci := 10) (j := 17) rfl K rfl rfl ?_
  refine j_W.one mo_M mo_4 (by decide) (pcJ := 5) (stJ := [.int 2, .int y.2.1]) rfl ?_
  refine j_W.icmp mo_M mo_5 (t := 24) rfl (fun c => ?_) (fun c => ?_)
  · have c : ¬ y.2.1 = 2 := by simpa [j_cond] using c
    rw [if_neg (fun z => c z.1)]
    refine j_W.one mo_M mo_24 (by decide) (pcJ := 25) (stJ := [.int 0]) rfl ?_
    refine j_W.ret mo_M mo_25 rfl rfl ⟨rfl, rfl⟩
  · have c1 : y.2.1 = 2 := by simpa [j_cond] using c
    clear c
    refine j_W.one mo_M mo_8 (by decide) (pcJ := 9) (stJ := [.ref 359]) rfl ?_
    refine j_W.getK mo_M mo_9 (ci := 10) (j := 21) rfl K rfl rfl ?_
    refine j_W.one mo_M mo_12 (by decide) (pcJ := 13) (stJ := [.int 1, .long y.2.2.2.1]) rfl ?_
    refine j_W.call mo_M mo_13 rfl (md := 2) (mj := 187) rfl (by decide) mw_M (As := [.int 1]) (rest := [.long y.2.2.2.1]) (jk_spl2 rfl rfl (Nat.le_of_ble_eq_true rfl) (Nat.le_of_ble_eq_true rfl)) (mw_1k) ?_
    rintro r hz ⟨rfl, ez⟩
    rw [ez]
    clear ez
    show j_W jP _ 188 16 [(0, .ref 359), (1, .int 1)] [.long W1, .long y.2.2.2.1] h _
    refine j_W.one mo_M mo_16 (by decide) (pcJ := 17) (stJ := [.int (lg_cmp y.2.2.2.1 W1)]) rfl ?_
    refine j_W.ifc mo_M mo_17 (t := 24) rfl (fun c => ?_) (fun c => ?_)
    · rw [jk_lcmp] at c; have c : ¬ y.2.2.2.1 = W1 := by simpa using c
      rw [if_neg (fun z => c z.2)]
      refine j_W.one mo_M mo_24 (by decide) (pcJ := 25) (stJ := [.int 0]) rfl ?_
      refine j_W.ret mo_M mo_25 rfl rfl ⟨rfl, rfl⟩
    · rw [jk_lcmp] at c; have c : y.2.2.2.1 = W1 := by simpa using c
      rw [if_pos ⟨c1, c⟩]
      refine j_W.one mo_M mo_20 (by decide) (pcJ := 21) (stJ := [.int 1]) rfl ?_
      refine j_W.gto mo_M mo_21 (t := 25) rfl ?_
      refine j_W.ret mo_M mo_25 rfl rfl ⟨rfl, rfl⟩
theorem mo_ok2 {u : Nat → Value} {e : Nat} {h h0 : J_H} {d : Nat} {F : Int32 × Int32} {y : rK}   (K : KN h [(359, .inl (10, [(u 0), (u 1), .ref 361, (u 3), (u 4), (u 5), .ref 365, (u 7), .ref 367, (u 9), (u 10), (u 11), (u 12), (u 13), .int (nI e), .int y.2.2.1, .int (nI y.1), .int y.2.1, .int y.2.2.2.2, .int F.1, .int F.2, .long y.2.2.2.1, (u 22), (u 23), (u 24), (u 25), (u 26), (u 27)]))] h0) : j_W jP (d + 1 + 1) 188 0 (lv_args 0 [.ref 359, .int 2]) [] h (fun rv h' => rv = some (.int (if y.2.1 = 2 ∧ y.2.2.2.1 = W2 then 1 else 0)) ∧ h' = h) := by
  show j_W jP (d + 1 + 1) 188 0 [(0, .ref 359), (1, .int 2)] [] h _
  refine j_W.one mo_M mo_0 (by decide) (pcJ := 1) (stJ := [.ref 359]) rfl ?_
  refine j_W.getK mo_M mo_1 (ci := 10) (j := 17) rfl K rfl rfl ?_
  refine j_W.one mo_M mo_4 (by decide) (pcJ := 5) (stJ := [.int 2, .int y.2.1]) rfl ?_
  refine j_W.icmp mo_M mo_5 (t := 24) rfl (fun c => ?_) (fun c => ?_)
  · have c : ¬ y.2.1 = 2 := by simpa [j_cond] using c
    rw [if_neg (fun z => c z.1)]
    refine j_W.one mo_M mo_24 (by decide) (pcJ := 25) (stJ := [.int 0]) rfl ?_
    refine j_W.ret mo_M mo_25 rfl rfl ⟨rfl, rfl⟩
  · have c1 : y.2.1 = 2 := by simpa [j_cond] using c
    clear c
    refine j_W.one mo_M mo_8 (by decide) (pcJ := 9) (stJ := [.ref 359]) rfl ?_
    refine j_W.getK mo_M mo_9 (ci := 10) (j := 21) rfl K rfl rfl ?_
    refine j_W.one mo_M mo_12 (by decide) (pcJ := 13) (stJ := [.int 2, .long y.2.2.2.1]) rfl ?_
    refine j_W.call mo_M mo_13 rfl (md := 2) (mj := 187) rfl (by decide) mw_M (As := [.int 2]) (rest := [.long y.2.2.2.1]) (jk_spl2 rfl rfl (Nat.le_of_ble_eq_true rfl) (Nat.le_of_ble_eq_true rfl)) (mw_2k) ?_
    rintro r hz ⟨rfl, ez⟩
    rw [ez]
    clear ez
    show j_W jP _ 188 16 [(0, .ref 359), (1, .int 2)] [.long W2, .long y.2.2.2.1] h _
    refine j_W.one mo_M mo_16 (by decide) (pcJ := 17) (stJ := [.int (lg_cmp y.2.2.2.1 W2)]) rfl ?_
    refine j_W.ifc mo_M mo_17 (t := 24) rfl (fun c => ?_) (fun c => ?_)
    · rw [jk_lcmp] at c; have c : ¬ y.2.2.2.1 = W2 := by simpa using c
      rw [if_neg (fun z => c z.2)]
      refine j_W.one mo_M mo_24 (by decide) (pcJ := 25) (stJ := [.int 0]) rfl ?_
      refine j_W.ret mo_M mo_25 rfl rfl ⟨rfl, rfl⟩
    · rw [jk_lcmp] at c; have c : y.2.2.2.1 = W2 := by simpa using c
      rw [if_pos ⟨c1, c⟩]
      refine j_W.one mo_M mo_20 (by decide) (pcJ := 21) (stJ := [.int 1]) rfl ?_
      refine j_W.gto mo_M mo_21 (t := 25) rfl ?_
      refine j_W.ret mo_M mo_25 rfl rfl ⟨rfl, rfl⟩
theorem mo_ok3 {u : Nat → Value} {e : Nat} {h h0 : J_H} {d : Nat} {F : Int32 × Int32} {y : rK}   (K : KN h [(359, .inl (10, [(u 0), (u 1), .ref 361, (u 3), (u 4), (u 5), .ref 365, (u 7), .ref 367, (u 9), (u 10), (u 11), (u 12), (u 13), .int (nI e), .int y.2.2.1, .int (nI y.1), .int y.2.1, .int y.2.2.2.2, .int F.1, .int F.2, .long y.2.2.2.1, (u 22), (u 23), (u 24), (u 25), (u 26), (u 27)]))] h0) : j_W jP (d + 1 + 1) 188 0 (lv_args 0 [.ref 359, .int 3]) [] h (fun rv h' => rv = some (.int (if y.2.1 = 2 ∧ y.2.2.2.1 = W3 then 1 else 0)) ∧ h' = h) := by
  show j_W jP (d + 1 + 1) 188 0 [(0, .ref 359), (1, .int 3)] [] h _
  refine j_W.one mo_M mo_0 (by decide) (pcJ := 1) (stJ := [.ref 359]) rfl ?_
  refine j_W.getK mo_M mo_1 (ci := 10) (j := 17) rfl K rfl rfl ?_
  refine j_W.one mo_M mo_4 (by decide) (pcJ := 5) (stJ := [.int 2, .int y.2.1]) rfl ?_
  refine j_W.icmp mo_M mo_5 (t := 24) rfl (fun c => ?_) (fun c => ?_)
  · have c : ¬ y.2.1 = 2 := by simpa [j_cond] using c
    rw [if_neg (fun z => c z.1)]
    refine j_W.one mo_M mo_24 (by decide) (pcJ := 25) (stJ := [.int 0]) rfl ?_
    refine j_W.ret mo_M mo_25 rfl rfl ⟨rfl, rfl⟩
  · have c1 : y.2.1 = 2 := by simpa [j_cond] using c
    clear c
    refine j_W.one mo_M mo_8 (by decide) (pcJ := 9) (stJ := [.ref 359]) rfl ?_
    refine j_W.getK mo_M mo_9 (ci := 10) (j := 21) rfl K rfl rfl ?_
    refine j_W.one mo_M mo_12 (by decide) (pcJ := 13) (stJ := [.int 3, .long y.2.2.2.1]) rfl ?_
    refine j_W.call mo_M mo_13 rfl (md := 2) (mj := 187) rfl (by decide) mw_M (As := [.int 3]) (rest := [.long y.2.2.2.1]) (jk_spl2 rfl rfl (Nat.le_of_ble_eq_true rfl) (Nat.le_of_ble_eq_true rfl)) (mw_3k) ?_
    rintro r hz ⟨rfl, ez⟩
    rw [ez]
    clear ez
    show j_W jP _ 188 16 [(0, .ref 359), (1, .int 3)] [.long W3, .long y.2.2.2.1] h _
    refine j_W.one mo_M mo_16 (by decide) (pcJ := 17) (stJ := [.int (lg_cmp y.2.2.2.1 W3)]) rfl ?_
    refine j_W.ifc mo_M mo_17 (t := 24) rfl (fun c => ?_) (fun c => ?_)
    · rw [jk_lcmp] at c; have c : ¬ y.2.2.2.1 = W3 := by simpa using c
      rw [if_neg (fun z => c z.2)]
      refine j_W.one mo_M mo_24 (by decide) (pcJ := 25) (stJ := [.int 0]) rfl ?_
      refine j_W.ret mo_M mo_25 rfl rfl ⟨rfl, rfl⟩
    · rw [jk_lcmp] at c; have c : y.2.2.2.1 = W3 := by simpa using c
      rw [if_pos ⟨c1, c⟩]
      refine j_W.one mo_M mo_20 (by decide) (pcJ := 21) (stJ := [.int 1]) rfl ?_
      refine j_W.gto mo_M mo_21 (t := 25) rfl ?_
      refine j_W.ret mo_M mo_25 rfl rfl ⟨rfl, rfl⟩
set_option maxRecDepth 100000 in
theorem mn_M : j_meth jP 189 = some (yX10_isName, cX10_isName, 1, (some .boolean), 0, false, 10) := rfl
set_option maxRecDepth 100000 in
theorem mn_0 : j_code jP 189 0 = some (.aload_n 0) := rfl
set_option maxRecDepth 100000 in
theorem mn_1 : j_code jP 189 1 = some (.getfield 96) := rfl
set_option maxRecDepth 100000 in
theorem mn_4 : j_code jP 189 4 = some (.iconst 2) := rfl
set_option maxRecDepth 100000 in
theorem mn_5 : j_code jP 189 5 = some (.if_icmp .ne 39) := rfl
set_option maxRecDepth 100000 in
theorem mn_8 : j_code jP 189 8 = some (.aload_n 0) := rfl
set_option maxRecDepth 100000 in
theorem mn_9 : j_code jP 189 9 = some (.iconst 0) := rfl
set_option maxRecDepth 100000 in
theorem mn_10 : j_code jP 189 10 = some (.invokevirtual 132) := rfl
set_option maxRecDepth 100000 in
theorem mn_13 : j_code jP 189 13 = some (.ifCond .ne 31) := rfl
set_option maxRecDepth 100000 in
theorem mn_16 : j_code jP 189 16 = some (.aload_n 0) := rfl
set_option maxRecDepth 100000 in
theorem mn_17 : j_code jP 189 17 = some (.iconst 1) := rfl
set_option maxRecDepth 100000 in
theorem mn_18 : j_code jP 189 18 = some (.invokevirtual 132) := rfl
set_option maxRecDepth 100000 in
theorem mn_21 : j_code jP 189 21 = some (.ifCond .ne 23) := rfl
set_option maxRecDepth 100000 in
theorem mn_24 : j_code jP 189 24 = some (.aload_n 0) := rfl
set_option maxRecDepth 100000 in
theorem mn_25 : j_code jP 189 25 = some (.iconst 2) := rfl
set_option maxRecDepth 100000 in
theorem mn_26 : j_code jP 189 26 = some (.invokevirtual 132) := rfl
set_option maxRecDepth 100000 in
theorem mn_29 : j_code jP 189 29 = some (.ifCond .ne 15) := rfl
set_option maxRecDepth 100000 in
theorem mn_32 : j_code jP 189 32 = some (.aload_n 0) := rfl
set_option maxRecDepth 100000 in
theorem mn_33 : j_code jP 189 33 = some (.iconst 3) := rfl
set_option maxRecDepth 100000 in
theorem mn_34 : j_code jP 189 34 = some (.invokevirtual 132) := rfl
set_option maxRecDepth 100000 in
theorem mn_37 : j_code jP 189 37 = some (.ifCond .ne 7) := rfl
set_option maxRecDepth 100000 in
theorem mn_40 : j_code jP 189 40 = some (.iconst 1) := rfl
set_option maxRecDepth 100000 in
theorem mn_41 : j_code jP 189 41 = some (.goto 4) := rfl
set_option maxRecDepth 100000 in
theorem mn_44 : j_code jP 189 44 = some (.iconst 0) := rfl
set_option maxRecDepth 100000 in
theorem mn_45 : j_code jP 189 45 = some (.ireturn) := rfl
theorem mn_ok {u : Nat → Value} {e : Nat} {h h0 : J_H} {d : Nat} {F : Int32 × Int32} {y : rK}   (K : KN h [(359, .inl (10, [(u 0), (u 1), .ref 361, (u 3), (u 4), (u 5), .ref 365, (u 7), .ref 367, (u 9), (u 10), (u 11), (u 12), (u 13), .int (nI e), .int y.2.2.1, .int (nI y.1), .int y.2.1, .int y.2.2.2.2, .int F.1, .int F.2, .long y.2.2.2.1, (u 22), (u 23), (u 24), (u 25), (u 26), (u 27)]))] h0) : j_W jP (d + 1 + 1 + 1) 189 0 (lv_args 0 [.ref 359]) [] h (fun rv h' => rv = some (.int (bif nmM y.2.1 y.2.2.2.1 then 1 else 0)) ∧ h' = h) := by
  show j_W jP (d + 1 + 1 + 1) 189 0 [(0, .ref 359)] [] h _
  refine j_W.one mn_M mn_0 (by decide) (pcJ := 1) (stJ := [.ref 359]) rfl ?_
  refine j_W.getK mn_M mn_1 (ci := 10) (j := 17) rfl K rfl rfl ?_
  refine j_W.one mn_M mn_4 (by decide) (pcJ := 5) (stJ := [.int 2, .int y.2.1]) rfl ?_
  refine j_W.icmp mn_M mn_5 (t := 44) rfl (fun c => ?_) (fun c => ?_)
  · have c : ¬ y.2.1 = 2 := by simpa [j_cond] using c
    rw [show nmM y.2.1 y.2.2.2.1 = false by unfold nmM; rw [decide_eq_false c]; rfl]
    refine j_W.one mn_M mn_44 (by decide) (pcJ := 45) (stJ := [.int 0]) rfl ?_
    refine j_W.ret mn_M mn_45 rfl rfl ⟨rfl, rfl⟩
  · have c1 : y.2.1 = 2 := by simpa [j_cond] using c
    clear c
    refine j_W.one mn_M mn_8 (by decide) (pcJ := 9) (stJ := [.ref 359]) rfl ?_
    refine j_W.one mn_M mn_9 (by decide) (pcJ := 10) (stJ := [.int 0, .ref 359]) rfl ?_
    refine j_W.call mn_M mn_10 rfl (md := 3) (mj := 188) rfl (by decide) mo_M (As := [.ref 359, .int 0]) (rest := []) (jk_spl3 (K.at rfl) rfl rfl rfl (Nat.le_of_ble_eq_true rfl) (Nat.le_of_ble_eq_true rfl)) (mo_ok0 (K.sub ⟨rfl, trivial⟩)) ?_
    rintro r hz ⟨rfl, ez⟩
    rw [ez]
    clear ez
    show j_W jP _ 189 13 [(0, .ref 359)] [.int (if y.2.1 = 2 ∧ y.2.2.2.1 = W0 then 1 else 0)] h _
    rcases Decidable.em (y.2.1 = 2 ∧ y.2.2.2.1 = W0) with hw0 | hw0
    · rw [if_pos hw0]
      refine j_W.ifc mn_M mn_13 (t := 44) rfl (fun c => ?_) (fun c => ?_)
      · rw [show nmM y.2.1 y.2.2.2.1 = false by unfold nmM ownM; rw [hw0.2]; simp]
        refine j_W.one mn_M mn_44 (by decide) (pcJ := 45) (stJ := [.int 0]) rfl ?_
        refine j_W.ret mn_M mn_45 rfl rfl ⟨rfl, rfl⟩
      · cases c
    · rw [if_neg hw0]
      refine j_W.ifc mn_M mn_13 (t := 44) rfl (fun c => ?_) (fun c => ?_)
      · cases c
      · clear c
        refine j_W.one mn_M mn_16 (by decide) (pcJ := 17) (stJ := [.ref 359]) rfl ?_
        refine j_W.one mn_M mn_17 (by decide) (pcJ := 18) (stJ := [.int 1, .ref 359]) rfl ?_
        refine j_W.call mn_M mn_18 rfl (md := 3) (mj := 188) rfl (by decide) mo_M (As := [.ref 359, .int 1]) (rest := []) (jk_spl3 (K.at rfl) rfl rfl rfl (Nat.le_of_ble_eq_true rfl) (Nat.le_of_ble_eq_true rfl)) (mo_ok1 (K.sub ⟨rfl, trivial⟩)) ?_
        rintro r hz ⟨rfl, ez⟩
        rw [ez]
        clear ez
        show j_W jP _ 189 21 [(0, .ref 359)] [.int (if y.2.1 = 2 ∧ y.2.2.2.1 = W1 then 1 else 0)] h _
        rcases Decidable.em (y.2.1 = 2 ∧ y.2.2.2.1 = W1) with hw1 | hw1
        · rw [if_pos hw1]
          refine j_W.ifc mn_M mn_21 (t := 44) rfl (fun c => ?_) (fun c => ?_)
          · rw [show nmM y.2.1 y.2.2.2.1 = false by unfold nmM ownM; rw [hw1.2]; simp]
            refine j_W.one mn_M mn_44 (by decide) (pcJ := 45) (stJ := [.int 0]) rfl ?_
            refine j_W.ret mn_M mn_45 rfl rfl ⟨rfl, rfl⟩
          · cases c
        · rw [if_neg hw1]
          refine j_W.ifc mn_M mn_21 (t := 44) rfl (fun c => ?_) (fun c => ?_)
          · cases c
          · clear c
            refine j_W.one mn_M mn_24 (by decide) (pcJ := 25) (stJ := [.ref 359]) rfl ?_
            refine j_W.one mn_M mn_25 (by decide) (pcJ := 26) (stJ := [.int 2, .ref 359]) rfl ?_
            refine j_W.call mn_M mn_26 rfl (md := 3) (mj := 188) rfl (by decide) mo_M (As := [.ref 359, .int 2]) (rest := []) (jk_spl3 (K.at rfl) rfl rfl rfl (Nat.le_of_ble_eq_true rfl) (Nat.le_of_ble_eq_true rfl)) (mo_ok2 (K.sub ⟨rfl, trivial⟩)) ?_
            rintro r hz ⟨rfl, ez⟩
            rw [ez]
            clear ez
            show j_W jP _ 189 29 [(0, .ref 359)] [.int (if y.2.1 = 2 ∧ y.2.2.2.1 = W2 then 1 else 0)] h _
            rcases Decidable.em (y.2.1 = 2 ∧ y.2.2.2.1 = W2) with hw2 | hw2
            · rw [if_pos hw2]
              refine j_W.ifc mn_M mn_29 (t := 44) rfl (fun c => ?_) (fun c => ?_)
              · rw [show nmM y.2.1 y.2.2.2.1 = false by unfold nmM ownM; rw [hw2.2]; simp]
                refine j_W.one mn_M mn_44 (by decide) (pcJ := 45) (stJ := [.int 0]) rfl ?_
                refine j_W.ret mn_M mn_45 rfl rfl ⟨rfl, rfl⟩
              · cases c
            · rw [if_neg hw2]
              refine j_W.ifc mn_M mn_29 (t := 44) rfl (fun c => ?_) (fun c => ?_)
              · cases c
              · clear c
                refine j_W.one mn_M mn_32 (by decide) (pcJ := 33) (stJ := [.ref 359]) rfl ?_
                refine j_W.one mn_M mn_33 (by decide) (pcJ := 34) (stJ := [.int 3, .ref 359]) rfl ?_
                refine j_W.call mn_M mn_34 rfl (md := 3) (mj := 188) rfl (by decide) mo_M (As := [.ref 359, .int 3]) (rest := []) (jk_spl3 (K.at rfl) rfl rfl rfl (Nat.le_of_ble_eq_true rfl) (Nat.le_of_ble_eq_true rfl)) (mo_ok3 (K.sub ⟨rfl, trivial⟩)) ?_
                rintro r hz ⟨rfl, ez⟩
                rw [ez]
                clear ez
                show j_W jP _ 189 37 [(0, .ref 359)] [.int (if y.2.1 = 2 ∧ y.2.2.2.1 = W3 then 1 else 0)] h _
                rcases Decidable.em (y.2.1 = 2 ∧ y.2.2.2.1 = W3) with hw3 | hw3
                · rw [if_pos hw3]
                  refine j_W.ifc mn_M mn_37 (t := 44) rfl (fun c => ?_) (fun c => ?_)
                  · rw [show nmM y.2.1 y.2.2.2.1 = false by unfold nmM ownM; rw [hw3.2]; simp]
                    refine j_W.one mn_M mn_44 (by decide) (pcJ := 45) (stJ := [.int 0]) rfl ?_
                    refine j_W.ret mn_M mn_45 rfl rfl ⟨rfl, rfl⟩
                  · cases c
                · rw [if_neg hw3]
                  refine j_W.ifc mn_M mn_37 (t := 44) rfl (fun c => ?_) (fun c => ?_)
                  · cases c
                  · clear c
                    rw [show nmM y.2.1 y.2.2.2.1 = true by unfold nmM ownM; rw [decide_eq_false (fun z => hw0 ⟨c1, z⟩), decide_eq_false (fun z => hw1 ⟨c1, z⟩), decide_eq_false (fun z => hw2 ⟨c1, z⟩), decide_eq_false (fun z => hw3 ⟨c1, z⟩), decide_eq_true c1]; rfl]
                    refine j_W.one mn_M mn_40 (by decide) (pcJ := 41) (stJ := [.int 1]) rfl ?_
                    refine j_W.gto mn_M mn_41 (t := 45) rfl ?_
                    refine j_W.ret mn_M mn_45 rfl rfl ⟨rfl, rfl⟩
set_option maxRecDepth 100000 in
theorem mx_M : j_meth jP 190 = some (yX10_bad, cX10_bad, 2, (some .boolean), 1, false, 10) := rfl
set_option maxRecDepth 100000 in
theorem mx_0 : j_code jP 190 0 = some (.aload_n 0) := rfl
set_option maxRecDepth 100000 in
theorem mx_1 : j_code jP 190 1 = some (.aload_n 0) := rfl
set_option maxRecDepth 100000 in
theorem mx_2 : j_code jP 190 2 = some (.getfield 96) := rfl
set_option maxRecDepth 100000 in
theorem mx_5 : j_code jP 190 5 = some (.iconst 1) := rfl
set_option maxRecDepth 100000 in
theorem mx_6 : j_code jP 190 6 = some (.if_icmp .ne 7) := rfl
set_option maxRecDepth 100000 in
theorem mx_9 : j_code jP 190 9 = some (.iconst 1) := rfl
set_option maxRecDepth 100000 in
theorem mx_10 : j_code jP 190 10 = some (.goto 4) := rfl
set_option maxRecDepth 100000 in
theorem mx_13 : j_code jP 190 13 = some (.iload_n 1) := rfl
set_option maxRecDepth 100000 in
theorem mx_14 : j_code jP 190 14 = some (.putfield 135) := rfl
set_option maxRecDepth 100000 in
theorem mx_17 : j_code jP 190 17 = some (.aload_n 0) := rfl
set_option maxRecDepth 100000 in
theorem mx_18 : j_code jP 190 18 = some (.aload_n 0) := rfl
set_option maxRecDepth 100000 in
theorem mx_19 : j_code jP 190 19 = some (.getfield 93) := rfl
set_option maxRecDepth 100000 in
theorem mx_22 : j_code jP 190 22 = some (.putfield 138) := rfl
set_option maxRecDepth 100000 in
theorem mx_25 : j_code jP 190 25 = some (.iconst 0) := rfl
set_option maxRecDepth 100000 in
theorem mx_26 : j_code jP 190 26 = some (.ireturn) := rfl
theorem mx_ok {u : Nat → Value} {e : Nat} {h h0 : J_H} {d : Nat} {F : Int32 × Int32} {y : rK} {k : Int32}  (K : KN h [(359, .inl (10, [(u 0), (u 1), .ref 361, (u 3), (u 4), (u 5), .ref 365, (u 7), .ref 367, (u 9), (u 10), (u 11), (u 12), (u 13), .int (nI e), .int y.2.2.1, .int (nI y.1), .int y.2.1, .int y.2.2.2.2, .int F.1, .int F.2, .long y.2.2.2.1, (u 22), (u 23), (u 24), (u 25), (u 26), (u 27)]))] h0) : j_W jP (d) 190 0 (lv_args 0 [.ref 359, .int k]) [] h (fun rv h' => rv = some (.int 0) ∧ KN h' [(359, .inl (10, [(u 0), (u 1), .ref 361, (u 3), (u 4), (u 5), .ref 365, (u 7), .ref 367, (u 9), (u 10), (u 11), (u 12), (u 13), .int (nI e), .int y.2.2.1, .int (nI y.1), .int y.2.1, .int y.2.2.2.2, .int ((bF y.2.1 k, y.2.2.1) : Int32 × Int32).1, .int ((bF y.2.1 k, y.2.2.1) : Int32 × Int32).2, .long y.2.2.2.1, (u 22), (u 23), (u 24), (u 25), (u 26), (u 27)]))] h0) := by
  show j_W jP (d) 190 0 [(0, .ref 359), (1, .int k)] [] h _
  refine j_W.one mx_M mx_0 (by decide) (pcJ := 1) (stJ := [.ref 359]) rfl ?_
  refine j_W.one mx_M mx_1 (by decide) (pcJ := 2) (stJ := [.ref 359, .ref 359]) rfl ?_
  refine j_W.getK mx_M mx_2 (ci := 10) (j := 17) rfl K rfl rfl ?_
  refine j_W.one mx_M mx_5 (by decide) (pcJ := 6) (stJ := [.int 1, .int y.2.1, .ref 359]) rfl ?_
  refine j_W.icmp mx_M mx_6 (t := 13) rfl (fun c => ?_) (fun c => ?_)
  · have c : ¬ y.2.1 = 1 := by simpa [j_cond] using c
    have e1 : bF y.2.1 k = k := if_neg c
    rw [e1]
    refine j_W.one mx_M mx_13 (by decide) (pcJ := 14) (stJ := [.int k, .ref 359]) rfl ?_
    refine j_W.putK mx_M mx_14 (ci := 10) (j := 19) (k' := [(359, .inl (10, [(u 0), (u 1), .ref 361, (u 3), (u 4), (u 5), .ref 365, (u 7), .ref 367, (u 9), (u 10), (u 11), (u 12), (u 13), .int (nI e), .int y.2.2.1, .int (nI y.1), .int y.2.1, .int y.2.2.2.2, .int k, .int F.2, .long y.2.2.2.1, (u 22), (u 23), (u 24), (u 25), (u 26), (u 27)]))]) rfl K rfl (Nat.le_of_ble_eq_true rfl) rfl (Or.inl rfl) rfl rfl (fun h K => ?_)
    refine j_W.one mx_M mx_17 (by decide) (pcJ := 18) (stJ := [.ref 359]) rfl ?_
    refine j_W.one mx_M mx_18 (by decide) (pcJ := 19) (stJ := [.ref 359, .ref 359]) rfl ?_
    refine j_W.getK mx_M mx_19 (ci := 10) (j := 15) rfl K rfl rfl ?_
    refine j_W.putK mx_M mx_22 (ci := 10) (j := 20) (k' := [(359, .inl (10, [(u 0), (u 1), .ref 361, (u 3), (u 4), (u 5), .ref 365, (u 7), .ref 367, (u 9), (u 10), (u 11), (u 12), (u 13), .int (nI e), .int y.2.2.1, .int (nI y.1), .int y.2.1, .int y.2.2.2.2, .int k, .int y.2.2.1, .long y.2.2.2.1, (u 22), (u 23), (u 24), (u 25), (u 26), (u 27)]))]) rfl K rfl (Nat.le_of_ble_eq_true rfl) rfl (Or.inl rfl) rfl rfl (fun h K => ?_)
    refine j_W.one mx_M mx_25 (by decide) (pcJ := 26) (stJ := [.int 0]) rfl ?_
    refine j_W.ret mx_M mx_26 rfl rfl ⟨rfl, K⟩
  · have c : y.2.1 = 1 := by simpa [j_cond] using c
    have e1 : bF y.2.1 k = 1 := if_pos c
    rw [e1]
    refine j_W.one mx_M mx_9 (by decide) (pcJ := 10) (stJ := [.int 1, .ref 359]) rfl ?_
    refine j_W.gto mx_M mx_10 (t := 14) rfl ?_
    refine j_W.putK mx_M mx_14 (ci := 10) (j := 19) (k' := [(359, .inl (10, [(u 0), (u 1), .ref 361, (u 3), (u 4), (u 5), .ref 365, (u 7), .ref 367, (u 9), (u 10), (u 11), (u 12), (u 13), .int (nI e), .int y.2.2.1, .int (nI y.1), .int y.2.1, .int y.2.2.2.2, .int 1, .int F.2, .long y.2.2.2.1, (u 22), (u 23), (u 24), (u 25), (u 26), (u 27)]))]) rfl K rfl (Nat.le_of_ble_eq_true rfl) rfl (Or.inl rfl) rfl rfl (fun h K => ?_)
    refine j_W.one mx_M mx_17 (by decide) (pcJ := 18) (stJ := [.ref 359]) rfl ?_
    refine j_W.one mx_M mx_18 (by decide) (pcJ := 19) (stJ := [.ref 359, .ref 359]) rfl ?_
    refine j_W.getK mx_M mx_19 (ci := 10) (j := 15) rfl K rfl rfl ?_
    refine j_W.putK mx_M mx_22 (ci := 10) (j := 20) (k' := [(359, .inl (10, [(u 0), (u 1), .ref 361, (u 3), (u 4), (u 5), .ref 365, (u 7), .ref 367, (u 9), (u 10), (u 11), (u 12), (u 13), .int (nI e), .int y.2.2.1, .int (nI y.1), .int y.2.1, .int y.2.2.2.2, .int 1, .int y.2.2.1, .long y.2.2.2.1, (u 22), (u 23), (u 24), (u 25), (u 26), (u 27)]))]) rfl K rfl (Nat.le_of_ble_eq_true rfl) rfl (Or.inl rfl) rfl rfl (fun h K => ?_)
    refine j_W.one mx_M mx_25 (by decide) (pcJ := 26) (stJ := [.int 0]) rfl ?_
    refine j_W.ret mx_M mx_26 rfl rfl ⟨rfl, K⟩
set_option maxRecDepth 100000 in
theorem me_M : j_meth jP 191 = some (yX10_readEnd, cX10_readEnd, 1, (some .boolean), 0, false, 10) := rfl
set_option maxRecDepth 100000 in
theorem me_0 : j_code jP 191 0 = some (.aload_n 0) := rfl
set_option maxRecDepth 100000 in
theorem me_1 : j_code jP 191 1 = some (.getfield 96) := rfl
set_option maxRecDepth 100000 in
theorem me_4 : j_code jP 191 4 = some (.iconst 4) := rfl
set_option maxRecDepth 100000 in
theorem me_5 : j_code jP 191 5 = some (.if_icmp .eq 9) := rfl
set_option maxRecDepth 100000 in
theorem me_8 : j_code jP 191 8 = some (.aload_n 0) := rfl
set_option maxRecDepth 100000 in
theorem me_9 : j_code jP 191 9 = some (.iconst 2) := rfl
set_option maxRecDepth 100000 in
theorem me_10 : j_code jP 191 10 = some (.invokevirtual 141) := rfl
set_option maxRecDepth 100000 in
theorem me_13 : j_code jP 191 13 = some (.ireturn) := rfl
set_option maxRecDepth 100000 in
theorem me_14 : j_code jP 191 14 = some (.aload_n 0) := rfl
set_option maxRecDepth 100000 in
theorem me_15 : j_code jP 191 15 = some (.invokevirtual 144) := rfl
set_option maxRecDepth 100000 in
theorem me_18 : j_code jP 191 18 = some (.iconst 1) := rfl
set_option maxRecDepth 100000 in
theorem me_19 : j_code jP 191 19 = some (.ireturn) := rfl
theorem me_ok {u : Nat → Value} {e : Nat} {m : List Int32} {h h0 : J_H} {d : Nat} {F : Int32 × Int32} {y : rK} {rd : List Int32} {rn : List Int64}  (hm : m.length = 700) (he : e ≤ 700) (hb : ∀ k, k < e → 0 ≤ (m.getD k 0).toInt) (hp : y.1 ≤ e) (hr : rd.length = 602) (hn : rn.length = 12) (K : KN h [(359, .inl (10, [(u 0), (u 1), .ref 361, (u 3), (u 4), (u 5), .ref 365, (u 7), .ref 367, (u 9), (u 10), (u 11), (u 12), (u 13), .int (nI e), .int y.2.2.1, .int (nI y.1), .int y.2.1, .int y.2.2.2.2, .int F.1, .int F.2, .long y.2.2.2.1, (u 22), (u 23), (u 24), (u 25), (u 26), (u 27)])), (361, .inr (.inl (0, rd))), (365, .inr (.inl (0, m))), (367, .inr (.inr (.inl rn)))] h0) : j_W jP (d + 1 + 1) 191 0 (lv_args 0 [.ref 359]) [] h (PN u e m h0 (mEnd m e F y rd rn)) := by
  show j_W jP (d + 1 + 1) 191 0 [(0, .ref 359)] [] h _
  unfold mEnd
  refine j_W.one me_M me_0 (by decide) (pcJ := 1) (stJ := [.ref 359]) rfl ?_
  refine j_W.getK me_M me_1 (ci := 10) (j := 17) rfl K rfl rfl ?_
  refine j_W.one me_M me_4 (by decide) (pcJ := 5) (stJ := [.int 4, .int y.2.1]) rfl ?_
  refine j_W.icmp me_M me_5 (t := 14) rfl (fun c => ?_) (fun c => ?_)
  · have c : y.2.1 = 4 := by simpa [j_cond] using c
    rw [if_pos c]
    refine j_W.one me_M me_14 (by decide) (pcJ := 15) (stJ := [.ref 359]) rfl ?_
    refine j_W.call me_M me_15 rfl (md := 3) (mj := 185) rfl (by decide) mg_M (As := [.ref 359]) (rest := []) (jk_spl3 (K.at rfl) rfl rfl rfl (Nat.le_of_ble_eq_true rfl) (Nat.le_of_ble_eq_true rfl)) (mg_ok hm he hb hp (K.sub ⟨rfl, rfl, trivial⟩)) ?_
    rintro r h9 ⟨rfl, K9⟩
    have K : KN h9 [(359, .inl (10, [(u 0), (u 1), .ref 361, (u 3), (u 4), (u 5), .ref 365, (u 7), .ref 367, (u 9), (u 10), (u 11), (u 12), (u 13), .int (nI e), .int (mT m e y).2.2.1, .int (nI (mT m e y).1), .int (mT m e y).2.1, .int (mT m e y).2.2.2.2, .int F.1, .int F.2, .long (mT m e y).2.2.2.1, (u 22), (u 23), (u 24), (u 25), (u 26), (u 27)])), (361, .inr (.inl (0, rd))), (365, .inr (.inl (0, m))), (367, .inr (.inr (.inl rn)))] h0 := K.go K9 rfl rfl rfl
    clear K9
    show j_W jP _ 191 18 [(0, .ref 359)] [] h9 _
    refine j_W.one me_M me_18 (by decide) (pcJ := 19) (stJ := [.int 1]) rfl ?_
    refine j_W.ret me_M me_19 rfl rfl ⟨rfl, K⟩
  · have c : ¬ y.2.1 = 4 := by simpa [j_cond] using c
    rw [if_neg c]
    refine j_W.one me_M me_8 (by decide) (pcJ := 9) (stJ := [.ref 359]) rfl ?_
    refine j_W.one me_M me_9 (by decide) (pcJ := 10) (stJ := [.int 2, .ref 359]) rfl ?_
    refine j_W.call me_M me_10 rfl (md := 3) (mj := 190) rfl (by decide) mx_M (As := [.ref 359, .int 2]) (rest := []) (jk_spl3 (K.at rfl) rfl rfl rfl (Nat.le_of_ble_eq_true rfl) (Nat.le_of_ble_eq_true rfl)) (mx_ok (K.sub ⟨rfl, trivial⟩)) ?_
    rintro r h9 ⟨rfl, K9⟩
    have K : KN h9 [(359, .inl (10, [(u 0), (u 1), .ref 361, (u 3), (u 4), (u 5), .ref 365, (u 7), .ref 367, (u 9), (u 10), (u 11), (u 12), (u 13), .int (nI e), .int y.2.2.1, .int (nI y.1), .int y.2.1, .int y.2.2.2.2, .int ((bF y.2.1 2, y.2.2.1) : Int32 × Int32).1, .int ((bF y.2.1 2, y.2.2.1) : Int32 × Int32).2, .long y.2.2.2.1, (u 22), (u 23), (u 24), (u 25), (u 26), (u 27)])), (361, .inr (.inl (0, rd))), (365, .inr (.inl (0, m))), (367, .inr (.inr (.inl rn)))] h0 := K.go K9 rfl rfl rfl
    clear K9
    show j_W jP _ 191 13 [(0, .ref 359)] [.int 0] h9 _
    refine j_W.ret me_M me_13 rfl rfl ⟨rfl, K⟩
set_option maxRecDepth 100000 in
theorem mf_M : j_meth jP 171 = some (yX10_isFrom, cX10_isFrom, 3, (some .boolean), 3, false, 10) := rfl
set_option maxRecDepth 100000 in
theorem mf_0 : j_code jP 171 0 = some (.iload_n 0) := rfl
set_option maxRecDepth 100000 in
theorem mf_1 : j_code jP 171 1 = some (.iload_n 1) := rfl
set_option maxRecDepth 100000 in
theorem mf_2 : j_code jP 171 2 = some (.if_icmp .lt 12) := rfl
set_option maxRecDepth 100000 in
theorem mf_5 : j_code jP 171 5 = some (.iload_n 0) := rfl
set_option maxRecDepth 100000 in
theorem mf_6 : j_code jP 171 6 = some (.iload_n 2) := rfl
set_option maxRecDepth 100000 in
theorem mf_7 : j_code jP 171 7 = some (.if_icmp .gt 7) := rfl
set_option maxRecDepth 100000 in
theorem mf_10 : j_code jP 171 10 = some (.iconst 1) := rfl
set_option maxRecDepth 100000 in
theorem mf_11 : j_code jP 171 11 = some (.goto 4) := rfl
set_option maxRecDepth 100000 in
theorem mf_14 : j_code jP 171 14 = some (.iconst 0) := rfl
set_option maxRecDepth 100000 in
theorem mf_15 : j_code jP 171 15 = some (.ireturn) := rfl
theorem mf_ok {d : Nat} {v lo hi : Int32} {h : J_H} : j_W jP d 171 0 (lv_args 0 [.int v, .int lo, .int hi]) [] h (fun rv h' => rv = some (.int (bif inB v lo hi then 1 else 0)) ∧ h' = h) := by
  show j_W jP d 171 0 [(0, .int v), (1, .int lo), (2, .int hi)] [] h _
  refine j_W.one mf_M mf_0 (by decide) (pcJ := 1) (stJ := [.int v]) rfl ?_
  refine j_W.one mf_M mf_1 (by decide) (pcJ := 2) (stJ := [.int lo, .int v]) rfl ?_
  refine j_W.icmp mf_M mf_2 (t := 14) rfl (fun c => ?_) (fun c => ?_)
  · rw [sk_lt] at c; have c := of_decide_eq_true c
    refine j_W.one mf_M mf_14 (by decide) (pcJ := 15) (stJ := [.int 0]) rfl ?_
    refine j_W.ret mf_M mf_15 rfl rfl ⟨by unfold inB; rw [decide_eq_false (show ¬ lo.toInt ≤ v.toInt by omega)]; rfl, rfl⟩
  · rw [sk_lt] at c; have c1 := of_decide_eq_false c; clear c
    refine j_W.one mf_M mf_5 (by decide) (pcJ := 6) (stJ := [.int v]) rfl ?_
    refine j_W.one mf_M mf_6 (by decide) (pcJ := 7) (stJ := [.int hi, .int v]) rfl ?_
    refine j_W.icmp mf_M mf_7 (t := 14) rfl (fun c => ?_) (fun c => ?_)
    · rw [jk_gt] at c; have c := of_decide_eq_true c
      refine j_W.one mf_M mf_14 (by decide) (pcJ := 15) (stJ := [.int 0]) rfl ?_
      refine j_W.ret mf_M mf_15 rfl rfl ⟨by unfold inB; rw [decide_eq_false (show ¬ v.toInt ≤ hi.toInt by omega), Bool.and_false]; rfl, rfl⟩
    · rw [jk_gt] at c; have c := of_decide_eq_false c
      refine j_W.one mf_M mf_10 (by decide) (pcJ := 11) (stJ := [.int 1]) rfl ?_
      refine j_W.gto mf_M mf_11 (t := 15) rfl ?_
      refine j_W.ret mf_M mf_15 rfl rfl ⟨by unfold inB; rw [decide_eq_true (show lo.toInt ≤ v.toInt by omega), decide_eq_true (show v.toInt ≤ hi.toInt by omega)]; rfl, rfl⟩
set_option maxRecDepth 100000 in
theorem mr_M : j_meth jP 192 = some (yX10_readNumber, cX10_readNumber, 4, (some .boolean), 3, false, 10) := rfl
set_option maxRecDepth 100000 in
theorem mr_0 : j_code jP 192 0 = some (.aload_n 0) := rfl
set_option maxRecDepth 100000 in
theorem mr_1 : j_code jP 192 1 = some (.getfield 96) := rfl
set_option maxRecDepth 100000 in
theorem mr_4 : j_code jP 192 4 = some (.iconst 3) := rfl
set_option maxRecDepth 100000 in
theorem mr_5 : j_code jP 192 5 = some (.if_icmp .eq 9) := rfl
set_option maxRecDepth 100000 in
theorem mr_8 : j_code jP 192 8 = some (.aload_n 0) := rfl
set_option maxRecDepth 100000 in
theorem mr_9 : j_code jP 192 9 = some (.iconst 2) := rfl
set_option maxRecDepth 100000 in
theorem mr_10 : j_code jP 192 10 = some (.invokevirtual 141) := rfl
set_option maxRecDepth 100000 in
theorem mr_13 : j_code jP 192 13 = some (.ireturn) := rfl
set_option maxRecDepth 100000 in
theorem mr_14 : j_code jP 192 14 = some (.aload_n 0) := rfl
set_option maxRecDepth 100000 in
theorem mr_15 : j_code jP 192 15 = some (.getfield 111) := rfl
set_option maxRecDepth 100000 in
theorem mr_18 : j_code jP 192 18 = some (.iload_n 2) := rfl
set_option maxRecDepth 100000 in
theorem mr_19 : j_code jP 192 19 = some (.iload_n 3) := rfl
set_option maxRecDepth 100000 in
theorem mr_20 : j_code jP 192 20 = some (.invokestatic 61) := rfl
set_option maxRecDepth 100000 in
theorem mr_23 : j_code jP 192 23 = some (.ifCond .ne 9) := rfl
set_option maxRecDepth 100000 in
theorem mr_26 : j_code jP 192 26 = some (.aload_n 0) := rfl
set_option maxRecDepth 100000 in
theorem mr_27 : j_code jP 192 27 = some (.iconst 3) := rfl
set_option maxRecDepth 100000 in
theorem mr_28 : j_code jP 192 28 = some (.invokevirtual 141) := rfl
set_option maxRecDepth 100000 in
theorem mr_31 : j_code jP 192 31 = some (.ireturn) := rfl
set_option maxRecDepth 100000 in
theorem mr_32 : j_code jP 192 32 = some (.aload_n 0) := rfl
set_option maxRecDepth 100000 in
theorem mr_33 : j_code jP 192 33 = some (.getfield 13) := rfl
set_option maxRecDepth 100000 in
theorem mr_36 : j_code jP 192 36 = some (.iload_n 1) := rfl
set_option maxRecDepth 100000 in
theorem mr_37 : j_code jP 192 37 = some (.aload_n 0) := rfl
set_option maxRecDepth 100000 in
theorem mr_38 : j_code jP 192 38 = some (.getfield 111) := rfl
set_option maxRecDepth 100000 in
theorem mr_41 : j_code jP 192 41 = some (.iastore) := rfl
set_option maxRecDepth 100000 in
theorem mr_42 : j_code jP 192 42 = some (.aload_n 0) := rfl
set_option maxRecDepth 100000 in
theorem mr_43 : j_code jP 192 43 = some (.invokevirtual 144) := rfl
set_option maxRecDepth 100000 in
theorem mr_46 : j_code jP 192 46 = some (.iconst 1) := rfl
set_option maxRecDepth 100000 in
theorem mr_47 : j_code jP 192 47 = some (.ireturn) := rfl
theorem mr_ok {u : Nat → Value} {e : Nat} {m : List Int32} {h h0 : J_H} {d : Nat} {F : Int32 × Int32} {y : rK} {rd : List Int32} {rn : List Int64} {i : Nat} {lo hi : Int32} (hm : m.length = 700) (he : e ≤ 700) (hb : ∀ k, k < e → 0 ≤ (m.getD k 0).toInt) (hp : y.1 ≤ e) (hr : rd.length = 602) (hn : rn.length = 12) (hi9 : i < 602) (K : KN h [(359, .inl (10, [(u 0), (u 1), .ref 361, (u 3), (u 4), (u 5), .ref 365, (u 7), .ref 367, (u 9), (u 10), (u 11), (u 12), (u 13), .int (nI e), .int y.2.2.1, .int (nI y.1), .int y.2.1, .int y.2.2.2.2, .int F.1, .int F.2, .long y.2.2.2.1, (u 22), (u 23), (u 24), (u 25), (u 26), (u 27)])), (361, .inr (.inl (0, rd))), (365, .inr (.inl (0, m))), (367, .inr (.inr (.inl rn)))] h0) : j_W jP (d + 1 + 1) 192 0 (lv_args 0 [.ref 359, .int (nI i), .int lo, .int hi]) [] h (PN u e m h0 (mNum m e F i lo hi y rd rn)) := by
  show j_W jP (d + 1 + 1) 192 0 [(0, .ref 359), (1, .int (nI i)), (2, .int lo), (3, .int hi)] [] h _
  unfold mNum
  refine j_W.one mr_M mr_0 (by decide) (pcJ := 1) (stJ := [.ref 359]) rfl ?_
  refine j_W.getK mr_M mr_1 (ci := 10) (j := 17) rfl K rfl rfl ?_
  refine j_W.one mr_M mr_4 (by decide) (pcJ := 5) (stJ := [.int 3, .int y.2.1]) rfl ?_
  refine j_W.icmp mr_M mr_5 (t := 14) rfl (fun c => ?_) (fun c => ?_)
  · have c : y.2.1 = 3 := by simpa [j_cond] using c
    rw [if_pos c]
    clear c
    refine j_W.one mr_M mr_14 (by decide) (pcJ := 15) (stJ := [.ref 359]) rfl ?_
    refine j_W.getK mr_M mr_15 (ci := 10) (j := 18) rfl K rfl rfl ?_
    refine j_W.one mr_M mr_18 (by decide) (pcJ := 19) (stJ := [.int lo, .int y.2.2.2.2]) rfl ?_
    refine j_W.one mr_M mr_19 (by decide) (pcJ := 20) (stJ := [.int hi, .int lo, .int y.2.2.2.2]) rfl ?_
    refine j_W.call mr_M mr_20 rfl (md := 2) (mj := 171) rfl (by decide) mf_M (As := [.int y.2.2.2.2, .int lo, .int hi]) (rest := []) (jk_spl2 rfl rfl (Nat.le_of_ble_eq_true rfl) (Nat.le_of_ble_eq_true rfl)) (mf_ok) ?_
    rintro r hz ⟨rfl, ez⟩
    rw [ez]
    clear ez
    show j_W jP _ 192 23 [(0, .ref 359), (1, .int (nI i)), (2, .int lo), (3, .int hi)] [.int (bif inB y.2.2.2.2 lo hi then 1 else 0)] h _
    cases hq : inB y.2.2.2.2 lo hi with
    | true =>
      show j_W jP _ 192 23 [(0, .ref 359), (1, .int (nI i)), (2, .int lo), (3, .int hi)] [.int 1] h _
      refine j_W.ifc mr_M mr_23 (t := 32) rfl (fun c => ?_) (fun c => ?_)
      · clear c
        refine j_W.one mr_M mr_32 (by decide) (pcJ := 33) (stJ := [.ref 359]) rfl ?_
        refine j_W.getK mr_M mr_33 (ci := 10) (j := 2) rfl K rfl rfl ?_
        refine j_W.one mr_M mr_36 (by decide) (pcJ := 37) (stJ := [.int (nI i), .ref 361]) rfl ?_
        refine j_W.one mr_M mr_37 (by decide) (pcJ := 38) (stJ := [.ref 359, .int (nI i), .ref 361]) rfl ?_
        refine j_W.getK mr_M mr_38 (ci := 10) (j := 18) rfl K rfl rfl ?_
        refine j_W.iastK mr_M mr_41 (n := i) (k' := [(359, .inl (10, [(u 0), (u 1), .ref 361, (u 3), (u 4), (u 5), .ref 365, (u 7), .ref 367, (u 9), (u 10), (u 11), (u 12), (u 13), .int (nI e), .int y.2.2.1, .int (nI y.1), .int y.2.1, .int y.2.2.2.2, .int F.1, .int F.2, .long y.2.2.2.1, (u 22), (u 23), (u 24), (u 25), (u 26), (u 27)])), (361, .inr (.inl (0, (rd.set i y.2.2.2.2)))), (365, .inr (.inl (0, m))), (367, .inr (.inr (.inl rn)))]) K rfl (by omega) (by omega) rfl (fun h K => ?_)
        refine j_W.one mr_M mr_42 (by decide) (pcJ := 43) (stJ := [.ref 359]) rfl ?_
        refine j_W.call mr_M mr_43 rfl (md := 3) (mj := 185) rfl (by decide) mg_M (As := [.ref 359]) (rest := []) (jk_spl3 (K.at rfl) rfl rfl rfl (Nat.le_of_ble_eq_true rfl) (Nat.le_of_ble_eq_true rfl)) (mg_ok hm he hb hp (K.sub ⟨rfl, rfl, trivial⟩)) ?_
        rintro r h9 ⟨rfl, K9⟩
        have K : KN h9 [(359, .inl (10, [(u 0), (u 1), .ref 361, (u 3), (u 4), (u 5), .ref 365, (u 7), .ref 367, (u 9), (u 10), (u 11), (u 12), (u 13), .int (nI e), .int (mT m e y).2.2.1, .int (nI (mT m e y).1), .int (mT m e y).2.1, .int (mT m e y).2.2.2.2, .int F.1, .int F.2, .long (mT m e y).2.2.2.1, (u 22), (u 23), (u 24), (u 25), (u 26), (u 27)])), (361, .inr (.inl (0, (rd.set i y.2.2.2.2)))), (365, .inr (.inl (0, m))), (367, .inr (.inr (.inl rn)))] h0 := K.go K9 rfl rfl rfl
        clear K9
        show j_W jP _ 192 46 [(0, .ref 359), (1, .int (nI i)), (2, .int lo), (3, .int hi)] [] h9 _
        refine j_W.one mr_M mr_46 (by decide) (pcJ := 47) (stJ := [.int 1]) rfl ?_
        refine j_W.ret mr_M mr_47 rfl rfl ⟨rfl, K⟩
      · cases c
    | false =>
      show j_W jP _ 192 23 [(0, .ref 359), (1, .int (nI i)), (2, .int lo), (3, .int hi)] [.int 0] h _
      refine j_W.ifc mr_M mr_23 (t := 32) rfl (fun c => ?_) (fun c => ?_)
      · cases c
      · clear c
        refine j_W.one mr_M mr_26 (by decide) (pcJ := 27) (stJ := [.ref 359]) rfl ?_
        refine j_W.one mr_M mr_27 (by decide) (pcJ := 28) (stJ := [.int 3, .ref 359]) rfl ?_
        refine j_W.call mr_M mr_28 rfl (md := 3) (mj := 190) rfl (by decide) mx_M (As := [.ref 359, .int 3]) (rest := []) (jk_spl3 (K.at rfl) rfl rfl rfl (Nat.le_of_ble_eq_true rfl) (Nat.le_of_ble_eq_true rfl)) (mx_ok (K.sub ⟨rfl, trivial⟩)) ?_
        rintro r h9 ⟨rfl, K9⟩
        have K : KN h9 [(359, .inl (10, [(u 0), (u 1), .ref 361, (u 3), (u 4), (u 5), .ref 365, (u 7), .ref 367, (u 9), (u 10), (u 11), (u 12), (u 13), .int (nI e), .int y.2.2.1, .int (nI y.1), .int y.2.1, .int y.2.2.2.2, .int ((bF y.2.1 3, y.2.2.1) : Int32 × Int32).1, .int ((bF y.2.1 3, y.2.2.1) : Int32 × Int32).2, .long y.2.2.2.1, (u 22), (u 23), (u 24), (u 25), (u 26), (u 27)])), (361, .inr (.inl (0, rd))), (365, .inr (.inl (0, m))), (367, .inr (.inr (.inl rn)))] h0 := K.go K9 rfl rfl rfl
        clear K9
        show j_W jP _ 192 31 [(0, .ref 359), (1, .int (nI i)), (2, .int lo), (3, .int hi)] [.int 0] h9 _
        refine j_W.ret mr_M mr_31 rfl rfl ⟨rfl, K⟩
  · have c : ¬ y.2.1 = 3 := by simpa [j_cond] using c
    rw [if_neg c]
    refine j_W.one mr_M mr_8 (by decide) (pcJ := 9) (stJ := [.ref 359]) rfl ?_
    refine j_W.one mr_M mr_9 (by decide) (pcJ := 10) (stJ := [.int 2, .ref 359]) rfl ?_
    refine j_W.call mr_M mr_10 rfl (md := 3) (mj := 190) rfl (by decide) mx_M (As := [.ref 359, .int 2]) (rest := []) (jk_spl3 (K.at rfl) rfl rfl rfl (Nat.le_of_ble_eq_true rfl) (Nat.le_of_ble_eq_true rfl)) (mx_ok (K.sub ⟨rfl, trivial⟩)) ?_
    rintro r h9 ⟨rfl, K9⟩
    have K : KN h9 [(359, .inl (10, [(u 0), (u 1), .ref 361, (u 3), (u 4), (u 5), .ref 365, (u 7), .ref 367, (u 9), (u 10), (u 11), (u 12), (u 13), .int (nI e), .int y.2.2.1, .int (nI y.1), .int y.2.1, .int y.2.2.2.2, .int ((bF y.2.1 2, y.2.2.1) : Int32 × Int32).1, .int ((bF y.2.1 2, y.2.2.1) : Int32 × Int32).2, .long y.2.2.2.1, (u 22), (u 23), (u 24), (u 25), (u 26), (u 27)])), (361, .inr (.inl (0, rd))), (365, .inr (.inl (0, m))), (367, .inr (.inr (.inl rn)))] h0 := K.go K9 rfl rfl rfl
    clear K9
    show j_W jP _ 192 13 [(0, .ref 359), (1, .int (nI i)), (2, .int lo), (3, .int hi)] [.int 0] h9 _
    refine j_W.ret mr_M mr_13 rfl rfl ⟨rfl, K⟩
set_option maxRecDepth 100000 in
theorem mh_M : j_meth jP 193 = some (yX10_stationHere, cX10_stationHere, 2, (some .int), 0, false, 10) := rfl
set_option maxRecDepth 100000 in
theorem mh_0 : j_code jP 193 0 = some (.iconst 0) := rfl
set_option maxRecDepth 100000 in
theorem mh_1 : j_code jP 193 1 = some (.istore_n 1) := rfl
set_option maxRecDepth 100000 in
theorem mh_2 : j_code jP 193 2 = some (.iload_n 1) := rfl
set_option maxRecDepth 100000 in
theorem mh_3 : j_code jP 193 3 = some (.aload_n 0) := rfl
set_option maxRecDepth 100000 in
theorem mh_4 : j_code jP 193 4 = some (.getfield 13) := rfl
set_option maxRecDepth 100000 in
theorem mh_7 : j_code jP 193 7 = some (.sipush 202) := rfl
set_option maxRecDepth 100000 in
theorem mh_10 : j_code jP 193 10 = some (.iaload) := rfl
set_option maxRecDepth 100000 in
theorem mh_11 : j_code jP 193 11 = some (.if_icmp .ge 25) := rfl
set_option maxRecDepth 100000 in
theorem mh_14 : j_code jP 193 14 = some (.aload_n 0) := rfl
set_option maxRecDepth 100000 in
theorem mh_15 : j_code jP 193 15 = some (.getfield 32) := rfl
set_option maxRecDepth 100000 in
theorem mh_18 : j_code jP 193 18 = some (.iload_n 1) := rfl
set_option maxRecDepth 100000 in
theorem mh_19 : j_code jP 193 19 = some (.laload) := rfl
set_option maxRecDepth 100000 in
theorem mh_20 : j_code jP 193 20 = some (.aload_n 0) := rfl
set_option maxRecDepth 100000 in
theorem mh_21 : j_code jP 193 21 = some (.getfield 102) := rfl
set_option maxRecDepth 100000 in
theorem mh_24 : j_code jP 193 24 = some (.lcmp) := rfl
set_option maxRecDepth 100000 in
theorem mh_25 : j_code jP 193 25 = some (.ifCond .ne 5) := rfl
set_option maxRecDepth 100000 in
theorem mh_28 : j_code jP 193 28 = some (.iload_n 1) := rfl
set_option maxRecDepth 100000 in
theorem mh_29 : j_code jP 193 29 = some (.ireturn) := rfl
set_option maxRecDepth 100000 in
theorem mh_30 : j_code jP 193 30 = some (.iinc 1 1) := rfl
set_option maxRecDepth 100000 in
theorem mh_33 : j_code jP 193 33 = some (.goto (-31)) := rfl
set_option maxRecDepth 100000 in
theorem mh_36 : j_code jP 193 36 = some (.iconst (-1)) := rfl
set_option maxRecDepth 100000 in
theorem mh_37 : j_code jP 193 37 = some (.ireturn) := rfl
theorem mh_l {u : Nat → Value} {e ns d : Nat} {m : List Int32} {h0 : J_H} {F : Int32 × Int32} {y : rK} {rd : List Int32} {rn : List Int64} (hr : rd.length = 602) (hn : rn.length = 12) (h7 : ns ≤ 7) (hs : rd.getD 202 0 = nI ns) : ∀ (f s : Nat) (h : J_H), s + f = ns → KN h [(359, .inl (10, [(u 0), (u 1), .ref 361, (u 3), (u 4), (u 5), .ref 365, (u 7), .ref 367, (u 9), (u 10), (u 11), (u 12), (u 13), .int (nI e), .int y.2.2.1, .int (nI y.1), .int y.2.1, .int y.2.2.2.2, .int F.1, .int F.2, .long y.2.2.2.1, (u 22), (u 23), (u 24), (u 25), (u 26), (u 27)])), (361, .inr (.inl (0, rd))), (365, .inr (.inl (0, m))), (367, .inr (.inr (.inl rn)))] h0 → j_W jP d 193 2 [(1, .int (nI s)), (0, .ref 359)] [] h (fun rv h' => rv = some (.int (sIx rn y.2.2.2.1 f s)) ∧ h' = h) := by
  intro f
  induction f with
  | zero =>
    intro s h hf K
    refine j_W.one mh_M mh_2 (by decide) (pcJ := 3) (stJ := [.int (nI s)]) rfl ?_
    refine j_W.one mh_M mh_3 (by decide) (pcJ := 4) (stJ := [.ref 359, .int (nI s)]) rfl ?_
    refine j_W.getK mh_M mh_4 (ci := 10) (j := 2) rfl K rfl rfl ?_
    refine j_W.one mh_M mh_7 (by decide) (pcJ := 10) (stJ := [.int 202, .ref 361, .int (nI s)]) rfl ?_
    refine j_W.ialdK mh_M mh_10 K rfl (n := 202) (by omega) (by omega) ?_
    rw [hs]
    refine j_W.icmp mh_M mh_11 (t := 36) rfl (fun c => ?_) (fun c => ?_)
    · refine j_W.one mh_M mh_36 (by decide) (pcJ := 37) (stJ := [.int (-1)]) rfl ?_
      refine j_W.ret mh_M mh_37 rfl rfl ⟨rfl, rfl⟩
    · exfalso; rw [jk_ge] at c; have c := of_decide_eq_false c; rw [nI_toInt (by omega), nI_toInt (by omega)] at c; omega
  | succ f ih =>
    intro s h hf K
    refine j_W.one mh_M mh_2 (by decide) (pcJ := 3) (stJ := [.int (nI s)]) rfl ?_
    refine j_W.one mh_M mh_3 (by decide) (pcJ := 4) (stJ := [.ref 359, .int (nI s)]) rfl ?_
    refine j_W.getK mh_M mh_4 (ci := 10) (j := 2) rfl K rfl rfl ?_
    refine j_W.one mh_M mh_7 (by decide) (pcJ := 10) (stJ := [.int 202, .ref 361, .int (nI s)]) rfl ?_
    refine j_W.ialdK mh_M mh_10 K rfl (n := 202) (by omega) (by omega) ?_
    rw [hs]
    refine j_W.icmp mh_M mh_11 (t := 36) rfl (fun c => ?_) (fun c => ?_)
    · exfalso; rw [jk_ge] at c; have c := of_decide_eq_true c; rw [nI_toInt (by omega), nI_toInt (by omega)] at c; omega
    · clear c
      refine j_W.one mh_M mh_14 (by decide) (pcJ := 15) (stJ := [.ref 359]) rfl ?_
      refine j_W.getK mh_M mh_15 (ci := 10) (j := 8) rfl K rfl rfl ?_
      refine j_W.one mh_M mh_18 (by decide) (pcJ := 19) (stJ := [.int (nI s), .ref 367]) rfl ?_
      refine j_W.laldK mh_M mh_19 K rfl (n := s) (by omega) (by omega) ?_
      refine j_W.one mh_M mh_20 (by decide) (pcJ := 21) (stJ := [.ref 359, .long (rn.getD s 0)]) rfl ?_
      refine j_W.getK mh_M mh_21 (ci := 10) (j := 21) rfl K rfl rfl ?_
      refine j_W.one mh_M mh_24 (by decide) (pcJ := 25) (stJ := [.int (lg_cmp (rn.getD s 0) y.2.2.2.1)]) rfl ?_
      refine j_W.ifc mh_M mh_25 (t := 30) rfl (fun c => ?_) (fun c => ?_)
      · rw [jk_lcmp] at c; have c : ¬ rn.getD s 0 = y.2.2.2.1 := by simpa using c
        have e1 : sIx rn y.2.2.2.1 (f + 1) s = sIx rn y.2.2.2.1 f (s + 1) := by show (if rn.getD s 0 = y.2.2.2.1 then nI s else sIx rn y.2.2.2.1 f (s + 1)) = _; rw [if_neg c]
        rw [e1]
        refine j_W.one mh_M mh_30 (by decide) (pcJ := 33) (lv' := [(1, .int ((nI s) + 1)), (0, .ref 359)]) (stJ := []) rfl ?_
        refine j_W.gto mh_M mh_33 (t := 2) rfl ?_
        have t := ih (s + 1) h (by omega) K
        rw [nI_succ] at t
        exact t
      · rw [jk_lcmp] at c; have c : rn.getD s 0 = y.2.2.2.1 := by simpa using c
        have e1 : sIx rn y.2.2.2.1 (f + 1) s = nI s := by show (if rn.getD s 0 = y.2.2.2.1 then nI s else sIx rn y.2.2.2.1 f (s + 1)) = _; rw [if_pos c]
        rw [e1]
        refine j_W.one mh_M mh_28 (by decide) (pcJ := 29) (stJ := [.int (nI s)]) rfl ?_
        refine j_W.ret mh_M mh_29 rfl rfl ⟨rfl, rfl⟩
theorem mh_ok {u : Nat → Value} {e : Nat} {m : List Int32} {h h0 : J_H} {d : Nat} {F : Int32 × Int32} {y : rK} {rd : List Int32} {rn : List Int64} {ns : Nat} (hr : rd.length = 602) (hn : rn.length = 12) (h7 : ns ≤ 7) (hs : rd.getD 202 0 = nI ns) (K : KN h [(359, .inl (10, [(u 0), (u 1), .ref 361, (u 3), (u 4), (u 5), .ref 365, (u 7), .ref 367, (u 9), (u 10), (u 11), (u 12), (u 13), .int (nI e), .int y.2.2.1, .int (nI y.1), .int y.2.1, .int y.2.2.2.2, .int F.1, .int F.2, .long y.2.2.2.1, (u 22), (u 23), (u 24), (u 25), (u 26), (u 27)])), (361, .inr (.inl (0, rd))), (365, .inr (.inl (0, m))), (367, .inr (.inr (.inl rn)))] h0) : j_W jP (d) 193 0 (lv_args 0 [.ref 359]) [] h (fun rv h' => rv = some (.int (sIx rn y.2.2.2.1 ns 0)) ∧ h' = h) := by
  show j_W jP (d) 193 0 [(0, .ref 359)] [] h _
  refine j_W.one mh_M mh_0 (by decide) (pcJ := 1) (stJ := [.int 0]) rfl ?_
  refine j_W.one mh_M mh_1 (by decide) (pcJ := 2) (lv' := [(1, .int 0), (0, .ref 359)]) (stJ := []) rfl ?_
  exact mh_l hr hn h7 hs ns 0 h (by omega) K
set_option maxRecDepth 100000 in
theorem mm_M : j_meth jP 194 = some (yX10_readName, cX10_readName, 4, (some .boolean), 1, false, 10) := rfl
set_option maxRecDepth 100000 in
theorem mm_0 : j_code jP 194 0 = some (.aload_n 0) := rfl
set_option maxRecDepth 100000 in
theorem mm_1 : j_code jP 194 1 = some (.invokevirtual 147) := rfl
set_option maxRecDepth 100000 in
theorem mm_4 : j_code jP 194 4 = some (.ifCond .ne 9) := rfl
set_option maxRecDepth 100000 in
theorem mm_7 : j_code jP 194 7 = some (.aload_n 0) := rfl
set_option maxRecDepth 100000 in
theorem mm_8 : j_code jP 194 8 = some (.iconst 2) := rfl
set_option maxRecDepth 100000 in
theorem mm_9 : j_code jP 194 9 = some (.invokevirtual 141) := rfl
set_option maxRecDepth 100000 in
theorem mm_12 : j_code jP 194 12 = some (.ireturn) := rfl
set_option maxRecDepth 100000 in
theorem mm_13 : j_code jP 194 13 = some (.aload_n 0) := rfl
set_option maxRecDepth 100000 in
theorem mm_14 : j_code jP 194 14 = some (.invokevirtual 151) := rfl
set_option maxRecDepth 100000 in
theorem mm_17 : j_code jP 194 17 = some (.iconst (-1)) := rfl
set_option maxRecDepth 100000 in
theorem mm_18 : j_code jP 194 18 = some (.if_icmp .eq 7) := rfl
set_option maxRecDepth 100000 in
theorem mm_21 : j_code jP 194 21 = some (.iconst 1) := rfl
set_option maxRecDepth 100000 in
theorem mm_22 : j_code jP 194 22 = some (.goto 4) := rfl
set_option maxRecDepth 100000 in
theorem mm_25 : j_code jP 194 25 = some (.iconst 0) := rfl
set_option maxRecDepth 100000 in
theorem mm_26 : j_code jP 194 26 = some (.istore_n 2) := rfl
set_option maxRecDepth 100000 in
theorem mm_27 : j_code jP 194 27 = some (.iconst 0) := rfl
set_option maxRecDepth 100000 in
theorem mm_28 : j_code jP 194 28 = some (.istore_n 3) := rfl
set_option maxRecDepth 100000 in
theorem mm_29 : j_code jP 194 29 = some (.iload_n 3) := rfl
set_option maxRecDepth 100000 in
theorem mm_30 : j_code jP 194 30 = some (.aload_n 0) := rfl
set_option maxRecDepth 100000 in
theorem mm_31 : j_code jP 194 31 = some (.getfield 13) := rfl
set_option maxRecDepth 100000 in
theorem mm_34 : j_code jP 194 34 = some (.sipush 203) := rfl
set_option maxRecDepth 100000 in
theorem mm_37 : j_code jP 194 37 = some (.iaload) := rfl
set_option maxRecDepth 100000 in
theorem mm_38 : j_code jP 194 38 = some (.if_icmp .ge 36) := rfl
set_option maxRecDepth 100000 in
theorem mm_41 : j_code jP 194 41 = some (.iload_n 2) := rfl
set_option maxRecDepth 100000 in
theorem mm_42 : j_code jP 194 42 = some (.ifCond .ne 20) := rfl
set_option maxRecDepth 100000 in
theorem mm_45 : j_code jP 194 45 = some (.aload_n 0) := rfl
set_option maxRecDepth 100000 in
theorem mm_46 : j_code jP 194 46 = some (.getfield 32) := rfl
set_option maxRecDepth 100000 in
theorem mm_49 : j_code jP 194 49 = some (.bipush 7) := rfl
set_option maxRecDepth 100000 in
theorem mm_51 : j_code jP 194 51 = some (.iload_n 3) := rfl
set_option maxRecDepth 100000 in
theorem mm_52 : j_code jP 194 52 = some (.iadd) := rfl
set_option maxRecDepth 100000 in
theorem mm_53 : j_code jP 194 53 = some (.laload) := rfl
set_option maxRecDepth 100000 in
theorem mm_54 : j_code jP 194 54 = some (.aload_n 0) := rfl
set_option maxRecDepth 100000 in
theorem mm_55 : j_code jP 194 55 = some (.getfield 102) := rfl
set_option maxRecDepth 100000 in
theorem mm_58 : j_code jP 194 58 = some (.lcmp) := rfl
set_option maxRecDepth 100000 in
theorem mm_59 : j_code jP 194 59 = some (.ifCond .ne 7) := rfl
set_option maxRecDepth 100000 in
theorem mm_62 : j_code jP 194 62 = some (.iconst 1) := rfl
set_option maxRecDepth 100000 in
theorem mm_63 : j_code jP 194 63 = some (.goto 4) := rfl
set_option maxRecDepth 100000 in
theorem mm_66 : j_code jP 194 66 = some (.iconst 0) := rfl
set_option maxRecDepth 100000 in
theorem mm_67 : j_code jP 194 67 = some (.istore_n 2) := rfl
set_option maxRecDepth 100000 in
theorem mm_68 : j_code jP 194 68 = some (.iinc 3 1) := rfl
set_option maxRecDepth 100000 in
theorem mm_71 : j_code jP 194 71 = some (.goto (-42)) := rfl
set_option maxRecDepth 100000 in
theorem mm_74 : j_code jP 194 74 = some (.iload_n 2) := rfl
set_option maxRecDepth 100000 in
theorem mm_75 : j_code jP 194 75 = some (.ifCond .eq 9) := rfl
set_option maxRecDepth 100000 in
theorem mm_78 : j_code jP 194 78 = some (.aload_n 0) := rfl
set_option maxRecDepth 100000 in
theorem mm_79 : j_code jP 194 79 = some (.iconst 4) := rfl
set_option maxRecDepth 100000 in
theorem mm_80 : j_code jP 194 80 = some (.invokevirtual 141) := rfl
set_option maxRecDepth 100000 in
theorem mm_83 : j_code jP 194 83 = some (.ireturn) := rfl
set_option maxRecDepth 100000 in
theorem mm_84 : j_code jP 194 84 = some (.aload_n 0) := rfl
set_option maxRecDepth 100000 in
theorem mm_85 : j_code jP 194 85 = some (.getfield 32) := rfl
set_option maxRecDepth 100000 in
theorem mm_88 : j_code jP 194 88 = some (.iload_n 1) := rfl
set_option maxRecDepth 100000 in
theorem mm_89 : j_code jP 194 89 = some (.aload_n 0) := rfl
set_option maxRecDepth 100000 in
theorem mm_90 : j_code jP 194 90 = some (.getfield 102) := rfl
set_option maxRecDepth 100000 in
theorem mm_93 : j_code jP 194 93 = some (.lastore) := rfl
set_option maxRecDepth 100000 in
theorem mm_94 : j_code jP 194 94 = some (.aload_n 0) := rfl
set_option maxRecDepth 100000 in
theorem mm_95 : j_code jP 194 95 = some (.invokevirtual 144) := rfl
set_option maxRecDepth 100000 in
theorem mm_98 : j_code jP 194 98 = some (.iconst 1) := rfl
set_option maxRecDepth 100000 in
theorem mm_99 : j_code jP 194 99 = some (.ireturn) := rfl
theorem mm_l {u : Nat → Value} {e nt i d : Nat} {m : List Int32} {h0 : J_H} {F : Int32 × Int32} {y : rK} {rd : List Int32} {rn : List Int64} {Q : Option Value → J_H → Prop} (hr : rd.length = 602) (hn : rn.length = 12) (h5 : nt ≤ 5) (ht : rd.getD 203 0 = nI nt) : ∀ (f t : Nat) (b : Bool) (h : J_H), t + f = nt → KN h [(359, .inl (10, [(u 0), (u 1), .ref 361, (u 3), (u 4), (u 5), .ref 365, (u 7), .ref 367, (u 9), (u 10), (u 11), (u 12), (u 13), .int (nI e), .int y.2.2.1, .int (nI y.1), .int y.2.1, .int y.2.2.2.2, .int F.1, .int F.2, .long y.2.2.2.1, (u 22), (u 23), (u 24), (u 25), (u 26), (u 27)])), (361, .inr (.inl (0, rd))), (365, .inr (.inl (0, m))), (367, .inr (.inr (.inl rn)))] h0 → j_W jP d 194 74 [(3, .int (nI nt)), (2, .int (bif (sAm rn y.2.2.2.1 f t b) then 1 else 0)), (0, .ref 359), (1, .int (nI i))] [] h Q → j_W jP d 194 29 [(3, .int (nI t)), (2, .int (bif b then 1 else 0)), (0, .ref 359), (1, .int (nI i))] [] h Q := by
  intro f
  induction f with
  | zero =>
    intro t b h hf K k
    obtain rfl : t = nt := by omega
    refine j_W.one mm_M mm_29 (by decide) (pcJ := 30) (stJ := [.int (nI t)]) rfl ?_
    refine j_W.one mm_M mm_30 (by decide) (pcJ := 31) (stJ := [.ref 359, .int (nI t)]) rfl ?_
    refine j_W.getK mm_M mm_31 (ci := 10) (j := 2) rfl K rfl rfl ?_
    refine j_W.one mm_M mm_34 (by decide) (pcJ := 37) (stJ := [.int 203, .ref 361, .int (nI t)]) rfl ?_
    refine j_W.ialdK mm_M mm_37 K rfl (n := 203) (by omega) (by omega) ?_
    rw [ht]
    refine j_W.icmp mm_M mm_38 (t := 74) rfl (fun c => ?_) (fun c => ?_)
    · exact k
    · exfalso; rw [jk_ge] at c; have c := of_decide_eq_false c; rw [nI_toInt (by omega)] at c; omega
  | succ f ih =>
    intro t b h hf K k
    refine j_W.one mm_M mm_29 (by decide) (pcJ := 30) (stJ := [.int (nI t)]) rfl ?_
    refine j_W.one mm_M mm_30 (by decide) (pcJ := 31) (stJ := [.ref 359, .int (nI t)]) rfl ?_
    refine j_W.getK mm_M mm_31 (ci := 10) (j := 2) rfl K rfl rfl ?_
    refine j_W.one mm_M mm_34 (by decide) (pcJ := 37) (stJ := [.int 203, .ref 361, .int (nI t)]) rfl ?_
    refine j_W.ialdK mm_M mm_37 K rfl (n := 203) (by omega) (by omega) ?_
    rw [ht]
    refine j_W.icmp mm_M mm_38 (t := 74) rfl (fun c => ?_) (fun c => ?_)
    · exfalso; rw [jk_ge] at c; have c := of_decide_eq_true c; rw [nI_toInt (by omega), nI_toInt (by omega)] at c; omega
    · clear c
      refine j_W.one mm_M mm_41 (by decide) (pcJ := 42) (stJ := [.int (bif b then 1 else 0)]) rfl ?_
      cases b with
      | true =>
        show j_W jP _ 194 42 [(3, .int (nI t)), (2, .int (bif true then 1 else 0)), (0, .ref 359), (1, .int (nI i))] [.int 1] h _
        refine j_W.ifc mm_M mm_42 (t := 62) rfl (fun c => ?_) (fun c => ?_)
        · refine j_W.one mm_M mm_62 (by decide) (pcJ := 63) (stJ := [.int 1]) rfl ?_
          refine j_W.gto mm_M mm_63 (t := 67) rfl ?_
          refine j_W.one mm_M mm_67 (by decide) (pcJ := 68) (lv' := [(2, .int 1), (3, .int (nI t)), (0, .ref 359), (1, .int (nI i))]) (stJ := []) rfl ?_
          refine j_W.one mm_M mm_68 (by decide) (pcJ := 71) (lv' := [(3, .int ((nI t) + 1)), (2, .int 1), (0, .ref 359), (1, .int (nI i))]) (stJ := []) rfl ?_
          refine j_W.gto mm_M mm_71 (t := 29) rfl ?_
          have t9 := ih (t + 1) (true || decide (rn.getD (7 + t) 0 = y.2.2.2.1)) h (by omega) K k
          rw [nI_succ] at t9
          exact t9
        · cases c
      | false =>
        show j_W jP _ 194 42 [(3, .int (nI t)), (2, .int (bif false then 1 else 0)), (0, .ref 359), (1, .int (nI i))] [.int 0] h _
        refine j_W.ifc mm_M mm_42 (t := 62) rfl (fun c => ?_) (fun c => ?_)
        · cases c
        · clear c
          refine j_W.one mm_M mm_45 (by decide) (pcJ := 46) (stJ := [.ref 359]) rfl ?_
          refine j_W.getK mm_M mm_46 (ci := 10) (j := 8) rfl K rfl rfl ?_
          refine j_W.one mm_M mm_49 (by decide) (pcJ := 51) (stJ := [.int 7, .ref 367]) rfl ?_
          refine j_W.one mm_M mm_51 (by decide) (pcJ := 52) (stJ := [.int (nI t), .int 7, .ref 367]) rfl ?_
          refine j_W.one mm_M mm_52 (by decide) (pcJ := 53) (stJ := [.int (nI (7 + t)), .ref 367]) (by rw [← mi_add 7 t]; rfl) ?_
          refine j_W.laldK mm_M mm_53 K rfl (n := 7 + t) (by omega) (by omega) ?_
          refine j_W.one mm_M mm_54 (by decide) (pcJ := 55) (stJ := [.ref 359, .long (rn.getD (7 + t) 0)]) rfl ?_
          refine j_W.getK mm_M mm_55 (ci := 10) (j := 21) rfl K rfl rfl ?_
          refine j_W.one mm_M mm_58 (by decide) (pcJ := 59) (stJ := [.int (lg_cmp (rn.getD (7 + t) 0) y.2.2.2.1)]) rfl ?_
          refine j_W.ifc mm_M mm_59 (t := 66) rfl (fun c => ?_) (fun c => ?_)
          · rw [jk_lcmp] at c; have c : ¬ rn.getD (7 + t) 0 = y.2.2.2.1 := by simpa using c
            refine j_W.one mm_M mm_66 (by decide) (pcJ := 67) (stJ := [.int 0]) rfl ?_
            refine j_W.one mm_M mm_67 (by decide) (pcJ := 68) (lv' := [(2, .int 0), (3, .int (nI t)), (0, .ref 359), (1, .int (nI i))]) (stJ := []) rfl ?_
            refine j_W.one mm_M mm_68 (by decide) (pcJ := 71) (lv' := [(3, .int ((nI t) + 1)), (2, .int 0), (0, .ref 359), (1, .int (nI i))]) (stJ := []) rfl ?_
            refine j_W.gto mm_M mm_71 (t := 29) rfl ?_
            have t9 := ih (t + 1) (false || decide (rn.getD (7 + t) 0 = y.2.2.2.1)) h (by omega) K k
            rw [decide_eq_false c] at t9
            rw [nI_succ] at t9
            exact t9
          · rw [jk_lcmp] at c; have c : rn.getD (7 + t) 0 = y.2.2.2.1 := by simpa using c
            refine j_W.one mm_M mm_62 (by decide) (pcJ := 63) (stJ := [.int 1]) rfl ?_
            refine j_W.gto mm_M mm_63 (t := 67) rfl ?_
            refine j_W.one mm_M mm_67 (by decide) (pcJ := 68) (lv' := [(2, .int 1), (3, .int (nI t)), (0, .ref 359), (1, .int (nI i))]) (stJ := []) rfl ?_
            refine j_W.one mm_M mm_68 (by decide) (pcJ := 71) (lv' := [(3, .int ((nI t) + 1)), (2, .int 1), (0, .ref 359), (1, .int (nI i))]) (stJ := []) rfl ?_
            refine j_W.gto mm_M mm_71 (t := 29) rfl ?_
            have t9 := ih (t + 1) (false || decide (rn.getD (7 + t) 0 = y.2.2.2.1)) h (by omega) K k
            rw [decide_eq_true c] at t9
            rw [nI_succ] at t9
            exact t9
theorem mm_ok {u : Nat → Value} {e : Nat} {m : List Int32} {h h0 : J_H} {d : Nat} {F : Int32 × Int32} {y : rK} {rd : List Int32} {rn : List Int64} {ns nt i : Nat} (hm : m.length = 700) (he : e ≤ 700) (hb : ∀ k, k < e → 0 ≤ (m.getD k 0).toInt) (hp : y.1 ≤ e) (hr : rd.length = 602) (hn : rn.length = 12) (h7 : ns ≤ 7) (hs : rd.getD 202 0 = nI ns) (h5 : nt ≤ 5) (ht : rd.getD 203 0 = nI nt) (hi9 : i < 12) (K : KN h [(359, .inl (10, [(u 0), (u 1), .ref 361, (u 3), (u 4), (u 5), .ref 365, (u 7), .ref 367, (u 9), (u 10), (u 11), (u 12), (u 13), .int (nI e), .int y.2.2.1, .int (nI y.1), .int y.2.1, .int y.2.2.2.2, .int F.1, .int F.2, .long y.2.2.2.1, (u 22), (u 23), (u 24), (u 25), (u 26), (u 27)])), (361, .inr (.inl (0, rd))), (365, .inr (.inl (0, m))), (367, .inr (.inr (.inl rn)))] h0) : j_W jP (d + 1 + 1 + 1 + 1) 194 0 (lv_args 0 [.ref 359, .int (nI i)]) [] h (PN u e m h0 (mName m e F ns nt i y rd rn)) := by
  show j_W jP (d + 1 + 1 + 1 + 1) 194 0 [(0, .ref 359), (1, .int (nI i))] [] h _
  unfold mName
  refine j_W.one mm_M mm_0 (by decide) (pcJ := 1) (stJ := [.ref 359]) rfl ?_
  refine j_W.call mm_M mm_1 rfl (md := 3) (mj := 189) rfl (by decide) mn_M (As := [.ref 359]) (rest := []) (jk_spl3 (K.at rfl) rfl rfl rfl (Nat.le_of_ble_eq_true rfl) (Nat.le_of_ble_eq_true rfl)) (mn_ok (K.sub ⟨rfl, trivial⟩)) ?_
  rintro r hz ⟨rfl, ez⟩
  rw [ez]
  clear ez
  show j_W jP _ 194 4 [(0, .ref 359), (1, .int (nI i))] [.int (bif nmM y.2.1 y.2.2.2.1 then 1 else 0)] h _
  cases hq : nmM y.2.1 y.2.2.2.1 with
  | true =>
    show j_W jP _ 194 4 [(0, .ref 359), (1, .int (nI i))] [.int 1] h _
    refine j_W.ifc mm_M mm_4 (t := 13) rfl (fun c => ?_) (fun c => ?_)
    · clear c
      refine j_W.one mm_M mm_13 (by decide) (pcJ := 14) (stJ := [.ref 359]) rfl ?_
      refine j_W.call mm_M mm_14 rfl (md := 3) (mj := 193) rfl (by decide) mh_M (As := [.ref 359]) (rest := []) (jk_spl3 (K.at rfl) rfl rfl rfl (Nat.le_of_ble_eq_true rfl) (Nat.le_of_ble_eq_true rfl)) (mh_ok hr hn h7 hs (K.sub ⟨rfl, rfl, rfl, rfl, trivial⟩)) ?_
      rintro r hz ⟨rfl, ez⟩
      rw [ez]
      clear ez
      show j_W jP _ 194 17 [(0, .ref 359), (1, .int (nI i))] [.int (sIx rn y.2.2.2.1 ns 0)] h _
      refine j_W.one mm_M mm_17 (by decide) (pcJ := 18) (stJ := [.int (-1), .int (sIx rn y.2.2.2.1 ns 0)]) rfl ?_
      refine j_W.icmp mm_M mm_18 (t := 25) rfl (fun c => ?_) (fun c => ?_)
      · have c9 : decide ((sIx rn y.2.2.2.1 ns 0) = -1) = true := by simpa [j_cond] using c
        clear c
        refine j_W.one mm_M mm_25 (by decide) (pcJ := 26) (stJ := [.int 0]) rfl ?_
        refine j_W.one mm_M mm_26 (by decide) (pcJ := 27) (lv' := [(2, .int 0), (0, .ref 359), (1, .int (nI i))]) (stJ := []) rfl ?_
        refine j_W.one mm_M mm_27 (by decide) (pcJ := 28) (stJ := [.int 0]) rfl ?_
        refine j_W.one mm_M mm_28 (by decide) (pcJ := 29) (lv' := [(3, .int 0), (2, .int 0), (0, .ref 359), (1, .int (nI i))]) (stJ := []) rfl ?_
        refine mm_l hr hn h5 ht nt 0 false _ (by omega) K ?_
        have e9 : sAm rn y.2.2.2.1 nt 0 false = mTk rn y.2.2.2.1 ns nt := by unfold mTk; rw [c9]; rfl
        rw [e9]
        refine j_W.one mm_M mm_74 (by decide) (pcJ := 75) (stJ := [.int (bif (mTk rn y.2.2.2.1 ns nt) then 1 else 0)]) rfl ?_
        cases hk : mTk rn y.2.2.2.1 ns nt with
        | true =>
          show j_W jP _ 194 75 [(3, .int (nI nt)), (2, .int 1), (0, .ref 359), (1, .int (nI i))] [.int 1] h _
          refine j_W.ifc mm_M mm_75 (t := 84) rfl (fun c => ?_) (fun c => ?_)
          · cases c
          · clear c
            refine j_W.one mm_M mm_78 (by decide) (pcJ := 79) (stJ := [.ref 359]) rfl ?_
            refine j_W.one mm_M mm_79 (by decide) (pcJ := 80) (stJ := [.int 4, .ref 359]) rfl ?_
            refine j_W.call mm_M mm_80 rfl (md := 3) (mj := 190) rfl (by decide) mx_M (As := [.ref 359, .int 4]) (rest := []) (jk_spl3 (K.at rfl) rfl rfl rfl (Nat.le_of_ble_eq_true rfl) (Nat.le_of_ble_eq_true rfl)) (mx_ok (K.sub ⟨rfl, trivial⟩)) ?_
            rintro r h9 ⟨rfl, K9⟩
            have K : KN h9 [(359, .inl (10, [(u 0), (u 1), .ref 361, (u 3), (u 4), (u 5), .ref 365, (u 7), .ref 367, (u 9), (u 10), (u 11), (u 12), (u 13), .int (nI e), .int y.2.2.1, .int (nI y.1), .int y.2.1, .int y.2.2.2.2, .int ((bF y.2.1 4, y.2.2.1) : Int32 × Int32).1, .int ((bF y.2.1 4, y.2.2.1) : Int32 × Int32).2, .long y.2.2.2.1, (u 22), (u 23), (u 24), (u 25), (u 26), (u 27)])), (361, .inr (.inl (0, rd))), (365, .inr (.inl (0, m))), (367, .inr (.inr (.inl rn)))] h0 := K.go K9 rfl rfl rfl
            clear K9
            show j_W jP _ 194 83 [(3, .int (nI nt)), (2, .int 1), (0, .ref 359), (1, .int (nI i))] [.int 0] h9 _
            refine j_W.ret mm_M mm_83 rfl rfl ⟨rfl, K⟩
        | false =>
          show j_W jP _ 194 75 [(3, .int (nI nt)), (2, .int 0), (0, .ref 359), (1, .int (nI i))] [.int 0] h _
          refine j_W.ifc mm_M mm_75 (t := 84) rfl (fun c => ?_) (fun c => ?_)
          · clear c
            refine j_W.one mm_M mm_84 (by decide) (pcJ := 85) (stJ := [.ref 359]) rfl ?_
            refine j_W.getK mm_M mm_85 (ci := 10) (j := 8) rfl K rfl rfl ?_
            refine j_W.one mm_M mm_88 (by decide) (pcJ := 89) (stJ := [.int (nI i), .ref 367]) rfl ?_
            refine j_W.one mm_M mm_89 (by decide) (pcJ := 90) (stJ := [.ref 359, .int (nI i), .ref 367]) rfl ?_
            refine j_W.getK mm_M mm_90 (ci := 10) (j := 21) rfl K rfl rfl ?_
            refine j_W.lastK mm_M mm_93 (n := i) (k' := [(359, .inl (10, [(u 0), (u 1), .ref 361, (u 3), (u 4), (u 5), .ref 365, (u 7), .ref 367, (u 9), (u 10), (u 11), (u 12), (u 13), .int (nI e), .int y.2.2.1, .int (nI y.1), .int y.2.1, .int y.2.2.2.2, .int F.1, .int F.2, .long y.2.2.2.1, (u 22), (u 23), (u 24), (u 25), (u 26), (u 27)])), (361, .inr (.inl (0, rd))), (365, .inr (.inl (0, m))), (367, .inr (.inr (.inl (rn.set i y.2.2.2.1))))]) K rfl (by omega) (by omega) rfl (fun h K => ?_)
            refine j_W.one mm_M mm_94 (by decide) (pcJ := 95) (stJ := [.ref 359]) rfl ?_
            refine j_W.call mm_M mm_95 rfl (md := 3) (mj := 185) rfl (by decide) mg_M (As := [.ref 359]) (rest := []) (jk_spl3 (K.at rfl) rfl rfl rfl (Nat.le_of_ble_eq_true rfl) (Nat.le_of_ble_eq_true rfl)) (mg_ok hm he hb hp (K.sub ⟨rfl, rfl, trivial⟩)) ?_
            rintro r h9 ⟨rfl, K9⟩
            have K : KN h9 [(359, .inl (10, [(u 0), (u 1), .ref 361, (u 3), (u 4), (u 5), .ref 365, (u 7), .ref 367, (u 9), (u 10), (u 11), (u 12), (u 13), .int (nI e), .int (mT m e y).2.2.1, .int (nI (mT m e y).1), .int (mT m e y).2.1, .int (mT m e y).2.2.2.2, .int F.1, .int F.2, .long (mT m e y).2.2.2.1, (u 22), (u 23), (u 24), (u 25), (u 26), (u 27)])), (361, .inr (.inl (0, rd))), (365, .inr (.inl (0, m))), (367, .inr (.inr (.inl (rn.set i y.2.2.2.1))))] h0 := K.go K9 rfl rfl rfl
            clear K9
            show j_W jP _ 194 98 [(3, .int (nI nt)), (2, .int 0), (0, .ref 359), (1, .int (nI i))] [] h9 _
            refine j_W.one mm_M mm_98 (by decide) (pcJ := 99) (stJ := [.int 1]) rfl ?_
            refine j_W.ret mm_M mm_99 rfl rfl ⟨rfl, K⟩
          · cases c
      · have c9 : decide ((sIx rn y.2.2.2.1 ns 0) = -1) = false := by simpa [j_cond] using c
        clear c
        refine j_W.one mm_M mm_21 (by decide) (pcJ := 22) (stJ := [.int 1]) rfl ?_
        refine j_W.gto mm_M mm_22 (t := 26) rfl ?_
        refine j_W.one mm_M mm_26 (by decide) (pcJ := 27) (lv' := [(2, .int 1), (0, .ref 359), (1, .int (nI i))]) (stJ := []) rfl ?_
        refine j_W.one mm_M mm_27 (by decide) (pcJ := 28) (stJ := [.int 0]) rfl ?_
        refine j_W.one mm_M mm_28 (by decide) (pcJ := 29) (lv' := [(3, .int 0), (2, .int 1), (0, .ref 359), (1, .int (nI i))]) (stJ := []) rfl ?_
        refine mm_l hr hn h5 ht nt 0 true _ (by omega) K ?_
        have e9 : sAm rn y.2.2.2.1 nt 0 true = mTk rn y.2.2.2.1 ns nt := by unfold mTk; rw [c9]; rfl
        rw [e9]
        refine j_W.one mm_M mm_74 (by decide) (pcJ := 75) (stJ := [.int (bif (mTk rn y.2.2.2.1 ns nt) then 1 else 0)]) rfl ?_
        cases hk : mTk rn y.2.2.2.1 ns nt with
        | true =>
          show j_W jP _ 194 75 [(3, .int (nI nt)), (2, .int 1), (0, .ref 359), (1, .int (nI i))] [.int 1] h _
          refine j_W.ifc mm_M mm_75 (t := 84) rfl (fun c => ?_) (fun c => ?_)
          · cases c
          · clear c
            refine j_W.one mm_M mm_78 (by decide) (pcJ := 79) (stJ := [.ref 359]) rfl ?_
            refine j_W.one mm_M mm_79 (by decide) (pcJ := 80) (stJ := [.int 4, .ref 359]) rfl ?_
            refine j_W.call mm_M mm_80 rfl (md := 3) (mj := 190) rfl (by decide) mx_M (As := [.ref 359, .int 4]) (rest := []) (jk_spl3 (K.at rfl) rfl rfl rfl (Nat.le_of_ble_eq_true rfl) (Nat.le_of_ble_eq_true rfl)) (mx_ok (K.sub ⟨rfl, trivial⟩)) ?_
            rintro r h9 ⟨rfl, K9⟩
            have K : KN h9 [(359, .inl (10, [(u 0), (u 1), .ref 361, (u 3), (u 4), (u 5), .ref 365, (u 7), .ref 367, (u 9), (u 10), (u 11), (u 12), (u 13), .int (nI e), .int y.2.2.1, .int (nI y.1), .int y.2.1, .int y.2.2.2.2, .int ((bF y.2.1 4, y.2.2.1) : Int32 × Int32).1, .int ((bF y.2.1 4, y.2.2.1) : Int32 × Int32).2, .long y.2.2.2.1, (u 22), (u 23), (u 24), (u 25), (u 26), (u 27)])), (361, .inr (.inl (0, rd))), (365, .inr (.inl (0, m))), (367, .inr (.inr (.inl rn)))] h0 := K.go K9 rfl rfl rfl
            clear K9
            show j_W jP _ 194 83 [(3, .int (nI nt)), (2, .int 1), (0, .ref 359), (1, .int (nI i))] [.int 0] h9 _
            refine j_W.ret mm_M mm_83 rfl rfl ⟨rfl, K⟩
        | false =>
          show j_W jP _ 194 75 [(3, .int (nI nt)), (2, .int 0), (0, .ref 359), (1, .int (nI i))] [.int 0] h _
          refine j_W.ifc mm_M mm_75 (t := 84) rfl (fun c => ?_) (fun c => ?_)
          · clear c
            refine j_W.one mm_M mm_84 (by decide) (pcJ := 85) (stJ := [.ref 359]) rfl ?_
            refine j_W.getK mm_M mm_85 (ci := 10) (j := 8) rfl K rfl rfl ?_
            refine j_W.one mm_M mm_88 (by decide) (pcJ := 89) (stJ := [.int (nI i), .ref 367]) rfl ?_
            refine j_W.one mm_M mm_89 (by decide) (pcJ := 90) (stJ := [.ref 359, .int (nI i), .ref 367]) rfl ?_
            refine j_W.getK mm_M mm_90 (ci := 10) (j := 21) rfl K rfl rfl ?_
            refine j_W.lastK mm_M mm_93 (n := i) (k' := [(359, .inl (10, [(u 0), (u 1), .ref 361, (u 3), (u 4), (u 5), .ref 365, (u 7), .ref 367, (u 9), (u 10), (u 11), (u 12), (u 13), .int (nI e), .int y.2.2.1, .int (nI y.1), .int y.2.1, .int y.2.2.2.2, .int F.1, .int F.2, .long y.2.2.2.1, (u 22), (u 23), (u 24), (u 25), (u 26), (u 27)])), (361, .inr (.inl (0, rd))), (365, .inr (.inl (0, m))), (367, .inr (.inr (.inl (rn.set i y.2.2.2.1))))]) K rfl (by omega) (by omega) rfl (fun h K => ?_)
            refine j_W.one mm_M mm_94 (by decide) (pcJ := 95) (stJ := [.ref 359]) rfl ?_
            refine j_W.call mm_M mm_95 rfl (md := 3) (mj := 185) rfl (by decide) mg_M (As := [.ref 359]) (rest := []) (jk_spl3 (K.at rfl) rfl rfl rfl (Nat.le_of_ble_eq_true rfl) (Nat.le_of_ble_eq_true rfl)) (mg_ok hm he hb hp (K.sub ⟨rfl, rfl, trivial⟩)) ?_
            rintro r h9 ⟨rfl, K9⟩
            have K : KN h9 [(359, .inl (10, [(u 0), (u 1), .ref 361, (u 3), (u 4), (u 5), .ref 365, (u 7), .ref 367, (u 9), (u 10), (u 11), (u 12), (u 13), .int (nI e), .int (mT m e y).2.2.1, .int (nI (mT m e y).1), .int (mT m e y).2.1, .int (mT m e y).2.2.2.2, .int F.1, .int F.2, .long (mT m e y).2.2.2.1, (u 22), (u 23), (u 24), (u 25), (u 26), (u 27)])), (361, .inr (.inl (0, rd))), (365, .inr (.inl (0, m))), (367, .inr (.inr (.inl (rn.set i y.2.2.2.1))))] h0 := K.go K9 rfl rfl rfl
            clear K9
            show j_W jP _ 194 98 [(3, .int (nI nt)), (2, .int 0), (0, .ref 359), (1, .int (nI i))] [] h9 _
            refine j_W.one mm_M mm_98 (by decide) (pcJ := 99) (stJ := [.int 1]) rfl ?_
            refine j_W.ret mm_M mm_99 rfl rfl ⟨rfl, K⟩
          · cases c
    · cases c
  | false =>
    show j_W jP _ 194 4 [(0, .ref 359), (1, .int (nI i))] [.int 0] h _
    refine j_W.ifc mm_M mm_4 (t := 13) rfl (fun c => ?_) (fun c => ?_)
    · cases c
    · clear c
      refine j_W.one mm_M mm_7 (by decide) (pcJ := 8) (stJ := [.ref 359]) rfl ?_
      refine j_W.one mm_M mm_8 (by decide) (pcJ := 9) (stJ := [.int 2, .ref 359]) rfl ?_
      refine j_W.call mm_M mm_9 rfl (md := 3) (mj := 190) rfl (by decide) mx_M (As := [.ref 359, .int 2]) (rest := []) (jk_spl3 (K.at rfl) rfl rfl rfl (Nat.le_of_ble_eq_true rfl) (Nat.le_of_ble_eq_true rfl)) (mx_ok (K.sub ⟨rfl, trivial⟩)) ?_
      rintro r h9 ⟨rfl, K9⟩
      have K : KN h9 [(359, .inl (10, [(u 0), (u 1), .ref 361, (u 3), (u 4), (u 5), .ref 365, (u 7), .ref 367, (u 9), (u 10), (u 11), (u 12), (u 13), .int (nI e), .int y.2.2.1, .int (nI y.1), .int y.2.1, .int y.2.2.2.2, .int ((bF y.2.1 2, y.2.2.1) : Int32 × Int32).1, .int ((bF y.2.1 2, y.2.2.1) : Int32 × Int32).2, .long y.2.2.2.1, (u 22), (u 23), (u 24), (u 25), (u 26), (u 27)])), (361, .inr (.inl (0, rd))), (365, .inr (.inl (0, m))), (367, .inr (.inr (.inl rn)))] h0 := K.go K9 rfl rfl rfl
      clear K9
      show j_W jP _ 194 12 [(0, .ref 359), (1, .int (nI i))] [.int 0] h9 _
      refine j_W.ret mm_M mm_12 rfl rfl ⟨rfl, K⟩
set_option maxRecDepth 100000 in
theorem mk_M : j_meth jP 196 = some (yX10_readKnown, cX10_readKnown, 4, (some .boolean), 2, false, 10) := rfl
set_option maxRecDepth 100000 in
theorem mk_0 : j_code jP 196 0 = some (.aload_n 0) := rfl
set_option maxRecDepth 100000 in
theorem mk_1 : j_code jP 196 1 = some (.invokevirtual 147) := rfl
set_option maxRecDepth 100000 in
theorem mk_4 : j_code jP 196 4 = some (.ifCond .ne 9) := rfl
set_option maxRecDepth 100000 in
theorem mk_7 : j_code jP 196 7 = some (.aload_n 0) := rfl
set_option maxRecDepth 100000 in
theorem mk_8 : j_code jP 196 8 = some (.iconst 2) := rfl
set_option maxRecDepth 100000 in
theorem mk_9 : j_code jP 196 9 = some (.invokevirtual 141) := rfl
set_option maxRecDepth 100000 in
theorem mk_12 : j_code jP 196 12 = some (.ireturn) := rfl
set_option maxRecDepth 100000 in
theorem mk_13 : j_code jP 196 13 = some (.aload_n 0) := rfl
set_option maxRecDepth 100000 in
theorem mk_14 : j_code jP 196 14 = some (.invokevirtual 151) := rfl
set_option maxRecDepth 100000 in
theorem mk_17 : j_code jP 196 17 = some (.istore_n 3) := rfl
set_option maxRecDepth 100000 in
theorem mk_18 : j_code jP 196 18 = some (.iload_n 3) := rfl
set_option maxRecDepth 100000 in
theorem mk_19 : j_code jP 196 19 = some (.iconst (-1)) := rfl
set_option maxRecDepth 100000 in
theorem mk_20 : j_code jP 196 20 = some (.if_icmp .eq 8) := rfl
set_option maxRecDepth 100000 in
theorem mk_23 : j_code jP 196 23 = some (.iload_n 3) := rfl
set_option maxRecDepth 100000 in
theorem mk_24 : j_code jP 196 24 = some (.iload_n 2) := rfl
set_option maxRecDepth 100000 in
theorem mk_25 : j_code jP 196 25 = some (.if_icmp .ne 9) := rfl
set_option maxRecDepth 100000 in
theorem mk_28 : j_code jP 196 28 = some (.aload_n 0) := rfl
set_option maxRecDepth 100000 in
theorem mk_29 : j_code jP 196 29 = some (.iconst 4) := rfl
set_option maxRecDepth 100000 in
theorem mk_30 : j_code jP 196 30 = some (.invokevirtual 141) := rfl
set_option maxRecDepth 100000 in
theorem mk_33 : j_code jP 196 33 = some (.ireturn) := rfl
set_option maxRecDepth 100000 in
theorem mk_34 : j_code jP 196 34 = some (.aload_n 0) := rfl
set_option maxRecDepth 100000 in
theorem mk_35 : j_code jP 196 35 = some (.getfield 13) := rfl
set_option maxRecDepth 100000 in
theorem mk_38 : j_code jP 196 38 = some (.iload_n 1) := rfl
set_option maxRecDepth 100000 in
theorem mk_39 : j_code jP 196 39 = some (.iload_n 3) := rfl
set_option maxRecDepth 100000 in
theorem mk_40 : j_code jP 196 40 = some (.iastore) := rfl
set_option maxRecDepth 100000 in
theorem mk_41 : j_code jP 196 41 = some (.aload_n 0) := rfl
set_option maxRecDepth 100000 in
theorem mk_42 : j_code jP 196 42 = some (.invokevirtual 144) := rfl
set_option maxRecDepth 100000 in
theorem mk_45 : j_code jP 196 45 = some (.iconst 1) := rfl
set_option maxRecDepth 100000 in
theorem mk_46 : j_code jP 196 46 = some (.ireturn) := rfl
theorem mk_ok {u : Nat → Value} {e : Nat} {m : List Int32} {h h0 : J_H} {d : Nat} {F : Int32 × Int32} {y : rK} {rd : List Int32} {rn : List Int64} {ns i : Nat} {v : Int32} (hm : m.length = 700) (he : e ≤ 700) (hb : ∀ k, k < e → 0 ≤ (m.getD k 0).toInt) (hp : y.1 ≤ e) (hr : rd.length = 602) (hn : rn.length = 12) (h7 : ns ≤ 7) (hs : rd.getD 202 0 = nI ns) (hi9 : i < 602) (K : KN h [(359, .inl (10, [(u 0), (u 1), .ref 361, (u 3), (u 4), (u 5), .ref 365, (u 7), .ref 367, (u 9), (u 10), (u 11), (u 12), (u 13), .int (nI e), .int y.2.2.1, .int (nI y.1), .int y.2.1, .int y.2.2.2.2, .int F.1, .int F.2, .long y.2.2.2.1, (u 22), (u 23), (u 24), (u 25), (u 26), (u 27)])), (361, .inr (.inl (0, rd))), (365, .inr (.inl (0, m))), (367, .inr (.inr (.inl rn)))] h0) : j_W jP (d + 1 + 1 + 1 + 1) 196 0 (lv_args 0 [.ref 359, .int (nI i), .int v]) [] h (PN u e m h0 (mKnown m e F ns i v y rd rn)) := by
  show j_W jP (d + 1 + 1 + 1 + 1) 196 0 [(0, .ref 359), (1, .int (nI i)), (2, .int v)] [] h _
  unfold mKnown
  refine j_W.one mk_M mk_0 (by decide) (pcJ := 1) (stJ := [.ref 359]) rfl ?_
  refine j_W.call mk_M mk_1 rfl (md := 3) (mj := 189) rfl (by decide) mn_M (As := [.ref 359]) (rest := []) (jk_spl3 (K.at rfl) rfl rfl rfl (Nat.le_of_ble_eq_true rfl) (Nat.le_of_ble_eq_true rfl)) (mn_ok (K.sub ⟨rfl, trivial⟩)) ?_
  rintro r hz ⟨rfl, ez⟩
  rw [ez]
  clear ez
  show j_W jP _ 196 4 [(0, .ref 359), (1, .int (nI i)), (2, .int v)] [.int (bif nmM y.2.1 y.2.2.2.1 then 1 else 0)] h _
  cases hq : nmM y.2.1 y.2.2.2.1 with
  | true =>
    show j_W jP _ 196 4 [(0, .ref 359), (1, .int (nI i)), (2, .int v)] [.int 1] h _
    refine j_W.ifc mk_M mk_4 (t := 13) rfl (fun c => ?_) (fun c => ?_)
    · clear c
      rw [cond_true]
      refine j_W.one mk_M mk_13 (by decide) (pcJ := 14) (stJ := [.ref 359]) rfl ?_
      refine j_W.call mk_M mk_14 rfl (md := 3) (mj := 193) rfl (by decide) mh_M (As := [.ref 359]) (rest := []) (jk_spl3 (K.at rfl) rfl rfl rfl (Nat.le_of_ble_eq_true rfl) (Nat.le_of_ble_eq_true rfl)) (mh_ok hr hn h7 hs (K.sub ⟨rfl, rfl, rfl, rfl, trivial⟩)) ?_
      rintro r hz ⟨rfl, ez⟩
      rw [ez]
      clear ez
      show j_W jP _ 196 17 [(0, .ref 359), (1, .int (nI i)), (2, .int v)] [.int (sIx rn y.2.2.2.1 ns 0)] h _
      refine j_W.one mk_M mk_17 (by decide) (pcJ := 18) (lv' := [(3, .int (sIx rn y.2.2.2.1 ns 0)), (0, .ref 359), (1, .int (nI i)), (2, .int v)]) (stJ := []) rfl ?_
      refine j_W.one mk_M mk_18 (by decide) (pcJ := 19) (stJ := [.int (sIx rn y.2.2.2.1 ns 0)]) rfl ?_
      refine j_W.one mk_M mk_19 (by decide) (pcJ := 20) (stJ := [.int (-1), .int (sIx rn y.2.2.2.1 ns 0)]) rfl ?_
      refine j_W.icmp mk_M mk_20 (t := 28) rfl (fun c => ?_) (fun c => ?_)
      · have c9 : decide ((sIx rn y.2.2.2.1 ns 0) = -1) = true := by simpa [j_cond] using c
        clear c
        rw [c9, Bool.true_or, cond_true]
        refine j_W.one mk_M mk_28 (by decide) (pcJ := 29) (stJ := [.ref 359]) rfl ?_
        refine j_W.one mk_M mk_29 (by decide) (pcJ := 30) (stJ := [.int 4, .ref 359]) rfl ?_
        refine j_W.call mk_M mk_30 rfl (md := 3) (mj := 190) rfl (by decide) mx_M (As := [.ref 359, .int 4]) (rest := []) (jk_spl3 (K.at rfl) rfl rfl rfl (Nat.le_of_ble_eq_true rfl) (Nat.le_of_ble_eq_true rfl)) (mx_ok (K.sub ⟨rfl, trivial⟩)) ?_
        rintro r h9 ⟨rfl, K9⟩
        have K : KN h9 [(359, .inl (10, [(u 0), (u 1), .ref 361, (u 3), (u 4), (u 5), .ref 365, (u 7), .ref 367, (u 9), (u 10), (u 11), (u 12), (u 13), .int (nI e), .int y.2.2.1, .int (nI y.1), .int y.2.1, .int y.2.2.2.2, .int ((bF y.2.1 4, y.2.2.1) : Int32 × Int32).1, .int ((bF y.2.1 4, y.2.2.1) : Int32 × Int32).2, .long y.2.2.2.1, (u 22), (u 23), (u 24), (u 25), (u 26), (u 27)])), (361, .inr (.inl (0, rd))), (365, .inr (.inl (0, m))), (367, .inr (.inr (.inl rn)))] h0 := K.go K9 rfl rfl rfl
        clear K9
        show j_W jP _ 196 33 [(3, .int (sIx rn y.2.2.2.1 ns 0)), (0, .ref 359), (1, .int (nI i)), (2, .int v)] [.int 0] h9 _
        refine j_W.ret mk_M mk_33 rfl rfl ⟨rfl, K⟩
      · have c9 : decide ((sIx rn y.2.2.2.1 ns 0) = -1) = false := by simpa [j_cond] using c
        clear c
        rw [c9, Bool.false_or]
        refine j_W.one mk_M mk_23 (by decide) (pcJ := 24) (stJ := [.int (sIx rn y.2.2.2.1 ns 0)]) rfl ?_
        refine j_W.one mk_M mk_24 (by decide) (pcJ := 25) (stJ := [.int v, .int (sIx rn y.2.2.2.1 ns 0)]) rfl ?_
        refine j_W.icmp mk_M mk_25 (t := 34) rfl (fun c => ?_) (fun c => ?_)
        · have c8 : decide ((sIx rn y.2.2.2.1 ns 0) = v) = false := by simpa [j_cond] using c
          clear c
          rw [c8, cond_false]
          refine j_W.one mk_M mk_34 (by decide) (pcJ := 35) (stJ := [.ref 359]) rfl ?_
          refine j_W.getK mk_M mk_35 (ci := 10) (j := 2) rfl K rfl rfl ?_
          refine j_W.one mk_M mk_38 (by decide) (pcJ := 39) (stJ := [.int (nI i), .ref 361]) rfl ?_
          refine j_W.one mk_M mk_39 (by decide) (pcJ := 40) (stJ := [.int (sIx rn y.2.2.2.1 ns 0), .int (nI i), .ref 361]) rfl ?_
          refine j_W.iastK mk_M mk_40 (n := i) (k' := [(359, .inl (10, [(u 0), (u 1), .ref 361, (u 3), (u 4), (u 5), .ref 365, (u 7), .ref 367, (u 9), (u 10), (u 11), (u 12), (u 13), .int (nI e), .int y.2.2.1, .int (nI y.1), .int y.2.1, .int y.2.2.2.2, .int F.1, .int F.2, .long y.2.2.2.1, (u 22), (u 23), (u 24), (u 25), (u 26), (u 27)])), (361, .inr (.inl (0, (rd.set i (sIx rn y.2.2.2.1 ns 0))))), (365, .inr (.inl (0, m))), (367, .inr (.inr (.inl rn)))]) K rfl (by omega) (by omega) rfl (fun h K => ?_)
          refine j_W.one mk_M mk_41 (by decide) (pcJ := 42) (stJ := [.ref 359]) rfl ?_
          refine j_W.call mk_M mk_42 rfl (md := 3) (mj := 185) rfl (by decide) mg_M (As := [.ref 359]) (rest := []) (jk_spl3 (K.at rfl) rfl rfl rfl (Nat.le_of_ble_eq_true rfl) (Nat.le_of_ble_eq_true rfl)) (mg_ok hm he hb hp (K.sub ⟨rfl, rfl, trivial⟩)) ?_
          rintro r h9 ⟨rfl, K9⟩
          have K : KN h9 [(359, .inl (10, [(u 0), (u 1), .ref 361, (u 3), (u 4), (u 5), .ref 365, (u 7), .ref 367, (u 9), (u 10), (u 11), (u 12), (u 13), .int (nI e), .int (mT m e y).2.2.1, .int (nI (mT m e y).1), .int (mT m e y).2.1, .int (mT m e y).2.2.2.2, .int F.1, .int F.2, .long (mT m e y).2.2.2.1, (u 22), (u 23), (u 24), (u 25), (u 26), (u 27)])), (361, .inr (.inl (0, (rd.set i (sIx rn y.2.2.2.1 ns 0))))), (365, .inr (.inl (0, m))), (367, .inr (.inr (.inl rn)))] h0 := K.go K9 rfl rfl rfl
          clear K9
          show j_W jP _ 196 45 [(3, .int (sIx rn y.2.2.2.1 ns 0)), (0, .ref 359), (1, .int (nI i)), (2, .int v)] [] h9 _
          refine j_W.one mk_M mk_45 (by decide) (pcJ := 46) (stJ := [.int 1]) rfl ?_
          refine j_W.ret mk_M mk_46 rfl rfl ⟨rfl, K⟩
        · have c8 : decide ((sIx rn y.2.2.2.1 ns 0) = v) = true := by simpa [j_cond] using c
          clear c
          rw [c8, cond_true]
          refine j_W.one mk_M mk_28 (by decide) (pcJ := 29) (stJ := [.ref 359]) rfl ?_
          refine j_W.one mk_M mk_29 (by decide) (pcJ := 30) (stJ := [.int 4, .ref 359]) rfl ?_
          refine j_W.call mk_M mk_30 rfl (md := 3) (mj := 190) rfl (by decide) mx_M (As := [.ref 359, .int 4]) (rest := []) (jk_spl3 (K.at rfl) rfl rfl rfl (Nat.le_of_ble_eq_true rfl) (Nat.le_of_ble_eq_true rfl)) (mx_ok (K.sub ⟨rfl, trivial⟩)) ?_
          rintro r h9 ⟨rfl, K9⟩
          have K : KN h9 [(359, .inl (10, [(u 0), (u 1), .ref 361, (u 3), (u 4), (u 5), .ref 365, (u 7), .ref 367, (u 9), (u 10), (u 11), (u 12), (u 13), .int (nI e), .int y.2.2.1, .int (nI y.1), .int y.2.1, .int y.2.2.2.2, .int ((bF y.2.1 4, y.2.2.1) : Int32 × Int32).1, .int ((bF y.2.1 4, y.2.2.1) : Int32 × Int32).2, .long y.2.2.2.1, (u 22), (u 23), (u 24), (u 25), (u 26), (u 27)])), (361, .inr (.inl (0, rd))), (365, .inr (.inl (0, m))), (367, .inr (.inr (.inl rn)))] h0 := K.go K9 rfl rfl rfl
          clear K9
          show j_W jP _ 196 33 [(3, .int (sIx rn y.2.2.2.1 ns 0)), (0, .ref 359), (1, .int (nI i)), (2, .int v)] [.int 0] h9 _
          refine j_W.ret mk_M mk_33 rfl rfl ⟨rfl, K⟩
    · cases c
  | false =>
    show j_W jP _ 196 4 [(0, .ref 359), (1, .int (nI i)), (2, .int v)] [.int 0] h _
    refine j_W.ifc mk_M mk_4 (t := 13) rfl (fun c => ?_) (fun c => ?_)
    · cases c
    · clear c
      rw [cond_false]
      refine j_W.one mk_M mk_7 (by decide) (pcJ := 8) (stJ := [.ref 359]) rfl ?_
      refine j_W.one mk_M mk_8 (by decide) (pcJ := 9) (stJ := [.int 2, .ref 359]) rfl ?_
      refine j_W.call mk_M mk_9 rfl (md := 3) (mj := 190) rfl (by decide) mx_M (As := [.ref 359, .int 2]) (rest := []) (jk_spl3 (K.at rfl) rfl rfl rfl (Nat.le_of_ble_eq_true rfl) (Nat.le_of_ble_eq_true rfl)) (mx_ok (K.sub ⟨rfl, trivial⟩)) ?_
      rintro r h9 ⟨rfl, K9⟩
      have K : KN h9 [(359, .inl (10, [(u 0), (u 1), .ref 361, (u 3), (u 4), (u 5), .ref 365, (u 7), .ref 367, (u 9), (u 10), (u 11), (u 12), (u 13), .int (nI e), .int y.2.2.1, .int (nI y.1), .int y.2.1, .int y.2.2.2.2, .int ((bF y.2.1 2, y.2.2.1) : Int32 × Int32).1, .int ((bF y.2.1 2, y.2.2.1) : Int32 × Int32).2, .long y.2.2.2.1, (u 22), (u 23), (u 24), (u 25), (u 26), (u 27)])), (361, .inr (.inl (0, rd))), (365, .inr (.inl (0, m))), (367, .inr (.inr (.inl rn)))] h0 := K.go K9 rfl rfl rfl
      clear K9
      show j_W jP _ 196 12 [(0, .ref 359), (1, .int (nI i)), (2, .int v)] [.int 0] h9 _
      refine j_W.ret mk_M mk_12 rfl rfl ⟨rfl, K⟩

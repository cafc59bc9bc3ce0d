/-! the class's read: written by wip/jk/gen_all.py -/
set_option maxRecDepth 100000 in
theorem xo_M : j_meth jP 106 = some (yX8_open, cX8_open, 2, none, 1, false, 8) := rfl
set_option maxRecDepth 100000 in
theorem xo_0 : j_code jP 106 0 = some (.aload_n 0) := rfl
set_option maxRecDepth 100000 in
theorem xo_1 : j_code jP 106 1 = some (.iload_n 1) := rfl
set_option maxRecDepth 100000 in
theorem xo_2 : j_code jP 106 2 = some (.aload_n 0) := rfl
set_option maxRecDepth 100000 in
theorem xo_3 : j_code jP 106 3 = some (.getfield 15) := rfl
set_option maxRecDepth 100000 in
theorem xo_6 : j_code jP 106 6 = some (.invokestatic 23) := rfl
set_option maxRecDepth 100000 in
theorem xo_9 : j_code jP 106 9 = some (.putfield 29) := rfl
set_option maxRecDepth 100000 in
theorem xo_12 : j_code jP 106 12 = some (.aload_n 0) := rfl
set_option maxRecDepth 100000 in
theorem xo_13 : j_code jP 106 13 = some (.iconst 0) := rfl
set_option maxRecDepth 100000 in
theorem xo_14 : j_code jP 106 14 = some (.putfield 32) := rfl
set_option maxRecDepth 100000 in
theorem xo_17 : j_code jP 106 17 = some (.return_) := rfl
theorem xo_mn {ln : Int32} {e : Nat} (hle : (nI e).toInt ≤ ln.toInt) : j_mm false [.int ln, .int (nI e), .ref 1] = some [.int (nI e), .ref 1] := by
  have h1 : ¬ ln < nI e := fun z => by have := Int32.lt_iff_toInt_lt.mp z; omega
  unfold j_mm
  dsimp only
  rw [if_pos (by decide), if_neg (by decide), if_neg h1]
theorem xo_ok {ln en nx kd pl nu : Int32} {wo : Int64} {e d : Nat} {h h0 : J_H} (hle : (nI e).toInt ≤ ln.toInt) (K : KN h [(1, .inl (8, [.ref 2, .int ln, .int en, .int nx, .int kd, .int pl, .long wo, .int nu]))] h0) : j_W jP d 106 0 (lv_args 0 [.ref 1, .int (nI e)]) [] h (fun rv h' => rv = none ∧ KN h' [(1, .inl (8, [.ref 2, .int ln, .int (nI e), .int 0, .int kd, .int pl, .long wo, .int nu]))] h0) := by
  show j_W jP d 106 0 [(0, .ref 1), (1, .int (nI e))] [] h _
  refine j_W.one xo_M xo_0 (by decide) (pcJ := 1) (stJ := [.ref 1]) rfl ?_
  refine j_W.one xo_M xo_1 (by decide) (pcJ := 2) (stJ := [.int (nI e), .ref 1]) rfl ?_
  refine j_W.one xo_M xo_2 (by decide) (pcJ := 3) (stJ := [.ref 1, .int (nI e), .ref 1]) rfl ?_
  refine j_W.getK xo_M xo_3 (ci := 8) (j := 1) rfl K rfl rfl ?_
  refine j_W.min xo_M xo_6 rfl rfl (stJ := [.int (nI e), .ref 1]) (xo_mn hle) ?_
  refine j_W.putK xo_M xo_9 (ci := 8) (j := 2) (k' := [(1, .inl (8, [.ref 2, .int ln, .int (nI e), .int nx, .int kd, .int pl, .long wo, .int nu]))]) rfl K rfl (Nat.le_of_ble_eq_true rfl) rfl (Or.inl rfl) rfl rfl (fun h K => ?_)
  refine j_W.one xo_M xo_12 (by decide) (pcJ := 13) (stJ := [.ref 1]) rfl ?_
  refine j_W.one xo_M xo_13 (by decide) (pcJ := 14) (stJ := [.int 0, .ref 1]) rfl ?_
  refine j_W.putK xo_M xo_14 (ci := 8) (j := 3) (k' := [(1, .inl (8, [.ref 2, .int ln, .int (nI e), .int 0, .int kd, .int pl, .long wo, .int nu]))]) rfl K rfl (Nat.le_of_ble_eq_true rfl) rfl (Or.inl rfl) rfl rfl (fun h K => ?_)
  refine j_W.ret xo_M xo_17 rfl rfl ⟨rfl, K⟩
set_option maxRecDepth 100000 in
theorem xe_M : j_meth jP 18 = some (yX2_clear, cX2_clear, 1, none, 0, false, 2) := rfl
set_option maxRecDepth 100000 in
theorem xe_0 : j_code jP 18 0 = some (.aload_n 0) := rfl
set_option maxRecDepth 100000 in
theorem xe_1 : j_code jP 18 1 = some (.iconst 0) := rfl
set_option maxRecDepth 100000 in
theorem xe_2 : j_code jP 18 2 = some (.putfield 58) := rfl
set_option maxRecDepth 100000 in
theorem xe_5 : j_code jP 18 5 = some (.aload_n 0) := rfl
set_option maxRecDepth 100000 in
theorem xe_6 : j_code jP 18 6 = some (.iconst 0) := rfl
set_option maxRecDepth 100000 in
theorem xe_7 : j_code jP 18 7 = some (.putfield 62) := rfl
set_option maxRecDepth 100000 in
theorem xe_10 : j_code jP 18 10 = some (.return_) := rfl
theorem xe_okA {sx tx ce : Int32} {d : Nat} {h h0 : J_H} (K : KN h [(327, .inl (2, [.int sx, .ref 328, .ref 329, .ref 330, .ref 331, .int tx, .ref 332, .ref 333, .ref 334, .ref 335, .ref 336, .ref 337, .ref 338, .int ce, .ref 339, .ref 340, .ref 341, .ref 342]))] h0) : j_W jP d 18 0 (lv_args 0 [.ref 327]) [] h (fun rv h' => rv = none ∧ KN h' [(327, .inl (2, [.int 0, .ref 328, .ref 329, .ref 330, .ref 331, .int 0, .ref 332, .ref 333, .ref 334, .ref 335, .ref 336, .ref 337, .ref 338, .int ce, .ref 339, .ref 340, .ref 341, .ref 342]))] h0) := by
  show j_W jP d 18 0 [(0, .ref 327)] [] h _
  refine j_W.one xe_M xe_0 (by decide) (pcJ := 1) (stJ := [.ref 327]) rfl ?_
  refine j_W.one xe_M xe_1 (by decide) (pcJ := 2) (stJ := [.int 0, .ref 327]) rfl ?_
  refine j_W.putK xe_M xe_2 (ci := 2) (j := 0) (k' := [(327, .inl (2, [.int 0, .ref 328, .ref 329, .ref 330, .ref 331, .int tx, .ref 332, .ref 333, .ref 334, .ref 335, .ref 336, .ref 337, .ref 338, .int ce, .ref 339, .ref 340, .ref 341, .ref 342]))]) rfl K rfl (Nat.le_of_ble_eq_true rfl) rfl (Or.inl rfl) rfl rfl (fun h K => ?_)
  refine j_W.one xe_M xe_5 (by decide) (pcJ := 6) (stJ := [.ref 327]) rfl ?_
  refine j_W.one xe_M xe_6 (by decide) (pcJ := 7) (stJ := [.int 0, .ref 327]) rfl ?_
  refine j_W.putK xe_M xe_7 (ci := 2) (j := 5) (k' := [(327, .inl (2, [.int 0, .ref 328, .ref 329, .ref 330, .ref 331, .int 0, .ref 332, .ref 333, .ref 334, .ref 335, .ref 336, .ref 337, .ref 338, .int ce, .ref 339, .ref 340, .ref 341, .ref 342]))]) rfl K rfl (Nat.le_of_ble_eq_true rfl) rfl (Or.inl rfl) rfl rfl (fun h K => ?_)
  refine j_W.ret xe_M xe_10 rfl rfl ⟨rfl, K⟩
theorem xe_okB {sx tx ce : Int32} {d : Nat} {h h0 : J_H} (K : KN h [(343, .inl (2, [.int sx, .ref 344, .ref 345, .ref 346, .ref 347, .int tx, .ref 348, .ref 349, .ref 350, .ref 351, .ref 352, .ref 353, .ref 354, .int ce, .ref 355, .ref 356, .ref 357, .ref 358]))] h0) : j_W jP d 18 0 (lv_args 0 [.ref 343]) [] h (fun rv h' => rv = none ∧ KN h' [(343, .inl (2, [.int 0, .ref 344, .ref 345, .ref 346, .ref 347, .int 0, .ref 348, .ref 349, .ref 350, .ref 351, .ref 352, .ref 353, .ref 354, .int ce, .ref 355, .ref 356, .ref 357, .ref 358]))] h0) := by
  show j_W jP d 18 0 [(0, .ref 343)] [] h _
  refine j_W.one xe_M xe_0 (by decide) (pcJ := 1) (stJ := [.ref 343]) rfl ?_
  refine j_W.one xe_M xe_1 (by decide) (pcJ := 2) (stJ := [.int 0, .ref 343]) rfl ?_
  refine j_W.putK xe_M xe_2 (ci := 2) (j := 0) (k' := [(343, .inl (2, [.int 0, .ref 344, .ref 345, .ref 346, .ref 347, .int tx, .ref 348, .ref 349, .ref 350, .ref 351, .ref 352, .ref 353, .ref 354, .int ce, .ref 355, .ref 356, .ref 357, .ref 358]))]) rfl K rfl (Nat.le_of_ble_eq_true rfl) rfl (Or.inl rfl) rfl rfl (fun h K => ?_)
  refine j_W.one xe_M xe_5 (by decide) (pcJ := 6) (stJ := [.ref 343]) rfl ?_
  refine j_W.one xe_M xe_6 (by decide) (pcJ := 7) (stJ := [.int 0, .ref 343]) rfl ?_
  refine j_W.putK xe_M xe_7 (ci := 2) (j := 5) (k' := [(343, .inl (2, [.int 0, .ref 344, .ref 345, .ref 346, .ref 347, .int 0, .ref 348, .ref 349, .ref 350, .ref 351, .ref 352, .ref 353, .ref 354, .int ce, .ref 355, .ref 356, .ref 357, .ref 358]))]) rfl K rfl (Nat.le_of_ble_eq_true rfl) rfl (Or.inl rfl) rfl rfl (fun h K => ?_)
  refine j_W.ret xe_M xe_10 rfl rfl ⟨rfl, K⟩
set_option maxRecDepth 100000 in
theorem xd_M : j_meth jP 34 = some (yX4_read, cX4_read, 5, (some .boolean), 2, false, 4) := rfl
set_option maxRecDepth 100000 in
theorem xd_0 : j_code jP 34 0 = some (.aload_n 0) := rfl
set_option maxRecDepth 100000 in
theorem xd_1 : j_code jP 34 1 = some (.aload_n 2) := rfl
set_option maxRecDepth 100000 in
theorem xd_2 : j_code jP 34 2 = some (.putfield 22) := rfl
set_option maxRecDepth 100000 in
theorem xd_5 : j_code jP 34 5 = some (.aload_n 0) := rfl
set_option maxRecDepth 100000 in
theorem xd_6 : j_code jP 34 6 = some (.getfield 22) := rfl
set_option maxRecDepth 100000 in
theorem xd_9 : j_code jP 34 9 = some (.invokevirtual 26) := rfl
set_option maxRecDepth 100000 in
theorem xd_12 : j_code jP 34 12 = some (.aload_n 0) := rfl
set_option maxRecDepth 100000 in
theorem xd_13 : j_code jP 34 13 = some (.getfield 18) := rfl
set_option maxRecDepth 100000 in
theorem xd_16 : j_code jP 34 16 = some (.iload_n 1) := rfl
set_option maxRecDepth 100000 in
theorem xd_17 : j_code jP 34 17 = some (.invokevirtual 31) := rfl
set_option maxRecDepth 100000 in
theorem xd_20 : j_code jP 34 20 = some (.aload_n 0) := rfl
set_option maxRecDepth 100000 in
theorem xd_21 : j_code jP 34 21 = some (.iconst 0) := rfl
set_option maxRecDepth 100000 in
theorem xd_22 : j_code jP 34 22 = some (.putfield 9) := rfl
set_option maxRecDepth 100000 in
theorem xd_25 : j_code jP 34 25 = some (.aload_n 0) := rfl
set_option maxRecDepth 100000 in
theorem xd_26 : j_code jP 34 26 = some (.iconst (-1)) := rfl
set_option maxRecDepth 100000 in
theorem xd_27 : j_code jP 34 27 = some (.putfield 15) := rfl
set_option maxRecDepth 100000 in
theorem xd_30 : j_code jP 34 30 = some (.iconst 0) := rfl
set_option maxRecDepth 100000 in
theorem xd_31 : j_code jP 34 31 = some (.istore_n 3) := rfl
set_option maxRecDepth 100000 in
theorem xd_32 : j_code jP 34 32 = some (.iload_n 3) := rfl
set_option maxRecDepth 100000 in
theorem xd_33 : j_code jP 34 33 = some (.iload_n 1) := rfl
set_option maxRecDepth 100000 in
theorem xd_34 : j_code jP 34 34 = some (.if_icmp .gt 83) := rfl
set_option maxRecDepth 100000 in
theorem xd_37 : j_code jP 34 37 = some (.aload_n 0) := rfl
set_option maxRecDepth 100000 in
theorem xd_38 : j_code jP 34 38 = some (.getfield 18) := rfl
set_option maxRecDepth 100000 in
theorem xd_41 : j_code jP 34 41 = some (.invokevirtual 37) := rfl
set_option maxRecDepth 100000 in
theorem xd_44 : j_code jP 34 44 = some (.aload_n 0) := rfl
set_option maxRecDepth 100000 in
theorem xd_45 : j_code jP 34 45 = some (.getfield 18) := rfl
set_option maxRecDepth 100000 in
theorem xd_48 : j_code jP 34 48 = some (.getfield 40) := rfl
set_option maxRecDepth 100000 in
theorem xd_51 : j_code jP 34 51 = some (.ifCond .ne 6) := rfl
set_option maxRecDepth 100000 in
theorem xd_54 : j_code jP 34 54 = some (.goto 63) := rfl
set_option maxRecDepth 100000 in
theorem xd_57 : j_code jP 34 57 = some (.aload_n 0) := rfl
set_option maxRecDepth 100000 in
theorem xd_58 : j_code jP 34 58 = some (.getfield 18) := rfl
set_option maxRecDepth 100000 in
theorem xd_61 : j_code jP 34 61 = some (.ldc2_w 43) := rfl
set_option maxRecDepth 100000 in
theorem xd_64 : j_code jP 34 64 = some (.invokevirtual 45) := rfl
set_option maxRecDepth 100000 in
theorem xd_67 : j_code jP 34 67 = some (.ifCond .eq 10) := rfl
set_option maxRecDepth 100000 in
theorem xd_70 : j_code jP 34 70 = some (.aload_n 0) := rfl
set_option maxRecDepth 100000 in
theorem xd_71 : j_code jP 34 71 = some (.invokevirtual 49) := rfl
set_option maxRecDepth 100000 in
theorem xd_74 : j_code jP 34 74 = some (.goto 27) := rfl
set_option maxRecDepth 100000 in
theorem xd_77 : j_code jP 34 77 = some (.aload_n 0) := rfl
set_option maxRecDepth 100000 in
theorem xd_78 : j_code jP 34 78 = some (.getfield 18) := rfl
set_option maxRecDepth 100000 in
theorem xd_81 : j_code jP 34 81 = some (.ldc2_w 53) := rfl
set_option maxRecDepth 100000 in
theorem xd_84 : j_code jP 34 84 = some (.invokevirtual 45) := rfl
set_option maxRecDepth 100000 in
theorem xd_87 : j_code jP 34 87 = some (.ifCond .eq 10) := rfl
set_option maxRecDepth 100000 in
theorem xd_90 : j_code jP 34 90 = some (.aload_n 0) := rfl
set_option maxRecDepth 100000 in
theorem xd_91 : j_code jP 34 91 = some (.invokevirtual 55) := rfl
set_option maxRecDepth 100000 in
theorem xd_94 : j_code jP 34 94 = some (.goto 7) := rfl
set_option maxRecDepth 100000 in
theorem xd_97 : j_code jP 34 97 = some (.aload_n 0) := rfl
set_option maxRecDepth 100000 in
theorem xd_98 : j_code jP 34 98 = some (.invokevirtual 58) := rfl
set_option maxRecDepth 100000 in
theorem xd_101 : j_code jP 34 101 = some (.istore 4) := rfl
set_option maxRecDepth 100000 in
theorem xd_103 : j_code jP 34 103 = some (.iload 4) := rfl
set_option maxRecDepth 100000 in
theorem xd_105 : j_code jP 34 105 = some (.ifCond .ne 6) := rfl
set_option maxRecDepth 100000 in
theorem xd_108 : j_code jP 34 108 = some (.goto 9) := rfl
set_option maxRecDepth 100000 in
theorem xd_111 : j_code jP 34 111 = some (.iinc 3 1) := rfl
set_option maxRecDepth 100000 in
theorem xd_114 : j_code jP 34 114 = some (.goto (-82)) := rfl
set_option maxRecDepth 100000 in
theorem xd_117 : j_code jP 34 117 = some (.aload_n 0) := rfl
set_option maxRecDepth 100000 in
theorem xd_118 : j_code jP 34 118 = some (.getfield 9) := rfl
set_option maxRecDepth 100000 in
theorem xd_121 : j_code jP 34 121 = some (.ifCond .ne 7) := rfl
set_option maxRecDepth 100000 in
theorem xd_124 : j_code jP 34 124 = some (.iconst 1) := rfl
set_option maxRecDepth 100000 in
theorem xd_125 : j_code jP 34 125 = some (.goto 4) := rfl
set_option maxRecDepth 100000 in
theorem xd_128 : j_code jP 34 128 = some (.iconst 0) := rfl
set_option maxRecDepth 100000 in
theorem xd_129 : j_code jP 34 129 = some (.ireturn) := rfl
def xd_N : j_M := (yX4_read, cX4_read, 5, (some .boolean), 2, false, 4)
def PDA (ln ce : Int32) (e : Nat) (l : List Int32) (h0 : J_H) (R : rY) (rv : Option Value) (h' : J_H) : Prop := rv = some (.int (if R.1.1 = 0 then 1 else 0)) ∧ KN h' [(1, .inl (8, [.ref 2, .int ln, .int (nI e), .int (nI R.2.1.1), .int R.2.1.2.1, .int R.2.1.2.2.1, .long R.2.1.2.2.2.1, .int R.2.1.2.2.2.2])), (2, .inr (.inl (1, l))), (3, .inl (4, [.ref 1, .ref 327, .int R.1.1, .int R.1.2])), (327, .inl (2, [.int (nI R.2.2.1.1), .ref 328, .ref 329, .ref 330, .ref 331, .int (nI R.2.2.2.1), .ref 332, .ref 333, .ref 334, .ref 335, .ref 336, .ref 337, .ref 338, .int ce, .ref 339, .ref 340, .ref 341, .ref 342])), (328, .inr (.inr (.inl R.2.2.1.2.1))), (329, .inr (.inl (0, R.2.2.1.2.2.1))), (330, .inr (.inl (0, R.2.2.1.2.2.2.1))), (331, .inr (.inl (0, R.2.2.1.2.2.2.2))), (332, .inr (.inr (.inl R.2.2.2.2.1))), (333, .inr (.inl (0, R.2.2.2.2.2.1))), (334, .inr (.inl (0, R.2.2.2.2.2.2.1))), (335, .inr (.inl (0, R.2.2.2.2.2.2.2.1))), (336, .inr (.inl (0, R.2.2.2.2.2.2.2.2.1))), (337, .inr (.inl (0, R.2.2.2.2.2.2.2.2.2.1))), (338, .inr (.inl (0, R.2.2.2.2.2.2.2.2.2.2)))] h0
theorem xd_xA {ln ce : Int32} {e : Nat} {l : List Int32} {h h0 : J_H} {d : Nat} {R : rY} {lv : J_L} (hv : ∀ st h, j_one jP 34 (j_nL xd_N) (j_in xd_N) 117 (.aload_n 0) lv st h = some (118, lv, .ref 3 :: st, h)) (K : KN h [(1, .inl (8, [.ref 2, .int ln, .int (nI e), .int (nI R.2.1.1), .int R.2.1.2.1, .int R.2.1.2.2.1, .long R.2.1.2.2.2.1, .int R.2.1.2.2.2.2])), (2, .inr (.inl (1, l))), (3, .inl (4, [.ref 1, .ref 327, .int R.1.1, .int R.1.2])), (327, .inl (2, [.int (nI R.2.2.1.1), .ref 328, .ref 329, .ref 330, .ref 331, .int (nI R.2.2.2.1), .ref 332, .ref 333, .ref 334, .ref 335, .ref 336, .ref 337, .ref 338, .int ce, .ref 339, .ref 340, .ref 341, .ref 342])), (328, .inr (.inr (.inl R.2.2.1.2.1))), (329, .inr (.inl (0, R.2.2.1.2.2.1))), (330, .inr (.inl (0, R.2.2.1.2.2.2.1))), (331, .inr (.inl (0, R.2.2.1.2.2.2.2))), (332, .inr (.inr (.inl R.2.2.2.2.1))), (333, .inr (.inl (0, R.2.2.2.2.2.1))), (334, .inr (.inl (0, R.2.2.2.2.2.2.1))), (335, .inr (.inl (0, R.2.2.2.2.2.2.2.1))), (336, .inr (.inl (0, R.2.2.2.2.2.2.2.2.1))), (337, .inr (.inl (0, R.2.2.2.2.2.2.2.2.2.1))), (338, .inr (.inl (0, R.2.2.2.2.2.2.2.2.2.2)))] h0) : j_W jP d 34 117 lv [] h (PDA ln ce e l h0 R) := by
  refine j_W.one xd_M xd_117 (by decide) (pcJ := 118) (stJ := [.ref 3]) (hv _ _) ?_
  refine j_W.getK xd_M xd_118 (ci := 4) (j := 2) rfl K rfl rfl ?_
  refine j_W.ifc xd_M xd_121 (t := 128) rfl (fun c => ?_) (fun c => ?_)
  · have c : ¬ R.1.1 = 0 := by simpa [j_cond] using c
    refine j_W.one xd_M xd_128 (by decide) (pcJ := 129) (stJ := [.int 0]) rfl ?_
    refine j_W.ret xd_M xd_129 rfl rfl ⟨?_, K⟩
    rw [if_neg c]
  · have c : R.1.1 = 0 := by simpa [j_cond] using c
    refine j_W.one xd_M xd_124 (by decide) (pcJ := 125) (stJ := [.int 1]) rfl ?_
    refine j_W.gto xd_M xd_125 (t := 129) rfl ?_
    refine j_W.ret xd_M xd_129 rfl rfl ⟨?_, K⟩
    rw [if_pos c]
theorem xd_t0A {ln ce : Int32} {l : List Int32} {e : Nat} {h0 : J_H} {d : Nat} {pa : Int32} {k : Nat} {h : J_H} {z : rK} {s : rSP} {t : rTP} {g : rK → rSP → rTP → rY} (hl : l.length = 700) (he : e ≤ 700) (hze : z.1 ≤ e) (hs : wS s) (ht : w9T t) (hg : ∀ (h : J_H) (z' : rK) (s' : rSP) (t' : rTP), z.1 ≤ z'.1 → z'.1 ≤ e → wS s' → w9T t' → KN h [(1, .inl (8, [.ref 2, .int ln, .int (nI e), .int (nI z'.1), .int z'.2.1, .int z'.2.2.1, .long z'.2.2.2.1, .int z'.2.2.2.2])), (2, .inr (.inl (1, l))), (3, .inl (4, [.ref 1, .ref 327, .int 0, .int pa])), (327, .inl (2, [.int (nI s'.1), .ref 328, .ref 329, .ref 330, .ref 331, .int (nI t'.1), .ref 332, .ref 333, .ref 334, .ref 335, .ref 336, .ref 337, .ref 338, .int ce, .ref 339, .ref 340, .ref 341, .ref 342])), (328, .inr (.inr (.inl s'.2.1))), (329, .inr (.inl (0, s'.2.2.1))), (330, .inr (.inl (0, s'.2.2.2.1))), (331, .inr (.inl (0, s'.2.2.2.2))), (332, .inr (.inr (.inl t'.2.1))), (333, .inr (.inl (0, t'.2.2.1))), (334, .inr (.inl (0, t'.2.2.2.1))), (335, .inr (.inl (0, t'.2.2.2.2.1))), (336, .inr (.inl (0, t'.2.2.2.2.2.1))), (337, .inr (.inl (0, t'.2.2.2.2.2.2.1))), (338, .inr (.inl (0, t'.2.2.2.2.2.2.2)))] h0 → j_W jP (d + 1 + 1 + 1 + 1 + 1) 34 32 [(3, .int (nI (k + 1))), (4, .int 1), (0, .ref 3), (1, .int (nI e)), (2, .ref 327)] [] h (PDA ln ce e l h0 (g z' s' t'))) (K : KN h [(1, .inl (8, [.ref 2, .int ln, .int (nI e), .int (nI z.1), .int z.2.1, .int z.2.2.1, .long z.2.2.2.1, .int z.2.2.2.2])), (2, .inr (.inl (1, l))), (3, .inl (4, [.ref 1, .ref 327, .int 0, .int pa])), (327, .inl (2, [.int (nI s.1), .ref 328, .ref 329, .ref 330, .ref 331, .int (nI t.1), .ref 332, .ref 333, .ref 334, .ref 335, .ref 336, .ref 337, .ref 338, .int ce, .ref 339, .ref 340, .ref 341, .ref 342])), (328, .inr (.inr (.inl s.2.1))), (329, .inr (.inl (0, s.2.2.1))), (330, .inr (.inl (0, s.2.2.2.1))), (331, .inr (.inl (0, s.2.2.2.2))), (332, .inr (.inr (.inl t.2.1))), (333, .inr (.inl (0, t.2.2.1))), (334, .inr (.inl (0, t.2.2.2.1))), (335, .inr (.inl (0, t.2.2.2.2.1))), (336, .inr (.inl (0, t.2.2.2.2.2.1))), (337, .inr (.inl (0, t.2.2.2.2.2.2.1))), (338, .inr (.inl (0, t.2.2.2.2.2.2.2)))] h0) : j_W jP (d + 1 + 1 + 1 + 1 + 1) 34 44 [(3, .int (nI k)), (0, .ref 3), (1, .int (nI e)), (2, .ref 327)] [] h (PDA ln ce e l h0 (rdB l e pa g z s t)) := by
  unfold rdB
  refine j_W.one xd_M xd_44 (by decide) (pcJ := 45) (stJ := [.ref 3]) rfl ?_
  refine j_W.getK xd_M xd_45 (ci := 4) (j := 0) rfl K rfl rfl ?_
  refine j_W.getK xd_M xd_48 (ci := 8) (j := 4) rfl K rfl rfl ?_
  refine j_W.ifc xd_M xd_51 (t := 57) rfl (fun c => ?_) (fun c => ?_)
  · have c : ¬ z.2.1 = 0 := by simpa [j_cond] using c
    rw [if_neg c]
    clear c
    refine j_W.one xd_M xd_57 (by decide) (pcJ := 58) (stJ := [.ref 3]) rfl ?_
    refine j_W.getK xd_M xd_58 (ci := 4) (j := 0) rfl K rfl rfl ?_
    refine j_W.one xd_M xd_61 (by decide) (pcJ := 64) (stJ := [.long 32497584235442030, .ref 1]) rfl ?_
    refine j_W.call xd_M xd_64 rfl (md := 3) (mj := 108) rfl (by decide) xw_M (As := [.ref 1, .long 32497584235442030]) (rest := []) (jk_spl3 (K.at rfl) rfl rfl rfl (Nat.le_of_ble_eq_true rfl) (Nat.le_of_ble_eq_true rfl)) (xw_ok (K.sub ⟨rfl, trivial⟩)) ?_
    rintro r hz ⟨rfl, ez⟩
    rw [ez]
    clear ez
    show j_W jP _ 34 67 [(3, .int (nI k)), (0, .ref 3), (1, .int (nI e)), (2, .ref 327)] [.int (if z.2.1 = 1 ∧ z.2.2.2.1 = 32497584235442030 then 1 else 0)] h _
    rcases Decidable.em (z.2.1 = 1 ∧ z.2.2.2.1 = 32497584235442030) with hw | hw
    · rw [if_pos hw, if_pos hw]
      refine j_W.ifc xd_M xd_67 (t := 77) rfl (fun c => ?_) (fun c => ?_)
      · cases c
      · clear c
        refine j_W.one xd_M xd_70 (by decide) (pcJ := 71) (stJ := [.ref 3]) rfl ?_
        have hw9 := stX_wf (l := l) (nt := t.1) (tn := t.2.1) (fa := 0) (pa := pa) (z := z) (ns := s.1) (sn := s.2.1) (ru := s.2.2.1) (tr := s.2.2.2.1) (le := s.2.2.2.2) ⟨Nat.le_refl _, hze⟩ hs.1 hs.2.1 hs.2.2.1 hs.2.2.2.1 hs.2.2.2.2
        generalize hR : (stX l e s.1 t.1 0 pa z s.2.1 t.2.1 s.2.2.1 s.2.2.2.1 s.2.2.2.2) = R at hw9 ⊢
        refine j_W.call xd_M xd_71 rfl (md := 3) (mj := 35) rfl (by decide) xp_M (As := [.ref 3]) (rest := []) (jk_spl3 (K.at rfl) rfl rfl rfl (Nat.le_of_ble_eq_true rfl) (Nat.le_of_ble_eq_true rfl)) ((hR ▸ xp_okA hl he hze hs.1 ht.1 hs.2.1 hs.2.2.1 hs.2.2.2.1 hs.2.2.2.2 ht.2.1 (K.sub ⟨rfl, rfl, rfl, rfl, rfl, rfl, rfl, rfl, rfl, trivial⟩))) ?_
        rintro r h9 ⟨rfl, K9⟩
        have K : KN h9 [(1, .inl (8, [.ref 2, .int ln, .int (nI e), .int (nI R.2.2.1.1), .int R.2.2.1.2.1, .int R.2.2.1.2.2.1, .long R.2.2.1.2.2.2.1, .int R.2.2.1.2.2.2.2])), (2, .inr (.inl (1, l))), (3, .inl (4, [.ref 1, .ref 327, .int R.2.1.1, .int R.2.1.2])), (327, .inl (2, [.int (nI R.2.2.2.1), .ref 328, .ref 329, .ref 330, .ref 331, .int (nI t.1), .ref 332, .ref 333, .ref 334, .ref 335, .ref 336, .ref 337, .ref 338, .int ce, .ref 339, .ref 340, .ref 341, .ref 342])), (328, .inr (.inr (.inl R.2.2.2.2.1))), (329, .inr (.inl (0, R.2.2.2.2.2.1))), (330, .inr (.inl (0, R.2.2.2.2.2.2.1))), (331, .inr (.inl (0, R.2.2.2.2.2.2.2))), (332, .inr (.inr (.inl t.2.1))), (333, .inr (.inl (0, t.2.2.1))), (334, .inr (.inl (0, t.2.2.2.1))), (335, .inr (.inl (0, t.2.2.2.2.1))), (336, .inr (.inl (0, t.2.2.2.2.2.1))), (337, .inr (.inl (0, t.2.2.2.2.2.2.1))), (338, .inr (.inl (0, t.2.2.2.2.2.2.2)))] h0 := K.go K9 rfl rfl rfl
        clear K9
        show j_W jP _ 34 74 [(3, .int (nI k)), (0, .ref 3), (1, .int (nI e)), (2, .ref 327)] [.int (bif R.1 then 1 else 0)] h9 _
        clear hR
        cases hb : R.1 with
        | true =>
          unfold rdS
          rw [hb]
          show j_W jP _ 34 74 [(3, .int (nI k)), (0, .ref 3), (1, .int (nI e)), (2, .ref 327)] [.int 1] h9 _
          refine j_W.gto xd_M xd_74 (t := 101) rfl ?_
          refine j_W.one xd_M xd_101 (by decide) (pcJ := 103) (lv' := [(4, .int 1), (3, .int (nI k)), (0, .ref 3), (1, .int (nI e)), (2, .ref 327)]) (stJ := []) rfl ?_
          refine j_W.one xd_M xd_103 (by decide) (pcJ := 105) (stJ := [.int 1]) rfl ?_
          refine j_W.ifc xd_M xd_105 (t := 111) rfl (fun c => ?_) (fun c => ?_)
          · clear c
            rw [hw9.2 hb] at K
            have K : KN h9 [(1, .inl (8, [.ref 2, .int ln, .int (nI e), .int (nI R.2.2.1.1), .int R.2.2.1.2.1, .int R.2.2.1.2.2.1, .long R.2.2.1.2.2.2.1, .int R.2.2.1.2.2.2.2])), (2, .inr (.inl (1, l))), (3, .inl (4, [.ref 1, .ref 327, .int 0, .int pa])), (327, .inl (2, [.int (nI R.2.2.2.1), .ref 328, .ref 329, .ref 330, .ref 331, .int (nI t.1), .ref 332, .ref 333, .ref 334, .ref 335, .ref 336, .ref 337, .ref 338, .int ce, .ref 339, .ref 340, .ref 341, .ref 342])), (328, .inr (.inr (.inl R.2.2.2.2.1))), (329, .inr (.inl (0, R.2.2.2.2.2.1))), (330, .inr (.inl (0, R.2.2.2.2.2.2.1))), (331, .inr (.inl (0, R.2.2.2.2.2.2.2))), (332, .inr (.inr (.inl t.2.1))), (333, .inr (.inl (0, t.2.2.1))), (334, .inr (.inl (0, t.2.2.2.1))), (335, .inr (.inl (0, t.2.2.2.2.1))), (336, .inr (.inl (0, t.2.2.2.2.2.1))), (337, .inr (.inl (0, t.2.2.2.2.2.2.1))), (338, .inr (.inl (0, t.2.2.2.2.2.2.2)))] h0 := K
            refine j_W.one xd_M xd_111 (by decide) (pcJ := 114) (lv' := [(3, .int ((nI k) + 1)), (4, .int 1), (0, .ref 3), (1, .int (nI e)), (2, .ref 327)]) (stJ := []) rfl ?_
            refine j_W.gto xd_M xd_114 (t := 32) rfl ?_
            rw [cond_true]
            have t9 := hg _ R.2.2.1 R.2.2.2 t hw9.1.1.1 hw9.1.1.2 hw9.1.2 ht K
            rw [nI_succ] at t9
            exact t9
          · cases c
        | false =>
          unfold rdS
          rw [hb]
          show j_W jP _ 34 74 [(3, .int (nI k)), (0, .ref 3), (1, .int (nI e)), (2, .ref 327)] [.int 0] h9 _
          refine j_W.gto xd_M xd_74 (t := 101) rfl ?_
          refine j_W.one xd_M xd_101 (by decide) (pcJ := 103) (lv' := [(4, .int 0), (3, .int (nI k)), (0, .ref 3), (1, .int (nI e)), (2, .ref 327)]) (stJ := []) rfl ?_
          refine j_W.one xd_M xd_103 (by decide) (pcJ := 105) (stJ := [.int 0]) rfl ?_
          refine j_W.ifc xd_M xd_105 (t := 111) rfl (fun c => ?_) (fun c => ?_)
          · cases c
          · clear c
            refine j_W.gto xd_M xd_108 (t := 117) rfl ?_
            rw [cond_false]
            exact xd_xA (R := (R.2.1, R.2.2.1, R.2.2.2, t)) (fun _ _ => rfl) K
    · rw [if_neg hw, if_neg hw]
      refine j_W.ifc xd_M xd_67 (t := 77) rfl (fun c => ?_) (fun c => ?_)
      · clear hw c
        refine j_W.one xd_M xd_77 (by decide) (pcJ := 78) (stJ := [.ref 3]) rfl ?_
        refine j_W.getK xd_M xd_78 (ci := 4) (j := 0) rfl K rfl rfl ?_
        refine j_W.one xd_M xd_81 (by decide) (pcJ := 84) (stJ := [.long 500135192942, .ref 1]) rfl ?_
        refine j_W.call xd_M xd_84 rfl (md := 3) (mj := 108) rfl (by decide) xw_M (As := [.ref 1, .long 500135192942]) (rest := []) (jk_spl3 (K.at rfl) rfl rfl rfl (Nat.le_of_ble_eq_true rfl) (Nat.le_of_ble_eq_true rfl)) (xw_ok (K.sub ⟨rfl, trivial⟩)) ?_
        rintro r hz ⟨rfl, ez⟩
        rw [ez]
        clear ez
        show j_W jP _ 34 87 [(3, .int (nI k)), (0, .ref 3), (1, .int (nI e)), (2, .ref 327)] [.int (if z.2.1 = 1 ∧ z.2.2.2.1 = 500135192942 then 1 else 0)] h _
        rcases Decidable.em (z.2.1 = 1 ∧ z.2.2.2.1 = 500135192942) with hw | hw
        · rw [if_pos hw, if_pos hw]
          refine j_W.ifc xd_M xd_87 (t := 97) rfl (fun c => ?_) (fun c => ?_)
          · cases c
          · clear c
            refine j_W.one xd_M xd_90 (by decide) (pcJ := 91) (stJ := [.ref 3]) rfl ?_
            have hw9 := trX_wf (l := l) (ns := s.1) (nt := t.1) (pa := pa) (z := z) (sn := s.2.1) (tn := t.2.1) (si := t.2.2.1) (fr := t.2.2.2.1) (to := t.2.2.2.2.1) (st := t.2.2.2.2.2.1) (sl := t.2.2.2.2.2.2.1) (we := t.2.2.2.2.2.2.2) ⟨Nat.le_refl _, hze⟩ ht.1 ht.2.1 ht.2.2.1 ht.2.2.2.1 ht.2.2.2.2.1 ht.2.2.2.2.2.1 ht.2.2.2.2.2.2.1 ht.2.2.2.2.2.2.2
            generalize hR : (trX l e s.1 t.1 s.2.1 pa z t.2.1 t.2.2.1 t.2.2.2.1 t.2.2.2.2.1 t.2.2.2.2.2.1 t.2.2.2.2.2.2.1 t.2.2.2.2.2.2.2) = R at hw9 ⊢
            refine j_W.call xd_M xd_91 rfl (md := 3) (mj := 37) rfl (by decide) xv_M (As := [.ref 3]) (rest := []) (jk_spl3 (K.at rfl) rfl rfl rfl (Nat.le_of_ble_eq_true rfl) (Nat.le_of_ble_eq_true rfl)) ((hR ▸ xv_okA hl he hze ht.1 hs.2.1 hs.1 ht.2.1 ht.2.2.1 ht.2.2.2.1 ht.2.2.2.2.1 ht.2.2.2.2.2.1 ht.2.2.2.2.2.2.1 ht.2.2.2.2.2.2.2 (K.sub ⟨rfl, rfl, rfl, rfl, rfl, rfl, rfl, rfl, rfl, rfl, rfl, rfl, trivial⟩))) ?_
            rintro r h9 ⟨rfl, K9⟩
            have K : KN h9 [(1, .inl (8, [.ref 2, .int ln, .int (nI e), .int (nI R.2.2.1.1), .int R.2.2.1.2.1, .int R.2.2.1.2.2.1, .long R.2.2.1.2.2.2.1, .int R.2.2.1.2.2.2.2])), (2, .inr (.inl (1, l))), (3, .inl (4, [.ref 1, .ref 327, .int R.2.1.1, .int R.2.1.2])), (327, .inl (2, [.int (nI s.1), .ref 328, .ref 329, .ref 330, .ref 331, .int (nI R.2.2.2.1), .ref 332, .ref 333, .ref 334, .ref 335, .ref 336, .ref 337, .ref 338, .int ce, .ref 339, .ref 340, .ref 341, .ref 342])), (328, .inr (.inr (.inl s.2.1))), (329, .inr (.inl (0, s.2.2.1))), (330, .inr (.inl (0, s.2.2.2.1))), (331, .inr (.inl (0, s.2.2.2.2))), (332, .inr (.inr (.inl R.2.2.2.2.1))), (333, .inr (.inl (0, R.2.2.2.2.2.1))), (334, .inr (.inl (0, R.2.2.2.2.2.2.1))), (335, .inr (.inl (0, R.2.2.2.2.2.2.2.1))), (336, .inr (.inl (0, R.2.2.2.2.2.2.2.2.1))), (337, .inr (.inl (0, R.2.2.2.2.2.2.2.2.2.1))), (338, .inr (.inl (0, R.2.2.2.2.2.2.2.2.2.2)))] h0 := K.go K9 rfl rfl rfl
            clear K9
            show j_W jP _ 34 94 [(3, .int (nI k)), (0, .ref 3), (1, .int (nI e)), (2, .ref 327)] [.int (bif R.1 then 1 else 0)] h9 _
            clear hR
            cases hb : R.1 with
            | true =>
              unfold rdT
              rw [hb]
              show j_W jP _ 34 94 [(3, .int (nI k)), (0, .ref 3), (1, .int (nI e)), (2, .ref 327)] [.int 1] h9 _
              refine j_W.gto xd_M xd_94 (t := 101) rfl ?_
              refine j_W.one xd_M xd_101 (by decide) (pcJ := 103) (lv' := [(4, .int 1), (3, .int (nI k)), (0, .ref 3), (1, .int (nI e)), (2, .ref 327)]) (stJ := []) rfl ?_
              refine j_W.one xd_M xd_103 (by decide) (pcJ := 105) (stJ := [.int 1]) rfl ?_
              refine j_W.ifc xd_M xd_105 (t := 111) rfl (fun c => ?_) (fun c => ?_)
              · clear c
                rw [hw9.2 hb] at K
                have K : KN h9 [(1, .inl (8, [.ref 2, .int ln, .int (nI e), .int (nI R.2.2.1.1), .int R.2.2.1.2.1, .int R.2.2.1.2.2.1, .long R.2.2.1.2.2.2.1, .int R.2.2.1.2.2.2.2])), (2, .inr (.inl (1, l))), (3, .inl (4, [.ref 1, .ref 327, .int 0, .int pa])), (327, .inl (2, [.int (nI s.1), .ref 328, .ref 329, .ref 330, .ref 331, .int (nI R.2.2.2.1), .ref 332, .ref 333, .ref 334, .ref 335, .ref 336, .ref 337, .ref 338, .int ce, .ref 339, .ref 340, .ref 341, .ref 342])), (328, .inr (.inr (.inl s.2.1))), (329, .inr (.inl (0, s.2.2.1))), (330, .inr (.inl (0, s.2.2.2.1))), (331, .inr (.inl (0, s.2.2.2.2))), (332, .inr (.inr (.inl R.2.2.2.2.1))), (333, .inr (.inl (0, R.2.2.2.2.2.1))), (334, .inr (.inl (0, R.2.2.2.2.2.2.1))), (335, .inr (.inl (0, R.2.2.2.2.2.2.2.1))), (336, .inr (.inl (0, R.2.2.2.2.2.2.2.2.1))), (337, .inr (.inl (0, R.2.2.2.2.2.2.2.2.2.1))), (338, .inr (.inl (0, R.2.2.2.2.2.2.2.2.2.2)))] h0 := K
                refine j_W.one xd_M xd_111 (by decide) (pcJ := 114) (lv' := [(3, .int ((nI k) + 1)), (4, .int 1), (0, .ref 3), (1, .int (nI e)), (2, .ref 327)]) (stJ := []) rfl ?_
                refine j_W.gto xd_M xd_114 (t := 32) rfl ?_
                rw [cond_true]
                have t9 := hg _ R.2.2.1 s R.2.2.2 hw9.1.1.1 hw9.1.1.2 hs hw9.1.2 K
                rw [nI_succ] at t9
                exact t9
              · cases c
            | false =>
              unfold rdT
              rw [hb]
              show j_W jP _ 34 94 [(3, .int (nI k)), (0, .ref 3), (1, .int (nI e)), (2, .ref 327)] [.int 0] h9 _
              refine j_W.gto xd_M xd_94 (t := 101) rfl ?_
              refine j_W.one xd_M xd_101 (by decide) (pcJ := 103) (lv' := [(4, .int 0), (3, .int (nI k)), (0, .ref 3), (1, .int (nI e)), (2, .ref 327)]) (stJ := []) rfl ?_
              refine j_W.one xd_M xd_103 (by decide) (pcJ := 105) (stJ := [.int 0]) rfl ?_
              refine j_W.ifc xd_M xd_105 (t := 111) rfl (fun c => ?_) (fun c => ?_)
              · cases c
              · clear c
                refine j_W.gto xd_M xd_108 (t := 117) rfl ?_
                rw [cond_false]
                exact xd_xA (R := (R.2.1, R.2.2.1, s, R.2.2.2)) (fun _ _ => rfl) K
        · rw [if_neg hw, if_neg hw]
          refine j_W.ifc xd_M xd_87 (t := 97) rfl (fun c => ?_) (fun c => ?_)
          · clear hw c
            refine j_W.one xd_M xd_97 (by decide) (pcJ := 98) (stJ := [.ref 3]) rfl ?_
            refine j_W.call xd_M xd_98 rfl (md := 3) (mj := 45) rfl (by decide) xh_M (As := [.ref 3]) (rest := []) (jk_spl3 (K.at rfl) rfl rfl rfl (Nat.le_of_ble_eq_true rfl) (Nat.le_of_ble_eq_true rfl)) (xh_ok (K.sub ⟨rfl, rfl, trivial⟩)) ?_
            rintro r h9 ⟨rfl, K9⟩
            have K : KN h9 [(1, .inl (8, [.ref 2, .int ln, .int (nI e), .int (nI z.1), .int z.2.1, .int z.2.2.1, .long z.2.2.2.1, .int z.2.2.2.2])), (2, .inr (.inl (1, l))), (3, .inl (4, [.ref 1, .ref 327, .int (if z.2.1 = 4 then 1 else 2), .int z.2.2.1])), (327, .inl (2, [.int (nI s.1), .ref 328, .ref 329, .ref 330, .ref 331, .int (nI t.1), .ref 332, .ref 333, .ref 334, .ref 335, .ref 336, .ref 337, .ref 338, .int ce, .ref 339, .ref 340, .ref 341, .ref 342])), (328, .inr (.inr (.inl s.2.1))), (329, .inr (.inl (0, s.2.2.1))), (330, .inr (.inl (0, s.2.2.2.1))), (331, .inr (.inl (0, s.2.2.2.2))), (332, .inr (.inr (.inl t.2.1))), (333, .inr (.inl (0, t.2.2.1))), (334, .inr (.inl (0, t.2.2.2.1))), (335, .inr (.inl (0, t.2.2.2.2.1))), (336, .inr (.inl (0, t.2.2.2.2.2.1))), (337, .inr (.inl (0, t.2.2.2.2.2.2.1))), (338, .inr (.inl (0, t.2.2.2.2.2.2.2)))] h0 := K.go K9 rfl rfl rfl
            clear K9
            show j_W jP _ 34 101 [(3, .int (nI k)), (0, .ref 3), (1, .int (nI e)), (2, .ref 327)] [.int 0] h9 _
            refine j_W.one xd_M xd_101 (by decide) (pcJ := 103) (lv' := [(4, .int 0), (3, .int (nI k)), (0, .ref 3), (1, .int (nI e)), (2, .ref 327)]) (stJ := []) rfl ?_
            refine j_W.one xd_M xd_103 (by decide) (pcJ := 105) (stJ := [.int 0]) rfl ?_
            refine j_W.ifc xd_M xd_105 (t := 111) rfl (fun c => ?_) (fun c => ?_)
            · cases c
            · clear c
              refine j_W.gto xd_M xd_108 (t := 117) rfl ?_
              exact xd_xA (R := (((if z.2.1 = 4 then 1 else 2), z.2.2.1), z, s, t)) (fun _ _ => rfl) K
          · cases c
      · cases c
  · have c : z.2.1 = 0 := by simpa [j_cond] using c
    rw [if_pos c]
    refine j_W.gto xd_M xd_54 (t := 117) rfl ?_
    exact xd_xA (R := ((0, pa), z, s, t)) (fun _ _ => rfl) K
theorem xd_t1A {ln ce : Int32} {l : List Int32} {e : Nat} {h0 : J_H} {d : Nat} {pa : Int32} {k : Nat} {h : J_H} {z : rK} {s : rSP} {t : rTP} {g : rK → rSP → rTP → rY} (hl : l.length = 700) (he : e ≤ 700) (hze : z.1 ≤ e) (hs : wS s) (ht : w9T t) (hg : ∀ (h : J_H) (z' : rK) (s' : rSP) (t' : rTP), z.1 ≤ z'.1 → z'.1 ≤ e → wS s' → w9T t' → KN h [(1, .inl (8, [.ref 2, .int ln, .int (nI e), .int (nI z'.1), .int z'.2.1, .int z'.2.2.1, .long z'.2.2.2.1, .int z'.2.2.2.2])), (2, .inr (.inl (1, l))), (3, .inl (4, [.ref 1, .ref 327, .int 0, .int pa])), (327, .inl (2, [.int (nI s'.1), .ref 328, .ref 329, .ref 330, .ref 331, .int (nI t'.1), .ref 332, .ref 333, .ref 334, .ref 335, .ref 336, .ref 337, .ref 338, .int ce, .ref 339, .ref 340, .ref 341, .ref 342])), (328, .inr (.inr (.inl s'.2.1))), (329, .inr (.inl (0, s'.2.2.1))), (330, .inr (.inl (0, s'.2.2.2.1))), (331, .inr (.inl (0, s'.2.2.2.2))), (332, .inr (.inr (.inl t'.2.1))), (333, .inr (.inl (0, t'.2.2.1))), (334, .inr (.inl (0, t'.2.2.2.1))), (335, .inr (.inl (0, t'.2.2.2.2.1))), (336, .inr (.inl (0, t'.2.2.2.2.2.1))), (337, .inr (.inl (0, t'.2.2.2.2.2.2.1))), (338, .inr (.inl (0, t'.2.2.2.2.2.2.2)))] h0 → j_W jP (d + 1 + 1 + 1 + 1 + 1) 34 32 [(3, .int (nI (k + 1))), (4, .int 1), (0, .ref 3), (1, .int (nI e)), (2, .ref 327)] [] h (PDA ln ce e l h0 (g z' s' t'))) (K : KN h [(1, .inl (8, [.ref 2, .int ln, .int (nI e), .int (nI z.1), .int z.2.1, .int z.2.2.1, .long z.2.2.2.1, .int z.2.2.2.2])), (2, .inr (.inl (1, l))), (3, .inl (4, [.ref 1, .ref 327, .int 0, .int pa])), (327, .inl (2, [.int (nI s.1), .ref 328, .ref 329, .ref 330, .ref 331, .int (nI t.1), .ref 332, .ref 333, .ref 334, .ref 335, .ref 336, .ref 337, .ref 338, .int ce, .ref 339, .ref 340, .ref 341, .ref 342])), (328, .inr (.inr (.inl s.2.1))), (329, .inr (.inl (0, s.2.2.1))), (330, .inr (.inl (0, s.2.2.2.1))), (331, .inr (.inl (0, s.2.2.2.2))), (332, .inr (.inr (.inl t.2.1))), (333, .inr (.inl (0, t.2.2.1))), (334, .inr (.inl (0, t.2.2.2.1))), (335, .inr (.inl (0, t.2.2.2.2.1))), (336, .inr (.inl (0, t.2.2.2.2.2.1))), (337, .inr (.inl (0, t.2.2.2.2.2.2.1))), (338, .inr (.inl (0, t.2.2.2.2.2.2.2)))] h0) : j_W jP (d + 1 + 1 + 1 + 1 + 1) 34 44 [(3, .int (nI k)), (4, .int 1), (0, .ref 3), (1, .int (nI e)), (2, .ref 327)] [] h (PDA ln ce e l h0 (rdB l e pa g z s t)) := by
  unfold rdB
  refine j_W.one xd_M xd_44 (by decide) (pcJ := 45) (stJ := [.ref 3]) rfl ?_
  refine j_W.getK xd_M xd_45 (ci := 4) (j := 0) rfl K rfl rfl ?_
  refine j_W.getK xd_M xd_48 (ci := 8) (j := 4) rfl K rfl rfl ?_
  refine j_W.ifc xd_M xd_51 (t := 57) rfl (fun c => ?_) (fun c => ?_)
  · have c : ¬ z.2.1 = 0 := by simpa [j_cond] using c
    rw [if_neg c]
    clear c
    refine j_W.one xd_M xd_57 (by decide) (pcJ := 58) (stJ := [.ref 3]) rfl ?_
    refine j_W.getK xd_M xd_58 (ci := 4) (j := 0) rfl K rfl rfl ?_
    refine j_W.one xd_M xd_61 (by decide) (pcJ := 64) (stJ := [.long 32497584235442030, .ref 1]) rfl ?_
    refine j_W.call xd_M xd_64 rfl (md := 3) (mj := 108) rfl (by decide) xw_M (As := [.ref 1, .long 32497584235442030]) (rest := []) (jk_spl3 (K.at rfl) rfl rfl rfl (Nat.le_of_ble_eq_true rfl) (Nat.le_of_ble_eq_true rfl)) (xw_ok (K.sub ⟨rfl, trivial⟩)) ?_
    rintro r hz ⟨rfl, ez⟩
    rw [ez]
    clear ez
    show j_W jP _ 34 67 [(3, .int (nI k)), (4, .int 1), (0, .ref 3), (1, .int (nI e)), (2, .ref 327)] [.int (if z.2.1 = 1 ∧ z.2.2.2.1 = 32497584235442030 then 1 else 0)] h _
    rcases Decidable.em (z.2.1 = 1 ∧ z.2.2.2.1 = 32497584235442030) with hw | hw
    · rw [if_pos hw, if_pos hw]
      refine j_W.ifc xd_M xd_67 (t := 77) rfl (fun c => ?_) (fun c => ?_)
      · cases c
      · clear c
        refine j_W.one xd_M xd_70 (by decide) (pcJ := 71) (stJ := [.ref 3]) rfl ?_
        have hw9 := stX_wf (l := l) (nt := t.1) (tn := t.2.1) (fa := 0) (pa := pa) (z := z) (ns := s.1) (sn := s.2.1) (ru := s.2.2.1) (tr := s.2.2.2.1) (le := s.2.2.2.2) ⟨Nat.le_refl _, hze⟩ hs.1 hs.2.1 hs.2.2.1 hs.2.2.2.1 hs.2.2.2.2
        generalize hR : (stX l e s.1 t.1 0 pa z s.2.1 t.2.1 s.2.2.1 s.2.2.2.1 s.2.2.2.2) = R at hw9 ⊢
        refine j_W.call xd_M xd_71 rfl (md := 3) (mj := 35) rfl (by decide) xp_M (As := [.ref 3]) (rest := []) (jk_spl3 (K.at rfl) rfl rfl rfl (Nat.le_of_ble_eq_true rfl) (Nat.le_of_ble_eq_true rfl)) ((hR ▸ xp_okA hl he hze hs.1 ht.1 hs.2.1 hs.2.2.1 hs.2.2.2.1 hs.2.2.2.2 ht.2.1 (K.sub ⟨rfl, rfl, rfl, rfl, rfl, rfl, rfl, rfl, rfl, trivial⟩))) ?_
        rintro r h9 ⟨rfl, K9⟩
        have K : KN h9 [(1, .inl (8, [.ref 2, .int ln, .int (nI e), .int (nI R.2.2.1.1), .int R.2.2.1.2.1, .int R.2.2.1.2.2.1, .long R.2.2.1.2.2.2.1, .int R.2.2.1.2.2.2.2])), (2, .inr (.inl (1, l))), (3, .inl (4, [.ref 1, .ref 327, .int R.2.1.1, .int R.2.1.2])), (327, .inl (2, [.int (nI R.2.2.2.1), .ref 328, .ref 329, .ref 330, .ref 331, .int (nI t.1), .ref 332, .ref 333, .ref 334, .ref 335, .ref 336, .ref 337, .ref 338, .int ce, .ref 339, .ref 340, .ref 341, .ref 342])), (328, .inr (.inr (.inl R.2.2.2.2.1))), (329, .inr (.inl (0, R.2.2.2.2.2.1))), (330, .inr (.inl (0, R.2.2.2.2.2.2.1))), (331, .inr (.inl (0, R.2.2.2.2.2.2.2))), (332, .inr (.inr (.inl t.2.1))), (333, .inr (.inl (0, t.2.2.1))), (334, .inr (.inl (0, t.2.2.2.1))), (335, .inr (.inl (0, t.2.2.2.2.1))), (336, .inr (.inl (0, t.2.2.2.2.2.1))), (337, .inr (.inl (0, t.2.2.2.2.2.2.1))), (338, .inr (.inl (0, t.2.2.2.2.2.2.2)))] h0 := K.go K9 rfl rfl rfl
        clear K9
        show j_W jP _ 34 74 [(3, .int (nI k)), (4, .int 1), (0, .ref 3), (1, .int (nI e)), (2, .ref 327)] [.int (bif R.1 then 1 else 0)] h9 _
        clear hR
        cases hb : R.1 with
        | true =>
          unfold rdS
          rw [hb]
          show j_W jP _ 34 74 [(3, .int (nI k)), (4, .int 1), (0, .ref 3), (1, .int (nI e)), (2, .ref 327)] [.int 1] h9 _
          refine j_W.gto xd_M xd_74 (t := 101) rfl ?_
          refine j_W.one xd_M xd_101 (by decide) (pcJ := 103) (lv' := [(4, .int 1), (3, .int (nI k)), (0, .ref 3), (1, .int (nI e)), (2, .ref 327)]) (stJ := []) rfl ?_
          refine j_W.one xd_M xd_103 (by decide) (pcJ := 105) (stJ := [.int 1]) rfl ?_
          refine j_W.ifc xd_M xd_105 (t := 111) rfl (fun c => ?_) (fun c => ?_)
          · clear c
            rw [hw9.2 hb] at K
            have K : KN h9 [(1, .inl (8, [.ref 2, .int ln, .int (nI e), .int (nI R.2.2.1.1), .int R.2.2.1.2.1, .int R.2.2.1.2.2.1, .long R.2.2.1.2.2.2.1, .int R.2.2.1.2.2.2.2])), (2, .inr (.inl (1, l))), (3, .inl (4, [.ref 1, .ref 327, .int 0, .int pa])), (327, .inl (2, [.int (nI R.2.2.2.1), .ref 328, .ref 329, .ref 330, .ref 331, .int (nI t.1), .ref 332, .ref 333, .ref 334, .ref 335, .ref 336, .ref 337, .ref 338, .int ce, .ref 339, .ref 340, .ref 341, .ref 342])), (328, .inr (.inr (.inl R.2.2.2.2.1))), (329, .inr (.inl (0, R.2.2.2.2.2.1))), (330, .inr (.inl (0, R.2.2.2.2.2.2.1))), (331, .inr (.inl (0, R.2.2.2.2.2.2.2))), (332, .inr (.inr (.inl t.2.1))), (333, .inr (.inl (0, t.2.2.1))), (334, .inr (.inl (0, t.2.2.2.1))), (335, .inr (.inl (0, t.2.2.2.2.1))), (336, .inr (.inl (0, t.2.2.2.2.2.1))), (337, .inr (.inl (0, t.2.2.2.2.2.2.1))), (338, .inr (.inl (0, t.2.2.2.2.2.2.2)))] h0 := K
            refine j_W.one xd_M xd_111 (by decide) (pcJ := 114) (lv' := [(3, .int ((nI k) + 1)), (4, .int 1), (0, .ref 3), (1, .int (nI e)), (2, .ref 327)]) (stJ := []) rfl ?_
            refine j_W.gto xd_M xd_114 (t := 32) rfl ?_
            rw [cond_true]
            have t9 := hg _ R.2.2.1 R.2.2.2 t hw9.1.1.1 hw9.1.1.2 hw9.1.2 ht K
            rw [nI_succ] at t9
            exact t9
          · cases c
        | false =>
          unfold rdS
          rw [hb]
          show j_W jP _ 34 74 [(3, .int (nI k)), (4, .int 1), (0, .ref 3), (1, .int (nI e)), (2, .ref 327)] [.int 0] h9 _
          refine j_W.gto xd_M xd_74 (t := 101) rfl ?_
          refine j_W.one xd_M xd_101 (by decide) (pcJ := 103) (lv' := [(4, .int 0), (3, .int (nI k)), (0, .ref 3), (1, .int (nI e)), (2, .ref 327)]) (stJ := []) rfl ?_
          refine j_W.one xd_M xd_103 (by decide) (pcJ := 105) (stJ := [.int 0]) rfl ?_
          refine j_W.ifc xd_M xd_105 (t := 111) rfl (fun c => ?_) (fun c => ?_)
          · cases c
          · clear c
            refine j_W.gto xd_M xd_108 (t := 117) rfl ?_
            rw [cond_false]
            exact xd_xA (R := (R.2.1, R.2.2.1, R.2.2.2, t)) (fun _ _ => rfl) K
    · rw [if_neg hw, if_neg hw]
      refine j_W.ifc xd_M xd_67 (t := 77) rfl (fun c => ?_) (fun c => ?_)
      · clear hw c
        refine j_W.one xd_M xd_77 (by decide) (pcJ := 78) (stJ := [.ref 3]) rfl ?_
        refine j_W.getK xd_M xd_78 (ci := 4) (j := 0) rfl K rfl rfl ?_
        refine j_W.one xd_M xd_81 (by decide) (pcJ := 84) (stJ := [.long 500135192942, .ref 1]) rfl ?_
        refine j_W.call xd_M xd_84 rfl (md := 3) (mj := 108) rfl (by decide) xw_M (As := [.ref 1, .long 500135192942]) (rest := []) (jk_spl3 (K.at rfl) rfl rfl rfl (Nat.le_of_ble_eq_true rfl) (Nat.le_of_ble_eq_true rfl)) (xw_ok (K.sub ⟨rfl, trivial⟩)) ?_
        rintro r hz ⟨rfl, ez⟩
        rw [ez]
        clear ez
        show j_W jP _ 34 87 [(3, .int (nI k)), (4, .int 1), (0, .ref 3), (1, .int (nI e)), (2, .ref 327)] [.int (if z.2.1 = 1 ∧ z.2.2.2.1 = 500135192942 then 1 else 0)] h _
        rcases Decidable.em (z.2.1 = 1 ∧ z.2.2.2.1 = 500135192942) with hw | hw
        · rw [if_pos hw, if_pos hw]
          refine j_W.ifc xd_M xd_87 (t := 97) rfl (fun c => ?_) (fun c => ?_)
          · cases c
          · clear c
            refine j_W.one xd_M xd_90 (by decide) (pcJ := 91) (stJ := [.ref 3]) rfl ?_
            have hw9 := trX_wf (l := l) (ns := s.1) (nt := t.1) (pa := pa) (z := z) (sn := s.2.1) (tn := t.2.1) (si := t.2.2.1) (fr := t.2.2.2.1) (to := t.2.2.2.2.1) (st := t.2.2.2.2.2.1) (sl := t.2.2.2.2.2.2.1) (we := t.2.2.2.2.2.2.2) ⟨Nat.le_refl _, hze⟩ ht.1 ht.2.1 ht.2.2.1 ht.2.2.2.1 ht.2.2.2.2.1 ht.2.2.2.2.2.1 ht.2.2.2.2.2.2.1 ht.2.2.2.2.2.2.2
            generalize hR : (trX l e s.1 t.1 s.2.1 pa z t.2.1 t.2.2.1 t.2.2.2.1 t.2.2.2.2.1 t.2.2.2.2.2.1 t.2.2.2.2.2.2.1 t.2.2.2.2.2.2.2) = R at hw9 ⊢
            refine j_W.call xd_M xd_91 rfl (md := 3) (mj := 37) rfl (by decide) xv_M (As := [.ref 3]) (rest := []) (jk_spl3 (K.at rfl) rfl rfl rfl (Nat.le_of_ble_eq_true rfl) (Nat.le_of_ble_eq_true rfl)) ((hR ▸ xv_okA hl he hze ht.1 hs.2.1 hs.1 ht.2.1 ht.2.2.1 ht.2.2.2.1 ht.2.2.2.2.1 ht.2.2.2.2.2.1 ht.2.2.2.2.2.2.1 ht.2.2.2.2.2.2.2 (K.sub ⟨rfl, rfl, rfl, rfl, rfl, rfl, rfl, rfl, rfl, rfl, rfl, rfl, trivial⟩))) ?_
            rintro r h9 ⟨rfl, K9⟩
            have K : KN h9 [(1, .inl (8, [.ref 2, .int ln, .int (nI e), .int (nI R.2.2.1.1), .int R.2.2.1.2.1, .int R.2.2.1.2.2.1, .long R.2.2.1.2.2.2.1, .int R.2.2.1.2.2.2.2])), (2, .inr (.inl (1, l))), (3, .inl (4, [.ref 1, .ref 327, .int R.2.1.1, .int R.2.1.2])), (327, .inl (2, [.int (nI s.1), .ref 328, .ref 329, .ref 330, .ref 331, .int (nI R.2.2.2.1), .ref 332, .ref 333, .ref 334, .ref 335, .ref 336, .ref 337, .ref 338, .int ce, .ref 339, .ref 340, .ref 341, .ref 342])), (328, .inr (.inr (.inl s.2.1))), (329, .inr (.inl (0, s.2.2.1))), (330, .inr (.inl (0, s.2.2.2.1))), (331, .inr (.inl (0, s.2.2.2.2))), (332, .inr (.inr (.inl R.2.2.2.2.1))), (333, .inr (.inl (0, R.2.2.2.2.2.1))), (334, .inr (.inl (0, R.2.2.2.2.2.2.1))), (335, .inr (.inl (0, R.2.2.2.2.2.2.2.1))), (336, .inr (.inl (0, R.2.2.2.2.2.2.2.2.1))), (337, .inr (.inl (0, R.2.2.2.2.2.2.2.2.2.1))), (338, .inr (.inl (0, R.2.2.2.2.2.2.2.2.2.2)))] h0 := K.go K9 rfl rfl rfl
            clear K9
            show j_W jP _ 34 94 [(3, .int (nI k)), (4, .int 1), (0, .ref 3), (1, .int (nI e)), (2, .ref 327)] [.int (bif R.1 then 1 else 0)] h9 _
            clear hR
            cases hb : R.1 with
            | true =>
              unfold rdT
              rw [hb]
              show j_W jP _ 34 94 [(3, .int (nI k)), (4, .int 1), (0, .ref 3), (1, .int (nI e)), (2, .ref 327)] [.int 1] h9 _
              refine j_W.gto xd_M xd_94 (t := 101) rfl ?_
              refine j_W.one xd_M xd_101 (by decide) (pcJ := 103) (lv' := [(4, .int 1), (3, .int (nI k)), (0, .ref 3), (1, .int (nI e)), (2, .ref 327)]) (stJ := []) rfl ?_
              refine j_W.one xd_M xd_103 (by decide) (pcJ := 105) (stJ := [.int 1]) rfl ?_
              refine j_W.ifc xd_M xd_105 (t := 111) rfl (fun c => ?_) (fun c => ?_)
              · clear c
                rw [hw9.2 hb] at K
                have K : KN h9 [(1, .inl (8, [.ref 2, .int ln, .int (nI e), .int (nI R.2.2.1.1), .int R.2.2.1.2.1, .int R.2.2.1.2.2.1, .long R.2.2.1.2.2.2.1, .int R.2.2.1.2.2.2.2])), (2, .inr (.inl (1, l))), (3, .inl (4, [.ref 1, .ref 327, .int 0, .int pa])), (327, .inl (2, [.int (nI s.1), .ref 328, .ref 329, .ref 330, .ref 331, .int (nI R.2.2.2.1), .ref 332, .ref 333, .ref 334, .ref 335, .ref 336, .ref 337, .ref 338, .int ce, .ref 339, .ref 340, .ref 341, .ref 342])), (328, .inr (.inr (.inl s.2.1))), (329, .inr (.inl (0, s.2.2.1))), (330, .inr (.inl (0, s.2.2.2.1))), (331, .inr (.inl (0, s.2.2.2.2))), (332, .inr (.inr (.inl R.2.2.2.2.1))), (333, .inr (.inl (0, R.2.2.2.2.2.1))), (334, .inr (.inl (0, R.2.2.2.2.2.2.1))), (335, .inr (.inl (0, R.2.2.2.2.2.2.2.1))), (336, .inr (.inl (0, R.2.2.2.2.2.2.2.2.1))), (337, .inr (.inl (0, R.2.2.2.2.2.2.2.2.2.1))), (338, .inr (.inl (0, R.2.2.2.2.2.2.2.2.2.2)))] h0 := K
                refine j_W.one xd_M xd_111 (by decide) (pcJ := 114) (lv' := [(3, .int ((nI k) + 1)), (4, .int 1), (0, .ref 3), (1, .int (nI e)), (2, .ref 327)]) (stJ := []) rfl ?_
                refine j_W.gto xd_M xd_114 (t := 32) rfl ?_
                rw [cond_true]
                have t9 := hg _ R.2.2.1 s R.2.2.2 hw9.1.1.1 hw9.1.1.2 hs hw9.1.2 K
                rw [nI_succ] at t9
                exact t9
              · cases c
            | false =>
              unfold rdT
              rw [hb]
              show j_W jP _ 34 94 [(3, .int (nI k)), (4, .int 1), (0, .ref 3), (1, .int (nI e)), (2, .ref 327)] [.int 0] h9 _
              refine j_W.gto xd_M xd_94 (t := 101) rfl ?_
              refine j_W.one xd_M xd_101 (by decide) (pcJ := 103) (lv' := [(4, .int 0), (3, .int (nI k)), (0, .ref 3), (1, .int (nI e)), (2, .ref 327)]) (stJ := []) rfl ?_
              refine j_W.one xd_M xd_103 (by decide) (pcJ := 105) (stJ := [.int 0]) rfl ?_
              refine j_W.ifc xd_M xd_105 (t := 111) rfl (fun c => ?_) (fun c => ?_)
              · cases c
              · clear c
                refine j_W.gto xd_M xd_108 (t := 117) rfl ?_
                rw [cond_false]
                exact xd_xA (R := (R.2.1, R.2.2.1, s, R.2.2.2)) (fun _ _ => rfl) K
        · rw [if_neg hw, if_neg hw]
          refine j_W.ifc xd_M xd_87 (t := 97) rfl (fun c => ?_) (fun c => ?_)
          · clear hw c
            refine j_W.one xd_M xd_97 (by decide) (pcJ := 98) (stJ := [.ref 3]) rfl ?_
            refine j_W.call xd_M xd_98 rfl (md := 3) (mj := 45) rfl (by decide) xh_M (As := [.ref 3]) (rest := []) (jk_spl3 (K.at rfl) rfl rfl rfl (Nat.le_of_ble_eq_true rfl) (Nat.le_of_ble_eq_true rfl)) (xh_ok (K.sub ⟨rfl, rfl, trivial⟩)) ?_
            rintro r h9 ⟨rfl, K9⟩
            have K : KN h9 [(1, .inl (8, [.ref 2, .int ln, .int (nI e), .int (nI z.1), .int z.2.1, .int z.2.2.1, .long z.2.2.2.1, .int z.2.2.2.2])), (2, .inr (.inl (1, l))), (3, .inl (4, [.ref 1, .ref 327, .int (if z.2.1 = 4 then 1 else 2), .int z.2.2.1])), (327, .inl (2, [.int (nI s.1), .ref 328, .ref 329, .ref 330, .ref 331, .int (nI t.1), .ref 332, .ref 333, .ref 334, .ref 335, .ref 336, .ref 337, .ref 338, .int ce, .ref 339, .ref 340, .ref 341, .ref 342])), (328, .inr (.inr (.inl s.2.1))), (329, .inr (.inl (0, s.2.2.1))), (330, .inr (.inl (0, s.2.2.2.1))), (331, .inr (.inl (0, s.2.2.2.2))), (332, .inr (.inr (.inl t.2.1))), (333, .inr (.inl (0, t.2.2.1))), (334, .inr (.inl (0, t.2.2.2.1))), (335, .inr (.inl (0, t.2.2.2.2.1))), (336, .inr (.inl (0, t.2.2.2.2.2.1))), (337, .inr (.inl (0, t.2.2.2.2.2.2.1))), (338, .inr (.inl (0, t.2.2.2.2.2.2.2)))] h0 := K.go K9 rfl rfl rfl
            clear K9
            show j_W jP _ 34 101 [(3, .int (nI k)), (4, .int 1), (0, .ref 3), (1, .int (nI e)), (2, .ref 327)] [.int 0] h9 _
            refine j_W.one xd_M xd_101 (by decide) (pcJ := 103) (lv' := [(4, .int 0), (3, .int (nI k)), (0, .ref 3), (1, .int (nI e)), (2, .ref 327)]) (stJ := []) rfl ?_
            refine j_W.one xd_M xd_103 (by decide) (pcJ := 105) (stJ := [.int 0]) rfl ?_
            refine j_W.ifc xd_M xd_105 (t := 111) rfl (fun c => ?_) (fun c => ?_)
            · cases c
            · clear c
              refine j_W.gto xd_M xd_108 (t := 117) rfl ?_
              exact xd_xA (R := (((if z.2.1 = 4 then 1 else 2), z.2.2.1), z, s, t)) (fun _ _ => rfl) K
          · cases c
      · cases c
  · have c : z.2.1 = 0 := by simpa [j_cond] using c
    rw [if_pos c]
    refine j_W.gto xd_M xd_54 (t := 117) rfl ?_
    exact xd_xA (R := ((0, pa), z, s, t)) (fun _ _ => rfl) K
theorem xd_lA {ln ce : Int32} {l : List Int32} {e : Nat} {h0 : J_H} {d : Nat} {pa : Int32} (hl : l.length = 700) (he : e ≤ 700) : ∀ (f k : Nat) (h : J_H) (z : rK) (s : rSP) (t : rTP), k + f = e + 1 → z.1 ≤ e → wS s → w9T t → KN h [(1, .inl (8, [.ref 2, .int ln, .int (nI e), .int (nI z.1), .int z.2.1, .int z.2.2.1, .long z.2.2.2.1, .int z.2.2.2.2])), (2, .inr (.inl (1, l))), (3, .inl (4, [.ref 1, .ref 327, .int 0, .int pa])), (327, .inl (2, [.int (nI s.1), .ref 328, .ref 329, .ref 330, .ref 331, .int (nI t.1), .ref 332, .ref 333, .ref 334, .ref 335, .ref 336, .ref 337, .ref 338, .int ce, .ref 339, .ref 340, .ref 341, .ref 342])), (328, .inr (.inr (.inl s.2.1))), (329, .inr (.inl (0, s.2.2.1))), (330, .inr (.inl (0, s.2.2.2.1))), (331, .inr (.inl (0, s.2.2.2.2))), (332, .inr (.inr (.inl t.2.1))), (333, .inr (.inl (0, t.2.2.1))), (334, .inr (.inl (0, t.2.2.2.1))), (335, .inr (.inl (0, t.2.2.2.2.1))), (336, .inr (.inl (0, t.2.2.2.2.2.1))), (337, .inr (.inl (0, t.2.2.2.2.2.2.1))), (338, .inr (.inl (0, t.2.2.2.2.2.2.2)))] h0 → j_W jP (d + 1 + 1 + 1 + 1 + 1) 34 32 [(3, .int (nI k)), (4, .int 1), (0, .ref 3), (1, .int (nI e)), (2, .ref 327)] [] h (PDA ln ce e l h0 (rdL l e pa f z s t)) := by
  intro f
  induction f with
  | zero =>
    intro k h z s t hf hze hs ht K
    refine j_W.one xd_M xd_32 (by decide) (pcJ := 33) (stJ := [.int (nI k)]) rfl ?_
    refine j_W.one xd_M xd_33 (by decide) (pcJ := 34) (stJ := [.int (nI e), .int (nI k)]) rfl ?_
    refine j_W.icmp xd_M xd_34 (t := 117) rfl (fun c => ?_) (fun c => ?_)
    · exact xd_xA (R := ((0, pa), z, s, t)) (fun _ _ => rfl) K
    · exfalso; rw [jk_gt] at c; have c := of_decide_eq_false c; rw [nI_toInt (by omega), nI_toInt (by omega)] at c; omega
  | succ f ih =>
    intro k h z s t hf hze hs ht K
    refine j_W.one xd_M xd_32 (by decide) (pcJ := 33) (stJ := [.int (nI k)]) rfl ?_
    refine j_W.one xd_M xd_33 (by decide) (pcJ := 34) (stJ := [.int (nI e), .int (nI k)]) rfl ?_
    refine j_W.icmp xd_M xd_34 (t := 117) rfl (fun c => ?_) (fun c => ?_)
    · exfalso; rw [jk_gt] at c; have c := of_decide_eq_true c; rw [nI_toInt (by omega), nI_toInt (by omega)] at c; omega
    · clear c
      refine j_W.one xd_M xd_37 (by decide) (pcJ := 38) (stJ := [.ref 3]) rfl ?_
      refine j_W.getK xd_M xd_38 (ci := 4) (j := 0) rfl K rfl rfl ?_
      refine j_W.call xd_M xd_41 rfl (md := 3) (mj := 107) rfl (by decide) sa_M (As := [.ref 1]) (rest := []) (jk_spl3 (K.at rfl) rfl rfl rfl (Nat.le_of_ble_eq_true rfl) (Nat.le_of_ble_eq_true rfl)) (sa_ok hl he hze (K.sub ⟨rfl, rfl, trivial⟩)) ?_
      rintro r h9 ⟨rfl, K9⟩
      have K : KN h9 [(1, .inl (8, [.ref 2, .int ln, .int (nI e), .int (nI (aT l e z).1), .int (aT l e z).2.1, .int (aT l e z).2.2.1, .long (aT l e z).2.2.2.1, .int (aT l e z).2.2.2.2])), (2, .inr (.inl (1, l))), (3, .inl (4, [.ref 1, .ref 327, .int 0, .int pa])), (327, .inl (2, [.int (nI s.1), .ref 328, .ref 329, .ref 330, .ref 331, .int (nI t.1), .ref 332, .ref 333, .ref 334, .ref 335, .ref 336, .ref 337, .ref 338, .int ce, .ref 339, .ref 340, .ref 341, .ref 342])), (328, .inr (.inr (.inl s.2.1))), (329, .inr (.inl (0, s.2.2.1))), (330, .inr (.inl (0, s.2.2.2.1))), (331, .inr (.inl (0, s.2.2.2.2))), (332, .inr (.inr (.inl t.2.1))), (333, .inr (.inl (0, t.2.2.1))), (334, .inr (.inl (0, t.2.2.2.1))), (335, .inr (.inl (0, t.2.2.2.2.1))), (336, .inr (.inl (0, t.2.2.2.2.2.1))), (337, .inr (.inl (0, t.2.2.2.2.2.2.1))), (338, .inr (.inl (0, t.2.2.2.2.2.2.2)))] h0 := K.go K9 rfl rfl rfl
      clear K9
      show j_W jP _ 34 44 [(3, .int (nI k)), (4, .int 1), (0, .ref 3), (1, .int (nI e)), (2, .ref 327)] [] h9 _
      exact xd_t1A hl he (tkN_le hze) hs ht (fun h z' s' t' h1 h2 h3 h4 K => ih (k + 1) h z' s' t' (by omega) h2 h3 h4 K) K
theorem xd_fA {ln ce : Int32} {l : List Int32} {e : Nat} {h0 : J_H} {d : Nat} {pa : Int32} {h : J_H} {z : rK} {s : rSP} {t : rTP} (hl : l.length = 700) (he : e ≤ 700) (hze : z.1 ≤ e) (hs : wS s) (ht : w9T t) (K : KN h [(1, .inl (8, [.ref 2, .int ln, .int (nI e), .int (nI z.1), .int z.2.1, .int z.2.2.1, .long z.2.2.2.1, .int z.2.2.2.2])), (2, .inr (.inl (1, l))), (3, .inl (4, [.ref 1, .ref 327, .int 0, .int pa])), (327, .inl (2, [.int (nI s.1), .ref 328, .ref 329, .ref 330, .ref 331, .int (nI t.1), .ref 332, .ref 333, .ref 334, .ref 335, .ref 336, .ref 337, .ref 338, .int ce, .ref 339, .ref 340, .ref 341, .ref 342])), (328, .inr (.inr (.inl s.2.1))), (329, .inr (.inl (0, s.2.2.1))), (330, .inr (.inl (0, s.2.2.2.1))), (331, .inr (.inl (0, s.2.2.2.2))), (332, .inr (.inr (.inl t.2.1))), (333, .inr (.inl (0, t.2.2.1))), (334, .inr (.inl (0, t.2.2.2.1))), (335, .inr (.inl (0, t.2.2.2.2.1))), (336, .inr (.inl (0, t.2.2.2.2.2.1))), (337, .inr (.inl (0, t.2.2.2.2.2.2.1))), (338, .inr (.inl (0, t.2.2.2.2.2.2.2)))] h0) : j_W jP (d + 1 + 1 + 1 + 1 + 1) 34 32 [(3, .int (nI 0)), (0, .ref 3), (1, .int (nI e)), (2, .ref 327)] [] h (PDA ln ce e l h0 (rdL l e pa (e + 1) z s t)) := by
  refine j_W.one xd_M xd_32 (by decide) (pcJ := 33) (stJ := [.int (nI 0)]) rfl ?_
  refine j_W.one xd_M xd_33 (by decide) (pcJ := 34) (stJ := [.int (nI e), .int (nI 0)]) rfl ?_
  refine j_W.icmp xd_M xd_34 (t := 117) rfl (fun c => ?_) (fun c => ?_)
  · exfalso; rw [jk_gt] at c; have c := of_decide_eq_true c; rw [nI_toInt (by omega), nI_toInt (by omega)] at c; omega
  · clear c
    refine j_W.one xd_M xd_37 (by decide) (pcJ := 38) (stJ := [.ref 3]) rfl ?_
    refine j_W.getK xd_M xd_38 (ci := 4) (j := 0) rfl K rfl rfl ?_
    refine j_W.call xd_M xd_41 rfl (md := 3) (mj := 107) rfl (by decide) sa_M (As := [.ref 1]) (rest := []) (jk_spl3 (K.at rfl) rfl rfl rfl (Nat.le_of_ble_eq_true rfl) (Nat.le_of_ble_eq_true rfl)) (sa_ok hl he hze (K.sub ⟨rfl, rfl, trivial⟩)) ?_
    rintro r h9 ⟨rfl, K9⟩
    have K : KN h9 [(1, .inl (8, [.ref 2, .int ln, .int (nI e), .int (nI (aT l e z).1), .int (aT l e z).2.1, .int (aT l e z).2.2.1, .long (aT l e z).2.2.2.1, .int (aT l e z).2.2.2.2])), (2, .inr (.inl (1, l))), (3, .inl (4, [.ref 1, .ref 327, .int 0, .int pa])), (327, .inl (2, [.int (nI s.1), .ref 328, .ref 329, .ref 330, .ref 331, .int (nI t.1), .ref 332, .ref 333, .ref 334, .ref 335, .ref 336, .ref 337, .ref 338, .int ce, .ref 339, .ref 340, .ref 341, .ref 342])), (328, .inr (.inr (.inl s.2.1))), (329, .inr (.inl (0, s.2.2.1))), (330, .inr (.inl (0, s.2.2.2.1))), (331, .inr (.inl (0, s.2.2.2.2))), (332, .inr (.inr (.inl t.2.1))), (333, .inr (.inl (0, t.2.2.1))), (334, .inr (.inl (0, t.2.2.2.1))), (335, .inr (.inl (0, t.2.2.2.2.1))), (336, .inr (.inl (0, t.2.2.2.2.2.1))), (337, .inr (.inl (0, t.2.2.2.2.2.2.1))), (338, .inr (.inl (0, t.2.2.2.2.2.2.2)))] h0 := K.go K9 rfl rfl rfl
    clear K9
    show j_W jP _ 34 44 [(3, .int (nI 0)), (0, .ref 3), (1, .int (nI e)), (2, .ref 327)] [] h9 _
    exact xd_t0A hl he (tkN_le hze) hs ht (fun h z' s' t' h1 h2 h3 h4 K => xd_lA hl he e 1 h z' s' t' (by omega) h2 h3 h4 K) K
theorem xd_okA {ln ce en nx kd pl nu fa pb sx tx : Int32} {wo : Int64} {vb : Value} {l : List Int32} {e : Nat} {h h0 : J_H} {d : Nat} {s : rSP} {t : rTP} (hl : l.length = 700) (he : e ≤ 700) (hle : (nI e).toInt ≤ ln.toInt) (hs : wS s) (ht : w9T t) (h1 : s.1 = 0) (h2 : t.1 = 0) (K : KN h [(1, .inl (8, [.ref 2, .int ln, .int en, .int nx, .int kd, .int pl, .long wo, .int nu])), (2, .inr (.inl (1, l))), (3, .inl (4, [.ref 1, vb, .int fa, .int pb])), (327, .inl (2, [.int sx, .ref 328, .ref 329, .ref 330, .ref 331, .int tx, .ref 332, .ref 333, .ref 334, .ref 335, .ref 336, .ref 337, .ref 338, .int ce, .ref 339, .ref 340, .ref 341, .ref 342])), (328, .inr (.inr (.inl s.2.1))), (329, .inr (.inl (0, s.2.2.1))), (330, .inr (.inl (0, s.2.2.2.1))), (331, .inr (.inl (0, s.2.2.2.2))), (332, .inr (.inr (.inl t.2.1))), (333, .inr (.inl (0, t.2.2.1))), (334, .inr (.inl (0, t.2.2.2.1))), (335, .inr (.inl (0, t.2.2.2.2.1))), (336, .inr (.inl (0, t.2.2.2.2.2.1))), (337, .inr (.inl (0, t.2.2.2.2.2.2.1))), (338, .inr (.inl (0, t.2.2.2.2.2.2.2)))] h0) : j_W jP (d + 1 + 1 + 1 + 1 + 1) 34 0 (lv_args 0 [.ref 3, .int (nI e), .ref 327]) [] h (PDA ln ce e l h0 (rdL l e (-1) (e + 1) (0, kd, pl, wo, nu) s t)) := by
  show j_W jP (d + 1 + 1 + 1 + 1 + 1) 34 0 [(0, .ref 3), (1, .int (nI e)), (2, .ref 327)] [] h _
  refine j_W.one xd_M xd_0 (by decide) (pcJ := 1) (stJ := [.ref 3]) rfl ?_
  refine j_W.one xd_M xd_1 (by decide) (pcJ := 2) (stJ := [.ref 327, .ref 3]) rfl ?_
  refine j_W.putK xd_M xd_2 (ci := 4) (j := 1) (k' := [(1, .inl (8, [.ref 2, .int ln, .int en, .int nx, .int kd, .int pl, .long wo, .int nu])), (2, .inr (.inl (1, l))), (3, .inl (4, [.ref 1, .ref 327, .int fa, .int pb])), (327, .inl (2, [.int sx, .ref 328, .ref 329, .ref 330, .ref 331, .int tx, .ref 332, .ref 333, .ref 334, .ref 335, .ref 336, .ref 337, .ref 338, .int ce, .ref 339, .ref 340, .ref 341, .ref 342])), (328, .inr (.inr (.inl s.2.1))), (329, .inr (.inl (0, s.2.2.1))), (330, .inr (.inl (0, s.2.2.2.1))), (331, .inr (.inl (0, s.2.2.2.2))), (332, .inr (.inr (.inl t.2.1))), (333, .inr (.inl (0, t.2.2.1))), (334, .inr (.inl (0, t.2.2.2.1))), (335, .inr (.inl (0, t.2.2.2.2.1))), (336, .inr (.inl (0, t.2.2.2.2.2.1))), (337, .inr (.inl (0, t.2.2.2.2.2.2.1))), (338, .inr (.inl (0, t.2.2.2.2.2.2.2)))]) rfl K rfl (Nat.le_of_ble_eq_true rfl) rfl (Or.inl rfl) rfl rfl (fun h K => ?_)
  refine j_W.one xd_M xd_5 (by decide) (pcJ := 6) (stJ := [.ref 3]) rfl ?_
  refine j_W.getK xd_M xd_6 (ci := 4) (j := 1) rfl K rfl rfl ?_
  refine j_W.call xd_M xd_9 rfl (md := 3) (mj := 18) rfl (by decide) xe_M (As := [.ref 327]) (rest := []) (jk_spl3 (K.at rfl) rfl rfl rfl (Nat.le_of_ble_eq_true rfl) (Nat.le_of_ble_eq_true rfl)) (xe_okA (K.sub ⟨rfl, trivial⟩)) ?_
  rintro r h9 ⟨rfl, K9⟩
  have K : KN h9 [(1, .inl (8, [.ref 2, .int ln, .int en, .int nx, .int kd, .int pl, .long wo, .int nu])), (2, .inr (.inl (1, l))), (3, .inl (4, [.ref 1, .ref 327, .int fa, .int pb])), (327, .inl (2, [.int 0, .ref 328, .ref 329, .ref 330, .ref 331, .int 0, .ref 332, .ref 333, .ref 334, .ref 335, .ref 336, .ref 337, .ref 338, .int ce, .ref 339, .ref 340, .ref 341, .ref 342])), (328, .inr (.inr (.inl s.2.1))), (329, .inr (.inl (0, s.2.2.1))), (330, .inr (.inl (0, s.2.2.2.1))), (331, .inr (.inl (0, s.2.2.2.2))), (332, .inr (.inr (.inl t.2.1))), (333, .inr (.inl (0, t.2.2.1))), (334, .inr (.inl (0, t.2.2.2.1))), (335, .inr (.inl (0, t.2.2.2.2.1))), (336, .inr (.inl (0, t.2.2.2.2.2.1))), (337, .inr (.inl (0, t.2.2.2.2.2.2.1))), (338, .inr (.inl (0, t.2.2.2.2.2.2.2)))] h0 := K.go K9 rfl rfl rfl
  clear K9
  show j_W jP _ 34 12 [(0, .ref 3), (1, .int (nI e)), (2, .ref 327)] [] h9 _
  refine j_W.one xd_M xd_12 (by decide) (pcJ := 13) (stJ := [.ref 3]) rfl ?_
  refine j_W.getK xd_M xd_13 (ci := 4) (j := 0) rfl K rfl rfl ?_
  refine j_W.one xd_M xd_16 (by decide) (pcJ := 17) (stJ := [.int (nI e), .ref 1]) rfl ?_
  refine j_W.call xd_M xd_17 rfl (md := 3) (mj := 106) rfl (by decide) xo_M (As := [.ref 1, .int (nI e)]) (rest := []) (jk_spl3 (K.at rfl) rfl rfl rfl (Nat.le_of_ble_eq_true rfl) (Nat.le_of_ble_eq_true rfl)) (xo_ok hle (K.sub ⟨rfl, trivial⟩)) ?_
  rintro r h9 ⟨rfl, K9⟩
  have K : KN h9 [(1, .inl (8, [.ref 2, .int ln, .int (nI e), .int 0, .int kd, .int pl, .long wo, .int nu])), (2, .inr (.inl (1, l))), (3, .inl (4, [.ref 1, .ref 327, .int fa, .int pb])), (327, .inl (2, [.int 0, .ref 328, .ref 329, .ref 330, .ref 331, .int 0, .ref 332, .ref 333, .ref 334, .ref 335, .ref 336, .ref 337, .ref 338, .int ce, .ref 339, .ref 340, .ref 341, .ref 342])), (328, .inr (.inr (.inl s.2.1))), (329, .inr (.inl (0, s.2.2.1))), (330, .inr (.inl (0, s.2.2.2.1))), (331, .inr (.inl (0, s.2.2.2.2))), (332, .inr (.inr (.inl t.2.1))), (333, .inr (.inl (0, t.2.2.1))), (334, .inr (.inl (0, t.2.2.2.1))), (335, .inr (.inl (0, t.2.2.2.2.1))), (336, .inr (.inl (0, t.2.2.2.2.2.1))), (337, .inr (.inl (0, t.2.2.2.2.2.2.1))), (338, .inr (.inl (0, t.2.2.2.2.2.2.2)))] h0 := K.go K9 rfl rfl rfl
  clear K9
  show j_W jP _ 34 20 [(0, .ref 3), (1, .int (nI e)), (2, .ref 327)] [] h9 _
  refine j_W.one xd_M xd_20 (by decide) (pcJ := 21) (stJ := [.ref 3]) rfl ?_
  refine j_W.one xd_M xd_21 (by decide) (pcJ := 22) (stJ := [.int 0, .ref 3]) rfl ?_
  refine j_W.putK xd_M xd_22 (ci := 4) (j := 2) (k' := [(1, .inl (8, [.ref 2, .int ln, .int (nI e), .int 0, .int kd, .int pl, .long wo, .int nu])), (2, .inr (.inl (1, l))), (3, .inl (4, [.ref 1, .ref 327, .int 0, .int pb])), (327, .inl (2, [.int 0, .ref 328, .ref 329, .ref 330, .ref 331, .int 0, .ref 332, .ref 333, .ref 334, .ref 335, .ref 336, .ref 337, .ref 338, .int ce, .ref 339, .ref 340, .ref 341, .ref 342])), (328, .inr (.inr (.inl s.2.1))), (329, .inr (.inl (0, s.2.2.1))), (330, .inr (.inl (0, s.2.2.2.1))), (331, .inr (.inl (0, s.2.2.2.2))), (332, .inr (.inr (.inl t.2.1))), (333, .inr (.inl (0, t.2.2.1))), (334, .inr (.inl (0, t.2.2.2.1))), (335, .inr (.inl (0, t.2.2.2.2.1))), (336, .inr (.inl (0, t.2.2.2.2.2.1))), (337, .inr (.inl (0, t.2.2.2.2.2.2.1))), (338, .inr (.inl (0, t.2.2.2.2.2.2.2)))]) rfl K rfl (Nat.le_of_ble_eq_true rfl) rfl (Or.inl rfl) rfl rfl (fun h K => ?_)
  refine j_W.one xd_M xd_25 (by decide) (pcJ := 26) (stJ := [.ref 3]) rfl ?_
  refine j_W.one xd_M xd_26 (by decide) (pcJ := 27) (stJ := [.int (-1), .ref 3]) rfl ?_
  refine j_W.putK xd_M xd_27 (ci := 4) (j := 3) (k' := [(1, .inl (8, [.ref 2, .int ln, .int (nI e), .int 0, .int kd, .int pl, .long wo, .int nu])), (2, .inr (.inl (1, l))), (3, .inl (4, [.ref 1, .ref 327, .int 0, .int (-1)])), (327, .inl (2, [.int 0, .ref 328, .ref 329, .ref 330, .ref 331, .int 0, .ref 332, .ref 333, .ref 334, .ref 335, .ref 336, .ref 337, .ref 338, .int ce, .ref 339, .ref 340, .ref 341, .ref 342])), (328, .inr (.inr (.inl s.2.1))), (329, .inr (.inl (0, s.2.2.1))), (330, .inr (.inl (0, s.2.2.2.1))), (331, .inr (.inl (0, s.2.2.2.2))), (332, .inr (.inr (.inl t.2.1))), (333, .inr (.inl (0, t.2.2.1))), (334, .inr (.inl (0, t.2.2.2.1))), (335, .inr (.inl (0, t.2.2.2.2.1))), (336, .inr (.inl (0, t.2.2.2.2.2.1))), (337, .inr (.inl (0, t.2.2.2.2.2.2.1))), (338, .inr (.inl (0, t.2.2.2.2.2.2.2)))]) rfl K rfl (Nat.le_of_ble_eq_true rfl) rfl (Or.inl rfl) rfl rfl (fun h K => ?_)
  refine j_W.one xd_M xd_30 (by decide) (pcJ := 31) (stJ := [.int 0]) rfl ?_
  refine j_W.one xd_M xd_31 (by decide) (pcJ := 32) (lv' := [(3, .int 0), (0, .ref 3), (1, .int (nI e)), (2, .ref 327)]) (stJ := []) rfl ?_
  have K : KN h [(1, .inl (8, [.ref 2, .int ln, .int (nI e), .int (nI ((0, kd, pl, wo, nu) : rK).1), .int ((0, kd, pl, wo, nu) : rK).2.1, .int ((0, kd, pl, wo, nu) : rK).2.2.1, .long ((0, kd, pl, wo, nu) : rK).2.2.2.1, .int ((0, kd, pl, wo, nu) : rK).2.2.2.2])), (2, .inr (.inl (1, l))), (3, .inl (4, [.ref 1, .ref 327, .int 0, .int (-1)])), (327, .inl (2, [.int (nI s.1), .ref 328, .ref 329, .ref 330, .ref 331, .int (nI t.1), .ref 332, .ref 333, .ref 334, .ref 335, .ref 336, .ref 337, .ref 338, .int ce, .ref 339, .ref 340, .ref 341, .ref 342])), (328, .inr (.inr (.inl s.2.1))), (329, .inr (.inl (0, s.2.2.1))), (330, .inr (.inl (0, s.2.2.2.1))), (331, .inr (.inl (0, s.2.2.2.2))), (332, .inr (.inr (.inl t.2.1))), (333, .inr (.inl (0, t.2.2.1))), (334, .inr (.inl (0, t.2.2.2.1))), (335, .inr (.inl (0, t.2.2.2.2.1))), (336, .inr (.inl (0, t.2.2.2.2.2.1))), (337, .inr (.inl (0, t.2.2.2.2.2.2.1))), (338, .inr (.inl (0, t.2.2.2.2.2.2.2)))] h0 := by
    have e1 : nI s.1 = 0 := by rw [h1]; rfl
    have e2 : nI t.1 = 0 := by rw [h2]; rfl
    rw [e1, e2]; exact K
  exact xd_fA (z := (0, kd, pl, wo, nu)) hl he (Nat.zero_le _) hs ht K
def PDB (ln ce : Int32) (e : Nat) (l : List Int32) (h0 : J_H) (R : rY) (rv : Option Value) (h' : J_H) : Prop := rv = some (.int (if R.1.1 = 0 then 1 else 0)) ∧ KN h' [(1, .inl (8, [.ref 2, .int ln, .int (nI e), .int (nI R.2.1.1), .int R.2.1.2.1, .int R.2.1.2.2.1, .long R.2.1.2.2.2.1, .int R.2.1.2.2.2.2])), (2, .inr (.inl (1, l))), (3, .inl (4, [.ref 1, .ref 343, .int R.1.1, .int R.1.2])), (343, .inl (2, [.int (nI R.2.2.1.1), .ref 344, .ref 345, .ref 346, .ref 347, .int (nI R.2.2.2.1), .ref 348, .ref 349, .ref 350, .ref 351, .ref 352, .ref 353, .ref 354, .int ce, .ref 355, .ref 356, .ref 357, .ref 358])), (344, .inr (.inr (.inl R.2.2.1.2.1))), (345, .inr (.inl (0, R.2.2.1.2.2.1))), (346, .inr (.inl (0, R.2.2.1.2.2.2.1))), (347, .inr (.inl (0, R.2.2.1.2.2.2.2))), (348, .inr (.inr (.inl R.2.2.2.2.1))), (349, .inr (.inl (0, R.2.2.2.2.2.1))), (350, .inr (.inl (0, R.2.2.2.2.2.2.1))), (351, .inr (.inl (0, R.2.2.2.2.2.2.2.1))), (352, .inr (.inl (0, R.2.2.2.2.2.2.2.2.1))), (353, .inr (.inl (0, R.2.2.2.2.2.2.2.2.2.1))), (354, .inr (.inl (0, R.2.2.2.2.2.2.2.2.2.2)))] h0
theorem xd_xB {ln ce : Int32} {e : Nat} {l : List Int32} {h h0 : J_H} {d : Nat} {R : rY} {lv : J_L} (hv : ∀ st h, j_one jP 34 (j_nL xd_N) (j_in xd_N) 117 (.aload_n 0) lv st h = some (118, lv, .ref 3 :: st, h)) (K : KN h [(1, .inl (8, [.ref 2, .int ln, .int (nI e), .int (nI R.2.1.1), .int R.2.1.2.1, .int R.2.1.2.2.1, .long R.2.1.2.2.2.1, .int R.2.1.2.2.2.2])), (2, .inr (.inl (1, l))), (3, .inl (4, [.ref 1, .ref 343, .int R.1.1, .int R.1.2])), (343, .inl (2, [.int (nI R.2.2.1.1), .ref 344, .ref 345, .ref 346, .ref 347, .int (nI R.2.2.2.1), .ref 348, .ref 349, .ref 350, .ref 351, .ref 352, .ref 353, .ref 354, .int ce, .ref 355, .ref 356, .ref 357, .ref 358])), (344, .inr (.inr (.inl R.2.2.1.2.1))), (345, .inr (.inl (0, R.2.2.1.2.2.1))), (346, .inr (.inl (0, R.2.2.1.2.2.2.1))), (347, .inr (.inl (0, R.2.2.1.2.2.2.2))), (348, .inr (.inr (.inl R.2.2.2.2.1))), (349, .inr (.inl (0, R.2.2.2.2.2.1))), (350, .inr (.inl (0, R.2.2.2.2.2.2.1))), (351, .inr (.inl (0, R.2.2.2.2.2.2.2.1))), (352, .inr (.inl (0, R.2.2.2.2.2.2.2.2.1))), (353, .inr (.inl (0, R.2.2.2.2.2.2.2.2.2.1))), (354, .inr (.inl (0, R.2.2.2.2.2.2.2.2.2.2)))] h0) : j_W jP d 34 117 lv [] h (PDB ln ce e l h0 R) := by
  refine j_W.one xd_M xd_117 (by decide) (pcJ := 118) (stJ := [.ref 3]) (hv _ _) ?_
  refine j_W.getK xd_M xd_118 (ci := 4) (j := 2) rfl K rfl rfl ?_
  refine j_W.ifc xd_M xd_121 (t := 128) rfl (fun c => ?_) (fun c => ?_)
  · have c : ¬ R.1.1 = 0 := by simpa [j_cond] using c
    refine j_W.one xd_M xd_128 (by decide) (pcJ := 129) (stJ := [.int 0]) rfl ?_
    refine j_W.ret xd_M xd_129 rfl rfl ⟨?_, K⟩
    rw [if_neg c]
  · have c : R.1.1 = 0 := by simpa [j_cond] using c
    refine j_W.one xd_M xd_124 (by decide) (pcJ := 125) (stJ := [.int 1]) rfl ?_
    refine j_W.gto xd_M xd_125 (t := 129) rfl ?_
    refine j_W.ret xd_M xd_129 rfl rfl ⟨?_, K⟩
    rw [if_pos c]
theorem xd_t0B {ln ce : Int32} {l : List Int32} {e : Nat} {h0 : J_H} {d : Nat} {pa : Int32} {k : Nat} {h : J_H} {z : rK} {s : rSP} {t : rTP} {g : rK → rSP → rTP → rY} (hl : l.length = 700) (he : e ≤ 700) (hze : z.1 ≤ e) (hs : wS s) (ht : w9T t) (hg : ∀ (h : J_H) (z' : rK) (s' : rSP) (t' : rTP), z.1 ≤ z'.1 → z'.1 ≤ e → wS s' → w9T t' → KN h [(1, .inl (8, [.ref 2, .int ln, .int (nI e), .int (nI z'.1), .int z'.2.1, .int z'.2.2.1, .long z'.2.2.2.1, .int z'.2.2.2.2])), (2, .inr (.inl (1, l))), (3, .inl (4, [.ref 1, .ref 343, .int 0, .int pa])), (343, .inl (2, [.int (nI s'.1), .ref 344, .ref 345, .ref 346, .ref 347, .int (nI t'.1), .ref 348, .ref 349, .ref 350, .ref 351, .ref 352, .ref 353, .ref 354, .int ce, .ref 355, .ref 356, .ref 357, .ref 358])), (344, .inr (.inr (.inl s'.2.1))), (345, .inr (.inl (0, s'.2.2.1))), (346, .inr (.inl (0, s'.2.2.2.1))), (347, .inr (.inl (0, s'.2.2.2.2))), (348, .inr (.inr (.inl t'.2.1))), (349, .inr (.inl (0, t'.2.2.1))), (350, .inr (.inl (0, t'.2.2.2.1))), (351, .inr (.inl (0, t'.2.2.2.2.1))), (352, .inr (.inl (0, t'.2.2.2.2.2.1))), (353, .inr (.inl (0, t'.2.2.2.2.2.2.1))), (354, .inr (.inl (0, t'.2.2.2.2.2.2.2)))] h0 → j_W jP (d + 1 + 1 + 1 + 1 + 1) 34 32 [(3, .int (nI (k + 1))), (4, .int 1), (0, .ref 3), (1, .int (nI e)), (2, .ref 343)] [] h (PDB ln ce e l h0 (g z' s' t'))) (K : KN h [(1, .inl (8, [.ref 2, .int ln, .int (nI e), .int (nI z.1), .int z.2.1, .int z.2.2.1, .long z.2.2.2.1, .int z.2.2.2.2])), (2, .inr (.inl (1, l))), (3, .inl (4, [.ref 1, .ref 343, .int 0, .int pa])), (343, .inl (2, [.int (nI s.1), .ref 344, .ref 345, .ref 346, .ref 347, .int (nI t.1), .ref 348, .ref 349, .ref 350, .ref 351, .ref 352, .ref 353, .ref 354, .int ce, .ref 355, .ref 356, .ref 357, .ref 358])), (344, .inr (.inr (.inl s.2.1))), (345, .inr (.inl (0, s.2.2.1))), (346, .inr (.inl (0, s.2.2.2.1))), (347, .inr (.inl (0, s.2.2.2.2))), (348, .inr (.inr (.inl t.2.1))), (349, .inr (.inl (0, t.2.2.1))), (350, .inr (.inl (0, t.2.2.2.1))), (351, .inr (.inl (0, t.2.2.2.2.1))), (352, .inr (.inl (0, t.2.2.2.2.2.1))), (353, .inr (.inl (0, t.2.2.2.2.2.2.1))), (354, .inr (.inl (0, t.2.2.2.2.2.2.2)))] h0) : j_W jP (d + 1 + 1 + 1 + 1 + 1) 34 44 [(3, .int (nI k)), (0, .ref 3), (1, .int (nI e)), (2, .ref 343)] [] h (PDB ln ce e l h0 (rdB l e pa g z s t)) := by
  unfold rdB
  refine j_W.one xd_M xd_44 (by decide) (pcJ := 45) (stJ := [.ref 3]) rfl ?_
  refine j_W.getK xd_M xd_45 (ci := 4) (j := 0) rfl K rfl rfl ?_
  refine j_W.getK xd_M xd_48 (ci := 8) (j := 4) rfl K rfl rfl ?_
  refine j_W.ifc xd_M xd_51 (t := 57) rfl (fun c => ?_) (fun c => ?_)
  · have c : ¬ z.2.1 = 0 := by simpa [j_cond] using c
    rw [if_neg c]
    clear c
    refine j_W.one xd_M xd_57 (by decide) (pcJ := 58) (stJ := [.ref 3]) rfl ?_
    refine j_W.getK xd_M xd_58 (ci := 4) (j := 0) rfl K rfl rfl ?_
    refine j_W.one xd_M xd_61 (by decide) (pcJ := 64) (stJ := [.long 32497584235442030, .ref 1]) rfl ?_
    refine j_W.call xd_M xd_64 rfl (md := 3) (mj := 108) rfl (by decide) xw_M (As := [.ref 1, .long 32497584235442030]) (rest := []) (jk_spl3 (K.at rfl) rfl rfl rfl (Nat.le_of_ble_eq_true rfl) (Nat.le_of_ble_eq_true rfl)) (xw_ok (K.sub ⟨rfl, trivial⟩)) ?_
    rintro r hz ⟨rfl, ez⟩
    rw [ez]
    clear ez
    show j_W jP _ 34 67 [(3, .int (nI k)), (0, .ref 3), (1, .int (nI e)), (2, .ref 343)] [.int (if z.2.1 = 1 ∧ z.2.2.2.1 = 32497584235442030 then 1 else 0)] h _
    rcases Decidable.em (z.2.1 = 1 ∧ z.2.2.2.1 = 32497584235442030) with hw | hw
    · rw [if_pos hw, if_pos hw]
      refine j_W.ifc xd_M xd_67 (t := 77) rfl (fun c => ?_) (fun c => ?_)
      · cases c
      · clear c
        refine j_W.one xd_M xd_70 (by decide) (pcJ := 71) (stJ := [.ref 3]) rfl ?_
        have hw9 := stX_wf (l := l) (nt := t.1) (tn := t.2.1) (fa := 0) (pa := pa) (z := z) (ns := s.1) (sn := s.2.1) (ru := s.2.2.1) (tr := s.2.2.2.1) (le := s.2.2.2.2) ⟨Nat.le_refl _, hze⟩ hs.1 hs.2.1 hs.2.2.1 hs.2.2.2.1 hs.2.2.2.2
        generalize hR : (stX l e s.1 t.1 0 pa z s.2.1 t.2.1 s.2.2.1 s.2.2.2.1 s.2.2.2.2) = R at hw9 ⊢
        refine j_W.call xd_M xd_71 rfl (md := 3) (mj := 35) rfl (by decide) xp_M (As := [.ref 3]) (rest := []) (jk_spl3 (K.at rfl) rfl rfl rfl (Nat.le_of_ble_eq_true rfl) (Nat.le_of_ble_eq_true rfl)) ((hR ▸ xp_okB hl he hze hs.1 ht.1 hs.2.1 hs.2.2.1 hs.2.2.2.1 hs.2.2.2.2 ht.2.1 (K.sub ⟨rfl, rfl, rfl, rfl, rfl, rfl, rfl, rfl, rfl, trivial⟩))) ?_
        rintro r h9 ⟨rfl, K9⟩
        have K : KN h9 [(1, .inl (8, [.ref 2, .int ln, .int (nI e), .int (nI R.2.2.1.1), .int R.2.2.1.2.1, .int R.2.2.1.2.2.1, .long R.2.2.1.2.2.2.1, .int R.2.2.1.2.2.2.2])), (2, .inr (.inl (1, l))), (3, .inl (4, [.ref 1, .ref 343, .int R.2.1.1, .int R.2.1.2])), (343, .inl (2, [.int (nI R.2.2.2.1), .ref 344, .ref 345, .ref 346, .ref 347, .int (nI t.1), .ref 348, .ref 349, .ref 350, .ref 351, .ref 352, .ref 353, .ref 354, .int ce, .ref 355, .ref 356, .ref 357, .ref 358])), (344, .inr (.inr (.inl R.2.2.2.2.1))), (345, .inr (.inl (0, R.2.2.2.2.2.1))), (346, .inr (.inl (0, R.2.2.2.2.2.2.1))), (347, .inr (.inl (0, R.2.2.2.2.2.2.2))), (348, .inr (.inr (.inl t.2.1))), (349, .inr (.inl (0, t.2.2.1))), (350, .inr (.inl (0, t.2.2.2.1))), (351, .inr (.inl (0, t.2.2.2.2.1))), (352, .inr (.inl (0, t.2.2.2.2.2.1))), (353, .inr (.inl (0, t.2.2.2.2.2.2.1))), (354, .inr (.inl (0, t.2.2.2.2.2.2.2)))] h0 := K.go K9 rfl rfl rfl
        clear K9
        show j_W jP _ 34 74 [(3, .int (nI k)), (0, .ref 3), (1, .int (nI e)), (2, .ref 343)] [.int (bif R.1 then 1 else 0)] h9 _
        clear hR
        cases hb : R.1 with
        | true =>
          unfold rdS
          rw [hb]
          show j_W jP _ 34 74 [(3, .int (nI k)), (0, .ref 3), (1, .int (nI e)), (2, .ref 343)] [.int 1] h9 _
          refine j_W.gto xd_M xd_74 (t := 101) rfl ?_
          refine j_W.one xd_M xd_101 (by decide) (pcJ := 103) (lv' := [(4, .int 1), (3, .int (nI k)), (0, .ref 3), (1, .int (nI e)), (2, .ref 343)]) (stJ := []) rfl ?_
          refine j_W.one xd_M xd_103 (by decide) (pcJ := 105) (stJ := [.int 1]) rfl ?_
          refine j_W.ifc xd_M xd_105 (t := 111) rfl (fun c => ?_) (fun c => ?_)
          · clear c
            rw [hw9.2 hb] at K
            have K : KN h9 [(1, .inl (8, [.ref 2, .int ln, .int (nI e), .int (nI R.2.2.1.1), .int R.2.2.1.2.1, .int R.2.2.1.2.2.1, .long R.2.2.1.2.2.2.1, .int R.2.2.1.2.2.2.2])), (2, .inr (.inl (1, l))), (3, .inl (4, [.ref 1, .ref 343, .int 0, .int pa])), (343, .inl (2, [.int (nI R.2.2.2.1), .ref 344, .ref 345, .ref 346, .ref 347, .int (nI t.1), .ref 348, .ref 349, .ref 350, .ref 351, .ref 352, .ref 353, .ref 354, .int ce, .ref 355, .ref 356, .ref 357, .ref 358])), (344, .inr (.inr (.inl R.2.2.2.2.1))), (345, .inr (.inl (0, R.2.2.2.2.2.1))), (346, .inr (.inl (0, R.2.2.2.2.2.2.1))), (347, .inr (.inl (0, R.2.2.2.2.2.2.2))), (348, .inr (.inr (.inl t.2.1))), (349, .inr (.inl (0, t.2.2.1))), (350, .inr (.inl (0, t.2.2.2.1))), (351, .inr (.inl (0, t.2.2.2.2.1))), (352, .inr (.inl (0, t.2.2.2.2.2.1))), (353, .inr (.inl (0, t.2.2.2.2.2.2.1))), (354, .inr (.inl (0, t.2.2.2.2.2.2.2)))] h0 := K
            refine j_W.one xd_M xd_111 (by decide) (pcJ := 114) (lv' := [(3, .int ((nI k) + 1)), (4, .int 1), (0, .ref 3), (1, .int (nI e)), (2, .ref 343)]) (stJ := []) rfl ?_
            refine j_W.gto xd_M xd_114 (t := 32) rfl ?_
            rw [cond_true]
            have t9 := hg _ R.2.2.1 R.2.2.2 t hw9.1.1.1 hw9.1.1.2 hw9.1.2 ht K
            rw [nI_succ] at t9
            exact t9
          · cases c
        | false =>
          unfold rdS
          rw [hb]
          show j_W jP _ 34 74 [(3, .int (nI k)), (0, .ref 3), (1, .int (nI e)), (2, .ref 343)] [.int 0] h9 _
          refine j_W.gto xd_M xd_74 (t := 101) rfl ?_
          refine j_W.one xd_M xd_101 (by decide) (pcJ := 103) (lv' := [(4, .int 0), (3, .int (nI k)), (0, .ref 3), (1, .int (nI e)), (2, .ref 343)]) (stJ := []) rfl ?_
          refine j_W.one xd_M xd_103 (by decide) (pcJ := 105) (stJ := [.int 0]) rfl ?_
          refine j_W.ifc xd_M xd_105 (t := 111) rfl (fun c => ?_) (fun c => ?_)
          · cases c
          · clear c
            refine j_W.gto xd_M xd_108 (t := 117) rfl ?_
            rw [cond_false]
            exact xd_xB (R := (R.2.1, R.2.2.1, R.2.2.2, t)) (fun _ _ => rfl) K
    · rw [if_neg hw, if_neg hw]
      refine j_W.ifc xd_M xd_67 (t := 77) rfl (fun c => ?_) (fun c => ?_)
      · clear hw c
        refine j_W.one xd_M xd_77 (by decide) (pcJ := 78) (stJ := [.ref 3]) rfl ?_
        refine j_W.getK xd_M xd_78 (ci := 4) (j := 0) rfl K rfl rfl ?_
        refine j_W.one xd_M xd_81 (by decide) (pcJ := 84) (stJ := [.long 500135192942, .ref 1]) rfl ?_
        refine j_W.call xd_M xd_84 rfl (md := 3) (mj := 108) rfl (by decide) xw_M (As := [.ref 1, .long 500135192942]) (rest := []) (jk_spl3 (K.at rfl) rfl rfl rfl (Nat.le_of_ble_eq_true rfl) (Nat.le_of_ble_eq_true rfl)) (xw_ok (K.sub ⟨rfl, trivial⟩)) ?_
        rintro r hz ⟨rfl, ez⟩
        rw [ez]
        clear ez
        show j_W jP _ 34 87 [(3, .int (nI k)), (0, .ref 3), (1, .int (nI e)), (2, .ref 343)] [.int (if z.2.1 = 1 ∧ z.2.2.2.1 = 500135192942 then 1 else 0)] h _
        rcases Decidable.em (z.2.1 = 1 ∧ z.2.2.2.1 = 500135192942) with hw | hw
        · rw [if_pos hw, if_pos hw]
          refine j_W.ifc xd_M xd_87 (t := 97) rfl (fun c => ?_) (fun c => ?_)
          · cases c
          · clear c
            refine j_W.one xd_M xd_90 (by decide) (pcJ := 91) (stJ := [.ref 3]) rfl ?_
            have hw9 := trX_wf (l := l) (ns := s.1) (nt := t.1) (pa := pa) (z := z) (sn := s.2.1) (tn := t.2.1) (si := t.2.2.1) (fr := t.2.2.2.1) (to := t.2.2.2.2.1) (st := t.2.2.2.2.2.1) (sl := t.2.2.2.2.2.2.1) (we := t.2.2.2.2.2.2.2) ⟨Nat.le_refl _, hze⟩ ht.1 ht.2.1 ht.2.2.1 ht.2.2.2.1 ht.2.2.2.2.1 ht.2.2.2.2.2.1 ht.2.2.2.2.2.2.1 ht.2.2.2.2.2.2.2
            generalize hR : (trX l e s.1 t.1 s.2.1 pa z t.2.1 t.2.2.1 t.2.2.2.1 t.2.2.2.2.1 t.2.2.2.2.2.1 t.2.2.2.2.2.2.1 t.2.2.2.2.2.2.2) = R at hw9 ⊢
            refine j_W.call xd_M xd_91 rfl (md := 3) (mj := 37) rfl (by decide) xv_M (As := [.ref 3]) (rest := []) (jk_spl3 (K.at rfl) rfl rfl rfl (Nat.le_of_ble_eq_true rfl) (Nat.le_of_ble_eq_true rfl)) ((hR ▸ xv_okB hl he hze ht.1 hs.2.1 hs.1 ht.2.1 ht.2.2.1 ht.2.2.2.1 ht.2.2.2.2.1 ht.2.2.2.2.2.1 ht.2.2.2.2.2.2.1 ht.2.2.2.2.2.2.2 (K.sub ⟨rfl, rfl, rfl, rfl, rfl, rfl, rfl, rfl, rfl, rfl, rfl, rfl, trivial⟩))) ?_
            rintro r h9 ⟨rfl, K9⟩
            have K : KN h9 [(1, .inl (8, [.ref 2, .int ln, .int (nI e), .int (nI R.2.2.1.1), .int R.2.2.1.2.1, .int R.2.2.1.2.2.1, .long R.2.2.1.2.2.2.1, .int R.2.2.1.2.2.2.2])), (2, .inr (.inl (1, l))), (3, .inl (4, [.ref 1, .ref 343, .int R.2.1.1, .int R.2.1.2])), (343, .inl (2, [.int (nI s.1), .ref 344, .ref 345, .ref 346, .ref 347, .int (nI R.2.2.2.1), .ref 348, .ref 349, .ref 350, .ref 351, .ref 352, .ref 353, .ref 354, .int ce, .ref 355, .ref 356, .ref 357, .ref 358])), (344, .inr (.inr (.inl s.2.1))), (345, .inr (.inl (0, s.2.2.1))), (346, .inr (.inl (0, s.2.2.2.1))), (347, .inr (.inl (0, s.2.2.2.2))), (348, .inr (.inr (.inl R.2.2.2.2.1))), (349, .inr (.inl (0, R.2.2.2.2.2.1))), (350, .inr (.inl (0, R.2.2.2.2.2.2.1))), (351, .inr (.inl (0, R.2.2.2.2.2.2.2.1))), (352, .inr (.inl (0, R.2.2.2.2.2.2.2.2.1))), (353, .inr (.inl (0, R.2.2.2.2.2.2.2.2.2.1))), (354, .inr (.inl (0, R.2.2.2.2.2.2.2.2.2.2)))] h0 := K.go K9 rfl rfl rfl
            clear K9
            show j_W jP _ 34 94 [(3, .int (nI k)), (0, .ref 3), (1, .int (nI e)), (2, .ref 343)] [.int (bif R.1 then 1 else 0)] h9 _
            clear hR
            cases hb : R.1 with
            | true =>
              unfold rdT
              rw [hb]
              show j_W jP _ 34 94 [(3, .int (nI k)), (0, .ref 3), (1, .int (nI e)), (2, .ref 343)] [.int 1] h9 _
              refine j_W.gto xd_M xd_94 (t := 101) rfl ?_
              refine j_W.one xd_M xd_101 (by decide) (pcJ := 103) (lv' := [(4, .int 1), (3, .int (nI k)), (0, .ref 3), (1, .int (nI e)), (2, .ref 343)]) (stJ := []) rfl ?_
              refine j_W.one xd_M xd_103 (by decide) (pcJ := 105) (stJ := [.int 1]) rfl ?_
              refine j_W.ifc xd_M xd_105 (t := 111) rfl (fun c => ?_) (fun c => ?_)
              · clear c
                rw [hw9.2 hb] at K
                have K : KN h9 [(1, .inl (8, [.ref 2, .int ln, .int (nI e), .int (nI R.2.2.1.1), .int R.2.2.1.2.1, .int R.2.2.1.2.2.1, .long R.2.2.1.2.2.2.1, .int R.2.2.1.2.2.2.2])), (2, .inr (.inl (1, l))), (3, .inl (4, [.ref 1, .ref 343, .int 0, .int pa])), (343, .inl (2, [.int (nI s.1), .ref 344, .ref 345, .ref 346, .ref 347, .int (nI R.2.2.2.1), .ref 348, .ref 349, .ref 350, .ref 351, .ref 352, .ref 353, .ref 354, .int ce, .ref 355, .ref 356, .ref 357, .ref 358])), (344, .inr (.inr (.inl s.2.1))), (345, .inr (.inl (0, s.2.2.1))), (346, .inr (.inl (0, s.2.2.2.1))), (347, .inr (.inl (0, s.2.2.2.2))), (348, .inr (.inr (.inl R.2.2.2.2.1))), (349, .inr (.inl (0, R.2.2.2.2.2.1))), (350, .inr (.inl (0, R.2.2.2.2.2.2.1))), (351, .inr (.inl (0, R.2.2.2.2.2.2.2.1))), (352, .inr (.inl (0, R.2.2.2.2.2.2.2.2.1))), (353, .inr (.inl (0, R.2.2.2.2.2.2.2.2.2.1))), (354, .inr (.inl (0, R.2.2.2.2.2.2.2.2.2.2)))] h0 := K
                refine j_W.one xd_M xd_111 (by decide) (pcJ := 114) (lv' := [(3, .int ((nI k) + 1)), (4, .int 1), (0, .ref 3), (1, .int (nI e)), (2, .ref 343)]) (stJ := []) rfl ?_
                refine j_W.gto xd_M xd_114 (t := 32) rfl ?_
                rw [cond_true]
                have t9 := hg _ R.2.2.1 s R.2.2.2 hw9.1.1.1 hw9.1.1.2 hs hw9.1.2 K
                rw [nI_succ] at t9
                exact t9
              · cases c
            | false =>
              unfold rdT
              rw [hb]
              show j_W jP _ 34 94 [(3, .int (nI k)), (0, .ref 3), (1, .int (nI e)), (2, .ref 343)] [.int 0] h9 _
              refine j_W.gto xd_M xd_94 (t := 101) rfl ?_
              refine j_W.one xd_M xd_101 (by decide) (pcJ := 103) (lv' := [(4, .int 0), (3, .int (nI k)), (0, .ref 3), (1, .int (nI e)), (2, .ref 343)]) (stJ := []) rfl ?_
              refine j_W.one xd_M xd_103 (by decide) (pcJ := 105) (stJ := [.int 0]) rfl ?_
              refine j_W.ifc xd_M xd_105 (t := 111) rfl (fun c => ?_) (fun c => ?_)
              · cases c
              · clear c
                refine j_W.gto xd_M xd_108 (t := 117) rfl ?_
                rw [cond_false]
                exact xd_xB (R := (R.2.1, R.2.2.1, s, R.2.2.2)) (fun _ _ => rfl) K
        · rw [if_neg hw, if_neg hw]
          refine j_W.ifc xd_M xd_87 (t := 97) rfl (fun c => ?_) (fun c => ?_)
          · clear hw c
            refine j_W.one xd_M xd_97 (by decide) (pcJ := 98) (stJ := [.ref 3]) rfl ?_
            refine j_W.call xd_M xd_98 rfl (md := 3) (mj := 45) rfl (by decide) xh_M (As := [.ref 3]) (rest := []) (jk_spl3 (K.at rfl) rfl rfl rfl (Nat.le_of_ble_eq_true rfl) (Nat.le_of_ble_eq_true rfl)) (xh_ok (K.sub ⟨rfl, rfl, trivial⟩)) ?_
            rintro r h9 ⟨rfl, K9⟩
            have K : KN h9 [(1, .inl (8, [.ref 2, .int ln, .int (nI e), .int (nI z.1), .int z.2.1, .int z.2.2.1, .long z.2.2.2.1, .int z.2.2.2.2])), (2, .inr (.inl (1, l))), (3, .inl (4, [.ref 1, .ref 343, .int (if z.2.1 = 4 then 1 else 2), .int z.2.2.1])), (343, .inl (2, [.int (nI s.1), .ref 344, .ref 345, .ref 346, .ref 347, .int (nI t.1), .ref 348, .ref 349, .ref 350, .ref 351, .ref 352, .ref 353, .ref 354, .int ce, .ref 355, .ref 356, .ref 357, .ref 358])), (344, .inr (.inr (.inl s.2.1))), (345, .inr (.inl (0, s.2.2.1))), (346, .inr (.inl (0, s.2.2.2.1))), (347, .inr (.inl (0, s.2.2.2.2))), (348, .inr (.inr (.inl t.2.1))), (349, .inr (.inl (0, t.2.2.1))), (350, .inr (.inl (0, t.2.2.2.1))), (351, .inr (.inl (0, t.2.2.2.2.1))), (352, .inr (.inl (0, t.2.2.2.2.2.1))), (353, .inr (.inl (0, t.2.2.2.2.2.2.1))), (354, .inr (.inl (0, t.2.2.2.2.2.2.2)))] h0 := K.go K9 rfl rfl rfl
            clear K9
            show j_W jP _ 34 101 [(3, .int (nI k)), (0, .ref 3), (1, .int (nI e)), (2, .ref 343)] [.int 0] h9 _
            refine j_W.one xd_M xd_101 (by decide) (pcJ := 103) (lv' := [(4, .int 0), (3, .int (nI k)), (0, .ref 3), (1, .int (nI e)), (2, .ref 343)]) (stJ := []) rfl ?_
            refine j_W.one xd_M xd_103 (by decide) (pcJ := 105) (stJ := [.int 0]) rfl ?_
            refine j_W.ifc xd_M xd_105 (t := 111) rfl (fun c => ?_) (fun c => ?_)
            · cases c
            · clear c
              refine j_W.gto xd_M xd_108 (t := 117) rfl ?_
              exact xd_xB (R := (((if z.2.1 = 4 then 1 else 2), z.2.2.1), z, s, t)) (fun _ _ => rfl) K
          · cases c
      · cases c
  · have c : z.2.1 = 0 := by simpa [j_cond] using c
    rw [if_pos c]
    refine j_W.gto xd_M xd_54 (t := 117) rfl ?_
    exact xd_xB (R := ((0, pa), z, s, t)) (fun _ _ => rfl) K
theorem xd_t1B {ln ce : Int32} {l : List Int32} {e : Nat} {h0 : J_H} {d : Nat} {pa : Int32} {k : Nat} {h : J_H} {z : rK} {s : rSP} {t : rTP} {g : rK → rSP → rTP → rY} (hl : l.length = 700) (he : e ≤ 700) (hze : z.1 ≤ e) (hs : wS s) (ht : w9T t) (hg : ∀ (h : J_H) (z' : rK) (s' : rSP) (t' : rTP), z.1 ≤ z'.1 → z'.1 ≤ e → wS s' → w9T t' → KN h [(1, .inl (8, [.ref 2, .int ln, .int (nI e), .int (nI z'.1), .int z'.2.1, .int z'.2.2.1, .long z'.2.2.2.1, .int z'.2.2.2.2])), (2, .inr (.inl (1, l))), (3, .inl (4, [.ref 1, .ref 343, .int 0, .int pa])), (343, .inl (2, [.int (nI s'.1), .ref 344, .ref 345, .ref 346, .ref 347, .int (nI t'.1), .ref 348, .ref 349, .ref 350, .ref 351, .ref 352, .ref 353, .ref 354, .int ce, .ref 355, .ref 356, .ref 357, .ref 358])), (344, .inr (.inr (.inl s'.2.1))), (345, .inr (.inl (0, s'.2.2.1))), (346, .inr (.inl (0, s'.2.2.2.1))), (347, .inr (.inl (0, s'.2.2.2.2))), (348, .inr (.inr (.inl t'.2.1))), (349, .inr (.inl (0, t'.2.2.1))), (350, .inr (.inl (0, t'.2.2.2.1))), (351, .inr (.inl (0, t'.2.2.2.2.1))), (352, .inr (.inl (0, t'.2.2.2.2.2.1))), (353, .inr (.inl (0, t'.2.2.2.2.2.2.1))), (354, .inr (.inl (0, t'.2.2.2.2.2.2.2)))] h0 → j_W jP (d + 1 + 1 + 1 + 1 + 1) 34 32 [(3, .int (nI (k + 1))), (4, .int 1), (0, .ref 3), (1, .int (nI e)), (2, .ref 343)] [] h (PDB ln ce e l h0 (g z' s' t'))) (K : KN h [(1, .inl (8, [.ref 2, .int ln, .int (nI e), .int (nI z.1), .int z.2.1, .int z.2.2.1, .long z.2.2.2.1, .int z.2.2.2.2])), (2, .inr (.inl (1, l))), (3, .inl (4, [.ref 1, .ref 343, .int 0, .int pa])), (343, .inl (2, [.int (nI s.1), .ref 344, .ref 345, .ref 346, .ref 347, .int (nI t.1), .ref 348, .ref 349, .ref 350, .ref 351, .ref 352, .ref 353, .ref 354, .int ce, .ref 355, .ref 356, .ref 357, .ref 358])), (344, .inr (.inr (.inl s.2.1))), (345, .inr (.inl (0, s.2.2.1))), (346, .inr (.inl (0, s.2.2.2.1))), (347, .inr (.inl (0, s.2.2.2.2))), (348, .inr (.inr (.inl t.2.1))), (349, .inr (.inl (0, t.2.2.1))), (350, .inr (.inl (0, t.2.2.2.1))), (351, .inr (.inl (0, t.2.2.2.2.1))), (352, .inr (.inl (0, t.2.2.2.2.2.1))), (353, .inr (.inl (0, t.2.2.2.2.2.2.1))), (354, .inr (.inl (0, t.2.2.2.2.2.2.2)))] h0) : j_W jP (d + 1 + 1 + 1 + 1 + 1) 34 44 [(3, .int (nI k)), (4, .int 1), (0, .ref 3), (1, .int (nI e)), (2, .ref 343)] [] h (PDB ln ce e l h0 (rdB l e pa g z s t)) := by
  unfold rdB
  refine j_W.one xd_M xd_44 (by decide) (pcJ := 45) (stJ := [.ref 3]) rfl ?_
  refine j_W.getK xd_M xd_45 (ci := 4) (j := 0) rfl K rfl rfl ?_
  refine j_W.getK xd_M xd_48 (ci := 8) (j := 4) rfl K rfl rfl ?_
  refine j_W.ifc xd_M xd_51 (t := 57) rfl (fun c => ?_) (fun c => ?_)
  · have c : ¬ z.2.1 = 0 := by simpa [j_cond] using c
    rw [if_neg c]
    clear c
    refine j_W.one xd_M xd_57 (by decide) (pcJ := 58) (stJ := [.ref 3]) rfl ?_
    refine j_W.getK xd_M xd_58 (ci := 4) (j := 0) rfl K rfl rfl ?_
    refine j_W.one xd_M xd_61 (by decide) (pcJ := 64) (stJ := [.long 32497584235442030, .ref 1]) rfl ?_
    refine j_W.call xd_M xd_64 rfl (md := 3) (mj := 108) rfl (by decide) xw_M (As := [.ref 1, .long 32497584235442030]) (rest := []) (jk_spl3 (K.at rfl) rfl rfl rfl (Nat.le_of_ble_eq_true rfl) (Nat.le_of_ble_eq_true rfl)) (xw_ok (K.sub ⟨rfl, trivial⟩)) ?_
    rintro r hz ⟨rfl, ez⟩
    rw [ez]
    clear ez
    show j_W jP _ 34 67 [(3, .int (nI k)), (4, .int 1), (0, .ref 3), (1, .int (nI e)), (2, .ref 343)] [.int (if z.2.1 = 1 ∧ z.2.2.2.1 = 32497584235442030 then 1 else 0)] h _
    rcases Decidable.em (z.2.1 = 1 ∧ z.2.2.2.1 = 32497584235442030) with hw | hw
    · rw [if_pos hw, if_pos hw]
      refine j_W.ifc xd_M xd_67 (t := 77) rfl (fun c => ?_) (fun c => ?_)
      · cases c
      · clear c
        refine j_W.one xd_M xd_70 (by decide) (pcJ := 71) (stJ := [.ref 3]) rfl ?_
        have hw9 := stX_wf (l := l) (nt := t.1) (tn := t.2.1) (fa := 0) (pa := pa) (z := z) (ns := s.1) (sn := s.2.1) (ru := s.2.2.1) (tr := s.2.2.2.1) (le := s.2.2.2.2) ⟨Nat.le_refl _, hze⟩ hs.1 hs.2.1 hs.2.2.1 hs.2.2.2.1 hs.2.2.2.2
        generalize hR : (stX l e s.1 t.1 0 pa z s.2.1 t.2.1 s.2.2.1 s.2.2.2.1 s.2.2.2.2) = R at hw9 ⊢
        refine j_W.call xd_M xd_71 rfl (md := 3) (mj := 35) rfl (by decide) xp_M (As := [.ref 3]) (rest := []) (jk_spl3 (K.at rfl) rfl rfl rfl (Nat.le_of_ble_eq_true rfl) (Nat.le_of_ble_eq_true rfl)) ((hR ▸ xp_okB hl he hze hs.1 ht.1 hs.2.1 hs.2.2.1 hs.2.2.2.1 hs.2.2.2.2 ht.2.1 (K.sub ⟨rfl, rfl, rfl, rfl, rfl, rfl, rfl, rfl, rfl, trivial⟩))) ?_
        rintro r h9 ⟨rfl, K9⟩
        have K : KN h9 [(1, .inl (8, [.ref 2, .int ln, .int (nI e), .int (nI R.2.2.1.1), .int R.2.2.1.2.1, .int R.2.2.1.2.2.1, .long R.2.2.1.2.2.2.1, .int R.2.2.1.2.2.2.2])), (2, .inr (.inl (1, l))), (3, .inl (4, [.ref 1, .ref 343, .int R.2.1.1, .int R.2.1.2])), (343, .inl (2, [.int (nI R.2.2.2.1), .ref 344, .ref 345, .ref 346, .ref 347, .int (nI t.1), .ref 348, .ref 349, .ref 350, .ref 351, .ref 352, .ref 353, .ref 354, .int ce, .ref 355, .ref 356, .ref 357, .ref 358])), (344, .inr (.inr (.inl R.2.2.2.2.1))), (345, .inr (.inl (0, R.2.2.2.2.2.1))), (346, .inr (.inl (0, R.2.2.2.2.2.2.1))), (347, .inr (.inl (0, R.2.2.2.2.2.2.2))), (348, .inr (.inr (.inl t.2.1))), (349, .inr (.inl (0, t.2.2.1))), (350, .inr (.inl (0, t.2.2.2.1))), (351, .inr (.inl (0, t.2.2.2.2.1))), (352, .inr (.inl (0, t.2.2.2.2.2.1))), (353, .inr (.inl (0, t.2.2.2.2.2.2.1))), (354, .inr (.inl (0, t.2.2.2.2.2.2.2)))] h0 := K.go K9 rfl rfl rfl
        clear K9
        show j_W jP _ 34 74 [(3, .int (nI k)), (4, .int 1), (0, .ref 3), (1, .int (nI e)), (2, .ref 343)] [.int (bif R.1 then 1 else 0)] h9 _
        clear hR
        cases hb : R.1 with
        | true =>
          unfold rdS
          rw [hb]
          show j_W jP _ 34 74 [(3, .int (nI k)), (4, .int 1), (0, .ref 3), (1, .int (nI e)), (2, .ref 343)] [.int 1] h9 _
          refine j_W.gto xd_M xd_74 (t := 101) rfl ?_
          refine j_W.one xd_M xd_101 (by decide) (pcJ := 103) (lv' := [(4, .int 1), (3, .int (nI k)), (0, .ref 3), (1, .int (nI e)), (2, .ref 343)]) (stJ := []) rfl ?_
          refine j_W.one xd_M xd_103 (by decide) (pcJ := 105) (stJ := [.int 1]) rfl ?_
          refine j_W.ifc xd_M xd_105 (t := 111) rfl (fun c => ?_) (fun c => ?_)
          · clear c
            rw [hw9.2 hb] at K
            have K : KN h9 [(1, .inl (8, [.ref 2, .int ln, .int (nI e), .int (nI R.2.2.1.1), .int R.2.2.1.2.1, .int R.2.2.1.2.2.1, .long R.2.2.1.2.2.2.1, .int R.2.2.1.2.2.2.2])), (2, .inr (.inl (1, l))), (3, .inl (4, [.ref 1, .ref 343, .int 0, .int pa])), (343, .inl (2, [.int (nI R.2.2.2.1), .ref 344, .ref 345, .ref 346, .ref 347, .int (nI t.1), .ref 348, .ref 349, .ref 350, .ref 351, .ref 352, .ref 353, .ref 354, .int ce, .ref 355, .ref 356, .ref 357, .ref 358])), (344, .inr (.inr (.inl R.2.2.2.2.1))), (345, .inr (.inl (0, R.2.2.2.2.2.1))), (346, .inr (.inl (0, R.2.2.2.2.2.2.1))), (347, .inr (.inl (0, R.2.2.2.2.2.2.2))), (348, .inr (.inr (.inl t.2.1))), (349, .inr (.inl (0, t.2.2.1))), (350, .inr (.inl (0, t.2.2.2.1))), (351, .inr (.inl (0, t.2.2.2.2.1))), (352, .inr (.inl (0, t.2.2.2.2.2.1))), (353, .inr (.inl (0, t.2.2.2.2.2.2.1))), (354, .inr (.inl (0, t.2.2.2.2.2.2.2)))] h0 := K
            refine j_W.one xd_M xd_111 (by decide) (pcJ := 114) (lv' := [(3, .int ((nI k) + 1)), (4, .int 1), (0, .ref 3), (1, .int (nI e)), (2, .ref 343)]) (stJ := []) rfl ?_
            refine j_W.gto xd_M xd_114 (t := 32) rfl ?_
            rw [cond_true]
            have t9 := hg _ R.2.2.1 R.2.2.2 t hw9.1.1.1 hw9.1.1.2 hw9.1.2 ht K
            rw [nI_succ] at t9
            exact t9
          · cases c
        | false =>
          unfold rdS
          rw [hb]
          show j_W jP _ 34 74 [(3, .int (nI k)), (4, .int 1), (0, .ref 3), (1, .int (nI e)), (2, .ref 343)] [.int 0] h9 _
          refine j_W.gto xd_M xd_74 (t := 101) rfl ?_
          refine j_W.one xd_M xd_101 (by decide) (pcJ := 103) (lv' := [(4, .int 0), (3, .int (nI k)), (0, .ref 3), (1, .int (nI e)), (2, .ref 343)]) (stJ := []) rfl ?_
          refine j_W.one xd_M xd_103 (by decide) (pcJ := 105) (stJ := [.int 0]) rfl ?_
          refine j_W.ifc xd_M xd_105 (t := 111) rfl (fun c => ?_) (fun c => ?_)
          · cases c
          · clear c
            refine j_W.gto xd_M xd_108 (t := 117) rfl ?_
            rw [cond_false]
            exact xd_xB (R := (R.2.1, R.2.2.1, R.2.2.2, t)) (fun _ _ => rfl) K
    · rw [if_neg hw, if_neg hw]
      refine j_W.ifc xd_M xd_67 (t := 77) rfl (fun c => ?_) (fun c => ?_)
      · clear hw c
        refine j_W.one xd_M xd_77 (by decide) (pcJ := 78) (stJ := [.ref 3]) rfl ?_
        refine j_W.getK xd_M xd_78 (ci := 4) (j := 0) rfl K rfl rfl ?_
        refine j_W.one xd_M xd_81 (by decide) (pcJ := 84) (stJ := [.long 500135192942, .ref 1]) rfl ?_
        refine j_W.call xd_M xd_84 rfl (md := 3) (mj := 108) rfl (by decide) xw_M (As := [.ref 1, .long 500135192942]) (rest := []) (jk_spl3 (K.at rfl) rfl rfl rfl (Nat.le_of_ble_eq_true rfl) (Nat.le_of_ble_eq_true rfl)) (xw_ok (K.sub ⟨rfl, trivial⟩)) ?_
        rintro r hz ⟨rfl, ez⟩
        rw [ez]
        clear ez
        show j_W jP _ 34 87 [(3, .int (nI k)), (4, .int 1), (0, .ref 3), (1, .int (nI e)), (2, .ref 343)] [.int (if z.2.1 = 1 ∧ z.2.2.2.1 = 500135192942 then 1 else 0)] h _
        rcases Decidable.em (z.2.1 = 1 ∧ z.2.2.2.1 = 500135192942) with hw | hw
        · rw [if_pos hw, if_pos hw]
          refine j_W.ifc xd_M xd_87 (t := 97) rfl (fun c => ?_) (fun c => ?_)
          · cases c
          · clear c
            refine j_W.one xd_M xd_90 (by decide) (pcJ := 91) (stJ := [.ref 3]) rfl ?_
            have hw9 := trX_wf (l := l) (ns := s.1) (nt := t.1) (pa := pa) (z := z) (sn := s.2.1) (tn := t.2.1) (si := t.2.2.1) (fr := t.2.2.2.1) (to := t.2.2.2.2.1) (st := t.2.2.2.2.2.1) (sl := t.2.2.2.2.2.2.1) (we := t.2.2.2.2.2.2.2) ⟨Nat.le_refl _, hze⟩ ht.1 ht.2.1 ht.2.2.1 ht.2.2.2.1 ht.2.2.2.2.1 ht.2.2.2.2.2.1 ht.2.2.2.2.2.2.1 ht.2.2.2.2.2.2.2
            generalize hR : (trX l e s.1 t.1 s.2.1 pa z t.2.1 t.2.2.1 t.2.2.2.1 t.2.2.2.2.1 t.2.2.2.2.2.1 t.2.2.2.2.2.2.1 t.2.2.2.2.2.2.2) = R at hw9 ⊢
            refine j_W.call xd_M xd_91 rfl (md := 3) (mj := 37) rfl (by decide) xv_M (As := [.ref 3]) (rest := []) (jk_spl3 (K.at rfl) rfl rfl rfl (Nat.le_of_ble_eq_true rfl) (Nat.le_of_ble_eq_true rfl)) ((hR ▸ xv_okB hl he hze ht.1 hs.2.1 hs.1 ht.2.1 ht.2.2.1 ht.2.2.2.1 ht.2.2.2.2.1 ht.2.2.2.2.2.1 ht.2.2.2.2.2.2.1 ht.2.2.2.2.2.2.2 (K.sub ⟨rfl, rfl, rfl, rfl, rfl, rfl, rfl, rfl, rfl, rfl, rfl, rfl, trivial⟩))) ?_
            rintro r h9 ⟨rfl, K9⟩
            have K : KN h9 [(1, .inl (8, [.ref 2, .int ln, .int (nI e), .int (nI R.2.2.1.1), .int R.2.2.1.2.1, .int R.2.2.1.2.2.1, .long R.2.2.1.2.2.2.1, .int R.2.2.1.2.2.2.2])), (2, .inr (.inl (1, l))), (3, .inl (4, [.ref 1, .ref 343, .int R.2.1.1, .int R.2.1.2])), (343, .inl (2, [.int (nI s.1), .ref 344, .ref 345, .ref 346, .ref 347, .int (nI R.2.2.2.1), .ref 348, .ref 349, .ref 350, .ref 351, .ref 352, .ref 353, .ref 354, .int ce, .ref 355, .ref 356, .ref 357, .ref 358])), (344, .inr (.inr (.inl s.2.1))), (345, .inr (.inl (0, s.2.2.1))), (346, .inr (.inl (0, s.2.2.2.1))), (347, .inr (.inl (0, s.2.2.2.2))), (348, .inr (.inr (.inl R.2.2.2.2.1))), (349, .inr (.inl (0, R.2.2.2.2.2.1))), (350, .inr (.inl (0, R.2.2.2.2.2.2.1))), (351, .inr (.inl (0, R.2.2.2.2.2.2.2.1))), (352, .inr (.inl (0, R.2.2.2.2.2.2.2.2.1))), (353, .inr (.inl (0, R.2.2.2.2.2.2.2.2.2.1))), (354, .inr (.inl (0, R.2.2.2.2.2.2.2.2.2.2)))] h0 := K.go K9 rfl rfl rfl
            clear K9
            show j_W jP _ 34 94 [(3, .int (nI k)), (4, .int 1), (0, .ref 3), (1, .int (nI e)), (2, .ref 343)] [.int (bif R.1 then 1 else 0)] h9 _
            clear hR
            cases hb : R.1 with
            | true =>
              unfold rdT
              rw [hb]
              show j_W jP _ 34 94 [(3, .int (nI k)), (4, .int 1), (0, .ref 3), (1, .int (nI e)), (2, .ref 343)] [.int 1] h9 _
              refine j_W.gto xd_M xd_94 (t := 101) rfl ?_
              refine j_W.one xd_M xd_101 (by decide) (pcJ := 103) (lv' := [(4, .int 1), (3, .int (nI k)), (0, .ref 3), (1, .int (nI e)), (2, .ref 343)]) (stJ := []) rfl ?_
              refine j_W.one xd_M xd_103 (by decide) (pcJ := 105) (stJ := [.int 1]) rfl ?_
              refine j_W.ifc xd_M xd_105 (t := 111) rfl (fun c => ?_) (fun c => ?_)
              · clear c
                rw [hw9.2 hb] at K
                have K : KN h9 [(1, .inl (8, [.ref 2, .int ln, .int (nI e), .int (nI R.2.2.1.1), .int R.2.2.1.2.1, .int R.2.2.1.2.2.1, .long R.2.2.1.2.2.2.1, .int R.2.2.1.2.2.2.2])), (2, .inr (.inl (1, l))), (3, .inl (4, [.ref 1, .ref 343, .int 0, .int pa])), (343, .inl (2, [.int (nI s.1), .ref 344, .ref 345, .ref 346, .ref 347, .int (nI R.2.2.2.1), .ref 348, .ref 349, .ref 350, .ref 351, .ref 352, .ref 353, .ref 354, .int ce, .ref 355, .ref 356, .ref 357, .ref 358])), (344, .inr (.inr (.inl s.2.1))), (345, .inr (.inl (0, s.2.2.1))), (346, .inr (.inl (0, s.2.2.2.1))), (347, .inr (.inl (0, s.2.2.2.2))), (348, .inr (.inr (.inl R.2.2.2.2.1))), (349, .inr (.inl (0, R.2.2.2.2.2.1))), (350, .inr (.inl (0, R.2.2.2.2.2.2.1))), (351, .inr (.inl (0, R.2.2.2.2.2.2.2.1))), (352, .inr (.inl (0, R.2.2.2.2.2.2.2.2.1))), (353, .inr (.inl (0, R.2.2.2.2.2.2.2.2.2.1))), (354, .inr (.inl (0, R.2.2.2.2.2.2.2.2.2.2)))] h0 := K
                refine j_W.one xd_M xd_111 (by decide) (pcJ := 114) (lv' := [(3, .int ((nI k) + 1)), (4, .int 1), (0, .ref 3), (1, .int (nI e)), (2, .ref 343)]) (stJ := []) rfl ?_
                refine j_W.gto xd_M xd_114 (t := 32) rfl ?_
                rw [cond_true]
                have t9 := hg _ R.2.2.1 s R.2.2.2 hw9.1.1.1 hw9.1.1.2 hs hw9.1.2 K
                rw [nI_succ] at t9
                exact t9
              · cases c
            | false =>
              unfold rdT
              rw [hb]
              show j_W jP _ 34 94 [(3, .int (nI k)), (4, .int 1), (0, .ref 3), (1, .int (nI e)), (2, .ref 343)] [.int 0] h9 _
              refine j_W.gto xd_M xd_94 (t := 101) rfl ?_
              refine j_W.one xd_M xd_101 (by decide) (pcJ := 103) (lv' := [(4, .int 0), (3, .int (nI k)), (0, .ref 3), (1, .int (nI e)), (2, .ref 343)]) (stJ := []) rfl ?_
              refine j_W.one xd_M xd_103 (by decide) (pcJ := 105) (stJ := [.int 0]) rfl ?_
              refine j_W.ifc xd_M xd_105 (t := 111) rfl (fun c => ?_) (fun c => ?_)
              · cases c
              · clear c
                refine j_W.gto xd_M xd_108 (t := 117) rfl ?_
                rw [cond_false]
                exact xd_xB (R := (R.2.1, R.2.2.1, s, R.2.2.2)) (fun _ _ => rfl) K
        · rw [if_neg hw, if_neg hw]
          refine j_W.ifc xd_M xd_87 (t := 97) rfl (fun c => ?_) (fun c => ?_)
          · clear hw c
            refine j_W.one xd_M xd_97 (by decide) (pcJ := 98) (stJ := [.ref 3]) rfl ?_
            refine j_W.call xd_M xd_98 rfl (md := 3) (mj := 45) rfl (by decide) xh_M (As := [.ref 3]) (rest := []) (jk_spl3 (K.at rfl) rfl rfl rfl (Nat.le_of_ble_eq_true rfl) (Nat.le_of_ble_eq_true rfl)) (xh_ok (K.sub ⟨rfl, rfl, trivial⟩)) ?_
            rintro r h9 ⟨rfl, K9⟩
            have K : KN h9 [(1, .inl (8, [.ref 2, .int ln, .int (nI e), .int (nI z.1), .int z.2.1, .int z.2.2.1, .long z.2.2.2.1, .int z.2.2.2.2])), (2, .inr (.inl (1, l))), (3, .inl (4, [.ref 1, .ref 343, .int (if z.2.1 = 4 then 1 else 2), .int z.2.2.1])), (343, .inl (2, [.int (nI s.1), .ref 344, .ref 345, .ref 346, .ref 347, .int (nI t.1), .ref 348, .ref 349, .ref 350, .ref 351, .ref 352, .ref 353, .ref 354, .int ce, .ref 355, .ref 356, .ref 357, .ref 358])), (344, .inr (.inr (.inl s.2.1))), (345, .inr (.inl (0, s.2.2.1))), (346, .inr (.inl (0, s.2.2.2.1))), (347, .inr (.inl (0, s.2.2.2.2))), (348, .inr (.inr (.inl t.2.1))), (349, .inr (.inl (0, t.2.2.1))), (350, .inr (.inl (0, t.2.2.2.1))), (351, .inr (.inl (0, t.2.2.2.2.1))), (352, .inr (.inl (0, t.2.2.2.2.2.1))), (353, .inr (.inl (0, t.2.2.2.2.2.2.1))), (354, .inr (.inl (0, t.2.2.2.2.2.2.2)))] h0 := K.go K9 rfl rfl rfl
            clear K9
            show j_W jP _ 34 101 [(3, .int (nI k)), (4, .int 1), (0, .ref 3), (1, .int (nI e)), (2, .ref 343)] [.int 0] h9 _
            refine j_W.one xd_M xd_101 (by decide) (pcJ := 103) (lv' := [(4, .int 0), (3, .int (nI k)), (0, .ref 3), (1, .int (nI e)), (2, .ref 343)]) (stJ := []) rfl ?_
            refine j_W.one xd_M xd_103 (by decide) (pcJ := 105) (stJ := [.int 0]) rfl ?_
            refine j_W.ifc xd_M xd_105 (t := 111) rfl (fun c => ?_) (fun c => ?_)
            · cases c
            · clear c
              refine j_W.gto xd_M xd_108 (t := 117) rfl ?_
              exact xd_xB (R := (((if z.2.1 = 4 then 1 else 2), z.2.2.1), z, s, t)) (fun _ _ => rfl) K
          · cases c
      · cases c
  · have c : z.2.1 = 0 := by simpa [j_cond] using c
    rw [if_pos c]
    refine j_W.gto xd_M xd_54 (t := 117) rfl ?_
    exact xd_xB (R := ((0, pa), z, s, t)) (fun _ _ => rfl) K
theorem xd_lB {ln ce : Int32} {l : List Int32} {e : Nat} {h0 : J_H} {d : Nat} {pa : Int32} (hl : l.length = 700) (he : e ≤ 700) : ∀ (f k : Nat) (h : J_H) (z : rK) (s : rSP) (t : rTP), k + f = e + 1 → z.1 ≤ e → wS s → w9T t → KN h [(1, .inl (8, [.ref 2, .int ln, .int (nI e), .int (nI z.1), .int z.2.1, .int z.2.2.1, .long z.2.2.2.1, .int z.2.2.2.2])), (2, .inr (.inl (1, l))), (3, .inl (4, [.ref 1, .ref 343, .int 0, .int pa])), (343, .inl (2, [.int (nI s.1), .ref 344, .ref 345, .ref 346, .ref 347, .int (nI t.1), .ref 348, .ref 349, .ref 350, .ref 351, .ref 352, .ref 353, .ref 354, .int ce, .ref 355, .ref 356, .ref 357, .ref 358])), (344, .inr (.inr (.inl s.2.1))), (345, .inr (.inl (0, s.2.2.1))), (346, .inr (.inl (0, s.2.2.2.1))), (347, .inr (.inl (0, s.2.2.2.2))), (348, .inr (.inr (.inl t.2.1))), (349, .inr (.inl (0, t.2.2.1))), (350, .inr (.inl (0, t.2.2.2.1))), (351, .inr (.inl (0, t.2.2.2.2.1))), (352, .inr (.inl (0, t.2.2.2.2.2.1))), (353, .inr (.inl (0, t.2.2.2.2.2.2.1))), (354, .inr (.inl (0, t.2.2.2.2.2.2.2)))] h0 → j_W jP (d + 1 + 1 + 1 + 1 + 1) 34 32 [(3, .int (nI k)), (4, .int 1), (0, .ref 3), (1, .int (nI e)), (2, .ref 343)] [] h (PDB ln ce e l h0 (rdL l e pa f z s t)) := by
  intro f
  induction f with
  | zero =>
    intro k h z s t hf hze hs ht K
    refine j_W.one xd_M xd_32 (by decide) (pcJ := 33) (stJ := [.int (nI k)]) rfl ?_
    refine j_W.one xd_M xd_33 (by decide) (pcJ := 34) (stJ := [.int (nI e), .int (nI k)]) rfl ?_
    refine j_W.icmp xd_M xd_34 (t := 117) rfl (fun c => ?_) (fun c => ?_)
    · exact xd_xB (R := ((0, pa), z, s, t)) (fun _ _ => rfl) K
    · exfalso; rw [jk_gt] at c; have c := of_decide_eq_false c; rw [nI_toInt (by omega), nI_toInt (by omega)] at c; omega
  | succ f ih =>
    intro k h z s t hf hze hs ht K
    refine j_W.one xd_M xd_32 (by decide) (pcJ := 33) (stJ := [.int (nI k)]) rfl ?_
    refine j_W.one xd_M xd_33 (by decide) (pcJ := 34) (stJ := [.int (nI e), .int (nI k)]) rfl ?_
    refine j_W.icmp xd_M xd_34 (t := 117) rfl (fun c => ?_) (fun c => ?_)
    · exfalso; rw [jk_gt] at c; have c := of_decide_eq_true c; rw [nI_toInt (by omega), nI_toInt (by omega)] at c; omega
    · clear c
      refine j_W.one xd_M xd_37 (by decide) (pcJ := 38) (stJ := [.ref 3]) rfl ?_
      refine j_W.getK xd_M xd_38 (ci := 4) (j := 0) rfl K rfl rfl ?_
      refine j_W.call xd_M xd_41 rfl (md := 3) (mj := 107) rfl (by decide) sa_M (As := [.ref 1]) (rest := []) (jk_spl3 (K.at rfl) rfl rfl rfl (Nat.le_of_ble_eq_true rfl) (Nat.le_of_ble_eq_true rfl)) (sa_ok hl he hze (K.sub ⟨rfl, rfl, trivial⟩)) ?_
      rintro r h9 ⟨rfl, K9⟩
      have K : KN h9 [(1, .inl (8, [.ref 2, .int ln, .int (nI e), .int (nI (aT l e z).1), .int (aT l e z).2.1, .int (aT l e z).2.2.1, .long (aT l e z).2.2.2.1, .int (aT l e z).2.2.2.2])), (2, .inr (.inl (1, l))), (3, .inl (4, [.ref 1, .ref 343, .int 0, .int pa])), (343, .inl (2, [.int (nI s.1), .ref 344, .ref 345, .ref 346, .ref 347, .int (nI t.1), .ref 348, .ref 349, .ref 350, .ref 351, .ref 352, .ref 353, .ref 354, .int ce, .ref 355, .ref 356, .ref 357, .ref 358])), (344, .inr (.inr (.inl s.2.1))), (345, .inr (.inl (0, s.2.2.1))), (346, .inr (.inl (0, s.2.2.2.1))), (347, .inr (.inl (0, s.2.2.2.2))), (348, .inr (.inr (.inl t.2.1))), (349, .inr (.inl (0, t.2.2.1))), (350, .inr (.inl (0, t.2.2.2.1))), (351, .inr (.inl (0, t.2.2.2.2.1))), (352, .inr (.inl (0, t.2.2.2.2.2.1))), (353, .inr (.inl (0, t.2.2.2.2.2.2.1))), (354, .inr (.inl (0, t.2.2.2.2.2.2.2)))] h0 := K.go K9 rfl rfl rfl
      clear K9
      show j_W jP _ 34 44 [(3, .int (nI k)), (4, .int 1), (0, .ref 3), (1, .int (nI e)), (2, .ref 343)] [] h9 _
      exact xd_t1B hl he (tkN_le hze) hs ht (fun h z' s' t' h1 h2 h3 h4 K => ih (k + 1) h z' s' t' (by omega) h2 h3 h4 K) K
theorem xd_fB {ln ce : Int32} {l : List Int32} {e : Nat} {h0 : J_H} {d : Nat} {pa : Int32} {h : J_H} {z : rK} {s : rSP} {t : rTP} (hl : l.length = 700) (he : e ≤ 700) (hze : z.1 ≤ e) (hs : wS s) (ht : w9T t) (K : KN h [(1, .inl (8, [.ref 2, .int ln, .int (nI e), .int (nI z.1), .int z.2.1, .int z.2.2.1, .long z.2.2.2.1, .int z.2.2.2.2])), (2, .inr (.inl (1, l))), (3, .inl (4, [.ref 1, .ref 343, .int 0, .int pa])), (343, .inl (2, [.int (nI s.1), .ref 344, .ref 345, .ref 346, .ref 347, .int (nI t.1), .ref 348, .ref 349, .ref 350, .ref 351, .ref 352, .ref 353, .ref 354, .int ce, .ref 355, .ref 356, .ref 357, .ref 358])), (344, .inr (.inr (.inl s.2.1))), (345, .inr (.inl (0, s.2.2.1))), (346, .inr (.inl (0, s.2.2.2.1))), (347, .inr (.inl (0, s.2.2.2.2))), (348, .inr (.inr (.inl t.2.1))), (349, .inr (.inl (0, t.2.2.1))), (350, .inr (.inl (0, t.2.2.2.1))), (351, .inr (.inl (0, t.2.2.2.2.1))), (352, .inr (.inl (0, t.2.2.2.2.2.1))), (353, .inr (.inl (0, t.2.2.2.2.2.2.1))), (354, .inr (.inl (0, t.2.2.2.2.2.2.2)))] h0) : j_W jP (d + 1 + 1 + 1 + 1 + 1) 34 32 [(3, .int (nI 0)), (0, .ref 3), (1, .int (nI e)), (2, .ref 343)] [] h (PDB ln ce e l h0 (rdL l e pa (e + 1) z s t)) := by
  refine j_W.one xd_M xd_32 (by decide) (pcJ := 33) (stJ := [.int (nI 0)]) rfl ?_
  refine j_W.one xd_M xd_33 (by decide) (pcJ := 34) (stJ := [.int (nI e), .int (nI 0)]) rfl ?_
  refine j_W.icmp xd_M xd_34 (t := 117) rfl (fun c => ?_) (fun c => ?_)
  · exfalso; rw [jk_gt] at c; have c := of_decide_eq_true c; rw [nI_toInt (by omega), nI_toInt (by omega)] at c; omega
  · clear c
    refine j_W.one xd_M xd_37 (by decide) (pcJ := 38) (stJ := [.ref 3]) rfl ?_
    refine j_W.getK xd_M xd_38 (ci := 4) (j := 0) rfl K rfl rfl ?_
    refine j_W.call xd_M xd_41 rfl (md := 3) (mj := 107) rfl (by decide) sa_M (As := [.ref 1]) (rest := []) (jk_spl3 (K.at rfl) rfl rfl rfl (Nat.le_of_ble_eq_true rfl) (Nat.le_of_ble_eq_true rfl)) (sa_ok hl he hze (K.sub ⟨rfl, rfl, trivial⟩)) ?_
    rintro r h9 ⟨rfl, K9⟩
    have K : KN h9 [(1, .inl (8, [.ref 2, .int ln, .int (nI e), .int (nI (aT l e z).1), .int (aT l e z).2.1, .int (aT l e z).2.2.1, .long (aT l e z).2.2.2.1, .int (aT l e z).2.2.2.2])), (2, .inr (.inl (1, l))), (3, .inl (4, [.ref 1, .ref 343, .int 0, .int pa])), (343, .inl (2, [.int (nI s.1), .ref 344, .ref 345, .ref 346, .ref 347, .int (nI t.1), .ref 348, .ref 349, .ref 350, .ref 351, .ref 352, .ref 353, .ref 354, .int ce, .ref 355, .ref 356, .ref 357, .ref 358])), (344, .inr (.inr (.inl s.2.1))), (345, .inr (.inl (0, s.2.2.1))), (346, .inr (.inl (0, s.2.2.2.1))), (347, .inr (.inl (0, s.2.2.2.2))), (348, .inr (.inr (.inl t.2.1))), (349, .inr (.inl (0, t.2.2.1))), (350, .inr (.inl (0, t.2.2.2.1))), (351, .inr (.inl (0, t.2.2.2.2.1))), (352, .inr (.inl (0, t.2.2.2.2.2.1))), (353, .inr (.inl (0, t.2.2.2.2.2.2.1))), (354, .inr (.inl (0, t.2.2.2.2.2.2.2)))] h0 := K.go K9 rfl rfl rfl
    clear K9
    show j_W jP _ 34 44 [(3, .int (nI 0)), (0, .ref 3), (1, .int (nI e)), (2, .ref 343)] [] h9 _
    exact xd_t0B hl he (tkN_le hze) hs ht (fun h z' s' t' h1 h2 h3 h4 K => xd_lB hl he e 1 h z' s' t' (by omega) h2 h3 h4 K) K
theorem xd_okB {ln ce en nx kd pl nu fa pb sx tx : Int32} {wo : Int64} {vb : Value} {l : List Int32} {e : Nat} {h h0 : J_H} {d : Nat} {s : rSP} {t : rTP} (hl : l.length = 700) (he : e ≤ 700) (hle : (nI e).toInt ≤ ln.toInt) (hs : wS s) (ht : w9T t) (h1 : s.1 = 0) (h2 : t.1 = 0) (K : KN h [(1, .inl (8, [.ref 2, .int ln, .int en, .int nx, .int kd, .int pl, .long wo, .int nu])), (2, .inr (.inl (1, l))), (3, .inl (4, [.ref 1, vb, .int fa, .int pb])), (343, .inl (2, [.int sx, .ref 344, .ref 345, .ref 346, .ref 347, .int tx, .ref 348, .ref 349, .ref 350, .ref 351, .ref 352, .ref 353, .ref 354, .int ce, .ref 355, .ref 356, .ref 357, .ref 358])), (344, .inr (.inr (.inl s.2.1))), (345, .inr (.inl (0, s.2.2.1))), (346, .inr (.inl (0, s.2.2.2.1))), (347, .inr (.inl (0, s.2.2.2.2))), (348, .inr (.inr (.inl t.2.1))), (349, .inr (.inl (0, t.2.2.1))), (350, .inr (.inl (0, t.2.2.2.1))), (351, .inr (.inl (0, t.2.2.2.2.1))), (352, .inr (.inl (0, t.2.2.2.2.2.1))), (353, .inr (.inl (0, t.2.2.2.2.2.2.1))), (354, .inr (.inl (0, t.2.2.2.2.2.2.2)))] h0) : j_W jP (d + 1 + 1 + 1 + 1 + 1) 34 0 (lv_args 0 [.ref 3, .int (nI e), .ref 343]) [] h (PDB ln ce e l h0 (rdL l e (-1) (e + 1) (0, kd, pl, wo, nu) s t)) := by
  show j_W jP (d + 1 + 1 + 1 + 1 + 1) 34 0 [(0, .ref 3), (1, .int (nI e)), (2, .ref 343)] [] h _
  refine j_W.one xd_M xd_0 (by decide) (pcJ := 1) (stJ := [.ref 3]) rfl ?_
  refine j_W.one xd_M xd_1 (by decide) (pcJ := 2) (stJ := [.ref 343, .ref 3]) rfl ?_
  refine j_W.putK xd_M xd_2 (ci := 4) (j := 1) (k' := [(1, .inl (8, [.ref 2, .int ln, .int en, .int nx, .int kd, .int pl, .long wo, .int nu])), (2, .inr (.inl (1, l))), (3, .inl (4, [.ref 1, .ref 343, .int fa, .int pb])), (343, .inl (2, [.int sx, .ref 344, .ref 345, .ref 346, .ref 347, .int tx, .ref 348, .ref 349, .ref 350, .ref 351, .ref 352, .ref 353, .ref 354, .int ce, .ref 355, .ref 356, .ref 357, .ref 358])), (344, .inr (.inr (.inl s.2.1))), (345, .inr (.inl (0, s.2.2.1))), (346, .inr (.inl (0, s.2.2.2.1))), (347, .inr (.inl (0, s.2.2.2.2))), (348, .inr (.inr (.inl t.2.1))), (349, .inr (.inl (0, t.2.2.1))), (350, .inr (.inl (0, t.2.2.2.1))), (351, .inr (.inl (0, t.2.2.2.2.1))), (352, .inr (.inl (0, t.2.2.2.2.2.1))), (353, .inr (.inl (0, t.2.2.2.2.2.2.1))), (354, .inr (.inl (0, t.2.2.2.2.2.2.2)))]) rfl K rfl (Nat.le_of_ble_eq_true rfl) rfl (Or.inl rfl) rfl rfl (fun h K => ?_)
  refine j_W.one xd_M xd_5 (by decide) (pcJ := 6) (stJ := [.ref 3]) rfl ?_
  refine j_W.getK xd_M xd_6 (ci := 4) (j := 1) rfl K rfl rfl ?_
  refine j_W.call xd_M xd_9 rfl (md := 3) (mj := 18) rfl (by decide) xe_M (As := [.ref 343]) (rest := []) (jk_spl3 (K.at rfl) rfl rfl rfl (Nat.le_of_ble_eq_true rfl) (Nat.le_of_ble_eq_true rfl)) (xe_okB (K.sub ⟨rfl, trivial⟩)) ?_
  rintro r h9 ⟨rfl, K9⟩
  have K : KN h9 [(1, .inl (8, [.ref 2, .int ln, .int en, .int nx, .int kd, .int pl, .long wo, .int nu])), (2, .inr (.inl (1, l))), (3, .inl (4, [.ref 1, .ref 343, .int fa, .int pb])), (343, .inl (2, [.int 0, .ref 344, .ref 345, .ref 346, .ref 347, .int 0, .ref 348, .ref 349, .ref 350, .ref 351, .ref 352, .ref 353, .ref 354, .int ce, .ref 355, .ref 356, .ref 357, .ref 358])), (344, .inr (.inr (.inl s.2.1))), (345, .inr (.inl (0, s.2.2.1))), (346, .inr (.inl (0, s.2.2.2.1))), (347, .inr (.inl (0, s.2.2.2.2))), (348, .inr (.inr (.inl t.2.1))), (349, .inr (.inl (0, t.2.2.1))), (350, .inr (.inl (0, t.2.2.2.1))), (351, .inr (.inl (0, t.2.2.2.2.1))), (352, .inr (.inl (0, t.2.2.2.2.2.1))), (353, .inr (.inl (0, t.2.2.2.2.2.2.1))), (354, .inr (.inl (0, t.2.2.2.2.2.2.2)))] h0 := K.go K9 rfl rfl rfl
  clear K9
  show j_W jP _ 34 12 [(0, .ref 3), (1, .int (nI e)), (2, .ref 343)] [] h9 _
  refine j_W.one xd_M xd_12 (by decide) (pcJ := 13) (stJ := [.ref 3]) rfl ?_
  refine j_W.getK xd_M xd_13 (ci := 4) (j := 0) rfl K rfl rfl ?_
  refine j_W.one xd_M xd_16 (by decide) (pcJ := 17) (stJ := [.int (nI e), .ref 1]) rfl ?_
  refine j_W.call xd_M xd_17 rfl (md := 3) (mj := 106) rfl (by decide) xo_M (As := [.ref 1, .int (nI e)]) (rest := []) (jk_spl3 (K.at rfl) rfl rfl rfl (Nat.le_of_ble_eq_true rfl) (Nat.le_of_ble_eq_true rfl)) (xo_ok hle (K.sub ⟨rfl, trivial⟩)) ?_
  rintro r h9 ⟨rfl, K9⟩
  have K : KN h9 [(1, .inl (8, [.ref 2, .int ln, .int (nI e), .int 0, .int kd, .int pl, .long wo, .int nu])), (2, .inr (.inl (1, l))), (3, .inl (4, [.ref 1, .ref 343, .int fa, .int pb])), (343, .inl (2, [.int 0, .ref 344, .ref 345, .ref 346, .ref 347, .int 0, .ref 348, .ref 349, .ref 350, .ref 351, .ref 352, .ref 353, .ref 354, .int ce, .ref 355, .ref 356, .ref 357, .ref 358])), (344, .inr (.inr (.inl s.2.1))), (345, .inr (.inl (0, s.2.2.1))), (346, .inr (.inl (0, s.2.2.2.1))), (347, .inr (.inl (0, s.2.2.2.2))), (348, .inr (.inr (.inl t.2.1))), (349, .inr (.inl (0, t.2.2.1))), (350, .inr (.inl (0, t.2.2.2.1))), (351, .inr (.inl (0, t.2.2.2.2.1))), (352, .inr (.inl (0, t.2.2.2.2.2.1))), (353, .inr (.inl (0, t.2.2.2.2.2.2.1))), (354, .inr (.inl (0, t.2.2.2.2.2.2.2)))] h0 := K.go K9 rfl rfl rfl
  clear K9
  show j_W jP _ 34 20 [(0, .ref 3), (1, .int (nI e)), (2, .ref 343)] [] h9 _
  refine j_W.one xd_M xd_20 (by decide) (pcJ := 21) (stJ := [.ref 3]) rfl ?_
  refine j_W.one xd_M xd_21 (by decide) (pcJ := 22) (stJ := [.int 0, .ref 3]) rfl ?_
  refine j_W.putK xd_M xd_22 (ci := 4) (j := 2) (k' := [(1, .inl (8, [.ref 2, .int ln, .int (nI e), .int 0, .int kd, .int pl, .long wo, .int nu])), (2, .inr (.inl (1, l))), (3, .inl (4, [.ref 1, .ref 343, .int 0, .int pb])), (343, .inl (2, [.int 0, .ref 344, .ref 345, .ref 346, .ref 347, .int 0, .ref 348, .ref 349, .ref 350, .ref 351, .ref 352, .ref 353, .ref 354, .int ce, .ref 355, .ref 356, .ref 357, .ref 358])), (344, .inr (.inr (.inl s.2.1))), (345, .inr (.inl (0, s.2.2.1))), (346, .inr (.inl (0, s.2.2.2.1))), (347, .inr (.inl (0, s.2.2.2.2))), (348, .inr (.inr (.inl t.2.1))), (349, .inr (.inl (0, t.2.2.1))), (350, .inr (.inl (0, t.2.2.2.1))), (351, .inr (.inl (0, t.2.2.2.2.1))), (352, .inr (.inl (0, t.2.2.2.2.2.1))), (353, .inr (.inl (0, t.2.2.2.2.2.2.1))), (354, .inr (.inl (0, t.2.2.2.2.2.2.2)))]) rfl K rfl (Nat.le_of_ble_eq_true rfl) rfl (Or.inl rfl) rfl rfl (fun h K => ?_)
  refine j_W.one xd_M xd_25 (by decide) (pcJ := 26) (stJ := [.ref 3]) rfl ?_
  refine j_W.one xd_M xd_26 (by decide) (pcJ := 27) (stJ := [.int (-1), .ref 3]) rfl ?_
  refine j_W.putK xd_M xd_27 (ci := 4) (j := 3) (k' := [(1, .inl (8, [.ref 2, .int ln, .int (nI e), .int 0, .int kd, .int pl, .long wo, .int nu])), (2, .inr (.inl (1, l))), (3, .inl (4, [.ref 1, .ref 343, .int 0, .int (-1)])), (343, .inl (2, [.int 0, .ref 344, .ref 345, .ref 346, .ref 347, .int 0, .ref 348, .ref 349, .ref 350, .ref 351, .ref 352, .ref 353, .ref 354, .int ce, .ref 355, .ref 356, .ref 357, .ref 358])), (344, .inr (.inr (.inl s.2.1))), (345, .inr (.inl (0, s.2.2.1))), (346, .inr (.inl (0, s.2.2.2.1))), (347, .inr (.inl (0, s.2.2.2.2))), (348, .inr (.inr (.inl t.2.1))), (349, .inr (.inl (0, t.2.2.1))), (350, .inr (.inl (0, t.2.2.2.1))), (351, .inr (.inl (0, t.2.2.2.2.1))), (352, .inr (.inl (0, t.2.2.2.2.2.1))), (353, .inr (.inl (0, t.2.2.2.2.2.2.1))), (354, .inr (.inl (0, t.2.2.2.2.2.2.2)))]) rfl K rfl (Nat.le_of_ble_eq_true rfl) rfl (Or.inl rfl) rfl rfl (fun h K => ?_)
  refine j_W.one xd_M xd_30 (by decide) (pcJ := 31) (stJ := [.int 0]) rfl ?_
  refine j_W.one xd_M xd_31 (by decide) (pcJ := 32) (lv' := [(3, .int 0), (0, .ref 3), (1, .int (nI e)), (2, .ref 343)]) (stJ := []) rfl ?_
  have K : KN h [(1, .inl (8, [.ref 2, .int ln, .int (nI e), .int (nI ((0, kd, pl, wo, nu) : rK).1), .int ((0, kd, pl, wo, nu) : rK).2.1, .int ((0, kd, pl, wo, nu) : rK).2.2.1, .long ((0, kd, pl, wo, nu) : rK).2.2.2.1, .int ((0, kd, pl, wo, nu) : rK).2.2.2.2])), (2, .inr (.inl (1, l))), (3, .inl (4, [.ref 1, .ref 343, .int 0, .int (-1)])), (343, .inl (2, [.int (nI s.1), .ref 344, .ref 345, .ref 346, .ref 347, .int (nI t.1), .ref 348, .ref 349, .ref 350, .ref 351, .ref 352, .ref 353, .ref 354, .int ce, .ref 355, .ref 356, .ref 357, .ref 358])), (344, .inr (.inr (.inl s.2.1))), (345, .inr (.inl (0, s.2.2.1))), (346, .inr (.inl (0, s.2.2.2.1))), (347, .inr (.inl (0, s.2.2.2.2))), (348, .inr (.inr (.inl t.2.1))), (349, .inr (.inl (0, t.2.2.1))), (350, .inr (.inl (0, t.2.2.2.1))), (351, .inr (.inl (0, t.2.2.2.2.1))), (352, .inr (.inl (0, t.2.2.2.2.2.1))), (353, .inr (.inl (0, t.2.2.2.2.2.2.1))), (354, .inr (.inl (0, t.2.2.2.2.2.2.2)))] h0 := by
    have e1 : nI s.1 = 0 := by rw [h1]; rfl
    have e2 : nI t.1 = 0 := by rw [h2]; rfl
    rw [e1, e2]; exact K
  exact xd_fB (z := (0, kd, pl, wo, nu)) hl he (Nat.zero_le _) hs ht K

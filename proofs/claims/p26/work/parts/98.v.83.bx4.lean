/-! the class's queries (state 4, layout 343), by wip/px/gen_x4.py -/
set_option maxRecDepth 100000 in
theorem xbbc_M : j_meth jP 298 = some (yJ6_bitCount_0f7a4, cJ6_bitCount_0f7a4, 1, (some .int), 1, false, 99) := rfl
set_option maxRecDepth 100000 in
theorem xbbc_0 : j_code jP 298 0 = some (.iload_n 0) := rfl
set_option maxRecDepth 100000 in
theorem xbbc_1 : j_code jP 298 1 = some (.iload_n 0) := rfl
set_option maxRecDepth 100000 in
theorem xbbc_2 : j_code jP 298 2 = some (.iconst 1) := rfl
set_option maxRecDepth 100000 in
theorem xbbc_3 : j_code jP 298 3 = some (.iushr) := rfl
set_option maxRecDepth 100000 in
theorem xbbc_4 : j_code jP 298 4 = some (.ldc_w 265) := rfl
set_option maxRecDepth 100000 in
theorem xbbc_7 : j_code jP 298 7 = some (.iand) := rfl
set_option maxRecDepth 100000 in
theorem xbbc_8 : j_code jP 298 8 = some (.isub) := rfl
set_option maxRecDepth 100000 in
theorem xbbc_9 : j_code jP 298 9 = some (.istore_n 0) := rfl
set_option maxRecDepth 100000 in
theorem xbbc_10 : j_code jP 298 10 = some (.iload_n 0) := rfl
set_option maxRecDepth 100000 in
theorem xbbc_11 : j_code jP 298 11 = some (.ldc_w 266) := rfl
set_option maxRecDepth 100000 in
theorem xbbc_14 : j_code jP 298 14 = some (.iand) := rfl
set_option maxRecDepth 100000 in
theorem xbbc_15 : j_code jP 298 15 = some (.iload_n 0) := rfl
set_option maxRecDepth 100000 in
theorem xbbc_16 : j_code jP 298 16 = some (.iconst 2) := rfl
set_option maxRecDepth 100000 in
theorem xbbc_17 : j_code jP 298 17 = some (.iushr) := rfl
set_option maxRecDepth 100000 in
theorem xbbc_18 : j_code jP 298 18 = some (.ldc_w 266) := rfl
set_option maxRecDepth 100000 in
theorem xbbc_21 : j_code jP 298 21 = some (.iand) := rfl
set_option maxRecDepth 100000 in
theorem xbbc_22 : j_code jP 298 22 = some (.iadd) := rfl
set_option maxRecDepth 100000 in
theorem xbbc_23 : j_code jP 298 23 = some (.istore_n 0) := rfl
set_option maxRecDepth 100000 in
theorem xbbc_24 : j_code jP 298 24 = some (.iload_n 0) := rfl
set_option maxRecDepth 100000 in
theorem xbbc_25 : j_code jP 298 25 = some (.iload_n 0) := rfl
set_option maxRecDepth 100000 in
theorem xbbc_26 : j_code jP 298 26 = some (.iconst 4) := rfl
set_option maxRecDepth 100000 in
theorem xbbc_27 : j_code jP 298 27 = some (.iushr) := rfl
set_option maxRecDepth 100000 in
theorem xbbc_28 : j_code jP 298 28 = some (.iadd) := rfl
set_option maxRecDepth 100000 in
theorem xbbc_29 : j_code jP 298 29 = some (.ldc_w 267) := rfl
set_option maxRecDepth 100000 in
theorem xbbc_32 : j_code jP 298 32 = some (.iand) := rfl
set_option maxRecDepth 100000 in
theorem xbbc_33 : j_code jP 298 33 = some (.istore_n 0) := rfl
set_option maxRecDepth 100000 in
theorem xbbc_34 : j_code jP 298 34 = some (.iload_n 0) := rfl
set_option maxRecDepth 100000 in
theorem xbbc_35 : j_code jP 298 35 = some (.iload_n 0) := rfl
set_option maxRecDepth 100000 in
theorem xbbc_36 : j_code jP 298 36 = some (.bipush 8) := rfl
set_option maxRecDepth 100000 in
theorem xbbc_38 : j_code jP 298 38 = some (.iushr) := rfl
set_option maxRecDepth 100000 in
theorem xbbc_39 : j_code jP 298 39 = some (.iadd) := rfl
set_option maxRecDepth 100000 in
theorem xbbc_40 : j_code jP 298 40 = some (.istore_n 0) := rfl
set_option maxRecDepth 100000 in
theorem xbbc_41 : j_code jP 298 41 = some (.iload_n 0) := rfl
set_option maxRecDepth 100000 in
theorem xbbc_42 : j_code jP 298 42 = some (.iload_n 0) := rfl
set_option maxRecDepth 100000 in
theorem xbbc_43 : j_code jP 298 43 = some (.bipush 16) := rfl
set_option maxRecDepth 100000 in
theorem xbbc_45 : j_code jP 298 45 = some (.iushr) := rfl
set_option maxRecDepth 100000 in
theorem xbbc_46 : j_code jP 298 46 = some (.iadd) := rfl
set_option maxRecDepth 100000 in
theorem xbbc_47 : j_code jP 298 47 = some (.istore_n 0) := rfl
set_option maxRecDepth 100000 in
theorem xbbc_48 : j_code jP 298 48 = some (.iload_n 0) := rfl
set_option maxRecDepth 100000 in
theorem xbbc_49 : j_code jP 298 49 = some (.bipush 63) := rfl
set_option maxRecDepth 100000 in
theorem xbbc_51 : j_code jP 298 51 = some (.iand) := rfl
set_option maxRecDepth 100000 in
theorem xbbc_52 : j_code jP 298 52 = some (.ireturn) := rfl
set_option maxRecDepth 1000000 in
theorem xbbc_ok  {x1 : Int32} {d : Nat} {h h0 : J_H} (K : KN h [] h0) : j_V jP d 298 0 (lv_args 0 [.int x1]) [] h (fun rv h' => rv = some (.int (x_bitCount x1)) ∧ h' = h) := by
  show j_V jP d 298 0 [(0, .int x1)] [] h _
  obtain ⟨lv, elv, L⟩ : ∃ lv, lv = [(0, .int x1)] ∧ LK lv [(0, .int x1)] := ⟨_, rfl, LK.rf⟩
  rw [← elv]
  clear elv
  refine j_V.ldL xbbc_M xbbc_0 rfl (i := 0) (kd := 0) (v := .int x1) (pcJ := 1) rfl L rfl rfl rfl ?_
  refine j_V.ldL xbbc_M xbbc_1 rfl (i := 0) (kd := 0) (v := .int x1) (pcJ := 2) rfl L rfl rfl rfl ?_
  refine j_V.one xbbc_M xbbc_2 (by decide) (pcJ := 3) (stJ := [.int 1, .int x1, .int x1]) rfl ?_
  refine j_V.one xbbc_M xbbc_3 (by decide) (pcJ := 4) (stJ := [.int (((x1 : Int32).toUInt32 >>> ((1 : Int32).toUInt32 &&& Int32.toUInt32 31)).toInt32), .int x1]) rfl ?_
  refine j_V.one xbbc_M xbbc_4 (by decide) (pcJ := 7) (stJ := [.int (1431655765 : Int32), .int (((x1 : Int32).toUInt32 >>> ((1 : Int32).toUInt32 &&& Int32.toUInt32 31)).toInt32), .int x1]) rfl ?_
  refine j_V.one xbbc_M xbbc_7 (by decide) (pcJ := 8) (stJ := [.int ((((x1 : Int32).toUInt32 >>> ((1 : Int32).toUInt32 &&& Int32.toUInt32 31)).toInt32) &&& (1431655765 : Int32)), .int x1]) rfl ?_
  refine j_V.one xbbc_M xbbc_8 (by decide) (pcJ := 9) (stJ := [.int (x1 - ((((x1 : Int32).toUInt32 >>> ((1 : Int32).toUInt32 &&& Int32.toUInt32 31)).toInt32) &&& (1431655765 : Int32)))]) rfl ?_
  refine j_V.stL xbbc_M xbbc_9 rfl (i := 0) (kd := 0) (kl' := [(0, .int (x1 - ((((x1 : Int32).toUInt32 >>> ((1 : Int32).toUInt32 &&& Int32.toUInt32 31)).toInt32) &&& (1431655765 : Int32))))]) (pcJ := 10) rfl L rfl (by decide) rfl rfl rfl (fun lv L => ?_)
  refine j_V.ldL xbbc_M xbbc_10 rfl (i := 0) (kd := 0) (v := .int (x1 - ((((x1 : Int32).toUInt32 >>> ((1 : Int32).toUInt32 &&& Int32.toUInt32 31)).toInt32) &&& (1431655765 : Int32)))) (pcJ := 11) rfl L rfl rfl rfl ?_
  refine j_V.one xbbc_M xbbc_11 (by decide) (pcJ := 14) (stJ := [.int (858993459 : Int32), .int (x1 - ((((x1 : Int32).toUInt32 >>> ((1 : Int32).toUInt32 &&& Int32.toUInt32 31)).toInt32) &&& (1431655765 : Int32)))]) rfl ?_
  refine j_V.one xbbc_M xbbc_14 (by decide) (pcJ := 15) (stJ := [.int ((x1 - ((((x1 : Int32).toUInt32 >>> ((1 : Int32).toUInt32 &&& Int32.toUInt32 31)).toInt32) &&& (1431655765 : Int32))) &&& (858993459 : Int32))]) rfl ?_
  refine j_V.ldL xbbc_M xbbc_15 rfl (i := 0) (kd := 0) (v := .int (x1 - ((((x1 : Int32).toUInt32 >>> ((1 : Int32).toUInt32 &&& Int32.toUInt32 31)).toInt32) &&& (1431655765 : Int32)))) (pcJ := 16) rfl L rfl rfl rfl ?_
  refine j_V.one xbbc_M xbbc_16 (by decide) (pcJ := 17) (stJ := [.int 2, .int (x1 - ((((x1 : Int32).toUInt32 >>> ((1 : Int32).toUInt32 &&& Int32.toUInt32 31)).toInt32) &&& (1431655765 : Int32))), .int ((x1 - ((((x1 : Int32).toUInt32 >>> ((1 : Int32).toUInt32 &&& Int32.toUInt32 31)).toInt32) &&& (1431655765 : Int32))) &&& (858993459 : Int32))]) rfl ?_
  refine j_V.one xbbc_M xbbc_17 (by decide) (pcJ := 18) (stJ := [.int ((((x1 - ((((x1 : Int32).toUInt32 >>> ((1 : Int32).toUInt32 &&& Int32.toUInt32 31)).toInt32) &&& (1431655765 : Int32))) : Int32).toUInt32 >>> ((2 : Int32).toUInt32 &&& Int32.toUInt32 31)).toInt32), .int ((x1 - ((((x1 : Int32).toUInt32 >>> ((1 : Int32).toUInt32 &&& Int32.toUInt32 31)).toInt32) &&& (1431655765 : Int32))) &&& (858993459 : Int32))]) rfl ?_
  refine j_V.one xbbc_M xbbc_18 (by decide) (pcJ := 21) (stJ := [.int (858993459 : Int32), .int ((((x1 - ((((x1 : Int32).toUInt32 >>> ((1 : Int32).toUInt32 &&& Int32.toUInt32 31)).toInt32) &&& (1431655765 : Int32))) : Int32).toUInt32 >>> ((2 : Int32).toUInt32 &&& Int32.toUInt32 31)).toInt32), .int ((x1 - ((((x1 : Int32).toUInt32 >>> ((1 : Int32).toUInt32 &&& Int32.toUInt32 31)).toInt32) &&& (1431655765 : Int32))) &&& (858993459 : Int32))]) rfl ?_
  refine j_V.one xbbc_M xbbc_21 (by decide) (pcJ := 22) (stJ := [.int (((((x1 - ((((x1 : Int32).toUInt32 >>> ((1 : Int32).toUInt32 &&& Int32.toUInt32 31)).toInt32) &&& (1431655765 : Int32))) : Int32).toUInt32 >>> ((2 : Int32).toUInt32 &&& Int32.toUInt32 31)).toInt32) &&& (858993459 : Int32)), .int ((x1 - ((((x1 : Int32).toUInt32 >>> ((1 : Int32).toUInt32 &&& Int32.toUInt32 31)).toInt32) &&& (1431655765 : Int32))) &&& (858993459 : Int32))]) rfl ?_
  refine j_V.one xbbc_M xbbc_22 (by decide) (pcJ := 23) (stJ := [.int (((x1 - ((((x1 : Int32).toUInt32 >>> ((1 : Int32).toUInt32 &&& Int32.toUInt32 31)).toInt32) &&& (1431655765 : Int32))) &&& (858993459 : Int32)) + (((((x1 - ((((x1 : Int32).toUInt32 >>> ((1 : Int32).toUInt32 &&& Int32.toUInt32 31)).toInt32) &&& (1431655765 : Int32))) : Int32).toUInt32 >>> ((2 : Int32).toUInt32 &&& Int32.toUInt32 31)).toInt32) &&& (858993459 : Int32)))]) rfl ?_
  refine j_V.stL xbbc_M xbbc_23 rfl (i := 0) (kd := 0) (kl' := [(0, .int (((x1 - ((((x1 : Int32).toUInt32 >>> ((1 : Int32).toUInt32 &&& Int32.toUInt32 31)).toInt32) &&& (1431655765 : Int32))) &&& (858993459 : Int32)) + (((((x1 - ((((x1 : Int32).toUInt32 >>> ((1 : Int32).toUInt32 &&& Int32.toUInt32 31)).toInt32) &&& (1431655765 : Int32))) : Int32).toUInt32 >>> ((2 : Int32).toUInt32 &&& Int32.toUInt32 31)).toInt32) &&& (858993459 : Int32))))]) (pcJ := 24) rfl L rfl (by decide) rfl rfl rfl (fun lv L => ?_)
  refine j_V.ldL xbbc_M xbbc_24 rfl (i := 0) (kd := 0) (v := .int (((x1 - ((((x1 : Int32).toUInt32 >>> ((1 : Int32).toUInt32 &&& Int32.toUInt32 31)).toInt32) &&& (1431655765 : Int32))) &&& (858993459 : Int32)) + (((((x1 - ((((x1 : Int32).toUInt32 >>> ((1 : Int32).toUInt32 &&& Int32.toUInt32 31)).toInt32) &&& (1431655765 : Int32))) : Int32).toUInt32 >>> ((2 : Int32).toUInt32 &&& Int32.toUInt32 31)).toInt32) &&& (858993459 : Int32)))) (pcJ := 25) rfl L rfl rfl rfl ?_
  refine j_V.ldL xbbc_M xbbc_25 rfl (i := 0) (kd := 0) (v := .int (((x1 - ((((x1 : Int32).toUInt32 >>> ((1 : Int32).toUInt32 &&& Int32.toUInt32 31)).toInt32) &&& (1431655765 : Int32))) &&& (858993459 : Int32)) + (((((x1 - ((((x1 : Int32).toUInt32 >>> ((1 : Int32).toUInt32 &&& Int32.toUInt32 31)).toInt32) &&& (1431655765 : Int32))) : Int32).toUInt32 >>> ((2 : Int32).toUInt32 &&& Int32.toUInt32 31)).toInt32) &&& (858993459 : Int32)))) (pcJ := 26) rfl L rfl rfl rfl ?_
  refine j_V.one xbbc_M xbbc_26 (by decide) (pcJ := 27) (stJ := [.int 4, .int (((x1 - ((((x1 : Int32).toUInt32 >>> ((1 : Int32).toUInt32 &&& Int32.toUInt32 31)).toInt32) &&& (1431655765 : Int32))) &&& (858993459 : Int32)) + (((((x1 - ((((x1 : Int32).toUInt32 >>> ((1 : Int32).toUInt32 &&& Int32.toUInt32 31)).toInt32) &&& (1431655765 : Int32))) : Int32).toUInt32 >>> ((2 : Int32).toUInt32 &&& Int32.toUInt32 31)).toInt32) &&& (858993459 : Int32))), .int (((x1 - ((((x1 : Int32).toUInt32 >>> ((1 : Int32).toUInt32 &&& Int32.toUInt32 31)).toInt32) &&& (1431655765 : Int32))) &&& (858993459 : Int32)) + (((((x1 - ((((x1 : Int32).toUInt32 >>> ((1 : Int32).toUInt32 &&& Int32.toUInt32 31)).toInt32) &&& (1431655765 : Int32))) : Int32).toUInt32 >>> ((2 : Int32).toUInt32 &&& Int32.toUInt32 31)).toInt32) &&& (858993459 : Int32)))]) rfl ?_
  refine j_V.one xbbc_M xbbc_27 (by decide) (pcJ := 28) (stJ := [.int ((((((x1 - ((((x1 : Int32).toUInt32 >>> ((1 : Int32).toUInt32 &&& Int32.toUInt32 31)).toInt32) &&& (1431655765 : Int32))) &&& (858993459 : Int32)) + (((((x1 - ((((x1 : Int32).toUInt32 >>> ((1 : Int32).toUInt32 &&& Int32.toUInt32 31)).toInt32) &&& (1431655765 : Int32))) : Int32).toUInt32 >>> ((2 : Int32).toUInt32 &&& Int32.toUInt32 31)).toInt32) &&& (858993459 : Int32))) : Int32).toUInt32 >>> ((4 : Int32).toUInt32 &&& Int32.toUInt32 31)).toInt32), .int (((x1 - ((((x1 : Int32).toUInt32 >>> ((1 : Int32).toUInt32 &&& Int32.toUInt32 31)).toInt32) &&& (1431655765 : Int32))) &&& (858993459 : Int32)) + (((((x1 - ((((x1 : Int32).toUInt32 >>> ((1 : Int32).toUInt32 &&& Int32.toUInt32 31)).toInt32) &&& (1431655765 : Int32))) : Int32).toUInt32 >>> ((2 : Int32).toUInt32 &&& Int32.toUInt32 31)).toInt32) &&& (858993459 : Int32)))]) rfl ?_
  refine j_V.one xbbc_M xbbc_28 (by decide) (pcJ := 29) (stJ := [.int ((((x1 - ((((x1 : Int32).toUInt32 >>> ((1 : Int32).toUInt32 &&& Int32.toUInt32 31)).toInt32) &&& (1431655765 : Int32))) &&& (858993459 : Int32)) + (((((x1 - ((((x1 : Int32).toUInt32 >>> ((1 : Int32).toUInt32 &&& Int32.toUInt32 31)).toInt32) &&& (1431655765 : Int32))) : Int32).toUInt32 >>> ((2 : Int32).toUInt32 &&& Int32.toUInt32 31)).toInt32) &&& (858993459 : Int32))) + ((((((x1 - ((((x1 : Int32).toUInt32 >>> ((1 : Int32).toUInt32 &&& Int32.toUInt32 31)).toInt32) &&& (1431655765 : Int32))) &&& (858993459 : Int32)) + (((((x1 - ((((x1 : Int32).toUInt32 >>> ((1 : Int32).toUInt32 &&& Int32.toUInt32 31)).toInt32) &&& (1431655765 : Int32))) : Int32).toUInt32 >>> ((2 : Int32).toUInt32 &&& Int32.toUInt32 31)).toInt32) &&& (858993459 : Int32))) : Int32).toUInt32 >>> ((4 : Int32).toUInt32 &&& Int32.toUInt32 31)).toInt32))]) rfl ?_
  refine j_V.one xbbc_M xbbc_29 (by decide) (pcJ := 32) (stJ := [.int (252645135 : Int32), .int ((((x1 - ((((x1 : Int32).toUInt32 >>> ((1 : Int32).toUInt32 &&& Int32.toUInt32 31)).toInt32) &&& (1431655765 : Int32))) &&& (858993459 : Int32)) + (((((x1 - ((((x1 : Int32).toUInt32 >>> ((1 : Int32).toUInt32 &&& Int32.toUInt32 31)).toInt32) &&& (1431655765 : Int32))) : Int32).toUInt32 >>> ((2 : Int32).toUInt32 &&& Int32.toUInt32 31)).toInt32) &&& (858993459 : Int32))) + ((((((x1 - ((((x1 : Int32).toUInt32 >>> ((1 : Int32).toUInt32 &&& Int32.toUInt32 31)).toInt32) &&& (1431655765 : Int32))) &&& (858993459 : Int32)) + (((((x1 - ((((x1 : Int32).toUInt32 >>> ((1 : Int32).toUInt32 &&& Int32.toUInt32 31)).toInt32) &&& (1431655765 : Int32))) : Int32).toUInt32 >>> ((2 : Int32).toUInt32 &&& Int32.toUInt32 31)).toInt32) &&& (858993459 : Int32))) : Int32).toUInt32 >>> ((4 : Int32).toUInt32 &&& Int32.toUInt32 31)).toInt32))]) rfl ?_
  refine j_V.one xbbc_M xbbc_32 (by decide) (pcJ := 33) (stJ := [.int (((((x1 - ((((x1 : Int32).toUInt32 >>> ((1 : Int32).toUInt32 &&& Int32.toUInt32 31)).toInt32) &&& (1431655765 : Int32))) &&& (858993459 : Int32)) + (((((x1 - ((((x1 : Int32).toUInt32 >>> ((1 : Int32).toUInt32 &&& Int32.toUInt32 31)).toInt32) &&& (1431655765 : Int32))) : Int32).toUInt32 >>> ((2 : Int32).toUInt32 &&& Int32.toUInt32 31)).toInt32) &&& (858993459 : Int32))) + ((((((x1 - ((((x1 : Int32).toUInt32 >>> ((1 : Int32).toUInt32 &&& Int32.toUInt32 31)).toInt32) &&& (1431655765 : Int32))) &&& (858993459 : Int32)) + (((((x1 - ((((x1 : Int32).toUInt32 >>> ((1 : Int32).toUInt32 &&& Int32.toUInt32 31)).toInt32) &&& (1431655765 : Int32))) : Int32).toUInt32 >>> ((2 : Int32).toUInt32 &&& Int32.toUInt32 31)).toInt32) &&& (858993459 : Int32))) : Int32).toUInt32 >>> ((4 : Int32).toUInt32 &&& Int32.toUInt32 31)).toInt32)) &&& (252645135 : Int32))]) rfl ?_
  refine j_V.stL xbbc_M xbbc_33 rfl (i := 0) (kd := 0) (kl' := [(0, .int (((((x1 - ((((x1 : Int32).toUInt32 >>> ((1 : Int32).toUInt32 &&& Int32.toUInt32 31)).toInt32) &&& (1431655765 : Int32))) &&& (858993459 : Int32)) + (((((x1 - ((((x1 : Int32).toUInt32 >>> ((1 : Int32).toUInt32 &&& Int32.toUInt32 31)).toInt32) &&& (1431655765 : Int32))) : Int32).toUInt32 >>> ((2 : Int32).toUInt32 &&& Int32.toUInt32 31)).toInt32) &&& (858993459 : Int32))) + ((((((x1 - ((((x1 : Int32).toUInt32 >>> ((1 : Int32).toUInt32 &&& Int32.toUInt32 31)).toInt32) &&& (1431655765 : Int32))) &&& (858993459 : Int32)) + (((((x1 - ((((x1 : Int32).toUInt32 >>> ((1 : Int32).toUInt32 &&& Int32.toUInt32 31)).toInt32) &&& (1431655765 : Int32))) : Int32).toUInt32 >>> ((2 : Int32).toUInt32 &&& Int32.toUInt32 31)).toInt32) &&& (858993459 : Int32))) : Int32).toUInt32 >>> ((4 : Int32).toUInt32 &&& Int32.toUInt32 31)).toInt32)) &&& (252645135 : Int32)))]) (pcJ := 34) rfl L rfl (by decide) rfl rfl rfl (fun lv L => ?_)
  refine j_V.ldL xbbc_M xbbc_34 rfl (i := 0) (kd := 0) (v := .int (((((x1 - ((((x1 : Int32).toUInt32 >>> ((1 : Int32).toUInt32 &&& Int32.toUInt32 31)).toInt32) &&& (1431655765 : Int32))) &&& (858993459 : Int32)) + (((((x1 - ((((x1 : Int32).toUInt32 >>> ((1 : Int32).toUInt32 &&& Int32.toUInt32 31)).toInt32) &&& (1431655765 : Int32))) : Int32).toUInt32 >>> ((2 : Int32).toUInt32 &&& Int32.toUInt32 31)).toInt32) &&& (858993459 : Int32))) + ((((((x1 - ((((x1 : Int32).toUInt32 >>> ((1 : Int32).toUInt32 &&& Int32.toUInt32 31)).toInt32) &&& (1431655765 : Int32))) &&& (858993459 : Int32)) + (((((x1 - ((((x1 : Int32).toUInt32 >>> ((1 : Int32).toUInt32 &&& Int32.toUInt32 31)).toInt32) &&& (1431655765 : Int32))) : Int32).toUInt32 >>> ((2 : Int32).toUInt32 &&& Int32.toUInt32 31)).toInt32) &&& (858993459 : Int32))) : Int32).toUInt32 >>> ((4 : Int32).toUInt32 &&& Int32.toUInt32 31)).toInt32)) &&& (252645135 : Int32))) (pcJ := 35) rfl L rfl rfl rfl ?_
  refine j_V.ldL xbbc_M xbbc_35 rfl (i := 0) (kd := 0) (v := .int (((((x1 - ((((x1 : Int32).toUInt32 >>> ((1 : Int32).toUInt32 &&& Int32.toUInt32 31)).toInt32) &&& (1431655765 : Int32))) &&& (858993459 : Int32)) + (((((x1 - ((((x1 : Int32).toUInt32 >>> ((1 : Int32).toUInt32 &&& Int32.toUInt32 31)).toInt32) &&& (1431655765 : Int32))) : Int32).toUInt32 >>> ((2 : Int32).toUInt32 &&& Int32.toUInt32 31)).toInt32) &&& (858993459 : Int32))) + ((((((x1 - ((((x1 : Int32).toUInt32 >>> ((1 : Int32).toUInt32 &&& Int32.toUInt32 31)).toInt32) &&& (1431655765 : Int32))) &&& (858993459 : Int32)) + (((((x1 - ((((x1 : Int32).toUInt32 >>> ((1 : Int32).toUInt32 &&& Int32.toUInt32 31)).toInt32) &&& (1431655765 : Int32))) : Int32).toUInt32 >>> ((2 : Int32).toUInt32 &&& Int32.toUInt32 31)).toInt32) &&& (858993459 : Int32))) : Int32).toUInt32 >>> ((4 : Int32).toUInt32 &&& Int32.toUInt32 31)).toInt32)) &&& (252645135 : Int32))) (pcJ := 36) rfl L rfl rfl rfl ?_
  refine j_V.one xbbc_M xbbc_36 (by decide) (pcJ := 38) (stJ := [.int 8, .int (((((x1 - ((((x1 : Int32).toUInt32 >>> ((1 : Int32).toUInt32 &&& Int32.toUInt32 31)).toInt32) &&& (1431655765 : Int32))) &&& (858993459 : Int32)) + (((((x1 - ((((x1 : Int32).toUInt32 >>> ((1 : Int32).toUInt32 &&& Int32.toUInt32 31)).toInt32) &&& (1431655765 : Int32))) : Int32).toUInt32 >>> ((2 : Int32).toUInt32 &&& Int32.toUInt32 31)).toInt32) &&& (858993459 : Int32))) + ((((((x1 - ((((x1 : Int32).toUInt32 >>> ((1 : Int32).toUInt32 &&& Int32.toUInt32 31)).toInt32) &&& (1431655765 : Int32))) &&& (858993459 : Int32)) + (((((x1 - ((((x1 : Int32).toUInt32 >>> ((1 : Int32).toUInt32 &&& Int32.toUInt32 31)).toInt32) &&& (1431655765 : Int32))) : Int32).toUInt32 >>> ((2 : Int32).toUInt32 &&& Int32.toUInt32 31)).toInt32) &&& (858993459 : Int32))) : Int32).toUInt32 >>> ((4 : Int32).toUInt32 &&& Int32.toUInt32 31)).toInt32)) &&& (252645135 : Int32)), .int (((((x1 - ((((x1 : Int32).toUInt32 >>> ((1 : Int32).toUInt32 &&& Int32.toUInt32 31)).toInt32) &&& (1431655765 : Int32))) &&& (858993459 : Int32)) + (((((x1 - ((((x1 : Int32).toUInt32 >>> ((1 : Int32).toUInt32 &&& Int32.toUInt32 31)).toInt32) &&& (1431655765 : Int32))) : Int32).toUInt32 >>> ((2 : Int32).toUInt32 &&& Int32.toUInt32 31)).toInt32) &&& (858993459 : Int32))) + ((((((x1 - ((((x1 : Int32).toUInt32 >>> ((1 : Int32).toUInt32 &&& Int32.toUInt32 31)).toInt32) &&& (1431655765 : Int32))) &&& (858993459 : Int32)) + (((((x1 - ((((x1 : Int32).toUInt32 >>> ((1 : Int32).toUInt32 &&& Int32.toUInt32 31)).toInt32) &&& (1431655765 : Int32))) : Int32).toUInt32 >>> ((2 : Int32).toUInt32 &&& Int32.toUInt32 31)).toInt32) &&& (858993459 : Int32))) : Int32).toUInt32 >>> ((4 : Int32).toUInt32 &&& Int32.toUInt32 31)).toInt32)) &&& (252645135 : Int32))]) rfl ?_
  refine j_V.one xbbc_M xbbc_38 (by decide) (pcJ := 39) (stJ := [.int ((((((((x1 - ((((x1 : Int32).toUInt32 >>> ((1 : Int32).toUInt32 &&& Int32.toUInt32 31)).toInt32) &&& (1431655765 : Int32))) &&& (858993459 : Int32)) + (((((x1 - ((((x1 : Int32).toUInt32 >>> ((1 : Int32).toUInt32 &&& Int32.toUInt32 31)).toInt32) &&& (1431655765 : Int32))) : Int32).toUInt32 >>> ((2 : Int32).toUInt32 &&& Int32.toUInt32 31)).toInt32) &&& (858993459 : Int32))) + ((((((x1 - ((((x1 : Int32).toUInt32 >>> ((1 : Int32).toUInt32 &&& Int32.toUInt32 31)).toInt32) &&& (1431655765 : Int32))) &&& (858993459 : Int32)) + (((((x1 - ((((x1 : Int32).toUInt32 >>> ((1 : Int32).toUInt32 &&& Int32.toUInt32 31)).toInt32) &&& (1431655765 : Int32))) : Int32).toUInt32 >>> ((2 : Int32).toUInt32 &&& Int32.toUInt32 31)).toInt32) &&& (858993459 : Int32))) : Int32).toUInt32 >>> ((4 : Int32).toUInt32 &&& Int32.toUInt32 31)).toInt32)) &&& (252645135 : Int32)) : Int32).toUInt32 >>> ((8 : Int32).toUInt32 &&& Int32.toUInt32 31)).toInt32), .int (((((x1 - ((((x1 : Int32).toUInt32 >>> ((1 : Int32).toUInt32 &&& Int32.toUInt32 31)).toInt32) &&& (1431655765 : Int32))) &&& (858993459 : Int32)) + (((((x1 - ((((x1 : Int32).toUInt32 >>> ((1 : Int32).toUInt32 &&& Int32.toUInt32 31)).toInt32) &&& (1431655765 : Int32))) : Int32).toUInt32 >>> ((2 : Int32).toUInt32 &&& Int32.toUInt32 31)).toInt32) &&& (858993459 : Int32))) + ((((((x1 - ((((x1 : Int32).toUInt32 >>> ((1 : Int32).toUInt32 &&& Int32.toUInt32 31)).toInt32) &&& (1431655765 : Int32))) &&& (858993459 : Int32)) + (((((x1 - ((((x1 : Int32).toUInt32 >>> ((1 : Int32).toUInt32 &&& Int32.toUInt32 31)).toInt32) &&& (1431655765 : Int32))) : Int32).toUInt32 >>> ((2 : Int32).toUInt32 &&& Int32.toUInt32 31)).toInt32) &&& (858993459 : Int32))) : Int32).toUInt32 >>> ((4 : Int32).toUInt32 &&& Int32.toUInt32 31)).toInt32)) &&& (252645135 : Int32))]) rfl ?_
  refine j_V.one xbbc_M xbbc_39 (by decide) (pcJ := 40) (stJ := [.int ((((((x1 - ((((x1 : Int32).toUInt32 >>> ((1 : Int32).toUInt32 &&& Int32.toUInt32 31)).toInt32) &&& (1431655765 : Int32))) &&& (858993459 : Int32)) + (((((x1 - ((((x1 : Int32).toUInt32 >>> ((1 : Int32).toUInt32 &&& Int32.toUInt32 31)).toInt32) &&& (1431655765 : Int32))) : Int32).toUInt32 >>> ((2 : Int32).toUInt32 &&& Int32.toUInt32 31)).toInt32) &&& (858993459 : Int32))) + ((((((x1 - ((((x1 : Int32).toUInt32 >>> ((1 : Int32).toUInt32 &&& Int32.toUInt32 31)).toInt32) &&& (1431655765 : Int32))) &&& (858993459 : Int32)) + (((((x1 - ((((x1 : Int32).toUInt32 >>> ((1 : Int32).toUInt32 &&& Int32.toUInt32 31)).toInt32) &&& (1431655765 : Int32))) : Int32).toUInt32 >>> ((2 : Int32).toUInt32 &&& Int32.toUInt32 31)).toInt32) &&& (858993459 : Int32))) : Int32).toUInt32 >>> ((4 : Int32).toUInt32 &&& Int32.toUInt32 31)).toInt32)) &&& (252645135 : Int32)) + ((((((((x1 - ((((x1 : Int32).toUInt32 >>> ((1 : Int32).toUInt32 &&& Int32.toUInt32 31)).toInt32) &&& (1431655765 : Int32))) &&& (858993459 : Int32)) + (((((x1 - ((((x1 : Int32).toUInt32 >>> ((1 : Int32).toUInt32 &&& Int32.toUInt32 31)).toInt32) &&& (1431655765 : Int32))) : Int32).toUInt32 >>> ((2 : Int32).toUInt32 &&& Int32.toUInt32 31)).toInt32) &&& (858993459 : Int32))) + ((((((x1 - ((((x1 : Int32).toUInt32 >>> ((1 : Int32).toUInt32 &&& Int32.toUInt32 31)).toInt32) &&& (1431655765 : Int32))) &&& (858993459 : Int32)) + (((((x1 - ((((x1 : Int32).toUInt32 >>> ((1 : Int32).toUInt32 &&& Int32.toUInt32 31)).toInt32) &&& (1431655765 : Int32))) : Int32).toUInt32 >>> ((2 : Int32).toUInt32 &&& Int32.toUInt32 31)).toInt32) &&& (858993459 : Int32))) : Int32).toUInt32 >>> ((4 : Int32).toUInt32 &&& Int32.toUInt32 31)).toInt32)) &&& (252645135 : Int32)) : Int32).toUInt32 >>> ((8 : Int32).toUInt32 &&& Int32.toUInt32 31)).toInt32))]) rfl ?_
  refine j_V.stL xbbc_M xbbc_40 rfl (i := 0) (kd := 0) (kl' := [(0, .int ((((((x1 - ((((x1 : Int32).toUInt32 >>> ((1 : Int32).toUInt32 &&& Int32.toUInt32 31)).toInt32) &&& (1431655765 : Int32))) &&& (858993459 : Int32)) + (((((x1 - ((((x1 : Int32).toUInt32 >>> ((1 : Int32).toUInt32 &&& Int32.toUInt32 31)).toInt32) &&& (1431655765 : Int32))) : Int32).toUInt32 >>> ((2 : Int32).toUInt32 &&& Int32.toUInt32 31)).toInt32) &&& (858993459 : Int32))) + ((((((x1 - ((((x1 : Int32).toUInt32 >>> ((1 : Int32).toUInt32 &&& Int32.toUInt32 31)).toInt32) &&& (1431655765 : Int32))) &&& (858993459 : Int32)) + (((((x1 - ((((x1 : Int32).toUInt32 >>> ((1 : Int32).toUInt32 &&& Int32.toUInt32 31)).toInt32) &&& (1431655765 : Int32))) : Int32).toUInt32 >>> ((2 : Int32).toUInt32 &&& Int32.toUInt32 31)).toInt32) &&& (858993459 : Int32))) : Int32).toUInt32 >>> ((4 : Int32).toUInt32 &&& Int32.toUInt32 31)).toInt32)) &&& (252645135 : Int32)) + ((((((((x1 - ((((x1 : Int32).toUInt32 >>> ((1 : Int32).toUInt32 &&& Int32.toUInt32 31)).toInt32) &&& (1431655765 : Int32))) &&& (858993459 : Int32)) + (((((x1 - ((((x1 : Int32).toUInt32 >>> ((1 : Int32).toUInt32 &&& Int32.toUInt32 31)).toInt32) &&& (1431655765 : Int32))) : Int32).toUInt32 >>> ((2 : Int32).toUInt32 &&& Int32.toUInt32 31)).toInt32) &&& (858993459 : Int32))) + ((((((x1 - ((((x1 : Int32).toUInt32 >>> ((1 : Int32).toUInt32 &&& Int32.toUInt32 31)).toInt32) &&& (1431655765 : Int32))) &&& (858993459 : Int32)) + (((((x1 - ((((x1 : Int32).toUInt32 >>> ((1 : Int32).toUInt32 &&& Int32.toUInt32 31)).toInt32) &&& (1431655765 : Int32))) : Int32).toUInt32 >>> ((2 : Int32).toUInt32 &&& Int32.toUInt32 31)).toInt32) &&& (858993459 : Int32))) : Int32).toUInt32 >>> ((4 : Int32).toUInt32 &&& Int32.toUInt32 31)).toInt32)) &&& (252645135 : Int32)) : Int32).toUInt32 >>> ((8 : Int32).toUInt32 &&& Int32.toUInt32 31)).toInt32)))]) (pcJ := 41) rfl L rfl (by decide) rfl rfl rfl (fun lv L => ?_)
  refine j_V.ldL xbbc_M xbbc_41 rfl (i := 0) (kd := 0) (v := .int ((((((x1 - ((((x1 : Int32).toUInt32 >>> ((1 : Int32).toUInt32 &&& Int32.toUInt32 31)).toInt32) &&& (1431655765 : Int32))) &&& (858993459 : Int32)) + (((((x1 - ((((x1 : Int32).toUInt32 >>> ((1 : Int32).toUInt32 &&& Int32.toUInt32 31)).toInt32) &&& (1431655765 : Int32))) : Int32).toUInt32 >>> ((2 : Int32).toUInt32 &&& Int32.toUInt32 31)).toInt32) &&& (858993459 : Int32))) + ((((((x1 - ((((x1 : Int32).toUInt32 >>> ((1 : Int32).toUInt32 &&& Int32.toUInt32 31)).toInt32) &&& (1431655765 : Int32))) &&& (858993459 : Int32)) + (((((x1 - ((((x1 : Int32).toUInt32 >>> ((1 : Int32).toUInt32 &&& Int32.toUInt32 31)).toInt32) &&& (1431655765 : Int32))) : Int32).toUInt32 >>> ((2 : Int32).toUInt32 &&& Int32.toUInt32 31)).toInt32) &&& (858993459 : Int32))) : Int32).toUInt32 >>> ((4 : Int32).toUInt32 &&& Int32.toUInt32 31)).toInt32)) &&& (252645135 : Int32)) + ((((((((x1 - ((((x1 : Int32).toUInt32 >>> ((1 : Int32).toUInt32 &&& Int32.toUInt32 31)).toInt32) &&& (1431655765 : Int32))) &&& (858993459 : Int32)) + (((((x1 - ((((x1 : Int32).toUInt32 >>> ((1 : Int32).toUInt32 &&& Int32.toUInt32 31)).toInt32) &&& (1431655765 : Int32))) : Int32).toUInt32 >>> ((2 : Int32).toUInt32 &&& Int32.toUInt32 31)).toInt32) &&& (858993459 : Int32))) + ((((((x1 - ((((x1 : Int32).toUInt32 >>> ((1 : Int32).toUInt32 &&& Int32.toUInt32 31)).toInt32) &&& (1431655765 : Int32))) &&& (858993459 : Int32)) + (((((x1 - ((((x1 : Int32).toUInt32 >>> ((1 : Int32).toUInt32 &&& Int32.toUInt32 31)).toInt32) &&& (1431655765 : Int32))) : Int32).toUInt32 >>> ((2 : Int32).toUInt32 &&& Int32.toUInt32 31)).toInt32) &&& (858993459 : Int32))) : Int32).toUInt32 >>> ((4 : Int32).toUInt32 &&& Int32.toUInt32 31)).toInt32)) &&& (252645135 : Int32)) : Int32).toUInt32 >>> ((8 : Int32).toUInt32 &&& Int32.toUInt32 31)).toInt32))) (pcJ := 42) rfl L rfl rfl rfl ?_
  refine j_V.ldL xbbc_M xbbc_42 rfl (i := 0) (kd := 0) (v := .int ((((((x1 - ((((x1 : Int32).toUInt32 >>> ((1 : Int32).toUInt32 &&& Int32.toUInt32 31)).toInt32) &&& (1431655765 : Int32))) &&& (858993459 : Int32)) + (((((x1 - ((((x1 : Int32).toUInt32 >>> ((1 : Int32).toUInt32 &&& Int32.toUInt32 31)).toInt32) &&& (1431655765 : Int32))) : Int32).toUInt32 >>> ((2 : Int32).toUInt32 &&& Int32.toUInt32 31)).toInt32) &&& (858993459 : Int32))) + ((((((x1 - ((((x1 : Int32).toUInt32 >>> ((1 : Int32).toUInt32 &&& Int32.toUInt32 31)).toInt32) &&& (1431655765 : Int32))) &&& (858993459 : Int32)) + (((((x1 - ((((x1 : Int32).toUInt32 >>> ((1 : Int32).toUInt32 &&& Int32.toUInt32 31)).toInt32) &&& (1431655765 : Int32))) : Int32).toUInt32 >>> ((2 : Int32).toUInt32 &&& Int32.toUInt32 31)).toInt32) &&& (858993459 : Int32))) : Int32).toUInt32 >>> ((4 : Int32).toUInt32 &&& Int32.toUInt32 31)).toInt32)) &&& (252645135 : Int32)) + ((((((((x1 - ((((x1 : Int32).toUInt32 >>> ((1 : Int32).toUInt32 &&& Int32.toUInt32 31)).toInt32) &&& (1431655765 : Int32))) &&& (858993459 : Int32)) + (((((x1 - ((((x1 : Int32).toUInt32 >>> ((1 : Int32).toUInt32 &&& Int32.toUInt32 31)).toInt32) &&& (1431655765 : Int32))) : Int32).toUInt32 >>> ((2 : Int32).toUInt32 &&& Int32.toUInt32 31)).toInt32) &&& (858993459 : Int32))) + ((((((x1 - ((((x1 : Int32).toUInt32 >>> ((1 : Int32).toUInt32 &&& Int32.toUInt32 31)).toInt32) &&& (1431655765 : Int32))) &&& (858993459 : Int32)) + (((((x1 - ((((x1 : Int32).toUInt32 >>> ((1 : Int32).toUInt32 &&& Int32.toUInt32 31)).toInt32) &&& (1431655765 : Int32))) : Int32).toUInt32 >>> ((2 : Int32).toUInt32 &&& Int32.toUInt32 31)).toInt32) &&& (858993459 : Int32))) : Int32).toUInt32 >>> ((4 : Int32).toUInt32 &&& Int32.toUInt32 31)).toInt32)) &&& (252645135 : Int32)) : Int32).toUInt32 >>> ((8 : Int32).toUInt32 &&& Int32.toUInt32 31)).toInt32))) (pcJ := 43) rfl L rfl rfl rfl ?_
  refine j_V.one xbbc_M xbbc_43 (by decide) (pcJ := 45) (stJ := [.int 16, .int ((((((x1 - ((((x1 : Int32).toUInt32 >>> ((1 : Int32).toUInt32 &&& Int32.toUInt32 31)).toInt32) &&& (1431655765 : Int32))) &&& (858993459 : Int32)) + (((((x1 - ((((x1 : Int32).toUInt32 >>> ((1 : Int32).toUInt32 &&& Int32.toUInt32 31)).toInt32) &&& (1431655765 : Int32))) : Int32).toUInt32 >>> ((2 : Int32).toUInt32 &&& Int32.toUInt32 31)).toInt32) &&& (858993459 : Int32))) + ((((((x1 - ((((x1 : Int32).toUInt32 >>> ((1 : Int32).toUInt32 &&& Int32.toUInt32 31)).toInt32) &&& (1431655765 : Int32))) &&& (858993459 : Int32)) + (((((x1 - ((((x1 : Int32).toUInt32 >>> ((1 : Int32).toUInt32 &&& Int32.toUInt32 31)).toInt32) &&& (1431655765 : Int32))) : Int32).toUInt32 >>> ((2 : Int32).toUInt32 &&& Int32.toUInt32 31)).toInt32) &&& (858993459 : Int32))) : Int32).toUInt32 >>> ((4 : Int32).toUInt32 &&& Int32.toUInt32 31)).toInt32)) &&& (252645135 : Int32)) + ((((((((x1 - ((((x1 : Int32).toUInt32 >>> ((1 : Int32).toUInt32 &&& Int32.toUInt32 31)).toInt32) &&& (1431655765 : Int32))) &&& (858993459 : Int32)) + (((((x1 - ((((x1 : Int32).toUInt32 >>> ((1 : Int32).toUInt32 &&& Int32.toUInt32 31)).toInt32) &&& (1431655765 : Int32))) : Int32).toUInt32 >>> ((2 : Int32).toUInt32 &&& Int32.toUInt32 31)).toInt32) &&& (858993459 : Int32))) + ((((((x1 - ((((x1 : Int32).toUInt32 >>> ((1 : Int32).toUInt32 &&& Int32.toUInt32 31)).toInt32) &&& (1431655765 : Int32))) &&& (858993459 : Int32)) + (((((x1 - ((((x1 : Int32).toUInt32 >>> ((1 : Int32).toUInt32 &&& Int32.toUInt32 31)).toInt32) &&& (1431655765 : Int32))) : Int32).toUInt32 >>> ((2 : Int32).toUInt32 &&& Int32.toUInt32 31)).toInt32) &&& (858993459 : Int32))) : Int32).toUInt32 >>> ((4 : Int32).toUInt32 &&& Int32.toUInt32 31)).toInt32)) &&& (252645135 : Int32)) : Int32).toUInt32 >>> ((8 : Int32).toUInt32 &&& Int32.toUInt32 31)).toInt32)), .int ((((((x1 - ((((x1 : Int32).toUInt32 >>> ((1 : Int32).toUInt32 &&& Int32.toUInt32 31)).toInt32) &&& (1431655765 : Int32))) &&& (858993459 : Int32)) + (((((x1 - ((((x1 : Int32).toUInt32 >>> ((1 : Int32).toUInt32 &&& Int32.toUInt32 31)).toInt32) &&& (1431655765 : Int32))) : Int32).toUInt32 >>> ((2 : Int32).toUInt32 &&& Int32.toUInt32 31)).toInt32) &&& (858993459 : Int32))) + ((((((x1 - ((((x1 : Int32).toUInt32 >>> ((1 : Int32).toUInt32 &&& Int32.toUInt32 31)).toInt32) &&& (1431655765 : Int32))) &&& (858993459 : Int32)) + (((((x1 - ((((x1 : Int32).toUInt32 >>> ((1 : Int32).toUInt32 &&& Int32.toUInt32 31)).toInt32) &&& (1431655765 : Int32))) : Int32).toUInt32 >>> ((2 : Int32).toUInt32 &&& Int32.toUInt32 31)).toInt32) &&& (858993459 : Int32))) : Int32).toUInt32 >>> ((4 : Int32).toUInt32 &&& Int32.toUInt32 31)).toInt32)) &&& (252645135 : Int32)) + ((((((((x1 - ((((x1 : Int32).toUInt32 >>> ((1 : Int32).toUInt32 &&& Int32.toUInt32 31)).toInt32) &&& (1431655765 : Int32))) &&& (858993459 : Int32)) + (((((x1 - ((((x1 : Int32).toUInt32 >>> ((1 : Int32).toUInt32 &&& Int32.toUInt32 31)).toInt32) &&& (1431655765 : Int32))) : Int32).toUInt32 >>> ((2 : Int32).toUInt32 &&& Int32.toUInt32 31)).toInt32) &&& (858993459 : Int32))) + ((((((x1 - ((((x1 : Int32).toUInt32 >>> ((1 : Int32).toUInt32 &&& Int32.toUInt32 31)).toInt32) &&& (1431655765 : Int32))) &&& (858993459 : Int32)) + (((((x1 - ((((x1 : Int32).toUInt32 >>> ((1 : Int32).toUInt32 &&& Int32.toUInt32 31)).toInt32) &&& (1431655765 : Int32))) : Int32).toUInt32 >>> ((2 : Int32).toUInt32 &&& Int32.toUInt32 31)).toInt32) &&& (858993459 : Int32))) : Int32).toUInt32 >>> ((4 : Int32).toUInt32 &&& Int32.toUInt32 31)).toInt32)) &&& (252645135 : Int32)) : Int32).toUInt32 >>> ((8 : Int32).toUInt32 &&& Int32.toUInt32 31)).toInt32))]) rfl ?_
  refine j_V.one xbbc_M xbbc_45 (by decide) (pcJ := 46) (stJ := [.int (((((((((x1 - ((((x1 : Int32).toUInt32 >>> ((1 : Int32).toUInt32 &&& Int32.toUInt32 31)).toInt32) &&& (1431655765 : Int32))) &&& (858993459 : Int32)) + (((((x1 - ((((x1 : Int32).toUInt32 >>> ((1 : Int32).toUInt32 &&& Int32.toUInt32 31)).toInt32) &&& (1431655765 : Int32))) : Int32).toUInt32 >>> ((2 : Int32).toUInt32 &&& Int32.toUInt32 31)).toInt32) &&& (858993459 : Int32))) + ((((((x1 - ((((x1 : Int32).toUInt32 >>> ((1 : Int32).toUInt32 &&& Int32.toUInt32 31)).toInt32) &&& (1431655765 : Int32))) &&& (858993459 : Int32)) + (((((x1 - ((((x1 : Int32).toUInt32 >>> ((1 : Int32).toUInt32 &&& Int32.toUInt32 31)).toInt32) &&& (1431655765 : Int32))) : Int32).toUInt32 >>> ((2 : Int32).toUInt32 &&& Int32.toUInt32 31)).toInt32) &&& (858993459 : Int32))) : Int32).toUInt32 >>> ((4 : Int32).toUInt32 &&& Int32.toUInt32 31)).toInt32)) &&& (252645135 : Int32)) + ((((((((x1 - ((((x1 : Int32).toUInt32 >>> ((1 : Int32).toUInt32 &&& Int32.toUInt32 31)).toInt32) &&& (1431655765 : Int32))) &&& (858993459 : Int32)) + (((((x1 - ((((x1 : Int32).toUInt32 >>> ((1 : Int32).toUInt32 &&& Int32.toUInt32 31)).toInt32) &&& (1431655765 : Int32))) : Int32).toUInt32 >>> ((2 : Int32).toUInt32 &&& Int32.toUInt32 31)).toInt32) &&& (858993459 : Int32))) + ((((((x1 - ((((x1 : Int32).toUInt32 >>> ((1 : Int32).toUInt32 &&& Int32.toUInt32 31)).toInt32) &&& (1431655765 : Int32))) &&& (858993459 : Int32)) + (((((x1 - ((((x1 : Int32).toUInt32 >>> ((1 : Int32).toUInt32 &&& Int32.toUInt32 31)).toInt32) &&& (1431655765 : Int32))) : Int32).toUInt32 >>> ((2 : Int32).toUInt32 &&& Int32.toUInt32 31)).toInt32) &&& (858993459 : Int32))) : Int32).toUInt32 >>> ((4 : Int32).toUInt32 &&& Int32.toUInt32 31)).toInt32)) &&& (252645135 : Int32)) : Int32).toUInt32 >>> ((8 : Int32).toUInt32 &&& Int32.toUInt32 31)).toInt32)) : Int32).toUInt32 >>> ((16 : Int32).toUInt32 &&& Int32.toUInt32 31)).toInt32), .int ((((((x1 - ((((x1 : Int32).toUInt32 >>> ((1 : Int32).toUInt32 &&& Int32.toUInt32 31)).toInt32) &&& (1431655765 : Int32))) &&& (858993459 : Int32)) + (((((x1 - ((((x1 : Int32).toUInt32 >>> ((1 : Int32).toUInt32 &&& Int32.toUInt32 31)).toInt32) &&& (1431655765 : Int32))) : Int32).toUInt32 >>> ((2 : Int32).toUInt32 &&& Int32.toUInt32 31)).toInt32) &&& (858993459 : Int32))) + ((((((x1 - ((((x1 : Int32).toUInt32 >>> ((1 : Int32).toUInt32 &&& Int32.toUInt32 31)).toInt32) &&& (1431655765 : Int32))) &&& (858993459 : Int32)) + (((((x1 - ((((x1 : Int32).toUInt32 >>> ((1 : Int32).toUInt32 &&& Int32.toUInt32 31)).toInt32) &&& (1431655765 : Int32))) : Int32).toUInt32 >>> ((2 : Int32).toUInt32 &&& Int32.toUInt32 31)).toInt32) &&& (858993459 : Int32))) : Int32).toUInt32 >>> ((4 : Int32).toUInt32 &&& Int32.toUInt32 31)).toInt32)) &&& (252645135 : Int32)) + ((((((((x1 - ((((x1 : Int32).toUInt32 >>> ((1 : Int32).toUInt32 &&& Int32.toUInt32 31)).toInt32) &&& (1431655765 : Int32))) &&& (858993459 : Int32)) + (((((x1 - ((((x1 : Int32).toUInt32 >>> ((1 : Int32).toUInt32 &&& Int32.toUInt32 31)).toInt32) &&& (1431655765 : Int32))) : Int32).toUInt32 >>> ((2 : Int32).toUInt32 &&& Int32.toUInt32 31)).toInt32) &&& (858993459 : Int32))) + ((((((x1 - ((((x1 : Int32).toUInt32 >>> ((1 : Int32).toUInt32 &&& Int32.toUInt32 31)).toInt32) &&& (1431655765 : Int32))) &&& (858993459 : Int32)) + (((((x1 - ((((x1 : Int32).toUInt32 >>> ((1 : Int32).toUInt32 &&& Int32.toUInt32 31)).toInt32) &&& (1431655765 : Int32))) : Int32).toUInt32 >>> ((2 : Int32).toUInt32 &&& Int32.toUInt32 31)).toInt32) &&& (858993459 : Int32))) : Int32).toUInt32 >>> ((4 : Int32).toUInt32 &&& Int32.toUInt32 31)).toInt32)) &&& (252645135 : Int32)) : Int32).toUInt32 >>> ((8 : Int32).toUInt32 &&& Int32.toUInt32 31)).toInt32))]) rfl ?_
  refine j_V.one xbbc_M xbbc_46 (by decide) (pcJ := 47) (stJ := [.int (((((((x1 - ((((x1 : Int32).toUInt32 >>> ((1 : Int32).toUInt32 &&& Int32.toUInt32 31)).toInt32) &&& (1431655765 : Int32))) &&& (858993459 : Int32)) + (((((x1 - ((((x1 : Int32).toUInt32 >>> ((1 : Int32).toUInt32 &&& Int32.toUInt32 31)).toInt32) &&& (1431655765 : Int32))) : Int32).toUInt32 >>> ((2 : Int32).toUInt32 &&& Int32.toUInt32 31)).toInt32) &&& (858993459 : Int32))) + ((((((x1 - ((((x1 : Int32).toUInt32 >>> ((1 : Int32).toUInt32 &&& Int32.toUInt32 31)).toInt32) &&& (1431655765 : Int32))) &&& (858993459 : Int32)) + (((((x1 - ((((x1 : Int32).toUInt32 >>> ((1 : Int32).toUInt32 &&& Int32.toUInt32 31)).toInt32) &&& (1431655765 : Int32))) : Int32).toUInt32 >>> ((2 : Int32).toUInt32 &&& Int32.toUInt32 31)).toInt32) &&& (858993459 : Int32))) : Int32).toUInt32 >>> ((4 : Int32).toUInt32 &&& Int32.toUInt32 31)).toInt32)) &&& (252645135 : Int32)) + ((((((((x1 - ((((x1 : Int32).toUInt32 >>> ((1 : Int32).toUInt32 &&& Int32.toUInt32 31)).toInt32) &&& (1431655765 : Int32))) &&& (858993459 : Int32)) + (((((x1 - ((((x1 : Int32).toUInt32 >>> ((1 : Int32).toUInt32 &&& Int32.toUInt32 31)).toInt32) &&& (1431655765 : Int32))) : Int32).toUInt32 >>> ((2 : Int32).toUInt32 &&& Int32.toUInt32 31)).toInt32) &&& (858993459 : Int32))) + ((((((x1 - ((((x1 : Int32).toUInt32 >>> ((1 : Int32).toUInt32 &&& Int32.toUInt32 31)).toInt32) &&& (1431655765 : Int32))) &&& (858993459 : Int32)) + (((((x1 - ((((x1 : Int32).toUInt32 >>> ((1 : Int32).toUInt32 &&& Int32.toUInt32 31)).toInt32) &&& (1431655765 : Int32))) : Int32).toUInt32 >>> ((2 : Int32).toUInt32 &&& Int32.toUInt32 31)).toInt32) &&& (858993459 : Int32))) : Int32).toUInt32 >>> ((4 : Int32).toUInt32 &&& Int32.toUInt32 31)).toInt32)) &&& (252645135 : Int32)) : Int32).toUInt32 >>> ((8 : Int32).toUInt32 &&& Int32.toUInt32 31)).toInt32)) + (((((((((x1 - ((((x1 : Int32).toUInt32 >>> ((1 : Int32).toUInt32 &&& Int32.toUInt32 31)).toInt32) &&& (1431655765 : Int32))) &&& (858993459 : Int32)) + (((((x1 - ((((x1 : Int32).toUInt32 >>> ((1 : Int32).toUInt32 &&& Int32.toUInt32 31)).toInt32) &&& (1431655765 : Int32))) : Int32).toUInt32 >>> ((2 : Int32).toUInt32 &&& Int32.toUInt32 31)).toInt32) &&& (858993459 : Int32))) + ((((((x1 - ((((x1 : Int32).toUInt32 >>> ((1 : Int32).toUInt32 &&& Int32.toUInt32 31)).toInt32) &&& (1431655765 : Int32))) &&& (858993459 : Int32)) + (((((x1 - ((((x1 : Int32).toUInt32 >>> ((1 : Int32).toUInt32 &&& Int32.toUInt32 31)).toInt32) &&& (1431655765 : Int32))) : Int32).toUInt32 >>> ((2 : Int32).toUInt32 &&& Int32.toUInt32 31)).toInt32) &&& (858993459 : Int32))) : Int32).toUInt32 >>> ((4 : Int32).toUInt32 &&& Int32.toUInt32 31)).toInt32)) &&& (252645135 : Int32)) + ((((((((x1 - ((((x1 : Int32).toUInt32 >>> ((1 : Int32).toUInt32 &&& Int32.toUInt32 31)).toInt32) &&& (1431655765 : Int32))) &&& (858993459 : Int32)) + (((((x1 - ((((x1 : Int32).toUInt32 >>> ((1 : Int32).toUInt32 &&& Int32.toUInt32 31)).toInt32) &&& (1431655765 : Int32))) : Int32).toUInt32 >>> ((2 : Int32).toUInt32 &&& Int32.toUInt32 31)).toInt32) &&& (858993459 : Int32))) + ((((((x1 - ((((x1 : Int32).toUInt32 >>> ((1 : Int32).toUInt32 &&& Int32.toUInt32 31)).toInt32) &&& (1431655765 : Int32))) &&& (858993459 : Int32)) + (((((x1 - ((((x1 : Int32).toUInt32 >>> ((1 : Int32).toUInt32 &&& Int32.toUInt32 31)).toInt32) &&& (1431655765 : Int32))) : Int32).toUInt32 >>> ((2 : Int32).toUInt32 &&& Int32.toUInt32 31)).toInt32) &&& (858993459 : Int32))) : Int32).toUInt32 >>> ((4 : Int32).toUInt32 &&& Int32.toUInt32 31)).toInt32)) &&& (252645135 : Int32)) : Int32).toUInt32 >>> ((8 : Int32).toUInt32 &&& Int32.toUInt32 31)).toInt32)) : Int32).toUInt32 >>> ((16 : Int32).toUInt32 &&& Int32.toUInt32 31)).toInt32))]) rfl ?_
  refine j_V.stL xbbc_M xbbc_47 rfl (i := 0) (kd := 0) (kl' := [(0, .int (((((((x1 - ((((x1 : Int32).toUInt32 >>> ((1 : Int32).toUInt32 &&& Int32.toUInt32 31)).toInt32) &&& (1431655765 : Int32))) &&& (858993459 : Int32)) + (((((x1 - ((((x1 : Int32).toUInt32 >>> ((1 : Int32).toUInt32 &&& Int32.toUInt32 31)).toInt32) &&& (1431655765 : Int32))) : Int32).toUInt32 >>> ((2 : Int32).toUInt32 &&& Int32.toUInt32 31)).toInt32) &&& (858993459 : Int32))) + ((((((x1 - ((((x1 : Int32).toUInt32 >>> ((1 : Int32).toUInt32 &&& Int32.toUInt32 31)).toInt32) &&& (1431655765 : Int32))) &&& (858993459 : Int32)) + (((((x1 - ((((x1 : Int32).toUInt32 >>> ((1 : Int32).toUInt32 &&& Int32.toUInt32 31)).toInt32) &&& (1431655765 : Int32))) : Int32).toUInt32 >>> ((2 : Int32).toUInt32 &&& Int32.toUInt32 31)).toInt32) &&& (858993459 : Int32))) : Int32).toUInt32 >>> ((4 : Int32).toUInt32 &&& Int32.toUInt32 31)).toInt32)) &&& (252645135 : Int32)) + ((((((((x1 - ((((x1 : Int32).toUInt32 >>> ((1 : Int32).toUInt32 &&& Int32.toUInt32 31)).toInt32) &&& (1431655765 : Int32))) &&& (858993459 : Int32)) + (((((x1 - ((((x1 : Int32).toUInt32 >>> ((1 : Int32).toUInt32 &&& Int32.toUInt32 31)).toInt32) &&& (1431655765 : Int32))) : Int32).toUInt32 >>> ((2 : Int32).toUInt32 &&& Int32.toUInt32 31)).toInt32) &&& (858993459 : Int32))) + ((((((x1 - ((((x1 : Int32).toUInt32 >>> ((1 : Int32).toUInt32 &&& Int32.toUInt32 31)).toInt32) &&& (1431655765 : Int32))) &&& (858993459 : Int32)) + (((((x1 - ((((x1 : Int32).toUInt32 >>> ((1 : Int32).toUInt32 &&& Int32.toUInt32 31)).toInt32) &&& (1431655765 : Int32))) : Int32).toUInt32 >>> ((2 : Int32).toUInt32 &&& Int32.toUInt32 31)).toInt32) &&& (858993459 : Int32))) : Int32).toUInt32 >>> ((4 : Int32).toUInt32 &&& Int32.toUInt32 31)).toInt32)) &&& (252645135 : Int32)) : Int32).toUInt32 >>> ((8 : Int32).toUInt32 &&& Int32.toUInt32 31)).toInt32)) + (((((((((x1 - ((((x1 : Int32).toUInt32 >>> ((1 : Int32).toUInt32 &&& Int32.toUInt32 31)).toInt32) &&& (1431655765 : Int32))) &&& (858993459 : Int32)) + (((((x1 - ((((x1 : Int32).toUInt32 >>> ((1 : Int32).toUInt32 &&& Int32.toUInt32 31)).toInt32) &&& (1431655765 : Int32))) : Int32).toUInt32 >>> ((2 : Int32).toUInt32 &&& Int32.toUInt32 31)).toInt32) &&& (858993459 : Int32))) + ((((((x1 - ((((x1 : Int32).toUInt32 >>> ((1 : Int32).toUInt32 &&& Int32.toUInt32 31)).toInt32) &&& (1431655765 : Int32))) &&& (858993459 : Int32)) + (((((x1 - ((((x1 : Int32).toUInt32 >>> ((1 : Int32).toUInt32 &&& Int32.toUInt32 31)).toInt32) &&& (1431655765 : Int32))) : Int32).toUInt32 >>> ((2 : Int32).toUInt32 &&& Int32.toUInt32 31)).toInt32) &&& (858993459 : Int32))) : Int32).toUInt32 >>> ((4 : Int32).toUInt32 &&& Int32.toUInt32 31)).toInt32)) &&& (252645135 : Int32)) + ((((((((x1 - ((((x1 : Int32).toUInt32 >>> ((1 : Int32).toUInt32 &&& Int32.toUInt32 31)).toInt32) &&& (1431655765 : Int32))) &&& (858993459 : Int32)) + (((((x1 - ((((x1 : Int32).toUInt32 >>> ((1 : Int32).toUInt32 &&& Int32.toUInt32 31)).toInt32) &&& (1431655765 : Int32))) : Int32).toUInt32 >>> ((2 : Int32).toUInt32 &&& Int32.toUInt32 31)).toInt32) &&& (858993459 : Int32))) + ((((((x1 - ((((x1 : Int32).toUInt32 >>> ((1 : Int32).toUInt32 &&& Int32.toUInt32 31)).toInt32) &&& (1431655765 : Int32))) &&& (858993459 : Int32)) + (((((x1 - ((((x1 : Int32).toUInt32 >>> ((1 : Int32).toUInt32 &&& Int32.toUInt32 31)).toInt32) &&& (1431655765 : Int32))) : Int32).toUInt32 >>> ((2 : Int32).toUInt32 &&& Int32.toUInt32 31)).toInt32) &&& (858993459 : Int32))) : Int32).toUInt32 >>> ((4 : Int32).toUInt32 &&& Int32.toUInt32 31)).toInt32)) &&& (252645135 : Int32)) : Int32).toUInt32 >>> ((8 : Int32).toUInt32 &&& Int32.toUInt32 31)).toInt32)) : Int32).toUInt32 >>> ((16 : Int32).toUInt32 &&& Int32.toUInt32 31)).toInt32)))]) (pcJ := 48) rfl L rfl (by decide) rfl rfl rfl (fun lv L => ?_)
  refine j_V.ldL xbbc_M xbbc_48 rfl (i := 0) (kd := 0) (v := .int (((((((x1 - ((((x1 : Int32).toUInt32 >>> ((1 : Int32).toUInt32 &&& Int32.toUInt32 31)).toInt32) &&& (1431655765 : Int32))) &&& (858993459 : Int32)) + (((((x1 - ((((x1 : Int32).toUInt32 >>> ((1 : Int32).toUInt32 &&& Int32.toUInt32 31)).toInt32) &&& (1431655765 : Int32))) : Int32).toUInt32 >>> ((2 : Int32).toUInt32 &&& Int32.toUInt32 31)).toInt32) &&& (858993459 : Int32))) + ((((((x1 - ((((x1 : Int32).toUInt32 >>> ((1 : Int32).toUInt32 &&& Int32.toUInt32 31)).toInt32) &&& (1431655765 : Int32))) &&& (858993459 : Int32)) + (((((x1 - ((((x1 : Int32).toUInt32 >>> ((1 : Int32).toUInt32 &&& Int32.toUInt32 31)).toInt32) &&& (1431655765 : Int32))) : Int32).toUInt32 >>> ((2 : Int32).toUInt32 &&& Int32.toUInt32 31)).toInt32) &&& (858993459 : Int32))) : Int32).toUInt32 >>> ((4 : Int32).toUInt32 &&& Int32.toUInt32 31)).toInt32)) &&& (252645135 : Int32)) + ((((((((x1 - ((((x1 : Int32).toUInt32 >>> ((1 : Int32).toUInt32 &&& Int32.toUInt32 31)).toInt32) &&& (1431655765 : Int32))) &&& (858993459 : Int32)) + (((((x1 - ((((x1 : Int32).toUInt32 >>> ((1 : Int32).toUInt32 &&& Int32.toUInt32 31)).toInt32) &&& (1431655765 : Int32))) : Int32).toUInt32 >>> ((2 : Int32).toUInt32 &&& Int32.toUInt32 31)).toInt32) &&& (858993459 : Int32))) + ((((((x1 - ((((x1 : Int32).toUInt32 >>> ((1 : Int32).toUInt32 &&& Int32.toUInt32 31)).toInt32) &&& (1431655765 : Int32))) &&& (858993459 : Int32)) + (((((x1 - ((((x1 : Int32).toUInt32 >>> ((1 : Int32).toUInt32 &&& Int32.toUInt32 31)).toInt32) &&& (1431655765 : Int32))) : Int32).toUInt32 >>> ((2 : Int32).toUInt32 &&& Int32.toUInt32 31)).toInt32) &&& (858993459 : Int32))) : Int32).toUInt32 >>> ((4 : Int32).toUInt32 &&& Int32.toUInt32 31)).toInt32)) &&& (252645135 : Int32)) : Int32).toUInt32 >>> ((8 : Int32).toUInt32 &&& Int32.toUInt32 31)).toInt32)) + (((((((((x1 - ((((x1 : Int32).toUInt32 >>> ((1 : Int32).toUInt32 &&& Int32.toUInt32 31)).toInt32) &&& (1431655765 : Int32))) &&& (858993459 : Int32)) + (((((x1 - ((((x1 : Int32).toUInt32 >>> ((1 : Int32).toUInt32 &&& Int32.toUInt32 31)).toInt32) &&& (1431655765 : Int32))) : Int32).toUInt32 >>> ((2 : Int32).toUInt32 &&& Int32.toUInt32 31)).toInt32) &&& (858993459 : Int32))) + ((((((x1 - ((((x1 : Int32).toUInt32 >>> ((1 : Int32).toUInt32 &&& Int32.toUInt32 31)).toInt32) &&& (1431655765 : Int32))) &&& (858993459 : Int32)) + (((((x1 - ((((x1 : Int32).toUInt32 >>> ((1 : Int32).toUInt32 &&& Int32.toUInt32 31)).toInt32) &&& (1431655765 : Int32))) : Int32).toUInt32 >>> ((2 : Int32).toUInt32 &&& Int32.toUInt32 31)).toInt32) &&& (858993459 : Int32))) : Int32).toUInt32 >>> ((4 : Int32).toUInt32 &&& Int32.toUInt32 31)).toInt32)) &&& (252645135 : Int32)) + ((((((((x1 - ((((x1 : Int32).toUInt32 >>> ((1 : Int32).toUInt32 &&& Int32.toUInt32 31)).toInt32) &&& (1431655765 : Int32))) &&& (858993459 : Int32)) + (((((x1 - ((((x1 : Int32).toUInt32 >>> ((1 : Int32).toUInt32 &&& Int32.toUInt32 31)).toInt32) &&& (1431655765 : Int32))) : Int32).toUInt32 >>> ((2 : Int32).toUInt32 &&& Int32.toUInt32 31)).toInt32) &&& (858993459 : Int32))) + ((((((x1 - ((((x1 : Int32).toUInt32 >>> ((1 : Int32).toUInt32 &&& Int32.toUInt32 31)).toInt32) &&& (1431655765 : Int32))) &&& (858993459 : Int32)) + (((((x1 - ((((x1 : Int32).toUInt32 >>> ((1 : Int32).toUInt32 &&& Int32.toUInt32 31)).toInt32) &&& (1431655765 : Int32))) : Int32).toUInt32 >>> ((2 : Int32).toUInt32 &&& Int32.toUInt32 31)).toInt32) &&& (858993459 : Int32))) : Int32).toUInt32 >>> ((4 : Int32).toUInt32 &&& Int32.toUInt32 31)).toInt32)) &&& (252645135 : Int32)) : Int32).toUInt32 >>> ((8 : Int32).toUInt32 &&& Int32.toUInt32 31)).toInt32)) : Int32).toUInt32 >>> ((16 : Int32).toUInt32 &&& Int32.toUInt32 31)).toInt32))) (pcJ := 49) rfl L rfl rfl rfl ?_
  refine j_V.one xbbc_M xbbc_49 (by decide) (pcJ := 51) (stJ := [.int 63, .int (((((((x1 - ((((x1 : Int32).toUInt32 >>> ((1 : Int32).toUInt32 &&& Int32.toUInt32 31)).toInt32) &&& (1431655765 : Int32))) &&& (858993459 : Int32)) + (((((x1 - ((((x1 : Int32).toUInt32 >>> ((1 : Int32).toUInt32 &&& Int32.toUInt32 31)).toInt32) &&& (1431655765 : Int32))) : Int32).toUInt32 >>> ((2 : Int32).toUInt32 &&& Int32.toUInt32 31)).toInt32) &&& (858993459 : Int32))) + ((((((x1 - ((((x1 : Int32).toUInt32 >>> ((1 : Int32).toUInt32 &&& Int32.toUInt32 31)).toInt32) &&& (1431655765 : Int32))) &&& (858993459 : Int32)) + (((((x1 - ((((x1 : Int32).toUInt32 >>> ((1 : Int32).toUInt32 &&& Int32.toUInt32 31)).toInt32) &&& (1431655765 : Int32))) : Int32).toUInt32 >>> ((2 : Int32).toUInt32 &&& Int32.toUInt32 31)).toInt32) &&& (858993459 : Int32))) : Int32).toUInt32 >>> ((4 : Int32).toUInt32 &&& Int32.toUInt32 31)).toInt32)) &&& (252645135 : Int32)) + ((((((((x1 - ((((x1 : Int32).toUInt32 >>> ((1 : Int32).toUInt32 &&& Int32.toUInt32 31)).toInt32) &&& (1431655765 : Int32))) &&& (858993459 : Int32)) + (((((x1 - ((((x1 : Int32).toUInt32 >>> ((1 : Int32).toUInt32 &&& Int32.toUInt32 31)).toInt32) &&& (1431655765 : Int32))) : Int32).toUInt32 >>> ((2 : Int32).toUInt32 &&& Int32.toUInt32 31)).toInt32) &&& (858993459 : Int32))) + ((((((x1 - ((((x1 : Int32).toUInt32 >>> ((1 : Int32).toUInt32 &&& Int32.toUInt32 31)).toInt32) &&& (1431655765 : Int32))) &&& (858993459 : Int32)) + (((((x1 - ((((x1 : Int32).toUInt32 >>> ((1 : Int32).toUInt32 &&& Int32.toUInt32 31)).toInt32) &&& (1431655765 : Int32))) : Int32).toUInt32 >>> ((2 : Int32).toUInt32 &&& Int32.toUInt32 31)).toInt32) &&& (858993459 : Int32))) : Int32).toUInt32 >>> ((4 : Int32).toUInt32 &&& Int32.toUInt32 31)).toInt32)) &&& (252645135 : Int32)) : Int32).toUInt32 >>> ((8 : Int32).toUInt32 &&& Int32.toUInt32 31)).toInt32)) + (((((((((x1 - ((((x1 : Int32).toUInt32 >>> ((1 : Int32).toUInt32 &&& Int32.toUInt32 31)).toInt32) &&& (1431655765 : Int32))) &&& (858993459 : Int32)) + (((((x1 - ((((x1 : Int32).toUInt32 >>> ((1 : Int32).toUInt32 &&& Int32.toUInt32 31)).toInt32) &&& (1431655765 : Int32))) : Int32).toUInt32 >>> ((2 : Int32).toUInt32 &&& Int32.toUInt32 31)).toInt32) &&& (858993459 : Int32))) + ((((((x1 - ((((x1 : Int32).toUInt32 >>> ((1 : Int32).toUInt32 &&& Int32.toUInt32 31)).toInt32) &&& (1431655765 : Int32))) &&& (858993459 : Int32)) + (((((x1 - ((((x1 : Int32).toUInt32 >>> ((1 : Int32).toUInt32 &&& Int32.toUInt32 31)).toInt32) &&& (1431655765 : Int32))) : Int32).toUInt32 >>> ((2 : Int32).toUInt32 &&& Int32.toUInt32 31)).toInt32) &&& (858993459 : Int32))) : Int32).toUInt32 >>> ((4 : Int32).toUInt32 &&& Int32.toUInt32 31)).toInt32)) &&& (252645135 : Int32)) + ((((((((x1 - ((((x1 : Int32).toUInt32 >>> ((1 : Int32).toUInt32 &&& Int32.toUInt32 31)).toInt32) &&& (1431655765 : Int32))) &&& (858993459 : Int32)) + (((((x1 - ((((x1 : Int32).toUInt32 >>> ((1 : Int32).toUInt32 &&& Int32.toUInt32 31)).toInt32) &&& (1431655765 : Int32))) : Int32).toUInt32 >>> ((2 : Int32).toUInt32 &&& Int32.toUInt32 31)).toInt32) &&& (858993459 : Int32))) + ((((((x1 - ((((x1 : Int32).toUInt32 >>> ((1 : Int32).toUInt32 &&& Int32.toUInt32 31)).toInt32) &&& (1431655765 : Int32))) &&& (858993459 : Int32)) + (((((x1 - ((((x1 : Int32).toUInt32 >>> ((1 : Int32).toUInt32 &&& Int32.toUInt32 31)).toInt32) &&& (1431655765 : Int32))) : Int32).toUInt32 >>> ((2 : Int32).toUInt32 &&& Int32.toUInt32 31)).toInt32) &&& (858993459 : Int32))) : Int32).toUInt32 >>> ((4 : Int32).toUInt32 &&& Int32.toUInt32 31)).toInt32)) &&& (252645135 : Int32)) : Int32).toUInt32 >>> ((8 : Int32).toUInt32 &&& Int32.toUInt32 31)).toInt32)) : Int32).toUInt32 >>> ((16 : Int32).toUInt32 &&& Int32.toUInt32 31)).toInt32))]) rfl ?_
  refine j_V.one xbbc_M xbbc_51 (by decide) (pcJ := 52) (stJ := [.int ((((((((x1 - ((((x1 : Int32).toUInt32 >>> ((1 : Int32).toUInt32 &&& Int32.toUInt32 31)).toInt32) &&& (1431655765 : Int32))) &&& (858993459 : Int32)) + (((((x1 - ((((x1 : Int32).toUInt32 >>> ((1 : Int32).toUInt32 &&& Int32.toUInt32 31)).toInt32) &&& (1431655765 : Int32))) : Int32).toUInt32 >>> ((2 : Int32).toUInt32 &&& Int32.toUInt32 31)).toInt32) &&& (858993459 : Int32))) + ((((((x1 - ((((x1 : Int32).toUInt32 >>> ((1 : Int32).toUInt32 &&& Int32.toUInt32 31)).toInt32) &&& (1431655765 : Int32))) &&& (858993459 : Int32)) + (((((x1 - ((((x1 : Int32).toUInt32 >>> ((1 : Int32).toUInt32 &&& Int32.toUInt32 31)).toInt32) &&& (1431655765 : Int32))) : Int32).toUInt32 >>> ((2 : Int32).toUInt32 &&& Int32.toUInt32 31)).toInt32) &&& (858993459 : Int32))) : Int32).toUInt32 >>> ((4 : Int32).toUInt32 &&& Int32.toUInt32 31)).toInt32)) &&& (252645135 : Int32)) + ((((((((x1 - ((((x1 : Int32).toUInt32 >>> ((1 : Int32).toUInt32 &&& Int32.toUInt32 31)).toInt32) &&& (1431655765 : Int32))) &&& (858993459 : Int32)) + (((((x1 - ((((x1 : Int32).toUInt32 >>> ((1 : Int32).toUInt32 &&& Int32.toUInt32 31)).toInt32) &&& (1431655765 : Int32))) : Int32).toUInt32 >>> ((2 : Int32).toUInt32 &&& Int32.toUInt32 31)).toInt32) &&& (858993459 : Int32))) + ((((((x1 - ((((x1 : Int32).toUInt32 >>> ((1 : Int32).toUInt32 &&& Int32.toUInt32 31)).toInt32) &&& (1431655765 : Int32))) &&& (858993459 : Int32)) + (((((x1 - ((((x1 : Int32).toUInt32 >>> ((1 : Int32).toUInt32 &&& Int32.toUInt32 31)).toInt32) &&& (1431655765 : Int32))) : Int32).toUInt32 >>> ((2 : Int32).toUInt32 &&& Int32.toUInt32 31)).toInt32) &&& (858993459 : Int32))) : Int32).toUInt32 >>> ((4 : Int32).toUInt32 &&& Int32.toUInt32 31)).toInt32)) &&& (252645135 : Int32)) : Int32).toUInt32 >>> ((8 : Int32).toUInt32 &&& Int32.toUInt32 31)).toInt32)) + (((((((((x1 - ((((x1 : Int32).toUInt32 >>> ((1 : Int32).toUInt32 &&& Int32.toUInt32 31)).toInt32) &&& (1431655765 : Int32))) &&& (858993459 : Int32)) + (((((x1 - ((((x1 : Int32).toUInt32 >>> ((1 : Int32).toUInt32 &&& Int32.toUInt32 31)).toInt32) &&& (1431655765 : Int32))) : Int32).toUInt32 >>> ((2 : Int32).toUInt32 &&& Int32.toUInt32 31)).toInt32) &&& (858993459 : Int32))) + ((((((x1 - ((((x1 : Int32).toUInt32 >>> ((1 : Int32).toUInt32 &&& Int32.toUInt32 31)).toInt32) &&& (1431655765 : Int32))) &&& (858993459 : Int32)) + (((((x1 - ((((x1 : Int32).toUInt32 >>> ((1 : Int32).toUInt32 &&& Int32.toUInt32 31)).toInt32) &&& (1431655765 : Int32))) : Int32).toUInt32 >>> ((2 : Int32).toUInt32 &&& Int32.toUInt32 31)).toInt32) &&& (858993459 : Int32))) : Int32).toUInt32 >>> ((4 : Int32).toUInt32 &&& Int32.toUInt32 31)).toInt32)) &&& (252645135 : Int32)) + ((((((((x1 - ((((x1 : Int32).toUInt32 >>> ((1 : Int32).toUInt32 &&& Int32.toUInt32 31)).toInt32) &&& (1431655765 : Int32))) &&& (858993459 : Int32)) + (((((x1 - ((((x1 : Int32).toUInt32 >>> ((1 : Int32).toUInt32 &&& Int32.toUInt32 31)).toInt32) &&& (1431655765 : Int32))) : Int32).toUInt32 >>> ((2 : Int32).toUInt32 &&& Int32.toUInt32 31)).toInt32) &&& (858993459 : Int32))) + ((((((x1 - ((((x1 : Int32).toUInt32 >>> ((1 : Int32).toUInt32 &&& Int32.toUInt32 31)).toInt32) &&& (1431655765 : Int32))) &&& (858993459 : Int32)) + (((((x1 - ((((x1 : Int32).toUInt32 >>> ((1 : Int32).toUInt32 &&& Int32.toUInt32 31)).toInt32) &&& (1431655765 : Int32))) : Int32).toUInt32 >>> ((2 : Int32).toUInt32 &&& Int32.toUInt32 31)).toInt32) &&& (858993459 : Int32))) : Int32).toUInt32 >>> ((4 : Int32).toUInt32 &&& Int32.toUInt32 31)).toInt32)) &&& (252645135 : Int32)) : Int32).toUInt32 >>> ((8 : Int32).toUInt32 &&& Int32.toUInt32 31)).toInt32)) : Int32).toUInt32 >>> ((16 : Int32).toUInt32 &&& Int32.toUInt32 31)).toInt32)) &&& 63)]) rfl ?_
  exact j_V.ri xbbc_M xbbc_52 ⟨congrArg (fun z => some (Value.int z)) (Eq.symm (show (x_bitCount x1) = ((((((((x1 - ((((x1 : Int32).toUInt32 >>> ((1 : Int32).toUInt32 &&& Int32.toUInt32 31)).toInt32) &&& (1431655765 : Int32))) &&& (858993459 : Int32)) + (((((x1 - ((((x1 : Int32).toUInt32 >>> ((1 : Int32).toUInt32 &&& Int32.toUInt32 31)).toInt32) &&& (1431655765 : Int32))) : Int32).toUInt32 >>> ((2 : Int32).toUInt32 &&& Int32.toUInt32 31)).toInt32) &&& (858993459 : Int32))) + ((((((x1 - ((((x1 : Int32).toUInt32 >>> ((1 : Int32).toUInt32 &&& Int32.toUInt32 31)).toInt32) &&& (1431655765 : Int32))) &&& (858993459 : Int32)) + (((((x1 - ((((x1 : Int32).toUInt32 >>> ((1 : Int32).toUInt32 &&& Int32.toUInt32 31)).toInt32) &&& (1431655765 : Int32))) : Int32).toUInt32 >>> ((2 : Int32).toUInt32 &&& Int32.toUInt32 31)).toInt32) &&& (858993459 : Int32))) : Int32).toUInt32 >>> ((4 : Int32).toUInt32 &&& Int32.toUInt32 31)).toInt32)) &&& (252645135 : Int32)) + ((((((((x1 - ((((x1 : Int32).toUInt32 >>> ((1 : Int32).toUInt32 &&& Int32.toUInt32 31)).toInt32) &&& (1431655765 : Int32))) &&& (858993459 : Int32)) + (((((x1 - ((((x1 : Int32).toUInt32 >>> ((1 : Int32).toUInt32 &&& Int32.toUInt32 31)).toInt32) &&& (1431655765 : Int32))) : Int32).toUInt32 >>> ((2 : Int32).toUInt32 &&& Int32.toUInt32 31)).toInt32) &&& (858993459 : Int32))) + ((((((x1 - ((((x1 : Int32).toUInt32 >>> ((1 : Int32).toUInt32 &&& Int32.toUInt32 31)).toInt32) &&& (1431655765 : Int32))) &&& (858993459 : Int32)) + (((((x1 - ((((x1 : Int32).toUInt32 >>> ((1 : Int32).toUInt32 &&& Int32.toUInt32 31)).toInt32) &&& (1431655765 : Int32))) : Int32).toUInt32 >>> ((2 : Int32).toUInt32 &&& Int32.toUInt32 31)).toInt32) &&& (858993459 : Int32))) : Int32).toUInt32 >>> ((4 : Int32).toUInt32 &&& Int32.toUInt32 31)).toInt32)) &&& (252645135 : Int32)) : Int32).toUInt32 >>> ((8 : Int32).toUInt32 &&& Int32.toUInt32 31)).toInt32)) + (((((((((x1 - ((((x1 : Int32).toUInt32 >>> ((1 : Int32).toUInt32 &&& Int32.toUInt32 31)).toInt32) &&& (1431655765 : Int32))) &&& (858993459 : Int32)) + (((((x1 - ((((x1 : Int32).toUInt32 >>> ((1 : Int32).toUInt32 &&& Int32.toUInt32 31)).toInt32) &&& (1431655765 : Int32))) : Int32).toUInt32 >>> ((2 : Int32).toUInt32 &&& Int32.toUInt32 31)).toInt32) &&& (858993459 : Int32))) + ((((((x1 - ((((x1 : Int32).toUInt32 >>> ((1 : Int32).toUInt32 &&& Int32.toUInt32 31)).toInt32) &&& (1431655765 : Int32))) &&& (858993459 : Int32)) + (((((x1 - ((((x1 : Int32).toUInt32 >>> ((1 : Int32).toUInt32 &&& Int32.toUInt32 31)).toInt32) &&& (1431655765 : Int32))) : Int32).toUInt32 >>> ((2 : Int32).toUInt32 &&& Int32.toUInt32 31)).toInt32) &&& (858993459 : Int32))) : Int32).toUInt32 >>> ((4 : Int32).toUInt32 &&& Int32.toUInt32 31)).toInt32)) &&& (252645135 : Int32)) + ((((((((x1 - ((((x1 : Int32).toUInt32 >>> ((1 : Int32).toUInt32 &&& Int32.toUInt32 31)).toInt32) &&& (1431655765 : Int32))) &&& (858993459 : Int32)) + (((((x1 - ((((x1 : Int32).toUInt32 >>> ((1 : Int32).toUInt32 &&& Int32.toUInt32 31)).toInt32) &&& (1431655765 : Int32))) : Int32).toUInt32 >>> ((2 : Int32).toUInt32 &&& Int32.toUInt32 31)).toInt32) &&& (858993459 : Int32))) + ((((((x1 - ((((x1 : Int32).toUInt32 >>> ((1 : Int32).toUInt32 &&& Int32.toUInt32 31)).toInt32) &&& (1431655765 : Int32))) &&& (858993459 : Int32)) + (((((x1 - ((((x1 : Int32).toUInt32 >>> ((1 : Int32).toUInt32 &&& Int32.toUInt32 31)).toInt32) &&& (1431655765 : Int32))) : Int32).toUInt32 >>> ((2 : Int32).toUInt32 &&& Int32.toUInt32 31)).toInt32) &&& (858993459 : Int32))) : Int32).toUInt32 >>> ((4 : Int32).toUInt32 &&& Int32.toUInt32 31)).toInt32)) &&& (252645135 : Int32)) : Int32).toUInt32 >>> ((8 : Int32).toUInt32 &&& Int32.toUInt32 31)).toInt32)) : Int32).toUInt32 >>> ((16 : Int32).toUInt32 &&& Int32.toUInt32 31)).toInt32)) &&& 63) from rfl)), rfl⟩
set_option maxRecDepth 100000 in
theorem xbwisWi_M : j_meth jP 162 = some (yX9_isWithin, cX9_isWithin, 3, (some .boolean), 3, false, 9) := rfl
set_option maxRecDepth 100000 in
theorem xbwisWi_0 : j_code jP 162 0 = some (.iload_n 0) := rfl
set_option maxRecDepth 100000 in
theorem xbwisWi_1 : j_code jP 162 1 = some (.iload_n 1) := rfl
set_option maxRecDepth 100000 in
theorem xbwisWi_2 : j_code jP 162 2 = some (.if_icmp .lt 12) := rfl
set_option maxRecDepth 100000 in
theorem xbwisWi_5 : j_code jP 162 5 = some (.iload_n 0) := rfl
set_option maxRecDepth 100000 in
theorem xbwisWi_6 : j_code jP 162 6 = some (.iload_n 2) := rfl
set_option maxRecDepth 100000 in
theorem xbwisWi_7 : j_code jP 162 7 = some (.if_icmp .gt 7) := rfl
set_option maxRecDepth 100000 in
theorem xbwisWi_10 : j_code jP 162 10 = some (.iconst 1) := rfl
set_option maxRecDepth 100000 in
theorem xbwisWi_11 : j_code jP 162 11 = some (.goto 4) := rfl
set_option maxRecDepth 100000 in
theorem xbwisWi_14 : j_code jP 162 14 = some (.iconst 0) := rfl
set_option maxRecDepth 100000 in
theorem xbwisWi_15 : j_code jP 162 15 = some (.ireturn) := rfl
set_option maxRecDepth 1000000 in
theorem xbwisWi_ok  {x1 x2 x3 : Int32} {d : Nat} {h h0 : J_H} (K : KN h [] h0) : j_V jP d 162 0 (lv_args 0 [.int x1, .int x2, .int x3]) [] h (fun rv h' => rv = some (.int (x_isWithin x1 x2 x3)) ∧ h' = h) := by
  show j_V jP d 162 0 [(0, .int x1), (1, .int x2), (2, .int x3)] [] h _
  obtain ⟨lv, elv, L⟩ : ∃ lv, lv = [(0, .int x1), (1, .int x2), (2, .int x3)] ∧ LK lv [(0, .int x1), (1, .int x2), (2, .int x3)] := ⟨_, rfl, LK.rf⟩
  rw [← elv]
  clear elv
  refine j_V.ldL xbwisWi_M xbwisWi_0 rfl (i := 0) (kd := 0) (v := .int x1) (pcJ := 1) rfl L rfl rfl rfl ?_
  refine j_V.ldL xbwisWi_M xbwisWi_1 rfl (i := 1) (kd := 0) (v := .int x2) (pcJ := 2) rfl L rfl rfl rfl ?_
  refine j_V.cut (b := 15) (stJ := [.int ((if x1 < x2 then 0 else (if x3 < x1 then 0 else 1)) : Int32)]) (fun v => [(0, .int x1), (1, .int x2), (2, .int x3)]) ((if x1 < x2 then 0 else (if x3 < x1 then 0 else 1)) : Int32) (fun Q kk => ?_) (fun lv L => ?_)
  · refine j_V.icmp xbwisWi_M xbwisWi_2 (t := 14) rfl (fun c2_0 => ?_) (fun c2_0 => ?_)
    · replace c2_0 : x1 < x2 := jd_lt c2_0
      refine j_V.one xbwisWi_M xbwisWi_14 (by decide) (pcJ := 15) (stJ := [.int 0]) rfl ?_
      exact Eq.subst (motive := fun z => j_V jP _ 162 15 _ (.int z :: []) h Q) (show ((if x1 < x2 then 0 else (if x3 < x1 then 0 else 1)) : Int32) = 0 from (if_pos c2_0).trans (rfl)) (kk _ L)
    · replace c2_0 : ¬ (x1 < x2) := jd_ltn c2_0
      refine j_V.ldL xbwisWi_M xbwisWi_5 rfl (i := 0) (kd := 0) (v := .int x1) (pcJ := 6) rfl L rfl rfl rfl ?_
      refine j_V.ldL xbwisWi_M xbwisWi_6 rfl (i := 2) (kd := 0) (v := .int x3) (pcJ := 7) rfl L rfl rfl rfl ?_
      refine j_V.icmp xbwisWi_M xbwisWi_7 (t := 14) rfl (fun c7_1 => ?_) (fun c7_1 => ?_)
      · replace c7_1 : x3 < x1 := jd_gt c7_1
        refine j_V.one xbwisWi_M xbwisWi_14 (by decide) (pcJ := 15) (stJ := [.int 0]) rfl ?_
        exact Eq.subst (motive := fun z => j_V jP _ 162 15 _ (.int z :: []) h Q) (show ((if x1 < x2 then 0 else (if x3 < x1 then 0 else 1)) : Int32) = 0 from (if_neg c2_0).trans ((if_pos c7_1).trans (rfl))) (kk _ L)
      · replace c7_1 : ¬ (x3 < x1) := jd_gtn c7_1
        refine j_V.one xbwisWi_M xbwisWi_10 (by decide) (pcJ := 11) (stJ := [.int 1]) rfl ?_
        refine j_V.gto xbwisWi_M xbwisWi_11 (t := 15) rfl ?_
        exact Eq.subst (motive := fun z => j_V jP _ 162 15 _ (.int z :: []) h Q) (show ((if x1 < x2 then 0 else (if x3 < x1 then 0 else 1)) : Int32) = 1 from (if_neg c2_0).trans ((if_neg c7_1).trans (rfl))) (kk _ L)
  exact j_V.ri xbwisWi_M xbwisWi_15 ⟨congrArg (fun z => some (Value.int z)) (Eq.symm (show (x_isWithin x1 x2 x3) = ((if x1 < x2 then 0 else (if x3 < x1 then 0 else 1)) : Int32) from rfl)), rfl⟩
set_option maxRecDepth 100000 in
theorem xb45_M : j_meth jP 163 = some (yX9_isStation, cX9_isStation, 2, (some .boolean), 1, false, 9) := rfl
set_option maxRecDepth 100000 in
theorem xb45_0 : j_code jP 163 0 = some (.iload_n 1) := rfl
set_option maxRecDepth 100000 in
theorem xb45_1 : j_code jP 163 1 = some (.ifCond .lt 18) := rfl
set_option maxRecDepth 100000 in
theorem xb45_4 : j_code jP 163 4 = some (.iload_n 1) := rfl
set_option maxRecDepth 100000 in
theorem xb45_5 : j_code jP 163 5 = some (.aload_n 0) := rfl
set_option maxRecDepth 100000 in
theorem xb45_6 : j_code jP 163 6 = some (.getfield 58) := rfl
set_option maxRecDepth 100000 in
theorem xb45_9 : j_code jP 163 9 = some (.getfield 113) := rfl
set_option maxRecDepth 100000 in
theorem xb45_12 : j_code jP 163 12 = some (.if_icmp .ge 7) := rfl
set_option maxRecDepth 100000 in
theorem xb45_15 : j_code jP 163 15 = some (.iconst 1) := rfl
set_option maxRecDepth 100000 in
theorem xb45_16 : j_code jP 163 16 = some (.goto 4) := rfl
set_option maxRecDepth 100000 in
theorem xb45_19 : j_code jP 163 19 = some (.iconst 0) := rfl
set_option maxRecDepth 100000 in
theorem xb45_20 : j_code jP 163 20 = some (.ireturn) := rfl
set_option maxRecDepth 1000000 in
theorem xb45_ok {ns : Int32} {nt : Int32} {cel : Int32} {sst : Int32} {x1 : Int32} {d : Nat} {h h0 : J_H} (K : KN h [(0, .inl (9, [.ref 1, .ref 3, .ref 4, .ref 29, .ref 281, .ref 325, .ref 343, .ref 327, .int sst])), (343, .inl (2, [.int ns, .ref 344, .ref 345, .ref 346, .ref 347, .int nt, .ref 348, .ref 349, .ref 350, .ref 351, .ref 352, .ref 353, .ref 354, .int cel, .ref 355, .ref 356, .ref 357, .ref 358]))] h0) : j_V jP d 163 0 (lv_args 0 [.ref 0, .int x1]) [] h (fun rv h' => rv = some (.int (x_isStation ns x1)) ∧ h' = h) := by
  show j_V jP d 163 0 [(0, .ref 0), (1, .int x1)] [] h _
  obtain ⟨lv, elv, L⟩ : ∃ lv, lv = [(0, .ref 0), (1, .int x1)] ∧ LK lv [(0, .ref 0), (1, .int x1)] := ⟨_, rfl, LK.rf⟩
  rw [← elv]
  clear elv
  refine j_V.ldL xb45_M xb45_0 rfl (i := 1) (kd := 0) (v := .int x1) (pcJ := 1) rfl L rfl rfl rfl ?_
  refine j_V.cut (b := 20) (stJ := [.int ((if x1 < 0 then 0 else (if x1 < ns then 1 else 0)) : Int32)]) (fun v => [(0, .ref 0), (1, .int x1)]) ((if x1 < 0 then 0 else (if x1 < ns then 1 else 0)) : Int32) (fun Q kk => ?_) (fun lv L => ?_)
  · refine j_V.ifc xb45_M xb45_1 (t := 19) rfl (fun c1_0 => ?_) (fun c1_0 => ?_)
    · replace c1_0 : x1 < 0 := jd_lt c1_0
      refine j_V.one xb45_M xb45_19 (by decide) (pcJ := 20) (stJ := [.int 0]) rfl ?_
      exact Eq.subst (motive := fun z => j_V jP _ 163 20 _ (.int z :: []) h Q) (show ((if x1 < 0 then 0 else (if x1 < ns then 1 else 0)) : Int32) = 0 from (if_pos c1_0).trans (rfl)) (kk _ L)
    · replace c1_0 : ¬ (x1 < 0) := jd_ltn c1_0
      refine j_V.ldL xb45_M xb45_4 rfl (i := 1) (kd := 0) (v := .int x1) (pcJ := 5) rfl L rfl rfl rfl ?_
      refine j_V.ldL xb45_M xb45_5 rfl (i := 0) (kd := 2) (v := .ref 0) (pcJ := 6) rfl L rfl rfl rfl ?_
      refine j_V.getK xb45_M xb45_6 (ci := 9) (j := 6) rfl K rfl rfl ?_
      refine j_V.getK xb45_M xb45_9 (ci := 2) (j := 0) rfl K rfl rfl ?_
      refine j_V.icmp xb45_M xb45_12 (t := 19) rfl (fun c12_1 => ?_) (fun c12_1 => ?_)
      · replace c12_1 : ¬ (x1 < ns) := jd_ge c12_1
        refine j_V.one xb45_M xb45_19 (by decide) (pcJ := 20) (stJ := [.int 0]) rfl ?_
        exact Eq.subst (motive := fun z => j_V jP _ 163 20 _ (.int z :: []) h Q) (show ((if x1 < 0 then 0 else (if x1 < ns then 1 else 0)) : Int32) = 0 from (if_neg c1_0).trans ((if_neg c12_1).trans (rfl))) (kk _ L)
      · replace c12_1 : x1 < ns := jd_gen c12_1
        refine j_V.one xb45_M xb45_15 (by decide) (pcJ := 16) (stJ := [.int 1]) rfl ?_
        refine j_V.gto xb45_M xb45_16 (t := 20) rfl ?_
        exact Eq.subst (motive := fun z => j_V jP _ 163 20 _ (.int z :: []) h Q) (show ((if x1 < 0 then 0 else (if x1 < ns then 1 else 0)) : Int32) = 1 from (if_neg c1_0).trans ((if_pos c12_1).trans (rfl))) (kk _ L)
  exact j_V.ri xb45_M xb45_20 ⟨congrArg (fun z => some (Value.int z)) (Eq.symm (show (x_isStation ns x1) = ((if x1 < 0 then 0 else (if x1 < ns then 1 else 0)) : Int32) from rfl)), rfl⟩
set_option maxRecDepth 100000 in
theorem xb46_M : j_meth jP 164 = some (yX9_isTrack, cX9_isTrack, 3, (some .boolean), 2, false, 9) := rfl
set_option maxRecDepth 100000 in
theorem xb46_0 : j_code jP 164 0 = some (.aload_n 0) := rfl
set_option maxRecDepth 100000 in
theorem xb46_1 : j_code jP 164 1 = some (.iload_n 1) := rfl
set_option maxRecDepth 100000 in
theorem xb46_2 : j_code jP 164 2 = some (.invokevirtual 142) := rfl
set_option maxRecDepth 100000 in
theorem xb46_5 : j_code jP 164 5 = some (.ifCond .eq 24) := rfl
set_option maxRecDepth 100000 in
theorem xb46_8 : j_code jP 164 8 = some (.iload_n 2) := rfl
set_option maxRecDepth 100000 in
theorem xb46_9 : j_code jP 164 9 = some (.ifCond .lt 20) := rfl
set_option maxRecDepth 100000 in
theorem xb46_12 : j_code jP 164 12 = some (.iload_n 2) := rfl
set_option maxRecDepth 100000 in
theorem xb46_13 : j_code jP 164 13 = some (.aload_n 0) := rfl
set_option maxRecDepth 100000 in
theorem xb46_14 : j_code jP 164 14 = some (.getfield 58) := rfl
set_option maxRecDepth 100000 in
theorem xb46_17 : j_code jP 164 17 = some (.getfield 149) := rfl
set_option maxRecDepth 100000 in
theorem xb46_20 : j_code jP 164 20 = some (.iload_n 1) := rfl
set_option maxRecDepth 100000 in
theorem xb46_21 : j_code jP 164 21 = some (.iaload) := rfl
set_option maxRecDepth 100000 in
theorem xb46_22 : j_code jP 164 22 = some (.if_icmp .ge 7) := rfl
set_option maxRecDepth 100000 in
theorem xb46_25 : j_code jP 164 25 = some (.iconst 1) := rfl
set_option maxRecDepth 100000 in
theorem xb46_26 : j_code jP 164 26 = some (.goto 4) := rfl
set_option maxRecDepth 100000 in
theorem xb46_29 : j_code jP 164 29 = some (.iconst 0) := rfl
set_option maxRecDepth 100000 in
theorem xb46_30 : j_code jP 164 30 = some (.ireturn) := rfl
set_option maxRecDepth 1000000 in
theorem xb46_ok {ns : Int32} {nt : Int32} {cel : Int32} {tra : List Int32} {sst : Int32} {x1 x2 : Int32} {d : Nat} {h h0 : J_H} (K : KN h [(0, .inl (9, [.ref 1, .ref 3, .ref 4, .ref 29, .ref 281, .ref 325, .ref 343, .ref 327, .int sst])), (343, .inl (2, [.int ns, .ref 344, .ref 345, .ref 346, .ref 347, .int nt, .ref 348, .ref 349, .ref 350, .ref 351, .ref 352, .ref 353, .ref 354, .int cel, .ref 355, .ref 356, .ref 357, .ref 358])), (346, .inr (.inl (0, tra)))] h0) : j_V jP d 164 0 (lv_args 0 [.ref 0, .int x1, .int x2]) [] h (fun rv h' => rv = some (.int (x_isTrack ns tra x1 x2)) ∧ h' = h) := by
  show j_V jP d 164 0 [(0, .ref 0), (1, .int x1), (2, .int x2)] [] h _
  obtain ⟨lv, elv, L⟩ : ∃ lv, lv = [(0, .ref 0), (1, .int x1), (2, .int x2)] ∧ LK lv [(0, .ref 0), (1, .int x1), (2, .int x2)] := ⟨_, rfl, LK.rf⟩
  rw [← elv]
  clear elv
  refine j_V.ldL xb46_M xb46_0 rfl (i := 0) (kd := 2) (v := .ref 0) (pcJ := 1) rfl L rfl rfl rfl ?_
  refine j_V.ldL xb46_M xb46_1 rfl (i := 1) (kd := 0) (v := .int x1) (pcJ := 2) rfl L rfl rfl rfl ?_
  refine j_V.cl xb46_M xb46_2 rfl (md := 3) (mj := 163) rfl (by decide) xb45_M (As := [.ref 0, .int x1]) (rest := []) (jk_spl3 (K.at rfl) rfl rfl rfl (Nat.le_of_ble_eq_true rfl) (Nat.le_of_ble_eq_true rfl)) (fun d => xb45_ok (K.fi [0, 343] rfl rfl)) ?_
  rintro r hz ⟨rfl, ez⟩
  rw [ez]
  clear ez
  show j_V jP _ 164 5 lv [.int (x_isStation ns x1)] h _
  refine j_V.cut (b := 30) (stJ := [.int ((if (x_isStation ns x1) = 0 then 0 else (if x2 < 0 then 0 else (if x2 < (gA tra x1) then 1 else 0))) : Int32)]) (fun v => [(0, .ref 0), (1, .int x1), (2, .int x2)]) ((if (x_isStation ns x1) = 0 then 0 else (if x2 < 0 then 0 else (if x2 < (gA tra x1) then 1 else 0))) : Int32) (fun Q kk => ?_) (fun lv L => ?_)
  · refine j_V.ifc xb46_M xb46_5 (t := 29) rfl (fun c5_0 => ?_) (fun c5_0 => ?_)
    · replace c5_0 : (x_isStation ns x1) = 0 := jd_eq c5_0
      refine j_V.one xb46_M xb46_29 (by decide) (pcJ := 30) (stJ := [.int 0]) rfl ?_
      exact Eq.subst (motive := fun z => j_V jP _ 164 30 _ (.int z :: []) h Q) (show ((if (x_isStation ns x1) = 0 then 0 else (if x2 < 0 then 0 else (if x2 < (gA tra x1) then 1 else 0))) : Int32) = 0 from (if_pos c5_0).trans (rfl)) (kk _ L)
    · replace c5_0 : ¬ ((x_isStation ns x1) = 0) := jd_eqn c5_0
      refine j_V.ldL xb46_M xb46_8 rfl (i := 2) (kd := 0) (v := .int x2) (pcJ := 9) rfl L rfl rfl rfl ?_
      refine j_V.ifc xb46_M xb46_9 (t := 29) rfl (fun c9_1 => ?_) (fun c9_1 => ?_)
      · replace c9_1 : x2 < 0 := jd_lt c9_1
        refine j_V.one xb46_M xb46_29 (by decide) (pcJ := 30) (stJ := [.int 0]) rfl ?_
        exact Eq.subst (motive := fun z => j_V jP _ 164 30 _ (.int z :: []) h Q) (show ((if (x_isStation ns x1) = 0 then 0 else (if x2 < 0 then 0 else (if x2 < (gA tra x1) then 1 else 0))) : Int32) = 0 from (if_neg c5_0).trans ((if_pos c9_1).trans (rfl))) (kk _ L)
      · replace c9_1 : ¬ (x2 < 0) := jd_ltn c9_1
        refine j_V.ldL xb46_M xb46_12 rfl (i := 2) (kd := 0) (v := .int x2) (pcJ := 13) rfl L rfl rfl rfl ?_
        refine j_V.ldL xb46_M xb46_13 rfl (i := 0) (kd := 2) (v := .ref 0) (pcJ := 14) rfl L rfl rfl rfl ?_
        refine j_V.getK xb46_M xb46_14 (ci := 9) (j := 6) rfl K rfl rfl ?_
        refine j_V.getK xb46_M xb46_17 (ci := 2) (j := 3) rfl K rfl rfl ?_
        refine j_V.ldL xb46_M xb46_20 rfl (i := 1) (kd := 0) (v := .int x1) (pcJ := 21) rfl L rfl rfl rfl ?_
        refine j_V.iaA xb46_M xb46_21 K rfl ?_
        refine j_V.icmp xb46_M xb46_22 (t := 29) rfl (fun c22_2 => ?_) (fun c22_2 => ?_)
        · replace c22_2 : ¬ (x2 < (gA tra x1)) := jd_ge c22_2
          refine j_V.one xb46_M xb46_29 (by decide) (pcJ := 30) (stJ := [.int 0]) rfl ?_
          exact Eq.subst (motive := fun z => j_V jP _ 164 30 _ (.int z :: []) h Q) (show ((if (x_isStation ns x1) = 0 then 0 else (if x2 < 0 then 0 else (if x2 < (gA tra x1) then 1 else 0))) : Int32) = 0 from (if_neg c5_0).trans ((if_neg c9_1).trans ((if_neg c22_2).trans (rfl)))) (kk _ L)
        · replace c22_2 : x2 < (gA tra x1) := jd_gen c22_2
          refine j_V.one xb46_M xb46_25 (by decide) (pcJ := 26) (stJ := [.int 1]) rfl ?_
          refine j_V.gto xb46_M xb46_26 (t := 30) rfl ?_
          exact Eq.subst (motive := fun z => j_V jP _ 164 30 _ (.int z :: []) h Q) (show ((if (x_isStation ns x1) = 0 then 0 else (if x2 < 0 then 0 else (if x2 < (gA tra x1) then 1 else 0))) : Int32) = 1 from (if_neg c5_0).trans ((if_neg c9_1).trans ((if_pos c22_2).trans (rfl)))) (kk _ L)
  exact j_V.ri xb46_M xb46_30 ⟨congrArg (fun z => some (Value.int z)) (Eq.symm (show (x_isTrack ns tra x1 x2) = ((if (x_isStation ns x1) = 0 then 0 else (if x2 < 0 then 0 else (if x2 < (gA tra x1) then 1 else 0))) : Int32) from rfl)), rfl⟩
set_option maxRecDepth 100000 in
theorem xb47_M : j_meth jP 165 = some (yX9_isTrain, cX9_isTrain, 2, (some .boolean), 1, false, 9) := rfl
set_option maxRecDepth 100000 in
theorem xb47_0 : j_code jP 165 0 = some (.iload_n 1) := rfl
set_option maxRecDepth 100000 in
theorem xb47_1 : j_code jP 165 1 = some (.ifCond .lt 18) := rfl
set_option maxRecDepth 100000 in
theorem xb47_4 : j_code jP 165 4 = some (.iload_n 1) := rfl
set_option maxRecDepth 100000 in
theorem xb47_5 : j_code jP 165 5 = some (.aload_n 0) := rfl
set_option maxRecDepth 100000 in
theorem xb47_6 : j_code jP 165 6 = some (.getfield 58) := rfl
set_option maxRecDepth 100000 in
theorem xb47_9 : j_code jP 165 9 = some (.getfield 101) := rfl
set_option maxRecDepth 100000 in
theorem xb47_12 : j_code jP 165 12 = some (.if_icmp .ge 7) := rfl
set_option maxRecDepth 100000 in
theorem xb47_15 : j_code jP 165 15 = some (.iconst 1) := rfl
set_option maxRecDepth 100000 in
theorem xb47_16 : j_code jP 165 16 = some (.goto 4) := rfl
set_option maxRecDepth 100000 in
theorem xb47_19 : j_code jP 165 19 = some (.iconst 0) := rfl
set_option maxRecDepth 100000 in
theorem xb47_20 : j_code jP 165 20 = some (.ireturn) := rfl
set_option maxRecDepth 1000000 in
theorem xb47_ok {ns : Int32} {nt : Int32} {cel : Int32} {sst : Int32} {x1 : Int32} {d : Nat} {h h0 : J_H} (K : KN h [(0, .inl (9, [.ref 1, .ref 3, .ref 4, .ref 29, .ref 281, .ref 325, .ref 343, .ref 327, .int sst])), (343, .inl (2, [.int ns, .ref 344, .ref 345, .ref 346, .ref 347, .int nt, .ref 348, .ref 349, .ref 350, .ref 351, .ref 352, .ref 353, .ref 354, .int cel, .ref 355, .ref 356, .ref 357, .ref 358]))] h0) : j_V jP d 165 0 (lv_args 0 [.ref 0, .int x1]) [] h (fun rv h' => rv = some (.int (x_isTrain nt x1)) ∧ h' = h) := by
  show j_V jP d 165 0 [(0, .ref 0), (1, .int x1)] [] h _
  obtain ⟨lv, elv, L⟩ : ∃ lv, lv = [(0, .ref 0), (1, .int x1)] ∧ LK lv [(0, .ref 0), (1, .int x1)] := ⟨_, rfl, LK.rf⟩
  rw [← elv]
  clear elv
  refine j_V.ldL xb47_M xb47_0 rfl (i := 1) (kd := 0) (v := .int x1) (pcJ := 1) rfl L rfl rfl rfl ?_
  refine j_V.cut (b := 20) (stJ := [.int ((if x1 < 0 then 0 else (if x1 < nt then 1 else 0)) : Int32)]) (fun v => [(0, .ref 0), (1, .int x1)]) ((if x1 < 0 then 0 else (if x1 < nt then 1 else 0)) : Int32) (fun Q kk => ?_) (fun lv L => ?_)
  · refine j_V.ifc xb47_M xb47_1 (t := 19) rfl (fun c1_0 => ?_) (fun c1_0 => ?_)
    · replace c1_0 : x1 < 0 := jd_lt c1_0
      refine j_V.one xb47_M xb47_19 (by decide) (pcJ := 20) (stJ := [.int 0]) rfl ?_
      exact Eq.subst (motive := fun z => j_V jP _ 165 20 _ (.int z :: []) h Q) (show ((if x1 < 0 then 0 else (if x1 < nt then 1 else 0)) : Int32) = 0 from (if_pos c1_0).trans (rfl)) (kk _ L)
    · replace c1_0 : ¬ (x1 < 0) := jd_ltn c1_0
      refine j_V.ldL xb47_M xb47_4 rfl (i := 1) (kd := 0) (v := .int x1) (pcJ := 5) rfl L rfl rfl rfl ?_
      refine j_V.ldL xb47_M xb47_5 rfl (i := 0) (kd := 2) (v := .ref 0) (pcJ := 6) rfl L rfl rfl rfl ?_
      refine j_V.getK xb47_M xb47_6 (ci := 9) (j := 6) rfl K rfl rfl ?_
      refine j_V.getK xb47_M xb47_9 (ci := 2) (j := 5) rfl K rfl rfl ?_
      refine j_V.icmp xb47_M xb47_12 (t := 19) rfl (fun c12_1 => ?_) (fun c12_1 => ?_)
      · replace c12_1 : ¬ (x1 < nt) := jd_ge c12_1
        refine j_V.one xb47_M xb47_19 (by decide) (pcJ := 20) (stJ := [.int 0]) rfl ?_
        exact Eq.subst (motive := fun z => j_V jP _ 165 20 _ (.int z :: []) h Q) (show ((if x1 < 0 then 0 else (if x1 < nt then 1 else 0)) : Int32) = 0 from (if_neg c1_0).trans ((if_neg c12_1).trans (rfl))) (kk _ L)
      · replace c12_1 : x1 < nt := jd_gen c12_1
        refine j_V.one xb47_M xb47_15 (by decide) (pcJ := 16) (stJ := [.int 1]) rfl ?_
        refine j_V.gto xb47_M xb47_16 (t := 20) rfl ?_
        exact Eq.subst (motive := fun z => j_V jP _ 165 20 _ (.int z :: []) h Q) (show ((if x1 < 0 then 0 else (if x1 < nt then 1 else 0)) : Int32) = 1 from (if_neg c1_0).trans ((if_pos c12_1).trans (rfl))) (kk _ L)
  exact j_V.ri xb47_M xb47_20 ⟨congrArg (fun z => some (Value.int z)) (Eq.symm (show (x_isTrain nt x1) = ((if x1 < 0 then 0 else (if x1 < nt then 1 else 0)) : Int32) from rfl)), rfl⟩
set_option maxRecDepth 100000 in
theorem xb48_M : j_meth jP 166 = some (yX9_isSection, cX9_isSection, 2, (some .boolean), 1, false, 9) := rfl
set_option maxRecDepth 100000 in
theorem xb48_0 : j_code jP 166 0 = some (.iload_n 1) := rfl
set_option maxRecDepth 100000 in
theorem xb48_1 : j_code jP 166 1 = some (.ifCond .lt 20) := rfl
set_option maxRecDepth 100000 in
theorem xb48_4 : j_code jP 166 4 = some (.iload_n 1) := rfl
set_option maxRecDepth 100000 in
theorem xb48_5 : j_code jP 166 5 = some (.aload_n 0) := rfl
set_option maxRecDepth 100000 in
theorem xb48_6 : j_code jP 166 6 = some (.getfield 58) := rfl
set_option maxRecDepth 100000 in
theorem xb48_9 : j_code jP 166 9 = some (.getfield 113) := rfl
set_option maxRecDepth 100000 in
theorem xb48_12 : j_code jP 166 12 = some (.iconst 1) := rfl
set_option maxRecDepth 100000 in
theorem xb48_13 : j_code jP 166 13 = some (.isub) := rfl
set_option maxRecDepth 100000 in
theorem xb48_14 : j_code jP 166 14 = some (.if_icmp .ge 7) := rfl
set_option maxRecDepth 100000 in
theorem xb48_17 : j_code jP 166 17 = some (.iconst 1) := rfl
set_option maxRecDepth 100000 in
theorem xb48_18 : j_code jP 166 18 = some (.goto 4) := rfl
set_option maxRecDepth 100000 in
theorem xb48_21 : j_code jP 166 21 = some (.iconst 0) := rfl
set_option maxRecDepth 100000 in
theorem xb48_22 : j_code jP 166 22 = some (.ireturn) := rfl
set_option maxRecDepth 1000000 in
theorem xb48_ok {ns : Int32} {nt : Int32} {cel : Int32} {sst : Int32} {x1 : Int32} {d : Nat} {h h0 : J_H} (K : KN h [(0, .inl (9, [.ref 1, .ref 3, .ref 4, .ref 29, .ref 281, .ref 325, .ref 343, .ref 327, .int sst])), (343, .inl (2, [.int ns, .ref 344, .ref 345, .ref 346, .ref 347, .int nt, .ref 348, .ref 349, .ref 350, .ref 351, .ref 352, .ref 353, .ref 354, .int cel, .ref 355, .ref 356, .ref 357, .ref 358]))] h0) : j_V jP d 166 0 (lv_args 0 [.ref 0, .int x1]) [] h (fun rv h' => rv = some (.int (x_isSection ns x1)) ∧ h' = h) := by
  show j_V jP d 166 0 [(0, .ref 0), (1, .int x1)] [] h _
  obtain ⟨lv, elv, L⟩ : ∃ lv, lv = [(0, .ref 0), (1, .int x1)] ∧ LK lv [(0, .ref 0), (1, .int x1)] := ⟨_, rfl, LK.rf⟩
  rw [← elv]
  clear elv
  refine j_V.ldL xb48_M xb48_0 rfl (i := 1) (kd := 0) (v := .int x1) (pcJ := 1) rfl L rfl rfl rfl ?_
  refine j_V.cut (b := 22) (stJ := [.int ((if x1 < 0 then 0 else (if x1 < (ns - 1) then 1 else 0)) : Int32)]) (fun v => [(0, .ref 0), (1, .int x1)]) ((if x1 < 0 then 0 else (if x1 < (ns - 1) then 1 else 0)) : Int32) (fun Q kk => ?_) (fun lv L => ?_)
  · refine j_V.ifc xb48_M xb48_1 (t := 21) rfl (fun c1_0 => ?_) (fun c1_0 => ?_)
    · replace c1_0 : x1 < 0 := jd_lt c1_0
      refine j_V.one xb48_M xb48_21 (by decide) (pcJ := 22) (stJ := [.int 0]) rfl ?_
      exact Eq.subst (motive := fun z => j_V jP _ 166 22 _ (.int z :: []) h Q) (show ((if x1 < 0 then 0 else (if x1 < (ns - 1) then 1 else 0)) : Int32) = 0 from (if_pos c1_0).trans (rfl)) (kk _ L)
    · replace c1_0 : ¬ (x1 < 0) := jd_ltn c1_0
      refine j_V.ldL xb48_M xb48_4 rfl (i := 1) (kd := 0) (v := .int x1) (pcJ := 5) rfl L rfl rfl rfl ?_
      refine j_V.ldL xb48_M xb48_5 rfl (i := 0) (kd := 2) (v := .ref 0) (pcJ := 6) rfl L rfl rfl rfl ?_
      refine j_V.getK xb48_M xb48_6 (ci := 9) (j := 6) rfl K rfl rfl ?_
      refine j_V.getK xb48_M xb48_9 (ci := 2) (j := 0) rfl K rfl rfl ?_
      refine j_V.one xb48_M xb48_12 (by decide) (pcJ := 13) (stJ := [.int 1, .int ns, .int x1]) rfl ?_
      refine j_V.one xb48_M xb48_13 (by decide) (pcJ := 14) (stJ := [.int (ns - 1), .int x1]) rfl ?_
      refine j_V.icmp xb48_M xb48_14 (t := 21) rfl (fun c14_1 => ?_) (fun c14_1 => ?_)
      · replace c14_1 : ¬ (x1 < (ns - 1)) := jd_ge c14_1
        refine j_V.one xb48_M xb48_21 (by decide) (pcJ := 22) (stJ := [.int 0]) rfl ?_
        exact Eq.subst (motive := fun z => j_V jP _ 166 22 _ (.int z :: []) h Q) (show ((if x1 < 0 then 0 else (if x1 < (ns - 1) then 1 else 0)) : Int32) = 0 from (if_neg c1_0).trans ((if_neg c14_1).trans (rfl))) (kk _ L)
      · replace c14_1 : x1 < (ns - 1) := jd_gen c14_1
        refine j_V.one xb48_M xb48_17 (by decide) (pcJ := 18) (stJ := [.int 1]) rfl ?_
        refine j_V.gto xb48_M xb48_18 (t := 22) rfl ?_
        exact Eq.subst (motive := fun z => j_V jP _ 166 22 _ (.int z :: []) h Q) (show ((if x1 < 0 then 0 else (if x1 < (ns - 1) then 1 else 0)) : Int32) = 1 from (if_neg c1_0).trans ((if_pos c14_1).trans (rfl))) (kk _ L)
  exact j_V.ri xb48_M xb48_22 ⟨congrArg (fun z => some (Value.int z)) (Eq.symm (show (x_isSection ns x1) = ((if x1 < 0 then 0 else (if x1 < (ns - 1) then 1 else 0)) : Int32) from rfl)), rfl⟩
set_option maxRecDepth 100000 in
theorem xb49_M : j_meth jP 159 = some (yX9_answer, cX9_answer, 2, (some .int), 1, false, 9) := rfl
set_option maxRecDepth 100000 in
theorem xb49_0 : j_code jP 159 0 = some (.aload_n 0) := rfl
set_option maxRecDepth 100000 in
theorem xb49_1 : j_code jP 159 1 = some (.iconst 0) := rfl
set_option maxRecDepth 100000 in
theorem xb49_2 : j_code jP 159 2 = some (.putfield 65) := rfl
set_option maxRecDepth 100000 in
theorem xb49_5 : j_code jP 159 5 = some (.iload_n 1) := rfl
set_option maxRecDepth 100000 in
theorem xb49_6 : j_code jP 159 6 = some (.ireturn) := rfl
set_option maxRecDepth 1000000 in
theorem xb49_ok {sst : Int32} {x1 : Int32} {d : Nat} {h h0 : J_H} (K : KN h [(0, .inl (9, [.ref 1, .ref 3, .ref 4, .ref 29, .ref 281, .ref 325, .ref 343, .ref 327, .int sst]))] h0) : j_V jP d 159 0 (lv_args 0 [.ref 0, .int x1]) [] h (fun rv h' => rv = some (.int (x_qanswer sst x1).1) ∧ KN h' [(0, .inl (9, [.ref 1, .ref 3, .ref 4, .ref 29, .ref 281, .ref 325, .ref 343, .ref 327, .int (x_qanswer sst x1).2]))] h0) := by
  show j_V jP d 159 0 [(0, .ref 0), (1, .int x1)] [] h _
  obtain ⟨lv, elv, L⟩ : ∃ lv, lv = [(0, .ref 0), (1, .int x1)] ∧ LK lv [(0, .ref 0), (1, .int x1)] := ⟨_, rfl, LK.rf⟩
  rw [← elv]
  clear elv
  refine j_V.ldL xb49_M xb49_0 rfl (i := 0) (kd := 2) (v := .ref 0) (pcJ := 1) rfl L rfl rfl rfl ?_
  refine j_V.one xb49_M xb49_1 (by decide) (pcJ := 2) (stJ := [.int 0, .ref 0]) rfl ?_
  refine j_V.putK xb49_M xb49_2 (ci := 9) (j := 8) (k' := [(0, .inl (9, [.ref 1, .ref 3, .ref 4, .ref 29, .ref 281, .ref 325, .ref 343, .ref 327, .int 0]))]) rfl K rfl (Nat.le_of_ble_eq_true rfl) rfl (Or.inl rfl) rfl rfl (fun h K => ?_)
  refine j_V.ldL xb49_M xb49_5 rfl (i := 1) (kd := 0) (v := .int x1) (pcJ := 6) rfl L rfl rfl rfl ?_
  refine j_V.ri xb49_M xb49_6 ?_
  rw [show (x_qanswer sst x1) = _ from (rfl)]
  exact ⟨rfl, K⟩
set_option maxRecDepth 100000 in
theorem xb50_M : j_meth jP 161 = some (yX9_refuse, cX9_refuse, 2, (some .int), 1, false, 9) := rfl
set_option maxRecDepth 100000 in
theorem xb50_0 : j_code jP 161 0 = some (.aload_n 0) := rfl
set_option maxRecDepth 100000 in
theorem xb50_1 : j_code jP 161 1 = some (.iload_n 1) := rfl
set_option maxRecDepth 100000 in
theorem xb50_2 : j_code jP 161 2 = some (.putfield 65) := rfl
set_option maxRecDepth 100000 in
theorem xb50_5 : j_code jP 161 5 = some (.iconst (-1)) := rfl
set_option maxRecDepth 100000 in
theorem xb50_6 : j_code jP 161 6 = some (.ireturn) := rfl
set_option maxRecDepth 1000000 in
theorem xb50_ok {sst : Int32} {x1 : Int32} {d : Nat} {h h0 : J_H} (K : KN h [(0, .inl (9, [.ref 1, .ref 3, .ref 4, .ref 29, .ref 281, .ref 325, .ref 343, .ref 327, .int sst]))] h0) : j_V jP d 161 0 (lv_args 0 [.ref 0, .int x1]) [] h (fun rv h' => rv = some (.int (x_qrefuse sst x1).1) ∧ KN h' [(0, .inl (9, [.ref 1, .ref 3, .ref 4, .ref 29, .ref 281, .ref 325, .ref 343, .ref 327, .int (x_qrefuse sst x1).2]))] h0) := by
  show j_V jP d 161 0 [(0, .ref 0), (1, .int x1)] [] h _
  obtain ⟨lv, elv, L⟩ : ∃ lv, lv = [(0, .ref 0), (1, .int x1)] ∧ LK lv [(0, .ref 0), (1, .int x1)] := ⟨_, rfl, LK.rf⟩
  rw [← elv]
  clear elv
  refine j_V.ldL xb50_M xb50_0 rfl (i := 0) (kd := 2) (v := .ref 0) (pcJ := 1) rfl L rfl rfl rfl ?_
  refine j_V.ldL xb50_M xb50_1 rfl (i := 1) (kd := 0) (v := .int x1) (pcJ := 2) rfl L rfl rfl rfl ?_
  refine j_V.putK xb50_M xb50_2 (ci := 9) (j := 8) (k' := [(0, .inl (9, [.ref 1, .ref 3, .ref 4, .ref 29, .ref 281, .ref 325, .ref 343, .ref 327, .int x1]))]) rfl K rfl (Nat.le_of_ble_eq_true rfl) rfl (Or.inl rfl) rfl rfl (fun h K => ?_)
  refine j_V.one xb50_M xb50_5 (by decide) (pcJ := 6) (stJ := [.int (-1)]) rfl ?_
  refine j_V.ri xb50_M xb50_6 ?_
  rw [show (x_qrefuse sst x1) = _ from (rfl)]
  exact ⟨rfl, K⟩
set_option maxRecDepth 100000 in
theorem xb51_M : j_meth jP 160 = some (yX9_answerIfAny, cX9_answerIfAny, 2, (some .int), 1, false, 9) := rfl
set_option maxRecDepth 100000 in
theorem xb51_0 : j_code jP 160 0 = some (.iload_n 1) := rfl
set_option maxRecDepth 100000 in
theorem xb51_1 : j_code jP 160 1 = some (.iconst (-1)) := rfl
set_option maxRecDepth 100000 in
theorem xb51_2 : j_code jP 160 2 = some (.if_icmp .ne 11) := rfl
set_option maxRecDepth 100000 in
theorem xb51_5 : j_code jP 160 5 = some (.aload_n 0) := rfl
set_option maxRecDepth 100000 in
theorem xb51_6 : j_code jP 160 6 = some (.iconst 5) := rfl
set_option maxRecDepth 100000 in
theorem xb51_7 : j_code jP 160 7 = some (.invokevirtual 84) := rfl
set_option maxRecDepth 100000 in
theorem xb51_10 : j_code jP 160 10 = some (.goto 8) := rfl
set_option maxRecDepth 100000 in
theorem xb51_13 : j_code jP 160 13 = some (.aload_n 0) := rfl
set_option maxRecDepth 100000 in
theorem xb51_14 : j_code jP 160 14 = some (.iload_n 1) := rfl
set_option maxRecDepth 100000 in
theorem xb51_15 : j_code jP 160 15 = some (.invokevirtual 104) := rfl
set_option maxRecDepth 100000 in
theorem xb51_18 : j_code jP 160 18 = some (.ireturn) := rfl
set_option maxRecDepth 1000000 in
theorem xb51_ok {sst : Int32} {x1 : Int32} {d : Nat} {h h0 : J_H} (K : KN h [(0, .inl (9, [.ref 1, .ref 3, .ref 4, .ref 29, .ref 281, .ref 325, .ref 343, .ref 327, .int sst]))] h0) : j_V jP d 160 0 (lv_args 0 [.ref 0, .int x1]) [] h (fun rv h' => rv = some (.int (x_qanswerIfAny sst x1).1) ∧ KN h' [(0, .inl (9, [.ref 1, .ref 3, .ref 4, .ref 29, .ref 281, .ref 325, .ref 343, .ref 327, .int (x_qanswerIfAny sst x1).2]))] h0) := by
  show j_V jP d 160 0 [(0, .ref 0), (1, .int x1)] [] h _
  obtain ⟨lv, elv, L⟩ : ∃ lv, lv = [(0, .ref 0), (1, .int x1)] ∧ LK lv [(0, .ref 0), (1, .int x1)] := ⟨_, rfl, LK.rf⟩
  rw [← elv]
  clear elv
  refine j_V.ldL xb51_M xb51_0 rfl (i := 1) (kd := 0) (v := .int x1) (pcJ := 1) rfl L rfl rfl rfl ?_
  refine j_V.one xb51_M xb51_1 (by decide) (pcJ := 2) (stJ := [.int (-1), .int x1]) rfl ?_
  refine j_V.icmp xb51_M xb51_2 (t := 13) rfl (fun c2_0 => ?_) (fun c2_0 => ?_)
  · replace c2_0 : ¬ (x1 = (-1)) := jd_ne c2_0
    refine j_V.ldL xb51_M xb51_13 rfl (i := 0) (kd := 2) (v := .ref 0) (pcJ := 14) rfl L rfl rfl rfl ?_
    refine j_V.ldL xb51_M xb51_14 rfl (i := 1) (kd := 0) (v := .int x1) (pcJ := 15) rfl L rfl rfl rfl ?_
    refine j_V.cl xb51_M xb51_15 rfl (md := 3) (mj := 159) rfl (by decide) xb49_M (As := [.ref 0, .int x1]) (rest := []) (jk_spl3 (K.at rfl) rfl rfl rfl (Nat.le_of_ble_eq_true rfl) (Nat.le_of_ble_eq_true rfl)) (fun d => xb49_ok (K.fi [0] rfl rfl)) ?_
    rintro r h9 ⟨rfl, K9⟩
    generalize ez3 : (x_qanswer sst x1) = z3 at K9 ⊢
    have K : KN h9 [(0, .inl (9, [.ref 1, .ref 3, .ref 4, .ref 29, .ref 281, .ref 325, .ref 343, .ref 327, .int (z3.2)]))] h0 := K.mg K9 rfl rfl
    clear K9
    show j_V jP _ 160 18 lv [.int (z3.1)] h9 _
    subst ez3
    refine j_V.ri xb51_M xb51_18 ?_
    rw [show (x_qanswerIfAny sst x1) = _ from ((if_neg c2_0).trans (rfl))]
    exact ⟨rfl, K⟩
  · replace c2_0 : x1 = (-1) := jd_nen c2_0
    refine j_V.ldL xb51_M xb51_5 rfl (i := 0) (kd := 2) (v := .ref 0) (pcJ := 6) rfl L rfl rfl rfl ?_
    refine j_V.one xb51_M xb51_6 (by decide) (pcJ := 7) (stJ := [.int 5, .ref 0]) rfl ?_
    refine j_V.cl xb51_M xb51_7 rfl (md := 3) (mj := 161) rfl (by decide) xb50_M (As := [.ref 0, .int 5]) (rest := []) (jk_spl3 (K.at rfl) rfl rfl rfl (Nat.le_of_ble_eq_true rfl) (Nat.le_of_ble_eq_true rfl)) (fun d => xb50_ok (K.fi [0] rfl rfl)) ?_
    rintro r h9 ⟨rfl, K9⟩
    generalize ez4 : (x_qrefuse sst 5) = z4 at K9 ⊢
    have K : KN h9 [(0, .inl (9, [.ref 1, .ref 3, .ref 4, .ref 29, .ref 281, .ref 325, .ref 343, .ref 327, .int (z4.2)]))] h0 := K.mg K9 rfl rfl
    clear K9
    show j_V jP _ 160 10 lv [.int (z4.1)] h9 _
    refine j_V.gto xb51_M xb51_10 (t := 18) rfl ?_
    subst ez4
    refine j_V.ri xb51_M xb51_18 ?_
    rw [show (x_qanswerIfAny sst x1) = _ from ((if_pos c2_0).trans (rfl))]
    exact ⟨rfl, K⟩
set_option maxRecDepth 100000 in
theorem xb52_M : j_meth jP 112 = some (yX9_status, cX9_status, 1, (some .int), 0, false, 9) := rfl
set_option maxRecDepth 100000 in
theorem xb52_0 : j_code jP 112 0 = some (.aload_n 0) := rfl
set_option maxRecDepth 100000 in
theorem xb52_1 : j_code jP 112 1 = some (.getfield 65) := rfl
set_option maxRecDepth 100000 in
theorem xb52_4 : j_code jP 112 4 = some (.ireturn) := rfl
set_option maxRecDepth 1000000 in
theorem xb52_ok {sst : Int32} {d : Nat} {h h0 : J_H} (K : KN h [(0, .inl (9, [.ref 1, .ref 3, .ref 4, .ref 29, .ref 281, .ref 325, .ref 343, .ref 327, .int sst]))] h0) : j_V jP d 112 0 (lv_args 0 [.ref 0]) [] h (fun rv h' => rv = some (.int (x_qstatus sst)) ∧ h' = h) := by
  show j_V jP d 112 0 [(0, .ref 0)] [] h _
  obtain ⟨lv, elv, L⟩ : ∃ lv, lv = [(0, .ref 0)] ∧ LK lv [(0, .ref 0)] := ⟨_, rfl, LK.rf⟩
  rw [← elv]
  clear elv
  refine j_V.ldL xb52_M xb52_0 rfl (i := 0) (kd := 2) (v := .ref 0) (pcJ := 1) rfl L rfl rfl rfl ?_
  refine j_V.getK xb52_M xb52_1 (ci := 9) (j := 8) rfl K rfl rfl ?_
  exact j_V.ri xb52_M xb52_4 ⟨congrArg (fun z => some (Value.int z)) (Eq.symm (show (x_qstatus sst) = sst from rfl)), rfl⟩
set_option maxRecDepth 100000 in
theorem xb53_M : j_meth jP 117 = some (yX9_station, cX9_station, 3, (some .int), 2, false, 9) := rfl
set_option maxRecDepth 100000 in
theorem xb53_0 : j_code jP 117 0 = some (.iload_n 2) := rfl
set_option maxRecDepth 100000 in
theorem xb53_1 : j_code jP 117 1 = some (.iconst 0) := rfl
set_option maxRecDepth 100000 in
theorem xb53_2 : j_code jP 117 2 = some (.iconst 4) := rfl
set_option maxRecDepth 100000 in
theorem xb53_3 : j_code jP 117 3 = some (.invokestatic 138) := rfl
set_option maxRecDepth 100000 in
theorem xb53_6 : j_code jP 117 6 = some (.ifCond .ne 9) := rfl
set_option maxRecDepth 100000 in
theorem xb53_9 : j_code jP 117 9 = some (.aload_n 0) := rfl
set_option maxRecDepth 100000 in
theorem xb53_10 : j_code jP 117 10 = some (.iconst 1) := rfl
set_option maxRecDepth 100000 in
theorem xb53_11 : j_code jP 117 11 = some (.invokevirtual 84) := rfl
set_option maxRecDepth 100000 in
theorem xb53_14 : j_code jP 117 14 = some (.ireturn) := rfl
set_option maxRecDepth 100000 in
theorem xb53_15 : j_code jP 117 15 = some (.aload_n 0) := rfl
set_option maxRecDepth 100000 in
theorem xb53_16 : j_code jP 117 16 = some (.iload_n 1) := rfl
set_option maxRecDepth 100000 in
theorem xb53_17 : j_code jP 117 17 = some (.invokevirtual 142) := rfl
set_option maxRecDepth 100000 in
theorem xb53_20 : j_code jP 117 20 = some (.ifCond .ne 9) := rfl
set_option maxRecDepth 100000 in
theorem xb53_23 : j_code jP 117 23 = some (.aload_n 0) := rfl
set_option maxRecDepth 100000 in
theorem xb53_24 : j_code jP 117 24 = some (.iconst 2) := rfl
set_option maxRecDepth 100000 in
theorem xb53_25 : j_code jP 117 25 = some (.invokevirtual 84) := rfl
set_option maxRecDepth 100000 in
theorem xb53_28 : j_code jP 117 28 = some (.ireturn) := rfl
set_option maxRecDepth 100000 in
theorem xb53_29 : j_code jP 117 29 = some (.iload_n 2) := rfl
set_option maxRecDepth 100000 in
theorem xb53_30 : j_code jP 117 30 = some (.tableswitch 98 0 3 #[30, 44, 58, 82]) := rfl
set_option maxRecDepth 100000 in
theorem xb53_60 : j_code jP 117 60 = some (.aload_n 0) := rfl
set_option maxRecDepth 100000 in
theorem xb53_61 : j_code jP 117 61 = some (.aload_n 0) := rfl
set_option maxRecDepth 100000 in
theorem xb53_62 : j_code jP 117 62 = some (.getfield 58) := rfl
set_option maxRecDepth 100000 in
theorem xb53_65 : j_code jP 117 65 = some (.getfield 145) := rfl
set_option maxRecDepth 100000 in
theorem xb53_68 : j_code jP 117 68 = some (.iload_n 1) := rfl
set_option maxRecDepth 100000 in
theorem xb53_69 : j_code jP 117 69 = some (.iaload) := rfl
set_option maxRecDepth 100000 in
theorem xb53_70 : j_code jP 117 70 = some (.invokevirtual 104) := rfl
set_option maxRecDepth 100000 in
theorem xb53_73 : j_code jP 117 73 = some (.ireturn) := rfl
set_option maxRecDepth 100000 in
theorem xb53_74 : j_code jP 117 74 = some (.aload_n 0) := rfl
set_option maxRecDepth 100000 in
theorem xb53_75 : j_code jP 117 75 = some (.aload_n 0) := rfl
set_option maxRecDepth 100000 in
theorem xb53_76 : j_code jP 117 76 = some (.getfield 58) := rfl
set_option maxRecDepth 100000 in
theorem xb53_79 : j_code jP 117 79 = some (.getfield 149) := rfl
set_option maxRecDepth 100000 in
theorem xb53_82 : j_code jP 117 82 = some (.iload_n 1) := rfl
set_option maxRecDepth 100000 in
theorem xb53_83 : j_code jP 117 83 = some (.iaload) := rfl
set_option maxRecDepth 100000 in
theorem xb53_84 : j_code jP 117 84 = some (.invokevirtual 104) := rfl
set_option maxRecDepth 100000 in
theorem xb53_87 : j_code jP 117 87 = some (.ireturn) := rfl
set_option maxRecDepth 100000 in
theorem xb53_88 : j_code jP 117 88 = some (.aload_n 0) := rfl
set_option maxRecDepth 100000 in
theorem xb53_89 : j_code jP 117 89 = some (.aload_n 0) := rfl
set_option maxRecDepth 100000 in
theorem xb53_90 : j_code jP 117 90 = some (.getfield 30) := rfl
set_option maxRecDepth 100000 in
theorem xb53_93 : j_code jP 117 93 = some (.invokevirtual 152) := rfl
set_option maxRecDepth 100000 in
theorem xb53_96 : j_code jP 117 96 = some (.aload_n 0) := rfl
set_option maxRecDepth 100000 in
theorem xb53_97 : j_code jP 117 97 = some (.getfield 58) := rfl
set_option maxRecDepth 100000 in
theorem xb53_100 : j_code jP 117 100 = some (.iload_n 1) := rfl
set_option maxRecDepth 100000 in
theorem xb53_101 : j_code jP 117 101 = some (.invokevirtual 155) := rfl
set_option maxRecDepth 100000 in
theorem xb53_104 : j_code jP 117 104 = some (.iand) := rfl
set_option maxRecDepth 100000 in
theorem xb53_105 : j_code jP 117 105 = some (.invokestatic 158) := rfl
set_option maxRecDepth 100000 in
theorem xb53_108 : j_code jP 117 108 = some (.invokevirtual 104) := rfl
set_option maxRecDepth 100000 in
theorem xb53_111 : j_code jP 117 111 = some (.ireturn) := rfl
set_option maxRecDepth 100000 in
theorem xb53_112 : j_code jP 117 112 = some (.aload_n 0) := rfl
set_option maxRecDepth 100000 in
theorem xb53_113 : j_code jP 117 113 = some (.aload_n 0) := rfl
set_option maxRecDepth 100000 in
theorem xb53_114 : j_code jP 117 114 = some (.getfield 30) := rfl
set_option maxRecDepth 100000 in
theorem xb53_117 : j_code jP 117 117 = some (.iload_n 1) := rfl
set_option maxRecDepth 100000 in
theorem xb53_118 : j_code jP 117 118 = some (.invokevirtual 163) := rfl
set_option maxRecDepth 100000 in
theorem xb53_121 : j_code jP 117 121 = some (.invokestatic 158) := rfl
set_option maxRecDepth 100000 in
theorem xb53_124 : j_code jP 117 124 = some (.invokevirtual 104) := rfl
set_option maxRecDepth 100000 in
theorem xb53_127 : j_code jP 117 127 = some (.ireturn) := rfl
set_option maxRecDepth 100000 in
theorem xb53_128 : j_code jP 117 128 = some (.aload_n 0) := rfl
set_option maxRecDepth 100000 in
theorem xb53_129 : j_code jP 117 129 = some (.aload_n 0) := rfl
set_option maxRecDepth 100000 in
theorem xb53_130 : j_code jP 117 130 = some (.getfield 58) := rfl
set_option maxRecDepth 100000 in
theorem xb53_133 : j_code jP 117 133 = some (.iload_n 1) := rfl
set_option maxRecDepth 100000 in
theorem xb53_134 : j_code jP 117 134 = some (.invokevirtual 166) := rfl
set_option maxRecDepth 100000 in
theorem xb53_137 : j_code jP 117 137 = some (.invokevirtual 104) := rfl
set_option maxRecDepth 100000 in
theorem xb53_140 : j_code jP 117 140 = some (.ireturn) := rfl
set_option maxRecDepth 1000000 in
theorem xb53_ok {mi : Int32} {shu : Int32} {bus : Int32} {lks : Int32} {ph : List Int32} {sp : List Int32} {ns : Int32} {nt : Int32} {cel : Int32} {run : List Int32} {tra : List Int32} {len : List Int32} {sst : Int32} {x1 x2 : Int32} {d : Nat} {h h0 : J_H} (K : KN h [(0, .inl (9, [.ref 1, .ref 3, .ref 4, .ref 29, .ref 281, .ref 325, .ref 343, .ref 327, .int sst])), (4, .inl (7, [.ref 343, .int mi, .int shu, .int bus, .ref 5, .ref 6, .ref 7, .ref 8, .ref 9, .ref 10, .ref 11, .ref 12, .ref 13, .ref 14, .ref 15, .int lks, .ref 16, .ref 17, .ref 20])), (7, .inr (.inl (0, ph))), (8, .inr (.inl (0, sp))), (343, .inl (2, [.int ns, .ref 344, .ref 345, .ref 346, .ref 347, .int nt, .ref 348, .ref 349, .ref 350, .ref 351, .ref 352, .ref 353, .ref 354, .int cel, .ref 355, .ref 356, .ref 357, .ref 358])), (345, .inr (.inl (0, run))), (346, .inr (.inl (0, tra))), (347, .inr (.inl (0, len)))] h0) : j_V jP d 117 0 (lv_args 0 [.ref 0, .int x1, .int x2]) [] h (fun rv h' => rv = some (.int (x_qstation shu bus ph sp ns nt cel run tra len sst x1 x2).1) ∧ KN h' [(0, .inl (9, [.ref 1, .ref 3, .ref 4, .ref 29, .ref 281, .ref 325, .ref 343, .ref 327, .int (x_qstation shu bus ph sp ns nt cel run tra len sst x1 x2).2])), (4, .inl (7, [.ref 343, .int mi, .int shu, .int bus, .ref 5, .ref 6, .ref 7, .ref 8, .ref 9, .ref 10, .ref 11, .ref 12, .ref 13, .ref 14, .ref 15, .int lks, .ref 16, .ref 17, .ref 20])), (7, .inr (.inl (0, ph))), (8, .inr (.inl (0, sp))), (343, .inl (2, [.int ns, .ref 344, .ref 345, .ref 346, .ref 347, .int nt, .ref 348, .ref 349, .ref 350, .ref 351, .ref 352, .ref 353, .ref 354, .int cel, .ref 355, .ref 356, .ref 357, .ref 358])), (345, .inr (.inl (0, run))), (346, .inr (.inl (0, tra))), (347, .inr (.inl (0, len)))] h0) := by
  show j_V jP d 117 0 [(0, .ref 0), (1, .int x1), (2, .int x2)] [] h _
  obtain ⟨lv, elv, L⟩ : ∃ lv, lv = [(0, .ref 0), (1, .int x1), (2, .int x2)] ∧ LK lv [(0, .ref 0), (1, .int x1), (2, .int x2)] := ⟨_, rfl, LK.rf⟩
  rw [← elv]
  clear elv
  refine j_V.ldL xb53_M xb53_0 rfl (i := 2) (kd := 0) (v := .int x2) (pcJ := 1) rfl L rfl rfl rfl ?_
  refine j_V.one xb53_M xb53_1 (by decide) (pcJ := 2) (stJ := [.int 0, .int x2]) rfl ?_
  refine j_V.one xb53_M xb53_2 (by decide) (pcJ := 3) (stJ := [.int 4, .int 0, .int x2]) rfl ?_
  refine j_V.cl xb53_M xb53_3 rfl (md := 2) (mj := 162) rfl (by decide) xbwisWi_M (As := [.int x2, .int 0, .int 4]) (rest := []) (jk_spl2 rfl rfl (Nat.le_of_ble_eq_true rfl) (Nat.le_of_ble_eq_true rfl)) (fun d => xbwisWi_ok (K.fi [] rfl rfl)) ?_
  rintro r hz ⟨rfl, ez⟩
  rw [ez]
  clear ez
  show j_V jP _ 117 6 lv [.int (x_isWithin x2 0 4)] h _
  refine j_V.ifc xb53_M xb53_6 (t := 15) rfl (fun c6_0 => ?_) (fun c6_0 => ?_)
  · replace c6_0 : ¬ ((x_isWithin x2 0 4) = 0) := jd_ne c6_0
    refine j_V.ldL xb53_M xb53_15 rfl (i := 0) (kd := 2) (v := .ref 0) (pcJ := 16) rfl L rfl rfl rfl ?_
    refine j_V.ldL xb53_M xb53_16 rfl (i := 1) (kd := 0) (v := .int x1) (pcJ := 17) rfl L rfl rfl rfl ?_
    refine j_V.cl xb53_M xb53_17 rfl (md := 3) (mj := 163) rfl (by decide) xb45_M (As := [.ref 0, .int x1]) (rest := []) (jk_spl3 (K.at rfl) rfl rfl rfl (Nat.le_of_ble_eq_true rfl) (Nat.le_of_ble_eq_true rfl)) (fun d => xb45_ok (K.fi [0, 343] rfl rfl)) ?_
    rintro r hz ⟨rfl, ez⟩
    rw [ez]
    clear ez
    show j_V jP _ 117 20 lv [.int (x_isStation ns x1)] h _
    refine j_V.ifc xb53_M xb53_20 (t := 29) rfl (fun c20_1 => ?_) (fun c20_1 => ?_)
    · replace c20_1 : ¬ ((x_isStation ns x1) = 0) := jd_ne c20_1
      refine j_V.ldL xb53_M xb53_29 rfl (i := 2) (kd := 0) (v := .int x2) (pcJ := 30) rfl L rfl rfl rfl ?_
      refine j_V.tsw xb53_M xb53_30 (fun t ht hx => ?_) (fun i off t ho ht hx => ?_)
      · obtain rfl : 128 = t := Option.some.inj (show some 128 = some t from ht)
        have s30_0 : ¬ (x2 = 0) := fun z => by rw [z] at hx; revert hx; decide
        have s30_1 : ¬ (x2 = 1) := fun z => by rw [z] at hx; revert hx; decide
        have s30_2 : ¬ (x2 = 2) := fun z => by rw [z] at hx; revert hx; decide
        have s30_3 : ¬ (x2 = 3) := fun z => by rw [z] at hx; revert hx; decide
        refine j_V.ldL xb53_M xb53_128 rfl (i := 0) (kd := 2) (v := .ref 0) (pcJ := 129) rfl L rfl rfl rfl ?_
        refine j_V.ldL xb53_M xb53_129 rfl (i := 0) (kd := 2) (v := .ref 0) (pcJ := 130) rfl L rfl rfl rfl ?_
        refine j_V.getK xb53_M xb53_130 (ci := 9) (j := 6) rfl K rfl rfl ?_
        refine j_V.ldL xb53_M xb53_133 rfl (i := 1) (kd := 0) (v := .int x1) (pcJ := 134) rfl L rfl rfl rfl ?_
        refine j_V.cl xb53_M xb53_134 rfl (md := 3) (mj := 24) rfl (by decide) xb02_M (As := [.ref 343, .int x1]) (rest := [.ref 0]) (jk_spl3 (K.at rfl) rfl rfl rfl (Nat.le_of_ble_eq_true rfl) (Nat.le_of_ble_eq_true rfl)) (fun d => xb02_ok (K.fi [343, 346, 347] rfl rfl)) ?_
        rintro r hz ⟨rfl, ez⟩
        rw [ez]
        clear ez
        show j_V jP _ 117 137 lv [.int (x_longest tra len x1), .ref 0] h _
        refine j_V.cl xb53_M xb53_137 rfl (md := 3) (mj := 159) rfl (by decide) xb49_M (As := [.ref 0, .int (x_longest tra len x1)]) (rest := []) (jk_spl3 (K.at rfl) rfl rfl rfl (Nat.le_of_ble_eq_true rfl) (Nat.le_of_ble_eq_true rfl)) (fun d => xb49_ok (K.fi [0] rfl rfl)) ?_
        rintro r h9 ⟨rfl, K9⟩
        generalize ez1 : (x_qanswer sst (x_longest tra len x1)) = z1 at K9 ⊢
        have K : KN h9 [(0, .inl (9, [.ref 1, .ref 3, .ref 4, .ref 29, .ref 281, .ref 325, .ref 343, .ref 327, .int (z1.2)])), (4, .inl (7, [.ref 343, .int mi, .int shu, .int bus, .ref 5, .ref 6, .ref 7, .ref 8, .ref 9, .ref 10, .ref 11, .ref 12, .ref 13, .ref 14, .ref 15, .int lks, .ref 16, .ref 17, .ref 20])), (7, .inr (.inl (0, ph))), (8, .inr (.inl (0, sp))), (343, .inl (2, [.int ns, .ref 344, .ref 345, .ref 346, .ref 347, .int nt, .ref 348, .ref 349, .ref 350, .ref 351, .ref 352, .ref 353, .ref 354, .int cel, .ref 355, .ref 356, .ref 357, .ref 358])), (345, .inr (.inl (0, run))), (346, .inr (.inl (0, tra))), (347, .inr (.inl (0, len)))] h0 := K.mg K9 rfl rfl
        clear K9
        show j_V jP _ 117 140 lv [.int (z1.1)] h9 _
        subst ez1
        refine j_V.ri xb53_M xb53_140 ?_
        rw [show (x_qstation shu bus ph sp ns nt cel run tra len sst x1 x2) = _ from ((if_neg c6_0).trans ((if_neg c20_1).trans ((if_neg s30_0).trans ((if_neg s30_1).trans ((if_neg s30_2).trans ((if_neg s30_3).trans (rfl)))))))]
        exact ⟨rfl, K⟩
      · match i, ho, hx with
        | 0, ho, hx =>
          obtain rfl := Option.some.inj (show some (30 : Int) = some off from ho)
          obtain rfl : 60 = t := Option.some.inj (show some 60 = some t from ht)
          have s30_0 : x2 = 0 := Int32.toInt_inj.mp (by rw [hx]; rfl)
          refine j_V.ldL xb53_M xb53_60 rfl (i := 0) (kd := 2) (v := .ref 0) (pcJ := 61) rfl L rfl rfl rfl ?_
          refine j_V.ldL xb53_M xb53_61 rfl (i := 0) (kd := 2) (v := .ref 0) (pcJ := 62) rfl L rfl rfl rfl ?_
          refine j_V.getK xb53_M xb53_62 (ci := 9) (j := 6) rfl K rfl rfl ?_
          refine j_V.getK xb53_M xb53_65 (ci := 2) (j := 2) rfl K rfl rfl ?_
          refine j_V.ldL xb53_M xb53_68 rfl (i := 1) (kd := 0) (v := .int x1) (pcJ := 69) rfl L rfl rfl rfl ?_
          refine j_V.iaA xb53_M xb53_69 K rfl ?_
          refine j_V.cl xb53_M xb53_70 rfl (md := 3) (mj := 159) rfl (by decide) xb49_M (As := [.ref 0, .int (gA run x1)]) (rest := []) (jk_spl3 (K.at rfl) rfl rfl rfl (Nat.le_of_ble_eq_true rfl) (Nat.le_of_ble_eq_true rfl)) (fun d => xb49_ok (K.fi [0] rfl rfl)) ?_
          rintro r h9 ⟨rfl, K9⟩
          generalize ez2 : (x_qanswer sst (gA run x1)) = z2 at K9 ⊢
          have K : KN h9 [(0, .inl (9, [.ref 1, .ref 3, .ref 4, .ref 29, .ref 281, .ref 325, .ref 343, .ref 327, .int (z2.2)])), (4, .inl (7, [.ref 343, .int mi, .int shu, .int bus, .ref 5, .ref 6, .ref 7, .ref 8, .ref 9, .ref 10, .ref 11, .ref 12, .ref 13, .ref 14, .ref 15, .int lks, .ref 16, .ref 17, .ref 20])), (7, .inr (.inl (0, ph))), (8, .inr (.inl (0, sp))), (343, .inl (2, [.int ns, .ref 344, .ref 345, .ref 346, .ref 347, .int nt, .ref 348, .ref 349, .ref 350, .ref 351, .ref 352, .ref 353, .ref 354, .int cel, .ref 355, .ref 356, .ref 357, .ref 358])), (345, .inr (.inl (0, run))), (346, .inr (.inl (0, tra))), (347, .inr (.inl (0, len)))] h0 := K.mg K9 rfl rfl
          clear K9
          show j_V jP _ 117 73 lv [.int (z2.1)] h9 _
          subst ez2
          refine j_V.ri xb53_M xb53_73 ?_
          rw [show (x_qstation shu bus ph sp ns nt cel run tra len sst x1 x2) = _ from ((if_neg c6_0).trans ((if_neg c20_1).trans ((if_pos s30_0).trans (rfl))))]
          exact ⟨rfl, K⟩
        | 1, ho, hx =>
          obtain rfl := Option.some.inj (show some (44 : Int) = some off from ho)
          obtain rfl : 74 = t := Option.some.inj (show some 74 = some t from ht)
          have s30_1 : x2 = 1 := Int32.toInt_inj.mp (by rw [hx]; rfl)
          have s30_0 : ¬ (x2 = 0) := fun z => by rw [s30_1] at z; exact absurd z (by decide)
          refine j_V.ldL xb53_M xb53_74 rfl (i := 0) (kd := 2) (v := .ref 0) (pcJ := 75) rfl L rfl rfl rfl ?_
          refine j_V.ldL xb53_M xb53_75 rfl (i := 0) (kd := 2) (v := .ref 0) (pcJ := 76) rfl L rfl rfl rfl ?_
          refine j_V.getK xb53_M xb53_76 (ci := 9) (j := 6) rfl K rfl rfl ?_
          refine j_V.getK xb53_M xb53_79 (ci := 2) (j := 3) rfl K rfl rfl ?_
          refine j_V.ldL xb53_M xb53_82 rfl (i := 1) (kd := 0) (v := .int x1) (pcJ := 83) rfl L rfl rfl rfl ?_
          refine j_V.iaA xb53_M xb53_83 K rfl ?_
          refine j_V.cl xb53_M xb53_84 rfl (md := 3) (mj := 159) rfl (by decide) xb49_M (As := [.ref 0, .int (gA tra x1)]) (rest := []) (jk_spl3 (K.at rfl) rfl rfl rfl (Nat.le_of_ble_eq_true rfl) (Nat.le_of_ble_eq_true rfl)) (fun d => xb49_ok (K.fi [0] rfl rfl)) ?_
          rintro r h9 ⟨rfl, K9⟩
          generalize ez3 : (x_qanswer sst (gA tra x1)) = z3 at K9 ⊢
          have K : KN h9 [(0, .inl (9, [.ref 1, .ref 3, .ref 4, .ref 29, .ref 281, .ref 325, .ref 343, .ref 327, .int (z3.2)])), (4, .inl (7, [.ref 343, .int mi, .int shu, .int bus, .ref 5, .ref 6, .ref 7, .ref 8, .ref 9, .ref 10, .ref 11, .ref 12, .ref 13, .ref 14, .ref 15, .int lks, .ref 16, .ref 17, .ref 20])), (7, .inr (.inl (0, ph))), (8, .inr (.inl (0, sp))), (343, .inl (2, [.int ns, .ref 344, .ref 345, .ref 346, .ref 347, .int nt, .ref 348, .ref 349, .ref 350, .ref 351, .ref 352, .ref 353, .ref 354, .int cel, .ref 355, .ref 356, .ref 357, .ref 358])), (345, .inr (.inl (0, run))), (346, .inr (.inl (0, tra))), (347, .inr (.inl (0, len)))] h0 := K.mg K9 rfl rfl
          clear K9
          show j_V jP _ 117 87 lv [.int (z3.1)] h9 _
          subst ez3
          refine j_V.ri xb53_M xb53_87 ?_
          rw [show (x_qstation shu bus ph sp ns nt cel run tra len sst x1 x2) = _ from ((if_neg c6_0).trans ((if_neg c20_1).trans ((if_neg s30_0).trans ((if_pos s30_1).trans (rfl)))))]
          exact ⟨rfl, K⟩
        | 2, ho, hx =>
          obtain rfl := Option.some.inj (show some (58 : Int) = some off from ho)
          obtain rfl : 88 = t := Option.some.inj (show some 88 = some t from ht)
          have s30_2 : x2 = 2 := Int32.toInt_inj.mp (by rw [hx]; rfl)
          have s30_0 : ¬ (x2 = 0) := fun z => by rw [s30_2] at z; exact absurd z (by decide)
          have s30_1 : ¬ (x2 = 1) := fun z => by rw [s30_2] at z; exact absurd z (by decide)
          refine j_V.ldL xb53_M xb53_88 rfl (i := 0) (kd := 2) (v := .ref 0) (pcJ := 89) rfl L rfl rfl rfl ?_
          refine j_V.ldL xb53_M xb53_89 rfl (i := 0) (kd := 2) (v := .ref 0) (pcJ := 90) rfl L rfl rfl rfl ?_
          refine j_V.getK xb53_M xb53_90 (ci := 9) (j := 2) rfl K rfl rfl ?_
          refine j_V.cl xb53_M xb53_93 rfl (md := 3) (mj := 67) rfl (by decide) xb08_M (As := [.ref 4]) (rest := [.ref 0]) (jk_spl3 (K.at rfl) rfl rfl rfl (Nat.le_of_ble_eq_true rfl) (Nat.le_of_ble_eq_true rfl)) (fun d => xb08_ok (K.fi [4, 343] rfl rfl)) ?_
          rintro r hz ⟨rfl, ez⟩
          rw [ez]
          clear ez
          show j_V jP _ 117 96 lv [.int (x_freeCells shu bus cel), .ref 0] h _
          refine j_V.ldL xb53_M xb53_96 rfl (i := 0) (kd := 2) (v := .ref 0) (pcJ := 97) rfl L rfl rfl rfl ?_
          refine j_V.getK xb53_M xb53_97 (ci := 9) (j := 6) rfl K rfl rfl ?_
          refine j_V.ldL xb53_M xb53_100 rfl (i := 1) (kd := 0) (v := .int x1) (pcJ := 101) rfl L rfl rfl rfl ?_
          refine j_V.cl xb53_M xb53_101 rfl (md := 3) (mj := 23) rfl (by decide) xb00_M (As := [.ref 343, .int x1]) (rest := [.int (x_freeCells shu bus cel), .ref 0]) (jk_spl3 (K.at rfl) rfl rfl rfl (Nat.le_of_ble_eq_true rfl) (Nat.le_of_ble_eq_true rfl)) (fun d => xb00_ok (K.fi [343, 346] rfl rfl)) ?_
          rintro r hz ⟨rfl, ez⟩
          rw [ez]
          clear ez
          show j_V jP _ 117 104 lv [.int (x_cellsOf tra x1), .int (x_freeCells shu bus cel), .ref 0] h _
          refine j_V.one xb53_M xb53_104 (by decide) (pcJ := 105) (stJ := [.int ((x_freeCells shu bus cel) &&& (x_cellsOf tra x1)), .ref 0]) rfl ?_
          refine j_V.cl xb53_M xb53_105 rfl (md := 2) (mj := 298) rfl (by decide) xbbc_M (As := [.int ((x_freeCells shu bus cel) &&& (x_cellsOf tra x1))]) (rest := [.ref 0]) (jk_spl2 rfl rfl (Nat.le_of_ble_eq_true rfl) (Nat.le_of_ble_eq_true rfl)) (fun d => xbbc_ok (K.fi [] rfl rfl)) ?_
          rintro r hz ⟨rfl, ez⟩
          rw [ez]
          clear ez
          show j_V jP _ 117 108 lv [.int (x_bitCount ((x_freeCells shu bus cel) &&& (x_cellsOf tra x1))), .ref 0] h _
          refine j_V.cl xb53_M xb53_108 rfl (md := 3) (mj := 159) rfl (by decide) xb49_M (As := [.ref 0, .int (x_bitCount ((x_freeCells shu bus cel) &&& (x_cellsOf tra x1)))]) (rest := []) (jk_spl3 (K.at rfl) rfl rfl rfl (Nat.le_of_ble_eq_true rfl) (Nat.le_of_ble_eq_true rfl)) (fun d => xb49_ok (K.fi [0] rfl rfl)) ?_
          rintro r h9 ⟨rfl, K9⟩
          generalize ez4 : (x_qanswer sst (x_bitCount ((x_freeCells shu bus cel) &&& (x_cellsOf tra x1)))) = z4 at K9 ⊢
          have K : KN h9 [(0, .inl (9, [.ref 1, .ref 3, .ref 4, .ref 29, .ref 281, .ref 325, .ref 343, .ref 327, .int (z4.2)])), (4, .inl (7, [.ref 343, .int mi, .int shu, .int bus, .ref 5, .ref 6, .ref 7, .ref 8, .ref 9, .ref 10, .ref 11, .ref 12, .ref 13, .ref 14, .ref 15, .int lks, .ref 16, .ref 17, .ref 20])), (7, .inr (.inl (0, ph))), (8, .inr (.inl (0, sp))), (343, .inl (2, [.int ns, .ref 344, .ref 345, .ref 346, .ref 347, .int nt, .ref 348, .ref 349, .ref 350, .ref 351, .ref 352, .ref 353, .ref 354, .int cel, .ref 355, .ref 356, .ref 357, .ref 358])), (345, .inr (.inl (0, run))), (346, .inr (.inl (0, tra))), (347, .inr (.inl (0, len)))] h0 := K.mg K9 rfl rfl
          clear K9
          show j_V jP _ 117 111 lv [.int (z4.1)] h9 _
          subst ez4
          refine j_V.ri xb53_M xb53_111 ?_
          rw [show (x_qstation shu bus ph sp ns nt cel run tra len sst x1 x2) = _ from ((if_neg c6_0).trans ((if_neg c20_1).trans ((if_neg s30_0).trans ((if_neg s30_1).trans ((if_pos s30_2).trans (rfl))))))]
          exact ⟨rfl, K⟩
        | 3, ho, hx =>
          obtain rfl := Option.some.inj (show some (82 : Int) = some off from ho)
          obtain rfl : 112 = t := Option.some.inj (show some 112 = some t from ht)
          have s30_3 : x2 = 3 := Int32.toInt_inj.mp (by rw [hx]; rfl)
          have s30_0 : ¬ (x2 = 0) := fun z => by rw [s30_3] at z; exact absurd z (by decide)
          have s30_1 : ¬ (x2 = 1) := fun z => by rw [s30_3] at z; exact absurd z (by decide)
          have s30_2 : ¬ (x2 = 2) := fun z => by rw [s30_3] at z; exact absurd z (by decide)
          refine j_V.ldL xb53_M xb53_112 rfl (i := 0) (kd := 2) (v := .ref 0) (pcJ := 113) rfl L rfl rfl rfl ?_
          refine j_V.ldL xb53_M xb53_113 rfl (i := 0) (kd := 2) (v := .ref 0) (pcJ := 114) rfl L rfl rfl rfl ?_
          refine j_V.getK xb53_M xb53_114 (ci := 9) (j := 2) rfl K rfl rfl ?_
          refine j_V.ldL xb53_M xb53_117 rfl (i := 1) (kd := 0) (v := .int x1) (pcJ := 118) rfl L rfl rfl rfl ?_
          refine j_V.cl xb53_M xb53_118 rfl (md := 3) (mj := 68) rfl (by decide) xb09_M (As := [.ref 4, .int x1]) (rest := [.ref 0]) (jk_spl3 (K.at rfl) rfl rfl rfl (Nat.le_of_ble_eq_true rfl) (Nat.le_of_ble_eq_true rfl)) (fun d => xb09_ok (K.fi [4, 7, 8, 343] rfl rfl)) ?_
          rintro r hz ⟨rfl, ez⟩
          rw [ez]
          clear ez
          show j_V jP _ 117 121 lv [.int (x_trainsIn ph sp nt x1), .ref 0] h _
          refine j_V.cl xb53_M xb53_121 rfl (md := 2) (mj := 298) rfl (by decide) xbbc_M (As := [.int (x_trainsIn ph sp nt x1)]) (rest := [.ref 0]) (jk_spl2 rfl rfl (Nat.le_of_ble_eq_true rfl) (Nat.le_of_ble_eq_true rfl)) (fun d => xbbc_ok (K.fi [] rfl rfl)) ?_
          rintro r hz ⟨rfl, ez⟩
          rw [ez]
          clear ez
          show j_V jP _ 117 124 lv [.int (x_bitCount (x_trainsIn ph sp nt x1)), .ref 0] h _
          refine j_V.cl xb53_M xb53_124 rfl (md := 3) (mj := 159) rfl (by decide) xb49_M (As := [.ref 0, .int (x_bitCount (x_trainsIn ph sp nt x1))]) (rest := []) (jk_spl3 (K.at rfl) rfl rfl rfl (Nat.le_of_ble_eq_true rfl) (Nat.le_of_ble_eq_true rfl)) (fun d => xb49_ok (K.fi [0] rfl rfl)) ?_
          rintro r h9 ⟨rfl, K9⟩
          generalize ez5 : (x_qanswer sst (x_bitCount (x_trainsIn ph sp nt x1))) = z5 at K9 ⊢
          have K : KN h9 [(0, .inl (9, [.ref 1, .ref 3, .ref 4, .ref 29, .ref 281, .ref 325, .ref 343, .ref 327, .int (z5.2)])), (4, .inl (7, [.ref 343, .int mi, .int shu, .int bus, .ref 5, .ref 6, .ref 7, .ref 8, .ref 9, .ref 10, .ref 11, .ref 12, .ref 13, .ref 14, .ref 15, .int lks, .ref 16, .ref 17, .ref 20])), (7, .inr (.inl (0, ph))), (8, .inr (.inl (0, sp))), (343, .inl (2, [.int ns, .ref 344, .ref 345, .ref 346, .ref 347, .int nt, .ref 348, .ref 349, .ref 350, .ref 351, .ref 352, .ref 353, .ref 354, .int cel, .ref 355, .ref 356, .ref 357, .ref 358])), (345, .inr (.inl (0, run))), (346, .inr (.inl (0, tra))), (347, .inr (.inl (0, len)))] h0 := K.mg K9 rfl rfl
          clear K9
          show j_V jP _ 117 127 lv [.int (z5.1)] h9 _
          subst ez5
          refine j_V.ri xb53_M xb53_127 ?_
          rw [show (x_qstation shu bus ph sp ns nt cel run tra len sst x1 x2) = _ from ((if_neg c6_0).trans ((if_neg c20_1).trans ((if_neg s30_0).trans ((if_neg s30_1).trans ((if_neg s30_2).trans ((if_pos s30_3).trans (rfl)))))))]
          exact ⟨rfl, K⟩
        | k + 4, ho, hx => cases ho
    · replace c20_1 : (x_isStation ns x1) = 0 := jd_nen c20_1
      refine j_V.ldL xb53_M xb53_23 rfl (i := 0) (kd := 2) (v := .ref 0) (pcJ := 24) rfl L rfl rfl rfl ?_
      refine j_V.one xb53_M xb53_24 (by decide) (pcJ := 25) (stJ := [.int 2, .ref 0]) rfl ?_
      refine j_V.cl xb53_M xb53_25 rfl (md := 3) (mj := 161) rfl (by decide) xb50_M (As := [.ref 0, .int 2]) (rest := []) (jk_spl3 (K.at rfl) rfl rfl rfl (Nat.le_of_ble_eq_true rfl) (Nat.le_of_ble_eq_true rfl)) (fun d => xb50_ok (K.fi [0] rfl rfl)) ?_
      rintro r h9 ⟨rfl, K9⟩
      generalize ez6 : (x_qrefuse sst 2) = z6 at K9 ⊢
      have K : KN h9 [(0, .inl (9, [.ref 1, .ref 3, .ref 4, .ref 29, .ref 281, .ref 325, .ref 343, .ref 327, .int (z6.2)])), (4, .inl (7, [.ref 343, .int mi, .int shu, .int bus, .ref 5, .ref 6, .ref 7, .ref 8, .ref 9, .ref 10, .ref 11, .ref 12, .ref 13, .ref 14, .ref 15, .int lks, .ref 16, .ref 17, .ref 20])), (7, .inr (.inl (0, ph))), (8, .inr (.inl (0, sp))), (343, .inl (2, [.int ns, .ref 344, .ref 345, .ref 346, .ref 347, .int nt, .ref 348, .ref 349, .ref 350, .ref 351, .ref 352, .ref 353, .ref 354, .int cel, .ref 355, .ref 356, .ref 357, .ref 358])), (345, .inr (.inl (0, run))), (346, .inr (.inl (0, tra))), (347, .inr (.inl (0, len)))] h0 := K.mg K9 rfl rfl
      clear K9
      show j_V jP _ 117 28 lv [.int (z6.1)] h9 _
      subst ez6
      refine j_V.ri xb53_M xb53_28 ?_
      rw [show (x_qstation shu bus ph sp ns nt cel run tra len sst x1 x2) = _ from ((if_neg c6_0).trans ((if_pos c20_1).trans (rfl)))]
      exact ⟨rfl, K⟩
  · replace c6_0 : (x_isWithin x2 0 4) = 0 := jd_nen c6_0
    refine j_V.ldL xb53_M xb53_9 rfl (i := 0) (kd := 2) (v := .ref 0) (pcJ := 10) rfl L rfl rfl rfl ?_
    refine j_V.one xb53_M xb53_10 (by decide) (pcJ := 11) (stJ := [.int 1, .ref 0]) rfl ?_
    refine j_V.cl xb53_M xb53_11 rfl (md := 3) (mj := 161) rfl (by decide) xb50_M (As := [.ref 0, .int 1]) (rest := []) (jk_spl3 (K.at rfl) rfl rfl rfl (Nat.le_of_ble_eq_true rfl) (Nat.le_of_ble_eq_true rfl)) (fun d => xb50_ok (K.fi [0] rfl rfl)) ?_
    rintro r h9 ⟨rfl, K9⟩
    generalize ez7 : (x_qrefuse sst 1) = z7 at K9 ⊢
    have K : KN h9 [(0, .inl (9, [.ref 1, .ref 3, .ref 4, .ref 29, .ref 281, .ref 325, .ref 343, .ref 327, .int (z7.2)])), (4, .inl (7, [.ref 343, .int mi, .int shu, .int bus, .ref 5, .ref 6, .ref 7, .ref 8, .ref 9, .ref 10, .ref 11, .ref 12, .ref 13, .ref 14, .ref 15, .int lks, .ref 16, .ref 17, .ref 20])), (7, .inr (.inl (0, ph))), (8, .inr (.inl (0, sp))), (343, .inl (2, [.int ns, .ref 344, .ref 345, .ref 346, .ref 347, .int nt, .ref 348, .ref 349, .ref 350, .ref 351, .ref 352, .ref 353, .ref 354, .int cel, .ref 355, .ref 356, .ref 357, .ref 358])), (345, .inr (.inl (0, run))), (346, .inr (.inl (0, tra))), (347, .inr (.inl (0, len)))] h0 := K.mg K9 rfl rfl
    clear K9
    show j_V jP _ 117 14 lv [.int (z7.1)] h9 _
    subst ez7
    refine j_V.ri xb53_M xb53_14 ?_
    rw [show (x_qstation shu bus ph sp ns nt cel run tra len sst x1 x2) = _ from ((if_pos c6_0).trans (rfl))]
    exact ⟨rfl, K⟩
set_option maxRecDepth 100000 in
theorem xb54_M : j_meth jP 119 = some (yX9_train, cX9_train, 3, (some .int), 2, false, 9) := rfl
set_option maxRecDepth 100000 in
theorem xb54_0 : j_code jP 119 0 = some (.iload_n 2) := rfl
set_option maxRecDepth 100000 in
theorem xb54_1 : j_code jP 119 1 = some (.iconst 0) := rfl
set_option maxRecDepth 100000 in
theorem xb54_2 : j_code jP 119 2 = some (.bipush 13) := rfl
set_option maxRecDepth 100000 in
theorem xb54_4 : j_code jP 119 4 = some (.invokestatic 138) := rfl
set_option maxRecDepth 100000 in
theorem xb54_7 : j_code jP 119 7 = some (.ifCond .ne 9) := rfl
set_option maxRecDepth 100000 in
theorem xb54_10 : j_code jP 119 10 = some (.aload_n 0) := rfl
set_option maxRecDepth 100000 in
theorem xb54_11 : j_code jP 119 11 = some (.iconst 1) := rfl
set_option maxRecDepth 100000 in
theorem xb54_12 : j_code jP 119 12 = some (.invokevirtual 84) := rfl
set_option maxRecDepth 100000 in
theorem xb54_15 : j_code jP 119 15 = some (.ireturn) := rfl
set_option maxRecDepth 100000 in
theorem xb54_16 : j_code jP 119 16 = some (.aload_n 0) := rfl
set_option maxRecDepth 100000 in
theorem xb54_17 : j_code jP 119 17 = some (.iload_n 1) := rfl
set_option maxRecDepth 100000 in
theorem xb54_18 : j_code jP 119 18 = some (.invokevirtual 184) := rfl
set_option maxRecDepth 100000 in
theorem xb54_21 : j_code jP 119 21 = some (.ifCond .ne 9) := rfl
set_option maxRecDepth 100000 in
theorem xb54_24 : j_code jP 119 24 = some (.aload_n 0) := rfl
set_option maxRecDepth 100000 in
theorem xb54_25 : j_code jP 119 25 = some (.iconst 2) := rfl
set_option maxRecDepth 100000 in
theorem xb54_26 : j_code jP 119 26 = some (.invokevirtual 84) := rfl
set_option maxRecDepth 100000 in
theorem xb54_29 : j_code jP 119 29 = some (.ireturn) := rfl
set_option maxRecDepth 100000 in
theorem xb54_30 : j_code jP 119 30 = some (.iload_n 2) := rfl
set_option maxRecDepth 100000 in
theorem xb54_31 : j_code jP 119 31 = some (.tableswitch 242 0 12 #[65, 79, 93, 107, 121, 135, 149, 163, 176, 189, 202, 216, 229]) := rfl
set_option maxRecDepth 100000 in
theorem xb54_96 : j_code jP 119 96 = some (.aload_n 0) := rfl
set_option maxRecDepth 100000 in
theorem xb54_97 : j_code jP 119 97 = some (.aload_n 0) := rfl
set_option maxRecDepth 100000 in
theorem xb54_98 : j_code jP 119 98 = some (.getfield 58) := rfl
set_option maxRecDepth 100000 in
theorem xb54_101 : j_code jP 119 101 = some (.getfield 187) := rfl
set_option maxRecDepth 100000 in
theorem xb54_104 : j_code jP 119 104 = some (.iload_n 1) := rfl
set_option maxRecDepth 100000 in
theorem xb54_105 : j_code jP 119 105 = some (.iaload) := rfl
set_option maxRecDepth 100000 in
theorem xb54_106 : j_code jP 119 106 = some (.invokevirtual 104) := rfl
set_option maxRecDepth 100000 in
theorem xb54_109 : j_code jP 119 109 = some (.ireturn) := rfl
set_option maxRecDepth 100000 in
theorem xb54_110 : j_code jP 119 110 = some (.aload_n 0) := rfl
set_option maxRecDepth 100000 in
theorem xb54_111 : j_code jP 119 111 = some (.aload_n 0) := rfl
set_option maxRecDepth 100000 in
theorem xb54_112 : j_code jP 119 112 = some (.getfield 58) := rfl
set_option maxRecDepth 100000 in
theorem xb54_115 : j_code jP 119 115 = some (.getfield 190) := rfl
set_option maxRecDepth 100000 in
theorem xb54_118 : j_code jP 119 118 = some (.iload_n 1) := rfl
set_option maxRecDepth 100000 in
theorem xb54_119 : j_code jP 119 119 = some (.iaload) := rfl
set_option maxRecDepth 100000 in
theorem xb54_120 : j_code jP 119 120 = some (.invokevirtual 104) := rfl
set_option maxRecDepth 100000 in
theorem xb54_123 : j_code jP 119 123 = some (.ireturn) := rfl
set_option maxRecDepth 100000 in
theorem xb54_124 : j_code jP 119 124 = some (.aload_n 0) := rfl
set_option maxRecDepth 100000 in
theorem xb54_125 : j_code jP 119 125 = some (.aload_n 0) := rfl
set_option maxRecDepth 100000 in
theorem xb54_126 : j_code jP 119 126 = some (.getfield 58) := rfl
set_option maxRecDepth 100000 in
theorem xb54_129 : j_code jP 119 129 = some (.getfield 193) := rfl
set_option maxRecDepth 100000 in
theorem xb54_132 : j_code jP 119 132 = some (.iload_n 1) := rfl
set_option maxRecDepth 100000 in
theorem xb54_133 : j_code jP 119 133 = some (.iaload) := rfl
set_option maxRecDepth 100000 in
theorem xb54_134 : j_code jP 119 134 = some (.invokevirtual 104) := rfl
set_option maxRecDepth 100000 in
theorem xb54_137 : j_code jP 119 137 = some (.ireturn) := rfl
set_option maxRecDepth 100000 in
theorem xb54_138 : j_code jP 119 138 = some (.aload_n 0) := rfl
set_option maxRecDepth 100000 in
theorem xb54_139 : j_code jP 119 139 = some (.aload_n 0) := rfl
set_option maxRecDepth 100000 in
theorem xb54_140 : j_code jP 119 140 = some (.getfield 30) := rfl
set_option maxRecDepth 100000 in
theorem xb54_143 : j_code jP 119 143 = some (.getfield 196) := rfl
set_option maxRecDepth 100000 in
theorem xb54_146 : j_code jP 119 146 = some (.iload_n 1) := rfl
set_option maxRecDepth 100000 in
theorem xb54_147 : j_code jP 119 147 = some (.iaload) := rfl
set_option maxRecDepth 100000 in
theorem xb54_148 : j_code jP 119 148 = some (.invokevirtual 104) := rfl
set_option maxRecDepth 100000 in
theorem xb54_151 : j_code jP 119 151 = some (.ireturn) := rfl
set_option maxRecDepth 100000 in
theorem xb54_152 : j_code jP 119 152 = some (.aload_n 0) := rfl
set_option maxRecDepth 100000 in
theorem xb54_153 : j_code jP 119 153 = some (.aload_n 0) := rfl
set_option maxRecDepth 100000 in
theorem xb54_154 : j_code jP 119 154 = some (.getfield 58) := rfl
set_option maxRecDepth 100000 in
theorem xb54_157 : j_code jP 119 157 = some (.getfield 199) := rfl
set_option maxRecDepth 100000 in
theorem xb54_160 : j_code jP 119 160 = some (.iload_n 1) := rfl
set_option maxRecDepth 100000 in
theorem xb54_161 : j_code jP 119 161 = some (.iaload) := rfl
set_option maxRecDepth 100000 in
theorem xb54_162 : j_code jP 119 162 = some (.invokevirtual 104) := rfl
set_option maxRecDepth 100000 in
theorem xb54_165 : j_code jP 119 165 = some (.ireturn) := rfl
set_option maxRecDepth 100000 in
theorem xb54_166 : j_code jP 119 166 = some (.aload_n 0) := rfl
set_option maxRecDepth 100000 in
theorem xb54_167 : j_code jP 119 167 = some (.aload_n 0) := rfl
set_option maxRecDepth 100000 in
theorem xb54_168 : j_code jP 119 168 = some (.getfield 58) := rfl
set_option maxRecDepth 100000 in
theorem xb54_171 : j_code jP 119 171 = some (.getfield 202) := rfl
set_option maxRecDepth 100000 in
theorem xb54_174 : j_code jP 119 174 = some (.iload_n 1) := rfl
set_option maxRecDepth 100000 in
theorem xb54_175 : j_code jP 119 175 = some (.iaload) := rfl
set_option maxRecDepth 100000 in
theorem xb54_176 : j_code jP 119 176 = some (.invokevirtual 104) := rfl
set_option maxRecDepth 100000 in
theorem xb54_179 : j_code jP 119 179 = some (.ireturn) := rfl
set_option maxRecDepth 100000 in
theorem xb54_180 : j_code jP 119 180 = some (.aload_n 0) := rfl
set_option maxRecDepth 100000 in
theorem xb54_181 : j_code jP 119 181 = some (.aload_n 0) := rfl
set_option maxRecDepth 100000 in
theorem xb54_182 : j_code jP 119 182 = some (.getfield 30) := rfl
set_option maxRecDepth 100000 in
theorem xb54_185 : j_code jP 119 185 = some (.getfield 205) := rfl
set_option maxRecDepth 100000 in
theorem xb54_188 : j_code jP 119 188 = some (.iload_n 1) := rfl
set_option maxRecDepth 100000 in
theorem xb54_189 : j_code jP 119 189 = some (.iaload) := rfl
set_option maxRecDepth 100000 in
theorem xb54_190 : j_code jP 119 190 = some (.invokevirtual 104) := rfl
set_option maxRecDepth 100000 in
theorem xb54_193 : j_code jP 119 193 = some (.ireturn) := rfl
set_option maxRecDepth 100000 in
theorem xb54_194 : j_code jP 119 194 = some (.aload_n 0) := rfl
set_option maxRecDepth 100000 in
theorem xb54_195 : j_code jP 119 195 = some (.aload_n 0) := rfl
set_option maxRecDepth 100000 in
theorem xb54_196 : j_code jP 119 196 = some (.getfield 30) := rfl
set_option maxRecDepth 100000 in
theorem xb54_199 : j_code jP 119 199 = some (.iload_n 1) := rfl
set_option maxRecDepth 100000 in
theorem xb54_200 : j_code jP 119 200 = some (.invokevirtual 208) := rfl
set_option maxRecDepth 100000 in
theorem xb54_203 : j_code jP 119 203 = some (.invokevirtual 178) := rfl
set_option maxRecDepth 100000 in
theorem xb54_206 : j_code jP 119 206 = some (.ireturn) := rfl
set_option maxRecDepth 100000 in
theorem xb54_207 : j_code jP 119 207 = some (.aload_n 0) := rfl
set_option maxRecDepth 100000 in
theorem xb54_208 : j_code jP 119 208 = some (.aload_n 0) := rfl
set_option maxRecDepth 100000 in
theorem xb54_209 : j_code jP 119 209 = some (.getfield 30) := rfl
set_option maxRecDepth 100000 in
theorem xb54_212 : j_code jP 119 212 = some (.iload_n 1) := rfl
set_option maxRecDepth 100000 in
theorem xb54_213 : j_code jP 119 213 = some (.invokevirtual 211) := rfl
set_option maxRecDepth 100000 in
theorem xb54_216 : j_code jP 119 216 = some (.invokevirtual 178) := rfl
set_option maxRecDepth 100000 in
theorem xb54_219 : j_code jP 119 219 = some (.ireturn) := rfl
set_option maxRecDepth 100000 in
theorem xb54_220 : j_code jP 119 220 = some (.aload_n 0) := rfl
set_option maxRecDepth 100000 in
theorem xb54_221 : j_code jP 119 221 = some (.aload_n 0) := rfl
set_option maxRecDepth 100000 in
theorem xb54_222 : j_code jP 119 222 = some (.getfield 30) := rfl
set_option maxRecDepth 100000 in
theorem xb54_225 : j_code jP 119 225 = some (.iload_n 1) := rfl
set_option maxRecDepth 100000 in
theorem xb54_226 : j_code jP 119 226 = some (.invokevirtual 214) := rfl
set_option maxRecDepth 100000 in
theorem xb54_229 : j_code jP 119 229 = some (.invokevirtual 178) := rfl
set_option maxRecDepth 100000 in
theorem xb54_232 : j_code jP 119 232 = some (.ireturn) := rfl
set_option maxRecDepth 100000 in
theorem xb54_233 : j_code jP 119 233 = some (.aload_n 0) := rfl
set_option maxRecDepth 100000 in
theorem xb54_234 : j_code jP 119 234 = some (.aload_n 0) := rfl
set_option maxRecDepth 100000 in
theorem xb54_235 : j_code jP 119 235 = some (.getfield 58) := rfl
set_option maxRecDepth 100000 in
theorem xb54_238 : j_code jP 119 238 = some (.getfield 217) := rfl
set_option maxRecDepth 100000 in
theorem xb54_241 : j_code jP 119 241 = some (.iload_n 1) := rfl
set_option maxRecDepth 100000 in
theorem xb54_242 : j_code jP 119 242 = some (.iaload) := rfl
set_option maxRecDepth 100000 in
theorem xb54_243 : j_code jP 119 243 = some (.invokevirtual 104) := rfl
set_option maxRecDepth 100000 in
theorem xb54_246 : j_code jP 119 246 = some (.ireturn) := rfl
set_option maxRecDepth 100000 in
theorem xb54_247 : j_code jP 119 247 = some (.aload_n 0) := rfl
set_option maxRecDepth 100000 in
theorem xb54_248 : j_code jP 119 248 = some (.aload_n 0) := rfl
set_option maxRecDepth 100000 in
theorem xb54_249 : j_code jP 119 249 = some (.getfield 30) := rfl
set_option maxRecDepth 100000 in
theorem xb54_252 : j_code jP 119 252 = some (.iload_n 1) := rfl
set_option maxRecDepth 100000 in
theorem xb54_253 : j_code jP 119 253 = some (.invokevirtual 220) := rfl
set_option maxRecDepth 100000 in
theorem xb54_256 : j_code jP 119 256 = some (.invokevirtual 178) := rfl
set_option maxRecDepth 100000 in
theorem xb54_259 : j_code jP 119 259 = some (.ireturn) := rfl
set_option maxRecDepth 100000 in
theorem xb54_260 : j_code jP 119 260 = some (.aload_n 0) := rfl
set_option maxRecDepth 100000 in
theorem xb54_261 : j_code jP 119 261 = some (.aload_n 0) := rfl
set_option maxRecDepth 100000 in
theorem xb54_262 : j_code jP 119 262 = some (.getfield 30) := rfl
set_option maxRecDepth 100000 in
theorem xb54_265 : j_code jP 119 265 = some (.iload_n 1) := rfl
set_option maxRecDepth 100000 in
theorem xb54_266 : j_code jP 119 266 = some (.invokevirtual 223) := rfl
set_option maxRecDepth 100000 in
theorem xb54_269 : j_code jP 119 269 = some (.invokevirtual 178) := rfl
set_option maxRecDepth 100000 in
theorem xb54_272 : j_code jP 119 272 = some (.ireturn) := rfl
set_option maxRecDepth 100000 in
theorem xb54_273 : j_code jP 119 273 = some (.aload_n 0) := rfl
set_option maxRecDepth 100000 in
theorem xb54_274 : j_code jP 119 274 = some (.aload_n 0) := rfl
set_option maxRecDepth 100000 in
theorem xb54_275 : j_code jP 119 275 = some (.getfield 30) := rfl
set_option maxRecDepth 100000 in
theorem xb54_278 : j_code jP 119 278 = some (.iload_n 1) := rfl
set_option maxRecDepth 100000 in
theorem xb54_279 : j_code jP 119 279 = some (.invokevirtual 226) := rfl
set_option maxRecDepth 100000 in
theorem xb54_282 : j_code jP 119 282 = some (.invokevirtual 104) := rfl
set_option maxRecDepth 100000 in
theorem xb54_285 : j_code jP 119 285 = some (.ireturn) := rfl
set_option maxRecDepth 1000000 in
theorem xb54_ok {mi : Int32} {shu : Int32} {bus : Int32} {lks : Int32} {rk : List Int32} {sta : List Int32} {ph : List Int32} {sp : List Int32} {ce : List Int32} {du : List Int32} {he : List Int32} {cm : List Int32} {ns : Int32} {nt : Int32} {cel : Int32} {siz : List Int32} {frm : List Int32} {tto : List Int32} {slo : List Int32} {wei : List Int32} {lon : List Int32} {sst : Int32} {x1 x2 : Int32} {d : Nat} {h h0 : J_H} (K : KN h [(0, .inl (9, [.ref 1, .ref 3, .ref 4, .ref 29, .ref 281, .ref 325, .ref 343, .ref 327, .int sst])), (4, .inl (7, [.ref 343, .int mi, .int shu, .int bus, .ref 5, .ref 6, .ref 7, .ref 8, .ref 9, .ref 10, .ref 11, .ref 12, .ref 13, .ref 14, .ref 15, .int lks, .ref 16, .ref 17, .ref 20])), (5, .inr (.inl (0, rk))), (6, .inr (.inl (0, sta))), (7, .inr (.inl (0, ph))), (8, .inr (.inl (0, sp))), (9, .inr (.inl (0, ce))), (10, .inr (.inl (0, du))), (11, .inr (.inl (0, he))), (14, .inr (.inl (0, cm))), (343, .inl (2, [.int ns, .ref 344, .ref 345, .ref 346, .ref 347, .int nt, .ref 348, .ref 349, .ref 350, .ref 351, .ref 352, .ref 353, .ref 354, .int cel, .ref 355, .ref 356, .ref 357, .ref 358])), (349, .inr (.inl (0, siz))), (350, .inr (.inl (0, frm))), (351, .inr (.inl (0, tto))), (353, .inr (.inl (0, slo))), (354, .inr (.inl (0, wei))), (358, .inr (.inl (0, lon)))] h0) : j_V jP d 119 0 (lv_args 0 [.ref 0, .int x1, .int x2]) [] h (fun rv h' => rv = some (.int (x_qtrain mi rk sta ph sp ce du he cm nt siz frm tto slo wei lon sst x1 x2).1) ∧ KN h' [(0, .inl (9, [.ref 1, .ref 3, .ref 4, .ref 29, .ref 281, .ref 325, .ref 343, .ref 327, .int (x_qtrain mi rk sta ph sp ce du he cm nt siz frm tto slo wei lon sst x1 x2).2])), (4, .inl (7, [.ref 343, .int mi, .int shu, .int bus, .ref 5, .ref 6, .ref 7, .ref 8, .ref 9, .ref 10, .ref 11, .ref 12, .ref 13, .ref 14, .ref 15, .int lks, .ref 16, .ref 17, .ref 20])), (5, .inr (.inl (0, rk))), (6, .inr (.inl (0, sta))), (7, .inr (.inl (0, ph))), (8, .inr (.inl (0, sp))), (9, .inr (.inl (0, ce))), (10, .inr (.inl (0, du))), (11, .inr (.inl (0, he))), (14, .inr (.inl (0, cm))), (343, .inl (2, [.int ns, .ref 344, .ref 345, .ref 346, .ref 347, .int nt, .ref 348, .ref 349, .ref 350, .ref 351, .ref 352, .ref 353, .ref 354, .int cel, .ref 355, .ref 356, .ref 357, .ref 358])), (349, .inr (.inl (0, siz))), (350, .inr (.inl (0, frm))), (351, .inr (.inl (0, tto))), (353, .inr (.inl (0, slo))), (354, .inr (.inl (0, wei))), (358, .inr (.inl (0, lon)))] h0) := by
  show j_V jP d 119 0 [(0, .ref 0), (1, .int x1), (2, .int x2)] [] h _
  obtain ⟨lv, elv, L⟩ : ∃ lv, lv = [(0, .ref 0), (1, .int x1), (2, .int x2)] ∧ LK lv [(0, .ref 0), (1, .int x1), (2, .int x2)] := ⟨_, rfl, LK.rf⟩
  rw [← elv]
  clear elv
  refine j_V.ldL xb54_M xb54_0 rfl (i := 2) (kd := 0) (v := .int x2) (pcJ := 1) rfl L rfl rfl rfl ?_
  refine j_V.one xb54_M xb54_1 (by decide) (pcJ := 2) (stJ := [.int 0, .int x2]) rfl ?_
  refine j_V.one xb54_M xb54_2 (by decide) (pcJ := 4) (stJ := [.int 13, .int 0, .int x2]) rfl ?_
  refine j_V.cl xb54_M xb54_4 rfl (md := 2) (mj := 162) rfl (by decide) xbwisWi_M (As := [.int x2, .int 0, .int 13]) (rest := []) (jk_spl2 rfl rfl (Nat.le_of_ble_eq_true rfl) (Nat.le_of_ble_eq_true rfl)) (fun d => xbwisWi_ok (K.fi [] rfl rfl)) ?_
  rintro r hz ⟨rfl, ez⟩
  rw [ez]
  clear ez
  show j_V jP _ 119 7 lv [.int (x_isWithin x2 0 13)] h _
  refine j_V.ifc xb54_M xb54_7 (t := 16) rfl (fun c7_0 => ?_) (fun c7_0 => ?_)
  · replace c7_0 : ¬ ((x_isWithin x2 0 13) = 0) := jd_ne c7_0
    refine j_V.ldL xb54_M xb54_16 rfl (i := 0) (kd := 2) (v := .ref 0) (pcJ := 17) rfl L rfl rfl rfl ?_
    refine j_V.ldL xb54_M xb54_17 rfl (i := 1) (kd := 0) (v := .int x1) (pcJ := 18) rfl L rfl rfl rfl ?_
    refine j_V.cl xb54_M xb54_18 rfl (md := 3) (mj := 165) rfl (by decide) xb47_M (As := [.ref 0, .int x1]) (rest := []) (jk_spl3 (K.at rfl) rfl rfl rfl (Nat.le_of_ble_eq_true rfl) (Nat.le_of_ble_eq_true rfl)) (fun d => xb47_ok (K.fi [0, 343] rfl rfl)) ?_
    rintro r hz ⟨rfl, ez⟩
    rw [ez]
    clear ez
    show j_V jP _ 119 21 lv [.int (x_isTrain nt x1)] h _
    refine j_V.ifc xb54_M xb54_21 (t := 30) rfl (fun c21_1 => ?_) (fun c21_1 => ?_)
    · replace c21_1 : ¬ ((x_isTrain nt x1) = 0) := jd_ne c21_1
      refine j_V.ldL xb54_M xb54_30 rfl (i := 2) (kd := 0) (v := .int x2) (pcJ := 31) rfl L rfl rfl rfl ?_
      refine j_V.tsw xb54_M xb54_31 (fun t ht hx => ?_) (fun i off t ho ht hx => ?_)
      · obtain rfl : 273 = t := Option.some.inj (show some 273 = some t from ht)
        have s31_0 : ¬ (x2 = 0) := fun z => by rw [z] at hx; revert hx; decide
        have s31_1 : ¬ (x2 = 1) := fun z => by rw [z] at hx; revert hx; decide
        have s31_2 : ¬ (x2 = 2) := fun z => by rw [z] at hx; revert hx; decide
        have s31_3 : ¬ (x2 = 3) := fun z => by rw [z] at hx; revert hx; decide
        have s31_4 : ¬ (x2 = 4) := fun z => by rw [z] at hx; revert hx; decide
        have s31_5 : ¬ (x2 = 5) := fun z => by rw [z] at hx; revert hx; decide
        have s31_6 : ¬ (x2 = 6) := fun z => by rw [z] at hx; revert hx; decide
        have s31_7 : ¬ (x2 = 7) := fun z => by rw [z] at hx; revert hx; decide
        have s31_8 : ¬ (x2 = 8) := fun z => by rw [z] at hx; revert hx; decide
        have s31_9 : ¬ (x2 = 9) := fun z => by rw [z] at hx; revert hx; decide
        have s31_10 : ¬ (x2 = 10) := fun z => by rw [z] at hx; revert hx; decide
        have s31_11 : ¬ (x2 = 11) := fun z => by rw [z] at hx; revert hx; decide
        have s31_12 : ¬ (x2 = 12) := fun z => by rw [z] at hx; revert hx; decide
        refine j_V.ldL xb54_M xb54_273 rfl (i := 0) (kd := 2) (v := .ref 0) (pcJ := 274) rfl L rfl rfl rfl ?_
        refine j_V.ldL xb54_M xb54_274 rfl (i := 0) (kd := 2) (v := .ref 0) (pcJ := 275) rfl L rfl rfl rfl ?_
        refine j_V.getK xb54_M xb54_275 (ci := 9) (j := 2) rfl K rfl rfl ?_
        refine j_V.ldL xb54_M xb54_278 rfl (i := 1) (kd := 0) (v := .int x1) (pcJ := 279) rfl L rfl rfl rfl ?_
        refine j_V.cl xb54_M xb54_279 rfl (md := 3) (mj := 74) rfl (by decide) xb15_M (As := [.ref 4, .int x1]) (rest := [.ref 0]) (jk_spl3 (K.at rfl) rfl rfl rfl (Nat.le_of_ble_eq_true rfl) (Nat.le_of_ble_eq_true rfl)) (fun d => xb15_ok (K.fi [4, 5, 343] rfl rfl)) ?_
        rintro r hz ⟨rfl, ez⟩
        rw [ez]
        clear ez
        show j_V jP _ 119 282 lv [.int (x_placeInRank rk nt x1), .ref 0] h _
        refine j_V.cl xb54_M xb54_282 rfl (md := 3) (mj := 159) rfl (by decide) xb49_M (As := [.ref 0, .int (x_placeInRank rk nt x1)]) (rest := []) (jk_spl3 (K.at rfl) rfl rfl rfl (Nat.le_of_ble_eq_true rfl) (Nat.le_of_ble_eq_true rfl)) (fun d => xb49_ok (K.fi [0] rfl rfl)) ?_
        rintro r h9 ⟨rfl, K9⟩
        generalize ez1 : (x_qanswer sst (x_placeInRank rk nt x1)) = z1 at K9 ⊢
        have K : KN h9 [(0, .inl (9, [.ref 1, .ref 3, .ref 4, .ref 29, .ref 281, .ref 325, .ref 343, .ref 327, .int (z1.2)])), (4, .inl (7, [.ref 343, .int mi, .int shu, .int bus, .ref 5, .ref 6, .ref 7, .ref 8, .ref 9, .ref 10, .ref 11, .ref 12, .ref 13, .ref 14, .ref 15, .int lks, .ref 16, .ref 17, .ref 20])), (5, .inr (.inl (0, rk))), (6, .inr (.inl (0, sta))), (7, .inr (.inl (0, ph))), (8, .inr (.inl (0, sp))), (9, .inr (.inl (0, ce))), (10, .inr (.inl (0, du))), (11, .inr (.inl (0, he))), (14, .inr (.inl (0, cm))), (343, .inl (2, [.int ns, .ref 344, .ref 345, .ref 346, .ref 347, .int nt, .ref 348, .ref 349, .ref 350, .ref 351, .ref 352, .ref 353, .ref 354, .int cel, .ref 355, .ref 356, .ref 357, .ref 358])), (349, .inr (.inl (0, siz))), (350, .inr (.inl (0, frm))), (351, .inr (.inl (0, tto))), (353, .inr (.inl (0, slo))), (354, .inr (.inl (0, wei))), (358, .inr (.inl (0, lon)))] h0 := K.mg K9 rfl rfl
        clear K9
        show j_V jP _ 119 285 lv [.int (z1.1)] h9 _
        subst ez1
        refine j_V.ri xb54_M xb54_285 ?_
        rw [show (x_qtrain mi rk sta ph sp ce du he cm nt siz frm tto slo wei lon sst x1 x2) = _ from ((if_neg c7_0).trans ((if_neg c21_1).trans ((if_neg s31_0).trans ((if_neg s31_1).trans ((if_neg s31_2).trans ((if_neg s31_3).trans ((if_neg s31_4).trans ((if_neg s31_5).trans ((if_neg s31_6).trans ((if_neg s31_7).trans ((if_neg s31_8).trans ((if_neg s31_9).trans ((if_neg s31_10).trans ((if_neg s31_11).trans ((if_neg s31_12).trans (rfl))))))))))))))))]
        exact ⟨rfl, K⟩
      · match i, ho, hx with
        | 0, ho, hx =>
          obtain rfl := Option.some.inj (show some (65 : Int) = some off from ho)
          obtain rfl : 96 = t := Option.some.inj (show some 96 = some t from ht)
          have s31_0 : x2 = 0 := Int32.toInt_inj.mp (by rw [hx]; rfl)
          refine j_V.ldL xb54_M xb54_96 rfl (i := 0) (kd := 2) (v := .ref 0) (pcJ := 97) rfl L rfl rfl rfl ?_
          refine j_V.ldL xb54_M xb54_97 rfl (i := 0) (kd := 2) (v := .ref 0) (pcJ := 98) rfl L rfl rfl rfl ?_
          refine j_V.getK xb54_M xb54_98 (ci := 9) (j := 6) rfl K rfl rfl ?_
          refine j_V.getK xb54_M xb54_101 (ci := 2) (j := 7) rfl K rfl rfl ?_
          refine j_V.ldL xb54_M xb54_104 rfl (i := 1) (kd := 0) (v := .int x1) (pcJ := 105) rfl L rfl rfl rfl ?_
          refine j_V.iaA xb54_M xb54_105 K rfl ?_
          refine j_V.cl xb54_M xb54_106 rfl (md := 3) (mj := 159) rfl (by decide) xb49_M (As := [.ref 0, .int (gA siz x1)]) (rest := []) (jk_spl3 (K.at rfl) rfl rfl rfl (Nat.le_of_ble_eq_true rfl) (Nat.le_of_ble_eq_true rfl)) (fun d => xb49_ok (K.fi [0] rfl rfl)) ?_
          rintro r h9 ⟨rfl, K9⟩
          generalize ez2 : (x_qanswer sst (gA siz x1)) = z2 at K9 ⊢
          have K : KN h9 [(0, .inl (9, [.ref 1, .ref 3, .ref 4, .ref 29, .ref 281, .ref 325, .ref 343, .ref 327, .int (z2.2)])), (4, .inl (7, [.ref 343, .int mi, .int shu, .int bus, .ref 5, .ref 6, .ref 7, .ref 8, .ref 9, .ref 10, .ref 11, .ref 12, .ref 13, .ref 14, .ref 15, .int lks, .ref 16, .ref 17, .ref 20])), (5, .inr (.inl (0, rk))), (6, .inr (.inl (0, sta))), (7, .inr (.inl (0, ph))), (8, .inr (.inl (0, sp))), (9, .inr (.inl (0, ce))), (10, .inr (.inl (0, du))), (11, .inr (.inl (0, he))), (14, .inr (.inl (0, cm))), (343, .inl (2, [.int ns, .ref 344, .ref 345, .ref 346, .ref 347, .int nt, .ref 348, .ref 349, .ref 350, .ref 351, .ref 352, .ref 353, .ref 354, .int cel, .ref 355, .ref 356, .ref 357, .ref 358])), (349, .inr (.inl (0, siz))), (350, .inr (.inl (0, frm))), (351, .inr (.inl (0, tto))), (353, .inr (.inl (0, slo))), (354, .inr (.inl (0, wei))), (358, .inr (.inl (0, lon)))] h0 := K.mg K9 rfl rfl
          clear K9
          show j_V jP _ 119 109 lv [.int (z2.1)] h9 _
          subst ez2
          refine j_V.ri xb54_M xb54_109 ?_
          rw [show (x_qtrain mi rk sta ph sp ce du he cm nt siz frm tto slo wei lon sst x1 x2) = _ from ((if_neg c7_0).trans ((if_neg c21_1).trans ((if_pos s31_0).trans (rfl))))]
          exact ⟨rfl, K⟩
        | 1, ho, hx =>
          obtain rfl := Option.some.inj (show some (79 : Int) = some off from ho)
          obtain rfl : 110 = t := Option.some.inj (show some 110 = some t from ht)
          have s31_1 : x2 = 1 := Int32.toInt_inj.mp (by rw [hx]; rfl)
          have s31_0 : ¬ (x2 = 0) := fun z => by rw [s31_1] at z; exact absurd z (by decide)
          refine j_V.ldL xb54_M xb54_110 rfl (i := 0) (kd := 2) (v := .ref 0) (pcJ := 111) rfl L rfl rfl rfl ?_
          refine j_V.ldL xb54_M xb54_111 rfl (i := 0) (kd := 2) (v := .ref 0) (pcJ := 112) rfl L rfl rfl rfl ?_
          refine j_V.getK xb54_M xb54_112 (ci := 9) (j := 6) rfl K rfl rfl ?_
          refine j_V.getK xb54_M xb54_115 (ci := 2) (j := 8) rfl K rfl rfl ?_
          refine j_V.ldL xb54_M xb54_118 rfl (i := 1) (kd := 0) (v := .int x1) (pcJ := 119) rfl L rfl rfl rfl ?_
          refine j_V.iaA xb54_M xb54_119 K rfl ?_
          refine j_V.cl xb54_M xb54_120 rfl (md := 3) (mj := 159) rfl (by decide) xb49_M (As := [.ref 0, .int (gA frm x1)]) (rest := []) (jk_spl3 (K.at rfl) rfl rfl rfl (Nat.le_of_ble_eq_true rfl) (Nat.le_of_ble_eq_true rfl)) (fun d => xb49_ok (K.fi [0] rfl rfl)) ?_
          rintro r h9 ⟨rfl, K9⟩
          generalize ez3 : (x_qanswer sst (gA frm x1)) = z3 at K9 ⊢
          have K : KN h9 [(0, .inl (9, [.ref 1, .ref 3, .ref 4, .ref 29, .ref 281, .ref 325, .ref 343, .ref 327, .int (z3.2)])), (4, .inl (7, [.ref 343, .int mi, .int shu, .int bus, .ref 5, .ref 6, .ref 7, .ref 8, .ref 9, .ref 10, .ref 11, .ref 12, .ref 13, .ref 14, .ref 15, .int lks, .ref 16, .ref 17, .ref 20])), (5, .inr (.inl (0, rk))), (6, .inr (.inl (0, sta))), (7, .inr (.inl (0, ph))), (8, .inr (.inl (0, sp))), (9, .inr (.inl (0, ce))), (10, .inr (.inl (0, du))), (11, .inr (.inl (0, he))), (14, .inr (.inl (0, cm))), (343, .inl (2, [.int ns, .ref 344, .ref 345, .ref 346, .ref 347, .int nt, .ref 348, .ref 349, .ref 350, .ref 351, .ref 352, .ref 353, .ref 354, .int cel, .ref 355, .ref 356, .ref 357, .ref 358])), (349, .inr (.inl (0, siz))), (350, .inr (.inl (0, frm))), (351, .inr (.inl (0, tto))), (353, .inr (.inl (0, slo))), (354, .inr (.inl (0, wei))), (358, .inr (.inl (0, lon)))] h0 := K.mg K9 rfl rfl
          clear K9
          show j_V jP _ 119 123 lv [.int (z3.1)] h9 _
          subst ez3
          refine j_V.ri xb54_M xb54_123 ?_
          rw [show (x_qtrain mi rk sta ph sp ce du he cm nt siz frm tto slo wei lon sst x1 x2) = _ from ((if_neg c7_0).trans ((if_neg c21_1).trans ((if_neg s31_0).trans ((if_pos s31_1).trans (rfl)))))]
          exact ⟨rfl, K⟩
        | 2, ho, hx =>
          obtain rfl := Option.some.inj (show some (93 : Int) = some off from ho)
          obtain rfl : 124 = t := Option.some.inj (show some 124 = some t from ht)
          have s31_2 : x2 = 2 := Int32.toInt_inj.mp (by rw [hx]; rfl)
          have s31_0 : ¬ (x2 = 0) := fun z => by rw [s31_2] at z; exact absurd z (by decide)
          have s31_1 : ¬ (x2 = 1) := fun z => by rw [s31_2] at z; exact absurd z (by decide)
          refine j_V.ldL xb54_M xb54_124 rfl (i := 0) (kd := 2) (v := .ref 0) (pcJ := 125) rfl L rfl rfl rfl ?_
          refine j_V.ldL xb54_M xb54_125 rfl (i := 0) (kd := 2) (v := .ref 0) (pcJ := 126) rfl L rfl rfl rfl ?_
          refine j_V.getK xb54_M xb54_126 (ci := 9) (j := 6) rfl K rfl rfl ?_
          refine j_V.getK xb54_M xb54_129 (ci := 2) (j := 9) rfl K rfl rfl ?_
          refine j_V.ldL xb54_M xb54_132 rfl (i := 1) (kd := 0) (v := .int x1) (pcJ := 133) rfl L rfl rfl rfl ?_
          refine j_V.iaA xb54_M xb54_133 K rfl ?_
          refine j_V.cl xb54_M xb54_134 rfl (md := 3) (mj := 159) rfl (by decide) xb49_M (As := [.ref 0, .int (gA tto x1)]) (rest := []) (jk_spl3 (K.at rfl) rfl rfl rfl (Nat.le_of_ble_eq_true rfl) (Nat.le_of_ble_eq_true rfl)) (fun d => xb49_ok (K.fi [0] rfl rfl)) ?_
          rintro r h9 ⟨rfl, K9⟩
          generalize ez4 : (x_qanswer sst (gA tto x1)) = z4 at K9 ⊢
          have K : KN h9 [(0, .inl (9, [.ref 1, .ref 3, .ref 4, .ref 29, .ref 281, .ref 325, .ref 343, .ref 327, .int (z4.2)])), (4, .inl (7, [.ref 343, .int mi, .int shu, .int bus, .ref 5, .ref 6, .ref 7, .ref 8, .ref 9, .ref 10, .ref 11, .ref 12, .ref 13, .ref 14, .ref 15, .int lks, .ref 16, .ref 17, .ref 20])), (5, .inr (.inl (0, rk))), (6, .inr (.inl (0, sta))), (7, .inr (.inl (0, ph))), (8, .inr (.inl (0, sp))), (9, .inr (.inl (0, ce))), (10, .inr (.inl (0, du))), (11, .inr (.inl (0, he))), (14, .inr (.inl (0, cm))), (343, .inl (2, [.int ns, .ref 344, .ref 345, .ref 346, .ref 347, .int nt, .ref 348, .ref 349, .ref 350, .ref 351, .ref 352, .ref 353, .ref 354, .int cel, .ref 355, .ref 356, .ref 357, .ref 358])), (349, .inr (.inl (0, siz))), (350, .inr (.inl (0, frm))), (351, .inr (.inl (0, tto))), (353, .inr (.inl (0, slo))), (354, .inr (.inl (0, wei))), (358, .inr (.inl (0, lon)))] h0 := K.mg K9 rfl rfl
          clear K9
          show j_V jP _ 119 137 lv [.int (z4.1)] h9 _
          subst ez4
          refine j_V.ri xb54_M xb54_137 ?_
          rw [show (x_qtrain mi rk sta ph sp ce du he cm nt siz frm tto slo wei lon sst x1 x2) = _ from ((if_neg c7_0).trans ((if_neg c21_1).trans ((if_neg s31_0).trans ((if_neg s31_1).trans ((if_pos s31_2).trans (rfl))))))]
          exact ⟨rfl, K⟩
        | 3, ho, hx =>
          obtain rfl := Option.some.inj (show some (107 : Int) = some off from ho)
          obtain rfl : 138 = t := Option.some.inj (show some 138 = some t from ht)
          have s31_3 : x2 = 3 := Int32.toInt_inj.mp (by rw [hx]; rfl)
          have s31_0 : ¬ (x2 = 0) := fun z => by rw [s31_3] at z; exact absurd z (by decide)
          have s31_1 : ¬ (x2 = 1) := fun z => by rw [s31_3] at z; exact absurd z (by decide)
          have s31_2 : ¬ (x2 = 2) := fun z => by rw [s31_3] at z; exact absurd z (by decide)
          refine j_V.ldL xb54_M xb54_138 rfl (i := 0) (kd := 2) (v := .ref 0) (pcJ := 139) rfl L rfl rfl rfl ?_
          refine j_V.ldL xb54_M xb54_139 rfl (i := 0) (kd := 2) (v := .ref 0) (pcJ := 140) rfl L rfl rfl rfl ?_
          refine j_V.getK xb54_M xb54_140 (ci := 9) (j := 2) rfl K rfl rfl ?_
          refine j_V.getK xb54_M xb54_143 (ci := 7) (j := 5) rfl K rfl rfl ?_
          refine j_V.ldL xb54_M xb54_146 rfl (i := 1) (kd := 0) (v := .int x1) (pcJ := 147) rfl L rfl rfl rfl ?_
          refine j_V.iaA xb54_M xb54_147 K rfl ?_
          refine j_V.cl xb54_M xb54_148 rfl (md := 3) (mj := 159) rfl (by decide) xb49_M (As := [.ref 0, .int (gA sta x1)]) (rest := []) (jk_spl3 (K.at rfl) rfl rfl rfl (Nat.le_of_ble_eq_true rfl) (Nat.le_of_ble_eq_true rfl)) (fun d => xb49_ok (K.fi [0] rfl rfl)) ?_
          rintro r h9 ⟨rfl, K9⟩
          generalize ez5 : (x_qanswer sst (gA sta x1)) = z5 at K9 ⊢
          have K : KN h9 [(0, .inl (9, [.ref 1, .ref 3, .ref 4, .ref 29, .ref 281, .ref 325, .ref 343, .ref 327, .int (z5.2)])), (4, .inl (7, [.ref 343, .int mi, .int shu, .int bus, .ref 5, .ref 6, .ref 7, .ref 8, .ref 9, .ref 10, .ref 11, .ref 12, .ref 13, .ref 14, .ref 15, .int lks, .ref 16, .ref 17, .ref 20])), (5, .inr (.inl (0, rk))), (6, .inr (.inl (0, sta))), (7, .inr (.inl (0, ph))), (8, .inr (.inl (0, sp))), (9, .inr (.inl (0, ce))), (10, .inr (.inl (0, du))), (11, .inr (.inl (0, he))), (14, .inr (.inl (0, cm))), (343, .inl (2, [.int ns, .ref 344, .ref 345, .ref 346, .ref 347, .int nt, .ref 348, .ref 349, .ref 350, .ref 351, .ref 352, .ref 353, .ref 354, .int cel, .ref 355, .ref 356, .ref 357, .ref 358])), (349, .inr (.inl (0, siz))), (350, .inr (.inl (0, frm))), (351, .inr (.inl (0, tto))), (353, .inr (.inl (0, slo))), (354, .inr (.inl (0, wei))), (358, .inr (.inl (0, lon)))] h0 := K.mg K9 rfl rfl
          clear K9
          show j_V jP _ 119 151 lv [.int (z5.1)] h9 _
          subst ez5
          refine j_V.ri xb54_M xb54_151 ?_
          rw [show (x_qtrain mi rk sta ph sp ce du he cm nt siz frm tto slo wei lon sst x1 x2) = _ from ((if_neg c7_0).trans ((if_neg c21_1).trans ((if_neg s31_0).trans ((if_neg s31_1).trans ((if_neg s31_2).trans ((if_pos s31_3).trans (rfl)))))))]
          exact ⟨rfl, K⟩
        | 4, ho, hx =>
          obtain rfl := Option.some.inj (show some (121 : Int) = some off from ho)
          obtain rfl : 152 = t := Option.some.inj (show some 152 = some t from ht)
          have s31_4 : x2 = 4 := Int32.toInt_inj.mp (by rw [hx]; rfl)
          have s31_0 : ¬ (x2 = 0) := fun z => by rw [s31_4] at z; exact absurd z (by decide)
          have s31_1 : ¬ (x2 = 1) := fun z => by rw [s31_4] at z; exact absurd z (by decide)
          have s31_2 : ¬ (x2 = 2) := fun z => by rw [s31_4] at z; exact absurd z (by decide)
          have s31_3 : ¬ (x2 = 3) := fun z => by rw [s31_4] at z; exact absurd z (by decide)
          refine j_V.ldL xb54_M xb54_152 rfl (i := 0) (kd := 2) (v := .ref 0) (pcJ := 153) rfl L rfl rfl rfl ?_
          refine j_V.ldL xb54_M xb54_153 rfl (i := 0) (kd := 2) (v := .ref 0) (pcJ := 154) rfl L rfl rfl rfl ?_
          refine j_V.getK xb54_M xb54_154 (ci := 9) (j := 6) rfl K rfl rfl ?_
          refine j_V.getK xb54_M xb54_157 (ci := 2) (j := 11) rfl K rfl rfl ?_
          refine j_V.ldL xb54_M xb54_160 rfl (i := 1) (kd := 0) (v := .int x1) (pcJ := 161) rfl L rfl rfl rfl ?_
          refine j_V.iaA xb54_M xb54_161 K rfl ?_
          refine j_V.cl xb54_M xb54_162 rfl (md := 3) (mj := 159) rfl (by decide) xb49_M (As := [.ref 0, .int (gA slo x1)]) (rest := []) (jk_spl3 (K.at rfl) rfl rfl rfl (Nat.le_of_ble_eq_true rfl) (Nat.le_of_ble_eq_true rfl)) (fun d => xb49_ok (K.fi [0] rfl rfl)) ?_
          rintro r h9 ⟨rfl, K9⟩
          generalize ez6 : (x_qanswer sst (gA slo x1)) = z6 at K9 ⊢
          have K : KN h9 [(0, .inl (9, [.ref 1, .ref 3, .ref 4, .ref 29, .ref 281, .ref 325, .ref 343, .ref 327, .int (z6.2)])), (4, .inl (7, [.ref 343, .int mi, .int shu, .int bus, .ref 5, .ref 6, .ref 7, .ref 8, .ref 9, .ref 10, .ref 11, .ref 12, .ref 13, .ref 14, .ref 15, .int lks, .ref 16, .ref 17, .ref 20])), (5, .inr (.inl (0, rk))), (6, .inr (.inl (0, sta))), (7, .inr (.inl (0, ph))), (8, .inr (.inl (0, sp))), (9, .inr (.inl (0, ce))), (10, .inr (.inl (0, du))), (11, .inr (.inl (0, he))), (14, .inr (.inl (0, cm))), (343, .inl (2, [.int ns, .ref 344, .ref 345, .ref 346, .ref 347, .int nt, .ref 348, .ref 349, .ref 350, .ref 351, .ref 352, .ref 353, .ref 354, .int cel, .ref 355, .ref 356, .ref 357, .ref 358])), (349, .inr (.inl (0, siz))), (350, .inr (.inl (0, frm))), (351, .inr (.inl (0, tto))), (353, .inr (.inl (0, slo))), (354, .inr (.inl (0, wei))), (358, .inr (.inl (0, lon)))] h0 := K.mg K9 rfl rfl
          clear K9
          show j_V jP _ 119 165 lv [.int (z6.1)] h9 _
          subst ez6
          refine j_V.ri xb54_M xb54_165 ?_
          rw [show (x_qtrain mi rk sta ph sp ce du he cm nt siz frm tto slo wei lon sst x1 x2) = _ from ((if_neg c7_0).trans ((if_neg c21_1).trans ((if_neg s31_0).trans ((if_neg s31_1).trans ((if_neg s31_2).trans ((if_neg s31_3).trans ((if_pos s31_4).trans (rfl))))))))]
          exact ⟨rfl, K⟩
        | 5, ho, hx =>
          obtain rfl := Option.some.inj (show some (135 : Int) = some off from ho)
          obtain rfl : 166 = t := Option.some.inj (show some 166 = some t from ht)
          have s31_5 : x2 = 5 := Int32.toInt_inj.mp (by rw [hx]; rfl)
          have s31_0 : ¬ (x2 = 0) := fun z => by rw [s31_5] at z; exact absurd z (by decide)
          have s31_1 : ¬ (x2 = 1) := fun z => by rw [s31_5] at z; exact absurd z (by decide)
          have s31_2 : ¬ (x2 = 2) := fun z => by rw [s31_5] at z; exact absurd z (by decide)
          have s31_3 : ¬ (x2 = 3) := fun z => by rw [s31_5] at z; exact absurd z (by decide)
          have s31_4 : ¬ (x2 = 4) := fun z => by rw [s31_5] at z; exact absurd z (by decide)
          refine j_V.ldL xb54_M xb54_166 rfl (i := 0) (kd := 2) (v := .ref 0) (pcJ := 167) rfl L rfl rfl rfl ?_
          refine j_V.ldL xb54_M xb54_167 rfl (i := 0) (kd := 2) (v := .ref 0) (pcJ := 168) rfl L rfl rfl rfl ?_
          refine j_V.getK xb54_M xb54_168 (ci := 9) (j := 6) rfl K rfl rfl ?_
          refine j_V.getK xb54_M xb54_171 (ci := 2) (j := 12) rfl K rfl rfl ?_
          refine j_V.ldL xb54_M xb54_174 rfl (i := 1) (kd := 0) (v := .int x1) (pcJ := 175) rfl L rfl rfl rfl ?_
          refine j_V.iaA xb54_M xb54_175 K rfl ?_
          refine j_V.cl xb54_M xb54_176 rfl (md := 3) (mj := 159) rfl (by decide) xb49_M (As := [.ref 0, .int (gA wei x1)]) (rest := []) (jk_spl3 (K.at rfl) rfl rfl rfl (Nat.le_of_ble_eq_true rfl) (Nat.le_of_ble_eq_true rfl)) (fun d => xb49_ok (K.fi [0] rfl rfl)) ?_
          rintro r h9 ⟨rfl, K9⟩
          generalize ez7 : (x_qanswer sst (gA wei x1)) = z7 at K9 ⊢
          have K : KN h9 [(0, .inl (9, [.ref 1, .ref 3, .ref 4, .ref 29, .ref 281, .ref 325, .ref 343, .ref 327, .int (z7.2)])), (4, .inl (7, [.ref 343, .int mi, .int shu, .int bus, .ref 5, .ref 6, .ref 7, .ref 8, .ref 9, .ref 10, .ref 11, .ref 12, .ref 13, .ref 14, .ref 15, .int lks, .ref 16, .ref 17, .ref 20])), (5, .inr (.inl (0, rk))), (6, .inr (.inl (0, sta))), (7, .inr (.inl (0, ph))), (8, .inr (.inl (0, sp))), (9, .inr (.inl (0, ce))), (10, .inr (.inl (0, du))), (11, .inr (.inl (0, he))), (14, .inr (.inl (0, cm))), (343, .inl (2, [.int ns, .ref 344, .ref 345, .ref 346, .ref 347, .int nt, .ref 348, .ref 349, .ref 350, .ref 351, .ref 352, .ref 353, .ref 354, .int cel, .ref 355, .ref 356, .ref 357, .ref 358])), (349, .inr (.inl (0, siz))), (350, .inr (.inl (0, frm))), (351, .inr (.inl (0, tto))), (353, .inr (.inl (0, slo))), (354, .inr (.inl (0, wei))), (358, .inr (.inl (0, lon)))] h0 := K.mg K9 rfl rfl
          clear K9
          show j_V jP _ 119 179 lv [.int (z7.1)] h9 _
          subst ez7
          refine j_V.ri xb54_M xb54_179 ?_
          rw [show (x_qtrain mi rk sta ph sp ce du he cm nt siz frm tto slo wei lon sst x1 x2) = _ from ((if_neg c7_0).trans ((if_neg c21_1).trans ((if_neg s31_0).trans ((if_neg s31_1).trans ((if_neg s31_2).trans ((if_neg s31_3).trans ((if_neg s31_4).trans ((if_pos s31_5).trans (rfl)))))))))]
          exact ⟨rfl, K⟩
        | 6, ho, hx =>
          obtain rfl := Option.some.inj (show some (149 : Int) = some off from ho)
          obtain rfl : 180 = t := Option.some.inj (show some 180 = some t from ht)
          have s31_6 : x2 = 6 := Int32.toInt_inj.mp (by rw [hx]; rfl)
          have s31_0 : ¬ (x2 = 0) := fun z => by rw [s31_6] at z; exact absurd z (by decide)
          have s31_1 : ¬ (x2 = 1) := fun z => by rw [s31_6] at z; exact absurd z (by decide)
          have s31_2 : ¬ (x2 = 2) := fun z => by rw [s31_6] at z; exact absurd z (by decide)
          have s31_3 : ¬ (x2 = 3) := fun z => by rw [s31_6] at z; exact absurd z (by decide)
          have s31_4 : ¬ (x2 = 4) := fun z => by rw [s31_6] at z; exact absurd z (by decide)
          have s31_5 : ¬ (x2 = 5) := fun z => by rw [s31_6] at z; exact absurd z (by decide)
          refine j_V.ldL xb54_M xb54_180 rfl (i := 0) (kd := 2) (v := .ref 0) (pcJ := 181) rfl L rfl rfl rfl ?_
          refine j_V.ldL xb54_M xb54_181 rfl (i := 0) (kd := 2) (v := .ref 0) (pcJ := 182) rfl L rfl rfl rfl ?_
          refine j_V.getK xb54_M xb54_182 (ci := 9) (j := 2) rfl K rfl rfl ?_
          refine j_V.getK xb54_M xb54_185 (ci := 7) (j := 6) rfl K rfl rfl ?_
          refine j_V.ldL xb54_M xb54_188 rfl (i := 1) (kd := 0) (v := .int x1) (pcJ := 189) rfl L rfl rfl rfl ?_
          refine j_V.iaA xb54_M xb54_189 K rfl ?_
          refine j_V.cl xb54_M xb54_190 rfl (md := 3) (mj := 159) rfl (by decide) xb49_M (As := [.ref 0, .int (gA ph x1)]) (rest := []) (jk_spl3 (K.at rfl) rfl rfl rfl (Nat.le_of_ble_eq_true rfl) (Nat.le_of_ble_eq_true rfl)) (fun d => xb49_ok (K.fi [0] rfl rfl)) ?_
          rintro r h9 ⟨rfl, K9⟩
          generalize ez8 : (x_qanswer sst (gA ph x1)) = z8 at K9 ⊢
          have K : KN h9 [(0, .inl (9, [.ref 1, .ref 3, .ref 4, .ref 29, .ref 281, .ref 325, .ref 343, .ref 327, .int (z8.2)])), (4, .inl (7, [.ref 343, .int mi, .int shu, .int bus, .ref 5, .ref 6, .ref 7, .ref 8, .ref 9, .ref 10, .ref 11, .ref 12, .ref 13, .ref 14, .ref 15, .int lks, .ref 16, .ref 17, .ref 20])), (5, .inr (.inl (0, rk))), (6, .inr (.inl (0, sta))), (7, .inr (.inl (0, ph))), (8, .inr (.inl (0, sp))), (9, .inr (.inl (0, ce))), (10, .inr (.inl (0, du))), (11, .inr (.inl (0, he))), (14, .inr (.inl (0, cm))), (343, .inl (2, [.int ns, .ref 344, .ref 345, .ref 346, .ref 347, .int nt, .ref 348, .ref 349, .ref 350, .ref 351, .ref 352, .ref 353, .ref 354, .int cel, .ref 355, .ref 356, .ref 357, .ref 358])), (349, .inr (.inl (0, siz))), (350, .inr (.inl (0, frm))), (351, .inr (.inl (0, tto))), (353, .inr (.inl (0, slo))), (354, .inr (.inl (0, wei))), (358, .inr (.inl (0, lon)))] h0 := K.mg K9 rfl rfl
          clear K9
          show j_V jP _ 119 193 lv [.int (z8.1)] h9 _
          subst ez8
          refine j_V.ri xb54_M xb54_193 ?_
          rw [show (x_qtrain mi rk sta ph sp ce du he cm nt siz frm tto slo wei lon sst x1 x2) = _ from ((if_neg c7_0).trans ((if_neg c21_1).trans ((if_neg s31_0).trans ((if_neg s31_1).trans ((if_neg s31_2).trans ((if_neg s31_3).trans ((if_neg s31_4).trans ((if_neg s31_5).trans ((if_pos s31_6).trans (rfl))))))))))]
          exact ⟨rfl, K⟩
        | 7, ho, hx =>
          obtain rfl := Option.some.inj (show some (163 : Int) = some off from ho)
          obtain rfl : 194 = t := Option.some.inj (show some 194 = some t from ht)
          have s31_7 : x2 = 7 := Int32.toInt_inj.mp (by rw [hx]; rfl)
          have s31_0 : ¬ (x2 = 0) := fun z => by rw [s31_7] at z; exact absurd z (by decide)
          have s31_1 : ¬ (x2 = 1) := fun z => by rw [s31_7] at z; exact absurd z (by decide)
          have s31_2 : ¬ (x2 = 2) := fun z => by rw [s31_7] at z; exact absurd z (by decide)
          have s31_3 : ¬ (x2 = 3) := fun z => by rw [s31_7] at z; exact absurd z (by decide)
          have s31_4 : ¬ (x2 = 4) := fun z => by rw [s31_7] at z; exact absurd z (by decide)
          have s31_5 : ¬ (x2 = 5) := fun z => by rw [s31_7] at z; exact absurd z (by decide)
          have s31_6 : ¬ (x2 = 6) := fun z => by rw [s31_7] at z; exact absurd z (by decide)
          refine j_V.ldL xb54_M xb54_194 rfl (i := 0) (kd := 2) (v := .ref 0) (pcJ := 195) rfl L rfl rfl rfl ?_
          refine j_V.ldL xb54_M xb54_195 rfl (i := 0) (kd := 2) (v := .ref 0) (pcJ := 196) rfl L rfl rfl rfl ?_
          refine j_V.getK xb54_M xb54_196 (ci := 9) (j := 2) rfl K rfl rfl ?_
          refine j_V.ldL xb54_M xb54_199 rfl (i := 1) (kd := 0) (v := .int x1) (pcJ := 200) rfl L rfl rfl rfl ?_
          refine j_V.cl xb54_M xb54_200 rfl (md := 3) (mj := 70) rfl (by decide) xb11_M (As := [.ref 4, .int x1]) (rest := [.ref 0]) (jk_spl3 (K.at rfl) rfl rfl rfl (Nat.le_of_ble_eq_true rfl) (Nat.le_of_ble_eq_true rfl)) (fun d => xb11_ok (K.fi [4, 7, 8] rfl rfl)) ?_
          rintro r hz ⟨rfl, ez⟩
          rw [ez]
          clear ez
          show j_V jP _ 119 203 lv [.int (x_stationOf ph sp x1), .ref 0] h _
          refine j_V.cl xb54_M xb54_203 rfl (md := 3) (mj := 160) rfl (by decide) xb51_M (As := [.ref 0, .int (x_stationOf ph sp x1)]) (rest := []) (jk_spl3 (K.at rfl) rfl rfl rfl (Nat.le_of_ble_eq_true rfl) (Nat.le_of_ble_eq_true rfl)) (fun d => xb51_ok (K.fi [0] rfl rfl)) ?_
          rintro r h9 ⟨rfl, K9⟩
          generalize ez9 : (x_qanswerIfAny sst (x_stationOf ph sp x1)) = z9 at K9 ⊢
          have K : KN h9 [(0, .inl (9, [.ref 1, .ref 3, .ref 4, .ref 29, .ref 281, .ref 325, .ref 343, .ref 327, .int (z9.2)])), (4, .inl (7, [.ref 343, .int mi, .int shu, .int bus, .ref 5, .ref 6, .ref 7, .ref 8, .ref 9, .ref 10, .ref 11, .ref 12, .ref 13, .ref 14, .ref 15, .int lks, .ref 16, .ref 17, .ref 20])), (5, .inr (.inl (0, rk))), (6, .inr (.inl (0, sta))), (7, .inr (.inl (0, ph))), (8, .inr (.inl (0, sp))), (9, .inr (.inl (0, ce))), (10, .inr (.inl (0, du))), (11, .inr (.inl (0, he))), (14, .inr (.inl (0, cm))), (343, .inl (2, [.int ns, .ref 344, .ref 345, .ref 346, .ref 347, .int nt, .ref 348, .ref 349, .ref 350, .ref 351, .ref 352, .ref 353, .ref 354, .int cel, .ref 355, .ref 356, .ref 357, .ref 358])), (349, .inr (.inl (0, siz))), (350, .inr (.inl (0, frm))), (351, .inr (.inl (0, tto))), (353, .inr (.inl (0, slo))), (354, .inr (.inl (0, wei))), (358, .inr (.inl (0, lon)))] h0 := K.mg K9 rfl rfl
          clear K9
          show j_V jP _ 119 206 lv [.int (z9.1)] h9 _
          subst ez9
          refine j_V.ri xb54_M xb54_206 ?_
          rw [show (x_qtrain mi rk sta ph sp ce du he cm nt siz frm tto slo wei lon sst x1 x2) = _ from ((if_neg c7_0).trans ((if_neg c21_1).trans ((if_neg s31_0).trans ((if_neg s31_1).trans ((if_neg s31_2).trans ((if_neg s31_3).trans ((if_neg s31_4).trans ((if_neg s31_5).trans ((if_neg s31_6).trans ((if_pos s31_7).trans (rfl)))))))))))]
          exact ⟨rfl, K⟩
        | 8, ho, hx =>
          obtain rfl := Option.some.inj (show some (176 : Int) = some off from ho)
          obtain rfl : 207 = t := Option.some.inj (show some 207 = some t from ht)
          have s31_8 : x2 = 8 := Int32.toInt_inj.mp (by rw [hx]; rfl)
          have s31_0 : ¬ (x2 = 0) := fun z => by rw [s31_8] at z; exact absurd z (by decide)
          have s31_1 : ¬ (x2 = 1) := fun z => by rw [s31_8] at z; exact absurd z (by decide)
          have s31_2 : ¬ (x2 = 2) := fun z => by rw [s31_8] at z; exact absurd z (by decide)
          have s31_3 : ¬ (x2 = 3) := fun z => by rw [s31_8] at z; exact absurd z (by decide)
          have s31_4 : ¬ (x2 = 4) := fun z => by rw [s31_8] at z; exact absurd z (by decide)
          have s31_5 : ¬ (x2 = 5) := fun z => by rw [s31_8] at z; exact absurd z (by decide)
          have s31_6 : ¬ (x2 = 6) := fun z => by rw [s31_8] at z; exact absurd z (by decide)
          have s31_7 : ¬ (x2 = 7) := fun z => by rw [s31_8] at z; exact absurd z (by decide)
          refine j_V.ldL xb54_M xb54_207 rfl (i := 0) (kd := 2) (v := .ref 0) (pcJ := 208) rfl L rfl rfl rfl ?_
          refine j_V.ldL xb54_M xb54_208 rfl (i := 0) (kd := 2) (v := .ref 0) (pcJ := 209) rfl L rfl rfl rfl ?_
          refine j_V.getK xb54_M xb54_209 (ci := 9) (j := 2) rfl K rfl rfl ?_
          refine j_V.ldL xb54_M xb54_212 rfl (i := 1) (kd := 0) (v := .int x1) (pcJ := 213) rfl L rfl rfl rfl ?_
          refine j_V.cl xb54_M xb54_213 rfl (md := 3) (mj := 71) rfl (by decide) xb12_M (As := [.ref 4, .int x1]) (rest := [.ref 0]) (jk_spl3 (K.at rfl) rfl rfl rfl (Nat.le_of_ble_eq_true rfl) (Nat.le_of_ble_eq_true rfl)) (fun d => xb12_ok (K.fi [4, 9] rfl rfl)) ?_
          rintro r hz ⟨rfl, ez⟩
          rw [ez]
          clear ez
          show j_V jP _ 119 216 lv [.int (x_trackOf ce x1), .ref 0] h _
          refine j_V.cl xb54_M xb54_216 rfl (md := 3) (mj := 160) rfl (by decide) xb51_M (As := [.ref 0, .int (x_trackOf ce x1)]) (rest := []) (jk_spl3 (K.at rfl) rfl rfl rfl (Nat.le_of_ble_eq_true rfl) (Nat.le_of_ble_eq_true rfl)) (fun d => xb51_ok (K.fi [0] rfl rfl)) ?_
          rintro r h9 ⟨rfl, K9⟩
          generalize ez10 : (x_qanswerIfAny sst (x_trackOf ce x1)) = z10 at K9 ⊢
          have K : KN h9 [(0, .inl (9, [.ref 1, .ref 3, .ref 4, .ref 29, .ref 281, .ref 325, .ref 343, .ref 327, .int (z10.2)])), (4, .inl (7, [.ref 343, .int mi, .int shu, .int bus, .ref 5, .ref 6, .ref 7, .ref 8, .ref 9, .ref 10, .ref 11, .ref 12, .ref 13, .ref 14, .ref 15, .int lks, .ref 16, .ref 17, .ref 20])), (5, .inr (.inl (0, rk))), (6, .inr (.inl (0, sta))), (7, .inr (.inl (0, ph))), (8, .inr (.inl (0, sp))), (9, .inr (.inl (0, ce))), (10, .inr (.inl (0, du))), (11, .inr (.inl (0, he))), (14, .inr (.inl (0, cm))), (343, .inl (2, [.int ns, .ref 344, .ref 345, .ref 346, .ref 347, .int nt, .ref 348, .ref 349, .ref 350, .ref 351, .ref 352, .ref 353, .ref 354, .int cel, .ref 355, .ref 356, .ref 357, .ref 358])), (349, .inr (.inl (0, siz))), (350, .inr (.inl (0, frm))), (351, .inr (.inl (0, tto))), (353, .inr (.inl (0, slo))), (354, .inr (.inl (0, wei))), (358, .inr (.inl (0, lon)))] h0 := K.mg K9 rfl rfl
          clear K9
          show j_V jP _ 119 219 lv [.int (z10.1)] h9 _
          subst ez10
          refine j_V.ri xb54_M xb54_219 ?_
          rw [show (x_qtrain mi rk sta ph sp ce du he cm nt siz frm tto slo wei lon sst x1 x2) = _ from ((if_neg c7_0).trans ((if_neg c21_1).trans ((if_neg s31_0).trans ((if_neg s31_1).trans ((if_neg s31_2).trans ((if_neg s31_3).trans ((if_neg s31_4).trans ((if_neg s31_5).trans ((if_neg s31_6).trans ((if_neg s31_7).trans ((if_pos s31_8).trans (rfl))))))))))))]
          exact ⟨rfl, K⟩
        | 9, ho, hx =>
          obtain rfl := Option.some.inj (show some (189 : Int) = some off from ho)
          obtain rfl : 220 = t := Option.some.inj (show some 220 = some t from ht)
          have s31_9 : x2 = 9 := Int32.toInt_inj.mp (by rw [hx]; rfl)
          have s31_0 : ¬ (x2 = 0) := fun z => by rw [s31_9] at z; exact absurd z (by decide)
          have s31_1 : ¬ (x2 = 1) := fun z => by rw [s31_9] at z; exact absurd z (by decide)
          have s31_2 : ¬ (x2 = 2) := fun z => by rw [s31_9] at z; exact absurd z (by decide)
          have s31_3 : ¬ (x2 = 3) := fun z => by rw [s31_9] at z; exact absurd z (by decide)
          have s31_4 : ¬ (x2 = 4) := fun z => by rw [s31_9] at z; exact absurd z (by decide)
          have s31_5 : ¬ (x2 = 5) := fun z => by rw [s31_9] at z; exact absurd z (by decide)
          have s31_6 : ¬ (x2 = 6) := fun z => by rw [s31_9] at z; exact absurd z (by decide)
          have s31_7 : ¬ (x2 = 7) := fun z => by rw [s31_9] at z; exact absurd z (by decide)
          have s31_8 : ¬ (x2 = 8) := fun z => by rw [s31_9] at z; exact absurd z (by decide)
          refine j_V.ldL xb54_M xb54_220 rfl (i := 0) (kd := 2) (v := .ref 0) (pcJ := 221) rfl L rfl rfl rfl ?_
          refine j_V.ldL xb54_M xb54_221 rfl (i := 0) (kd := 2) (v := .ref 0) (pcJ := 222) rfl L rfl rfl rfl ?_
          refine j_V.getK xb54_M xb54_222 (ci := 9) (j := 2) rfl K rfl rfl ?_
          refine j_V.ldL xb54_M xb54_225 rfl (i := 1) (kd := 0) (v := .int x1) (pcJ := 226) rfl L rfl rfl rfl ?_
          refine j_V.cl xb54_M xb54_226 rfl (md := 3) (mj := 72) rfl (by decide) xb13_M (As := [.ref 4, .int x1]) (rest := [.ref 0]) (jk_spl3 (K.at rfl) rfl rfl rfl (Nat.le_of_ble_eq_true rfl) (Nat.le_of_ble_eq_true rfl)) (fun d => xb13_ok (K.fi [4, 7, 10] rfl rfl)) ?_
          rintro r hz ⟨rfl, ez⟩
          rw [ez]
          clear ez
          show j_V jP _ 119 229 lv [.int (x_minutesToGo mi ph du x1), .ref 0] h _
          refine j_V.cl xb54_M xb54_229 rfl (md := 3) (mj := 160) rfl (by decide) xb51_M (As := [.ref 0, .int (x_minutesToGo mi ph du x1)]) (rest := []) (jk_spl3 (K.at rfl) rfl rfl rfl (Nat.le_of_ble_eq_true rfl) (Nat.le_of_ble_eq_true rfl)) (fun d => xb51_ok (K.fi [0] rfl rfl)) ?_
          rintro r h9 ⟨rfl, K9⟩
          generalize ez11 : (x_qanswerIfAny sst (x_minutesToGo mi ph du x1)) = z11 at K9 ⊢
          have K : KN h9 [(0, .inl (9, [.ref 1, .ref 3, .ref 4, .ref 29, .ref 281, .ref 325, .ref 343, .ref 327, .int (z11.2)])), (4, .inl (7, [.ref 343, .int mi, .int shu, .int bus, .ref 5, .ref 6, .ref 7, .ref 8, .ref 9, .ref 10, .ref 11, .ref 12, .ref 13, .ref 14, .ref 15, .int lks, .ref 16, .ref 17, .ref 20])), (5, .inr (.inl (0, rk))), (6, .inr (.inl (0, sta))), (7, .inr (.inl (0, ph))), (8, .inr (.inl (0, sp))), (9, .inr (.inl (0, ce))), (10, .inr (.inl (0, du))), (11, .inr (.inl (0, he))), (14, .inr (.inl (0, cm))), (343, .inl (2, [.int ns, .ref 344, .ref 345, .ref 346, .ref 347, .int nt, .ref 348, .ref 349, .ref 350, .ref 351, .ref 352, .ref 353, .ref 354, .int cel, .ref 355, .ref 356, .ref 357, .ref 358])), (349, .inr (.inl (0, siz))), (350, .inr (.inl (0, frm))), (351, .inr (.inl (0, tto))), (353, .inr (.inl (0, slo))), (354, .inr (.inl (0, wei))), (358, .inr (.inl (0, lon)))] h0 := K.mg K9 rfl rfl
          clear K9
          show j_V jP _ 119 232 lv [.int (z11.1)] h9 _
          subst ez11
          refine j_V.ri xb54_M xb54_232 ?_
          rw [show (x_qtrain mi rk sta ph sp ce du he cm nt siz frm tto slo wei lon sst x1 x2) = _ from ((if_neg c7_0).trans ((if_neg c21_1).trans ((if_neg s31_0).trans ((if_neg s31_1).trans ((if_neg s31_2).trans ((if_neg s31_3).trans ((if_neg s31_4).trans ((if_neg s31_5).trans ((if_neg s31_6).trans ((if_neg s31_7).trans ((if_neg s31_8).trans ((if_pos s31_9).trans (rfl)))))))))))))]
          exact ⟨rfl, K⟩
        | 10, ho, hx =>
          obtain rfl := Option.some.inj (show some (202 : Int) = some off from ho)
          obtain rfl : 233 = t := Option.some.inj (show some 233 = some t from ht)
          have s31_10 : x2 = 10 := Int32.toInt_inj.mp (by rw [hx]; rfl)
          have s31_0 : ¬ (x2 = 0) := fun z => by rw [s31_10] at z; exact absurd z (by decide)
          have s31_1 : ¬ (x2 = 1) := fun z => by rw [s31_10] at z; exact absurd z (by decide)
          have s31_2 : ¬ (x2 = 2) := fun z => by rw [s31_10] at z; exact absurd z (by decide)
          have s31_3 : ¬ (x2 = 3) := fun z => by rw [s31_10] at z; exact absurd z (by decide)
          have s31_4 : ¬ (x2 = 4) := fun z => by rw [s31_10] at z; exact absurd z (by decide)
          have s31_5 : ¬ (x2 = 5) := fun z => by rw [s31_10] at z; exact absurd z (by decide)
          have s31_6 : ¬ (x2 = 6) := fun z => by rw [s31_10] at z; exact absurd z (by decide)
          have s31_7 : ¬ (x2 = 7) := fun z => by rw [s31_10] at z; exact absurd z (by decide)
          have s31_8 : ¬ (x2 = 8) := fun z => by rw [s31_10] at z; exact absurd z (by decide)
          have s31_9 : ¬ (x2 = 9) := fun z => by rw [s31_10] at z; exact absurd z (by decide)
          refine j_V.ldL xb54_M xb54_233 rfl (i := 0) (kd := 2) (v := .ref 0) (pcJ := 234) rfl L rfl rfl rfl ?_
          refine j_V.ldL xb54_M xb54_234 rfl (i := 0) (kd := 2) (v := .ref 0) (pcJ := 235) rfl L rfl rfl rfl ?_
          refine j_V.getK xb54_M xb54_235 (ci := 9) (j := 6) rfl K rfl rfl ?_
          refine j_V.getK xb54_M xb54_238 (ci := 2) (j := 17) rfl K rfl rfl ?_
          refine j_V.ldL xb54_M xb54_241 rfl (i := 1) (kd := 0) (v := .int x1) (pcJ := 242) rfl L rfl rfl rfl ?_
          refine j_V.iaA xb54_M xb54_242 K rfl ?_
          refine j_V.cl xb54_M xb54_243 rfl (md := 3) (mj := 159) rfl (by decide) xb49_M (As := [.ref 0, .int (gA lon x1)]) (rest := []) (jk_spl3 (K.at rfl) rfl rfl rfl (Nat.le_of_ble_eq_true rfl) (Nat.le_of_ble_eq_true rfl)) (fun d => xb49_ok (K.fi [0] rfl rfl)) ?_
          rintro r h9 ⟨rfl, K9⟩
          generalize ez12 : (x_qanswer sst (gA lon x1)) = z12 at K9 ⊢
          have K : KN h9 [(0, .inl (9, [.ref 1, .ref 3, .ref 4, .ref 29, .ref 281, .ref 325, .ref 343, .ref 327, .int (z12.2)])), (4, .inl (7, [.ref 343, .int mi, .int shu, .int bus, .ref 5, .ref 6, .ref 7, .ref 8, .ref 9, .ref 10, .ref 11, .ref 12, .ref 13, .ref 14, .ref 15, .int lks, .ref 16, .ref 17, .ref 20])), (5, .inr (.inl (0, rk))), (6, .inr (.inl (0, sta))), (7, .inr (.inl (0, ph))), (8, .inr (.inl (0, sp))), (9, .inr (.inl (0, ce))), (10, .inr (.inl (0, du))), (11, .inr (.inl (0, he))), (14, .inr (.inl (0, cm))), (343, .inl (2, [.int ns, .ref 344, .ref 345, .ref 346, .ref 347, .int nt, .ref 348, .ref 349, .ref 350, .ref 351, .ref 352, .ref 353, .ref 354, .int cel, .ref 355, .ref 356, .ref 357, .ref 358])), (349, .inr (.inl (0, siz))), (350, .inr (.inl (0, frm))), (351, .inr (.inl (0, tto))), (353, .inr (.inl (0, slo))), (354, .inr (.inl (0, wei))), (358, .inr (.inl (0, lon)))] h0 := K.mg K9 rfl rfl
          clear K9
          show j_V jP _ 119 246 lv [.int (z12.1)] h9 _
          subst ez12
          refine j_V.ri xb54_M xb54_246 ?_
          rw [show (x_qtrain mi rk sta ph sp ce du he cm nt siz frm tto slo wei lon sst x1 x2) = _ from ((if_neg c7_0).trans ((if_neg c21_1).trans ((if_neg s31_0).trans ((if_neg s31_1).trans ((if_neg s31_2).trans ((if_neg s31_3).trans ((if_neg s31_4).trans ((if_neg s31_5).trans ((if_neg s31_6).trans ((if_neg s31_7).trans ((if_neg s31_8).trans ((if_neg s31_9).trans ((if_pos s31_10).trans (rfl))))))))))))))]
          exact ⟨rfl, K⟩
        | 11, ho, hx =>
          obtain rfl := Option.some.inj (show some (216 : Int) = some off from ho)
          obtain rfl : 247 = t := Option.some.inj (show some 247 = some t from ht)
          have s31_11 : x2 = 11 := Int32.toInt_inj.mp (by rw [hx]; rfl)
          have s31_0 : ¬ (x2 = 0) := fun z => by rw [s31_11] at z; exact absurd z (by decide)
          have s31_1 : ¬ (x2 = 1) := fun z => by rw [s31_11] at z; exact absurd z (by decide)
          have s31_2 : ¬ (x2 = 2) := fun z => by rw [s31_11] at z; exact absurd z (by decide)
          have s31_3 : ¬ (x2 = 3) := fun z => by rw [s31_11] at z; exact absurd z (by decide)
          have s31_4 : ¬ (x2 = 4) := fun z => by rw [s31_11] at z; exact absurd z (by decide)
          have s31_5 : ¬ (x2 = 5) := fun z => by rw [s31_11] at z; exact absurd z (by decide)
          have s31_6 : ¬ (x2 = 6) := fun z => by rw [s31_11] at z; exact absurd z (by decide)
          have s31_7 : ¬ (x2 = 7) := fun z => by rw [s31_11] at z; exact absurd z (by decide)
          have s31_8 : ¬ (x2 = 8) := fun z => by rw [s31_11] at z; exact absurd z (by decide)
          have s31_9 : ¬ (x2 = 9) := fun z => by rw [s31_11] at z; exact absurd z (by decide)
          have s31_10 : ¬ (x2 = 10) := fun z => by rw [s31_11] at z; exact absurd z (by decide)
          refine j_V.ldL xb54_M xb54_247 rfl (i := 0) (kd := 2) (v := .ref 0) (pcJ := 248) rfl L rfl rfl rfl ?_
          refine j_V.ldL xb54_M xb54_248 rfl (i := 0) (kd := 2) (v := .ref 0) (pcJ := 249) rfl L rfl rfl rfl ?_
          refine j_V.getK xb54_M xb54_249 (ci := 9) (j := 2) rfl K rfl rfl ?_
          refine j_V.ldL xb54_M xb54_252 rfl (i := 1) (kd := 0) (v := .int x1) (pcJ := 253) rfl L rfl rfl rfl ?_
          refine j_V.cl xb54_M xb54_253 rfl (md := 3) (mj := 63) rfl (by decide) xb04_M (As := [.ref 4, .int x1]) (rest := [.ref 0]) (jk_spl3 (K.at rfl) rfl rfl rfl (Nat.le_of_ble_eq_true rfl) (Nat.le_of_ble_eq_true rfl)) (fun d => xb04_ok (K.fi [4, 6, 7, 14, 343, 351, 358] rfl rfl)) ?_
          rintro r hz ⟨rfl, ez⟩
          rw [ez]
          clear ez
          show j_V jP _ 119 256 lv [.int (x_delay sta ph cm tto lon x1), .ref 0] h _
          refine j_V.cl xb54_M xb54_256 rfl (md := 3) (mj := 160) rfl (by decide) xb51_M (As := [.ref 0, .int (x_delay sta ph cm tto lon x1)]) (rest := []) (jk_spl3 (K.at rfl) rfl rfl rfl (Nat.le_of_ble_eq_true rfl) (Nat.le_of_ble_eq_true rfl)) (fun d => xb51_ok (K.fi [0] rfl rfl)) ?_
          rintro r h9 ⟨rfl, K9⟩
          generalize ez13 : (x_qanswerIfAny sst (x_delay sta ph cm tto lon x1)) = z13 at K9 ⊢
          have K : KN h9 [(0, .inl (9, [.ref 1, .ref 3, .ref 4, .ref 29, .ref 281, .ref 325, .ref 343, .ref 327, .int (z13.2)])), (4, .inl (7, [.ref 343, .int mi, .int shu, .int bus, .ref 5, .ref 6, .ref 7, .ref 8, .ref 9, .ref 10, .ref 11, .ref 12, .ref 13, .ref 14, .ref 15, .int lks, .ref 16, .ref 17, .ref 20])), (5, .inr (.inl (0, rk))), (6, .inr (.inl (0, sta))), (7, .inr (.inl (0, ph))), (8, .inr (.inl (0, sp))), (9, .inr (.inl (0, ce))), (10, .inr (.inl (0, du))), (11, .inr (.inl (0, he))), (14, .inr (.inl (0, cm))), (343, .inl (2, [.int ns, .ref 344, .ref 345, .ref 346, .ref 347, .int nt, .ref 348, .ref 349, .ref 350, .ref 351, .ref 352, .ref 353, .ref 354, .int cel, .ref 355, .ref 356, .ref 357, .ref 358])), (349, .inr (.inl (0, siz))), (350, .inr (.inl (0, frm))), (351, .inr (.inl (0, tto))), (353, .inr (.inl (0, slo))), (354, .inr (.inl (0, wei))), (358, .inr (.inl (0, lon)))] h0 := K.mg K9 rfl rfl
          clear K9
          show j_V jP _ 119 259 lv [.int (z13.1)] h9 _
          subst ez13
          refine j_V.ri xb54_M xb54_259 ?_
          rw [show (x_qtrain mi rk sta ph sp ce du he cm nt siz frm tto slo wei lon sst x1 x2) = _ from ((if_neg c7_0).trans ((if_neg c21_1).trans ((if_neg s31_0).trans ((if_neg s31_1).trans ((if_neg s31_2).trans ((if_neg s31_3).trans ((if_neg s31_4).trans ((if_neg s31_5).trans ((if_neg s31_6).trans ((if_neg s31_7).trans ((if_neg s31_8).trans ((if_neg s31_9).trans ((if_neg s31_10).trans ((if_pos s31_11).trans (rfl)))))))))))))))]
          exact ⟨rfl, K⟩
        | 12, ho, hx =>
          obtain rfl := Option.some.inj (show some (229 : Int) = some off from ho)
          obtain rfl : 260 = t := Option.some.inj (show some 260 = some t from ht)
          have s31_12 : x2 = 12 := Int32.toInt_inj.mp (by rw [hx]; rfl)
          have s31_0 : ¬ (x2 = 0) := fun z => by rw [s31_12] at z; exact absurd z (by decide)
          have s31_1 : ¬ (x2 = 1) := fun z => by rw [s31_12] at z; exact absurd z (by decide)
          have s31_2 : ¬ (x2 = 2) := fun z => by rw [s31_12] at z; exact absurd z (by decide)
          have s31_3 : ¬ (x2 = 3) := fun z => by rw [s31_12] at z; exact absurd z (by decide)
          have s31_4 : ¬ (x2 = 4) := fun z => by rw [s31_12] at z; exact absurd z (by decide)
          have s31_5 : ¬ (x2 = 5) := fun z => by rw [s31_12] at z; exact absurd z (by decide)
          have s31_6 : ¬ (x2 = 6) := fun z => by rw [s31_12] at z; exact absurd z (by decide)
          have s31_7 : ¬ (x2 = 7) := fun z => by rw [s31_12] at z; exact absurd z (by decide)
          have s31_8 : ¬ (x2 = 8) := fun z => by rw [s31_12] at z; exact absurd z (by decide)
          have s31_9 : ¬ (x2 = 9) := fun z => by rw [s31_12] at z; exact absurd z (by decide)
          have s31_10 : ¬ (x2 = 10) := fun z => by rw [s31_12] at z; exact absurd z (by decide)
          have s31_11 : ¬ (x2 = 11) := fun z => by rw [s31_12] at z; exact absurd z (by decide)
          refine j_V.ldL xb54_M xb54_260 rfl (i := 0) (kd := 2) (v := .ref 0) (pcJ := 261) rfl L rfl rfl rfl ?_
          refine j_V.ldL xb54_M xb54_261 rfl (i := 0) (kd := 2) (v := .ref 0) (pcJ := 262) rfl L rfl rfl rfl ?_
          refine j_V.getK xb54_M xb54_262 (ci := 9) (j := 2) rfl K rfl rfl ?_
          refine j_V.ldL xb54_M xb54_265 rfl (i := 1) (kd := 0) (v := .int x1) (pcJ := 266) rfl L rfl rfl rfl ?_
          refine j_V.cl xb54_M xb54_266 rfl (md := 3) (mj := 73) rfl (by decide) xb14_M (As := [.ref 4, .int x1]) (rest := [.ref 0]) (jk_spl3 (K.at rfl) rfl rfl rfl (Nat.le_of_ble_eq_true rfl) (Nat.le_of_ble_eq_true rfl)) (fun d => xb14_ok (K.fi [4, 11] rfl rfl)) ?_
          rintro r hz ⟨rfl, ez⟩
          rw [ez]
          clear ez
          show j_V jP _ 119 269 lv [.int (x_heldTill mi he x1), .ref 0] h _
          refine j_V.cl xb54_M xb54_269 rfl (md := 3) (mj := 160) rfl (by decide) xb51_M (As := [.ref 0, .int (x_heldTill mi he x1)]) (rest := []) (jk_spl3 (K.at rfl) rfl rfl rfl (Nat.le_of_ble_eq_true rfl) (Nat.le_of_ble_eq_true rfl)) (fun d => xb51_ok (K.fi [0] rfl rfl)) ?_
          rintro r h9 ⟨rfl, K9⟩
          generalize ez14 : (x_qanswerIfAny sst (x_heldTill mi he x1)) = z14 at K9 ⊢
          have K : KN h9 [(0, .inl (9, [.ref 1, .ref 3, .ref 4, .ref 29, .ref 281, .ref 325, .ref 343, .ref 327, .int (z14.2)])), (4, .inl (7, [.ref 343, .int mi, .int shu, .int bus, .ref 5, .ref 6, .ref 7, .ref 8, .ref 9, .ref 10, .ref 11, .ref 12, .ref 13, .ref 14, .ref 15, .int lks, .ref 16, .ref 17, .ref 20])), (5, .inr (.inl (0, rk))), (6, .inr (.inl (0, sta))), (7, .inr (.inl (0, ph))), (8, .inr (.inl (0, sp))), (9, .inr (.inl (0, ce))), (10, .inr (.inl (0, du))), (11, .inr (.inl (0, he))), (14, .inr (.inl (0, cm))), (343, .inl (2, [.int ns, .ref 344, .ref 345, .ref 346, .ref 347, .int nt, .ref 348, .ref 349, .ref 350, .ref 351, .ref 352, .ref 353, .ref 354, .int cel, .ref 355, .ref 356, .ref 357, .ref 358])), (349, .inr (.inl (0, siz))), (350, .inr (.inl (0, frm))), (351, .inr (.inl (0, tto))), (353, .inr (.inl (0, slo))), (354, .inr (.inl (0, wei))), (358, .inr (.inl (0, lon)))] h0 := K.mg K9 rfl rfl
          clear K9
          show j_V jP _ 119 272 lv [.int (z14.1)] h9 _
          subst ez14
          refine j_V.ri xb54_M xb54_272 ?_
          rw [show (x_qtrain mi rk sta ph sp ce du he cm nt siz frm tto slo wei lon sst x1 x2) = _ from ((if_neg c7_0).trans ((if_neg c21_1).trans ((if_neg s31_0).trans ((if_neg s31_1).trans ((if_neg s31_2).trans ((if_neg s31_3).trans ((if_neg s31_4).trans ((if_neg s31_5).trans ((if_neg s31_6).trans ((if_neg s31_7).trans ((if_neg s31_8).trans ((if_neg s31_9).trans ((if_neg s31_10).trans ((if_neg s31_11).trans ((if_pos s31_12).trans (rfl))))))))))))))))]
          exact ⟨rfl, K⟩
        | k + 13, ho, hx => cases ho
    · replace c21_1 : (x_isTrain nt x1) = 0 := jd_nen c21_1
      refine j_V.ldL xb54_M xb54_24 rfl (i := 0) (kd := 2) (v := .ref 0) (pcJ := 25) rfl L rfl rfl rfl ?_
      refine j_V.one xb54_M xb54_25 (by decide) (pcJ := 26) (stJ := [.int 2, .ref 0]) rfl ?_
      refine j_V.cl xb54_M xb54_26 rfl (md := 3) (mj := 161) rfl (by decide) xb50_M (As := [.ref 0, .int 2]) (rest := []) (jk_spl3 (K.at rfl) rfl rfl rfl (Nat.le_of_ble_eq_true rfl) (Nat.le_of_ble_eq_true rfl)) (fun d => xb50_ok (K.fi [0] rfl rfl)) ?_
      rintro r h9 ⟨rfl, K9⟩
      generalize ez15 : (x_qrefuse sst 2) = z15 at K9 ⊢
      have K : KN h9 [(0, .inl (9, [.ref 1, .ref 3, .ref 4, .ref 29, .ref 281, .ref 325, .ref 343, .ref 327, .int (z15.2)])), (4, .inl (7, [.ref 343, .int mi, .int shu, .int bus, .ref 5, .ref 6, .ref 7, .ref 8, .ref 9, .ref 10, .ref 11, .ref 12, .ref 13, .ref 14, .ref 15, .int lks, .ref 16, .ref 17, .ref 20])), (5, .inr (.inl (0, rk))), (6, .inr (.inl (0, sta))), (7, .inr (.inl (0, ph))), (8, .inr (.inl (0, sp))), (9, .inr (.inl (0, ce))), (10, .inr (.inl (0, du))), (11, .inr (.inl (0, he))), (14, .inr (.inl (0, cm))), (343, .inl (2, [.int ns, .ref 344, .ref 345, .ref 346, .ref 347, .int nt, .ref 348, .ref 349, .ref 350, .ref 351, .ref 352, .ref 353, .ref 354, .int cel, .ref 355, .ref 356, .ref 357, .ref 358])), (349, .inr (.inl (0, siz))), (350, .inr (.inl (0, frm))), (351, .inr (.inl (0, tto))), (353, .inr (.inl (0, slo))), (354, .inr (.inl (0, wei))), (358, .inr (.inl (0, lon)))] h0 := K.mg K9 rfl rfl
      clear K9
      show j_V jP _ 119 29 lv [.int (z15.1)] h9 _
      subst ez15
      refine j_V.ri xb54_M xb54_29 ?_
      rw [show (x_qtrain mi rk sta ph sp ce du he cm nt siz frm tto slo wei lon sst x1 x2) = _ from ((if_neg c7_0).trans ((if_pos c21_1).trans (rfl)))]
      exact ⟨rfl, K⟩
  · replace c7_0 : (x_isWithin x2 0 13) = 0 := jd_nen c7_0
    refine j_V.ldL xb54_M xb54_10 rfl (i := 0) (kd := 2) (v := .ref 0) (pcJ := 11) rfl L rfl rfl rfl ?_
    refine j_V.one xb54_M xb54_11 (by decide) (pcJ := 12) (stJ := [.int 1, .ref 0]) rfl ?_
    refine j_V.cl xb54_M xb54_12 rfl (md := 3) (mj := 161) rfl (by decide) xb50_M (As := [.ref 0, .int 1]) (rest := []) (jk_spl3 (K.at rfl) rfl rfl rfl (Nat.le_of_ble_eq_true rfl) (Nat.le_of_ble_eq_true rfl)) (fun d => xb50_ok (K.fi [0] rfl rfl)) ?_
    rintro r h9 ⟨rfl, K9⟩
    generalize ez16 : (x_qrefuse sst 1) = z16 at K9 ⊢
    have K : KN h9 [(0, .inl (9, [.ref 1, .ref 3, .ref 4, .ref 29, .ref 281, .ref 325, .ref 343, .ref 327, .int (z16.2)])), (4, .inl (7, [.ref 343, .int mi, .int shu, .int bus, .ref 5, .ref 6, .ref 7, .ref 8, .ref 9, .ref 10, .ref 11, .ref 12, .ref 13, .ref 14, .ref 15, .int lks, .ref 16, .ref 17, .ref 20])), (5, .inr (.inl (0, rk))), (6, .inr (.inl (0, sta))), (7, .inr (.inl (0, ph))), (8, .inr (.inl (0, sp))), (9, .inr (.inl (0, ce))), (10, .inr (.inl (0, du))), (11, .inr (.inl (0, he))), (14, .inr (.inl (0, cm))), (343, .inl (2, [.int ns, .ref 344, .ref 345, .ref 346, .ref 347, .int nt, .ref 348, .ref 349, .ref 350, .ref 351, .ref 352, .ref 353, .ref 354, .int cel, .ref 355, .ref 356, .ref 357, .ref 358])), (349, .inr (.inl (0, siz))), (350, .inr (.inl (0, frm))), (351, .inr (.inl (0, tto))), (353, .inr (.inl (0, slo))), (354, .inr (.inl (0, wei))), (358, .inr (.inl (0, lon)))] h0 := K.mg K9 rfl rfl
    clear K9
    show j_V jP _ 119 15 lv [.int (z16.1)] h9 _
    subst ez16
    refine j_V.ri xb54_M xb54_15 ?_
    rw [show (x_qtrain mi rk sta ph sp ce du he cm nt siz frm tto slo wei lon sst x1 x2) = _ from ((if_pos c7_0).trans (rfl))]
    exact ⟨rfl, K⟩
set_option maxRecDepth 100000 in
theorem xb55_M : j_meth jP 120 = some (yX9_fits, cX9_fits, 4, (some .int), 1, false, 9) := rfl
set_option maxRecDepth 100000 in
theorem xb55_0 : j_code jP 120 0 = some (.aload_n 0) := rfl
set_option maxRecDepth 100000 in
theorem xb55_1 : j_code jP 120 1 = some (.iload_n 1) := rfl
set_option maxRecDepth 100000 in
theorem xb55_2 : j_code jP 120 2 = some (.invokevirtual 184) := rfl
set_option maxRecDepth 100000 in
theorem xb55_5 : j_code jP 120 5 = some (.ifCond .ne 9) := rfl
set_option maxRecDepth 100000 in
theorem xb55_8 : j_code jP 120 8 = some (.aload_n 0) := rfl
set_option maxRecDepth 100000 in
theorem xb55_9 : j_code jP 120 9 = some (.iconst 2) := rfl
set_option maxRecDepth 100000 in
theorem xb55_10 : j_code jP 120 10 = some (.invokevirtual 84) := rfl
set_option maxRecDepth 100000 in
theorem xb55_13 : j_code jP 120 13 = some (.ireturn) := rfl
set_option maxRecDepth 100000 in
theorem xb55_14 : j_code jP 120 14 = some (.iconst 0) := rfl
set_option maxRecDepth 100000 in
theorem xb55_15 : j_code jP 120 15 = some (.istore_n 2) := rfl
set_option maxRecDepth 100000 in
theorem xb55_16 : j_code jP 120 16 = some (.iconst 0) := rfl
set_option maxRecDepth 100000 in
theorem xb55_17 : j_code jP 120 17 = some (.istore_n 3) := rfl
set_option maxRecDepth 100000 in
theorem xb55_18 : j_code jP 120 18 = some (.iload_n 3) := rfl
set_option maxRecDepth 100000 in
theorem xb55_19 : j_code jP 120 19 = some (.aload_n 0) := rfl
set_option maxRecDepth 100000 in
theorem xb55_20 : j_code jP 120 20 = some (.getfield 58) := rfl
set_option maxRecDepth 100000 in
theorem xb55_23 : j_code jP 120 23 = some (.getfield 113) := rfl
set_option maxRecDepth 100000 in
theorem xb55_26 : j_code jP 120 26 = some (.if_icmp .ge 36) := rfl
set_option maxRecDepth 100000 in
theorem xb55_29 : j_code jP 120 29 = some (.aload_n 0) := rfl
set_option maxRecDepth 100000 in
theorem xb55_30 : j_code jP 120 30 = some (.getfield 58) := rfl
set_option maxRecDepth 100000 in
theorem xb55_33 : j_code jP 120 33 = some (.getfield 229) := rfl
set_option maxRecDepth 100000 in
theorem xb55_36 : j_code jP 120 36 = some (.iload_n 1) := rfl
set_option maxRecDepth 100000 in
theorem xb55_37 : j_code jP 120 37 = some (.iaload) := rfl
set_option maxRecDepth 100000 in
theorem xb55_38 : j_code jP 120 38 = some (.aload_n 0) := rfl
set_option maxRecDepth 100000 in
theorem xb55_39 : j_code jP 120 39 = some (.getfield 58) := rfl
set_option maxRecDepth 100000 in
theorem xb55_42 : j_code jP 120 42 = some (.iload_n 3) := rfl
set_option maxRecDepth 100000 in
theorem xb55_43 : j_code jP 120 43 = some (.invokevirtual 155) := rfl
set_option maxRecDepth 100000 in
theorem xb55_46 : j_code jP 120 46 = some (.iand) := rfl
set_option maxRecDepth 100000 in
theorem xb55_47 : j_code jP 120 47 = some (.ifCond .eq 9) := rfl
set_option maxRecDepth 100000 in
theorem xb55_50 : j_code jP 120 50 = some (.iload_n 2) := rfl
set_option maxRecDepth 100000 in
theorem xb55_51 : j_code jP 120 51 = some (.iconst 1) := rfl
set_option maxRecDepth 100000 in
theorem xb55_52 : j_code jP 120 52 = some (.iload_n 3) := rfl
set_option maxRecDepth 100000 in
theorem xb55_53 : j_code jP 120 53 = some (.ishl) := rfl
set_option maxRecDepth 100000 in
theorem xb55_54 : j_code jP 120 54 = some (.ior) := rfl
set_option maxRecDepth 100000 in
theorem xb55_55 : j_code jP 120 55 = some (.istore_n 2) := rfl
set_option maxRecDepth 100000 in
theorem xb55_56 : j_code jP 120 56 = some (.iinc 3 1) := rfl
set_option maxRecDepth 100000 in
theorem xb55_59 : j_code jP 120 59 = some (.goto (-41)) := rfl
set_option maxRecDepth 100000 in
theorem xb55_62 : j_code jP 120 62 = some (.aload_n 0) := rfl
set_option maxRecDepth 100000 in
theorem xb55_63 : j_code jP 120 63 = some (.iload_n 2) := rfl
set_option maxRecDepth 100000 in
theorem xb55_64 : j_code jP 120 64 = some (.invokevirtual 104) := rfl
set_option maxRecDepth 100000 in
theorem xb55_67 : j_code jP 120 67 = some (.ireturn) := rfl
set_option maxRecDepth 1000000 in
theorem xb55_ok_l18 {ns : Int32} {nt : Int32} {cel : Int32} {tra : List Int32} {fit : List Int32} {v1 : Int32} {d : Nat} {h0 : J_H} : ∀ (f : Nat) (v3 v2 : Int32) (sst : Int32) {lv : J_L} {h : J_H}, lpN ns v3 = f → LK lv [(0, .ref 0), (1, .int v1), (2, .int v2), (3, .int v3)] → KN h [(0, .inl (9, [.ref 1, .ref 3, .ref 4, .ref 29, .ref 281, .ref 325, .ref 343, .ref 327, .int sst])), (343, .inl (2, [.int ns, .ref 344, .ref 345, .ref 346, .ref 347, .int nt, .ref 348, .ref 349, .ref 350, .ref 351, .ref 352, .ref 353, .ref 354, .int cel, .ref 355, .ref 356, .ref 357, .ref 358])), (346, .inr (.inl (0, tra))), (355, .inr (.inl (0, fit)))] h0 → j_V jP d 120 18 lv [] h (fun rv h' => rv = some (.int (x_qfits_l18 tra fit v1 f v3 v2 sst).1) ∧ KN h' [(0, .inl (9, [.ref 1, .ref 3, .ref 4, .ref 29, .ref 281, .ref 325, .ref 343, .ref 327, .int (x_qfits_l18 tra fit v1 f v3 v2 sst).2])), (343, .inl (2, [.int ns, .ref 344, .ref 345, .ref 346, .ref 347, .int nt, .ref 348, .ref 349, .ref 350, .ref 351, .ref 352, .ref 353, .ref 354, .int cel, .ref 355, .ref 356, .ref 357, .ref 358])), (346, .inr (.inl (0, tra))), (355, .inr (.inl (0, fit)))] h0) := by
  intro f
  induction f with
  | zero =>
    intro v3 v2 sst lv h e L K
    refine j_V.ldL xb55_M xb55_18 rfl (i := 3) (kd := 0) (v := .int v3) (pcJ := 19) rfl L rfl rfl rfl ?_
    refine j_V.ldL xb55_M xb55_19 rfl (i := 0) (kd := 2) (v := .ref 0) (pcJ := 20) rfl L rfl rfl rfl ?_
    refine j_V.getK xb55_M xb55_20 (ci := 9) (j := 6) rfl K rfl rfl ?_
    refine j_V.getK xb55_M xb55_23 (ci := 2) (j := 0) rfl K rfl rfl ?_
    refine j_V.icmp xb55_M xb55_26 (t := 62) rfl (fun c26_0 => ?_) (fun c26_0 => ?_)
    · replace c26_0 : ¬ (v3 < ns) := jd_ge c26_0
      refine j_V.ldL xb55_M xb55_62 rfl (i := 0) (kd := 2) (v := .ref 0) (pcJ := 63) rfl L rfl rfl rfl ?_
      refine j_V.ldL xb55_M xb55_63 rfl (i := 2) (kd := 0) (v := .int v2) (pcJ := 64) rfl L rfl rfl rfl ?_
      refine j_V.cl xb55_M xb55_64 rfl (md := 3) (mj := 159) rfl (by decide) xb49_M (As := [.ref 0, .int v2]) (rest := []) (jk_spl3 (K.at rfl) rfl rfl rfl (Nat.le_of_ble_eq_true rfl) (Nat.le_of_ble_eq_true rfl)) (fun d => xb49_ok (K.fi [0] rfl rfl)) ?_
      rintro r h9 ⟨rfl, K9⟩
      generalize ez1 : (x_qanswer sst v2) = z1 at K9 ⊢
      have K : KN h9 [(0, .inl (9, [.ref 1, .ref 3, .ref 4, .ref 29, .ref 281, .ref 325, .ref 343, .ref 327, .int (z1.2)])), (343, .inl (2, [.int ns, .ref 344, .ref 345, .ref 346, .ref 347, .int nt, .ref 348, .ref 349, .ref 350, .ref 351, .ref 352, .ref 353, .ref 354, .int cel, .ref 355, .ref 356, .ref 357, .ref 358])), (346, .inr (.inl (0, tra))), (355, .inr (.inl (0, fit)))] h0 := K.mg K9 rfl rfl
      clear K9
      show j_V jP _ 120 67 lv [.int (z1.1)] h9 _
      subst ez1
      refine j_V.ri xb55_M xb55_67 ?_
      rw [show (x_qfits_l18 tra fit v1 0 v3 v2 sst) = _ from (rfl)]
      exact ⟨rfl, K⟩
    · replace c26_0 : v3 < ns := jd_gen c26_0
      exact absurd c26_0 (lpN_z e)
  | succ f ih =>
    intro v3 v2 sst lv h e L K
    refine j_V.ldL xb55_M xb55_18 rfl (i := 3) (kd := 0) (v := .int v3) (pcJ := 19) rfl L rfl rfl rfl ?_
    refine j_V.ldL xb55_M xb55_19 rfl (i := 0) (kd := 2) (v := .ref 0) (pcJ := 20) rfl L rfl rfl rfl ?_
    refine j_V.getK xb55_M xb55_20 (ci := 9) (j := 6) rfl K rfl rfl ?_
    refine j_V.getK xb55_M xb55_23 (ci := 2) (j := 0) rfl K rfl rfl ?_
    refine j_V.icmp xb55_M xb55_26 (t := 62) rfl (fun c26_0 => ?_) (fun c26_0 => ?_)
    · replace c26_0 : ¬ (v3 < ns) := jd_ge c26_0
      exact absurd (lpN_s e) c26_0
    · replace c26_0 : v3 < ns := jd_gen c26_0
      refine j_V.ldL xb55_M xb55_29 rfl (i := 0) (kd := 2) (v := .ref 0) (pcJ := 30) rfl L rfl rfl rfl ?_
      refine j_V.getK xb55_M xb55_30 (ci := 9) (j := 6) rfl K rfl rfl ?_
      refine j_V.getK xb55_M xb55_33 (ci := 2) (j := 14) rfl K rfl rfl ?_
      refine j_V.ldL xb55_M xb55_36 rfl (i := 1) (kd := 0) (v := .int v1) (pcJ := 37) rfl L rfl rfl rfl ?_
      refine j_V.iaA xb55_M xb55_37 K rfl ?_
      refine j_V.ldL xb55_M xb55_38 rfl (i := 0) (kd := 2) (v := .ref 0) (pcJ := 39) rfl L rfl rfl rfl ?_
      refine j_V.getK xb55_M xb55_39 (ci := 9) (j := 6) rfl K rfl rfl ?_
      refine j_V.ldL xb55_M xb55_42 rfl (i := 3) (kd := 0) (v := .int v3) (pcJ := 43) rfl L rfl rfl rfl ?_
      refine j_V.cl xb55_M xb55_43 rfl (md := 3) (mj := 23) rfl (by decide) xb00_M (As := [.ref 343, .int v3]) (rest := [.int (gA fit v1)]) (jk_spl3 (K.at rfl) rfl rfl rfl (Nat.le_of_ble_eq_true rfl) (Nat.le_of_ble_eq_true rfl)) (fun d => xb00_ok (K.fi [343, 346] rfl rfl)) ?_
      rintro r hz ⟨rfl, ez⟩
      rw [ez]
      clear ez
      show j_V jP _ 120 46 lv [.int (x_cellsOf tra v3), .int (gA fit v1)] h _
      refine j_V.one xb55_M xb55_46 (by decide) (pcJ := 47) (stJ := [.int ((gA fit v1) &&& (x_cellsOf tra v3))]) rfl ?_
      refine j_V.cut (b := 56) (stJ := []) (fun v => [(0, .ref 0), (1, .int v1), (2, .int v), (3, .int v3)]) ((if ((gA fit v1) &&& (x_cellsOf tra v3)) = 0 then v2 else (v2 ||| (1 <<< (v3 &&& 31)))) : Int32) (fun Q kk => ?_) (fun lv L => ?_)
      · refine j_V.ifc xb55_M xb55_47 (t := 56) rfl (fun c47_0 => ?_) (fun c47_0 => ?_)
        · replace c47_0 : ((gA fit v1) &&& (x_cellsOf tra v3)) = 0 := jd_eq c47_0
          exact kk _ (Eq.subst (motive := fun z => LK _ ((fun v => [(0, .ref 0), (1, .int v1), (2, .int v), (3, .int v3)]) z)) (show v2 = ((if ((gA fit v1) &&& (x_cellsOf tra v3)) = 0 then v2 else (v2 ||| (1 <<< (v3 &&& 31)))) : Int32) from Eq.symm ((if_pos c47_0).trans (rfl))) L)
        · replace c47_0 : ¬ (((gA fit v1) &&& (x_cellsOf tra v3)) = 0) := jd_eqn c47_0
          refine j_V.ldL xb55_M xb55_50 rfl (i := 2) (kd := 0) (v := .int v2) (pcJ := 51) rfl L rfl rfl rfl ?_
          refine j_V.one xb55_M xb55_51 (by decide) (pcJ := 52) (stJ := [.int 1, .int v2]) rfl ?_
          refine j_V.ldL xb55_M xb55_52 rfl (i := 3) (kd := 0) (v := .int v3) (pcJ := 53) rfl L rfl rfl rfl ?_
          refine j_V.one xb55_M xb55_53 (by decide) (pcJ := 54) (stJ := [.int (1 <<< (v3 &&& 31)), .int v2]) rfl ?_
          refine j_V.one xb55_M xb55_54 (by decide) (pcJ := 55) (stJ := [.int (v2 ||| (1 <<< (v3 &&& 31)))]) rfl ?_
          refine j_V.stL xb55_M xb55_55 rfl (i := 2) (kd := 0) (kl' := [(0, .ref 0), (1, .int v1), (2, .int (v2 ||| (1 <<< (v3 &&& 31)))), (3, .int v3)]) (pcJ := 56) rfl L rfl (by decide) rfl rfl rfl (fun lv L => ?_)
          exact kk _ (Eq.subst (motive := fun z => LK _ ((fun v => [(0, .ref 0), (1, .int v1), (2, .int v), (3, .int v3)]) z)) (show (v2 ||| (1 <<< (v3 &&& 31))) = ((if ((gA fit v1) &&& (x_cellsOf tra v3)) = 0 then v2 else (v2 ||| (1 <<< (v3 &&& 31)))) : Int32) from Eq.symm ((if_neg c47_0).trans (rfl))) L)
      refine j_V.inL xb55_M xb55_56 (i := 3) (kl' := [(0, .ref 0), (1, .int v1), (2, .int ((if ((gA fit v1) &&& (x_cellsOf tra v3)) = 0 then v2 else (v2 ||| (1 <<< (v3 &&& 31)))) : Int32)), (3, .int (v3 + 1))]) (pcJ := 59) L rfl rfl rfl rfl (fun lv L => ?_)
      refine j_V.gto xb55_M xb55_59 (t := 18) rfl ?_
      rw [show (x_qfits_l18 tra fit v1 (f + 1) v3 v2 sst) = _ from (rfl)]
      exact ih _ _ _ (lpN_n e) L K
set_option maxRecDepth 1000000 in
theorem xb55_ok {ns : Int32} {nt : Int32} {cel : Int32} {tra : List Int32} {fit : List Int32} {sst : Int32} {x1 : Int32} {d : Nat} {h h0 : J_H} (K : KN h [(0, .inl (9, [.ref 1, .ref 3, .ref 4, .ref 29, .ref 281, .ref 325, .ref 343, .ref 327, .int sst])), (343, .inl (2, [.int ns, .ref 344, .ref 345, .ref 346, .ref 347, .int nt, .ref 348, .ref 349, .ref 350, .ref 351, .ref 352, .ref 353, .ref 354, .int cel, .ref 355, .ref 356, .ref 357, .ref 358])), (346, .inr (.inl (0, tra))), (355, .inr (.inl (0, fit)))] h0) : j_V jP d 120 0 (lv_args 0 [.ref 0, .int x1]) [] h (fun rv h' => rv = some (.int (x_qfits ns nt tra fit sst x1).1) ∧ KN h' [(0, .inl (9, [.ref 1, .ref 3, .ref 4, .ref 29, .ref 281, .ref 325, .ref 343, .ref 327, .int (x_qfits ns nt tra fit sst x1).2])), (343, .inl (2, [.int ns, .ref 344, .ref 345, .ref 346, .ref 347, .int nt, .ref 348, .ref 349, .ref 350, .ref 351, .ref 352, .ref 353, .ref 354, .int cel, .ref 355, .ref 356, .ref 357, .ref 358])), (346, .inr (.inl (0, tra))), (355, .inr (.inl (0, fit)))] h0) := by
  show j_V jP d 120 0 [(0, .ref 0), (1, .int x1)] [] h _
  obtain ⟨lv, elv, L⟩ : ∃ lv, lv = [(0, .ref 0), (1, .int x1)] ∧ LK lv [(0, .ref 0), (1, .int x1)] := ⟨_, rfl, LK.rf⟩
  rw [← elv]
  clear elv
  refine j_V.ldL xb55_M xb55_0 rfl (i := 0) (kd := 2) (v := .ref 0) (pcJ := 1) rfl L rfl rfl rfl ?_
  refine j_V.ldL xb55_M xb55_1 rfl (i := 1) (kd := 0) (v := .int x1) (pcJ := 2) rfl L rfl rfl rfl ?_
  refine j_V.cl xb55_M xb55_2 rfl (md := 3) (mj := 165) rfl (by decide) xb47_M (As := [.ref 0, .int x1]) (rest := []) (jk_spl3 (K.at rfl) rfl rfl rfl (Nat.le_of_ble_eq_true rfl) (Nat.le_of_ble_eq_true rfl)) (fun d => xb47_ok (K.fi [0, 343] rfl rfl)) ?_
  rintro r hz ⟨rfl, ez⟩
  rw [ez]
  clear ez
  show j_V jP _ 120 5 lv [.int (x_isTrain nt x1)] h _
  refine j_V.ifc xb55_M xb55_5 (t := 14) rfl (fun c5_0 => ?_) (fun c5_0 => ?_)
  · replace c5_0 : ¬ ((x_isTrain nt x1) = 0) := jd_ne c5_0
    refine j_V.one xb55_M xb55_14 (by decide) (pcJ := 15) (stJ := [.int 0]) rfl ?_
    refine j_V.stL xb55_M xb55_15 rfl (i := 2) (kd := 0) (kl' := [(0, .ref 0), (1, .int x1), (2, .int 0)]) (pcJ := 16) rfl L rfl (by decide) rfl rfl rfl (fun lv L => ?_)
    refine j_V.one xb55_M xb55_16 (by decide) (pcJ := 17) (stJ := [.int 0]) rfl ?_
    refine j_V.stL xb55_M xb55_17 rfl (i := 3) (kd := 0) (kl' := [(0, .ref 0), (1, .int x1), (2, .int 0), (3, .int 0)]) (pcJ := 18) rfl L rfl (by decide) rfl rfl rfl (fun lv L => ?_)
    rw [show (x_qfits ns nt tra fit sst x1) = _ from ((if_neg c5_0).trans (rfl))]
    exact xb55_ok_l18 _ _ _ _ rfl L K
  · replace c5_0 : (x_isTrain nt x1) = 0 := jd_nen c5_0
    refine j_V.ldL xb55_M xb55_8 rfl (i := 0) (kd := 2) (v := .ref 0) (pcJ := 9) rfl L rfl rfl rfl ?_
    refine j_V.one xb55_M xb55_9 (by decide) (pcJ := 10) (stJ := [.int 2, .ref 0]) rfl ?_
    refine j_V.cl xb55_M xb55_10 rfl (md := 3) (mj := 161) rfl (by decide) xb50_M (As := [.ref 0, .int 2]) (rest := []) (jk_spl3 (K.at rfl) rfl rfl rfl (Nat.le_of_ble_eq_true rfl) (Nat.le_of_ble_eq_true rfl)) (fun d => xb50_ok (K.fi [0] rfl rfl)) ?_
    rintro r h9 ⟨rfl, K9⟩
    generalize ez2 : (x_qrefuse sst 2) = z2 at K9 ⊢
    have K : KN h9 [(0, .inl (9, [.ref 1, .ref 3, .ref 4, .ref 29, .ref 281, .ref 325, .ref 343, .ref 327, .int (z2.2)])), (343, .inl (2, [.int ns, .ref 344, .ref 345, .ref 346, .ref 347, .int nt, .ref 348, .ref 349, .ref 350, .ref 351, .ref 352, .ref 353, .ref 354, .int cel, .ref 355, .ref 356, .ref 357, .ref 358])), (346, .inr (.inl (0, tra))), (355, .inr (.inl (0, fit)))] h0 := K.mg K9 rfl rfl
    clear K9
    show j_V jP _ 120 13 lv [.int (z2.1)] h9 _
    subst ez2
    refine j_V.ri xb55_M xb55_13 ?_
    rw [show (x_qfits ns nt tra fit sst x1) = _ from ((if_pos c5_0).trans (rfl))]
    exact ⟨rfl, K⟩
set_option maxRecDepth 100000 in
theorem xb56_M : j_meth jP 125 = some (yX9_links, cX9_links, 3, (some .int), 2, false, 9) := rfl
set_option maxRecDepth 100000 in
theorem xb56_0 : j_code jP 125 0 = some (.iload_n 1) := rfl
set_option maxRecDepth 100000 in
theorem xb56_1 : j_code jP 125 1 = some (.iconst (-1)) := rfl
set_option maxRecDepth 100000 in
theorem xb56_2 : j_code jP 125 2 = some (.if_icmp .lt 21) := rfl
set_option maxRecDepth 100000 in
theorem xb56_5 : j_code jP 125 5 = some (.iload_n 2) := rfl
set_option maxRecDepth 100000 in
theorem xb56_6 : j_code jP 125 6 = some (.iconst 0) := rfl
set_option maxRecDepth 100000 in
theorem xb56_7 : j_code jP 125 7 = some (.iload_n 1) := rfl
set_option maxRecDepth 100000 in
theorem xb56_8 : j_code jP 125 8 = some (.iconst (-1)) := rfl
set_option maxRecDepth 100000 in
theorem xb56_9 : j_code jP 125 9 = some (.if_icmp .ne 7) := rfl
set_option maxRecDepth 100000 in
theorem xb56_12 : j_code jP 125 12 = some (.iconst 0) := rfl
set_option maxRecDepth 100000 in
theorem xb56_13 : j_code jP 125 13 = some (.goto 4) := rfl
set_option maxRecDepth 100000 in
theorem xb56_16 : j_code jP 125 16 = some (.iconst 3) := rfl
set_option maxRecDepth 100000 in
theorem xb56_17 : j_code jP 125 17 = some (.invokestatic 138) := rfl
set_option maxRecDepth 100000 in
theorem xb56_20 : j_code jP 125 20 = some (.ifCond .ne 9) := rfl
set_option maxRecDepth 100000 in
theorem xb56_23 : j_code jP 125 23 = some (.aload_n 0) := rfl
set_option maxRecDepth 100000 in
theorem xb56_24 : j_code jP 125 24 = some (.iconst 1) := rfl
set_option maxRecDepth 100000 in
theorem xb56_25 : j_code jP 125 25 = some (.invokevirtual 84) := rfl
set_option maxRecDepth 100000 in
theorem xb56_28 : j_code jP 125 28 = some (.ireturn) := rfl
set_option maxRecDepth 100000 in
theorem xb56_29 : j_code jP 125 29 = some (.iload_n 1) := rfl
set_option maxRecDepth 100000 in
theorem xb56_30 : j_code jP 125 30 = some (.iconst (-1)) := rfl
set_option maxRecDepth 100000 in
theorem xb56_31 : j_code jP 125 31 = some (.if_icmp .ne 15) := rfl
set_option maxRecDepth 100000 in
theorem xb56_34 : j_code jP 125 34 = some (.aload_n 0) := rfl
set_option maxRecDepth 100000 in
theorem xb56_35 : j_code jP 125 35 = some (.aload_n 0) := rfl
set_option maxRecDepth 100000 in
theorem xb56_36 : j_code jP 125 36 = some (.getfield 30) := rfl
set_option maxRecDepth 100000 in
theorem xb56_39 : j_code jP 125 39 = some (.getfield 250) := rfl
set_option maxRecDepth 100000 in
theorem xb56_42 : j_code jP 125 42 = some (.invokevirtual 104) := rfl
set_option maxRecDepth 100000 in
theorem xb56_45 : j_code jP 125 45 = some (.ireturn) := rfl
set_option maxRecDepth 100000 in
theorem xb56_46 : j_code jP 125 46 = some (.iload_n 1) := rfl
set_option maxRecDepth 100000 in
theorem xb56_47 : j_code jP 125 47 = some (.aload_n 0) := rfl
set_option maxRecDepth 100000 in
theorem xb56_48 : j_code jP 125 48 = some (.getfield 30) := rfl
set_option maxRecDepth 100000 in
theorem xb56_51 : j_code jP 125 51 = some (.getfield 250) := rfl
set_option maxRecDepth 100000 in
theorem xb56_54 : j_code jP 125 54 = some (.if_icmp .lt 9) := rfl
set_option maxRecDepth 100000 in
theorem xb56_57 : j_code jP 125 57 = some (.aload_n 0) := rfl
set_option maxRecDepth 100000 in
theorem xb56_58 : j_code jP 125 58 = some (.iconst 5) := rfl
set_option maxRecDepth 100000 in
theorem xb56_59 : j_code jP 125 59 = some (.invokevirtual 84) := rfl
set_option maxRecDepth 100000 in
theorem xb56_62 : j_code jP 125 62 = some (.ireturn) := rfl
set_option maxRecDepth 100000 in
theorem xb56_63 : j_code jP 125 63 = some (.iload_n 2) := rfl
set_option maxRecDepth 100000 in
theorem xb56_64 : j_code jP 125 64 = some (.iconst 3) := rfl
set_option maxRecDepth 100000 in
theorem xb56_65 : j_code jP 125 65 = some (.if_icmp .ne 24) := rfl
set_option maxRecDepth 100000 in
theorem xb56_68 : j_code jP 125 68 = some (.aload_n 0) := rfl
set_option maxRecDepth 100000 in
theorem xb56_69 : j_code jP 125 69 = some (.aload_n 0) := rfl
set_option maxRecDepth 100000 in
theorem xb56_70 : j_code jP 125 70 = some (.getfield 30) := rfl
set_option maxRecDepth 100000 in
theorem xb56_73 : j_code jP 125 73 = some (.iload_n 1) := rfl
set_option maxRecDepth 100000 in
theorem xb56_74 : j_code jP 125 74 = some (.invokevirtual 253) := rfl
set_option maxRecDepth 100000 in
theorem xb56_77 : j_code jP 125 77 = some (.ifCond .eq 7) := rfl
set_option maxRecDepth 100000 in
theorem xb56_80 : j_code jP 125 80 = some (.iconst 1) := rfl
set_option maxRecDepth 100000 in
theorem xb56_81 : j_code jP 125 81 = some (.goto 4) := rfl
set_option maxRecDepth 100000 in
theorem xb56_84 : j_code jP 125 84 = some (.iconst 0) := rfl
set_option maxRecDepth 100000 in
theorem xb56_85 : j_code jP 125 85 = some (.invokevirtual 104) := rfl
set_option maxRecDepth 100000 in
theorem xb56_88 : j_code jP 125 88 = some (.ireturn) := rfl
set_option maxRecDepth 100000 in
theorem xb56_89 : j_code jP 125 89 = some (.aload_n 0) := rfl
set_option maxRecDepth 100000 in
theorem xb56_90 : j_code jP 125 90 = some (.aload_n 0) := rfl
set_option maxRecDepth 100000 in
theorem xb56_91 : j_code jP 125 91 = some (.getfield 30) := rfl
set_option maxRecDepth 100000 in
theorem xb56_94 : j_code jP 125 94 = some (.getfield 256) := rfl
set_option maxRecDepth 100000 in
theorem xb56_97 : j_code jP 125 97 = some (.iconst 3) := rfl
set_option maxRecDepth 100000 in
theorem xb56_98 : j_code jP 125 98 = some (.iload_n 1) := rfl
set_option maxRecDepth 100000 in
theorem xb56_99 : j_code jP 125 99 = some (.imul) := rfl
set_option maxRecDepth 100000 in
theorem xb56_100 : j_code jP 125 100 = some (.iload_n 2) := rfl
set_option maxRecDepth 100000 in
theorem xb56_101 : j_code jP 125 101 = some (.iadd) := rfl
set_option maxRecDepth 100000 in
theorem xb56_102 : j_code jP 125 102 = some (.iaload) := rfl
set_option maxRecDepth 100000 in
theorem xb56_103 : j_code jP 125 103 = some (.invokevirtual 104) := rfl
set_option maxRecDepth 100000 in
theorem xb56_106 : j_code jP 125 106 = some (.ireturn) := rfl
set_option maxRecDepth 1000000 in
theorem xb56_ok {mi : Int32} {shu : Int32} {bus : Int32} {lks : Int32} {ph : List Int32} {sp : List Int32} {cm : List Int32} {lkd : List Int32} {sst : Int32} {x1 x2 : Int32} {d : Nat} {h h0 : J_H} (K : KN h [(0, .inl (9, [.ref 1, .ref 3, .ref 4, .ref 29, .ref 281, .ref 325, .ref 343, .ref 327, .int sst])), (4, .inl (7, [.ref 343, .int mi, .int shu, .int bus, .ref 5, .ref 6, .ref 7, .ref 8, .ref 9, .ref 10, .ref 11, .ref 12, .ref 13, .ref 14, .ref 15, .int lks, .ref 16, .ref 17, .ref 20])), (7, .inr (.inl (0, ph))), (8, .inr (.inl (0, sp))), (14, .inr (.inl (0, cm))), (16, .inr (.inl (0, lkd)))] h0) : j_V jP d 125 0 (lv_args 0 [.ref 0, .int x1, .int x2]) [] h (fun rv h' => rv = some (.int (x_qlinks lks ph sp cm lkd sst x1 x2).1) ∧ KN h' [(0, .inl (9, [.ref 1, .ref 3, .ref 4, .ref 29, .ref 281, .ref 325, .ref 343, .ref 327, .int (x_qlinks lks ph sp cm lkd sst x1 x2).2])), (4, .inl (7, [.ref 343, .int mi, .int shu, .int bus, .ref 5, .ref 6, .ref 7, .ref 8, .ref 9, .ref 10, .ref 11, .ref 12, .ref 13, .ref 14, .ref 15, .int lks, .ref 16, .ref 17, .ref 20])), (7, .inr (.inl (0, ph))), (8, .inr (.inl (0, sp))), (14, .inr (.inl (0, cm))), (16, .inr (.inl (0, lkd)))] h0) := by
  show j_V jP d 125 0 [(0, .ref 0), (1, .int x1), (2, .int x2)] [] h _
  obtain ⟨lv, elv, L⟩ : ∃ lv, lv = [(0, .ref 0), (1, .int x1), (2, .int x2)] ∧ LK lv [(0, .ref 0), (1, .int x1), (2, .int x2)] := ⟨_, rfl, LK.rf⟩
  rw [← elv]
  clear elv
  refine j_V.ldL xb56_M xb56_0 rfl (i := 1) (kd := 0) (v := .int x1) (pcJ := 1) rfl L rfl rfl rfl ?_
  refine j_V.one xb56_M xb56_1 (by decide) (pcJ := 2) (stJ := [.int (-1), .int x1]) rfl ?_
  refine j_V.icmp xb56_M xb56_2 (t := 23) rfl (fun c2_0 => ?_) (fun c2_0 => ?_)
  · replace c2_0 : x1 < (-1) := jd_lt c2_0
    refine j_V.ldL xb56_M xb56_23 rfl (i := 0) (kd := 2) (v := .ref 0) (pcJ := 24) rfl L rfl rfl rfl ?_
    refine j_V.one xb56_M xb56_24 (by decide) (pcJ := 25) (stJ := [.int 1, .ref 0]) rfl ?_
    refine j_V.cl xb56_M xb56_25 rfl (md := 3) (mj := 161) rfl (by decide) xb50_M (As := [.ref 0, .int 1]) (rest := []) (jk_spl3 (K.at rfl) rfl rfl rfl (Nat.le_of_ble_eq_true rfl) (Nat.le_of_ble_eq_true rfl)) (fun d => xb50_ok (K.fi [0] rfl rfl)) ?_
    rintro r h9 ⟨rfl, K9⟩
    generalize ez1 : (x_qrefuse sst 1) = z1 at K9 ⊢
    have K : KN h9 [(0, .inl (9, [.ref 1, .ref 3, .ref 4, .ref 29, .ref 281, .ref 325, .ref 343, .ref 327, .int (z1.2)])), (4, .inl (7, [.ref 343, .int mi, .int shu, .int bus, .ref 5, .ref 6, .ref 7, .ref 8, .ref 9, .ref 10, .ref 11, .ref 12, .ref 13, .ref 14, .ref 15, .int lks, .ref 16, .ref 17, .ref 20])), (7, .inr (.inl (0, ph))), (8, .inr (.inl (0, sp))), (14, .inr (.inl (0, cm))), (16, .inr (.inl (0, lkd)))] h0 := K.mg K9 rfl rfl
    clear K9
    show j_V jP _ 125 28 lv [.int (z1.1)] h9 _
    subst ez1
    refine j_V.ri xb56_M xb56_28 ?_
    rw [show (x_qlinks lks ph sp cm lkd sst x1 x2) = _ from ((if_pos c2_0).trans (rfl))]
    exact ⟨rfl, K⟩
  · replace c2_0 : ¬ (x1 < (-1)) := jd_ltn c2_0
    refine j_V.ldL xb56_M xb56_5 rfl (i := 2) (kd := 0) (v := .int x2) (pcJ := 6) rfl L rfl rfl rfl ?_
    refine j_V.one xb56_M xb56_6 (by decide) (pcJ := 7) (stJ := [.int 0, .int x2]) rfl ?_
    refine j_V.ldL xb56_M xb56_7 rfl (i := 1) (kd := 0) (v := .int x1) (pcJ := 8) rfl L rfl rfl rfl ?_
    refine j_V.one xb56_M xb56_8 (by decide) (pcJ := 9) (stJ := [.int (-1), .int x1, .int 0, .int x2]) rfl ?_
    refine j_V.cut (b := 17) (stJ := [.int ((if x1 = (-1) then 0 else 3) : Int32), .int 0, .int x2]) (fun v => [(0, .ref 0), (1, .int x1), (2, .int x2)]) ((if x1 = (-1) then 0 else 3) : Int32) (fun Q kk => ?_) (fun lv L => ?_)
    · refine j_V.icmp xb56_M xb56_9 (t := 16) rfl (fun c9_0 => ?_) (fun c9_0 => ?_)
      · replace c9_0 : ¬ (x1 = (-1)) := jd_ne c9_0
        refine j_V.one xb56_M xb56_16 (by decide) (pcJ := 17) (stJ := [.int 3, .int 0, .int x2]) rfl ?_
        exact Eq.subst (motive := fun z => j_V jP _ 125 17 _ (.int z :: [.int 0, .int x2]) h Q) (show ((if x1 = (-1) then 0 else 3) : Int32) = 3 from (if_neg c9_0).trans (rfl)) (kk _ L)
      · replace c9_0 : x1 = (-1) := jd_nen c9_0
        refine j_V.one xb56_M xb56_12 (by decide) (pcJ := 13) (stJ := [.int 0, .int 0, .int x2]) rfl ?_
        refine j_V.gto xb56_M xb56_13 (t := 17) rfl ?_
        exact Eq.subst (motive := fun z => j_V jP _ 125 17 _ (.int z :: [.int 0, .int x2]) h Q) (show ((if x1 = (-1) then 0 else 3) : Int32) = 0 from (if_pos c9_0).trans (rfl)) (kk _ L)
    refine j_V.cl xb56_M xb56_17 rfl (md := 2) (mj := 162) rfl (by decide) xbwisWi_M (As := [.int x2, .int 0, .int ((if x1 = (-1) then 0 else 3) : Int32)]) (rest := []) (jk_spl2 rfl rfl (Nat.le_of_ble_eq_true rfl) (Nat.le_of_ble_eq_true rfl)) (fun d => xbwisWi_ok (K.fi [] rfl rfl)) ?_
    rintro r hz ⟨rfl, ez⟩
    rw [ez]
    clear ez
    show j_V jP _ 125 20 lv [.int (x_isWithin x2 0 ((if x1 = (-1) then 0 else 3) : Int32))] h _
    refine j_V.ifc xb56_M xb56_20 (t := 29) rfl (fun c20_1 => ?_) (fun c20_1 => ?_)
    · replace c20_1 : ¬ ((x_isWithin x2 0 ((if x1 = (-1) then 0 else 3) : Int32)) = 0) := jd_ne c20_1
      refine j_V.ldL xb56_M xb56_29 rfl (i := 1) (kd := 0) (v := .int x1) (pcJ := 30) rfl L rfl rfl rfl ?_
      refine j_V.one xb56_M xb56_30 (by decide) (pcJ := 31) (stJ := [.int (-1), .int x1]) rfl ?_
      refine j_V.icmp xb56_M xb56_31 (t := 46) rfl (fun c31_2 => ?_) (fun c31_2 => ?_)
      · replace c31_2 : ¬ (x1 = (-1)) := jd_ne c31_2
        refine j_V.ldL xb56_M xb56_46 rfl (i := 1) (kd := 0) (v := .int x1) (pcJ := 47) rfl L rfl rfl rfl ?_
        refine j_V.ldL xb56_M xb56_47 rfl (i := 0) (kd := 2) (v := .ref 0) (pcJ := 48) rfl L rfl rfl rfl ?_
        refine j_V.getK xb56_M xb56_48 (ci := 9) (j := 2) rfl K rfl rfl ?_
        refine j_V.getK xb56_M xb56_51 (ci := 7) (j := 15) rfl K rfl rfl ?_
        refine j_V.icmp xb56_M xb56_54 (t := 63) rfl (fun c54_3 => ?_) (fun c54_3 => ?_)
        · replace c54_3 : x1 < lks := jd_lt c54_3
          refine j_V.ldL xb56_M xb56_63 rfl (i := 2) (kd := 0) (v := .int x2) (pcJ := 64) rfl L rfl rfl rfl ?_
          refine j_V.one xb56_M xb56_64 (by decide) (pcJ := 65) (stJ := [.int 3, .int x2]) rfl ?_
          refine j_V.icmp xb56_M xb56_65 (t := 89) rfl (fun c65_4 => ?_) (fun c65_4 => ?_)
          · replace c65_4 : ¬ (x2 = 3) := jd_ne c65_4
            refine j_V.ldL xb56_M xb56_89 rfl (i := 0) (kd := 2) (v := .ref 0) (pcJ := 90) rfl L rfl rfl rfl ?_
            refine j_V.ldL xb56_M xb56_90 rfl (i := 0) (kd := 2) (v := .ref 0) (pcJ := 91) rfl L rfl rfl rfl ?_
            refine j_V.getK xb56_M xb56_91 (ci := 9) (j := 2) rfl K rfl rfl ?_
            refine j_V.getK xb56_M xb56_94 (ci := 7) (j := 16) rfl K rfl rfl ?_
            refine j_V.one xb56_M xb56_97 (by decide) (pcJ := 98) (stJ := [.int 3, .ref 16, .ref 0]) rfl ?_
            refine j_V.ldL xb56_M xb56_98 rfl (i := 1) (kd := 0) (v := .int x1) (pcJ := 99) rfl L rfl rfl rfl ?_
            refine j_V.one xb56_M xb56_99 (by decide) (pcJ := 100) (stJ := [.int (3 * x1), .ref 16, .ref 0]) rfl ?_
            refine j_V.ldL xb56_M xb56_100 rfl (i := 2) (kd := 0) (v := .int x2) (pcJ := 101) rfl L rfl rfl rfl ?_
            refine j_V.one xb56_M xb56_101 (by decide) (pcJ := 102) (stJ := [.int ((3 * x1) + x2), .ref 16, .ref 0]) rfl ?_
            refine j_V.iaA xb56_M xb56_102 K rfl ?_
            refine j_V.cl xb56_M xb56_103 rfl (md := 3) (mj := 159) rfl (by decide) xb49_M (As := [.ref 0, .int (gA lkd ((3 * x1) + x2))]) (rest := []) (jk_spl3 (K.at rfl) rfl rfl rfl (Nat.le_of_ble_eq_true rfl) (Nat.le_of_ble_eq_true rfl)) (fun d => xb49_ok (K.fi [0] rfl rfl)) ?_
            rintro r h9 ⟨rfl, K9⟩
            generalize ez2 : (x_qanswer sst (gA lkd ((3 * x1) + x2))) = z2 at K9 ⊢
            have K : KN h9 [(0, .inl (9, [.ref 1, .ref 3, .ref 4, .ref 29, .ref 281, .ref 325, .ref 343, .ref 327, .int (z2.2)])), (4, .inl (7, [.ref 343, .int mi, .int shu, .int bus, .ref 5, .ref 6, .ref 7, .ref 8, .ref 9, .ref 10, .ref 11, .ref 12, .ref 13, .ref 14, .ref 15, .int lks, .ref 16, .ref 17, .ref 20])), (7, .inr (.inl (0, ph))), (8, .inr (.inl (0, sp))), (14, .inr (.inl (0, cm))), (16, .inr (.inl (0, lkd)))] h0 := K.mg K9 rfl rfl
            clear K9
            show j_V jP _ 125 106 lv [.int (z2.1)] h9 _
            subst ez2
            refine j_V.ri xb56_M xb56_106 ?_
            rw [show (x_qlinks lks ph sp cm lkd sst x1 x2) = _ from ((if_neg c2_0).trans ((if_neg c20_1).trans ((if_neg c31_2).trans ((if_pos c54_3).trans ((if_neg c65_4).trans (rfl))))))]
            exact ⟨rfl, K⟩
          · replace c65_4 : x2 = 3 := jd_nen c65_4
            refine j_V.ldL xb56_M xb56_68 rfl (i := 0) (kd := 2) (v := .ref 0) (pcJ := 69) rfl L rfl rfl rfl ?_
            refine j_V.ldL xb56_M xb56_69 rfl (i := 0) (kd := 2) (v := .ref 0) (pcJ := 70) rfl L rfl rfl rfl ?_
            refine j_V.getK xb56_M xb56_70 (ci := 9) (j := 2) rfl K rfl rfl ?_
            refine j_V.ldL xb56_M xb56_73 rfl (i := 1) (kd := 0) (v := .int x1) (pcJ := 74) rfl L rfl rfl rfl ?_
            refine j_V.cl xb56_M xb56_74 rfl (md := 3) (mj := 88) rfl (by decide) xb24_M (As := [.ref 4, .int x1]) (rest := [.ref 0]) (jk_spl3 (K.at rfl) rfl rfl rfl (Nat.le_of_ble_eq_true rfl) (Nat.le_of_ble_eq_true rfl)) (fun d => xb24_ok (K.fi [4, 7, 8, 14, 16] rfl rfl)) ?_
            rintro r hz ⟨rfl, ez⟩
            rw [ez]
            clear ez
            show j_V jP _ 125 77 lv [.int (x_linkKeeps ph sp cm lkd x1), .ref 0] h _
            refine j_V.cut (b := 85) (stJ := [.int ((if (x_linkKeeps ph sp cm lkd x1) = 0 then 0 else 1) : Int32), .ref 0]) (fun v => [(0, .ref 0), (1, .int x1), (2, .int x2)]) ((if (x_linkKeeps ph sp cm lkd x1) = 0 then 0 else 1) : Int32) (fun Q kk => ?_) (fun lv L => ?_)
            · refine j_V.ifc xb56_M xb56_77 (t := 84) rfl (fun c77_0 => ?_) (fun c77_0 => ?_)
              · replace c77_0 : (x_linkKeeps ph sp cm lkd x1) = 0 := jd_eq c77_0
                refine j_V.one xb56_M xb56_84 (by decide) (pcJ := 85) (stJ := [.int 0, .ref 0]) rfl ?_
                exact Eq.subst (motive := fun z => j_V jP _ 125 85 _ (.int z :: [.ref 0]) h Q) (show ((if (x_linkKeeps ph sp cm lkd x1) = 0 then 0 else 1) : Int32) = 0 from (if_pos c77_0).trans (rfl)) (kk _ L)
              · replace c77_0 : ¬ ((x_linkKeeps ph sp cm lkd x1) = 0) := jd_eqn c77_0
                refine j_V.one xb56_M xb56_80 (by decide) (pcJ := 81) (stJ := [.int 1, .ref 0]) rfl ?_
                refine j_V.gto xb56_M xb56_81 (t := 85) rfl ?_
                exact Eq.subst (motive := fun z => j_V jP _ 125 85 _ (.int z :: [.ref 0]) h Q) (show ((if (x_linkKeeps ph sp cm lkd x1) = 0 then 0 else 1) : Int32) = 1 from (if_neg c77_0).trans (rfl)) (kk _ L)
            refine j_V.cl xb56_M xb56_85 rfl (md := 3) (mj := 159) rfl (by decide) xb49_M (As := [.ref 0, .int ((if (x_linkKeeps ph sp cm lkd x1) = 0 then 0 else 1) : Int32)]) (rest := []) (jk_spl3 (K.at rfl) rfl rfl rfl (Nat.le_of_ble_eq_true rfl) (Nat.le_of_ble_eq_true rfl)) (fun d => xb49_ok (K.fi [0] rfl rfl)) ?_
            rintro r h9 ⟨rfl, K9⟩
            generalize ez3 : (x_qanswer sst ((if (x_linkKeeps ph sp cm lkd x1) = 0 then 0 else 1) : Int32)) = z3 at K9 ⊢
            have K : KN h9 [(0, .inl (9, [.ref 1, .ref 3, .ref 4, .ref 29, .ref 281, .ref 325, .ref 343, .ref 327, .int (z3.2)])), (4, .inl (7, [.ref 343, .int mi, .int shu, .int bus, .ref 5, .ref 6, .ref 7, .ref 8, .ref 9, .ref 10, .ref 11, .ref 12, .ref 13, .ref 14, .ref 15, .int lks, .ref 16, .ref 17, .ref 20])), (7, .inr (.inl (0, ph))), (8, .inr (.inl (0, sp))), (14, .inr (.inl (0, cm))), (16, .inr (.inl (0, lkd)))] h0 := K.mg K9 rfl rfl
            clear K9
            show j_V jP _ 125 88 lv [.int (z3.1)] h9 _
            subst ez3
            refine j_V.ri xb56_M xb56_88 ?_
            rw [show (x_qlinks lks ph sp cm lkd sst x1 x2) = _ from ((if_neg c2_0).trans ((if_neg c20_1).trans ((if_neg c31_2).trans ((if_pos c54_3).trans ((if_pos c65_4).trans (rfl))))))]
            exact ⟨rfl, K⟩
        · replace c54_3 : ¬ (x1 < lks) := jd_ltn c54_3
          refine j_V.ldL xb56_M xb56_57 rfl (i := 0) (kd := 2) (v := .ref 0) (pcJ := 58) rfl L rfl rfl rfl ?_
          refine j_V.one xb56_M xb56_58 (by decide) (pcJ := 59) (stJ := [.int 5, .ref 0]) rfl ?_
          refine j_V.cl xb56_M xb56_59 rfl (md := 3) (mj := 161) rfl (by decide) xb50_M (As := [.ref 0, .int 5]) (rest := []) (jk_spl3 (K.at rfl) rfl rfl rfl (Nat.le_of_ble_eq_true rfl) (Nat.le_of_ble_eq_true rfl)) (fun d => xb50_ok (K.fi [0] rfl rfl)) ?_
          rintro r h9 ⟨rfl, K9⟩
          generalize ez4 : (x_qrefuse sst 5) = z4 at K9 ⊢
          have K : KN h9 [(0, .inl (9, [.ref 1, .ref 3, .ref 4, .ref 29, .ref 281, .ref 325, .ref 343, .ref 327, .int (z4.2)])), (4, .inl (7, [.ref 343, .int mi, .int shu, .int bus, .ref 5, .ref 6, .ref 7, .ref 8, .ref 9, .ref 10, .ref 11, .ref 12, .ref 13, .ref 14, .ref 15, .int lks, .ref 16, .ref 17, .ref 20])), (7, .inr (.inl (0, ph))), (8, .inr (.inl (0, sp))), (14, .inr (.inl (0, cm))), (16, .inr (.inl (0, lkd)))] h0 := K.mg K9 rfl rfl
          clear K9
          show j_V jP _ 125 62 lv [.int (z4.1)] h9 _
          subst ez4
          refine j_V.ri xb56_M xb56_62 ?_
          rw [show (x_qlinks lks ph sp cm lkd sst x1 x2) = _ from ((if_neg c2_0).trans ((if_neg c20_1).trans ((if_neg c31_2).trans ((if_neg c54_3).trans (rfl)))))]
          exact ⟨rfl, K⟩
      · replace c31_2 : x1 = (-1) := jd_nen c31_2
        refine j_V.ldL xb56_M xb56_34 rfl (i := 0) (kd := 2) (v := .ref 0) (pcJ := 35) rfl L rfl rfl rfl ?_
        refine j_V.ldL xb56_M xb56_35 rfl (i := 0) (kd := 2) (v := .ref 0) (pcJ := 36) rfl L rfl rfl rfl ?_
        refine j_V.getK xb56_M xb56_36 (ci := 9) (j := 2) rfl K rfl rfl ?_
        refine j_V.getK xb56_M xb56_39 (ci := 7) (j := 15) rfl K rfl rfl ?_
        refine j_V.cl xb56_M xb56_42 rfl (md := 3) (mj := 159) rfl (by decide) xb49_M (As := [.ref 0, .int lks]) (rest := []) (jk_spl3 (K.at rfl) rfl rfl rfl (Nat.le_of_ble_eq_true rfl) (Nat.le_of_ble_eq_true rfl)) (fun d => xb49_ok (K.fi [0] rfl rfl)) ?_
        rintro r h9 ⟨rfl, K9⟩
        generalize ez5 : (x_qanswer sst lks) = z5 at K9 ⊢
        have K : KN h9 [(0, .inl (9, [.ref 1, .ref 3, .ref 4, .ref 29, .ref 281, .ref 325, .ref 343, .ref 327, .int (z5.2)])), (4, .inl (7, [.ref 343, .int mi, .int shu, .int bus, .ref 5, .ref 6, .ref 7, .ref 8, .ref 9, .ref 10, .ref 11, .ref 12, .ref 13, .ref 14, .ref 15, .int lks, .ref 16, .ref 17, .ref 20])), (7, .inr (.inl (0, ph))), (8, .inr (.inl (0, sp))), (14, .inr (.inl (0, cm))), (16, .inr (.inl (0, lkd)))] h0 := K.mg K9 rfl rfl
        clear K9
        show j_V jP _ 125 45 lv [.int (z5.1)] h9 _
        subst ez5
        refine j_V.ri xb56_M xb56_45 ?_
        rw [show (x_qlinks lks ph sp cm lkd sst x1 x2) = _ from ((if_neg c2_0).trans ((if_neg c20_1).trans ((if_pos c31_2).trans (rfl))))]
        exact ⟨rfl, K⟩
    · replace c20_1 : (x_isWithin x2 0 ((if x1 = (-1) then 0 else 3) : Int32)) = 0 := jd_nen c20_1
      refine j_V.ldL xb56_M xb56_23 rfl (i := 0) (kd := 2) (v := .ref 0) (pcJ := 24) rfl L rfl rfl rfl ?_
      refine j_V.one xb56_M xb56_24 (by decide) (pcJ := 25) (stJ := [.int 1, .ref 0]) rfl ?_
      refine j_V.cl xb56_M xb56_25 rfl (md := 3) (mj := 161) rfl (by decide) xb50_M (As := [.ref 0, .int 1]) (rest := []) (jk_spl3 (K.at rfl) rfl rfl rfl (Nat.le_of_ble_eq_true rfl) (Nat.le_of_ble_eq_true rfl)) (fun d => xb50_ok (K.fi [0] rfl rfl)) ?_
      rintro r h9 ⟨rfl, K9⟩
      generalize ez6 : (x_qrefuse sst 1) = z6 at K9 ⊢
      have K : KN h9 [(0, .inl (9, [.ref 1, .ref 3, .ref 4, .ref 29, .ref 281, .ref 325, .ref 343, .ref 327, .int (z6.2)])), (4, .inl (7, [.ref 343, .int mi, .int shu, .int bus, .ref 5, .ref 6, .ref 7, .ref 8, .ref 9, .ref 10, .ref 11, .ref 12, .ref 13, .ref 14, .ref 15, .int lks, .ref 16, .ref 17, .ref 20])), (7, .inr (.inl (0, ph))), (8, .inr (.inl (0, sp))), (14, .inr (.inl (0, cm))), (16, .inr (.inl (0, lkd)))] h0 := K.mg K9 rfl rfl
      clear K9
      show j_V jP _ 125 28 lv [.int (z6.1)] h9 _
      subst ez6
      refine j_V.ri xb56_M xb56_28 ?_
      rw [show (x_qlinks lks ph sp cm lkd sst x1 x2) = _ from ((if_neg c2_0).trans ((if_pos c20_1).trans (rfl)))]
      exact ⟨rfl, K⟩
set_option maxRecDepth 100000 in
theorem xb57_M : j_meth jP 126 = some (yX9_blocks, cX9_blocks, 2, (some .int), 1, false, 9) := rfl
set_option maxRecDepth 100000 in
theorem xb57_0 : j_code jP 126 0 = some (.aload_n 0) := rfl
set_option maxRecDepth 100000 in
theorem xb57_1 : j_code jP 126 1 = some (.iload_n 1) := rfl
set_option maxRecDepth 100000 in
theorem xb57_2 : j_code jP 126 2 = some (.invokevirtual 184) := rfl
set_option maxRecDepth 100000 in
theorem xb57_5 : j_code jP 126 5 = some (.ifCond .ne 9) := rfl
set_option maxRecDepth 100000 in
theorem xb57_8 : j_code jP 126 8 = some (.aload_n 0) := rfl
set_option maxRecDepth 100000 in
theorem xb57_9 : j_code jP 126 9 = some (.iconst 2) := rfl
set_option maxRecDepth 100000 in
theorem xb57_10 : j_code jP 126 10 = some (.invokevirtual 84) := rfl
set_option maxRecDepth 100000 in
theorem xb57_13 : j_code jP 126 13 = some (.ireturn) := rfl
set_option maxRecDepth 100000 in
theorem xb57_14 : j_code jP 126 14 = some (.aload_n 0) := rfl
set_option maxRecDepth 100000 in
theorem xb57_15 : j_code jP 126 15 = some (.getfield 30) := rfl
set_option maxRecDepth 100000 in
theorem xb57_18 : j_code jP 126 18 = some (.getfield 205) := rfl
set_option maxRecDepth 100000 in
theorem xb57_21 : j_code jP 126 21 = some (.iload_n 1) := rfl
set_option maxRecDepth 100000 in
theorem xb57_22 : j_code jP 126 22 = some (.iaload) := rfl
set_option maxRecDepth 100000 in
theorem xb57_23 : j_code jP 126 23 = some (.iconst 1) := rfl
set_option maxRecDepth 100000 in
theorem xb57_24 : j_code jP 126 24 = some (.if_icmp .ne 14) := rfl
set_option maxRecDepth 100000 in
theorem xb57_27 : j_code jP 126 27 = some (.aload_n 0) := rfl
set_option maxRecDepth 100000 in
theorem xb57_28 : j_code jP 126 28 = some (.getfield 30) := rfl
set_option maxRecDepth 100000 in
theorem xb57_31 : j_code jP 126 31 = some (.iload_n 1) := rfl
set_option maxRecDepth 100000 in
theorem xb57_32 : j_code jP 126 32 = some (.invokevirtual 259) := rfl
set_option maxRecDepth 100000 in
theorem xb57_35 : j_code jP 126 35 = some (.ifCond .eq 9) := rfl
set_option maxRecDepth 100000 in
theorem xb57_38 : j_code jP 126 38 = some (.aload_n 0) := rfl
set_option maxRecDepth 100000 in
theorem xb57_39 : j_code jP 126 39 = some (.iconst 5) := rfl
set_option maxRecDepth 100000 in
theorem xb57_40 : j_code jP 126 40 = some (.invokevirtual 84) := rfl
set_option maxRecDepth 100000 in
theorem xb57_43 : j_code jP 126 43 = some (.ireturn) := rfl
set_option maxRecDepth 100000 in
theorem xb57_44 : j_code jP 126 44 = some (.aload_n 0) := rfl
set_option maxRecDepth 100000 in
theorem xb57_45 : j_code jP 126 45 = some (.aload_n 0) := rfl
set_option maxRecDepth 100000 in
theorem xb57_46 : j_code jP 126 46 = some (.getfield 30) := rfl
set_option maxRecDepth 100000 in
theorem xb57_49 : j_code jP 126 49 = some (.iload_n 1) := rfl
set_option maxRecDepth 100000 in
theorem xb57_50 : j_code jP 126 50 = some (.invokevirtual 262) := rfl
set_option maxRecDepth 100000 in
theorem xb57_53 : j_code jP 126 53 = some (.invokevirtual 104) := rfl
set_option maxRecDepth 100000 in
theorem xb57_56 : j_code jP 126 56 = some (.ireturn) := rfl
set_option maxRecDepth 1000000 in
theorem xb57_ok {mi : Int32} {shu : Int32} {bus : Int32} {lks : Int32} {ph : List Int32} {sp : List Int32} {ce : List Int32} {ri : List Int32} {ns : Int32} {nt : Int32} {cel : Int32} {tra : List Int32} {len : List Int32} {frm : List Int32} {tto : List Int32} {fit : List Int32} {sst : Int32} {x1 : Int32} {d : Nat} {h h0 : J_H} (K : KN h [(0, .inl (9, [.ref 1, .ref 3, .ref 4, .ref 29, .ref 281, .ref 325, .ref 343, .ref 327, .int sst])), (4, .inl (7, [.ref 343, .int mi, .int shu, .int bus, .ref 5, .ref 6, .ref 7, .ref 8, .ref 9, .ref 10, .ref 11, .ref 12, .ref 13, .ref 14, .ref 15, .int lks, .ref 16, .ref 17, .ref 20])), (7, .inr (.inl (0, ph))), (8, .inr (.inl (0, sp))), (9, .inr (.inl (0, ce))), (12, .inr (.inl (0, ri))), (343, .inl (2, [.int ns, .ref 344, .ref 345, .ref 346, .ref 347, .int nt, .ref 348, .ref 349, .ref 350, .ref 351, .ref 352, .ref 353, .ref 354, .int cel, .ref 355, .ref 356, .ref 357, .ref 358])), (346, .inr (.inl (0, tra))), (347, .inr (.inl (0, len))), (350, .inr (.inl (0, frm))), (351, .inr (.inl (0, tto))), (355, .inr (.inl (0, fit)))] h0) : j_V jP d 126 0 (lv_args 0 [.ref 0, .int x1]) [] h (fun rv h' => rv = some (.int (x_qblocks shu bus ph sp ce ri nt tra len frm tto fit sst x1).1) ∧ KN h' [(0, .inl (9, [.ref 1, .ref 3, .ref 4, .ref 29, .ref 281, .ref 325, .ref 343, .ref 327, .int (x_qblocks shu bus ph sp ce ri nt tra len frm tto fit sst x1).2])), (4, .inl (7, [.ref 343, .int mi, .int shu, .int bus, .ref 5, .ref 6, .ref 7, .ref 8, .ref 9, .ref 10, .ref 11, .ref 12, .ref 13, .ref 14, .ref 15, .int lks, .ref 16, .ref 17, .ref 20])), (7, .inr (.inl (0, ph))), (8, .inr (.inl (0, sp))), (9, .inr (.inl (0, ce))), (12, .inr (.inl (0, ri))), (343, .inl (2, [.int ns, .ref 344, .ref 345, .ref 346, .ref 347, .int nt, .ref 348, .ref 349, .ref 350, .ref 351, .ref 352, .ref 353, .ref 354, .int cel, .ref 355, .ref 356, .ref 357, .ref 358])), (346, .inr (.inl (0, tra))), (347, .inr (.inl (0, len))), (350, .inr (.inl (0, frm))), (351, .inr (.inl (0, tto))), (355, .inr (.inl (0, fit)))] h0) := by
  show j_V jP d 126 0 [(0, .ref 0), (1, .int x1)] [] h _
  obtain ⟨lv, elv, L⟩ : ∃ lv, lv = [(0, .ref 0), (1, .int x1)] ∧ LK lv [(0, .ref 0), (1, .int x1)] := ⟨_, rfl, LK.rf⟩
  rw [← elv]
  clear elv
  refine j_V.ldL xb57_M xb57_0 rfl (i := 0) (kd := 2) (v := .ref 0) (pcJ := 1) rfl L rfl rfl rfl ?_
  refine j_V.ldL xb57_M xb57_1 rfl (i := 1) (kd := 0) (v := .int x1) (pcJ := 2) rfl L rfl rfl rfl ?_
  refine j_V.cl xb57_M xb57_2 rfl (md := 3) (mj := 165) rfl (by decide) xb47_M (As := [.ref 0, .int x1]) (rest := []) (jk_spl3 (K.at rfl) rfl rfl rfl (Nat.le_of_ble_eq_true rfl) (Nat.le_of_ble_eq_true rfl)) (fun d => xb47_ok (K.fi [0, 343] rfl rfl)) ?_
  rintro r hz ⟨rfl, ez⟩
  rw [ez]
  clear ez
  show j_V jP _ 126 5 lv [.int (x_isTrain nt x1)] h _
  refine j_V.ifc xb57_M xb57_5 (t := 14) rfl (fun c5_0 => ?_) (fun c5_0 => ?_)
  · replace c5_0 : ¬ ((x_isTrain nt x1) = 0) := jd_ne c5_0
    refine j_V.ldL xb57_M xb57_14 rfl (i := 0) (kd := 2) (v := .ref 0) (pcJ := 15) rfl L rfl rfl rfl ?_
    refine j_V.getK xb57_M xb57_15 (ci := 9) (j := 2) rfl K rfl rfl ?_
    refine j_V.getK xb57_M xb57_18 (ci := 7) (j := 6) rfl K rfl rfl ?_
    refine j_V.ldL xb57_M xb57_21 rfl (i := 1) (kd := 0) (v := .int x1) (pcJ := 22) rfl L rfl rfl rfl ?_
    refine j_V.iaA xb57_M xb57_22 K rfl ?_
    refine j_V.one xb57_M xb57_23 (by decide) (pcJ := 24) (stJ := [.int 1, .int (gA ph x1)]) rfl ?_
    refine j_V.icmp xb57_M xb57_24 (t := 38) rfl (fun c24_1 => ?_) (fun c24_1 => ?_)
    · replace c24_1 : ¬ ((gA ph x1) = 1) := jd_ne c24_1
      refine j_V.ldL xb57_M xb57_38 rfl (i := 0) (kd := 2) (v := .ref 0) (pcJ := 39) rfl L rfl rfl rfl ?_
      refine j_V.one xb57_M xb57_39 (by decide) (pcJ := 40) (stJ := [.int 5, .ref 0]) rfl ?_
      refine j_V.cl xb57_M xb57_40 rfl (md := 3) (mj := 161) rfl (by decide) xb50_M (As := [.ref 0, .int 5]) (rest := []) (jk_spl3 (K.at rfl) rfl rfl rfl (Nat.le_of_ble_eq_true rfl) (Nat.le_of_ble_eq_true rfl)) (fun d => xb50_ok (K.fi [0] rfl rfl)) ?_
      rintro r h9 ⟨rfl, K9⟩
      generalize ez1 : (x_qrefuse sst 5) = z1 at K9 ⊢
      have K : KN h9 [(0, .inl (9, [.ref 1, .ref 3, .ref 4, .ref 29, .ref 281, .ref 325, .ref 343, .ref 327, .int (z1.2)])), (4, .inl (7, [.ref 343, .int mi, .int shu, .int bus, .ref 5, .ref 6, .ref 7, .ref 8, .ref 9, .ref 10, .ref 11, .ref 12, .ref 13, .ref 14, .ref 15, .int lks, .ref 16, .ref 17, .ref 20])), (7, .inr (.inl (0, ph))), (8, .inr (.inl (0, sp))), (9, .inr (.inl (0, ce))), (12, .inr (.inl (0, ri))), (343, .inl (2, [.int ns, .ref 344, .ref 345, .ref 346, .ref 347, .int nt, .ref 348, .ref 349, .ref 350, .ref 351, .ref 352, .ref 353, .ref 354, .int cel, .ref 355, .ref 356, .ref 357, .ref 358])), (346, .inr (.inl (0, tra))), (347, .inr (.inl (0, len))), (350, .inr (.inl (0, frm))), (351, .inr (.inl (0, tto))), (355, .inr (.inl (0, fit)))] h0 := K.mg K9 rfl rfl
      clear K9
      show j_V jP _ 126 43 lv [.int (z1.1)] h9 _
      subst ez1
      refine j_V.ri xb57_M xb57_43 ?_
      rw [show (x_qblocks shu bus ph sp ce ri nt tra len frm tto fit sst x1) = _ from ((if_neg c5_0).trans ((if_neg c24_1).trans (rfl)))]
      exact ⟨rfl, K⟩
    · replace c24_1 : (gA ph x1) = 1 := jd_nen c24_1
      refine j_V.ldL xb57_M xb57_27 rfl (i := 0) (kd := 2) (v := .ref 0) (pcJ := 28) rfl L rfl rfl rfl ?_
      refine j_V.getK xb57_M xb57_28 (ci := 9) (j := 2) rfl K rfl rfl ?_
      refine j_V.ldL xb57_M xb57_31 rfl (i := 1) (kd := 0) (v := .int x1) (pcJ := 32) rfl L rfl rfl rfl ?_
      refine j_V.cl xb57_M xb57_32 rfl (md := 3) (mj := 79) rfl (by decide) xb20_M (As := [.ref 4, .int x1]) (rest := []) (jk_spl3 (K.at rfl) rfl rfl rfl (Nat.le_of_ble_eq_true rfl) (Nat.le_of_ble_eq_true rfl)) (fun d => xb20_ok (K.fi [4, 7, 8, 12, 343, 347, 350, 351, 355] rfl rfl)) ?_
      rintro r hz ⟨rfl, ez⟩
      rw [ez]
      clear ez
      show j_V jP _ 126 35 lv [.int (x_canMove shu bus ph sp ri len frm tto fit x1)] h _
      refine j_V.ifc xb57_M xb57_35 (t := 44) rfl (fun c35_2 => ?_) (fun c35_2 => ?_)
      · replace c35_2 : (x_canMove shu bus ph sp ri len frm tto fit x1) = 0 := jd_eq c35_2
        refine j_V.ldL xb57_M xb57_44 rfl (i := 0) (kd := 2) (v := .ref 0) (pcJ := 45) rfl L rfl rfl rfl ?_
        refine j_V.ldL xb57_M xb57_45 rfl (i := 0) (kd := 2) (v := .ref 0) (pcJ := 46) rfl L rfl rfl rfl ?_
        refine j_V.getK xb57_M xb57_46 (ci := 9) (j := 2) rfl K rfl rfl ?_
        refine j_V.ldL xb57_M xb57_49 rfl (i := 1) (kd := 0) (v := .int x1) (pcJ := 50) rfl L rfl rfl rfl ?_
        refine j_V.cl xb57_M xb57_50 rfl (md := 3) (mj := 81) rfl (by decide) xb22_M (As := [.ref 4, .int x1]) (rest := [.ref 0]) (jk_spl3 (K.at rfl) rfl rfl rfl (Nat.le_of_ble_eq_true rfl) (Nat.le_of_ble_eq_true rfl)) (fun d => xb22_ok (K.fi [4, 7, 8, 9, 12, 343, 346, 347, 350, 351, 355] rfl rfl)) ?_
        rintro r hz ⟨rfl, ez⟩
        rw [ez]
        clear ez
        show j_V jP _ 126 53 lv [.int (x_waitsFor shu bus ph sp ce ri nt tra len frm tto fit x1), .ref 0] h _
        refine j_V.cl xb57_M xb57_53 rfl (md := 3) (mj := 159) rfl (by decide) xb49_M (As := [.ref 0, .int (x_waitsFor shu bus ph sp ce ri nt tra len frm tto fit x1)]) (rest := []) (jk_spl3 (K.at rfl) rfl rfl rfl (Nat.le_of_ble_eq_true rfl) (Nat.le_of_ble_eq_true rfl)) (fun d => xb49_ok (K.fi [0] rfl rfl)) ?_
        rintro r h9 ⟨rfl, K9⟩
        generalize ez2 : (x_qanswer sst (x_waitsFor shu bus ph sp ce ri nt tra len frm tto fit x1)) = z2 at K9 ⊢
        have K : KN h9 [(0, .inl (9, [.ref 1, .ref 3, .ref 4, .ref 29, .ref 281, .ref 325, .ref 343, .ref 327, .int (z2.2)])), (4, .inl (7, [.ref 343, .int mi, .int shu, .int bus, .ref 5, .ref 6, .ref 7, .ref 8, .ref 9, .ref 10, .ref 11, .ref 12, .ref 13, .ref 14, .ref 15, .int lks, .ref 16, .ref 17, .ref 20])), (7, .inr (.inl (0, ph))), (8, .inr (.inl (0, sp))), (9, .inr (.inl (0, ce))), (12, .inr (.inl (0, ri))), (343, .inl (2, [.int ns, .ref 344, .ref 345, .ref 346, .ref 347, .int nt, .ref 348, .ref 349, .ref 350, .ref 351, .ref 352, .ref 353, .ref 354, .int cel, .ref 355, .ref 356, .ref 357, .ref 358])), (346, .inr (.inl (0, tra))), (347, .inr (.inl (0, len))), (350, .inr (.inl (0, frm))), (351, .inr (.inl (0, tto))), (355, .inr (.inl (0, fit)))] h0 := K.mg K9 rfl rfl
        clear K9
        show j_V jP _ 126 56 lv [.int (z2.1)] h9 _
        subst ez2
        refine j_V.ri xb57_M xb57_56 ?_
        rw [show (x_qblocks shu bus ph sp ce ri nt tra len frm tto fit sst x1) = _ from ((if_neg c5_0).trans ((if_pos c24_1).trans ((if_pos c35_2).trans (rfl))))]
        exact ⟨rfl, K⟩
      · replace c35_2 : ¬ ((x_canMove shu bus ph sp ri len frm tto fit x1) = 0) := jd_eqn c35_2
        refine j_V.ldL xb57_M xb57_38 rfl (i := 0) (kd := 2) (v := .ref 0) (pcJ := 39) rfl L rfl rfl rfl ?_
        refine j_V.one xb57_M xb57_39 (by decide) (pcJ := 40) (stJ := [.int 5, .ref 0]) rfl ?_
        refine j_V.cl xb57_M xb57_40 rfl (md := 3) (mj := 161) rfl (by decide) xb50_M (As := [.ref 0, .int 5]) (rest := []) (jk_spl3 (K.at rfl) rfl rfl rfl (Nat.le_of_ble_eq_true rfl) (Nat.le_of_ble_eq_true rfl)) (fun d => xb50_ok (K.fi [0] rfl rfl)) ?_
        rintro r h9 ⟨rfl, K9⟩
        generalize ez3 : (x_qrefuse sst 5) = z3 at K9 ⊢
        have K : KN h9 [(0, .inl (9, [.ref 1, .ref 3, .ref 4, .ref 29, .ref 281, .ref 325, .ref 343, .ref 327, .int (z3.2)])), (4, .inl (7, [.ref 343, .int mi, .int shu, .int bus, .ref 5, .ref 6, .ref 7, .ref 8, .ref 9, .ref 10, .ref 11, .ref 12, .ref 13, .ref 14, .ref 15, .int lks, .ref 16, .ref 17, .ref 20])), (7, .inr (.inl (0, ph))), (8, .inr (.inl (0, sp))), (9, .inr (.inl (0, ce))), (12, .inr (.inl (0, ri))), (343, .inl (2, [.int ns, .ref 344, .ref 345, .ref 346, .ref 347, .int nt, .ref 348, .ref 349, .ref 350, .ref 351, .ref 352, .ref 353, .ref 354, .int cel, .ref 355, .ref 356, .ref 357, .ref 358])), (346, .inr (.inl (0, tra))), (347, .inr (.inl (0, len))), (350, .inr (.inl (0, frm))), (351, .inr (.inl (0, tto))), (355, .inr (.inl (0, fit)))] h0 := K.mg K9 rfl rfl
        clear K9
        show j_V jP _ 126 43 lv [.int (z3.1)] h9 _
        subst ez3
        refine j_V.ri xb57_M xb57_43 ?_
        rw [show (x_qblocks shu bus ph sp ce ri nt tra len frm tto fit sst x1) = _ from ((if_neg c5_0).trans ((if_pos c24_1).trans ((if_neg c35_2).trans (rfl))))]
        exact ⟨rfl, K⟩
  · replace c5_0 : (x_isTrain nt x1) = 0 := jd_nen c5_0
    refine j_V.ldL xb57_M xb57_8 rfl (i := 0) (kd := 2) (v := .ref 0) (pcJ := 9) rfl L rfl rfl rfl ?_
    refine j_V.one xb57_M xb57_9 (by decide) (pcJ := 10) (stJ := [.int 2, .ref 0]) rfl ?_
    refine j_V.cl xb57_M xb57_10 rfl (md := 3) (mj := 161) rfl (by decide) xb50_M (As := [.ref 0, .int 2]) (rest := []) (jk_spl3 (K.at rfl) rfl rfl rfl (Nat.le_of_ble_eq_true rfl) (Nat.le_of_ble_eq_true rfl)) (fun d => xb50_ok (K.fi [0] rfl rfl)) ?_
    rintro r h9 ⟨rfl, K9⟩
    generalize ez4 : (x_qrefuse sst 2) = z4 at K9 ⊢
    have K : KN h9 [(0, .inl (9, [.ref 1, .ref 3, .ref 4, .ref 29, .ref 281, .ref 325, .ref 343, .ref 327, .int (z4.2)])), (4, .inl (7, [.ref 343, .int mi, .int shu, .int bus, .ref 5, .ref 6, .ref 7, .ref 8, .ref 9, .ref 10, .ref 11, .ref 12, .ref 13, .ref 14, .ref 15, .int lks, .ref 16, .ref 17, .ref 20])), (7, .inr (.inl (0, ph))), (8, .inr (.inl (0, sp))), (9, .inr (.inl (0, ce))), (12, .inr (.inl (0, ri))), (343, .inl (2, [.int ns, .ref 344, .ref 345, .ref 346, .ref 347, .int nt, .ref 348, .ref 349, .ref 350, .ref 351, .ref 352, .ref 353, .ref 354, .int cel, .ref 355, .ref 356, .ref 357, .ref 358])), (346, .inr (.inl (0, tra))), (347, .inr (.inl (0, len))), (350, .inr (.inl (0, frm))), (351, .inr (.inl (0, tto))), (355, .inr (.inl (0, fit)))] h0 := K.mg K9 rfl rfl
    clear K9
    show j_V jP _ 126 13 lv [.int (z4.1)] h9 _
    subst ez4
    refine j_V.ri xb57_M xb57_13 ?_
    rw [show (x_qblocks shu bus ph sp ce ri nt tra len frm tto fit sst x1) = _ from ((if_pos c5_0).trans (rfl))]
    exact ⟨rfl, K⟩
set_option maxRecDepth 100000 in
theorem xb58_M : j_meth jP 128 = some (yX9_section, cX9_section, 2, (some .int), 1, false, 9) := rfl
set_option maxRecDepth 100000 in
theorem xb58_0 : j_code jP 128 0 = some (.aload_n 0) := rfl
set_option maxRecDepth 100000 in
theorem xb58_1 : j_code jP 128 1 = some (.iload_n 1) := rfl
set_option maxRecDepth 100000 in
theorem xb58_2 : j_code jP 128 2 = some (.invokevirtual 268) := rfl
set_option maxRecDepth 100000 in
theorem xb58_5 : j_code jP 128 5 = some (.ifCond .ne 9) := rfl
set_option maxRecDepth 100000 in
theorem xb58_8 : j_code jP 128 8 = some (.aload_n 0) := rfl
set_option maxRecDepth 100000 in
theorem xb58_9 : j_code jP 128 9 = some (.iconst 2) := rfl
set_option maxRecDepth 100000 in
theorem xb58_10 : j_code jP 128 10 = some (.invokevirtual 84) := rfl
set_option maxRecDepth 100000 in
theorem xb58_13 : j_code jP 128 13 = some (.ireturn) := rfl
set_option maxRecDepth 100000 in
theorem xb58_14 : j_code jP 128 14 = some (.aload_n 0) := rfl
set_option maxRecDepth 100000 in
theorem xb58_15 : j_code jP 128 15 = some (.aload_n 0) := rfl
set_option maxRecDepth 100000 in
theorem xb58_16 : j_code jP 128 16 = some (.getfield 30) := rfl
set_option maxRecDepth 100000 in
theorem xb58_19 : j_code jP 128 19 = some (.getfield 271) := rfl
set_option maxRecDepth 100000 in
theorem xb58_22 : j_code jP 128 22 = some (.iload_n 1) := rfl
set_option maxRecDepth 100000 in
theorem xb58_23 : j_code jP 128 23 = some (.iaload) := rfl
set_option maxRecDepth 100000 in
theorem xb58_24 : j_code jP 128 24 = some (.invokevirtual 178) := rfl
set_option maxRecDepth 100000 in
theorem xb58_27 : j_code jP 128 27 = some (.ireturn) := rfl
set_option maxRecDepth 1000000 in
theorem xb58_ok {mi : Int32} {shu : Int32} {bus : Int32} {lks : Int32} {ri : List Int32} {ns : Int32} {nt : Int32} {cel : Int32} {sst : Int32} {x1 : Int32} {d : Nat} {h h0 : J_H} (K : KN h [(0, .inl (9, [.ref 1, .ref 3, .ref 4, .ref 29, .ref 281, .ref 325, .ref 343, .ref 327, .int sst])), (4, .inl (7, [.ref 343, .int mi, .int shu, .int bus, .ref 5, .ref 6, .ref 7, .ref 8, .ref 9, .ref 10, .ref 11, .ref 12, .ref 13, .ref 14, .ref 15, .int lks, .ref 16, .ref 17, .ref 20])), (12, .inr (.inl (0, ri))), (343, .inl (2, [.int ns, .ref 344, .ref 345, .ref 346, .ref 347, .int nt, .ref 348, .ref 349, .ref 350, .ref 351, .ref 352, .ref 353, .ref 354, .int cel, .ref 355, .ref 356, .ref 357, .ref 358]))] h0) : j_V jP d 128 0 (lv_args 0 [.ref 0, .int x1]) [] h (fun rv h' => rv = some (.int (x_qsection ri ns sst x1).1) ∧ KN h' [(0, .inl (9, [.ref 1, .ref 3, .ref 4, .ref 29, .ref 281, .ref 325, .ref 343, .ref 327, .int (x_qsection ri ns sst x1).2])), (4, .inl (7, [.ref 343, .int mi, .int shu, .int bus, .ref 5, .ref 6, .ref 7, .ref 8, .ref 9, .ref 10, .ref 11, .ref 12, .ref 13, .ref 14, .ref 15, .int lks, .ref 16, .ref 17, .ref 20])), (12, .inr (.inl (0, ri))), (343, .inl (2, [.int ns, .ref 344, .ref 345, .ref 346, .ref 347, .int nt, .ref 348, .ref 349, .ref 350, .ref 351, .ref 352, .ref 353, .ref 354, .int cel, .ref 355, .ref 356, .ref 357, .ref 358]))] h0) := by
  show j_V jP d 128 0 [(0, .ref 0), (1, .int x1)] [] h _
  obtain ⟨lv, elv, L⟩ : ∃ lv, lv = [(0, .ref 0), (1, .int x1)] ∧ LK lv [(0, .ref 0), (1, .int x1)] := ⟨_, rfl, LK.rf⟩
  rw [← elv]
  clear elv
  refine j_V.ldL xb58_M xb58_0 rfl (i := 0) (kd := 2) (v := .ref 0) (pcJ := 1) rfl L rfl rfl rfl ?_
  refine j_V.ldL xb58_M xb58_1 rfl (i := 1) (kd := 0) (v := .int x1) (pcJ := 2) rfl L rfl rfl rfl ?_
  refine j_V.cl xb58_M xb58_2 rfl (md := 3) (mj := 166) rfl (by decide) xb48_M (As := [.ref 0, .int x1]) (rest := []) (jk_spl3 (K.at rfl) rfl rfl rfl (Nat.le_of_ble_eq_true rfl) (Nat.le_of_ble_eq_true rfl)) (fun d => xb48_ok (K.fi [0, 343] rfl rfl)) ?_
  rintro r hz ⟨rfl, ez⟩
  rw [ez]
  clear ez
  show j_V jP _ 128 5 lv [.int (x_isSection ns x1)] h _
  refine j_V.ifc xb58_M xb58_5 (t := 14) rfl (fun c5_0 => ?_) (fun c5_0 => ?_)
  · replace c5_0 : ¬ ((x_isSection ns x1) = 0) := jd_ne c5_0
    refine j_V.ldL xb58_M xb58_14 rfl (i := 0) (kd := 2) (v := .ref 0) (pcJ := 15) rfl L rfl rfl rfl ?_
    refine j_V.ldL xb58_M xb58_15 rfl (i := 0) (kd := 2) (v := .ref 0) (pcJ := 16) rfl L rfl rfl rfl ?_
    refine j_V.getK xb58_M xb58_16 (ci := 9) (j := 2) rfl K rfl rfl ?_
    refine j_V.getK xb58_M xb58_19 (ci := 7) (j := 11) rfl K rfl rfl ?_
    refine j_V.ldL xb58_M xb58_22 rfl (i := 1) (kd := 0) (v := .int x1) (pcJ := 23) rfl L rfl rfl rfl ?_
    refine j_V.iaA xb58_M xb58_23 K rfl ?_
    refine j_V.cl xb58_M xb58_24 rfl (md := 3) (mj := 160) rfl (by decide) xb51_M (As := [.ref 0, .int (gA ri x1)]) (rest := []) (jk_spl3 (K.at rfl) rfl rfl rfl (Nat.le_of_ble_eq_true rfl) (Nat.le_of_ble_eq_true rfl)) (fun d => xb51_ok (K.fi [0] rfl rfl)) ?_
    rintro r h9 ⟨rfl, K9⟩
    generalize ez1 : (x_qanswerIfAny sst (gA ri x1)) = z1 at K9 ⊢
    have K : KN h9 [(0, .inl (9, [.ref 1, .ref 3, .ref 4, .ref 29, .ref 281, .ref 325, .ref 343, .ref 327, .int (z1.2)])), (4, .inl (7, [.ref 343, .int mi, .int shu, .int bus, .ref 5, .ref 6, .ref 7, .ref 8, .ref 9, .ref 10, .ref 11, .ref 12, .ref 13, .ref 14, .ref 15, .int lks, .ref 16, .ref 17, .ref 20])), (12, .inr (.inl (0, ri))), (343, .inl (2, [.int ns, .ref 344, .ref 345, .ref 346, .ref 347, .int nt, .ref 348, .ref 349, .ref 350, .ref 351, .ref 352, .ref 353, .ref 354, .int cel, .ref 355, .ref 356, .ref 357, .ref 358]))] h0 := K.mg K9 rfl rfl
    clear K9
    show j_V jP _ 128 27 lv [.int (z1.1)] h9 _
    subst ez1
    refine j_V.ri xb58_M xb58_27 ?_
    rw [show (x_qsection ri ns sst x1) = _ from ((if_neg c5_0).trans (rfl))]
    exact ⟨rfl, K⟩
  · replace c5_0 : (x_isSection ns x1) = 0 := jd_nen c5_0
    refine j_V.ldL xb58_M xb58_8 rfl (i := 0) (kd := 2) (v := .ref 0) (pcJ := 9) rfl L rfl rfl rfl ?_
    refine j_V.one xb58_M xb58_9 (by decide) (pcJ := 10) (stJ := [.int 2, .ref 0]) rfl ?_
    refine j_V.cl xb58_M xb58_10 rfl (md := 3) (mj := 161) rfl (by decide) xb50_M (As := [.ref 0, .int 2]) (rest := []) (jk_spl3 (K.at rfl) rfl rfl rfl (Nat.le_of_ble_eq_true rfl) (Nat.le_of_ble_eq_true rfl)) (fun d => xb50_ok (K.fi [0] rfl rfl)) ?_
    rintro r h9 ⟨rfl, K9⟩
    generalize ez2 : (x_qrefuse sst 2) = z2 at K9 ⊢
    have K : KN h9 [(0, .inl (9, [.ref 1, .ref 3, .ref 4, .ref 29, .ref 281, .ref 325, .ref 343, .ref 327, .int (z2.2)])), (4, .inl (7, [.ref 343, .int mi, .int shu, .int bus, .ref 5, .ref 6, .ref 7, .ref 8, .ref 9, .ref 10, .ref 11, .ref 12, .ref 13, .ref 14, .ref 15, .int lks, .ref 16, .ref 17, .ref 20])), (12, .inr (.inl (0, ri))), (343, .inl (2, [.int ns, .ref 344, .ref 345, .ref 346, .ref 347, .int nt, .ref 348, .ref 349, .ref 350, .ref 351, .ref 352, .ref 353, .ref 354, .int cel, .ref 355, .ref 356, .ref 357, .ref 358]))] h0 := K.mg K9 rfl rfl
    clear K9
    show j_V jP _ 128 13 lv [.int (z2.1)] h9 _
    subst ez2
    refine j_V.ri xb58_M xb58_13 ?_
    rw [show (x_qsection ri ns sst x1) = _ from ((if_pos c5_0).trans (rfl))]
    exact ⟨rfl, K⟩
set_option maxRecDepth 100000 in
theorem xb59_M : j_meth jP 129 = some (yX9_time, cX9_time, 5, (some .int), 3, false, 9) := rfl
set_option maxRecDepth 100000 in
theorem xb59_0 : j_code jP 129 0 = some (.aload_n 0) := rfl
set_option maxRecDepth 100000 in
theorem xb59_1 : j_code jP 129 1 = some (.iload_n 1) := rfl
set_option maxRecDepth 100000 in
theorem xb59_2 : j_code jP 129 2 = some (.invokevirtual 184) := rfl
set_option maxRecDepth 100000 in
theorem xb59_5 : j_code jP 129 5 = some (.ifCond .eq 11) := rfl
set_option maxRecDepth 100000 in
theorem xb59_8 : j_code jP 129 8 = some (.aload_n 0) := rfl
set_option maxRecDepth 100000 in
theorem xb59_9 : j_code jP 129 9 = some (.iload_n 2) := rfl
set_option maxRecDepth 100000 in
theorem xb59_10 : j_code jP 129 10 = some (.invokevirtual 142) := rfl
set_option maxRecDepth 100000 in
theorem xb59_13 : j_code jP 129 13 = some (.ifCond .ne 9) := rfl
set_option maxRecDepth 100000 in
theorem xb59_16 : j_code jP 129 16 = some (.aload_n 0) := rfl
set_option maxRecDepth 100000 in
theorem xb59_17 : j_code jP 129 17 = some (.iconst 2) := rfl
set_option maxRecDepth 100000 in
theorem xb59_18 : j_code jP 129 18 = some (.invokevirtual 84) := rfl
set_option maxRecDepth 100000 in
theorem xb59_21 : j_code jP 129 21 = some (.ireturn) := rfl
set_option maxRecDepth 100000 in
theorem xb59_22 : j_code jP 129 22 = some (.iload_n 1) := rfl
set_option maxRecDepth 100000 in
theorem xb59_23 : j_code jP 129 23 = some (.bipush 7) := rfl
set_option maxRecDepth 100000 in
theorem xb59_25 : j_code jP 129 25 = some (.imul) := rfl
set_option maxRecDepth 100000 in
theorem xb59_26 : j_code jP 129 26 = some (.iload_n 2) := rfl
set_option maxRecDepth 100000 in
theorem xb59_27 : j_code jP 129 27 = some (.iadd) := rfl
set_option maxRecDepth 100000 in
theorem xb59_28 : j_code jP 129 28 = some (.istore 4) := rfl
set_option maxRecDepth 100000 in
theorem xb59_30 : j_code jP 129 30 = some (.aload_n 0) := rfl
set_option maxRecDepth 100000 in
theorem xb59_31 : j_code jP 129 31 = some (.iload_n 3) := rfl
set_option maxRecDepth 100000 in
theorem xb59_32 : j_code jP 129 32 = some (.ifCond .eq 16) := rfl
set_option maxRecDepth 100000 in
theorem xb59_35 : j_code jP 129 35 = some (.aload_n 0) := rfl
set_option maxRecDepth 100000 in
theorem xb59_36 : j_code jP 129 36 = some (.getfield 30) := rfl
set_option maxRecDepth 100000 in
theorem xb59_39 : j_code jP 129 39 = some (.getfield 274) := rfl
set_option maxRecDepth 100000 in
theorem xb59_42 : j_code jP 129 42 = some (.iload 4) := rfl
set_option maxRecDepth 100000 in
theorem xb59_44 : j_code jP 129 44 = some (.iaload) := rfl
set_option maxRecDepth 100000 in
theorem xb59_45 : j_code jP 129 45 = some (.goto 13) := rfl
set_option maxRecDepth 100000 in
theorem xb59_48 : j_code jP 129 48 = some (.aload_n 0) := rfl
set_option maxRecDepth 100000 in
theorem xb59_49 : j_code jP 129 49 = some (.getfield 30) := rfl
set_option maxRecDepth 100000 in
theorem xb59_52 : j_code jP 129 52 = some (.getfield 277) := rfl
set_option maxRecDepth 100000 in
theorem xb59_55 : j_code jP 129 55 = some (.iload 4) := rfl
set_option maxRecDepth 100000 in
theorem xb59_57 : j_code jP 129 57 = some (.iaload) := rfl
set_option maxRecDepth 100000 in
theorem xb59_58 : j_code jP 129 58 = some (.invokevirtual 178) := rfl
set_option maxRecDepth 100000 in
theorem xb59_61 : j_code jP 129 61 = some (.ireturn) := rfl
set_option maxRecDepth 1000000 in
theorem xb59_ok {mi : Int32} {shu : Int32} {bus : Int32} {lks : Int32} {cm : List Int32} {lf : List Int32} {ns : Int32} {nt : Int32} {cel : Int32} {sst : Int32} {x1 x2 x3 : Int32} {d : Nat} {h h0 : J_H} (K : KN h [(0, .inl (9, [.ref 1, .ref 3, .ref 4, .ref 29, .ref 281, .ref 325, .ref 343, .ref 327, .int sst])), (4, .inl (7, [.ref 343, .int mi, .int shu, .int bus, .ref 5, .ref 6, .ref 7, .ref 8, .ref 9, .ref 10, .ref 11, .ref 12, .ref 13, .ref 14, .ref 15, .int lks, .ref 16, .ref 17, .ref 20])), (14, .inr (.inl (0, cm))), (15, .inr (.inl (0, lf))), (343, .inl (2, [.int ns, .ref 344, .ref 345, .ref 346, .ref 347, .int nt, .ref 348, .ref 349, .ref 350, .ref 351, .ref 352, .ref 353, .ref 354, .int cel, .ref 355, .ref 356, .ref 357, .ref 358]))] h0) : j_V jP d 129 0 (lv_args 0 [.ref 0, .int x1, .int x2, .int x3]) [] h (fun rv h' => rv = some (.int (x_qtime cm lf ns nt sst x1 x2 x3).1) ∧ KN h' [(0, .inl (9, [.ref 1, .ref 3, .ref 4, .ref 29, .ref 281, .ref 325, .ref 343, .ref 327, .int (x_qtime cm lf ns nt sst x1 x2 x3).2])), (4, .inl (7, [.ref 343, .int mi, .int shu, .int bus, .ref 5, .ref 6, .ref 7, .ref 8, .ref 9, .ref 10, .ref 11, .ref 12, .ref 13, .ref 14, .ref 15, .int lks, .ref 16, .ref 17, .ref 20])), (14, .inr (.inl (0, cm))), (15, .inr (.inl (0, lf))), (343, .inl (2, [.int ns, .ref 344, .ref 345, .ref 346, .ref 347, .int nt, .ref 348, .ref 349, .ref 350, .ref 351, .ref 352, .ref 353, .ref 354, .int cel, .ref 355, .ref 356, .ref 357, .ref 358]))] h0) := by
  show j_V jP d 129 0 [(0, .ref 0), (1, .int x1), (2, .int x2), (3, .int x3)] [] h _
  obtain ⟨lv, elv, L⟩ : ∃ lv, lv = [(0, .ref 0), (1, .int x1), (2, .int x2), (3, .int x3)] ∧ LK lv [(0, .ref 0), (1, .int x1), (2, .int x2), (3, .int x3)] := ⟨_, rfl, LK.rf⟩
  rw [← elv]
  clear elv
  refine j_V.ldL xb59_M xb59_0 rfl (i := 0) (kd := 2) (v := .ref 0) (pcJ := 1) rfl L rfl rfl rfl ?_
  refine j_V.ldL xb59_M xb59_1 rfl (i := 1) (kd := 0) (v := .int x1) (pcJ := 2) rfl L rfl rfl rfl ?_
  refine j_V.cl xb59_M xb59_2 rfl (md := 3) (mj := 165) rfl (by decide) xb47_M (As := [.ref 0, .int x1]) (rest := []) (jk_spl3 (K.at rfl) rfl rfl rfl (Nat.le_of_ble_eq_true rfl) (Nat.le_of_ble_eq_true rfl)) (fun d => xb47_ok (K.fi [0, 343] rfl rfl)) ?_
  rintro r hz ⟨rfl, ez⟩
  rw [ez]
  clear ez
  show j_V jP _ 129 5 lv [.int (x_isTrain nt x1)] h _
  refine j_V.ifc xb59_M xb59_5 (t := 16) rfl (fun c5_0 => ?_) (fun c5_0 => ?_)
  · replace c5_0 : (x_isTrain nt x1) = 0 := jd_eq c5_0
    refine j_V.ldL xb59_M xb59_16 rfl (i := 0) (kd := 2) (v := .ref 0) (pcJ := 17) rfl L rfl rfl rfl ?_
    refine j_V.one xb59_M xb59_17 (by decide) (pcJ := 18) (stJ := [.int 2, .ref 0]) rfl ?_
    refine j_V.cl xb59_M xb59_18 rfl (md := 3) (mj := 161) rfl (by decide) xb50_M (As := [.ref 0, .int 2]) (rest := []) (jk_spl3 (K.at rfl) rfl rfl rfl (Nat.le_of_ble_eq_true rfl) (Nat.le_of_ble_eq_true rfl)) (fun d => xb50_ok (K.fi [0] rfl rfl)) ?_
    rintro r h9 ⟨rfl, K9⟩
    generalize ez1 : (x_qrefuse sst 2) = z1 at K9 ⊢
    have K : KN h9 [(0, .inl (9, [.ref 1, .ref 3, .ref 4, .ref 29, .ref 281, .ref 325, .ref 343, .ref 327, .int (z1.2)])), (4, .inl (7, [.ref 343, .int mi, .int shu, .int bus, .ref 5, .ref 6, .ref 7, .ref 8, .ref 9, .ref 10, .ref 11, .ref 12, .ref 13, .ref 14, .ref 15, .int lks, .ref 16, .ref 17, .ref 20])), (14, .inr (.inl (0, cm))), (15, .inr (.inl (0, lf))), (343, .inl (2, [.int ns, .ref 344, .ref 345, .ref 346, .ref 347, .int nt, .ref 348, .ref 349, .ref 350, .ref 351, .ref 352, .ref 353, .ref 354, .int cel, .ref 355, .ref 356, .ref 357, .ref 358]))] h0 := K.mg K9 rfl rfl
    clear K9
    show j_V jP _ 129 21 lv [.int (z1.1)] h9 _
    subst ez1
    refine j_V.ri xb59_M xb59_21 ?_
    rw [show (x_qtime cm lf ns nt sst x1 x2 x3) = _ from ((if_pos c5_0).trans (rfl))]
    exact ⟨rfl, K⟩
  · replace c5_0 : ¬ ((x_isTrain nt x1) = 0) := jd_eqn c5_0
    refine j_V.ldL xb59_M xb59_8 rfl (i := 0) (kd := 2) (v := .ref 0) (pcJ := 9) rfl L rfl rfl rfl ?_
    refine j_V.ldL xb59_M xb59_9 rfl (i := 2) (kd := 0) (v := .int x2) (pcJ := 10) rfl L rfl rfl rfl ?_
    refine j_V.cl xb59_M xb59_10 rfl (md := 3) (mj := 163) rfl (by decide) xb45_M (As := [.ref 0, .int x2]) (rest := []) (jk_spl3 (K.at rfl) rfl rfl rfl (Nat.le_of_ble_eq_true rfl) (Nat.le_of_ble_eq_true rfl)) (fun d => xb45_ok (K.fi [0, 343] rfl rfl)) ?_
    rintro r hz ⟨rfl, ez⟩
    rw [ez]
    clear ez
    show j_V jP _ 129 13 lv [.int (x_isStation ns x2)] h _
    refine j_V.ifc xb59_M xb59_13 (t := 22) rfl (fun c13_1 => ?_) (fun c13_1 => ?_)
    · replace c13_1 : ¬ ((x_isStation ns x2) = 0) := jd_ne c13_1
      refine j_V.ldL xb59_M xb59_22 rfl (i := 1) (kd := 0) (v := .int x1) (pcJ := 23) rfl L rfl rfl rfl ?_
      refine j_V.one xb59_M xb59_23 (by decide) (pcJ := 25) (stJ := [.int 7, .int x1]) rfl ?_
      refine j_V.one xb59_M xb59_25 (by decide) (pcJ := 26) (stJ := [.int (x1 * 7)]) rfl ?_
      refine j_V.ldL xb59_M xb59_26 rfl (i := 2) (kd := 0) (v := .int x2) (pcJ := 27) rfl L rfl rfl rfl ?_
      refine j_V.one xb59_M xb59_27 (by decide) (pcJ := 28) (stJ := [.int ((x1 * 7) + x2)]) rfl ?_
      refine j_V.stL xb59_M xb59_28 rfl (i := 4) (kd := 0) (kl' := [(0, .ref 0), (1, .int x1), (2, .int x2), (3, .int x3), (4, .int ((x1 * 7) + x2))]) (pcJ := 30) rfl L rfl (by decide) rfl rfl rfl (fun lv L => ?_)
      refine j_V.ldL xb59_M xb59_30 rfl (i := 0) (kd := 2) (v := .ref 0) (pcJ := 31) rfl L rfl rfl rfl ?_
      refine j_V.ldL xb59_M xb59_31 rfl (i := 3) (kd := 0) (v := .int x3) (pcJ := 32) rfl L rfl rfl rfl ?_
      refine j_V.cut (b := 58) (stJ := [.int ((if x3 = 0 then (gA cm ((x1 * 7) + x2)) else (gA lf ((x1 * 7) + x2))) : Int32), .ref 0]) (fun v => [(0, .ref 0), (1, .int x1), (2, .int x2), (3, .int x3), (4, .int ((x1 * 7) + x2))]) ((if x3 = 0 then (gA cm ((x1 * 7) + x2)) else (gA lf ((x1 * 7) + x2))) : Int32) (fun Q kk => ?_) (fun lv L => ?_)
      · refine j_V.ifc xb59_M xb59_32 (t := 48) rfl (fun c32_0 => ?_) (fun c32_0 => ?_)
        · replace c32_0 : x3 = 0 := jd_eq c32_0
          refine j_V.ldL xb59_M xb59_48 rfl (i := 0) (kd := 2) (v := .ref 0) (pcJ := 49) rfl L rfl rfl rfl ?_
          refine j_V.getK xb59_M xb59_49 (ci := 9) (j := 2) rfl K rfl rfl ?_
          refine j_V.getK xb59_M xb59_52 (ci := 7) (j := 13) rfl K rfl rfl ?_
          refine j_V.ldL xb59_M xb59_55 rfl (i := 4) (kd := 0) (v := .int ((x1 * 7) + x2)) (pcJ := 57) rfl L rfl rfl rfl ?_
          refine j_V.iaA xb59_M xb59_57 K rfl ?_
          exact Eq.subst (motive := fun z => j_V jP _ 129 58 _ (.int z :: [.ref 0]) h Q) (show ((if x3 = 0 then (gA cm ((x1 * 7) + x2)) else (gA lf ((x1 * 7) + x2))) : Int32) = (gA cm ((x1 * 7) + x2)) from (if_pos c32_0).trans (rfl)) (kk _ L)
        · replace c32_0 : ¬ (x3 = 0) := jd_eqn c32_0
          refine j_V.ldL xb59_M xb59_35 rfl (i := 0) (kd := 2) (v := .ref 0) (pcJ := 36) rfl L rfl rfl rfl ?_
          refine j_V.getK xb59_M xb59_36 (ci := 9) (j := 2) rfl K rfl rfl ?_
          refine j_V.getK xb59_M xb59_39 (ci := 7) (j := 14) rfl K rfl rfl ?_
          refine j_V.ldL xb59_M xb59_42 rfl (i := 4) (kd := 0) (v := .int ((x1 * 7) + x2)) (pcJ := 44) rfl L rfl rfl rfl ?_
          refine j_V.iaA xb59_M xb59_44 K rfl ?_
          refine j_V.gto xb59_M xb59_45 (t := 58) rfl ?_
          exact Eq.subst (motive := fun z => j_V jP _ 129 58 _ (.int z :: [.ref 0]) h Q) (show ((if x3 = 0 then (gA cm ((x1 * 7) + x2)) else (gA lf ((x1 * 7) + x2))) : Int32) = (gA lf ((x1 * 7) + x2)) from (if_neg c32_0).trans (rfl)) (kk _ L)
      refine j_V.cl xb59_M xb59_58 rfl (md := 3) (mj := 160) rfl (by decide) xb51_M (As := [.ref 0, .int ((if x3 = 0 then (gA cm ((x1 * 7) + x2)) else (gA lf ((x1 * 7) + x2))) : Int32)]) (rest := []) (jk_spl3 (K.at rfl) rfl rfl rfl (Nat.le_of_ble_eq_true rfl) (Nat.le_of_ble_eq_true rfl)) (fun d => xb51_ok (K.fi [0] rfl rfl)) ?_
      rintro r h9 ⟨rfl, K9⟩
      generalize ez2 : (x_qanswerIfAny sst ((if x3 = 0 then (gA cm ((x1 * 7) + x2)) else (gA lf ((x1 * 7) + x2))) : Int32)) = z2 at K9 ⊢
      have K : KN h9 [(0, .inl (9, [.ref 1, .ref 3, .ref 4, .ref 29, .ref 281, .ref 325, .ref 343, .ref 327, .int (z2.2)])), (4, .inl (7, [.ref 343, .int mi, .int shu, .int bus, .ref 5, .ref 6, .ref 7, .ref 8, .ref 9, .ref 10, .ref 11, .ref 12, .ref 13, .ref 14, .ref 15, .int lks, .ref 16, .ref 17, .ref 20])), (14, .inr (.inl (0, cm))), (15, .inr (.inl (0, lf))), (343, .inl (2, [.int ns, .ref 344, .ref 345, .ref 346, .ref 347, .int nt, .ref 348, .ref 349, .ref 350, .ref 351, .ref 352, .ref 353, .ref 354, .int cel, .ref 355, .ref 356, .ref 357, .ref 358]))] h0 := K.mg K9 rfl rfl
      clear K9
      show j_V jP _ 129 61 lv [.int (z2.1)] h9 _
      subst ez2
      refine j_V.ri xb59_M xb59_61 ?_
      rw [show (x_qtime cm lf ns nt sst x1 x2 x3) = _ from ((if_neg c5_0).trans ((if_neg c13_1).trans (rfl)))]
      exact ⟨rfl, K⟩
    · replace c13_1 : (x_isStation ns x2) = 0 := jd_nen c13_1
      refine j_V.ldL xb59_M xb59_16 rfl (i := 0) (kd := 2) (v := .ref 0) (pcJ := 17) rfl L rfl rfl rfl ?_
      refine j_V.one xb59_M xb59_17 (by decide) (pcJ := 18) (stJ := [.int 2, .ref 0]) rfl ?_
      refine j_V.cl xb59_M xb59_18 rfl (md := 3) (mj := 161) rfl (by decide) xb50_M (As := [.ref 0, .int 2]) (rest := []) (jk_spl3 (K.at rfl) rfl rfl rfl (Nat.le_of_ble_eq_true rfl) (Nat.le_of_ble_eq_true rfl)) (fun d => xb50_ok (K.fi [0] rfl rfl)) ?_
      rintro r h9 ⟨rfl, K9⟩
      generalize ez3 : (x_qrefuse sst 2) = z3 at K9 ⊢
      have K : KN h9 [(0, .inl (9, [.ref 1, .ref 3, .ref 4, .ref 29, .ref 281, .ref 325, .ref 343, .ref 327, .int (z3.2)])), (4, .inl (7, [.ref 343, .int mi, .int shu, .int bus, .ref 5, .ref 6, .ref 7, .ref 8, .ref 9, .ref 10, .ref 11, .ref 12, .ref 13, .ref 14, .ref 15, .int lks, .ref 16, .ref 17, .ref 20])), (14, .inr (.inl (0, cm))), (15, .inr (.inl (0, lf))), (343, .inl (2, [.int ns, .ref 344, .ref 345, .ref 346, .ref 347, .int nt, .ref 348, .ref 349, .ref 350, .ref 351, .ref 352, .ref 353, .ref 354, .int cel, .ref 355, .ref 356, .ref 357, .ref 358]))] h0 := K.mg K9 rfl rfl
      clear K9
      show j_V jP _ 129 21 lv [.int (z3.1)] h9 _
      subst ez3
      refine j_V.ri xb59_M xb59_21 ?_
      rw [show (x_qtime cm lf ns nt sst x1 x2 x3) = _ from ((if_neg c5_0).trans ((if_pos c13_1).trans (rfl)))]
      exact ⟨rfl, K⟩
set_option maxRecDepth 100000 in
theorem xb60_M : j_meth jP 130 = some (yX9_together, cX9_together, 5, (some .int), 3, false, 9) := rfl
set_option maxRecDepth 100000 in
theorem xb60_0 : j_code jP 130 0 = some (.aload_n 0) := rfl
set_option maxRecDepth 100000 in
theorem xb60_1 : j_code jP 130 1 = some (.iload_n 1) := rfl
set_option maxRecDepth 100000 in
theorem xb60_2 : j_code jP 130 2 = some (.invokevirtual 184) := rfl
set_option maxRecDepth 100000 in
theorem xb60_5 : j_code jP 130 5 = some (.ifCond .eq 11) := rfl
set_option maxRecDepth 100000 in
theorem xb60_8 : j_code jP 130 8 = some (.aload_n 0) := rfl
set_option maxRecDepth 100000 in
theorem xb60_9 : j_code jP 130 9 = some (.iload_n 2) := rfl
set_option maxRecDepth 100000 in
theorem xb60_10 : j_code jP 130 10 = some (.invokevirtual 184) := rfl
set_option maxRecDepth 100000 in
theorem xb60_13 : j_code jP 130 13 = some (.ifCond .ne 9) := rfl
set_option maxRecDepth 100000 in
theorem xb60_16 : j_code jP 130 16 = some (.aload_n 0) := rfl
set_option maxRecDepth 100000 in
theorem xb60_17 : j_code jP 130 17 = some (.iconst 2) := rfl
set_option maxRecDepth 100000 in
theorem xb60_18 : j_code jP 130 18 = some (.invokevirtual 84) := rfl
set_option maxRecDepth 100000 in
theorem xb60_21 : j_code jP 130 21 = some (.ireturn) := rfl
set_option maxRecDepth 100000 in
theorem xb60_22 : j_code jP 130 22 = some (.iload_n 1) := rfl
set_option maxRecDepth 100000 in
theorem xb60_23 : j_code jP 130 23 = some (.iload_n 2) := rfl
set_option maxRecDepth 100000 in
theorem xb60_24 : j_code jP 130 24 = some (.if_icmp .ne 9) := rfl
set_option maxRecDepth 100000 in
theorem xb60_27 : j_code jP 130 27 = some (.aload_n 0) := rfl
set_option maxRecDepth 100000 in
theorem xb60_28 : j_code jP 130 28 = some (.iconst 4) := rfl
set_option maxRecDepth 100000 in
theorem xb60_29 : j_code jP 130 29 = some (.invokevirtual 84) := rfl
set_option maxRecDepth 100000 in
theorem xb60_32 : j_code jP 130 32 = some (.ireturn) := rfl
set_option maxRecDepth 100000 in
theorem xb60_33 : j_code jP 130 33 = some (.iload_n 1) := rfl
set_option maxRecDepth 100000 in
theorem xb60_34 : j_code jP 130 34 = some (.iconst 5) := rfl
set_option maxRecDepth 100000 in
theorem xb60_35 : j_code jP 130 35 = some (.imul) := rfl
set_option maxRecDepth 100000 in
theorem xb60_36 : j_code jP 130 36 = some (.iload_n 2) := rfl
set_option maxRecDepth 100000 in
theorem xb60_37 : j_code jP 130 37 = some (.iadd) := rfl
set_option maxRecDepth 100000 in
theorem xb60_38 : j_code jP 130 38 = some (.istore 4) := rfl
set_option maxRecDepth 100000 in
theorem xb60_40 : j_code jP 130 40 = some (.aload_n 0) := rfl
set_option maxRecDepth 100000 in
theorem xb60_41 : j_code jP 130 41 = some (.iload_n 3) := rfl
set_option maxRecDepth 100000 in
theorem xb60_42 : j_code jP 130 42 = some (.ifCond .eq 19) := rfl
set_option maxRecDepth 100000 in
theorem xb60_45 : j_code jP 130 45 = some (.aload_n 0) := rfl
set_option maxRecDepth 100000 in
theorem xb60_46 : j_code jP 130 46 = some (.getfield 30) := rfl
set_option maxRecDepth 100000 in
theorem xb60_49 : j_code jP 130 49 = some (.getfield 280) := rfl
set_option maxRecDepth 100000 in
theorem xb60_52 : j_code jP 130 52 = some (.getfield 284) := rfl
set_option maxRecDepth 100000 in
theorem xb60_55 : j_code jP 130 55 = some (.iload 4) := rfl
set_option maxRecDepth 100000 in
theorem xb60_57 : j_code jP 130 57 = some (.iaload) := rfl
set_option maxRecDepth 100000 in
theorem xb60_58 : j_code jP 130 58 = some (.goto 16) := rfl
set_option maxRecDepth 100000 in
theorem xb60_61 : j_code jP 130 61 = some (.aload_n 0) := rfl
set_option maxRecDepth 100000 in
theorem xb60_62 : j_code jP 130 62 = some (.getfield 30) := rfl
set_option maxRecDepth 100000 in
theorem xb60_65 : j_code jP 130 65 = some (.getfield 280) := rfl
set_option maxRecDepth 100000 in
theorem xb60_68 : j_code jP 130 68 = some (.getfield 289) := rfl
set_option maxRecDepth 100000 in
theorem xb60_71 : j_code jP 130 71 = some (.iload 4) := rfl
set_option maxRecDepth 100000 in
theorem xb60_73 : j_code jP 130 73 = some (.iaload) := rfl
set_option maxRecDepth 100000 in
theorem xb60_74 : j_code jP 130 74 = some (.invokevirtual 178) := rfl
set_option maxRecDepth 100000 in
theorem xb60_77 : j_code jP 130 77 = some (.ireturn) := rfl
set_option maxRecDepth 1000000 in
theorem xb60_ok {mi : Int32} {shu : Int32} {bus : Int32} {lks : Int32} {pev : Int32} {pk : Int32} {pms : List Int32} {pmm : List Int32} {ns : Int32} {nt : Int32} {cel : Int32} {sst : Int32} {x1 x2 x3 : Int32} {d : Nat} {h h0 : J_H} (K : KN h [(0, .inl (9, [.ref 1, .ref 3, .ref 4, .ref 29, .ref 281, .ref 325, .ref 343, .ref 327, .int sst])), (4, .inl (7, [.ref 343, .int mi, .int shu, .int bus, .ref 5, .ref 6, .ref 7, .ref 8, .ref 9, .ref 10, .ref 11, .ref 12, .ref 13, .ref 14, .ref 15, .int lks, .ref 16, .ref 17, .ref 20])), (20, .inl (3, [.ref 21, .ref 22, .ref 23, .ref 24, .ref 25, .ref 26, .ref 27, .ref 28, .int pev, .int pk])), (21, .inr (.inl (0, pms))), (22, .inr (.inl (0, pmm))), (343, .inl (2, [.int ns, .ref 344, .ref 345, .ref 346, .ref 347, .int nt, .ref 348, .ref 349, .ref 350, .ref 351, .ref 352, .ref 353, .ref 354, .int cel, .ref 355, .ref 356, .ref 357, .ref 358]))] h0) : j_V jP d 130 0 (lv_args 0 [.ref 0, .int x1, .int x2, .int x3]) [] h (fun rv h' => rv = some (.int (x_qtogether pms pmm nt sst x1 x2 x3).1) ∧ KN h' [(0, .inl (9, [.ref 1, .ref 3, .ref 4, .ref 29, .ref 281, .ref 325, .ref 343, .ref 327, .int (x_qtogether pms pmm nt sst x1 x2 x3).2])), (4, .inl (7, [.ref 343, .int mi, .int shu, .int bus, .ref 5, .ref 6, .ref 7, .ref 8, .ref 9, .ref 10, .ref 11, .ref 12, .ref 13, .ref 14, .ref 15, .int lks, .ref 16, .ref 17, .ref 20])), (20, .inl (3, [.ref 21, .ref 22, .ref 23, .ref 24, .ref 25, .ref 26, .ref 27, .ref 28, .int pev, .int pk])), (21, .inr (.inl (0, pms))), (22, .inr (.inl (0, pmm))), (343, .inl (2, [.int ns, .ref 344, .ref 345, .ref 346, .ref 347, .int nt, .ref 348, .ref 349, .ref 350, .ref 351, .ref 352, .ref 353, .ref 354, .int cel, .ref 355, .ref 356, .ref 357, .ref 358]))] h0) := by
  show j_V jP d 130 0 [(0, .ref 0), (1, .int x1), (2, .int x2), (3, .int x3)] [] h _
  obtain ⟨lv, elv, L⟩ : ∃ lv, lv = [(0, .ref 0), (1, .int x1), (2, .int x2), (3, .int x3)] ∧ LK lv [(0, .ref 0), (1, .int x1), (2, .int x2), (3, .int x3)] := ⟨_, rfl, LK.rf⟩
  rw [← elv]
  clear elv
  refine j_V.ldL xb60_M xb60_0 rfl (i := 0) (kd := 2) (v := .ref 0) (pcJ := 1) rfl L rfl rfl rfl ?_
  refine j_V.ldL xb60_M xb60_1 rfl (i := 1) (kd := 0) (v := .int x1) (pcJ := 2) rfl L rfl rfl rfl ?_
  refine j_V.cl xb60_M xb60_2 rfl (md := 3) (mj := 165) rfl (by decide) xb47_M (As := [.ref 0, .int x1]) (rest := []) (jk_spl3 (K.at rfl) rfl rfl rfl (Nat.le_of_ble_eq_true rfl) (Nat.le_of_ble_eq_true rfl)) (fun d => xb47_ok (K.fi [0, 343] rfl rfl)) ?_
  rintro r hz ⟨rfl, ez⟩
  rw [ez]
  clear ez
  show j_V jP _ 130 5 lv [.int (x_isTrain nt x1)] h _
  refine j_V.ifc xb60_M xb60_5 (t := 16) rfl (fun c5_0 => ?_) (fun c5_0 => ?_)
  · replace c5_0 : (x_isTrain nt x1) = 0 := jd_eq c5_0
    refine j_V.ldL xb60_M xb60_16 rfl (i := 0) (kd := 2) (v := .ref 0) (pcJ := 17) rfl L rfl rfl rfl ?_
    refine j_V.one xb60_M xb60_17 (by decide) (pcJ := 18) (stJ := [.int 2, .ref 0]) rfl ?_
    refine j_V.cl xb60_M xb60_18 rfl (md := 3) (mj := 161) rfl (by decide) xb50_M (As := [.ref 0, .int 2]) (rest := []) (jk_spl3 (K.at rfl) rfl rfl rfl (Nat.le_of_ble_eq_true rfl) (Nat.le_of_ble_eq_true rfl)) (fun d => xb50_ok (K.fi [0] rfl rfl)) ?_
    rintro r h9 ⟨rfl, K9⟩
    generalize ez1 : (x_qrefuse sst 2) = z1 at K9 ⊢
    have K : KN h9 [(0, .inl (9, [.ref 1, .ref 3, .ref 4, .ref 29, .ref 281, .ref 325, .ref 343, .ref 327, .int (z1.2)])), (4, .inl (7, [.ref 343, .int mi, .int shu, .int bus, .ref 5, .ref 6, .ref 7, .ref 8, .ref 9, .ref 10, .ref 11, .ref 12, .ref 13, .ref 14, .ref 15, .int lks, .ref 16, .ref 17, .ref 20])), (20, .inl (3, [.ref 21, .ref 22, .ref 23, .ref 24, .ref 25, .ref 26, .ref 27, .ref 28, .int pev, .int pk])), (21, .inr (.inl (0, pms))), (22, .inr (.inl (0, pmm))), (343, .inl (2, [.int ns, .ref 344, .ref 345, .ref 346, .ref 347, .int nt, .ref 348, .ref 349, .ref 350, .ref 351, .ref 352, .ref 353, .ref 354, .int cel, .ref 355, .ref 356, .ref 357, .ref 358]))] h0 := K.mg K9 rfl rfl
    clear K9
    show j_V jP _ 130 21 lv [.int (z1.1)] h9 _
    subst ez1
    refine j_V.ri xb60_M xb60_21 ?_
    rw [show (x_qtogether pms pmm nt sst x1 x2 x3) = _ from ((if_pos c5_0).trans (rfl))]
    exact ⟨rfl, K⟩
  · replace c5_0 : ¬ ((x_isTrain nt x1) = 0) := jd_eqn c5_0
    refine j_V.ldL xb60_M xb60_8 rfl (i := 0) (kd := 2) (v := .ref 0) (pcJ := 9) rfl L rfl rfl rfl ?_
    refine j_V.ldL xb60_M xb60_9 rfl (i := 2) (kd := 0) (v := .int x2) (pcJ := 10) rfl L rfl rfl rfl ?_
    refine j_V.cl xb60_M xb60_10 rfl (md := 3) (mj := 165) rfl (by decide) xb47_M (As := [.ref 0, .int x2]) (rest := []) (jk_spl3 (K.at rfl) rfl rfl rfl (Nat.le_of_ble_eq_true rfl) (Nat.le_of_ble_eq_true rfl)) (fun d => xb47_ok (K.fi [0, 343] rfl rfl)) ?_
    rintro r hz ⟨rfl, ez⟩
    rw [ez]
    clear ez
    show j_V jP _ 130 13 lv [.int (x_isTrain nt x2)] h _
    refine j_V.ifc xb60_M xb60_13 (t := 22) rfl (fun c13_1 => ?_) (fun c13_1 => ?_)
    · replace c13_1 : ¬ ((x_isTrain nt x2) = 0) := jd_ne c13_1
      refine j_V.ldL xb60_M xb60_22 rfl (i := 1) (kd := 0) (v := .int x1) (pcJ := 23) rfl L rfl rfl rfl ?_
      refine j_V.ldL xb60_M xb60_23 rfl (i := 2) (kd := 0) (v := .int x2) (pcJ := 24) rfl L rfl rfl rfl ?_
      refine j_V.icmp xb60_M xb60_24 (t := 33) rfl (fun c24_2 => ?_) (fun c24_2 => ?_)
      · replace c24_2 : ¬ (x1 = x2) := jd_ne c24_2
        refine j_V.ldL xb60_M xb60_33 rfl (i := 1) (kd := 0) (v := .int x1) (pcJ := 34) rfl L rfl rfl rfl ?_
        refine j_V.one xb60_M xb60_34 (by decide) (pcJ := 35) (stJ := [.int 5, .int x1]) rfl ?_
        refine j_V.one xb60_M xb60_35 (by decide) (pcJ := 36) (stJ := [.int (x1 * 5)]) rfl ?_
        refine j_V.ldL xb60_M xb60_36 rfl (i := 2) (kd := 0) (v := .int x2) (pcJ := 37) rfl L rfl rfl rfl ?_
        refine j_V.one xb60_M xb60_37 (by decide) (pcJ := 38) (stJ := [.int ((x1 * 5) + x2)]) rfl ?_
        refine j_V.stL xb60_M xb60_38 rfl (i := 4) (kd := 0) (kl' := [(0, .ref 0), (1, .int x1), (2, .int x2), (3, .int x3), (4, .int ((x1 * 5) + x2))]) (pcJ := 40) rfl L rfl (by decide) rfl rfl rfl (fun lv L => ?_)
        refine j_V.ldL xb60_M xb60_40 rfl (i := 0) (kd := 2) (v := .ref 0) (pcJ := 41) rfl L rfl rfl rfl ?_
        refine j_V.ldL xb60_M xb60_41 rfl (i := 3) (kd := 0) (v := .int x3) (pcJ := 42) rfl L rfl rfl rfl ?_
        refine j_V.cut (b := 74) (stJ := [.int ((if x3 = 0 then (gA pms ((x1 * 5) + x2)) else (gA pmm ((x1 * 5) + x2))) : Int32), .ref 0]) (fun v => [(0, .ref 0), (1, .int x1), (2, .int x2), (3, .int x3), (4, .int ((x1 * 5) + x2))]) ((if x3 = 0 then (gA pms ((x1 * 5) + x2)) else (gA pmm ((x1 * 5) + x2))) : Int32) (fun Q kk => ?_) (fun lv L => ?_)
        · refine j_V.ifc xb60_M xb60_42 (t := 61) rfl (fun c42_0 => ?_) (fun c42_0 => ?_)
          · replace c42_0 : x3 = 0 := jd_eq c42_0
            refine j_V.ldL xb60_M xb60_61 rfl (i := 0) (kd := 2) (v := .ref 0) (pcJ := 62) rfl L rfl rfl rfl ?_
            refine j_V.getK xb60_M xb60_62 (ci := 9) (j := 2) rfl K rfl rfl ?_
            refine j_V.getK xb60_M xb60_65 (ci := 7) (j := 18) rfl K rfl rfl ?_
            refine j_V.getK xb60_M xb60_68 (ci := 3) (j := 0) rfl K rfl rfl ?_
            refine j_V.ldL xb60_M xb60_71 rfl (i := 4) (kd := 0) (v := .int ((x1 * 5) + x2)) (pcJ := 73) rfl L rfl rfl rfl ?_
            refine j_V.iaA xb60_M xb60_73 K rfl ?_
            exact Eq.subst (motive := fun z => j_V jP _ 130 74 _ (.int z :: [.ref 0]) h Q) (show ((if x3 = 0 then (gA pms ((x1 * 5) + x2)) else (gA pmm ((x1 * 5) + x2))) : Int32) = (gA pms ((x1 * 5) + x2)) from (if_pos c42_0).trans (rfl)) (kk _ L)
          · replace c42_0 : ¬ (x3 = 0) := jd_eqn c42_0
            refine j_V.ldL xb60_M xb60_45 rfl (i := 0) (kd := 2) (v := .ref 0) (pcJ := 46) rfl L rfl rfl rfl ?_
            refine j_V.getK xb60_M xb60_46 (ci := 9) (j := 2) rfl K rfl rfl ?_
            refine j_V.getK xb60_M xb60_49 (ci := 7) (j := 18) rfl K rfl rfl ?_
            refine j_V.getK xb60_M xb60_52 (ci := 3) (j := 1) rfl K rfl rfl ?_
            refine j_V.ldL xb60_M xb60_55 rfl (i := 4) (kd := 0) (v := .int ((x1 * 5) + x2)) (pcJ := 57) rfl L rfl rfl rfl ?_
            refine j_V.iaA xb60_M xb60_57 K rfl ?_
            refine j_V.gto xb60_M xb60_58 (t := 74) rfl ?_
            exact Eq.subst (motive := fun z => j_V jP _ 130 74 _ (.int z :: [.ref 0]) h Q) (show ((if x3 = 0 then (gA pms ((x1 * 5) + x2)) else (gA pmm ((x1 * 5) + x2))) : Int32) = (gA pmm ((x1 * 5) + x2)) from (if_neg c42_0).trans (rfl)) (kk _ L)
        refine j_V.cl xb60_M xb60_74 rfl (md := 3) (mj := 160) rfl (by decide) xb51_M (As := [.ref 0, .int ((if x3 = 0 then (gA pms ((x1 * 5) + x2)) else (gA pmm ((x1 * 5) + x2))) : Int32)]) (rest := []) (jk_spl3 (K.at rfl) rfl rfl rfl (Nat.le_of_ble_eq_true rfl) (Nat.le_of_ble_eq_true rfl)) (fun d => xb51_ok (K.fi [0] rfl rfl)) ?_
        rintro r h9 ⟨rfl, K9⟩
        generalize ez2 : (x_qanswerIfAny sst ((if x3 = 0 then (gA pms ((x1 * 5) + x2)) else (gA pmm ((x1 * 5) + x2))) : Int32)) = z2 at K9 ⊢
        have K : KN h9 [(0, .inl (9, [.ref 1, .ref 3, .ref 4, .ref 29, .ref 281, .ref 325, .ref 343, .ref 327, .int (z2.2)])), (4, .inl (7, [.ref 343, .int mi, .int shu, .int bus, .ref 5, .ref 6, .ref 7, .ref 8, .ref 9, .ref 10, .ref 11, .ref 12, .ref 13, .ref 14, .ref 15, .int lks, .ref 16, .ref 17, .ref 20])), (20, .inl (3, [.ref 21, .ref 22, .ref 23, .ref 24, .ref 25, .ref 26, .ref 27, .ref 28, .int pev, .int pk])), (21, .inr (.inl (0, pms))), (22, .inr (.inl (0, pmm))), (343, .inl (2, [.int ns, .ref 344, .ref 345, .ref 346, .ref 347, .int nt, .ref 348, .ref 349, .ref 350, .ref 351, .ref 352, .ref 353, .ref 354, .int cel, .ref 355, .ref 356, .ref 357, .ref 358]))] h0 := K.mg K9 rfl rfl
        clear K9
        show j_V jP _ 130 77 lv [.int (z2.1)] h9 _
        subst ez2
        refine j_V.ri xb60_M xb60_77 ?_
        rw [show (x_qtogether pms pmm nt sst x1 x2 x3) = _ from ((if_neg c5_0).trans ((if_neg c13_1).trans ((if_neg c24_2).trans (rfl))))]
        exact ⟨rfl, K⟩
      · replace c24_2 : x1 = x2 := jd_nen c24_2
        refine j_V.ldL xb60_M xb60_27 rfl (i := 0) (kd := 2) (v := .ref 0) (pcJ := 28) rfl L rfl rfl rfl ?_
        refine j_V.one xb60_M xb60_28 (by decide) (pcJ := 29) (stJ := [.int 4, .ref 0]) rfl ?_
        refine j_V.cl xb60_M xb60_29 rfl (md := 3) (mj := 161) rfl (by decide) xb50_M (As := [.ref 0, .int 4]) (rest := []) (jk_spl3 (K.at rfl) rfl rfl rfl (Nat.le_of_ble_eq_true rfl) (Nat.le_of_ble_eq_true rfl)) (fun d => xb50_ok (K.fi [0] rfl rfl)) ?_
        rintro r h9 ⟨rfl, K9⟩
        generalize ez3 : (x_qrefuse sst 4) = z3 at K9 ⊢
        have K : KN h9 [(0, .inl (9, [.ref 1, .ref 3, .ref 4, .ref 29, .ref 281, .ref 325, .ref 343, .ref 327, .int (z3.2)])), (4, .inl (7, [.ref 343, .int mi, .int shu, .int bus, .ref 5, .ref 6, .ref 7, .ref 8, .ref 9, .ref 10, .ref 11, .ref 12, .ref 13, .ref 14, .ref 15, .int lks, .ref 16, .ref 17, .ref 20])), (20, .inl (3, [.ref 21, .ref 22, .ref 23, .ref 24, .ref 25, .ref 26, .ref 27, .ref 28, .int pev, .int pk])), (21, .inr (.inl (0, pms))), (22, .inr (.inl (0, pmm))), (343, .inl (2, [.int ns, .ref 344, .ref 345, .ref 346, .ref 347, .int nt, .ref 348, .ref 349, .ref 350, .ref 351, .ref 352, .ref 353, .ref 354, .int cel, .ref 355, .ref 356, .ref 357, .ref 358]))] h0 := K.mg K9 rfl rfl
        clear K9
        show j_V jP _ 130 32 lv [.int (z3.1)] h9 _
        subst ez3
        refine j_V.ri xb60_M xb60_32 ?_
        rw [show (x_qtogether pms pmm nt sst x1 x2 x3) = _ from ((if_neg c5_0).trans ((if_neg c13_1).trans ((if_pos c24_2).trans (rfl))))]
        exact ⟨rfl, K⟩
    · replace c13_1 : (x_isTrain nt x2) = 0 := jd_nen c13_1
      refine j_V.ldL xb60_M xb60_16 rfl (i := 0) (kd := 2) (v := .ref 0) (pcJ := 17) rfl L rfl rfl rfl ?_
      refine j_V.one xb60_M xb60_17 (by decide) (pcJ := 18) (stJ := [.int 2, .ref 0]) rfl ?_
      refine j_V.cl xb60_M xb60_18 rfl (md := 3) (mj := 161) rfl (by decide) xb50_M (As := [.ref 0, .int 2]) (rest := []) (jk_spl3 (K.at rfl) rfl rfl rfl (Nat.le_of_ble_eq_true rfl) (Nat.le_of_ble_eq_true rfl)) (fun d => xb50_ok (K.fi [0] rfl rfl)) ?_
      rintro r h9 ⟨rfl, K9⟩
      generalize ez4 : (x_qrefuse sst 2) = z4 at K9 ⊢
      have K : KN h9 [(0, .inl (9, [.ref 1, .ref 3, .ref 4, .ref 29, .ref 281, .ref 325, .ref 343, .ref 327, .int (z4.2)])), (4, .inl (7, [.ref 343, .int mi, .int shu, .int bus, .ref 5, .ref 6, .ref 7, .ref 8, .ref 9, .ref 10, .ref 11, .ref 12, .ref 13, .ref 14, .ref 15, .int lks, .ref 16, .ref 17, .ref 20])), (20, .inl (3, [.ref 21, .ref 22, .ref 23, .ref 24, .ref 25, .ref 26, .ref 27, .ref 28, .int pev, .int pk])), (21, .inr (.inl (0, pms))), (22, .inr (.inl (0, pmm))), (343, .inl (2, [.int ns, .ref 344, .ref 345, .ref 346, .ref 347, .int nt, .ref 348, .ref 349, .ref 350, .ref 351, .ref 352, .ref 353, .ref 354, .int cel, .ref 355, .ref 356, .ref 357, .ref 358]))] h0 := K.mg K9 rfl rfl
      clear K9
      show j_V jP _ 130 21 lv [.int (z4.1)] h9 _
      subst ez4
      refine j_V.ri xb60_M xb60_21 ?_
      rw [show (x_qtogether pms pmm nt sst x1 x2 x3) = _ from ((if_neg c5_0).trans ((if_pos c13_1).trans (rfl)))]
      exact ⟨rfl, K⟩
set_option maxRecDepth 100000 in
theorem xb61_M : j_meth jP 131 = some (yX9_passes, cX9_passes, 3, (some .int), 2, false, 9) := rfl
set_option maxRecDepth 100000 in
theorem xb61_0 : j_code jP 131 0 = some (.aload_n 0) := rfl
set_option maxRecDepth 100000 in
theorem xb61_1 : j_code jP 131 1 = some (.iload_n 1) := rfl
set_option maxRecDepth 100000 in
theorem xb61_2 : j_code jP 131 2 = some (.invokevirtual 184) := rfl
set_option maxRecDepth 100000 in
theorem xb61_5 : j_code jP 131 5 = some (.ifCond .eq 11) := rfl
set_option maxRecDepth 100000 in
theorem xb61_8 : j_code jP 131 8 = some (.aload_n 0) := rfl
set_option maxRecDepth 100000 in
theorem xb61_9 : j_code jP 131 9 = some (.iload_n 2) := rfl
set_option maxRecDepth 100000 in
theorem xb61_10 : j_code jP 131 10 = some (.invokevirtual 184) := rfl
set_option maxRecDepth 100000 in
theorem xb61_13 : j_code jP 131 13 = some (.ifCond .ne 9) := rfl
set_option maxRecDepth 100000 in
theorem xb61_16 : j_code jP 131 16 = some (.aload_n 0) := rfl
set_option maxRecDepth 100000 in
theorem xb61_17 : j_code jP 131 17 = some (.iconst 2) := rfl
set_option maxRecDepth 100000 in
theorem xb61_18 : j_code jP 131 18 = some (.invokevirtual 84) := rfl
set_option maxRecDepth 100000 in
theorem xb61_21 : j_code jP 131 21 = some (.ireturn) := rfl
set_option maxRecDepth 100000 in
theorem xb61_22 : j_code jP 131 22 = some (.iload_n 1) := rfl
set_option maxRecDepth 100000 in
theorem xb61_23 : j_code jP 131 23 = some (.iload_n 2) := rfl
set_option maxRecDepth 100000 in
theorem xb61_24 : j_code jP 131 24 = some (.if_icmp .ne 9) := rfl
set_option maxRecDepth 100000 in
theorem xb61_27 : j_code jP 131 27 = some (.aload_n 0) := rfl
set_option maxRecDepth 100000 in
theorem xb61_28 : j_code jP 131 28 = some (.iconst 4) := rfl
set_option maxRecDepth 100000 in
theorem xb61_29 : j_code jP 131 29 = some (.invokevirtual 84) := rfl
set_option maxRecDepth 100000 in
theorem xb61_32 : j_code jP 131 32 = some (.ireturn) := rfl
set_option maxRecDepth 100000 in
theorem xb61_33 : j_code jP 131 33 = some (.aload_n 0) := rfl
set_option maxRecDepth 100000 in
theorem xb61_34 : j_code jP 131 34 = some (.aload_n 0) := rfl
set_option maxRecDepth 100000 in
theorem xb61_35 : j_code jP 131 35 = some (.getfield 30) := rfl
set_option maxRecDepth 100000 in
theorem xb61_38 : j_code jP 131 38 = some (.getfield 280) := rfl
set_option maxRecDepth 100000 in
theorem xb61_41 : j_code jP 131 41 = some (.getfield 292) := rfl
set_option maxRecDepth 100000 in
theorem xb61_44 : j_code jP 131 44 = some (.iload_n 1) := rfl
set_option maxRecDepth 100000 in
theorem xb61_45 : j_code jP 131 45 = some (.iconst 5) := rfl
set_option maxRecDepth 100000 in
theorem xb61_46 : j_code jP 131 46 = some (.imul) := rfl
set_option maxRecDepth 100000 in
theorem xb61_47 : j_code jP 131 47 = some (.iload_n 2) := rfl
set_option maxRecDepth 100000 in
theorem xb61_48 : j_code jP 131 48 = some (.iadd) := rfl
set_option maxRecDepth 100000 in
theorem xb61_49 : j_code jP 131 49 = some (.iaload) := rfl
set_option maxRecDepth 100000 in
theorem xb61_50 : j_code jP 131 50 = some (.invokestatic 158) := rfl
set_option maxRecDepth 100000 in
theorem xb61_53 : j_code jP 131 53 = some (.invokevirtual 104) := rfl
set_option maxRecDepth 100000 in
theorem xb61_56 : j_code jP 131 56 = some (.ireturn) := rfl
set_option maxRecDepth 1000000 in
theorem xb61_ok {mi : Int32} {shu : Int32} {bus : Int32} {lks : Int32} {pev : Int32} {pk : Int32} {pmt : List Int32} {ns : Int32} {nt : Int32} {cel : Int32} {sst : Int32} {x1 x2 : Int32} {d : Nat} {h h0 : J_H} (K : KN h [(0, .inl (9, [.ref 1, .ref 3, .ref 4, .ref 29, .ref 281, .ref 325, .ref 343, .ref 327, .int sst])), (4, .inl (7, [.ref 343, .int mi, .int shu, .int bus, .ref 5, .ref 6, .ref 7, .ref 8, .ref 9, .ref 10, .ref 11, .ref 12, .ref 13, .ref 14, .ref 15, .int lks, .ref 16, .ref 17, .ref 20])), (20, .inl (3, [.ref 21, .ref 22, .ref 23, .ref 24, .ref 25, .ref 26, .ref 27, .ref 28, .int pev, .int pk])), (23, .inr (.inl (0, pmt))), (343, .inl (2, [.int ns, .ref 344, .ref 345, .ref 346, .ref 347, .int nt, .ref 348, .ref 349, .ref 350, .ref 351, .ref 352, .ref 353, .ref 354, .int cel, .ref 355, .ref 356, .ref 357, .ref 358]))] h0) : j_V jP d 131 0 (lv_args 0 [.ref 0, .int x1, .int x2]) [] h (fun rv h' => rv = some (.int (x_qpasses pmt nt sst x1 x2).1) ∧ KN h' [(0, .inl (9, [.ref 1, .ref 3, .ref 4, .ref 29, .ref 281, .ref 325, .ref 343, .ref 327, .int (x_qpasses pmt nt sst x1 x2).2])), (4, .inl (7, [.ref 343, .int mi, .int shu, .int bus, .ref 5, .ref 6, .ref 7, .ref 8, .ref 9, .ref 10, .ref 11, .ref 12, .ref 13, .ref 14, .ref 15, .int lks, .ref 16, .ref 17, .ref 20])), (20, .inl (3, [.ref 21, .ref 22, .ref 23, .ref 24, .ref 25, .ref 26, .ref 27, .ref 28, .int pev, .int pk])), (23, .inr (.inl (0, pmt))), (343, .inl (2, [.int ns, .ref 344, .ref 345, .ref 346, .ref 347, .int nt, .ref 348, .ref 349, .ref 350, .ref 351, .ref 352, .ref 353, .ref 354, .int cel, .ref 355, .ref 356, .ref 357, .ref 358]))] h0) := by
  show j_V jP d 131 0 [(0, .ref 0), (1, .int x1), (2, .int x2)] [] h _
  obtain ⟨lv, elv, L⟩ : ∃ lv, lv = [(0, .ref 0), (1, .int x1), (2, .int x2)] ∧ LK lv [(0, .ref 0), (1, .int x1), (2, .int x2)] := ⟨_, rfl, LK.rf⟩
  rw [← elv]
  clear elv
  refine j_V.ldL xb61_M xb61_0 rfl (i := 0) (kd := 2) (v := .ref 0) (pcJ := 1) rfl L rfl rfl rfl ?_
  refine j_V.ldL xb61_M xb61_1 rfl (i := 1) (kd := 0) (v := .int x1) (pcJ := 2) rfl L rfl rfl rfl ?_
  refine j_V.cl xb61_M xb61_2 rfl (md := 3) (mj := 165) rfl (by decide) xb47_M (As := [.ref 0, .int x1]) (rest := []) (jk_spl3 (K.at rfl) rfl rfl rfl (Nat.le_of_ble_eq_true rfl) (Nat.le_of_ble_eq_true rfl)) (fun d => xb47_ok (K.fi [0, 343] rfl rfl)) ?_
  rintro r hz ⟨rfl, ez⟩
  rw [ez]
  clear ez
  show j_V jP _ 131 5 lv [.int (x_isTrain nt x1)] h _
  refine j_V.ifc xb61_M xb61_5 (t := 16) rfl (fun c5_0 => ?_) (fun c5_0 => ?_)
  · replace c5_0 : (x_isTrain nt x1) = 0 := jd_eq c5_0
    refine j_V.ldL xb61_M xb61_16 rfl (i := 0) (kd := 2) (v := .ref 0) (pcJ := 17) rfl L rfl rfl rfl ?_
    refine j_V.one xb61_M xb61_17 (by decide) (pcJ := 18) (stJ := [.int 2, .ref 0]) rfl ?_
    refine j_V.cl xb61_M xb61_18 rfl (md := 3) (mj := 161) rfl (by decide) xb50_M (As := [.ref 0, .int 2]) (rest := []) (jk_spl3 (K.at rfl) rfl rfl rfl (Nat.le_of_ble_eq_true rfl) (Nat.le_of_ble_eq_true rfl)) (fun d => xb50_ok (K.fi [0] rfl rfl)) ?_
    rintro r h9 ⟨rfl, K9⟩
    generalize ez1 : (x_qrefuse sst 2) = z1 at K9 ⊢
    have K : KN h9 [(0, .inl (9, [.ref 1, .ref 3, .ref 4, .ref 29, .ref 281, .ref 325, .ref 343, .ref 327, .int (z1.2)])), (4, .inl (7, [.ref 343, .int mi, .int shu, .int bus, .ref 5, .ref 6, .ref 7, .ref 8, .ref 9, .ref 10, .ref 11, .ref 12, .ref 13, .ref 14, .ref 15, .int lks, .ref 16, .ref 17, .ref 20])), (20, .inl (3, [.ref 21, .ref 22, .ref 23, .ref 24, .ref 25, .ref 26, .ref 27, .ref 28, .int pev, .int pk])), (23, .inr (.inl (0, pmt))), (343, .inl (2, [.int ns, .ref 344, .ref 345, .ref 346, .ref 347, .int nt, .ref 348, .ref 349, .ref 350, .ref 351, .ref 352, .ref 353, .ref 354, .int cel, .ref 355, .ref 356, .ref 357, .ref 358]))] h0 := K.mg K9 rfl rfl
    clear K9
    show j_V jP _ 131 21 lv [.int (z1.1)] h9 _
    subst ez1
    refine j_V.ri xb61_M xb61_21 ?_
    rw [show (x_qpasses pmt nt sst x1 x2) = _ from ((if_pos c5_0).trans (rfl))]
    exact ⟨rfl, K⟩
  · replace c5_0 : ¬ ((x_isTrain nt x1) = 0) := jd_eqn c5_0
    refine j_V.ldL xb61_M xb61_8 rfl (i := 0) (kd := 2) (v := .ref 0) (pcJ := 9) rfl L rfl rfl rfl ?_
    refine j_V.ldL xb61_M xb61_9 rfl (i := 2) (kd := 0) (v := .int x2) (pcJ := 10) rfl L rfl rfl rfl ?_
    refine j_V.cl xb61_M xb61_10 rfl (md := 3) (mj := 165) rfl (by decide) xb47_M (As := [.ref 0, .int x2]) (rest := []) (jk_spl3 (K.at rfl) rfl rfl rfl (Nat.le_of_ble_eq_true rfl) (Nat.le_of_ble_eq_true rfl)) (fun d => xb47_ok (K.fi [0, 343] rfl rfl)) ?_
    rintro r hz ⟨rfl, ez⟩
    rw [ez]
    clear ez
    show j_V jP _ 131 13 lv [.int (x_isTrain nt x2)] h _
    refine j_V.ifc xb61_M xb61_13 (t := 22) rfl (fun c13_1 => ?_) (fun c13_1 => ?_)
    · replace c13_1 : ¬ ((x_isTrain nt x2) = 0) := jd_ne c13_1
      refine j_V.ldL xb61_M xb61_22 rfl (i := 1) (kd := 0) (v := .int x1) (pcJ := 23) rfl L rfl rfl rfl ?_
      refine j_V.ldL xb61_M xb61_23 rfl (i := 2) (kd := 0) (v := .int x2) (pcJ := 24) rfl L rfl rfl rfl ?_
      refine j_V.icmp xb61_M xb61_24 (t := 33) rfl (fun c24_2 => ?_) (fun c24_2 => ?_)
      · replace c24_2 : ¬ (x1 = x2) := jd_ne c24_2
        refine j_V.ldL xb61_M xb61_33 rfl (i := 0) (kd := 2) (v := .ref 0) (pcJ := 34) rfl L rfl rfl rfl ?_
        refine j_V.ldL xb61_M xb61_34 rfl (i := 0) (kd := 2) (v := .ref 0) (pcJ := 35) rfl L rfl rfl rfl ?_
        refine j_V.getK xb61_M xb61_35 (ci := 9) (j := 2) rfl K rfl rfl ?_
        refine j_V.getK xb61_M xb61_38 (ci := 7) (j := 18) rfl K rfl rfl ?_
        refine j_V.getK xb61_M xb61_41 (ci := 3) (j := 2) rfl K rfl rfl ?_
        refine j_V.ldL xb61_M xb61_44 rfl (i := 1) (kd := 0) (v := .int x1) (pcJ := 45) rfl L rfl rfl rfl ?_
        refine j_V.one xb61_M xb61_45 (by decide) (pcJ := 46) (stJ := [.int 5, .int x1, .ref 23, .ref 0]) rfl ?_
        refine j_V.one xb61_M xb61_46 (by decide) (pcJ := 47) (stJ := [.int (x1 * 5), .ref 23, .ref 0]) rfl ?_
        refine j_V.ldL xb61_M xb61_47 rfl (i := 2) (kd := 0) (v := .int x2) (pcJ := 48) rfl L rfl rfl rfl ?_
        refine j_V.one xb61_M xb61_48 (by decide) (pcJ := 49) (stJ := [.int ((x1 * 5) + x2), .ref 23, .ref 0]) rfl ?_
        refine j_V.iaA xb61_M xb61_49 K rfl ?_
        refine j_V.cl xb61_M xb61_50 rfl (md := 2) (mj := 298) rfl (by decide) xbbc_M (As := [.int (gA pmt ((x1 * 5) + x2))]) (rest := [.ref 0]) (jk_spl2 rfl rfl (Nat.le_of_ble_eq_true rfl) (Nat.le_of_ble_eq_true rfl)) (fun d => xbbc_ok (K.fi [] rfl rfl)) ?_
        rintro r hz ⟨rfl, ez⟩
        rw [ez]
        clear ez
        show j_V jP _ 131 53 lv [.int (x_bitCount (gA pmt ((x1 * 5) + x2))), .ref 0] h _
        refine j_V.cl xb61_M xb61_53 rfl (md := 3) (mj := 159) rfl (by decide) xb49_M (As := [.ref 0, .int (x_bitCount (gA pmt ((x1 * 5) + x2)))]) (rest := []) (jk_spl3 (K.at rfl) rfl rfl rfl (Nat.le_of_ble_eq_true rfl) (Nat.le_of_ble_eq_true rfl)) (fun d => xb49_ok (K.fi [0] rfl rfl)) ?_
        rintro r h9 ⟨rfl, K9⟩
        generalize ez2 : (x_qanswer sst (x_bitCount (gA pmt ((x1 * 5) + x2)))) = z2 at K9 ⊢
        have K : KN h9 [(0, .inl (9, [.ref 1, .ref 3, .ref 4, .ref 29, .ref 281, .ref 325, .ref 343, .ref 327, .int (z2.2)])), (4, .inl (7, [.ref 343, .int mi, .int shu, .int bus, .ref 5, .ref 6, .ref 7, .ref 8, .ref 9, .ref 10, .ref 11, .ref 12, .ref 13, .ref 14, .ref 15, .int lks, .ref 16, .ref 17, .ref 20])), (20, .inl (3, [.ref 21, .ref 22, .ref 23, .ref 24, .ref 25, .ref 26, .ref 27, .ref 28, .int pev, .int pk])), (23, .inr (.inl (0, pmt))), (343, .inl (2, [.int ns, .ref 344, .ref 345, .ref 346, .ref 347, .int nt, .ref 348, .ref 349, .ref 350, .ref 351, .ref 352, .ref 353, .ref 354, .int cel, .ref 355, .ref 356, .ref 357, .ref 358]))] h0 := K.mg K9 rfl rfl
        clear K9
        show j_V jP _ 131 56 lv [.int (z2.1)] h9 _
        subst ez2
        refine j_V.ri xb61_M xb61_56 ?_
        rw [show (x_qpasses pmt nt sst x1 x2) = _ from ((if_neg c5_0).trans ((if_neg c13_1).trans ((if_neg c24_2).trans (rfl))))]
        exact ⟨rfl, K⟩
      · replace c24_2 : x1 = x2 := jd_nen c24_2
        refine j_V.ldL xb61_M xb61_27 rfl (i := 0) (kd := 2) (v := .ref 0) (pcJ := 28) rfl L rfl rfl rfl ?_
        refine j_V.one xb61_M xb61_28 (by decide) (pcJ := 29) (stJ := [.int 4, .ref 0]) rfl ?_
        refine j_V.cl xb61_M xb61_29 rfl (md := 3) (mj := 161) rfl (by decide) xb50_M (As := [.ref 0, .int 4]) (rest := []) (jk_spl3 (K.at rfl) rfl rfl rfl (Nat.le_of_ble_eq_true rfl) (Nat.le_of_ble_eq_true rfl)) (fun d => xb50_ok (K.fi [0] rfl rfl)) ?_
        rintro r h9 ⟨rfl, K9⟩
        generalize ez3 : (x_qrefuse sst 4) = z3 at K9 ⊢
        have K : KN h9 [(0, .inl (9, [.ref 1, .ref 3, .ref 4, .ref 29, .ref 281, .ref 325, .ref 343, .ref 327, .int (z3.2)])), (4, .inl (7, [.ref 343, .int mi, .int shu, .int bus, .ref 5, .ref 6, .ref 7, .ref 8, .ref 9, .ref 10, .ref 11, .ref 12, .ref 13, .ref 14, .ref 15, .int lks, .ref 16, .ref 17, .ref 20])), (20, .inl (3, [.ref 21, .ref 22, .ref 23, .ref 24, .ref 25, .ref 26, .ref 27, .ref 28, .int pev, .int pk])), (23, .inr (.inl (0, pmt))), (343, .inl (2, [.int ns, .ref 344, .ref 345, .ref 346, .ref 347, .int nt, .ref 348, .ref 349, .ref 350, .ref 351, .ref 352, .ref 353, .ref 354, .int cel, .ref 355, .ref 356, .ref 357, .ref 358]))] h0 := K.mg K9 rfl rfl
        clear K9
        show j_V jP _ 131 32 lv [.int (z3.1)] h9 _
        subst ez3
        refine j_V.ri xb61_M xb61_32 ?_
        rw [show (x_qpasses pmt nt sst x1 x2) = _ from ((if_neg c5_0).trans ((if_neg c13_1).trans ((if_pos c24_2).trans (rfl))))]
        exact ⟨rfl, K⟩
    · replace c13_1 : (x_isTrain nt x2) = 0 := jd_nen c13_1
      refine j_V.ldL xb61_M xb61_16 rfl (i := 0) (kd := 2) (v := .ref 0) (pcJ := 17) rfl L rfl rfl rfl ?_
      refine j_V.one xb61_M xb61_17 (by decide) (pcJ := 18) (stJ := [.int 2, .ref 0]) rfl ?_
      refine j_V.cl xb61_M xb61_18 rfl (md := 3) (mj := 161) rfl (by decide) xb50_M (As := [.ref 0, .int 2]) (rest := []) (jk_spl3 (K.at rfl) rfl rfl rfl (Nat.le_of_ble_eq_true rfl) (Nat.le_of_ble_eq_true rfl)) (fun d => xb50_ok (K.fi [0] rfl rfl)) ?_
      rintro r h9 ⟨rfl, K9⟩
      generalize ez4 : (x_qrefuse sst 2) = z4 at K9 ⊢
      have K : KN h9 [(0, .inl (9, [.ref 1, .ref 3, .ref 4, .ref 29, .ref 281, .ref 325, .ref 343, .ref 327, .int (z4.2)])), (4, .inl (7, [.ref 343, .int mi, .int shu, .int bus, .ref 5, .ref 6, .ref 7, .ref 8, .ref 9, .ref 10, .ref 11, .ref 12, .ref 13, .ref 14, .ref 15, .int lks, .ref 16, .ref 17, .ref 20])), (20, .inl (3, [.ref 21, .ref 22, .ref 23, .ref 24, .ref 25, .ref 26, .ref 27, .ref 28, .int pev, .int pk])), (23, .inr (.inl (0, pmt))), (343, .inl (2, [.int ns, .ref 344, .ref 345, .ref 346, .ref 347, .int nt, .ref 348, .ref 349, .ref 350, .ref 351, .ref 352, .ref 353, .ref 354, .int cel, .ref 355, .ref 356, .ref 357, .ref 358]))] h0 := K.mg K9 rfl rfl
      clear K9
      show j_V jP _ 131 21 lv [.int (z4.1)] h9 _
      subst ez4
      refine j_V.ri xb61_M xb61_21 ?_
      rw [show (x_qpasses pmt nt sst x1 x2) = _ from ((if_neg c5_0).trans ((if_pos c13_1).trans (rfl)))]
      exact ⟨rfl, K⟩
set_option maxRecDepth 100000 in
theorem xb62_M : j_meth jP 132 = some (yX9_stood, cX9_stood, 2, (some .int), 1, false, 9) := rfl
set_option maxRecDepth 100000 in
theorem xb62_0 : j_code jP 132 0 = some (.aload_n 0) := rfl
set_option maxRecDepth 100000 in
theorem xb62_1 : j_code jP 132 1 = some (.iload_n 1) := rfl
set_option maxRecDepth 100000 in
theorem xb62_2 : j_code jP 132 2 = some (.invokevirtual 142) := rfl
set_option maxRecDepth 100000 in
theorem xb62_5 : j_code jP 132 5 = some (.ifCond .ne 9) := rfl
set_option maxRecDepth 100000 in
theorem xb62_8 : j_code jP 132 8 = some (.aload_n 0) := rfl
set_option maxRecDepth 100000 in
theorem xb62_9 : j_code jP 132 9 = some (.iconst 2) := rfl
set_option maxRecDepth 100000 in
theorem xb62_10 : j_code jP 132 10 = some (.invokevirtual 84) := rfl
set_option maxRecDepth 100000 in
theorem xb62_13 : j_code jP 132 13 = some (.ireturn) := rfl
set_option maxRecDepth 100000 in
theorem xb62_14 : j_code jP 132 14 = some (.aload_n 0) := rfl
set_option maxRecDepth 100000 in
theorem xb62_15 : j_code jP 132 15 = some (.aload_n 0) := rfl
set_option maxRecDepth 100000 in
theorem xb62_16 : j_code jP 132 16 = some (.getfield 30) := rfl
set_option maxRecDepth 100000 in
theorem xb62_19 : j_code jP 132 19 = some (.getfield 280) := rfl
set_option maxRecDepth 100000 in
theorem xb62_22 : j_code jP 132 22 = some (.getfield 295) := rfl
set_option maxRecDepth 100000 in
theorem xb62_25 : j_code jP 132 25 = some (.iload_n 1) := rfl
set_option maxRecDepth 100000 in
theorem xb62_26 : j_code jP 132 26 = some (.iaload) := rfl
set_option maxRecDepth 100000 in
theorem xb62_27 : j_code jP 132 27 = some (.invokevirtual 104) := rfl
set_option maxRecDepth 100000 in
theorem xb62_30 : j_code jP 132 30 = some (.ireturn) := rfl
set_option maxRecDepth 1000000 in
theorem xb62_ok {mi : Int32} {shu : Int32} {bus : Int32} {lks : Int32} {pev : Int32} {pk : Int32} {pst : List Int32} {ns : Int32} {nt : Int32} {cel : Int32} {sst : Int32} {x1 : Int32} {d : Nat} {h h0 : J_H} (K : KN h [(0, .inl (9, [.ref 1, .ref 3, .ref 4, .ref 29, .ref 281, .ref 325, .ref 343, .ref 327, .int sst])), (4, .inl (7, [.ref 343, .int mi, .int shu, .int bus, .ref 5, .ref 6, .ref 7, .ref 8, .ref 9, .ref 10, .ref 11, .ref 12, .ref 13, .ref 14, .ref 15, .int lks, .ref 16, .ref 17, .ref 20])), (20, .inl (3, [.ref 21, .ref 22, .ref 23, .ref 24, .ref 25, .ref 26, .ref 27, .ref 28, .int pev, .int pk])), (24, .inr (.inl (0, pst))), (343, .inl (2, [.int ns, .ref 344, .ref 345, .ref 346, .ref 347, .int nt, .ref 348, .ref 349, .ref 350, .ref 351, .ref 352, .ref 353, .ref 354, .int cel, .ref 355, .ref 356, .ref 357, .ref 358]))] h0) : j_V jP d 132 0 (lv_args 0 [.ref 0, .int x1]) [] h (fun rv h' => rv = some (.int (x_qstood pst ns sst x1).1) ∧ KN h' [(0, .inl (9, [.ref 1, .ref 3, .ref 4, .ref 29, .ref 281, .ref 325, .ref 343, .ref 327, .int (x_qstood pst ns sst x1).2])), (4, .inl (7, [.ref 343, .int mi, .int shu, .int bus, .ref 5, .ref 6, .ref 7, .ref 8, .ref 9, .ref 10, .ref 11, .ref 12, .ref 13, .ref 14, .ref 15, .int lks, .ref 16, .ref 17, .ref 20])), (20, .inl (3, [.ref 21, .ref 22, .ref 23, .ref 24, .ref 25, .ref 26, .ref 27, .ref 28, .int pev, .int pk])), (24, .inr (.inl (0, pst))), (343, .inl (2, [.int ns, .ref 344, .ref 345, .ref 346, .ref 347, .int nt, .ref 348, .ref 349, .ref 350, .ref 351, .ref 352, .ref 353, .ref 354, .int cel, .ref 355, .ref 356, .ref 357, .ref 358]))] h0) := by
  show j_V jP d 132 0 [(0, .ref 0), (1, .int x1)] [] h _
  obtain ⟨lv, elv, L⟩ : ∃ lv, lv = [(0, .ref 0), (1, .int x1)] ∧ LK lv [(0, .ref 0), (1, .int x1)] := ⟨_, rfl, LK.rf⟩
  rw [← elv]
  clear elv
  refine j_V.ldL xb62_M xb62_0 rfl (i := 0) (kd := 2) (v := .ref 0) (pcJ := 1) rfl L rfl rfl rfl ?_
  refine j_V.ldL xb62_M xb62_1 rfl (i := 1) (kd := 0) (v := .int x1) (pcJ := 2) rfl L rfl rfl rfl ?_
  refine j_V.cl xb62_M xb62_2 rfl (md := 3) (mj := 163) rfl (by decide) xb45_M (As := [.ref 0, .int x1]) (rest := []) (jk_spl3 (K.at rfl) rfl rfl rfl (Nat.le_of_ble_eq_true rfl) (Nat.le_of_ble_eq_true rfl)) (fun d => xb45_ok (K.fi [0, 343] rfl rfl)) ?_
  rintro r hz ⟨rfl, ez⟩
  rw [ez]
  clear ez
  show j_V jP _ 132 5 lv [.int (x_isStation ns x1)] h _
  refine j_V.ifc xb62_M xb62_5 (t := 14) rfl (fun c5_0 => ?_) (fun c5_0 => ?_)
  · replace c5_0 : ¬ ((x_isStation ns x1) = 0) := jd_ne c5_0
    refine j_V.ldL xb62_M xb62_14 rfl (i := 0) (kd := 2) (v := .ref 0) (pcJ := 15) rfl L rfl rfl rfl ?_
    refine j_V.ldL xb62_M xb62_15 rfl (i := 0) (kd := 2) (v := .ref 0) (pcJ := 16) rfl L rfl rfl rfl ?_
    refine j_V.getK xb62_M xb62_16 (ci := 9) (j := 2) rfl K rfl rfl ?_
    refine j_V.getK xb62_M xb62_19 (ci := 7) (j := 18) rfl K rfl rfl ?_
    refine j_V.getK xb62_M xb62_22 (ci := 3) (j := 3) rfl K rfl rfl ?_
    refine j_V.ldL xb62_M xb62_25 rfl (i := 1) (kd := 0) (v := .int x1) (pcJ := 26) rfl L rfl rfl rfl ?_
    refine j_V.iaA xb62_M xb62_26 K rfl ?_
    refine j_V.cl xb62_M xb62_27 rfl (md := 3) (mj := 159) rfl (by decide) xb49_M (As := [.ref 0, .int (gA pst x1)]) (rest := []) (jk_spl3 (K.at rfl) rfl rfl rfl (Nat.le_of_ble_eq_true rfl) (Nat.le_of_ble_eq_true rfl)) (fun d => xb49_ok (K.fi [0] rfl rfl)) ?_
    rintro r h9 ⟨rfl, K9⟩
    generalize ez1 : (x_qanswer sst (gA pst x1)) = z1 at K9 ⊢
    have K : KN h9 [(0, .inl (9, [.ref 1, .ref 3, .ref 4, .ref 29, .ref 281, .ref 325, .ref 343, .ref 327, .int (z1.2)])), (4, .inl (7, [.ref 343, .int mi, .int shu, .int bus, .ref 5, .ref 6, .ref 7, .ref 8, .ref 9, .ref 10, .ref 11, .ref 12, .ref 13, .ref 14, .ref 15, .int lks, .ref 16, .ref 17, .ref 20])), (20, .inl (3, [.ref 21, .ref 22, .ref 23, .ref 24, .ref 25, .ref 26, .ref 27, .ref 28, .int pev, .int pk])), (24, .inr (.inl (0, pst))), (343, .inl (2, [.int ns, .ref 344, .ref 345, .ref 346, .ref 347, .int nt, .ref 348, .ref 349, .ref 350, .ref 351, .ref 352, .ref 353, .ref 354, .int cel, .ref 355, .ref 356, .ref 357, .ref 358]))] h0 := K.mg K9 rfl rfl
    clear K9
    show j_V jP _ 132 30 lv [.int (z1.1)] h9 _
    subst ez1
    refine j_V.ri xb62_M xb62_30 ?_
    rw [show (x_qstood pst ns sst x1) = _ from ((if_neg c5_0).trans (rfl))]
    exact ⟨rfl, K⟩
  · replace c5_0 : (x_isStation ns x1) = 0 := jd_nen c5_0
    refine j_V.ldL xb62_M xb62_8 rfl (i := 0) (kd := 2) (v := .ref 0) (pcJ := 9) rfl L rfl rfl rfl ?_
    refine j_V.one xb62_M xb62_9 (by decide) (pcJ := 10) (stJ := [.int 2, .ref 0]) rfl ?_
    refine j_V.cl xb62_M xb62_10 rfl (md := 3) (mj := 161) rfl (by decide) xb50_M (As := [.ref 0, .int 2]) (rest := []) (jk_spl3 (K.at rfl) rfl rfl rfl (Nat.le_of_ble_eq_true rfl) (Nat.le_of_ble_eq_true rfl)) (fun d => xb50_ok (K.fi [0] rfl rfl)) ?_
    rintro r h9 ⟨rfl, K9⟩
    generalize ez2 : (x_qrefuse sst 2) = z2 at K9 ⊢
    have K : KN h9 [(0, .inl (9, [.ref 1, .ref 3, .ref 4, .ref 29, .ref 281, .ref 325, .ref 343, .ref 327, .int (z2.2)])), (4, .inl (7, [.ref 343, .int mi, .int shu, .int bus, .ref 5, .ref 6, .ref 7, .ref 8, .ref 9, .ref 10, .ref 11, .ref 12, .ref 13, .ref 14, .ref 15, .int lks, .ref 16, .ref 17, .ref 20])), (20, .inl (3, [.ref 21, .ref 22, .ref 23, .ref 24, .ref 25, .ref 26, .ref 27, .ref 28, .int pev, .int pk])), (24, .inr (.inl (0, pst))), (343, .inl (2, [.int ns, .ref 344, .ref 345, .ref 346, .ref 347, .int nt, .ref 348, .ref 349, .ref 350, .ref 351, .ref 352, .ref 353, .ref 354, .int cel, .ref 355, .ref 356, .ref 357, .ref 358]))] h0 := K.mg K9 rfl rfl
    clear K9
    show j_V jP _ 132 13 lv [.int (z2.1)] h9 _
    subst ez2
    refine j_V.ri xb62_M xb62_13 ?_
    rw [show (x_qstood pst ns sst x1) = _ from ((if_pos c5_0).trans (rfl))]
    exact ⟨rfl, K⟩
set_option maxRecDepth 100000 in
theorem xb63_M : j_meth jP 133 = some (yX9_late, cX9_late, 5, (some .int), 2, false, 9) := rfl
set_option maxRecDepth 100000 in
theorem xb63_0 : j_code jP 133 0 = some (.aload_n 0) := rfl
set_option maxRecDepth 100000 in
theorem xb63_1 : j_code jP 133 1 = some (.iload_n 1) := rfl
set_option maxRecDepth 100000 in
theorem xb63_2 : j_code jP 133 2 = some (.invokevirtual 184) := rfl
set_option maxRecDepth 100000 in
theorem xb63_5 : j_code jP 133 5 = some (.ifCond .eq 11) := rfl
set_option maxRecDepth 100000 in
theorem xb63_8 : j_code jP 133 8 = some (.aload_n 0) := rfl
set_option maxRecDepth 100000 in
theorem xb63_9 : j_code jP 133 9 = some (.iload_n 2) := rfl
set_option maxRecDepth 100000 in
theorem xb63_10 : j_code jP 133 10 = some (.invokevirtual 142) := rfl
set_option maxRecDepth 100000 in
theorem xb63_13 : j_code jP 133 13 = some (.ifCond .ne 9) := rfl
set_option maxRecDepth 100000 in
theorem xb63_16 : j_code jP 133 16 = some (.aload_n 0) := rfl
set_option maxRecDepth 100000 in
theorem xb63_17 : j_code jP 133 17 = some (.iconst 2) := rfl
set_option maxRecDepth 100000 in
theorem xb63_18 : j_code jP 133 18 = some (.invokevirtual 84) := rfl
set_option maxRecDepth 100000 in
theorem xb63_21 : j_code jP 133 21 = some (.ireturn) := rfl
set_option maxRecDepth 100000 in
theorem xb63_22 : j_code jP 133 22 = some (.aload_n 0) := rfl
set_option maxRecDepth 100000 in
theorem xb63_23 : j_code jP 133 23 = some (.getfield 30) := rfl
set_option maxRecDepth 100000 in
theorem xb63_26 : j_code jP 133 26 = some (.getfield 277) := rfl
set_option maxRecDepth 100000 in
theorem xb63_29 : j_code jP 133 29 = some (.iload_n 1) := rfl
set_option maxRecDepth 100000 in
theorem xb63_30 : j_code jP 133 30 = some (.bipush 7) := rfl
set_option maxRecDepth 100000 in
theorem xb63_32 : j_code jP 133 32 = some (.imul) := rfl
set_option maxRecDepth 100000 in
theorem xb63_33 : j_code jP 133 33 = some (.iload_n 2) := rfl
set_option maxRecDepth 100000 in
theorem xb63_34 : j_code jP 133 34 = some (.iadd) := rfl
set_option maxRecDepth 100000 in
theorem xb63_35 : j_code jP 133 35 = some (.iaload) := rfl
set_option maxRecDepth 100000 in
theorem xb63_36 : j_code jP 133 36 = some (.istore_n 3) := rfl
set_option maxRecDepth 100000 in
theorem xb63_37 : j_code jP 133 37 = some (.iload_n 3) := rfl
set_option maxRecDepth 100000 in
theorem xb63_38 : j_code jP 133 38 = some (.iconst (-1)) := rfl
set_option maxRecDepth 100000 in
theorem xb63_39 : j_code jP 133 39 = some (.if_icmp .ne 9) := rfl
set_option maxRecDepth 100000 in
theorem xb63_42 : j_code jP 133 42 = some (.aload_n 0) := rfl
set_option maxRecDepth 100000 in
theorem xb63_43 : j_code jP 133 43 = some (.iconst 5) := rfl
set_option maxRecDepth 100000 in
theorem xb63_44 : j_code jP 133 44 = some (.invokevirtual 84) := rfl
set_option maxRecDepth 100000 in
theorem xb63_47 : j_code jP 133 47 = some (.ireturn) := rfl
set_option maxRecDepth 100000 in
theorem xb63_48 : j_code jP 133 48 = some (.aload_n 0) := rfl
set_option maxRecDepth 100000 in
theorem xb63_49 : j_code jP 133 49 = some (.getfield 30) := rfl
set_option maxRecDepth 100000 in
theorem xb63_52 : j_code jP 133 52 = some (.getfield 196) := rfl
set_option maxRecDepth 100000 in
theorem xb63_55 : j_code jP 133 55 = some (.iload_n 1) := rfl
set_option maxRecDepth 100000 in
theorem xb63_56 : j_code jP 133 56 = some (.iaload) := rfl
set_option maxRecDepth 100000 in
theorem xb63_57 : j_code jP 133 57 = some (.istore 4) := rfl
set_option maxRecDepth 100000 in
theorem xb63_59 : j_code jP 133 59 = some (.iload_n 2) := rfl
set_option maxRecDepth 100000 in
theorem xb63_60 : j_code jP 133 60 = some (.aload_n 0) := rfl
set_option maxRecDepth 100000 in
theorem xb63_61 : j_code jP 133 61 = some (.getfield 58) := rfl
set_option maxRecDepth 100000 in
theorem xb63_64 : j_code jP 133 64 = some (.getfield 190) := rfl
set_option maxRecDepth 100000 in
theorem xb63_67 : j_code jP 133 67 = some (.iload_n 1) := rfl
set_option maxRecDepth 100000 in
theorem xb63_68 : j_code jP 133 68 = some (.iaload) := rfl
set_option maxRecDepth 100000 in
theorem xb63_69 : j_code jP 133 69 = some (.if_icmp .eq 19) := rfl
set_option maxRecDepth 100000 in
theorem xb63_72 : j_code jP 133 72 = some (.iload 4) := rfl
set_option maxRecDepth 100000 in
theorem xb63_74 : j_code jP 133 74 = some (.iconst 1) := rfl
set_option maxRecDepth 100000 in
theorem xb63_75 : j_code jP 133 75 = some (.aload_n 0) := rfl
set_option maxRecDepth 100000 in
theorem xb63_76 : j_code jP 133 76 = some (.getfield 58) := rfl
set_option maxRecDepth 100000 in
theorem xb63_79 : j_code jP 133 79 = some (.iload_n 1) := rfl
set_option maxRecDepth 100000 in
theorem xb63_80 : j_code jP 133 80 = some (.iload_n 2) := rfl
set_option maxRecDepth 100000 in
theorem xb63_81 : j_code jP 133 81 = some (.invokevirtual 298) := rfl
set_option maxRecDepth 100000 in
theorem xb63_84 : j_code jP 133 84 = some (.iadd) := rfl
set_option maxRecDepth 100000 in
theorem xb63_85 : j_code jP 133 85 = some (.iadd) := rfl
set_option maxRecDepth 100000 in
theorem xb63_86 : j_code jP 133 86 = some (.istore 4) := rfl
set_option maxRecDepth 100000 in
theorem xb63_88 : j_code jP 133 88 = some (.aload_n 0) := rfl
set_option maxRecDepth 100000 in
theorem xb63_89 : j_code jP 133 89 = some (.iload_n 3) := rfl
set_option maxRecDepth 100000 in
theorem xb63_90 : j_code jP 133 90 = some (.iload 4) := rfl
set_option maxRecDepth 100000 in
theorem xb63_92 : j_code jP 133 92 = some (.isub) := rfl
set_option maxRecDepth 100000 in
theorem xb63_93 : j_code jP 133 93 = some (.invokevirtual 104) := rfl
set_option maxRecDepth 100000 in
theorem xb63_96 : j_code jP 133 96 = some (.ireturn) := rfl
set_option maxRecDepth 1000000 in
theorem xb63_ok {mi : Int32} {shu : Int32} {bus : Int32} {lks : Int32} {sta : List Int32} {cm : List Int32} {ns : Int32} {nt : Int32} {cel : Int32} {frm : List Int32} {rid : List Int32} {sst : Int32} {x1 x2 : Int32} {d : Nat} {h h0 : J_H} (K : KN h [(0, .inl (9, [.ref 1, .ref 3, .ref 4, .ref 29, .ref 281, .ref 325, .ref 343, .ref 327, .int sst])), (4, .inl (7, [.ref 343, .int mi, .int shu, .int bus, .ref 5, .ref 6, .ref 7, .ref 8, .ref 9, .ref 10, .ref 11, .ref 12, .ref 13, .ref 14, .ref 15, .int lks, .ref 16, .ref 17, .ref 20])), (6, .inr (.inl (0, sta))), (14, .inr (.inl (0, cm))), (343, .inl (2, [.int ns, .ref 344, .ref 345, .ref 346, .ref 347, .int nt, .ref 348, .ref 349, .ref 350, .ref 351, .ref 352, .ref 353, .ref 354, .int cel, .ref 355, .ref 356, .ref 357, .ref 358])), (350, .inr (.inl (0, frm))), (357, .inr (.inl (0, rid)))] h0) : j_V jP d 133 0 (lv_args 0 [.ref 0, .int x1, .int x2]) [] h (fun rv h' => rv = some (.int (x_qlate sta cm ns nt frm rid sst x1 x2).1) ∧ KN h' [(0, .inl (9, [.ref 1, .ref 3, .ref 4, .ref 29, .ref 281, .ref 325, .ref 343, .ref 327, .int (x_qlate sta cm ns nt frm rid sst x1 x2).2])), (4, .inl (7, [.ref 343, .int mi, .int shu, .int bus, .ref 5, .ref 6, .ref 7, .ref 8, .ref 9, .ref 10, .ref 11, .ref 12, .ref 13, .ref 14, .ref 15, .int lks, .ref 16, .ref 17, .ref 20])), (6, .inr (.inl (0, sta))), (14, .inr (.inl (0, cm))), (343, .inl (2, [.int ns, .ref 344, .ref 345, .ref 346, .ref 347, .int nt, .ref 348, .ref 349, .ref 350, .ref 351, .ref 352, .ref 353, .ref 354, .int cel, .ref 355, .ref 356, .ref 357, .ref 358])), (350, .inr (.inl (0, frm))), (357, .inr (.inl (0, rid)))] h0) := by
  show j_V jP d 133 0 [(0, .ref 0), (1, .int x1), (2, .int x2)] [] h _
  obtain ⟨lv, elv, L⟩ : ∃ lv, lv = [(0, .ref 0), (1, .int x1), (2, .int x2)] ∧ LK lv [(0, .ref 0), (1, .int x1), (2, .int x2)] := ⟨_, rfl, LK.rf⟩
  rw [← elv]
  clear elv
  refine j_V.ldL xb63_M xb63_0 rfl (i := 0) (kd := 2) (v := .ref 0) (pcJ := 1) rfl L rfl rfl rfl ?_
  refine j_V.ldL xb63_M xb63_1 rfl (i := 1) (kd := 0) (v := .int x1) (pcJ := 2) rfl L rfl rfl rfl ?_
  refine j_V.cl xb63_M xb63_2 rfl (md := 3) (mj := 165) rfl (by decide) xb47_M (As := [.ref 0, .int x1]) (rest := []) (jk_spl3 (K.at rfl) rfl rfl rfl (Nat.le_of_ble_eq_true rfl) (Nat.le_of_ble_eq_true rfl)) (fun d => xb47_ok (K.fi [0, 343] rfl rfl)) ?_
  rintro r hz ⟨rfl, ez⟩
  rw [ez]
  clear ez
  show j_V jP _ 133 5 lv [.int (x_isTrain nt x1)] h _
  refine j_V.ifc xb63_M xb63_5 (t := 16) rfl (fun c5_0 => ?_) (fun c5_0 => ?_)
  · replace c5_0 : (x_isTrain nt x1) = 0 := jd_eq c5_0
    refine j_V.ldL xb63_M xb63_16 rfl (i := 0) (kd := 2) (v := .ref 0) (pcJ := 17) rfl L rfl rfl rfl ?_
    refine j_V.one xb63_M xb63_17 (by decide) (pcJ := 18) (stJ := [.int 2, .ref 0]) rfl ?_
    refine j_V.cl xb63_M xb63_18 rfl (md := 3) (mj := 161) rfl (by decide) xb50_M (As := [.ref 0, .int 2]) (rest := []) (jk_spl3 (K.at rfl) rfl rfl rfl (Nat.le_of_ble_eq_true rfl) (Nat.le_of_ble_eq_true rfl)) (fun d => xb50_ok (K.fi [0] rfl rfl)) ?_
    rintro r h9 ⟨rfl, K9⟩
    generalize ez1 : (x_qrefuse sst 2) = z1 at K9 ⊢
    have K : KN h9 [(0, .inl (9, [.ref 1, .ref 3, .ref 4, .ref 29, .ref 281, .ref 325, .ref 343, .ref 327, .int (z1.2)])), (4, .inl (7, [.ref 343, .int mi, .int shu, .int bus, .ref 5, .ref 6, .ref 7, .ref 8, .ref 9, .ref 10, .ref 11, .ref 12, .ref 13, .ref 14, .ref 15, .int lks, .ref 16, .ref 17, .ref 20])), (6, .inr (.inl (0, sta))), (14, .inr (.inl (0, cm))), (343, .inl (2, [.int ns, .ref 344, .ref 345, .ref 346, .ref 347, .int nt, .ref 348, .ref 349, .ref 350, .ref 351, .ref 352, .ref 353, .ref 354, .int cel, .ref 355, .ref 356, .ref 357, .ref 358])), (350, .inr (.inl (0, frm))), (357, .inr (.inl (0, rid)))] h0 := K.mg K9 rfl rfl
    clear K9
    show j_V jP _ 133 21 lv [.int (z1.1)] h9 _
    subst ez1
    refine j_V.ri xb63_M xb63_21 ?_
    rw [show (x_qlate sta cm ns nt frm rid sst x1 x2) = _ from ((if_pos c5_0).trans (rfl))]
    exact ⟨rfl, K⟩
  · replace c5_0 : ¬ ((x_isTrain nt x1) = 0) := jd_eqn c5_0
    refine j_V.ldL xb63_M xb63_8 rfl (i := 0) (kd := 2) (v := .ref 0) (pcJ := 9) rfl L rfl rfl rfl ?_
    refine j_V.ldL xb63_M xb63_9 rfl (i := 2) (kd := 0) (v := .int x2) (pcJ := 10) rfl L rfl rfl rfl ?_
    refine j_V.cl xb63_M xb63_10 rfl (md := 3) (mj := 163) rfl (by decide) xb45_M (As := [.ref 0, .int x2]) (rest := []) (jk_spl3 (K.at rfl) rfl rfl rfl (Nat.le_of_ble_eq_true rfl) (Nat.le_of_ble_eq_true rfl)) (fun d => xb45_ok (K.fi [0, 343] rfl rfl)) ?_
    rintro r hz ⟨rfl, ez⟩
    rw [ez]
    clear ez
    show j_V jP _ 133 13 lv [.int (x_isStation ns x2)] h _
    refine j_V.ifc xb63_M xb63_13 (t := 22) rfl (fun c13_1 => ?_) (fun c13_1 => ?_)
    · replace c13_1 : ¬ ((x_isStation ns x2) = 0) := jd_ne c13_1
      refine j_V.ldL xb63_M xb63_22 rfl (i := 0) (kd := 2) (v := .ref 0) (pcJ := 23) rfl L rfl rfl rfl ?_
      refine j_V.getK xb63_M xb63_23 (ci := 9) (j := 2) rfl K rfl rfl ?_
      refine j_V.getK xb63_M xb63_26 (ci := 7) (j := 13) rfl K rfl rfl ?_
      refine j_V.ldL xb63_M xb63_29 rfl (i := 1) (kd := 0) (v := .int x1) (pcJ := 30) rfl L rfl rfl rfl ?_
      refine j_V.one xb63_M xb63_30 (by decide) (pcJ := 32) (stJ := [.int 7, .int x1, .ref 14]) rfl ?_
      refine j_V.one xb63_M xb63_32 (by decide) (pcJ := 33) (stJ := [.int (x1 * 7), .ref 14]) rfl ?_
      refine j_V.ldL xb63_M xb63_33 rfl (i := 2) (kd := 0) (v := .int x2) (pcJ := 34) rfl L rfl rfl rfl ?_
      refine j_V.one xb63_M xb63_34 (by decide) (pcJ := 35) (stJ := [.int ((x1 * 7) + x2), .ref 14]) rfl ?_
      refine j_V.iaA xb63_M xb63_35 K rfl ?_
      refine j_V.stL xb63_M xb63_36 rfl (i := 3) (kd := 0) (kl' := [(0, .ref 0), (1, .int x1), (2, .int x2), (3, .int (gA cm ((x1 * 7) + x2)))]) (pcJ := 37) rfl L rfl (by decide) rfl rfl rfl (fun lv L => ?_)
      refine j_V.ldL xb63_M xb63_37 rfl (i := 3) (kd := 0) (v := .int (gA cm ((x1 * 7) + x2))) (pcJ := 38) rfl L rfl rfl rfl ?_
      refine j_V.one xb63_M xb63_38 (by decide) (pcJ := 39) (stJ := [.int (-1), .int (gA cm ((x1 * 7) + x2))]) rfl ?_
      refine j_V.icmp xb63_M xb63_39 (t := 48) rfl (fun c39_2 => ?_) (fun c39_2 => ?_)
      · replace c39_2 : ¬ ((gA cm ((x1 * 7) + x2)) = (-1)) := jd_ne c39_2
        refine j_V.ldL xb63_M xb63_48 rfl (i := 0) (kd := 2) (v := .ref 0) (pcJ := 49) rfl L rfl rfl rfl ?_
        refine j_V.getK xb63_M xb63_49 (ci := 9) (j := 2) rfl K rfl rfl ?_
        refine j_V.getK xb63_M xb63_52 (ci := 7) (j := 5) rfl K rfl rfl ?_
        refine j_V.ldL xb63_M xb63_55 rfl (i := 1) (kd := 0) (v := .int x1) (pcJ := 56) rfl L rfl rfl rfl ?_
        refine j_V.iaA xb63_M xb63_56 K rfl ?_
        refine j_V.stL xb63_M xb63_57 rfl (i := 4) (kd := 0) (kl' := [(0, .ref 0), (1, .int x1), (2, .int x2), (3, .int (gA cm ((x1 * 7) + x2))), (4, .int (gA sta x1))]) (pcJ := 59) rfl L rfl (by decide) rfl rfl rfl (fun lv L => ?_)
        refine j_V.ldL xb63_M xb63_59 rfl (i := 2) (kd := 0) (v := .int x2) (pcJ := 60) rfl L rfl rfl rfl ?_
        refine j_V.ldL xb63_M xb63_60 rfl (i := 0) (kd := 2) (v := .ref 0) (pcJ := 61) rfl L rfl rfl rfl ?_
        refine j_V.getK xb63_M xb63_61 (ci := 9) (j := 6) rfl K rfl rfl ?_
        refine j_V.getK xb63_M xb63_64 (ci := 2) (j := 8) rfl K rfl rfl ?_
        refine j_V.ldL xb63_M xb63_67 rfl (i := 1) (kd := 0) (v := .int x1) (pcJ := 68) rfl L rfl rfl rfl ?_
        refine j_V.iaA xb63_M xb63_68 K rfl ?_
        refine j_V.cut (b := 88) (stJ := []) (fun v => [(0, .ref 0), (1, .int x1), (2, .int x2), (3, .int (gA cm ((x1 * 7) + x2))), (4, .int v)]) ((if x2 = (gA frm x1) then (gA sta x1) else ((gA sta x1) + (1 + (x_rideTo frm rid x1 x2)))) : Int32) (fun Q kk => ?_) (fun lv L => ?_)
        · refine j_V.icmp xb63_M xb63_69 (t := 88) rfl (fun c69_0 => ?_) (fun c69_0 => ?_)
          · replace c69_0 : x2 = (gA frm x1) := jd_eq c69_0
            exact kk _ (Eq.subst (motive := fun z => LK _ ((fun v => [(0, .ref 0), (1, .int x1), (2, .int x2), (3, .int (gA cm ((x1 * 7) + x2))), (4, .int v)]) z)) (show (gA sta x1) = ((if x2 = (gA frm x1) then (gA sta x1) else ((gA sta x1) + (1 + (x_rideTo frm rid x1 x2)))) : Int32) from Eq.symm ((if_pos c69_0).trans (rfl))) L)
          · replace c69_0 : ¬ (x2 = (gA frm x1)) := jd_eqn c69_0
            refine j_V.ldL xb63_M xb63_72 rfl (i := 4) (kd := 0) (v := .int (gA sta x1)) (pcJ := 74) rfl L rfl rfl rfl ?_
            refine j_V.one xb63_M xb63_74 (by decide) (pcJ := 75) (stJ := [.int 1, .int (gA sta x1)]) rfl ?_
            refine j_V.ldL xb63_M xb63_75 rfl (i := 0) (kd := 2) (v := .ref 0) (pcJ := 76) rfl L rfl rfl rfl ?_
            refine j_V.getK xb63_M xb63_76 (ci := 9) (j := 6) rfl K rfl rfl ?_
            refine j_V.ldL xb63_M xb63_79 rfl (i := 1) (kd := 0) (v := .int x1) (pcJ := 80) rfl L rfl rfl rfl ?_
            refine j_V.ldL xb63_M xb63_80 rfl (i := 2) (kd := 0) (v := .int x2) (pcJ := 81) rfl L rfl rfl rfl ?_
            refine j_V.cl xb63_M xb63_81 rfl (md := 3) (mj := 22) rfl (by decide) xb01_M (As := [.ref 343, .int x1, .int x2]) (rest := [.int 1, .int (gA sta x1)]) (jk_spl3 (K.at rfl) rfl rfl rfl (Nat.le_of_ble_eq_true rfl) (Nat.le_of_ble_eq_true rfl)) (fun d => xb01_ok (K.fi [343, 350, 357] rfl rfl)) ?_
            rintro r hz ⟨rfl, ez⟩
            rw [ez]
            clear ez
            show j_V jP _ 133 84 lv [.int (x_rideTo frm rid x1 x2), .int 1, .int (gA sta x1)] h _
            refine j_V.one xb63_M xb63_84 (by decide) (pcJ := 85) (stJ := [.int (1 + (x_rideTo frm rid x1 x2)), .int (gA sta x1)]) rfl ?_
            refine j_V.one xb63_M xb63_85 (by decide) (pcJ := 86) (stJ := [.int ((gA sta x1) + (1 + (x_rideTo frm rid x1 x2)))]) rfl ?_
            refine j_V.stL xb63_M xb63_86 rfl (i := 4) (kd := 0) (kl' := [(0, .ref 0), (1, .int x1), (2, .int x2), (3, .int (gA cm ((x1 * 7) + x2))), (4, .int ((gA sta x1) + (1 + (x_rideTo frm rid x1 x2))))]) (pcJ := 88) rfl L rfl (by decide) rfl rfl rfl (fun lv L => ?_)
            exact kk _ (Eq.subst (motive := fun z => LK _ ((fun v => [(0, .ref 0), (1, .int x1), (2, .int x2), (3, .int (gA cm ((x1 * 7) + x2))), (4, .int v)]) z)) (show ((gA sta x1) + (1 + (x_rideTo frm rid x1 x2))) = ((if x2 = (gA frm x1) then (gA sta x1) else ((gA sta x1) + (1 + (x_rideTo frm rid x1 x2)))) : Int32) from Eq.symm ((if_neg c69_0).trans (rfl))) L)
        refine j_V.ldL xb63_M xb63_88 rfl (i := 0) (kd := 2) (v := .ref 0) (pcJ := 89) rfl L rfl rfl rfl ?_
        refine j_V.ldL xb63_M xb63_89 rfl (i := 3) (kd := 0) (v := .int (gA cm ((x1 * 7) + x2))) (pcJ := 90) rfl L rfl rfl rfl ?_
        refine j_V.ldL xb63_M xb63_90 rfl (i := 4) (kd := 0) (v := .int ((if x2 = (gA frm x1) then (gA sta x1) else ((gA sta x1) + (1 + (x_rideTo frm rid x1 x2)))) : Int32)) (pcJ := 92) rfl L rfl rfl rfl ?_
        refine j_V.one xb63_M xb63_92 (by decide) (pcJ := 93) (stJ := [.int ((gA cm ((x1 * 7) + x2)) - ((if x2 = (gA frm x1) then (gA sta x1) else ((gA sta x1) + (1 + (x_rideTo frm rid x1 x2)))) : Int32)), .ref 0]) rfl ?_
        refine j_V.cl xb63_M xb63_93 rfl (md := 3) (mj := 159) rfl (by decide) xb49_M (As := [.ref 0, .int ((gA cm ((x1 * 7) + x2)) - ((if x2 = (gA frm x1) then (gA sta x1) else ((gA sta x1) + (1 + (x_rideTo frm rid x1 x2)))) : Int32))]) (rest := []) (jk_spl3 (K.at rfl) rfl rfl rfl (Nat.le_of_ble_eq_true rfl) (Nat.le_of_ble_eq_true rfl)) (fun d => xb49_ok (K.fi [0] rfl rfl)) ?_
        rintro r h9 ⟨rfl, K9⟩
        generalize ez2 : (x_qanswer sst ((gA cm ((x1 * 7) + x2)) - ((if x2 = (gA frm x1) then (gA sta x1) else ((gA sta x1) + (1 + (x_rideTo frm rid x1 x2)))) : Int32))) = z2 at K9 ⊢
        have K : KN h9 [(0, .inl (9, [.ref 1, .ref 3, .ref 4, .ref 29, .ref 281, .ref 325, .ref 343, .ref 327, .int (z2.2)])), (4, .inl (7, [.ref 343, .int mi, .int shu, .int bus, .ref 5, .ref 6, .ref 7, .ref 8, .ref 9, .ref 10, .ref 11, .ref 12, .ref 13, .ref 14, .ref 15, .int lks, .ref 16, .ref 17, .ref 20])), (6, .inr (.inl (0, sta))), (14, .inr (.inl (0, cm))), (343, .inl (2, [.int ns, .ref 344, .ref 345, .ref 346, .ref 347, .int nt, .ref 348, .ref 349, .ref 350, .ref 351, .ref 352, .ref 353, .ref 354, .int cel, .ref 355, .ref 356, .ref 357, .ref 358])), (350, .inr (.inl (0, frm))), (357, .inr (.inl (0, rid)))] h0 := K.mg K9 rfl rfl
        clear K9
        show j_V jP _ 133 96 lv [.int (z2.1)] h9 _
        subst ez2
        refine j_V.ri xb63_M xb63_96 ?_
        rw [show (x_qlate sta cm ns nt frm rid sst x1 x2) = _ from ((if_neg c5_0).trans ((if_neg c13_1).trans ((if_neg c39_2).trans (rfl))))]
        exact ⟨rfl, K⟩
      · replace c39_2 : (gA cm ((x1 * 7) + x2)) = (-1) := jd_nen c39_2
        refine j_V.ldL xb63_M xb63_42 rfl (i := 0) (kd := 2) (v := .ref 0) (pcJ := 43) rfl L rfl rfl rfl ?_
        refine j_V.one xb63_M xb63_43 (by decide) (pcJ := 44) (stJ := [.int 5, .ref 0]) rfl ?_
        refine j_V.cl xb63_M xb63_44 rfl (md := 3) (mj := 161) rfl (by decide) xb50_M (As := [.ref 0, .int 5]) (rest := []) (jk_spl3 (K.at rfl) rfl rfl rfl (Nat.le_of_ble_eq_true rfl) (Nat.le_of_ble_eq_true rfl)) (fun d => xb50_ok (K.fi [0] rfl rfl)) ?_
        rintro r h9 ⟨rfl, K9⟩
        generalize ez3 : (x_qrefuse sst 5) = z3 at K9 ⊢
        have K : KN h9 [(0, .inl (9, [.ref 1, .ref 3, .ref 4, .ref 29, .ref 281, .ref 325, .ref 343, .ref 327, .int (z3.2)])), (4, .inl (7, [.ref 343, .int mi, .int shu, .int bus, .ref 5, .ref 6, .ref 7, .ref 8, .ref 9, .ref 10, .ref 11, .ref 12, .ref 13, .ref 14, .ref 15, .int lks, .ref 16, .ref 17, .ref 20])), (6, .inr (.inl (0, sta))), (14, .inr (.inl (0, cm))), (343, .inl (2, [.int ns, .ref 344, .ref 345, .ref 346, .ref 347, .int nt, .ref 348, .ref 349, .ref 350, .ref 351, .ref 352, .ref 353, .ref 354, .int cel, .ref 355, .ref 356, .ref 357, .ref 358])), (350, .inr (.inl (0, frm))), (357, .inr (.inl (0, rid)))] h0 := K.mg K9 rfl rfl
        clear K9
        show j_V jP _ 133 47 lv [.int (z3.1)] h9 _
        subst ez3
        refine j_V.ri xb63_M xb63_47 ?_
        rw [show (x_qlate sta cm ns nt frm rid sst x1 x2) = _ from ((if_neg c5_0).trans ((if_neg c13_1).trans ((if_pos c39_2).trans (rfl))))]
        exact ⟨rfl, K⟩
    · replace c13_1 : (x_isStation ns x2) = 0 := jd_nen c13_1
      refine j_V.ldL xb63_M xb63_16 rfl (i := 0) (kd := 2) (v := .ref 0) (pcJ := 17) rfl L rfl rfl rfl ?_
      refine j_V.one xb63_M xb63_17 (by decide) (pcJ := 18) (stJ := [.int 2, .ref 0]) rfl ?_
      refine j_V.cl xb63_M xb63_18 rfl (md := 3) (mj := 161) rfl (by decide) xb50_M (As := [.ref 0, .int 2]) (rest := []) (jk_spl3 (K.at rfl) rfl rfl rfl (Nat.le_of_ble_eq_true rfl) (Nat.le_of_ble_eq_true rfl)) (fun d => xb50_ok (K.fi [0] rfl rfl)) ?_
      rintro r h9 ⟨rfl, K9⟩
      generalize ez4 : (x_qrefuse sst 2) = z4 at K9 ⊢
      have K : KN h9 [(0, .inl (9, [.ref 1, .ref 3, .ref 4, .ref 29, .ref 281, .ref 325, .ref 343, .ref 327, .int (z4.2)])), (4, .inl (7, [.ref 343, .int mi, .int shu, .int bus, .ref 5, .ref 6, .ref 7, .ref 8, .ref 9, .ref 10, .ref 11, .ref 12, .ref 13, .ref 14, .ref 15, .int lks, .ref 16, .ref 17, .ref 20])), (6, .inr (.inl (0, sta))), (14, .inr (.inl (0, cm))), (343, .inl (2, [.int ns, .ref 344, .ref 345, .ref 346, .ref 347, .int nt, .ref 348, .ref 349, .ref 350, .ref 351, .ref 352, .ref 353, .ref 354, .int cel, .ref 355, .ref 356, .ref 357, .ref 358])), (350, .inr (.inl (0, frm))), (357, .inr (.inl (0, rid)))] h0 := K.mg K9 rfl rfl
      clear K9
      show j_V jP _ 133 21 lv [.int (z4.1)] h9 _
      subst ez4
      refine j_V.ri xb63_M xb63_21 ?_
      rw [show (x_qlate sta cm ns nt frm rid sst x1 x2) = _ from ((if_neg c5_0).trans ((if_pos c13_1).trans (rfl)))]
      exact ⟨rfl, K⟩
set_option maxRecDepth 100000 in
theorem xb64_M : j_meth jP 134 = some (yX9_event, cX9_event, 3, (some .int), 2, false, 9) := rfl
set_option maxRecDepth 100000 in
theorem xb64_0 : j_code jP 134 0 = some (.iload_n 1) := rfl
set_option maxRecDepth 100000 in
theorem xb64_1 : j_code jP 134 1 = some (.iconst (-1)) := rfl
set_option maxRecDepth 100000 in
theorem xb64_2 : j_code jP 134 2 = some (.if_icmp .lt 21) := rfl
set_option maxRecDepth 100000 in
theorem xb64_5 : j_code jP 134 5 = some (.iload_n 2) := rfl
set_option maxRecDepth 100000 in
theorem xb64_6 : j_code jP 134 6 = some (.iconst 0) := rfl
set_option maxRecDepth 100000 in
theorem xb64_7 : j_code jP 134 7 = some (.iload_n 1) := rfl
set_option maxRecDepth 100000 in
theorem xb64_8 : j_code jP 134 8 = some (.iconst (-1)) := rfl
set_option maxRecDepth 100000 in
theorem xb64_9 : j_code jP 134 9 = some (.if_icmp .ne 7) := rfl
set_option maxRecDepth 100000 in
theorem xb64_12 : j_code jP 134 12 = some (.iconst 0) := rfl
set_option maxRecDepth 100000 in
theorem xb64_13 : j_code jP 134 13 = some (.goto 4) := rfl
set_option maxRecDepth 100000 in
theorem xb64_16 : j_code jP 134 16 = some (.iconst 3) := rfl
set_option maxRecDepth 100000 in
theorem xb64_17 : j_code jP 134 17 = some (.invokestatic 138) := rfl
set_option maxRecDepth 100000 in
theorem xb64_20 : j_code jP 134 20 = some (.ifCond .ne 9) := rfl
set_option maxRecDepth 100000 in
theorem xb64_23 : j_code jP 134 23 = some (.aload_n 0) := rfl
set_option maxRecDepth 100000 in
theorem xb64_24 : j_code jP 134 24 = some (.iconst 1) := rfl
set_option maxRecDepth 100000 in
theorem xb64_25 : j_code jP 134 25 = some (.invokevirtual 84) := rfl
set_option maxRecDepth 100000 in
theorem xb64_28 : j_code jP 134 28 = some (.ireturn) := rfl
set_option maxRecDepth 100000 in
theorem xb64_29 : j_code jP 134 29 = some (.iload_n 1) := rfl
set_option maxRecDepth 100000 in
theorem xb64_30 : j_code jP 134 30 = some (.iconst (-1)) := rfl
set_option maxRecDepth 100000 in
theorem xb64_31 : j_code jP 134 31 = some (.if_icmp .ne 18) := rfl
set_option maxRecDepth 100000 in
theorem xb64_34 : j_code jP 134 34 = some (.aload_n 0) := rfl
set_option maxRecDepth 100000 in
theorem xb64_35 : j_code jP 134 35 = some (.aload_n 0) := rfl
set_option maxRecDepth 100000 in
theorem xb64_36 : j_code jP 134 36 = some (.getfield 30) := rfl
set_option maxRecDepth 100000 in
theorem xb64_39 : j_code jP 134 39 = some (.getfield 280) := rfl
set_option maxRecDepth 100000 in
theorem xb64_42 : j_code jP 134 42 = some (.getfield 302) := rfl
set_option maxRecDepth 100000 in
theorem xb64_45 : j_code jP 134 45 = some (.invokevirtual 104) := rfl
set_option maxRecDepth 100000 in
theorem xb64_48 : j_code jP 134 48 = some (.ireturn) := rfl
set_option maxRecDepth 100000 in
theorem xb64_49 : j_code jP 134 49 = some (.iload_n 1) := rfl
set_option maxRecDepth 100000 in
theorem xb64_50 : j_code jP 134 50 = some (.aload_n 0) := rfl
set_option maxRecDepth 100000 in
theorem xb64_51 : j_code jP 134 51 = some (.getfield 30) := rfl
set_option maxRecDepth 100000 in
theorem xb64_54 : j_code jP 134 54 = some (.getfield 280) := rfl
set_option maxRecDepth 100000 in
theorem xb64_57 : j_code jP 134 57 = some (.getfield 302) := rfl
set_option maxRecDepth 100000 in
theorem xb64_60 : j_code jP 134 60 = some (.if_icmp .lt 9) := rfl
set_option maxRecDepth 100000 in
theorem xb64_63 : j_code jP 134 63 = some (.aload_n 0) := rfl
set_option maxRecDepth 100000 in
theorem xb64_64 : j_code jP 134 64 = some (.iconst 5) := rfl
set_option maxRecDepth 100000 in
theorem xb64_65 : j_code jP 134 65 = some (.invokevirtual 84) := rfl
set_option maxRecDepth 100000 in
theorem xb64_68 : j_code jP 134 68 = some (.ireturn) := rfl
set_option maxRecDepth 100000 in
theorem xb64_69 : j_code jP 134 69 = some (.aload_n 0) := rfl
set_option maxRecDepth 100000 in
theorem xb64_70 : j_code jP 134 70 = some (.aload_n 0) := rfl
set_option maxRecDepth 100000 in
theorem xb64_71 : j_code jP 134 71 = some (.getfield 30) := rfl
set_option maxRecDepth 100000 in
theorem xb64_74 : j_code jP 134 74 = some (.getfield 280) := rfl
set_option maxRecDepth 100000 in
theorem xb64_77 : j_code jP 134 77 = some (.getfield 305) := rfl
set_option maxRecDepth 100000 in
theorem xb64_80 : j_code jP 134 80 = some (.iconst 4) := rfl
set_option maxRecDepth 100000 in
theorem xb64_81 : j_code jP 134 81 = some (.iload_n 1) := rfl
set_option maxRecDepth 100000 in
theorem xb64_82 : j_code jP 134 82 = some (.imul) := rfl
set_option maxRecDepth 100000 in
theorem xb64_83 : j_code jP 134 83 = some (.iload_n 2) := rfl
set_option maxRecDepth 100000 in
theorem xb64_84 : j_code jP 134 84 = some (.iadd) := rfl
set_option maxRecDepth 100000 in
theorem xb64_85 : j_code jP 134 85 = some (.iaload) := rfl
set_option maxRecDepth 100000 in
theorem xb64_86 : j_code jP 134 86 = some (.invokevirtual 104) := rfl
set_option maxRecDepth 100000 in
theorem xb64_89 : j_code jP 134 89 = some (.ireturn) := rfl
set_option maxRecDepth 1000000 in
theorem xb64_ok {mi : Int32} {shu : Int32} {bus : Int32} {lks : Int32} {pev : Int32} {pk : Int32} {pfa : List Int32} {sst : Int32} {x1 x2 : Int32} {d : Nat} {h h0 : J_H} (K : KN h [(0, .inl (9, [.ref 1, .ref 3, .ref 4, .ref 29, .ref 281, .ref 325, .ref 343, .ref 327, .int sst])), (4, .inl (7, [.ref 343, .int mi, .int shu, .int bus, .ref 5, .ref 6, .ref 7, .ref 8, .ref 9, .ref 10, .ref 11, .ref 12, .ref 13, .ref 14, .ref 15, .int lks, .ref 16, .ref 17, .ref 20])), (20, .inl (3, [.ref 21, .ref 22, .ref 23, .ref 24, .ref 25, .ref 26, .ref 27, .ref 28, .int pev, .int pk])), (28, .inr (.inl (0, pfa)))] h0) : j_V jP d 134 0 (lv_args 0 [.ref 0, .int x1, .int x2]) [] h (fun rv h' => rv = some (.int (x_qevent pev pfa sst x1 x2).1) ∧ KN h' [(0, .inl (9, [.ref 1, .ref 3, .ref 4, .ref 29, .ref 281, .ref 325, .ref 343, .ref 327, .int (x_qevent pev pfa sst x1 x2).2])), (4, .inl (7, [.ref 343, .int mi, .int shu, .int bus, .ref 5, .ref 6, .ref 7, .ref 8, .ref 9, .ref 10, .ref 11, .ref 12, .ref 13, .ref 14, .ref 15, .int lks, .ref 16, .ref 17, .ref 20])), (20, .inl (3, [.ref 21, .ref 22, .ref 23, .ref 24, .ref 25, .ref 26, .ref 27, .ref 28, .int pev, .int pk])), (28, .inr (.inl (0, pfa)))] h0) := by
  show j_V jP d 134 0 [(0, .ref 0), (1, .int x1), (2, .int x2)] [] h _
  obtain ⟨lv, elv, L⟩ : ∃ lv, lv = [(0, .ref 0), (1, .int x1), (2, .int x2)] ∧ LK lv [(0, .ref 0), (1, .int x1), (2, .int x2)] := ⟨_, rfl, LK.rf⟩
  rw [← elv]
  clear elv
  refine j_V.ldL xb64_M xb64_0 rfl (i := 1) (kd := 0) (v := .int x1) (pcJ := 1) rfl L rfl rfl rfl ?_
  refine j_V.one xb64_M xb64_1 (by decide) (pcJ := 2) (stJ := [.int (-1), .int x1]) rfl ?_
  refine j_V.icmp xb64_M xb64_2 (t := 23) rfl (fun c2_0 => ?_) (fun c2_0 => ?_)
  · replace c2_0 : x1 < (-1) := jd_lt c2_0
    refine j_V.ldL xb64_M xb64_23 rfl (i := 0) (kd := 2) (v := .ref 0) (pcJ := 24) rfl L rfl rfl rfl ?_
    refine j_V.one xb64_M xb64_24 (by decide) (pcJ := 25) (stJ := [.int 1, .ref 0]) rfl ?_
    refine j_V.cl xb64_M xb64_25 rfl (md := 3) (mj := 161) rfl (by decide) xb50_M (As := [.ref 0, .int 1]) (rest := []) (jk_spl3 (K.at rfl) rfl rfl rfl (Nat.le_of_ble_eq_true rfl) (Nat.le_of_ble_eq_true rfl)) (fun d => xb50_ok (K.fi [0] rfl rfl)) ?_
    rintro r h9 ⟨rfl, K9⟩
    generalize ez1 : (x_qrefuse sst 1) = z1 at K9 ⊢
    have K : KN h9 [(0, .inl (9, [.ref 1, .ref 3, .ref 4, .ref 29, .ref 281, .ref 325, .ref 343, .ref 327, .int (z1.2)])), (4, .inl (7, [.ref 343, .int mi, .int shu, .int bus, .ref 5, .ref 6, .ref 7, .ref 8, .ref 9, .ref 10, .ref 11, .ref 12, .ref 13, .ref 14, .ref 15, .int lks, .ref 16, .ref 17, .ref 20])), (20, .inl (3, [.ref 21, .ref 22, .ref 23, .ref 24, .ref 25, .ref 26, .ref 27, .ref 28, .int pev, .int pk])), (28, .inr (.inl (0, pfa)))] h0 := K.mg K9 rfl rfl
    clear K9
    show j_V jP _ 134 28 lv [.int (z1.1)] h9 _
    subst ez1
    refine j_V.ri xb64_M xb64_28 ?_
    rw [show (x_qevent pev pfa sst x1 x2) = _ from ((if_pos c2_0).trans (rfl))]
    exact ⟨rfl, K⟩
  · replace c2_0 : ¬ (x1 < (-1)) := jd_ltn c2_0
    refine j_V.ldL xb64_M xb64_5 rfl (i := 2) (kd := 0) (v := .int x2) (pcJ := 6) rfl L rfl rfl rfl ?_
    refine j_V.one xb64_M xb64_6 (by decide) (pcJ := 7) (stJ := [.int 0, .int x2]) rfl ?_
    refine j_V.ldL xb64_M xb64_7 rfl (i := 1) (kd := 0) (v := .int x1) (pcJ := 8) rfl L rfl rfl rfl ?_
    refine j_V.one xb64_M xb64_8 (by decide) (pcJ := 9) (stJ := [.int (-1), .int x1, .int 0, .int x2]) rfl ?_
    refine j_V.cut (b := 17) (stJ := [.int ((if x1 = (-1) then 0 else 3) : Int32), .int 0, .int x2]) (fun v => [(0, .ref 0), (1, .int x1), (2, .int x2)]) ((if x1 = (-1) then 0 else 3) : Int32) (fun Q kk => ?_) (fun lv L => ?_)
    · refine j_V.icmp xb64_M xb64_9 (t := 16) rfl (fun c9_0 => ?_) (fun c9_0 => ?_)
      · replace c9_0 : ¬ (x1 = (-1)) := jd_ne c9_0
        refine j_V.one xb64_M xb64_16 (by decide) (pcJ := 17) (stJ := [.int 3, .int 0, .int x2]) rfl ?_
        exact Eq.subst (motive := fun z => j_V jP _ 134 17 _ (.int z :: [.int 0, .int x2]) h Q) (show ((if x1 = (-1) then 0 else 3) : Int32) = 3 from (if_neg c9_0).trans (rfl)) (kk _ L)
      · replace c9_0 : x1 = (-1) := jd_nen c9_0
        refine j_V.one xb64_M xb64_12 (by decide) (pcJ := 13) (stJ := [.int 0, .int 0, .int x2]) rfl ?_
        refine j_V.gto xb64_M xb64_13 (t := 17) rfl ?_
        exact Eq.subst (motive := fun z => j_V jP _ 134 17 _ (.int z :: [.int 0, .int x2]) h Q) (show ((if x1 = (-1) then 0 else 3) : Int32) = 0 from (if_pos c9_0).trans (rfl)) (kk _ L)
    refine j_V.cl xb64_M xb64_17 rfl (md := 2) (mj := 162) rfl (by decide) xbwisWi_M (As := [.int x2, .int 0, .int ((if x1 = (-1) then 0 else 3) : Int32)]) (rest := []) (jk_spl2 rfl rfl (Nat.le_of_ble_eq_true rfl) (Nat.le_of_ble_eq_true rfl)) (fun d => xbwisWi_ok (K.fi [] rfl rfl)) ?_
    rintro r hz ⟨rfl, ez⟩
    rw [ez]
    clear ez
    show j_V jP _ 134 20 lv [.int (x_isWithin x2 0 ((if x1 = (-1) then 0 else 3) : Int32))] h _
    refine j_V.ifc xb64_M xb64_20 (t := 29) rfl (fun c20_1 => ?_) (fun c20_1 => ?_)
    · replace c20_1 : ¬ ((x_isWithin x2 0 ((if x1 = (-1) then 0 else 3) : Int32)) = 0) := jd_ne c20_1
      refine j_V.ldL xb64_M xb64_29 rfl (i := 1) (kd := 0) (v := .int x1) (pcJ := 30) rfl L rfl rfl rfl ?_
      refine j_V.one xb64_M xb64_30 (by decide) (pcJ := 31) (stJ := [.int (-1), .int x1]) rfl ?_
      refine j_V.icmp xb64_M xb64_31 (t := 49) rfl (fun c31_2 => ?_) (fun c31_2 => ?_)
      · replace c31_2 : ¬ (x1 = (-1)) := jd_ne c31_2
        refine j_V.ldL xb64_M xb64_49 rfl (i := 1) (kd := 0) (v := .int x1) (pcJ := 50) rfl L rfl rfl rfl ?_
        refine j_V.ldL xb64_M xb64_50 rfl (i := 0) (kd := 2) (v := .ref 0) (pcJ := 51) rfl L rfl rfl rfl ?_
        refine j_V.getK xb64_M xb64_51 (ci := 9) (j := 2) rfl K rfl rfl ?_
        refine j_V.getK xb64_M xb64_54 (ci := 7) (j := 18) rfl K rfl rfl ?_
        refine j_V.getK xb64_M xb64_57 (ci := 3) (j := 8) rfl K rfl rfl ?_
        refine j_V.icmp xb64_M xb64_60 (t := 69) rfl (fun c60_3 => ?_) (fun c60_3 => ?_)
        · replace c60_3 : x1 < pev := jd_lt c60_3
          refine j_V.ldL xb64_M xb64_69 rfl (i := 0) (kd := 2) (v := .ref 0) (pcJ := 70) rfl L rfl rfl rfl ?_
          refine j_V.ldL xb64_M xb64_70 rfl (i := 0) (kd := 2) (v := .ref 0) (pcJ := 71) rfl L rfl rfl rfl ?_
          refine j_V.getK xb64_M xb64_71 (ci := 9) (j := 2) rfl K rfl rfl ?_
          refine j_V.getK xb64_M xb64_74 (ci := 7) (j := 18) rfl K rfl rfl ?_
          refine j_V.getK xb64_M xb64_77 (ci := 3) (j := 7) rfl K rfl rfl ?_
          refine j_V.one xb64_M xb64_80 (by decide) (pcJ := 81) (stJ := [.int 4, .ref 28, .ref 0]) rfl ?_
          refine j_V.ldL xb64_M xb64_81 rfl (i := 1) (kd := 0) (v := .int x1) (pcJ := 82) rfl L rfl rfl rfl ?_
          refine j_V.one xb64_M xb64_82 (by decide) (pcJ := 83) (stJ := [.int (4 * x1), .ref 28, .ref 0]) rfl ?_
          refine j_V.ldL xb64_M xb64_83 rfl (i := 2) (kd := 0) (v := .int x2) (pcJ := 84) rfl L rfl rfl rfl ?_
          refine j_V.one xb64_M xb64_84 (by decide) (pcJ := 85) (stJ := [.int ((4 * x1) + x2), .ref 28, .ref 0]) rfl ?_
          refine j_V.iaA xb64_M xb64_85 K rfl ?_
          refine j_V.cl xb64_M xb64_86 rfl (md := 3) (mj := 159) rfl (by decide) xb49_M (As := [.ref 0, .int (gA pfa ((4 * x1) + x2))]) (rest := []) (jk_spl3 (K.at rfl) rfl rfl rfl (Nat.le_of_ble_eq_true rfl) (Nat.le_of_ble_eq_true rfl)) (fun d => xb49_ok (K.fi [0] rfl rfl)) ?_
          rintro r h9 ⟨rfl, K9⟩
          generalize ez2 : (x_qanswer sst (gA pfa ((4 * x1) + x2))) = z2 at K9 ⊢
          have K : KN h9 [(0, .inl (9, [.ref 1, .ref 3, .ref 4, .ref 29, .ref 281, .ref 325, .ref 343, .ref 327, .int (z2.2)])), (4, .inl (7, [.ref 343, .int mi, .int shu, .int bus, .ref 5, .ref 6, .ref 7, .ref 8, .ref 9, .ref 10, .ref 11, .ref 12, .ref 13, .ref 14, .ref 15, .int lks, .ref 16, .ref 17, .ref 20])), (20, .inl (3, [.ref 21, .ref 22, .ref 23, .ref 24, .ref 25, .ref 26, .ref 27, .ref 28, .int pev, .int pk])), (28, .inr (.inl (0, pfa)))] h0 := K.mg K9 rfl rfl
          clear K9
          show j_V jP _ 134 89 lv [.int (z2.1)] h9 _
          subst ez2
          refine j_V.ri xb64_M xb64_89 ?_
          rw [show (x_qevent pev pfa sst x1 x2) = _ from ((if_neg c2_0).trans ((if_neg c20_1).trans ((if_neg c31_2).trans ((if_pos c60_3).trans (rfl)))))]
          exact ⟨rfl, K⟩
        · replace c60_3 : ¬ (x1 < pev) := jd_ltn c60_3
          refine j_V.ldL xb64_M xb64_63 rfl (i := 0) (kd := 2) (v := .ref 0) (pcJ := 64) rfl L rfl rfl rfl ?_
          refine j_V.one xb64_M xb64_64 (by decide) (pcJ := 65) (stJ := [.int 5, .ref 0]) rfl ?_
          refine j_V.cl xb64_M xb64_65 rfl (md := 3) (mj := 161) rfl (by decide) xb50_M (As := [.ref 0, .int 5]) (rest := []) (jk_spl3 (K.at rfl) rfl rfl rfl (Nat.le_of_ble_eq_true rfl) (Nat.le_of_ble_eq_true rfl)) (fun d => xb50_ok (K.fi [0] rfl rfl)) ?_
          rintro r h9 ⟨rfl, K9⟩
          generalize ez3 : (x_qrefuse sst 5) = z3 at K9 ⊢
          have K : KN h9 [(0, .inl (9, [.ref 1, .ref 3, .ref 4, .ref 29, .ref 281, .ref 325, .ref 343, .ref 327, .int (z3.2)])), (4, .inl (7, [.ref 343, .int mi, .int shu, .int bus, .ref 5, .ref 6, .ref 7, .ref 8, .ref 9, .ref 10, .ref 11, .ref 12, .ref 13, .ref 14, .ref 15, .int lks, .ref 16, .ref 17, .ref 20])), (20, .inl (3, [.ref 21, .ref 22, .ref 23, .ref 24, .ref 25, .ref 26, .ref 27, .ref 28, .int pev, .int pk])), (28, .inr (.inl (0, pfa)))] h0 := K.mg K9 rfl rfl
          clear K9
          show j_V jP _ 134 68 lv [.int (z3.1)] h9 _
          subst ez3
          refine j_V.ri xb64_M xb64_68 ?_
          rw [show (x_qevent pev pfa sst x1 x2) = _ from ((if_neg c2_0).trans ((if_neg c20_1).trans ((if_neg c31_2).trans ((if_neg c60_3).trans (rfl)))))]
          exact ⟨rfl, K⟩
      · replace c31_2 : x1 = (-1) := jd_nen c31_2
        refine j_V.ldL xb64_M xb64_34 rfl (i := 0) (kd := 2) (v := .ref 0) (pcJ := 35) rfl L rfl rfl rfl ?_
        refine j_V.ldL xb64_M xb64_35 rfl (i := 0) (kd := 2) (v := .ref 0) (pcJ := 36) rfl L rfl rfl rfl ?_
        refine j_V.getK xb64_M xb64_36 (ci := 9) (j := 2) rfl K rfl rfl ?_
        refine j_V.getK xb64_M xb64_39 (ci := 7) (j := 18) rfl K rfl rfl ?_
        refine j_V.getK xb64_M xb64_42 (ci := 3) (j := 8) rfl K rfl rfl ?_
        refine j_V.cl xb64_M xb64_45 rfl (md := 3) (mj := 159) rfl (by decide) xb49_M (As := [.ref 0, .int pev]) (rest := []) (jk_spl3 (K.at rfl) rfl rfl rfl (Nat.le_of_ble_eq_true rfl) (Nat.le_of_ble_eq_true rfl)) (fun d => xb49_ok (K.fi [0] rfl rfl)) ?_
        rintro r h9 ⟨rfl, K9⟩
        generalize ez4 : (x_qanswer sst pev) = z4 at K9 ⊢
        have K : KN h9 [(0, .inl (9, [.ref 1, .ref 3, .ref 4, .ref 29, .ref 281, .ref 325, .ref 343, .ref 327, .int (z4.2)])), (4, .inl (7, [.ref 343, .int mi, .int shu, .int bus, .ref 5, .ref 6, .ref 7, .ref 8, .ref 9, .ref 10, .ref 11, .ref 12, .ref 13, .ref 14, .ref 15, .int lks, .ref 16, .ref 17, .ref 20])), (20, .inl (3, [.ref 21, .ref 22, .ref 23, .ref 24, .ref 25, .ref 26, .ref 27, .ref 28, .int pev, .int pk])), (28, .inr (.inl (0, pfa)))] h0 := K.mg K9 rfl rfl
        clear K9
        show j_V jP _ 134 48 lv [.int (z4.1)] h9 _
        subst ez4
        refine j_V.ri xb64_M xb64_48 ?_
        rw [show (x_qevent pev pfa sst x1 x2) = _ from ((if_neg c2_0).trans ((if_neg c20_1).trans ((if_pos c31_2).trans (rfl))))]
        exact ⟨rfl, K⟩
    · replace c20_1 : (x_isWithin x2 0 ((if x1 = (-1) then 0 else 3) : Int32)) = 0 := jd_nen c20_1
      refine j_V.ldL xb64_M xb64_23 rfl (i := 0) (kd := 2) (v := .ref 0) (pcJ := 24) rfl L rfl rfl rfl ?_
      refine j_V.one xb64_M xb64_24 (by decide) (pcJ := 25) (stJ := [.int 1, .ref 0]) rfl ?_
      refine j_V.cl xb64_M xb64_25 rfl (md := 3) (mj := 161) rfl (by decide) xb50_M (As := [.ref 0, .int 1]) (rest := []) (jk_spl3 (K.at rfl) rfl rfl rfl (Nat.le_of_ble_eq_true rfl) (Nat.le_of_ble_eq_true rfl)) (fun d => xb50_ok (K.fi [0] rfl rfl)) ?_
      rintro r h9 ⟨rfl, K9⟩
      generalize ez5 : (x_qrefuse sst 1) = z5 at K9 ⊢
      have K : KN h9 [(0, .inl (9, [.ref 1, .ref 3, .ref 4, .ref 29, .ref 281, .ref 325, .ref 343, .ref 327, .int (z5.2)])), (4, .inl (7, [.ref 343, .int mi, .int shu, .int bus, .ref 5, .ref 6, .ref 7, .ref 8, .ref 9, .ref 10, .ref 11, .ref 12, .ref 13, .ref 14, .ref 15, .int lks, .ref 16, .ref 17, .ref 20])), (20, .inl (3, [.ref 21, .ref 22, .ref 23, .ref 24, .ref 25, .ref 26, .ref 27, .ref 28, .int pev, .int pk])), (28, .inr (.inl (0, pfa)))] h0 := K.mg K9 rfl rfl
      clear K9
      show j_V jP _ 134 28 lv [.int (z5.1)] h9 _
      subst ez5
      refine j_V.ri xb64_M xb64_28 ?_
      rw [show (x_qevent pev pfa sst x1 x2) = _ from ((if_neg c2_0).trans ((if_pos c20_1).trans (rfl)))]
      exact ⟨rfl, K⟩
set_option maxRecDepth 100000 in
theorem xb65_M : j_meth jP 135 = some (yX9_use, cX9_use, 2, (some .int), 1, false, 9) := rfl
set_option maxRecDepth 100000 in
theorem xb65_0 : j_code jP 135 0 = some (.aload_n 0) := rfl
set_option maxRecDepth 100000 in
theorem xb65_1 : j_code jP 135 1 = some (.iload_n 1) := rfl
set_option maxRecDepth 100000 in
theorem xb65_2 : j_code jP 135 2 = some (.invokevirtual 268) := rfl
set_option maxRecDepth 100000 in
theorem xb65_5 : j_code jP 135 5 = some (.ifCond .ne 9) := rfl
set_option maxRecDepth 100000 in
theorem xb65_8 : j_code jP 135 8 = some (.aload_n 0) := rfl
set_option maxRecDepth 100000 in
theorem xb65_9 : j_code jP 135 9 = some (.iconst 2) := rfl
set_option maxRecDepth 100000 in
theorem xb65_10 : j_code jP 135 10 = some (.invokevirtual 84) := rfl
set_option maxRecDepth 100000 in
theorem xb65_13 : j_code jP 135 13 = some (.ireturn) := rfl
set_option maxRecDepth 100000 in
theorem xb65_14 : j_code jP 135 14 = some (.aload_n 0) := rfl
set_option maxRecDepth 100000 in
theorem xb65_15 : j_code jP 135 15 = some (.aload_n 0) := rfl
set_option maxRecDepth 100000 in
theorem xb65_16 : j_code jP 135 16 = some (.getfield 30) := rfl
set_option maxRecDepth 100000 in
theorem xb65_19 : j_code jP 135 19 = some (.getfield 308) := rfl
set_option maxRecDepth 100000 in
theorem xb65_22 : j_code jP 135 22 = some (.iload_n 1) := rfl
set_option maxRecDepth 100000 in
theorem xb65_23 : j_code jP 135 23 = some (.iaload) := rfl
set_option maxRecDepth 100000 in
theorem xb65_24 : j_code jP 135 24 = some (.invokevirtual 104) := rfl
set_option maxRecDepth 100000 in
theorem xb65_27 : j_code jP 135 27 = some (.ireturn) := rfl
set_option maxRecDepth 1000000 in
theorem xb65_ok {mi : Int32} {shu : Int32} {bus : Int32} {lks : Int32} {us : List Int32} {ns : Int32} {nt : Int32} {cel : Int32} {sst : Int32} {x1 : Int32} {d : Nat} {h h0 : J_H} (K : KN h [(0, .inl (9, [.ref 1, .ref 3, .ref 4, .ref 29, .ref 281, .ref 325, .ref 343, .ref 327, .int sst])), (4, .inl (7, [.ref 343, .int mi, .int shu, .int bus, .ref 5, .ref 6, .ref 7, .ref 8, .ref 9, .ref 10, .ref 11, .ref 12, .ref 13, .ref 14, .ref 15, .int lks, .ref 16, .ref 17, .ref 20])), (13, .inr (.inl (0, us))), (343, .inl (2, [.int ns, .ref 344, .ref 345, .ref 346, .ref 347, .int nt, .ref 348, .ref 349, .ref 350, .ref 351, .ref 352, .ref 353, .ref 354, .int cel, .ref 355, .ref 356, .ref 357, .ref 358]))] h0) : j_V jP d 135 0 (lv_args 0 [.ref 0, .int x1]) [] h (fun rv h' => rv = some (.int (x_quse us ns sst x1).1) ∧ KN h' [(0, .inl (9, [.ref 1, .ref 3, .ref 4, .ref 29, .ref 281, .ref 325, .ref 343, .ref 327, .int (x_quse us ns sst x1).2])), (4, .inl (7, [.ref 343, .int mi, .int shu, .int bus, .ref 5, .ref 6, .ref 7, .ref 8, .ref 9, .ref 10, .ref 11, .ref 12, .ref 13, .ref 14, .ref 15, .int lks, .ref 16, .ref 17, .ref 20])), (13, .inr (.inl (0, us))), (343, .inl (2, [.int ns, .ref 344, .ref 345, .ref 346, .ref 347, .int nt, .ref 348, .ref 349, .ref 350, .ref 351, .ref 352, .ref 353, .ref 354, .int cel, .ref 355, .ref 356, .ref 357, .ref 358]))] h0) := by
  show j_V jP d 135 0 [(0, .ref 0), (1, .int x1)] [] h _
  obtain ⟨lv, elv, L⟩ : ∃ lv, lv = [(0, .ref 0), (1, .int x1)] ∧ LK lv [(0, .ref 0), (1, .int x1)] := ⟨_, rfl, LK.rf⟩
  rw [← elv]
  clear elv
  refine j_V.ldL xb65_M xb65_0 rfl (i := 0) (kd := 2) (v := .ref 0) (pcJ := 1) rfl L rfl rfl rfl ?_
  refine j_V.ldL xb65_M xb65_1 rfl (i := 1) (kd := 0) (v := .int x1) (pcJ := 2) rfl L rfl rfl rfl ?_
  refine j_V.cl xb65_M xb65_2 rfl (md := 3) (mj := 166) rfl (by decide) xb48_M (As := [.ref 0, .int x1]) (rest := []) (jk_spl3 (K.at rfl) rfl rfl rfl (Nat.le_of_ble_eq_true rfl) (Nat.le_of_ble_eq_true rfl)) (fun d => xb48_ok (K.fi [0, 343] rfl rfl)) ?_
  rintro r hz ⟨rfl, ez⟩
  rw [ez]
  clear ez
  show j_V jP _ 135 5 lv [.int (x_isSection ns x1)] h _
  refine j_V.ifc xb65_M xb65_5 (t := 14) rfl (fun c5_0 => ?_) (fun c5_0 => ?_)
  · replace c5_0 : ¬ ((x_isSection ns x1) = 0) := jd_ne c5_0
    refine j_V.ldL xb65_M xb65_14 rfl (i := 0) (kd := 2) (v := .ref 0) (pcJ := 15) rfl L rfl rfl rfl ?_
    refine j_V.ldL xb65_M xb65_15 rfl (i := 0) (kd := 2) (v := .ref 0) (pcJ := 16) rfl L rfl rfl rfl ?_
    refine j_V.getK xb65_M xb65_16 (ci := 9) (j := 2) rfl K rfl rfl ?_
    refine j_V.getK xb65_M xb65_19 (ci := 7) (j := 12) rfl K rfl rfl ?_
    refine j_V.ldL xb65_M xb65_22 rfl (i := 1) (kd := 0) (v := .int x1) (pcJ := 23) rfl L rfl rfl rfl ?_
    refine j_V.iaA xb65_M xb65_23 K rfl ?_
    refine j_V.cl xb65_M xb65_24 rfl (md := 3) (mj := 159) rfl (by decide) xb49_M (As := [.ref 0, .int (gA us x1)]) (rest := []) (jk_spl3 (K.at rfl) rfl rfl rfl (Nat.le_of_ble_eq_true rfl) (Nat.le_of_ble_eq_true rfl)) (fun d => xb49_ok (K.fi [0] rfl rfl)) ?_
    rintro r h9 ⟨rfl, K9⟩
    generalize ez1 : (x_qanswer sst (gA us x1)) = z1 at K9 ⊢
    have K : KN h9 [(0, .inl (9, [.ref 1, .ref 3, .ref 4, .ref 29, .ref 281, .ref 325, .ref 343, .ref 327, .int (z1.2)])), (4, .inl (7, [.ref 343, .int mi, .int shu, .int bus, .ref 5, .ref 6, .ref 7, .ref 8, .ref 9, .ref 10, .ref 11, .ref 12, .ref 13, .ref 14, .ref 15, .int lks, .ref 16, .ref 17, .ref 20])), (13, .inr (.inl (0, us))), (343, .inl (2, [.int ns, .ref 344, .ref 345, .ref 346, .ref 347, .int nt, .ref 348, .ref 349, .ref 350, .ref 351, .ref 352, .ref 353, .ref 354, .int cel, .ref 355, .ref 356, .ref 357, .ref 358]))] h0 := K.mg K9 rfl rfl
    clear K9
    show j_V jP _ 135 27 lv [.int (z1.1)] h9 _
    subst ez1
    refine j_V.ri xb65_M xb65_27 ?_
    rw [show (x_quse us ns sst x1) = _ from ((if_neg c5_0).trans (rfl))]
    exact ⟨rfl, K⟩
  · replace c5_0 : (x_isSection ns x1) = 0 := jd_nen c5_0
    refine j_V.ldL xb65_M xb65_8 rfl (i := 0) (kd := 2) (v := .ref 0) (pcJ := 9) rfl L rfl rfl rfl ?_
    refine j_V.one xb65_M xb65_9 (by decide) (pcJ := 10) (stJ := [.int 2, .ref 0]) rfl ?_
    refine j_V.cl xb65_M xb65_10 rfl (md := 3) (mj := 161) rfl (by decide) xb50_M (As := [.ref 0, .int 2]) (rest := []) (jk_spl3 (K.at rfl) rfl rfl rfl (Nat.le_of_ble_eq_true rfl) (Nat.le_of_ble_eq_true rfl)) (fun d => xb50_ok (K.fi [0] rfl rfl)) ?_
    rintro r h9 ⟨rfl, K9⟩
    generalize ez2 : (x_qrefuse sst 2) = z2 at K9 ⊢
    have K : KN h9 [(0, .inl (9, [.ref 1, .ref 3, .ref 4, .ref 29, .ref 281, .ref 325, .ref 343, .ref 327, .int (z2.2)])), (4, .inl (7, [.ref 343, .int mi, .int shu, .int bus, .ref 5, .ref 6, .ref 7, .ref 8, .ref 9, .ref 10, .ref 11, .ref 12, .ref 13, .ref 14, .ref 15, .int lks, .ref 16, .ref 17, .ref 20])), (13, .inr (.inl (0, us))), (343, .inl (2, [.int ns, .ref 344, .ref 345, .ref 346, .ref 347, .int nt, .ref 348, .ref 349, .ref 350, .ref 351, .ref 352, .ref 353, .ref 354, .int cel, .ref 355, .ref 356, .ref 357, .ref 358]))] h0 := K.mg K9 rfl rfl
    clear K9
    show j_V jP _ 135 13 lv [.int (z2.1)] h9 _
    subst ez2
    refine j_V.ri xb65_M xb65_13 ?_
    rw [show (x_quse us ns sst x1) = _ from ((if_pos c5_0).trans (rfl))]
    exact ⟨rfl, K⟩
set_option maxRecDepth 100000 in
theorem xb66_M : j_meth jP 136 = some (yX9_gone, cX9_gone, 4, (some .int), 2, false, 9) := rfl
set_option maxRecDepth 100000 in
theorem xb66_0 : j_code jP 136 0 = some (.iload_n 2) := rfl
set_option maxRecDepth 100000 in
theorem xb66_1 : j_code jP 136 1 = some (.iconst (-1)) := rfl
set_option maxRecDepth 100000 in
theorem xb66_2 : j_code jP 136 2 = some (.if_icmp .ge 9) := rfl
set_option maxRecDepth 100000 in
theorem xb66_5 : j_code jP 136 5 = some (.aload_n 0) := rfl
set_option maxRecDepth 100000 in
theorem xb66_6 : j_code jP 136 6 = some (.iconst 1) := rfl
set_option maxRecDepth 100000 in
theorem xb66_7 : j_code jP 136 7 = some (.invokevirtual 84) := rfl
set_option maxRecDepth 100000 in
theorem xb66_10 : j_code jP 136 10 = some (.ireturn) := rfl
set_option maxRecDepth 100000 in
theorem xb66_11 : j_code jP 136 11 = some (.aload_n 0) := rfl
set_option maxRecDepth 100000 in
theorem xb66_12 : j_code jP 136 12 = some (.iload_n 1) := rfl
set_option maxRecDepth 100000 in
theorem xb66_13 : j_code jP 136 13 = some (.invokevirtual 268) := rfl
set_option maxRecDepth 100000 in
theorem xb66_16 : j_code jP 136 16 = some (.ifCond .ne 9) := rfl
set_option maxRecDepth 100000 in
theorem xb66_19 : j_code jP 136 19 = some (.aload_n 0) := rfl
set_option maxRecDepth 100000 in
theorem xb66_20 : j_code jP 136 20 = some (.iconst 2) := rfl
set_option maxRecDepth 100000 in
theorem xb66_21 : j_code jP 136 21 = some (.invokevirtual 84) := rfl
set_option maxRecDepth 100000 in
theorem xb66_24 : j_code jP 136 24 = some (.ireturn) := rfl
set_option maxRecDepth 100000 in
theorem xb66_25 : j_code jP 136 25 = some (.aload_n 0) := rfl
set_option maxRecDepth 100000 in
theorem xb66_26 : j_code jP 136 26 = some (.getfield 30) := rfl
set_option maxRecDepth 100000 in
theorem xb66_29 : j_code jP 136 29 = some (.getfield 280) := rfl
set_option maxRecDepth 100000 in
theorem xb66_32 : j_code jP 136 32 = some (.getfield 311) := rfl
set_option maxRecDepth 100000 in
theorem xb66_35 : j_code jP 136 35 = some (.iload_n 1) := rfl
set_option maxRecDepth 100000 in
theorem xb66_36 : j_code jP 136 36 = some (.iaload) := rfl
set_option maxRecDepth 100000 in
theorem xb66_37 : j_code jP 136 37 = some (.istore_n 3) := rfl
set_option maxRecDepth 100000 in
theorem xb66_38 : j_code jP 136 38 = some (.iload_n 2) := rfl
set_option maxRecDepth 100000 in
theorem xb66_39 : j_code jP 136 39 = some (.iconst (-1)) := rfl
set_option maxRecDepth 100000 in
theorem xb66_40 : j_code jP 136 40 = some (.if_icmp .ne 9) := rfl
set_option maxRecDepth 100000 in
theorem xb66_43 : j_code jP 136 43 = some (.aload_n 0) := rfl
set_option maxRecDepth 100000 in
theorem xb66_44 : j_code jP 136 44 = some (.iload_n 3) := rfl
set_option maxRecDepth 100000 in
theorem xb66_45 : j_code jP 136 45 = some (.invokevirtual 104) := rfl
set_option maxRecDepth 100000 in
theorem xb66_48 : j_code jP 136 48 = some (.ireturn) := rfl
set_option maxRecDepth 100000 in
theorem xb66_49 : j_code jP 136 49 = some (.iload_n 2) := rfl
set_option maxRecDepth 100000 in
theorem xb66_50 : j_code jP 136 50 = some (.iload_n 3) := rfl
set_option maxRecDepth 100000 in
theorem xb66_51 : j_code jP 136 51 = some (.if_icmp .lt 9) := rfl
set_option maxRecDepth 100000 in
theorem xb66_54 : j_code jP 136 54 = some (.aload_n 0) := rfl
set_option maxRecDepth 100000 in
theorem xb66_55 : j_code jP 136 55 = some (.iconst 5) := rfl
set_option maxRecDepth 100000 in
theorem xb66_56 : j_code jP 136 56 = some (.invokevirtual 84) := rfl
set_option maxRecDepth 100000 in
theorem xb66_59 : j_code jP 136 59 = some (.ireturn) := rfl
set_option maxRecDepth 100000 in
theorem xb66_60 : j_code jP 136 60 = some (.aload_n 0) := rfl
set_option maxRecDepth 100000 in
theorem xb66_61 : j_code jP 136 61 = some (.aload_n 0) := rfl
set_option maxRecDepth 100000 in
theorem xb66_62 : j_code jP 136 62 = some (.getfield 30) := rfl
set_option maxRecDepth 100000 in
theorem xb66_65 : j_code jP 136 65 = some (.getfield 280) := rfl
set_option maxRecDepth 100000 in
theorem xb66_68 : j_code jP 136 68 = some (.getfield 314) := rfl
set_option maxRecDepth 100000 in
theorem xb66_71 : j_code jP 136 71 = some (.iload_n 1) := rfl
set_option maxRecDepth 100000 in
theorem xb66_72 : j_code jP 136 72 = some (.iconst 5) := rfl
set_option maxRecDepth 100000 in
theorem xb66_73 : j_code jP 136 73 = some (.imul) := rfl
set_option maxRecDepth 100000 in
theorem xb66_74 : j_code jP 136 74 = some (.iload_n 2) := rfl
set_option maxRecDepth 100000 in
theorem xb66_75 : j_code jP 136 75 = some (.iadd) := rfl
set_option maxRecDepth 100000 in
theorem xb66_76 : j_code jP 136 76 = some (.iaload) := rfl
set_option maxRecDepth 100000 in
theorem xb66_77 : j_code jP 136 77 = some (.invokevirtual 104) := rfl
set_option maxRecDepth 100000 in
theorem xb66_80 : j_code jP 136 80 = some (.ireturn) := rfl
set_option maxRecDepth 1000000 in
theorem xb66_ok {mi : Int32} {shu : Int32} {bus : Int32} {lks : Int32} {pev : Int32} {pk : Int32} {prs : List Int32} {prr : List Int32} {ns : Int32} {nt : Int32} {cel : Int32} {sst : Int32} {x1 x2 : Int32} {d : Nat} {h h0 : J_H} (K : KN h [(0, .inl (9, [.ref 1, .ref 3, .ref 4, .ref 29, .ref 281, .ref 325, .ref 343, .ref 327, .int sst])), (4, .inl (7, [.ref 343, .int mi, .int shu, .int bus, .ref 5, .ref 6, .ref 7, .ref 8, .ref 9, .ref 10, .ref 11, .ref 12, .ref 13, .ref 14, .ref 15, .int lks, .ref 16, .ref 17, .ref 20])), (20, .inl (3, [.ref 21, .ref 22, .ref 23, .ref 24, .ref 25, .ref 26, .ref 27, .ref 28, .int pev, .int pk])), (26, .inr (.inl (0, prs))), (27, .inr (.inl (0, prr))), (343, .inl (2, [.int ns, .ref 344, .ref 345, .ref 346, .ref 347, .int nt, .ref 348, .ref 349, .ref 350, .ref 351, .ref 352, .ref 353, .ref 354, .int cel, .ref 355, .ref 356, .ref 357, .ref 358]))] h0) : j_V jP d 136 0 (lv_args 0 [.ref 0, .int x1, .int x2]) [] h (fun rv h' => rv = some (.int (x_qgone prs prr ns sst x1 x2).1) ∧ KN h' [(0, .inl (9, [.ref 1, .ref 3, .ref 4, .ref 29, .ref 281, .ref 325, .ref 343, .ref 327, .int (x_qgone prs prr ns sst x1 x2).2])), (4, .inl (7, [.ref 343, .int mi, .int shu, .int bus, .ref 5, .ref 6, .ref 7, .ref 8, .ref 9, .ref 10, .ref 11, .ref 12, .ref 13, .ref 14, .ref 15, .int lks, .ref 16, .ref 17, .ref 20])), (20, .inl (3, [.ref 21, .ref 22, .ref 23, .ref 24, .ref 25, .ref 26, .ref 27, .ref 28, .int pev, .int pk])), (26, .inr (.inl (0, prs))), (27, .inr (.inl (0, prr))), (343, .inl (2, [.int ns, .ref 344, .ref 345, .ref 346, .ref 347, .int nt, .ref 348, .ref 349, .ref 350, .ref 351, .ref 352, .ref 353, .ref 354, .int cel, .ref 355, .ref 356, .ref 357, .ref 358]))] h0) := by
  show j_V jP d 136 0 [(0, .ref 0), (1, .int x1), (2, .int x2)] [] h _
  obtain ⟨lv, elv, L⟩ : ∃ lv, lv = [(0, .ref 0), (1, .int x1), (2, .int x2)] ∧ LK lv [(0, .ref 0), (1, .int x1), (2, .int x2)] := ⟨_, rfl, LK.rf⟩
  rw [← elv]
  clear elv
  refine j_V.ldL xb66_M xb66_0 rfl (i := 2) (kd := 0) (v := .int x2) (pcJ := 1) rfl L rfl rfl rfl ?_
  refine j_V.one xb66_M xb66_1 (by decide) (pcJ := 2) (stJ := [.int (-1), .int x2]) rfl ?_
  refine j_V.icmp xb66_M xb66_2 (t := 11) rfl (fun c2_0 => ?_) (fun c2_0 => ?_)
  · replace c2_0 : ¬ (x2 < (-1)) := jd_ge c2_0
    refine j_V.ldL xb66_M xb66_11 rfl (i := 0) (kd := 2) (v := .ref 0) (pcJ := 12) rfl L rfl rfl rfl ?_
    refine j_V.ldL xb66_M xb66_12 rfl (i := 1) (kd := 0) (v := .int x1) (pcJ := 13) rfl L rfl rfl rfl ?_
    refine j_V.cl xb66_M xb66_13 rfl (md := 3) (mj := 166) rfl (by decide) xb48_M (As := [.ref 0, .int x1]) (rest := []) (jk_spl3 (K.at rfl) rfl rfl rfl (Nat.le_of_ble_eq_true rfl) (Nat.le_of_ble_eq_true rfl)) (fun d => xb48_ok (K.fi [0, 343] rfl rfl)) ?_
    rintro r hz ⟨rfl, ez⟩
    rw [ez]
    clear ez
    show j_V jP _ 136 16 lv [.int (x_isSection ns x1)] h _
    refine j_V.ifc xb66_M xb66_16 (t := 25) rfl (fun c16_1 => ?_) (fun c16_1 => ?_)
    · replace c16_1 : ¬ ((x_isSection ns x1) = 0) := jd_ne c16_1
      refine j_V.ldL xb66_M xb66_25 rfl (i := 0) (kd := 2) (v := .ref 0) (pcJ := 26) rfl L rfl rfl rfl ?_
      refine j_V.getK xb66_M xb66_26 (ci := 9) (j := 2) rfl K rfl rfl ?_
      refine j_V.getK xb66_M xb66_29 (ci := 7) (j := 18) rfl K rfl rfl ?_
      refine j_V.getK xb66_M xb66_32 (ci := 3) (j := 5) rfl K rfl rfl ?_
      refine j_V.ldL xb66_M xb66_35 rfl (i := 1) (kd := 0) (v := .int x1) (pcJ := 36) rfl L rfl rfl rfl ?_
      refine j_V.iaA xb66_M xb66_36 K rfl ?_
      refine j_V.stL xb66_M xb66_37 rfl (i := 3) (kd := 0) (kl' := [(0, .ref 0), (1, .int x1), (2, .int x2), (3, .int (gA prs x1))]) (pcJ := 38) rfl L rfl (by decide) rfl rfl rfl (fun lv L => ?_)
      refine j_V.ldL xb66_M xb66_38 rfl (i := 2) (kd := 0) (v := .int x2) (pcJ := 39) rfl L rfl rfl rfl ?_
      refine j_V.one xb66_M xb66_39 (by decide) (pcJ := 40) (stJ := [.int (-1), .int x2]) rfl ?_
      refine j_V.icmp xb66_M xb66_40 (t := 49) rfl (fun c40_2 => ?_) (fun c40_2 => ?_)
      · replace c40_2 : ¬ (x2 = (-1)) := jd_ne c40_2
        refine j_V.ldL xb66_M xb66_49 rfl (i := 2) (kd := 0) (v := .int x2) (pcJ := 50) rfl L rfl rfl rfl ?_
        refine j_V.ldL xb66_M xb66_50 rfl (i := 3) (kd := 0) (v := .int (gA prs x1)) (pcJ := 51) rfl L rfl rfl rfl ?_
        refine j_V.icmp xb66_M xb66_51 (t := 60) rfl (fun c51_3 => ?_) (fun c51_3 => ?_)
        · replace c51_3 : x2 < (gA prs x1) := jd_lt c51_3
          refine j_V.ldL xb66_M xb66_60 rfl (i := 0) (kd := 2) (v := .ref 0) (pcJ := 61) rfl L rfl rfl rfl ?_
          refine j_V.ldL xb66_M xb66_61 rfl (i := 0) (kd := 2) (v := .ref 0) (pcJ := 62) rfl L rfl rfl rfl ?_
          refine j_V.getK xb66_M xb66_62 (ci := 9) (j := 2) rfl K rfl rfl ?_
          refine j_V.getK xb66_M xb66_65 (ci := 7) (j := 18) rfl K rfl rfl ?_
          refine j_V.getK xb66_M xb66_68 (ci := 3) (j := 6) rfl K rfl rfl ?_
          refine j_V.ldL xb66_M xb66_71 rfl (i := 1) (kd := 0) (v := .int x1) (pcJ := 72) rfl L rfl rfl rfl ?_
          refine j_V.one xb66_M xb66_72 (by decide) (pcJ := 73) (stJ := [.int 5, .int x1, .ref 27, .ref 0]) rfl ?_
          refine j_V.one xb66_M xb66_73 (by decide) (pcJ := 74) (stJ := [.int (x1 * 5), .ref 27, .ref 0]) rfl ?_
          refine j_V.ldL xb66_M xb66_74 rfl (i := 2) (kd := 0) (v := .int x2) (pcJ := 75) rfl L rfl rfl rfl ?_
          refine j_V.one xb66_M xb66_75 (by decide) (pcJ := 76) (stJ := [.int ((x1 * 5) + x2), .ref 27, .ref 0]) rfl ?_
          refine j_V.iaA xb66_M xb66_76 K rfl ?_
          refine j_V.cl xb66_M xb66_77 rfl (md := 3) (mj := 159) rfl (by decide) xb49_M (As := [.ref 0, .int (gA prr ((x1 * 5) + x2))]) (rest := []) (jk_spl3 (K.at rfl) rfl rfl rfl (Nat.le_of_ble_eq_true rfl) (Nat.le_of_ble_eq_true rfl)) (fun d => xb49_ok (K.fi [0] rfl rfl)) ?_
          rintro r h9 ⟨rfl, K9⟩
          generalize ez1 : (x_qanswer sst (gA prr ((x1 * 5) + x2))) = z1 at K9 ⊢
          have K : KN h9 [(0, .inl (9, [.ref 1, .ref 3, .ref 4, .ref 29, .ref 281, .ref 325, .ref 343, .ref 327, .int (z1.2)])), (4, .inl (7, [.ref 343, .int mi, .int shu, .int bus, .ref 5, .ref 6, .ref 7, .ref 8, .ref 9, .ref 10, .ref 11, .ref 12, .ref 13, .ref 14, .ref 15, .int lks, .ref 16, .ref 17, .ref 20])), (20, .inl (3, [.ref 21, .ref 22, .ref 23, .ref 24, .ref 25, .ref 26, .ref 27, .ref 28, .int pev, .int pk])), (26, .inr (.inl (0, prs))), (27, .inr (.inl (0, prr))), (343, .inl (2, [.int ns, .ref 344, .ref 345, .ref 346, .ref 347, .int nt, .ref 348, .ref 349, .ref 350, .ref 351, .ref 352, .ref 353, .ref 354, .int cel, .ref 355, .ref 356, .ref 357, .ref 358]))] h0 := K.mg K9 rfl rfl
          clear K9
          show j_V jP _ 136 80 lv [.int (z1.1)] h9 _
          subst ez1
          refine j_V.ri xb66_M xb66_80 ?_
          rw [show (x_qgone prs prr ns sst x1 x2) = _ from ((if_neg c2_0).trans ((if_neg c16_1).trans ((if_neg c40_2).trans ((if_pos c51_3).trans (rfl)))))]
          exact ⟨rfl, K⟩
        · replace c51_3 : ¬ (x2 < (gA prs x1)) := jd_ltn c51_3
          refine j_V.ldL xb66_M xb66_54 rfl (i := 0) (kd := 2) (v := .ref 0) (pcJ := 55) rfl L rfl rfl rfl ?_
          refine j_V.one xb66_M xb66_55 (by decide) (pcJ := 56) (stJ := [.int 5, .ref 0]) rfl ?_
          refine j_V.cl xb66_M xb66_56 rfl (md := 3) (mj := 161) rfl (by decide) xb50_M (As := [.ref 0, .int 5]) (rest := []) (jk_spl3 (K.at rfl) rfl rfl rfl (Nat.le_of_ble_eq_true rfl) (Nat.le_of_ble_eq_true rfl)) (fun d => xb50_ok (K.fi [0] rfl rfl)) ?_
          rintro r h9 ⟨rfl, K9⟩
          generalize ez2 : (x_qrefuse sst 5) = z2 at K9 ⊢
          have K : KN h9 [(0, .inl (9, [.ref 1, .ref 3, .ref 4, .ref 29, .ref 281, .ref 325, .ref 343, .ref 327, .int (z2.2)])), (4, .inl (7, [.ref 343, .int mi, .int shu, .int bus, .ref 5, .ref 6, .ref 7, .ref 8, .ref 9, .ref 10, .ref 11, .ref 12, .ref 13, .ref 14, .ref 15, .int lks, .ref 16, .ref 17, .ref 20])), (20, .inl (3, [.ref 21, .ref 22, .ref 23, .ref 24, .ref 25, .ref 26, .ref 27, .ref 28, .int pev, .int pk])), (26, .inr (.inl (0, prs))), (27, .inr (.inl (0, prr))), (343, .inl (2, [.int ns, .ref 344, .ref 345, .ref 346, .ref 347, .int nt, .ref 348, .ref 349, .ref 350, .ref 351, .ref 352, .ref 353, .ref 354, .int cel, .ref 355, .ref 356, .ref 357, .ref 358]))] h0 := K.mg K9 rfl rfl
          clear K9
          show j_V jP _ 136 59 lv [.int (z2.1)] h9 _
          subst ez2
          refine j_V.ri xb66_M xb66_59 ?_
          rw [show (x_qgone prs prr ns sst x1 x2) = _ from ((if_neg c2_0).trans ((if_neg c16_1).trans ((if_neg c40_2).trans ((if_neg c51_3).trans (rfl)))))]
          exact ⟨rfl, K⟩
      · replace c40_2 : x2 = (-1) := jd_nen c40_2
        refine j_V.ldL xb66_M xb66_43 rfl (i := 0) (kd := 2) (v := .ref 0) (pcJ := 44) rfl L rfl rfl rfl ?_
        refine j_V.ldL xb66_M xb66_44 rfl (i := 3) (kd := 0) (v := .int (gA prs x1)) (pcJ := 45) rfl L rfl rfl rfl ?_
        refine j_V.cl xb66_M xb66_45 rfl (md := 3) (mj := 159) rfl (by decide) xb49_M (As := [.ref 0, .int (gA prs x1)]) (rest := []) (jk_spl3 (K.at rfl) rfl rfl rfl (Nat.le_of_ble_eq_true rfl) (Nat.le_of_ble_eq_true rfl)) (fun d => xb49_ok (K.fi [0] rfl rfl)) ?_
        rintro r h9 ⟨rfl, K9⟩
        generalize ez3 : (x_qanswer sst (gA prs x1)) = z3 at K9 ⊢
        have K : KN h9 [(0, .inl (9, [.ref 1, .ref 3, .ref 4, .ref 29, .ref 281, .ref 325, .ref 343, .ref 327, .int (z3.2)])), (4, .inl (7, [.ref 343, .int mi, .int shu, .int bus, .ref 5, .ref 6, .ref 7, .ref 8, .ref 9, .ref 10, .ref 11, .ref 12, .ref 13, .ref 14, .ref 15, .int lks, .ref 16, .ref 17, .ref 20])), (20, .inl (3, [.ref 21, .ref 22, .ref 23, .ref 24, .ref 25, .ref 26, .ref 27, .ref 28, .int pev, .int pk])), (26, .inr (.inl (0, prs))), (27, .inr (.inl (0, prr))), (343, .inl (2, [.int ns, .ref 344, .ref 345, .ref 346, .ref 347, .int nt, .ref 348, .ref 349, .ref 350, .ref 351, .ref 352, .ref 353, .ref 354, .int cel, .ref 355, .ref 356, .ref 357, .ref 358]))] h0 := K.mg K9 rfl rfl
        clear K9
        show j_V jP _ 136 48 lv [.int (z3.1)] h9 _
        subst ez3
        refine j_V.ri xb66_M xb66_48 ?_
        rw [show (x_qgone prs prr ns sst x1 x2) = _ from ((if_neg c2_0).trans ((if_neg c16_1).trans ((if_pos c40_2).trans (rfl))))]
        exact ⟨rfl, K⟩
    · replace c16_1 : (x_isSection ns x1) = 0 := jd_nen c16_1
      refine j_V.ldL xb66_M xb66_19 rfl (i := 0) (kd := 2) (v := .ref 0) (pcJ := 20) rfl L rfl rfl rfl ?_
      refine j_V.one xb66_M xb66_20 (by decide) (pcJ := 21) (stJ := [.int 2, .ref 0]) rfl ?_
      refine j_V.cl xb66_M xb66_21 rfl (md := 3) (mj := 161) rfl (by decide) xb50_M (As := [.ref 0, .int 2]) (rest := []) (jk_spl3 (K.at rfl) rfl rfl rfl (Nat.le_of_ble_eq_true rfl) (Nat.le_of_ble_eq_true rfl)) (fun d => xb50_ok (K.fi [0] rfl rfl)) ?_
      rintro r h9 ⟨rfl, K9⟩
      generalize ez4 : (x_qrefuse sst 2) = z4 at K9 ⊢
      have K : KN h9 [(0, .inl (9, [.ref 1, .ref 3, .ref 4, .ref 29, .ref 281, .ref 325, .ref 343, .ref 327, .int (z4.2)])), (4, .inl (7, [.ref 343, .int mi, .int shu, .int bus, .ref 5, .ref 6, .ref 7, .ref 8, .ref 9, .ref 10, .ref 11, .ref 12, .ref 13, .ref 14, .ref 15, .int lks, .ref 16, .ref 17, .ref 20])), (20, .inl (3, [.ref 21, .ref 22, .ref 23, .ref 24, .ref 25, .ref 26, .ref 27, .ref 28, .int pev, .int pk])), (26, .inr (.inl (0, prs))), (27, .inr (.inl (0, prr))), (343, .inl (2, [.int ns, .ref 344, .ref 345, .ref 346, .ref 347, .int nt, .ref 348, .ref 349, .ref 350, .ref 351, .ref 352, .ref 353, .ref 354, .int cel, .ref 355, .ref 356, .ref 357, .ref 358]))] h0 := K.mg K9 rfl rfl
      clear K9
      show j_V jP _ 136 24 lv [.int (z4.1)] h9 _
      subst ez4
      refine j_V.ri xb66_M xb66_24 ?_
      rw [show (x_qgone prs prr ns sst x1 x2) = _ from ((if_neg c2_0).trans ((if_pos c16_1).trans (rfl)))]
      exact ⟨rfl, K⟩
  · replace c2_0 : x2 < (-1) := jd_gen c2_0
    refine j_V.ldL xb66_M xb66_5 rfl (i := 0) (kd := 2) (v := .ref 0) (pcJ := 6) rfl L rfl rfl rfl ?_
    refine j_V.one xb66_M xb66_6 (by decide) (pcJ := 7) (stJ := [.int 1, .ref 0]) rfl ?_
    refine j_V.cl xb66_M xb66_7 rfl (md := 3) (mj := 161) rfl (by decide) xb50_M (As := [.ref 0, .int 1]) (rest := []) (jk_spl3 (K.at rfl) rfl rfl rfl (Nat.le_of_ble_eq_true rfl) (Nat.le_of_ble_eq_true rfl)) (fun d => xb50_ok (K.fi [0] rfl rfl)) ?_
    rintro r h9 ⟨rfl, K9⟩
    generalize ez5 : (x_qrefuse sst 1) = z5 at K9 ⊢
    have K : KN h9 [(0, .inl (9, [.ref 1, .ref 3, .ref 4, .ref 29, .ref 281, .ref 325, .ref 343, .ref 327, .int (z5.2)])), (4, .inl (7, [.ref 343, .int mi, .int shu, .int bus, .ref 5, .ref 6, .ref 7, .ref 8, .ref 9, .ref 10, .ref 11, .ref 12, .ref 13, .ref 14, .ref 15, .int lks, .ref 16, .ref 17, .ref 20])), (20, .inl (3, [.ref 21, .ref 22, .ref 23, .ref 24, .ref 25, .ref 26, .ref 27, .ref 28, .int pev, .int pk])), (26, .inr (.inl (0, prs))), (27, .inr (.inl (0, prr))), (343, .inl (2, [.int ns, .ref 344, .ref 345, .ref 346, .ref 347, .int nt, .ref 348, .ref 349, .ref 350, .ref 351, .ref 352, .ref 353, .ref 354, .int cel, .ref 355, .ref 356, .ref 357, .ref 358]))] h0 := K.mg K9 rfl rfl
    clear K9
    show j_V jP _ 136 10 lv [.int (z5.1)] h9 _
    subst ez5
    refine j_V.ri xb66_M xb66_10 ?_
    rw [show (x_qgone prs prr ns sst x1 x2) = _ from ((if_pos c2_0).trans (rfl))]
    exact ⟨rfl, K⟩
set_option maxRecDepth 100000 in
theorem xb67_M : j_meth jP 137 = some (yX9_waits, cX9_waits, 2, (some .int), 1, false, 9) := rfl
set_option maxRecDepth 100000 in
theorem xb67_0 : j_code jP 137 0 = some (.aload_n 0) := rfl
set_option maxRecDepth 100000 in
theorem xb67_1 : j_code jP 137 1 = some (.iload_n 1) := rfl
set_option maxRecDepth 100000 in
theorem xb67_2 : j_code jP 137 2 = some (.invokevirtual 184) := rfl
set_option maxRecDepth 100000 in
theorem xb67_5 : j_code jP 137 5 = some (.ifCond .ne 9) := rfl
set_option maxRecDepth 100000 in
theorem xb67_8 : j_code jP 137 8 = some (.aload_n 0) := rfl
set_option maxRecDepth 100000 in
theorem xb67_9 : j_code jP 137 9 = some (.iconst 2) := rfl
set_option maxRecDepth 100000 in
theorem xb67_10 : j_code jP 137 10 = some (.invokevirtual 84) := rfl
set_option maxRecDepth 100000 in
theorem xb67_13 : j_code jP 137 13 = some (.ireturn) := rfl
set_option maxRecDepth 100000 in
theorem xb67_14 : j_code jP 137 14 = some (.aload_n 0) := rfl
set_option maxRecDepth 100000 in
theorem xb67_15 : j_code jP 137 15 = some (.aload_n 0) := rfl
set_option maxRecDepth 100000 in
theorem xb67_16 : j_code jP 137 16 = some (.getfield 30) := rfl
set_option maxRecDepth 100000 in
theorem xb67_19 : j_code jP 137 19 = some (.getfield 280) := rfl
set_option maxRecDepth 100000 in
theorem xb67_22 : j_code jP 137 22 = some (.getfield 317) := rfl
set_option maxRecDepth 100000 in
theorem xb67_25 : j_code jP 137 25 = some (.iload_n 1) := rfl
set_option maxRecDepth 100000 in
theorem xb67_26 : j_code jP 137 26 = some (.iaload) := rfl
set_option maxRecDepth 100000 in
theorem xb67_27 : j_code jP 137 27 = some (.invokevirtual 104) := rfl
set_option maxRecDepth 100000 in
theorem xb67_30 : j_code jP 137 30 = some (.ireturn) := rfl
set_option maxRecDepth 1000000 in
theorem xb67_ok {mi : Int32} {shu : Int32} {bus : Int32} {lks : Int32} {pev : Int32} {pk : Int32} {pwa : List Int32} {ns : Int32} {nt : Int32} {cel : Int32} {sst : Int32} {x1 : Int32} {d : Nat} {h h0 : J_H} (K : KN h [(0, .inl (9, [.ref 1, .ref 3, .ref 4, .ref 29, .ref 281, .ref 325, .ref 343, .ref 327, .int sst])), (4, .inl (7, [.ref 343, .int mi, .int shu, .int bus, .ref 5, .ref 6, .ref 7, .ref 8, .ref 9, .ref 10, .ref 11, .ref 12, .ref 13, .ref 14, .ref 15, .int lks, .ref 16, .ref 17, .ref 20])), (20, .inl (3, [.ref 21, .ref 22, .ref 23, .ref 24, .ref 25, .ref 26, .ref 27, .ref 28, .int pev, .int pk])), (25, .inr (.inl (0, pwa))), (343, .inl (2, [.int ns, .ref 344, .ref 345, .ref 346, .ref 347, .int nt, .ref 348, .ref 349, .ref 350, .ref 351, .ref 352, .ref 353, .ref 354, .int cel, .ref 355, .ref 356, .ref 357, .ref 358]))] h0) : j_V jP d 137 0 (lv_args 0 [.ref 0, .int x1]) [] h (fun rv h' => rv = some (.int (x_qwaits pwa nt sst x1).1) ∧ KN h' [(0, .inl (9, [.ref 1, .ref 3, .ref 4, .ref 29, .ref 281, .ref 325, .ref 343, .ref 327, .int (x_qwaits pwa nt sst x1).2])), (4, .inl (7, [.ref 343, .int mi, .int shu, .int bus, .ref 5, .ref 6, .ref 7, .ref 8, .ref 9, .ref 10, .ref 11, .ref 12, .ref 13, .ref 14, .ref 15, .int lks, .ref 16, .ref 17, .ref 20])), (20, .inl (3, [.ref 21, .ref 22, .ref 23, .ref 24, .ref 25, .ref 26, .ref 27, .ref 28, .int pev, .int pk])), (25, .inr (.inl (0, pwa))), (343, .inl (2, [.int ns, .ref 344, .ref 345, .ref 346, .ref 347, .int nt, .ref 348, .ref 349, .ref 350, .ref 351, .ref 352, .ref 353, .ref 354, .int cel, .ref 355, .ref 356, .ref 357, .ref 358]))] h0) := by
  show j_V jP d 137 0 [(0, .ref 0), (1, .int x1)] [] h _
  obtain ⟨lv, elv, L⟩ : ∃ lv, lv = [(0, .ref 0), (1, .int x1)] ∧ LK lv [(0, .ref 0), (1, .int x1)] := ⟨_, rfl, LK.rf⟩
  rw [← elv]
  clear elv
  refine j_V.ldL xb67_M xb67_0 rfl (i := 0) (kd := 2) (v := .ref 0) (pcJ := 1) rfl L rfl rfl rfl ?_
  refine j_V.ldL xb67_M xb67_1 rfl (i := 1) (kd := 0) (v := .int x1) (pcJ := 2) rfl L rfl rfl rfl ?_
  refine j_V.cl xb67_M xb67_2 rfl (md := 3) (mj := 165) rfl (by decide) xb47_M (As := [.ref 0, .int x1]) (rest := []) (jk_spl3 (K.at rfl) rfl rfl rfl (Nat.le_of_ble_eq_true rfl) (Nat.le_of_ble_eq_true rfl)) (fun d => xb47_ok (K.fi [0, 343] rfl rfl)) ?_
  rintro r hz ⟨rfl, ez⟩
  rw [ez]
  clear ez
  show j_V jP _ 137 5 lv [.int (x_isTrain nt x1)] h _
  refine j_V.ifc xb67_M xb67_5 (t := 14) rfl (fun c5_0 => ?_) (fun c5_0 => ?_)
  · replace c5_0 : ¬ ((x_isTrain nt x1) = 0) := jd_ne c5_0
    refine j_V.ldL xb67_M xb67_14 rfl (i := 0) (kd := 2) (v := .ref 0) (pcJ := 15) rfl L rfl rfl rfl ?_
    refine j_V.ldL xb67_M xb67_15 rfl (i := 0) (kd := 2) (v := .ref 0) (pcJ := 16) rfl L rfl rfl rfl ?_
    refine j_V.getK xb67_M xb67_16 (ci := 9) (j := 2) rfl K rfl rfl ?_
    refine j_V.getK xb67_M xb67_19 (ci := 7) (j := 18) rfl K rfl rfl ?_
    refine j_V.getK xb67_M xb67_22 (ci := 3) (j := 4) rfl K rfl rfl ?_
    refine j_V.ldL xb67_M xb67_25 rfl (i := 1) (kd := 0) (v := .int x1) (pcJ := 26) rfl L rfl rfl rfl ?_
    refine j_V.iaA xb67_M xb67_26 K rfl ?_
    refine j_V.cl xb67_M xb67_27 rfl (md := 3) (mj := 159) rfl (by decide) xb49_M (As := [.ref 0, .int (gA pwa x1)]) (rest := []) (jk_spl3 (K.at rfl) rfl rfl rfl (Nat.le_of_ble_eq_true rfl) (Nat.le_of_ble_eq_true rfl)) (fun d => xb49_ok (K.fi [0] rfl rfl)) ?_
    rintro r h9 ⟨rfl, K9⟩
    generalize ez1 : (x_qanswer sst (gA pwa x1)) = z1 at K9 ⊢
    have K : KN h9 [(0, .inl (9, [.ref 1, .ref 3, .ref 4, .ref 29, .ref 281, .ref 325, .ref 343, .ref 327, .int (z1.2)])), (4, .inl (7, [.ref 343, .int mi, .int shu, .int bus, .ref 5, .ref 6, .ref 7, .ref 8, .ref 9, .ref 10, .ref 11, .ref 12, .ref 13, .ref 14, .ref 15, .int lks, .ref 16, .ref 17, .ref 20])), (20, .inl (3, [.ref 21, .ref 22, .ref 23, .ref 24, .ref 25, .ref 26, .ref 27, .ref 28, .int pev, .int pk])), (25, .inr (.inl (0, pwa))), (343, .inl (2, [.int ns, .ref 344, .ref 345, .ref 346, .ref 347, .int nt, .ref 348, .ref 349, .ref 350, .ref 351, .ref 352, .ref 353, .ref 354, .int cel, .ref 355, .ref 356, .ref 357, .ref 358]))] h0 := K.mg K9 rfl rfl
    clear K9
    show j_V jP _ 137 30 lv [.int (z1.1)] h9 _
    subst ez1
    refine j_V.ri xb67_M xb67_30 ?_
    rw [show (x_qwaits pwa nt sst x1) = _ from ((if_neg c5_0).trans (rfl))]
    exact ⟨rfl, K⟩
  · replace c5_0 : (x_isTrain nt x1) = 0 := jd_nen c5_0
    refine j_V.ldL xb67_M xb67_8 rfl (i := 0) (kd := 2) (v := .ref 0) (pcJ := 9) rfl L rfl rfl rfl ?_
    refine j_V.one xb67_M xb67_9 (by decide) (pcJ := 10) (stJ := [.int 2, .ref 0]) rfl ?_
    refine j_V.cl xb67_M xb67_10 rfl (md := 3) (mj := 161) rfl (by decide) xb50_M (As := [.ref 0, .int 2]) (rest := []) (jk_spl3 (K.at rfl) rfl rfl rfl (Nat.le_of_ble_eq_true rfl) (Nat.le_of_ble_eq_true rfl)) (fun d => xb50_ok (K.fi [0] rfl rfl)) ?_
    rintro r h9 ⟨rfl, K9⟩
    generalize ez2 : (x_qrefuse sst 2) = z2 at K9 ⊢
    have K : KN h9 [(0, .inl (9, [.ref 1, .ref 3, .ref 4, .ref 29, .ref 281, .ref 325, .ref 343, .ref 327, .int (z2.2)])), (4, .inl (7, [.ref 343, .int mi, .int shu, .int bus, .ref 5, .ref 6, .ref 7, .ref 8, .ref 9, .ref 10, .ref 11, .ref 12, .ref 13, .ref 14, .ref 15, .int lks, .ref 16, .ref 17, .ref 20])), (20, .inl (3, [.ref 21, .ref 22, .ref 23, .ref 24, .ref 25, .ref 26, .ref 27, .ref 28, .int pev, .int pk])), (25, .inr (.inl (0, pwa))), (343, .inl (2, [.int ns, .ref 344, .ref 345, .ref 346, .ref 347, .int nt, .ref 348, .ref 349, .ref 350, .ref 351, .ref 352, .ref 353, .ref 354, .int cel, .ref 355, .ref 356, .ref 357, .ref 358]))] h0 := K.mg K9 rfl rfl
    clear K9
    show j_V jP _ 137 13 lv [.int (z2.1)] h9 _
    subst ez2
    refine j_V.ri xb67_M xb67_13 ?_
    rw [show (x_qwaits pwa nt sst x1) = _ from ((if_pos c5_0).trans (rfl))]
    exact ⟨rfl, K⟩
set_option maxRecDepth 100000 in
theorem xb68_M : j_meth jP 121 = some (yX9_why, cX9_why, 2, (some .int), 1, false, 9) := rfl
set_option maxRecDepth 100000 in
theorem xb68_0 : j_code jP 121 0 = some (.aload_n 0) := rfl
set_option maxRecDepth 100000 in
theorem xb68_1 : j_code jP 121 1 = some (.iload_n 1) := rfl
set_option maxRecDepth 100000 in
theorem xb68_2 : j_code jP 121 2 = some (.invokevirtual 184) := rfl
set_option maxRecDepth 100000 in
theorem xb68_5 : j_code jP 121 5 = some (.ifCond .ne 9) := rfl
set_option maxRecDepth 100000 in
theorem xb68_8 : j_code jP 121 8 = some (.aload_n 0) := rfl
set_option maxRecDepth 100000 in
theorem xb68_9 : j_code jP 121 9 = some (.iconst 2) := rfl
set_option maxRecDepth 100000 in
theorem xb68_10 : j_code jP 121 10 = some (.invokevirtual 84) := rfl
set_option maxRecDepth 100000 in
theorem xb68_13 : j_code jP 121 13 = some (.ireturn) := rfl
set_option maxRecDepth 100000 in
theorem xb68_14 : j_code jP 121 14 = some (.aload_n 0) := rfl
set_option maxRecDepth 100000 in
theorem xb68_15 : j_code jP 121 15 = some (.aload_n 0) := rfl
set_option maxRecDepth 100000 in
theorem xb68_16 : j_code jP 121 16 = some (.getfield 30) := rfl
set_option maxRecDepth 100000 in
theorem xb68_19 : j_code jP 121 19 = some (.iload_n 1) := rfl
set_option maxRecDepth 100000 in
theorem xb68_20 : j_code jP 121 20 = some (.invokevirtual 232) := rfl
set_option maxRecDepth 100000 in
theorem xb68_23 : j_code jP 121 23 = some (.invokevirtual 104) := rfl
set_option maxRecDepth 100000 in
theorem xb68_26 : j_code jP 121 26 = some (.ireturn) := rfl
set_option maxRecDepth 1000000 in
theorem xb68_ok {mi : Int32} {shu : Int32} {bus : Int32} {lks : Int32} {ph : List Int32} {sp : List Int32} {ce : List Int32} {ri : List Int32} {rl : Int32} {row : List Int32} {sea : List Int32} {ns : Int32} {nt : Int32} {cel : Int32} {len : List Int32} {frm : List Int32} {tto : List Int32} {fit : List Int32} {way : List Int32} {sst : Int32} {x1 : Int32} {d : Nat} {h h0 : J_H} (K : KN h [(0, .inl (9, [.ref 1, .ref 3, .ref 4, .ref 29, .ref 281, .ref 325, .ref 343, .ref 327, .int sst])), (4, .inl (7, [.ref 343, .int mi, .int shu, .int bus, .ref 5, .ref 6, .ref 7, .ref 8, .ref 9, .ref 10, .ref 11, .ref 12, .ref 13, .ref 14, .ref 15, .int lks, .ref 16, .ref 17, .ref 20])), (7, .inr (.inl (0, ph))), (8, .inr (.inl (0, sp))), (9, .inr (.inl (0, ce))), (12, .inr (.inl (0, ri))), (17, .inl (5, [.ref 18, .int rl, .ref 19])), (18, .inr (.inl (0, row))), (19, .inr (.inl (0, sea))), (343, .inl (2, [.int ns, .ref 344, .ref 345, .ref 346, .ref 347, .int nt, .ref 348, .ref 349, .ref 350, .ref 351, .ref 352, .ref 353, .ref 354, .int cel, .ref 355, .ref 356, .ref 357, .ref 358])), (347, .inr (.inl (0, len))), (350, .inr (.inl (0, frm))), (351, .inr (.inl (0, tto))), (355, .inr (.inl (0, fit))), (356, .inr (.inl (0, way)))] h0) : j_V jP d 121 0 (lv_args 0 [.ref 0, .int x1]) [] h (fun rv h' => rv = some (.int (x_qwhy shu bus ph sp ce ri rl row sea nt len frm tto fit way sst x1).1) ∧ KN h' [(0, .inl (9, [.ref 1, .ref 3, .ref 4, .ref 29, .ref 281, .ref 325, .ref 343, .ref 327, .int (x_qwhy shu bus ph sp ce ri rl row sea nt len frm tto fit way sst x1).2.2.2.2])), (4, .inl (7, [.ref 343, .int mi, .int shu, .int bus, .ref 5, .ref 6, .ref 7, .ref 8, .ref 9, .ref 10, .ref 11, .ref 12, .ref 13, .ref 14, .ref 15, .int lks, .ref 16, .ref 17, .ref 20])), (7, .inr (.inl (0, ph))), (8, .inr (.inl (0, sp))), (9, .inr (.inl (0, ce))), (12, .inr (.inl (0, ri))), (17, .inl (5, [.ref 18, .int (x_qwhy shu bus ph sp ce ri rl row sea nt len frm tto fit way sst x1).2.2.2.1, .ref 19])), (18, .inr (.inl (0, (x_qwhy shu bus ph sp ce ri rl row sea nt len frm tto fit way sst x1).2.2.1))), (19, .inr (.inl (0, (x_qwhy shu bus ph sp ce ri rl row sea nt len frm tto fit way sst x1).2.1))), (343, .inl (2, [.int ns, .ref 344, .ref 345, .ref 346, .ref 347, .int nt, .ref 348, .ref 349, .ref 350, .ref 351, .ref 352, .ref 353, .ref 354, .int cel, .ref 355, .ref 356, .ref 357, .ref 358])), (347, .inr (.inl (0, len))), (350, .inr (.inl (0, frm))), (351, .inr (.inl (0, tto))), (355, .inr (.inl (0, fit))), (356, .inr (.inl (0, way)))] h0) := by
  show j_V jP d 121 0 [(0, .ref 0), (1, .int x1)] [] h _
  obtain ⟨lv, elv, L⟩ : ∃ lv, lv = [(0, .ref 0), (1, .int x1)] ∧ LK lv [(0, .ref 0), (1, .int x1)] := ⟨_, rfl, LK.rf⟩
  rw [← elv]
  clear elv
  refine j_V.ldL xb68_M xb68_0 rfl (i := 0) (kd := 2) (v := .ref 0) (pcJ := 1) rfl L rfl rfl rfl ?_
  refine j_V.ldL xb68_M xb68_1 rfl (i := 1) (kd := 0) (v := .int x1) (pcJ := 2) rfl L rfl rfl rfl ?_
  refine j_V.cl xb68_M xb68_2 rfl (md := 3) (mj := 165) rfl (by decide) xb47_M (As := [.ref 0, .int x1]) (rest := []) (jk_spl3 (K.at rfl) rfl rfl rfl (Nat.le_of_ble_eq_true rfl) (Nat.le_of_ble_eq_true rfl)) (fun d => xb47_ok (K.fi [0, 343] rfl rfl)) ?_
  rintro r hz ⟨rfl, ez⟩
  rw [ez]
  clear ez
  show j_V jP _ 121 5 lv [.int (x_isTrain nt x1)] h _
  refine j_V.ifc xb68_M xb68_5 (t := 14) rfl (fun c5_0 => ?_) (fun c5_0 => ?_)
  · replace c5_0 : ¬ ((x_isTrain nt x1) = 0) := jd_ne c5_0
    refine j_V.ldL xb68_M xb68_14 rfl (i := 0) (kd := 2) (v := .ref 0) (pcJ := 15) rfl L rfl rfl rfl ?_
    refine j_V.ldL xb68_M xb68_15 rfl (i := 0) (kd := 2) (v := .ref 0) (pcJ := 16) rfl L rfl rfl rfl ?_
    refine j_V.getK xb68_M xb68_16 (ci := 9) (j := 2) rfl K rfl rfl ?_
    refine j_V.ldL xb68_M xb68_19 rfl (i := 1) (kd := 0) (v := .int x1) (pcJ := 20) rfl L rfl rfl rfl ?_
    refine j_V.cl xb68_M xb68_20 rfl (md := 3) (mj := 80) rfl (by decide) xb41_M (As := [.ref 4, .int x1]) (rest := [.ref 0]) (jk_spl3 (K.at rfl) rfl rfl rfl (Nat.le_of_ble_eq_true rfl) (Nat.le_of_ble_eq_true rfl)) (fun d => xb41_ok (K.fi [4, 7, 8, 9, 12, 17, 18, 19, 343, 347, 350, 351, 355, 356] rfl rfl)) ?_
    rintro r h9 ⟨rfl, K9⟩
    generalize ez1 : (x_reason shu bus ph sp ce ri rl row sea nt len frm tto fit way x1) = z1 at K9 ⊢
    have K : KN h9 [(0, .inl (9, [.ref 1, .ref 3, .ref 4, .ref 29, .ref 281, .ref 325, .ref 343, .ref 327, .int sst])), (4, .inl (7, [.ref 343, .int mi, .int shu, .int bus, .ref 5, .ref 6, .ref 7, .ref 8, .ref 9, .ref 10, .ref 11, .ref 12, .ref 13, .ref 14, .ref 15, .int lks, .ref 16, .ref 17, .ref 20])), (7, .inr (.inl (0, ph))), (8, .inr (.inl (0, sp))), (9, .inr (.inl (0, ce))), (12, .inr (.inl (0, ri))), (17, .inl (5, [.ref 18, .int (z1.2.2.2), .ref 19])), (18, .inr (.inl (0, (z1.2.2.1)))), (19, .inr (.inl (0, (z1.2.1)))), (343, .inl (2, [.int ns, .ref 344, .ref 345, .ref 346, .ref 347, .int nt, .ref 348, .ref 349, .ref 350, .ref 351, .ref 352, .ref 353, .ref 354, .int cel, .ref 355, .ref 356, .ref 357, .ref 358])), (347, .inr (.inl (0, len))), (350, .inr (.inl (0, frm))), (351, .inr (.inl (0, tto))), (355, .inr (.inl (0, fit))), (356, .inr (.inl (0, way)))] h0 := K.mg K9 rfl rfl
    clear K9
    show j_V jP _ 121 23 lv [.int (z1.1), .ref 0] h9 _
    refine j_V.cl xb68_M xb68_23 rfl (md := 3) (mj := 159) rfl (by decide) xb49_M (As := [.ref 0, .int (z1.1)]) (rest := []) (jk_spl3 (K.at rfl) rfl rfl rfl (Nat.le_of_ble_eq_true rfl) (Nat.le_of_ble_eq_true rfl)) (fun d => xb49_ok (K.fi [0] rfl rfl)) ?_
    rintro r h9 ⟨rfl, K9⟩
    generalize ez2 : (x_qanswer sst (z1.1)) = z2 at K9 ⊢
    have K : KN h9 [(0, .inl (9, [.ref 1, .ref 3, .ref 4, .ref 29, .ref 281, .ref 325, .ref 343, .ref 327, .int (z2.2)])), (4, .inl (7, [.ref 343, .int mi, .int shu, .int bus, .ref 5, .ref 6, .ref 7, .ref 8, .ref 9, .ref 10, .ref 11, .ref 12, .ref 13, .ref 14, .ref 15, .int lks, .ref 16, .ref 17, .ref 20])), (7, .inr (.inl (0, ph))), (8, .inr (.inl (0, sp))), (9, .inr (.inl (0, ce))), (12, .inr (.inl (0, ri))), (17, .inl (5, [.ref 18, .int (z1.2.2.2), .ref 19])), (18, .inr (.inl (0, (z1.2.2.1)))), (19, .inr (.inl (0, (z1.2.1)))), (343, .inl (2, [.int ns, .ref 344, .ref 345, .ref 346, .ref 347, .int nt, .ref 348, .ref 349, .ref 350, .ref 351, .ref 352, .ref 353, .ref 354, .int cel, .ref 355, .ref 356, .ref 357, .ref 358])), (347, .inr (.inl (0, len))), (350, .inr (.inl (0, frm))), (351, .inr (.inl (0, tto))), (355, .inr (.inl (0, fit))), (356, .inr (.inl (0, way)))] h0 := K.mg K9 rfl rfl
    clear K9
    show j_V jP _ 121 26 lv [.int (z2.1)] h9 _
    subst ez2
    subst ez1
    refine j_V.ri xb68_M xb68_26 ?_
    rw [show (x_qwhy shu bus ph sp ce ri rl row sea nt len frm tto fit way sst x1) = _ from ((if_neg c5_0).trans (rfl))]
    exact ⟨rfl, K⟩
  · replace c5_0 : (x_isTrain nt x1) = 0 := jd_nen c5_0
    refine j_V.ldL xb68_M xb68_8 rfl (i := 0) (kd := 2) (v := .ref 0) (pcJ := 9) rfl L rfl rfl rfl ?_
    refine j_V.one xb68_M xb68_9 (by decide) (pcJ := 10) (stJ := [.int 2, .ref 0]) rfl ?_
    refine j_V.cl xb68_M xb68_10 rfl (md := 3) (mj := 161) rfl (by decide) xb50_M (As := [.ref 0, .int 2]) (rest := []) (jk_spl3 (K.at rfl) rfl rfl rfl (Nat.le_of_ble_eq_true rfl) (Nat.le_of_ble_eq_true rfl)) (fun d => xb50_ok (K.fi [0] rfl rfl)) ?_
    rintro r h9 ⟨rfl, K9⟩
    generalize ez3 : (x_qrefuse sst 2) = z3 at K9 ⊢
    have K : KN h9 [(0, .inl (9, [.ref 1, .ref 3, .ref 4, .ref 29, .ref 281, .ref 325, .ref 343, .ref 327, .int (z3.2)])), (4, .inl (7, [.ref 343, .int mi, .int shu, .int bus, .ref 5, .ref 6, .ref 7, .ref 8, .ref 9, .ref 10, .ref 11, .ref 12, .ref 13, .ref 14, .ref 15, .int lks, .ref 16, .ref 17, .ref 20])), (7, .inr (.inl (0, ph))), (8, .inr (.inl (0, sp))), (9, .inr (.inl (0, ce))), (12, .inr (.inl (0, ri))), (17, .inl (5, [.ref 18, .int rl, .ref 19])), (18, .inr (.inl (0, row))), (19, .inr (.inl (0, sea))), (343, .inl (2, [.int ns, .ref 344, .ref 345, .ref 346, .ref 347, .int nt, .ref 348, .ref 349, .ref 350, .ref 351, .ref 352, .ref 353, .ref 354, .int cel, .ref 355, .ref 356, .ref 357, .ref 358])), (347, .inr (.inl (0, len))), (350, .inr (.inl (0, frm))), (351, .inr (.inl (0, tto))), (355, .inr (.inl (0, fit))), (356, .inr (.inl (0, way)))] h0 := K.mg K9 rfl rfl
    clear K9
    show j_V jP _ 121 13 lv [.int (z3.1)] h9 _
    subst ez3
    refine j_V.ri xb68_M xb68_13 ?_
    rw [show (x_qwhy shu bus ph sp ce ri rl row sea nt len frm tto fit way sst x1) = _ from ((if_pos c5_0).trans (rfl))]
    exact ⟨rfl, K⟩
set_option maxRecDepth 100000 in
theorem xb69_M : j_meth jP 122 = some (yX9_through, cX9_through, 3, (some .int), 1, false, 9) := rfl
set_option maxRecDepth 100000 in
theorem xb69_0 : j_code jP 122 0 = some (.iload_n 1) := rfl
set_option maxRecDepth 100000 in
theorem xb69_1 : j_code jP 122 1 = some (.iconst (-1)) := rfl
set_option maxRecDepth 100000 in
theorem xb69_2 : j_code jP 122 2 = some (.if_icmp .ge 9) := rfl
set_option maxRecDepth 100000 in
theorem xb69_5 : j_code jP 122 5 = some (.aload_n 0) := rfl
set_option maxRecDepth 100000 in
theorem xb69_6 : j_code jP 122 6 = some (.iconst 1) := rfl
set_option maxRecDepth 100000 in
theorem xb69_7 : j_code jP 122 7 = some (.invokevirtual 84) := rfl
set_option maxRecDepth 100000 in
theorem xb69_10 : j_code jP 122 10 = some (.ireturn) := rfl
set_option maxRecDepth 100000 in
theorem xb69_11 : j_code jP 122 11 = some (.aload_n 0) := rfl
set_option maxRecDepth 100000 in
theorem xb69_12 : j_code jP 122 12 = some (.getfield 30) := rfl
set_option maxRecDepth 100000 in
theorem xb69_15 : j_code jP 122 15 = some (.invokevirtual 127) := rfl
set_option maxRecDepth 100000 in
theorem xb69_18 : j_code jP 122 18 = some (.pop) := rfl
set_option maxRecDepth 100000 in
theorem xb69_19 : j_code jP 122 19 = some (.aload_n 0) := rfl
set_option maxRecDepth 100000 in
theorem xb69_20 : j_code jP 122 20 = some (.getfield 30) := rfl
set_option maxRecDepth 100000 in
theorem xb69_23 : j_code jP 122 23 = some (.getfield 235) := rfl
set_option maxRecDepth 100000 in
theorem xb69_26 : j_code jP 122 26 = some (.astore_n 2) := rfl
set_option maxRecDepth 100000 in
theorem xb69_27 : j_code jP 122 27 = some (.iload_n 1) := rfl
set_option maxRecDepth 100000 in
theorem xb69_28 : j_code jP 122 28 = some (.iconst (-1)) := rfl
set_option maxRecDepth 100000 in
theorem xb69_29 : j_code jP 122 29 = some (.if_icmp .ne 12) := rfl
set_option maxRecDepth 100000 in
theorem xb69_32 : j_code jP 122 32 = some (.aload_n 0) := rfl
set_option maxRecDepth 100000 in
theorem xb69_33 : j_code jP 122 33 = some (.aload_n 2) := rfl
set_option maxRecDepth 100000 in
theorem xb69_34 : j_code jP 122 34 = some (.getfield 239) := rfl
set_option maxRecDepth 100000 in
theorem xb69_37 : j_code jP 122 37 = some (.invokevirtual 104) := rfl
set_option maxRecDepth 100000 in
theorem xb69_40 : j_code jP 122 40 = some (.ireturn) := rfl
set_option maxRecDepth 100000 in
theorem xb69_41 : j_code jP 122 41 = some (.iload_n 1) := rfl
set_option maxRecDepth 100000 in
theorem xb69_42 : j_code jP 122 42 = some (.aload_n 2) := rfl
set_option maxRecDepth 100000 in
theorem xb69_43 : j_code jP 122 43 = some (.getfield 239) := rfl
set_option maxRecDepth 100000 in
theorem xb69_46 : j_code jP 122 46 = some (.if_icmp .lt 9) := rfl
set_option maxRecDepth 100000 in
theorem xb69_49 : j_code jP 122 49 = some (.aload_n 0) := rfl
set_option maxRecDepth 100000 in
theorem xb69_50 : j_code jP 122 50 = some (.iconst 5) := rfl
set_option maxRecDepth 100000 in
theorem xb69_51 : j_code jP 122 51 = some (.invokevirtual 84) := rfl
set_option maxRecDepth 100000 in
theorem xb69_54 : j_code jP 122 54 = some (.ireturn) := rfl
set_option maxRecDepth 100000 in
theorem xb69_55 : j_code jP 122 55 = some (.aload_n 0) := rfl
set_option maxRecDepth 100000 in
theorem xb69_56 : j_code jP 122 56 = some (.aload_n 2) := rfl
set_option maxRecDepth 100000 in
theorem xb69_57 : j_code jP 122 57 = some (.getfield 244) := rfl
set_option maxRecDepth 100000 in
theorem xb69_60 : j_code jP 122 60 = some (.iload_n 1) := rfl
set_option maxRecDepth 100000 in
theorem xb69_61 : j_code jP 122 61 = some (.iaload) := rfl
set_option maxRecDepth 100000 in
theorem xb69_62 : j_code jP 122 62 = some (.invokevirtual 104) := rfl
set_option maxRecDepth 100000 in
theorem xb69_65 : j_code jP 122 65 = some (.ireturn) := rfl
set_option maxRecDepth 1000000 in
theorem xb69_ok {mi : Int32} {shu : Int32} {bus : Int32} {lks : Int32} {ce : List Int32} {rl : Int32} {row : List Int32} {sea : List Int32} {ns : Int32} {nt : Int32} {cel : Int32} {fit : List Int32} {way : List Int32} {sst : Int32} {x1 : Int32} {d : Nat} {h h0 : J_H} (K : KN h [(0, .inl (9, [.ref 1, .ref 3, .ref 4, .ref 29, .ref 281, .ref 325, .ref 343, .ref 327, .int sst])), (4, .inl (7, [.ref 343, .int mi, .int shu, .int bus, .ref 5, .ref 6, .ref 7, .ref 8, .ref 9, .ref 10, .ref 11, .ref 12, .ref 13, .ref 14, .ref 15, .int lks, .ref 16, .ref 17, .ref 20])), (9, .inr (.inl (0, ce))), (17, .inl (5, [.ref 18, .int rl, .ref 19])), (18, .inr (.inl (0, row))), (19, .inr (.inl (0, sea))), (343, .inl (2, [.int ns, .ref 344, .ref 345, .ref 346, .ref 347, .int nt, .ref 348, .ref 349, .ref 350, .ref 351, .ref 352, .ref 353, .ref 354, .int cel, .ref 355, .ref 356, .ref 357, .ref 358])), (355, .inr (.inl (0, fit))), (356, .inr (.inl (0, way)))] h0) : j_V jP d 122 0 (lv_args 0 [.ref 0, .int x1]) [] h (fun rv h' => rv = some (.int (x_qthrough shu ce rl row sea nt fit way sst x1).1) ∧ KN h' [(0, .inl (9, [.ref 1, .ref 3, .ref 4, .ref 29, .ref 281, .ref 325, .ref 343, .ref 327, .int (x_qthrough shu ce rl row sea nt fit way sst x1).2.2.2.2])), (4, .inl (7, [.ref 343, .int mi, .int shu, .int bus, .ref 5, .ref 6, .ref 7, .ref 8, .ref 9, .ref 10, .ref 11, .ref 12, .ref 13, .ref 14, .ref 15, .int lks, .ref 16, .ref 17, .ref 20])), (9, .inr (.inl (0, ce))), (17, .inl (5, [.ref 18, .int (x_qthrough shu ce rl row sea nt fit way sst x1).2.2.2.1, .ref 19])), (18, .inr (.inl (0, (x_qthrough shu ce rl row sea nt fit way sst x1).2.2.1))), (19, .inr (.inl (0, (x_qthrough shu ce rl row sea nt fit way sst x1).2.1))), (343, .inl (2, [.int ns, .ref 344, .ref 345, .ref 346, .ref 347, .int nt, .ref 348, .ref 349, .ref 350, .ref 351, .ref 352, .ref 353, .ref 354, .int cel, .ref 355, .ref 356, .ref 357, .ref 358])), (355, .inr (.inl (0, fit))), (356, .inr (.inl (0, way)))] h0) := by
  show j_V jP d 122 0 [(0, .ref 0), (1, .int x1)] [] h _
  obtain ⟨lv, elv, L⟩ : ∃ lv, lv = [(0, .ref 0), (1, .int x1)] ∧ LK lv [(0, .ref 0), (1, .int x1)] := ⟨_, rfl, LK.rf⟩
  rw [← elv]
  clear elv
  refine j_V.ldL xb69_M xb69_0 rfl (i := 1) (kd := 0) (v := .int x1) (pcJ := 1) rfl L rfl rfl rfl ?_
  refine j_V.one xb69_M xb69_1 (by decide) (pcJ := 2) (stJ := [.int (-1), .int x1]) rfl ?_
  refine j_V.icmp xb69_M xb69_2 (t := 11) rfl (fun c2_0 => ?_) (fun c2_0 => ?_)
  · replace c2_0 : ¬ (x1 < (-1)) := jd_ge c2_0
    refine j_V.ldL xb69_M xb69_11 rfl (i := 0) (kd := 2) (v := .ref 0) (pcJ := 12) rfl L rfl rfl rfl ?_
    refine j_V.getK xb69_M xb69_12 (ci := 9) (j := 2) rfl K rfl rfl ?_
    refine j_V.cl xb69_M xb69_15 rfl (md := 3) (mj := 76) rfl (by decide) xb40_M (As := [.ref 4]) (rest := []) (jk_spl3 (K.at rfl) rfl rfl rfl (Nat.le_of_ble_eq_true rfl) (Nat.le_of_ble_eq_true rfl)) (fun d => xb40_ok (K.fi [4, 9, 17, 18, 19, 343, 355, 356] rfl rfl)) ?_
    rintro r h9 ⟨rfl, K9⟩
    generalize ez1 : (x_isSafe shu ce rl row sea nt fit way) = z1 at K9 ⊢
    have K : KN h9 [(0, .inl (9, [.ref 1, .ref 3, .ref 4, .ref 29, .ref 281, .ref 325, .ref 343, .ref 327, .int sst])), (4, .inl (7, [.ref 343, .int mi, .int shu, .int bus, .ref 5, .ref 6, .ref 7, .ref 8, .ref 9, .ref 10, .ref 11, .ref 12, .ref 13, .ref 14, .ref 15, .int lks, .ref 16, .ref 17, .ref 20])), (9, .inr (.inl (0, ce))), (17, .inl (5, [.ref 18, .int (z1.2.2.2), .ref 19])), (18, .inr (.inl (0, (z1.2.2.1)))), (19, .inr (.inl (0, (z1.2.1)))), (343, .inl (2, [.int ns, .ref 344, .ref 345, .ref 346, .ref 347, .int nt, .ref 348, .ref 349, .ref 350, .ref 351, .ref 352, .ref 353, .ref 354, .int cel, .ref 355, .ref 356, .ref 357, .ref 358])), (355, .inr (.inl (0, fit))), (356, .inr (.inl (0, way)))] h0 := K.mg K9 rfl rfl
    clear K9
    show j_V jP _ 122 18 lv [.int (z1.1)] h9 _
    refine j_V.one xb69_M xb69_18 (by decide) (pcJ := 19) (stJ := []) rfl ?_
    refine j_V.ldL xb69_M xb69_19 rfl (i := 0) (kd := 2) (v := .ref 0) (pcJ := 20) rfl L rfl rfl rfl ?_
    refine j_V.getK xb69_M xb69_20 (ci := 9) (j := 2) rfl K rfl rfl ?_
    refine j_V.getK xb69_M xb69_23 (ci := 7) (j := 17) rfl K rfl rfl ?_
    refine j_V.stL xb69_M xb69_26 rfl (i := 2) (kd := 2) (kl' := [(0, .ref 0), (1, .int x1), (2, .ref 17)]) (pcJ := 27) rfl L rfl (by decide) rfl rfl rfl (fun lv L => ?_)
    refine j_V.ldL xb69_M xb69_27 rfl (i := 1) (kd := 0) (v := .int x1) (pcJ := 28) rfl L rfl rfl rfl ?_
    refine j_V.one xb69_M xb69_28 (by decide) (pcJ := 29) (stJ := [.int (-1), .int x1]) rfl ?_
    refine j_V.icmp xb69_M xb69_29 (t := 41) rfl (fun c29_1 => ?_) (fun c29_1 => ?_)
    · replace c29_1 : ¬ (x1 = (-1)) := jd_ne c29_1
      refine j_V.ldL xb69_M xb69_41 rfl (i := 1) (kd := 0) (v := .int x1) (pcJ := 42) rfl L rfl rfl rfl ?_
      refine j_V.ldL xb69_M xb69_42 rfl (i := 2) (kd := 2) (v := .ref 17) (pcJ := 43) rfl L rfl rfl rfl ?_
      refine j_V.getK xb69_M xb69_43 (ci := 5) (j := 1) rfl K rfl rfl ?_
      refine j_V.icmp xb69_M xb69_46 (t := 55) rfl (fun c46_2 => ?_) (fun c46_2 => ?_)
      · replace c46_2 : x1 < (z1.2.2.2) := jd_lt c46_2
        refine j_V.ldL xb69_M xb69_55 rfl (i := 0) (kd := 2) (v := .ref 0) (pcJ := 56) rfl L rfl rfl rfl ?_
        refine j_V.ldL xb69_M xb69_56 rfl (i := 2) (kd := 2) (v := .ref 17) (pcJ := 57) rfl L rfl rfl rfl ?_
        refine j_V.getK xb69_M xb69_57 (ci := 5) (j := 0) rfl K rfl rfl ?_
        refine j_V.ldL xb69_M xb69_60 rfl (i := 1) (kd := 0) (v := .int x1) (pcJ := 61) rfl L rfl rfl rfl ?_
        refine j_V.iaA xb69_M xb69_61 K rfl ?_
        refine j_V.cl xb69_M xb69_62 rfl (md := 3) (mj := 159) rfl (by decide) xb49_M (As := [.ref 0, .int (gA (z1.2.2.1) x1)]) (rest := []) (jk_spl3 (K.at rfl) rfl rfl rfl (Nat.le_of_ble_eq_true rfl) (Nat.le_of_ble_eq_true rfl)) (fun d => xb49_ok (K.fi [0] rfl rfl)) ?_
        rintro r h9 ⟨rfl, K9⟩
        generalize ez2 : (x_qanswer sst (gA (z1.2.2.1) x1)) = z2 at K9 ⊢
        have K : KN h9 [(0, .inl (9, [.ref 1, .ref 3, .ref 4, .ref 29, .ref 281, .ref 325, .ref 343, .ref 327, .int (z2.2)])), (4, .inl (7, [.ref 343, .int mi, .int shu, .int bus, .ref 5, .ref 6, .ref 7, .ref 8, .ref 9, .ref 10, .ref 11, .ref 12, .ref 13, .ref 14, .ref 15, .int lks, .ref 16, .ref 17, .ref 20])), (9, .inr (.inl (0, ce))), (17, .inl (5, [.ref 18, .int (z1.2.2.2), .ref 19])), (18, .inr (.inl (0, (z1.2.2.1)))), (19, .inr (.inl (0, (z1.2.1)))), (343, .inl (2, [.int ns, .ref 344, .ref 345, .ref 346, .ref 347, .int nt, .ref 348, .ref 349, .ref 350, .ref 351, .ref 352, .ref 353, .ref 354, .int cel, .ref 355, .ref 356, .ref 357, .ref 358])), (355, .inr (.inl (0, fit))), (356, .inr (.inl (0, way)))] h0 := K.mg K9 rfl rfl
        clear K9
        show j_V jP _ 122 65 lv [.int (z2.1)] h9 _
        subst ez2
        subst ez1
        refine j_V.ri xb69_M xb69_65 ?_
        rw [show (x_qthrough shu ce rl row sea nt fit way sst x1) = _ from ((if_neg c2_0).trans ((if_neg c29_1).trans ((if_pos c46_2).trans (rfl))))]
        exact ⟨rfl, K⟩
      · replace c46_2 : ¬ (x1 < (z1.2.2.2)) := jd_ltn c46_2
        refine j_V.ldL xb69_M xb69_49 rfl (i := 0) (kd := 2) (v := .ref 0) (pcJ := 50) rfl L rfl rfl rfl ?_
        refine j_V.one xb69_M xb69_50 (by decide) (pcJ := 51) (stJ := [.int 5, .ref 0]) rfl ?_
        refine j_V.cl xb69_M xb69_51 rfl (md := 3) (mj := 161) rfl (by decide) xb50_M (As := [.ref 0, .int 5]) (rest := []) (jk_spl3 (K.at rfl) rfl rfl rfl (Nat.le_of_ble_eq_true rfl) (Nat.le_of_ble_eq_true rfl)) (fun d => xb50_ok (K.fi [0] rfl rfl)) ?_
        rintro r h9 ⟨rfl, K9⟩
        generalize ez3 : (x_qrefuse sst 5) = z3 at K9 ⊢
        have K : KN h9 [(0, .inl (9, [.ref 1, .ref 3, .ref 4, .ref 29, .ref 281, .ref 325, .ref 343, .ref 327, .int (z3.2)])), (4, .inl (7, [.ref 343, .int mi, .int shu, .int bus, .ref 5, .ref 6, .ref 7, .ref 8, .ref 9, .ref 10, .ref 11, .ref 12, .ref 13, .ref 14, .ref 15, .int lks, .ref 16, .ref 17, .ref 20])), (9, .inr (.inl (0, ce))), (17, .inl (5, [.ref 18, .int (z1.2.2.2), .ref 19])), (18, .inr (.inl (0, (z1.2.2.1)))), (19, .inr (.inl (0, (z1.2.1)))), (343, .inl (2, [.int ns, .ref 344, .ref 345, .ref 346, .ref 347, .int nt, .ref 348, .ref 349, .ref 350, .ref 351, .ref 352, .ref 353, .ref 354, .int cel, .ref 355, .ref 356, .ref 357, .ref 358])), (355, .inr (.inl (0, fit))), (356, .inr (.inl (0, way)))] h0 := K.mg K9 rfl rfl
        clear K9
        show j_V jP _ 122 54 lv [.int (z3.1)] h9 _
        subst ez3
        subst ez1
        refine j_V.ri xb69_M xb69_54 ?_
        rw [show (x_qthrough shu ce rl row sea nt fit way sst x1) = _ from ((if_neg c2_0).trans ((if_neg c29_1).trans ((if_neg c46_2).trans (rfl))))]
        exact ⟨rfl, K⟩
    · replace c29_1 : x1 = (-1) := jd_nen c29_1
      refine j_V.ldL xb69_M xb69_32 rfl (i := 0) (kd := 2) (v := .ref 0) (pcJ := 33) rfl L rfl rfl rfl ?_
      refine j_V.ldL xb69_M xb69_33 rfl (i := 2) (kd := 2) (v := .ref 17) (pcJ := 34) rfl L rfl rfl rfl ?_
      refine j_V.getK xb69_M xb69_34 (ci := 5) (j := 1) rfl K rfl rfl ?_
      refine j_V.cl xb69_M xb69_37 rfl (md := 3) (mj := 159) rfl (by decide) xb49_M (As := [.ref 0, .int (z1.2.2.2)]) (rest := []) (jk_spl3 (K.at rfl) rfl rfl rfl (Nat.le_of_ble_eq_true rfl) (Nat.le_of_ble_eq_true rfl)) (fun d => xb49_ok (K.fi [0] rfl rfl)) ?_
      rintro r h9 ⟨rfl, K9⟩
      generalize ez4 : (x_qanswer sst (z1.2.2.2)) = z4 at K9 ⊢
      have K : KN h9 [(0, .inl (9, [.ref 1, .ref 3, .ref 4, .ref 29, .ref 281, .ref 325, .ref 343, .ref 327, .int (z4.2)])), (4, .inl (7, [.ref 343, .int mi, .int shu, .int bus, .ref 5, .ref 6, .ref 7, .ref 8, .ref 9, .ref 10, .ref 11, .ref 12, .ref 13, .ref 14, .ref 15, .int lks, .ref 16, .ref 17, .ref 20])), (9, .inr (.inl (0, ce))), (17, .inl (5, [.ref 18, .int (z1.2.2.2), .ref 19])), (18, .inr (.inl (0, (z1.2.2.1)))), (19, .inr (.inl (0, (z1.2.1)))), (343, .inl (2, [.int ns, .ref 344, .ref 345, .ref 346, .ref 347, .int nt, .ref 348, .ref 349, .ref 350, .ref 351, .ref 352, .ref 353, .ref 354, .int cel, .ref 355, .ref 356, .ref 357, .ref 358])), (355, .inr (.inl (0, fit))), (356, .inr (.inl (0, way)))] h0 := K.mg K9 rfl rfl
      clear K9
      show j_V jP _ 122 40 lv [.int (z4.1)] h9 _
      subst ez4
      subst ez1
      refine j_V.ri xb69_M xb69_40 ?_
      rw [show (x_qthrough shu ce rl row sea nt fit way sst x1) = _ from ((if_neg c2_0).trans ((if_pos c29_1).trans (rfl)))]
      exact ⟨rfl, K⟩
  · replace c2_0 : x1 < (-1) := jd_gen c2_0
    refine j_V.ldL xb69_M xb69_5 rfl (i := 0) (kd := 2) (v := .ref 0) (pcJ := 6) rfl L rfl rfl rfl ?_
    refine j_V.one xb69_M xb69_6 (by decide) (pcJ := 7) (stJ := [.int 1, .ref 0]) rfl ?_
    refine j_V.cl xb69_M xb69_7 rfl (md := 3) (mj := 161) rfl (by decide) xb50_M (As := [.ref 0, .int 1]) (rest := []) (jk_spl3 (K.at rfl) rfl rfl rfl (Nat.le_of_ble_eq_true rfl) (Nat.le_of_ble_eq_true rfl)) (fun d => xb50_ok (K.fi [0] rfl rfl)) ?_
    rintro r h9 ⟨rfl, K9⟩
    generalize ez5 : (x_qrefuse sst 1) = z5 at K9 ⊢
    have K : KN h9 [(0, .inl (9, [.ref 1, .ref 3, .ref 4, .ref 29, .ref 281, .ref 325, .ref 343, .ref 327, .int (z5.2)])), (4, .inl (7, [.ref 343, .int mi, .int shu, .int bus, .ref 5, .ref 6, .ref 7, .ref 8, .ref 9, .ref 10, .ref 11, .ref 12, .ref 13, .ref 14, .ref 15, .int lks, .ref 16, .ref 17, .ref 20])), (9, .inr (.inl (0, ce))), (17, .inl (5, [.ref 18, .int rl, .ref 19])), (18, .inr (.inl (0, row))), (19, .inr (.inl (0, sea))), (343, .inl (2, [.int ns, .ref 344, .ref 345, .ref 346, .ref 347, .int nt, .ref 348, .ref 349, .ref 350, .ref 351, .ref 352, .ref 353, .ref 354, .int cel, .ref 355, .ref 356, .ref 357, .ref 358])), (355, .inr (.inl (0, fit))), (356, .inr (.inl (0, way)))] h0 := K.mg K9 rfl rfl
    clear K9
    show j_V jP _ 122 10 lv [.int (z5.1)] h9 _
    subst ez5
    refine j_V.ri xb69_M xb69_10 ?_
    rw [show (x_qthrough shu ce rl row sea nt fit way sst x1) = _ from ((if_pos c2_0).trans (rfl))]
    exact ⟨rfl, K⟩
set_option maxRecDepth 100000 in
theorem xb70_M : j_meth jP 123 = some (yX9_risks, cX9_risks, 3, (some .int), 0, false, 9) := rfl
set_option maxRecDepth 100000 in
theorem xb70_0 : j_code jP 123 0 = some (.iconst 0) := rfl
set_option maxRecDepth 100000 in
theorem xb70_1 : j_code jP 123 1 = some (.istore_n 1) := rfl
set_option maxRecDepth 100000 in
theorem xb70_2 : j_code jP 123 2 = some (.iconst 0) := rfl
set_option maxRecDepth 100000 in
theorem xb70_3 : j_code jP 123 3 = some (.istore_n 2) := rfl
set_option maxRecDepth 100000 in
theorem xb70_4 : j_code jP 123 4 = some (.iload_n 2) := rfl
set_option maxRecDepth 100000 in
theorem xb70_5 : j_code jP 123 5 = some (.aload_n 0) := rfl
set_option maxRecDepth 100000 in
theorem xb70_6 : j_code jP 123 6 = some (.getfield 58) := rfl
set_option maxRecDepth 100000 in
theorem xb70_9 : j_code jP 123 9 = some (.getfield 101) := rfl
set_option maxRecDepth 100000 in
theorem xb70_12 : j_code jP 123 12 = some (.if_icmp .ge 27) := rfl
set_option maxRecDepth 100000 in
theorem xb70_15 : j_code jP 123 15 = some (.aload_n 0) := rfl
set_option maxRecDepth 100000 in
theorem xb70_16 : j_code jP 123 16 = some (.getfield 30) := rfl
set_option maxRecDepth 100000 in
theorem xb70_19 : j_code jP 123 19 = some (.iload_n 2) := rfl
set_option maxRecDepth 100000 in
theorem xb70_20 : j_code jP 123 20 = some (.invokevirtual 232) := rfl
set_option maxRecDepth 100000 in
theorem xb70_23 : j_code jP 123 23 = some (.iconst 5) := rfl
set_option maxRecDepth 100000 in
theorem xb70_24 : j_code jP 123 24 = some (.if_icmp .ne 9) := rfl
set_option maxRecDepth 100000 in
theorem xb70_27 : j_code jP 123 27 = some (.iload_n 1) := rfl
set_option maxRecDepth 100000 in
theorem xb70_28 : j_code jP 123 28 = some (.iconst 1) := rfl
set_option maxRecDepth 100000 in
theorem xb70_29 : j_code jP 123 29 = some (.iload_n 2) := rfl
set_option maxRecDepth 100000 in
theorem xb70_30 : j_code jP 123 30 = some (.ishl) := rfl
set_option maxRecDepth 100000 in
theorem xb70_31 : j_code jP 123 31 = some (.ior) := rfl
set_option maxRecDepth 100000 in
theorem xb70_32 : j_code jP 123 32 = some (.istore_n 1) := rfl
set_option maxRecDepth 100000 in
theorem xb70_33 : j_code jP 123 33 = some (.iinc 2 1) := rfl
set_option maxRecDepth 100000 in
theorem xb70_36 : j_code jP 123 36 = some (.goto (-32)) := rfl
set_option maxRecDepth 100000 in
theorem xb70_39 : j_code jP 123 39 = some (.aload_n 0) := rfl
set_option maxRecDepth 100000 in
theorem xb70_40 : j_code jP 123 40 = some (.iload_n 1) := rfl
set_option maxRecDepth 100000 in
theorem xb70_41 : j_code jP 123 41 = some (.invokevirtual 104) := rfl
set_option maxRecDepth 100000 in
theorem xb70_44 : j_code jP 123 44 = some (.ireturn) := rfl
set_option maxRecDepth 1000000 in
theorem xb70_ok_l4 {mi : Int32} {shu : Int32} {bus : Int32} {lks : Int32} {ph : List Int32} {sp : List Int32} {ce : List Int32} {ri : List Int32} {ns : Int32} {nt : Int32} {cel : Int32} {len : List Int32} {frm : List Int32} {tto : List Int32} {fit : List Int32} {way : List Int32} {d : Nat} {h0 : J_H} : ∀ (f : Nat) (v2 v1 : Int32) (sea : List Int32) (row : List Int32) (rl : Int32) (sst : Int32) {lv : J_L} {h : J_H}, lpN nt v2 = f → LK lv [(0, .ref 0), (1, .int v1), (2, .int v2)] → KN h [(0, .inl (9, [.ref 1, .ref 3, .ref 4, .ref 29, .ref 281, .ref 325, .ref 343, .ref 327, .int sst])), (4, .inl (7, [.ref 343, .int mi, .int shu, .int bus, .ref 5, .ref 6, .ref 7, .ref 8, .ref 9, .ref 10, .ref 11, .ref 12, .ref 13, .ref 14, .ref 15, .int lks, .ref 16, .ref 17, .ref 20])), (7, .inr (.inl (0, ph))), (8, .inr (.inl (0, sp))), (9, .inr (.inl (0, ce))), (12, .inr (.inl (0, ri))), (17, .inl (5, [.ref 18, .int rl, .ref 19])), (18, .inr (.inl (0, row))), (19, .inr (.inl (0, sea))), (343, .inl (2, [.int ns, .ref 344, .ref 345, .ref 346, .ref 347, .int nt, .ref 348, .ref 349, .ref 350, .ref 351, .ref 352, .ref 353, .ref 354, .int cel, .ref 355, .ref 356, .ref 357, .ref 358])), (347, .inr (.inl (0, len))), (350, .inr (.inl (0, frm))), (351, .inr (.inl (0, tto))), (355, .inr (.inl (0, fit))), (356, .inr (.inl (0, way)))] h0 → j_V jP d 123 4 lv [] h (fun rv h' => rv = some (.int (x_qrisks_l4 shu bus ph sp ce ri nt len frm tto fit way f v2 v1 sea row rl sst).1) ∧ KN h' [(0, .inl (9, [.ref 1, .ref 3, .ref 4, .ref 29, .ref 281, .ref 325, .ref 343, .ref 327, .int (x_qrisks_l4 shu bus ph sp ce ri nt len frm tto fit way f v2 v1 sea row rl sst).2.2.2.2])), (4, .inl (7, [.ref 343, .int mi, .int shu, .int bus, .ref 5, .ref 6, .ref 7, .ref 8, .ref 9, .ref 10, .ref 11, .ref 12, .ref 13, .ref 14, .ref 15, .int lks, .ref 16, .ref 17, .ref 20])), (7, .inr (.inl (0, ph))), (8, .inr (.inl (0, sp))), (9, .inr (.inl (0, ce))), (12, .inr (.inl (0, ri))), (17, .inl (5, [.ref 18, .int (x_qrisks_l4 shu bus ph sp ce ri nt len frm tto fit way f v2 v1 sea row rl sst).2.2.2.1, .ref 19])), (18, .inr (.inl (0, (x_qrisks_l4 shu bus ph sp ce ri nt len frm tto fit way f v2 v1 sea row rl sst).2.2.1))), (19, .inr (.inl (0, (x_qrisks_l4 shu bus ph sp ce ri nt len frm tto fit way f v2 v1 sea row rl sst).2.1))), (343, .inl (2, [.int ns, .ref 344, .ref 345, .ref 346, .ref 347, .int nt, .ref 348, .ref 349, .ref 350, .ref 351, .ref 352, .ref 353, .ref 354, .int cel, .ref 355, .ref 356, .ref 357, .ref 358])), (347, .inr (.inl (0, len))), (350, .inr (.inl (0, frm))), (351, .inr (.inl (0, tto))), (355, .inr (.inl (0, fit))), (356, .inr (.inl (0, way)))] h0) := by
  intro f
  induction f with
  | zero =>
    intro v2 v1 sea row rl sst lv h e L K
    refine j_V.ldL xb70_M xb70_4 rfl (i := 2) (kd := 0) (v := .int v2) (pcJ := 5) rfl L rfl rfl rfl ?_
    refine j_V.ldL xb70_M xb70_5 rfl (i := 0) (kd := 2) (v := .ref 0) (pcJ := 6) rfl L rfl rfl rfl ?_
    refine j_V.getK xb70_M xb70_6 (ci := 9) (j := 6) rfl K rfl rfl ?_
    refine j_V.getK xb70_M xb70_9 (ci := 2) (j := 5) rfl K rfl rfl ?_
    refine j_V.icmp xb70_M xb70_12 (t := 39) rfl (fun c12_0 => ?_) (fun c12_0 => ?_)
    · replace c12_0 : ¬ (v2 < nt) := jd_ge c12_0
      refine j_V.ldL xb70_M xb70_39 rfl (i := 0) (kd := 2) (v := .ref 0) (pcJ := 40) rfl L rfl rfl rfl ?_
      refine j_V.ldL xb70_M xb70_40 rfl (i := 1) (kd := 0) (v := .int v1) (pcJ := 41) rfl L rfl rfl rfl ?_
      refine j_V.cl xb70_M xb70_41 rfl (md := 3) (mj := 159) rfl (by decide) xb49_M (As := [.ref 0, .int v1]) (rest := []) (jk_spl3 (K.at rfl) rfl rfl rfl (Nat.le_of_ble_eq_true rfl) (Nat.le_of_ble_eq_true rfl)) (fun d => xb49_ok (K.fi [0] rfl rfl)) ?_
      rintro r h9 ⟨rfl, K9⟩
      generalize ez1 : (x_qanswer sst v1) = z1 at K9 ⊢
      have K : KN h9 [(0, .inl (9, [.ref 1, .ref 3, .ref 4, .ref 29, .ref 281, .ref 325, .ref 343, .ref 327, .int (z1.2)])), (4, .inl (7, [.ref 343, .int mi, .int shu, .int bus, .ref 5, .ref 6, .ref 7, .ref 8, .ref 9, .ref 10, .ref 11, .ref 12, .ref 13, .ref 14, .ref 15, .int lks, .ref 16, .ref 17, .ref 20])), (7, .inr (.inl (0, ph))), (8, .inr (.inl (0, sp))), (9, .inr (.inl (0, ce))), (12, .inr (.inl (0, ri))), (17, .inl (5, [.ref 18, .int rl, .ref 19])), (18, .inr (.inl (0, row))), (19, .inr (.inl (0, sea))), (343, .inl (2, [.int ns, .ref 344, .ref 345, .ref 346, .ref 347, .int nt, .ref 348, .ref 349, .ref 350, .ref 351, .ref 352, .ref 353, .ref 354, .int cel, .ref 355, .ref 356, .ref 357, .ref 358])), (347, .inr (.inl (0, len))), (350, .inr (.inl (0, frm))), (351, .inr (.inl (0, tto))), (355, .inr (.inl (0, fit))), (356, .inr (.inl (0, way)))] h0 := K.mg K9 rfl rfl
      clear K9
      show j_V jP _ 123 44 lv [.int (z1.1)] h9 _
      subst ez1
      refine j_V.ri xb70_M xb70_44 ?_
      rw [show (x_qrisks_l4 shu bus ph sp ce ri nt len frm tto fit way 0 v2 v1 sea row rl sst) = _ from (rfl)]
      exact ⟨rfl, K⟩
    · replace c12_0 : v2 < nt := jd_gen c12_0
      exact absurd c12_0 (lpN_z e)
  | succ f ih =>
    intro v2 v1 sea row rl sst lv h e L K
    refine j_V.ldL xb70_M xb70_4 rfl (i := 2) (kd := 0) (v := .int v2) (pcJ := 5) rfl L rfl rfl rfl ?_
    refine j_V.ldL xb70_M xb70_5 rfl (i := 0) (kd := 2) (v := .ref 0) (pcJ := 6) rfl L rfl rfl rfl ?_
    refine j_V.getK xb70_M xb70_6 (ci := 9) (j := 6) rfl K rfl rfl ?_
    refine j_V.getK xb70_M xb70_9 (ci := 2) (j := 5) rfl K rfl rfl ?_
    refine j_V.icmp xb70_M xb70_12 (t := 39) rfl (fun c12_0 => ?_) (fun c12_0 => ?_)
    · replace c12_0 : ¬ (v2 < nt) := jd_ge c12_0
      exact absurd (lpN_s e) c12_0
    · replace c12_0 : v2 < nt := jd_gen c12_0
      refine j_V.ldL xb70_M xb70_15 rfl (i := 0) (kd := 2) (v := .ref 0) (pcJ := 16) rfl L rfl rfl rfl ?_
      refine j_V.getK xb70_M xb70_16 (ci := 9) (j := 2) rfl K rfl rfl ?_
      refine j_V.ldL xb70_M xb70_19 rfl (i := 2) (kd := 0) (v := .int v2) (pcJ := 20) rfl L rfl rfl rfl ?_
      refine j_V.cl xb70_M xb70_20 rfl (md := 3) (mj := 80) rfl (by decide) xb41_M (As := [.ref 4, .int v2]) (rest := []) (jk_spl3 (K.at rfl) rfl rfl rfl (Nat.le_of_ble_eq_true rfl) (Nat.le_of_ble_eq_true rfl)) (fun d => xb41_ok (K.fi [4, 7, 8, 9, 12, 17, 18, 19, 343, 347, 350, 351, 355, 356] rfl rfl)) ?_
      rintro r h9 ⟨rfl, K9⟩
      generalize ez2 : (x_reason shu bus ph sp ce ri rl row sea nt len frm tto fit way v2) = z2 at K9 ⊢
      have K : KN h9 [(0, .inl (9, [.ref 1, .ref 3, .ref 4, .ref 29, .ref 281, .ref 325, .ref 343, .ref 327, .int sst])), (4, .inl (7, [.ref 343, .int mi, .int shu, .int bus, .ref 5, .ref 6, .ref 7, .ref 8, .ref 9, .ref 10, .ref 11, .ref 12, .ref 13, .ref 14, .ref 15, .int lks, .ref 16, .ref 17, .ref 20])), (7, .inr (.inl (0, ph))), (8, .inr (.inl (0, sp))), (9, .inr (.inl (0, ce))), (12, .inr (.inl (0, ri))), (17, .inl (5, [.ref 18, .int (z2.2.2.2), .ref 19])), (18, .inr (.inl (0, (z2.2.2.1)))), (19, .inr (.inl (0, (z2.2.1)))), (343, .inl (2, [.int ns, .ref 344, .ref 345, .ref 346, .ref 347, .int nt, .ref 348, .ref 349, .ref 350, .ref 351, .ref 352, .ref 353, .ref 354, .int cel, .ref 355, .ref 356, .ref 357, .ref 358])), (347, .inr (.inl (0, len))), (350, .inr (.inl (0, frm))), (351, .inr (.inl (0, tto))), (355, .inr (.inl (0, fit))), (356, .inr (.inl (0, way)))] h0 := K.mg K9 rfl rfl
      clear K9
      show j_V jP _ 123 23 lv [.int (z2.1)] h9 _
      refine j_V.one xb70_M xb70_23 (by decide) (pcJ := 24) (stJ := [.int 5, .int (z2.1)]) rfl ?_
      refine j_V.cut (b := 33) (stJ := []) (fun v => [(0, .ref 0), (1, .int v), (2, .int v2)]) ((if (z2.1) = 5 then (v1 ||| (1 <<< (v2 &&& 31))) else v1) : Int32) (fun Q kk => ?_) (fun lv L => ?_)
      · refine j_V.icmp xb70_M xb70_24 (t := 33) rfl (fun c24_0 => ?_) (fun c24_0 => ?_)
        · replace c24_0 : ¬ ((z2.1) = 5) := jd_ne c24_0
          exact kk _ (Eq.subst (motive := fun z => LK _ ((fun v => [(0, .ref 0), (1, .int v), (2, .int v2)]) z)) (show v1 = ((if (z2.1) = 5 then (v1 ||| (1 <<< (v2 &&& 31))) else v1) : Int32) from Eq.symm ((if_neg c24_0).trans (rfl))) L)
        · replace c24_0 : (z2.1) = 5 := jd_nen c24_0
          refine j_V.ldL xb70_M xb70_27 rfl (i := 1) (kd := 0) (v := .int v1) (pcJ := 28) rfl L rfl rfl rfl ?_
          refine j_V.one xb70_M xb70_28 (by decide) (pcJ := 29) (stJ := [.int 1, .int v1]) rfl ?_
          refine j_V.ldL xb70_M xb70_29 rfl (i := 2) (kd := 0) (v := .int v2) (pcJ := 30) rfl L rfl rfl rfl ?_
          refine j_V.one xb70_M xb70_30 (by decide) (pcJ := 31) (stJ := [.int (1 <<< (v2 &&& 31)), .int v1]) rfl ?_
          refine j_V.one xb70_M xb70_31 (by decide) (pcJ := 32) (stJ := [.int (v1 ||| (1 <<< (v2 &&& 31)))]) rfl ?_
          refine j_V.stL xb70_M xb70_32 rfl (i := 1) (kd := 0) (kl' := [(0, .ref 0), (1, .int (v1 ||| (1 <<< (v2 &&& 31)))), (2, .int v2)]) (pcJ := 33) rfl L rfl (by decide) rfl rfl rfl (fun lv L => ?_)
          exact kk _ (Eq.subst (motive := fun z => LK _ ((fun v => [(0, .ref 0), (1, .int v), (2, .int v2)]) z)) (show (v1 ||| (1 <<< (v2 &&& 31))) = ((if (z2.1) = 5 then (v1 ||| (1 <<< (v2 &&& 31))) else v1) : Int32) from Eq.symm ((if_pos c24_0).trans (rfl))) L)
      refine j_V.inL xb70_M xb70_33 (i := 2) (kl' := [(0, .ref 0), (1, .int ((if (z2.1) = 5 then (v1 ||| (1 <<< (v2 &&& 31))) else v1) : Int32)), (2, .int (v2 + 1))]) (pcJ := 36) L rfl rfl rfl rfl (fun lv L => ?_)
      refine j_V.gto xb70_M xb70_36 (t := 4) rfl ?_
      subst ez2
      rw [show (x_qrisks_l4 shu bus ph sp ce ri nt len frm tto fit way (f + 1) v2 v1 sea row rl sst) = _ from (rfl)]
      exact ih _ _ _ _ _ _ (lpN_n e) L K
set_option maxRecDepth 1000000 in
theorem xb70_ok {mi : Int32} {shu : Int32} {bus : Int32} {lks : Int32} {ph : List Int32} {sp : List Int32} {ce : List Int32} {ri : List Int32} {rl : Int32} {row : List Int32} {sea : List Int32} {ns : Int32} {nt : Int32} {cel : Int32} {len : List Int32} {frm : List Int32} {tto : List Int32} {fit : List Int32} {way : List Int32} {sst : Int32} {d : Nat} {h h0 : J_H} (K : KN h [(0, .inl (9, [.ref 1, .ref 3, .ref 4, .ref 29, .ref 281, .ref 325, .ref 343, .ref 327, .int sst])), (4, .inl (7, [.ref 343, .int mi, .int shu, .int bus, .ref 5, .ref 6, .ref 7, .ref 8, .ref 9, .ref 10, .ref 11, .ref 12, .ref 13, .ref 14, .ref 15, .int lks, .ref 16, .ref 17, .ref 20])), (7, .inr (.inl (0, ph))), (8, .inr (.inl (0, sp))), (9, .inr (.inl (0, ce))), (12, .inr (.inl (0, ri))), (17, .inl (5, [.ref 18, .int rl, .ref 19])), (18, .inr (.inl (0, row))), (19, .inr (.inl (0, sea))), (343, .inl (2, [.int ns, .ref 344, .ref 345, .ref 346, .ref 347, .int nt, .ref 348, .ref 349, .ref 350, .ref 351, .ref 352, .ref 353, .ref 354, .int cel, .ref 355, .ref 356, .ref 357, .ref 358])), (347, .inr (.inl (0, len))), (350, .inr (.inl (0, frm))), (351, .inr (.inl (0, tto))), (355, .inr (.inl (0, fit))), (356, .inr (.inl (0, way)))] h0) : j_V jP d 123 0 (lv_args 0 [.ref 0]) [] h (fun rv h' => rv = some (.int (x_qrisks shu bus ph sp ce ri rl row sea nt len frm tto fit way sst).1) ∧ KN h' [(0, .inl (9, [.ref 1, .ref 3, .ref 4, .ref 29, .ref 281, .ref 325, .ref 343, .ref 327, .int (x_qrisks shu bus ph sp ce ri rl row sea nt len frm tto fit way sst).2.2.2.2])), (4, .inl (7, [.ref 343, .int mi, .int shu, .int bus, .ref 5, .ref 6, .ref 7, .ref 8, .ref 9, .ref 10, .ref 11, .ref 12, .ref 13, .ref 14, .ref 15, .int lks, .ref 16, .ref 17, .ref 20])), (7, .inr (.inl (0, ph))), (8, .inr (.inl (0, sp))), (9, .inr (.inl (0, ce))), (12, .inr (.inl (0, ri))), (17, .inl (5, [.ref 18, .int (x_qrisks shu bus ph sp ce ri rl row sea nt len frm tto fit way sst).2.2.2.1, .ref 19])), (18, .inr (.inl (0, (x_qrisks shu bus ph sp ce ri rl row sea nt len frm tto fit way sst).2.2.1))), (19, .inr (.inl (0, (x_qrisks shu bus ph sp ce ri rl row sea nt len frm tto fit way sst).2.1))), (343, .inl (2, [.int ns, .ref 344, .ref 345, .ref 346, .ref 347, .int nt, .ref 348, .ref 349, .ref 350, .ref 351, .ref 352, .ref 353, .ref 354, .int cel, .ref 355, .ref 356, .ref 357, .ref 358])), (347, .inr (.inl (0, len))), (350, .inr (.inl (0, frm))), (351, .inr (.inl (0, tto))), (355, .inr (.inl (0, fit))), (356, .inr (.inl (0, way)))] h0) := by
  show j_V jP d 123 0 [(0, .ref 0)] [] h _
  obtain ⟨lv, elv, L⟩ : ∃ lv, lv = [(0, .ref 0)] ∧ LK lv [(0, .ref 0)] := ⟨_, rfl, LK.rf⟩
  rw [← elv]
  clear elv
  refine j_V.one xb70_M xb70_0 (by decide) (pcJ := 1) (stJ := [.int 0]) rfl ?_
  refine j_V.stL xb70_M xb70_1 rfl (i := 1) (kd := 0) (kl' := [(0, .ref 0), (1, .int 0)]) (pcJ := 2) rfl L rfl (by decide) rfl rfl rfl (fun lv L => ?_)
  refine j_V.one xb70_M xb70_2 (by decide) (pcJ := 3) (stJ := [.int 0]) rfl ?_
  refine j_V.stL xb70_M xb70_3 rfl (i := 2) (kd := 0) (kl' := [(0, .ref 0), (1, .int 0), (2, .int 0)]) (pcJ := 4) rfl L rfl (by decide) rfl rfl rfl (fun lv L => ?_)
  rw [show (x_qrisks shu bus ph sp ce ri rl row sea nt len frm tto fit way sst) = _ from (rfl)]
  exact xb70_ok_l4 _ _ _ _ _ _ _ rfl L K
set_option maxRecDepth 100000 in
theorem xb71_M : j_meth jP 124 = some (yX9_weak, cX9_weak, 4, (some .int), 1, false, 9) := rfl
set_option maxRecDepth 100000 in
theorem xb71_0 : j_code jP 124 0 = some (.aload_n 0) := rfl
set_option maxRecDepth 100000 in
theorem xb71_1 : j_code jP 124 1 = some (.iload_n 1) := rfl
set_option maxRecDepth 100000 in
theorem xb71_2 : j_code jP 124 2 = some (.invokevirtual 142) := rfl
set_option maxRecDepth 100000 in
theorem xb71_5 : j_code jP 124 5 = some (.ifCond .ne 9) := rfl
set_option maxRecDepth 100000 in
theorem xb71_8 : j_code jP 124 8 = some (.aload_n 0) := rfl
set_option maxRecDepth 100000 in
theorem xb71_9 : j_code jP 124 9 = some (.iconst 2) := rfl
set_option maxRecDepth 100000 in
theorem xb71_10 : j_code jP 124 10 = some (.invokevirtual 84) := rfl
set_option maxRecDepth 100000 in
theorem xb71_13 : j_code jP 124 13 = some (.ireturn) := rfl
set_option maxRecDepth 100000 in
theorem xb71_14 : j_code jP 124 14 = some (.aload_n 0) := rfl
set_option maxRecDepth 100000 in
theorem xb71_15 : j_code jP 124 15 = some (.getfield 30) := rfl
set_option maxRecDepth 100000 in
theorem xb71_18 : j_code jP 124 18 = some (.invokevirtual 127) := rfl
set_option maxRecDepth 100000 in
theorem xb71_21 : j_code jP 124 21 = some (.ifCond .ne 9) := rfl
set_option maxRecDepth 100000 in
theorem xb71_24 : j_code jP 124 24 = some (.aload_n 0) := rfl
set_option maxRecDepth 100000 in
theorem xb71_25 : j_code jP 124 25 = some (.iconst 5) := rfl
set_option maxRecDepth 100000 in
theorem xb71_26 : j_code jP 124 26 = some (.invokevirtual 84) := rfl
set_option maxRecDepth 100000 in
theorem xb71_29 : j_code jP 124 29 = some (.ireturn) := rfl
set_option maxRecDepth 100000 in
theorem xb71_30 : j_code jP 124 30 = some (.iconst 0) := rfl
set_option maxRecDepth 100000 in
theorem xb71_31 : j_code jP 124 31 = some (.istore_n 2) := rfl
set_option maxRecDepth 100000 in
theorem xb71_32 : j_code jP 124 32 = some (.iconst 0) := rfl
set_option maxRecDepth 100000 in
theorem xb71_33 : j_code jP 124 33 = some (.istore_n 3) := rfl
set_option maxRecDepth 100000 in
theorem xb71_34 : j_code jP 124 34 = some (.iload_n 3) := rfl
set_option maxRecDepth 100000 in
theorem xb71_35 : j_code jP 124 35 = some (.aload_n 0) := rfl
set_option maxRecDepth 100000 in
theorem xb71_36 : j_code jP 124 36 = some (.getfield 58) := rfl
set_option maxRecDepth 100000 in
theorem xb71_39 : j_code jP 124 39 = some (.getfield 149) := rfl
set_option maxRecDepth 100000 in
theorem xb71_42 : j_code jP 124 42 = some (.iload_n 1) := rfl
set_option maxRecDepth 100000 in
theorem xb71_43 : j_code jP 124 43 = some (.iaload) := rfl
set_option maxRecDepth 100000 in
theorem xb71_44 : j_code jP 124 44 = some (.if_icmp .ge 30) := rfl
set_option maxRecDepth 100000 in
theorem xb71_47 : j_code jP 124 47 = some (.aload_n 0) := rfl
set_option maxRecDepth 100000 in
theorem xb71_48 : j_code jP 124 48 = some (.getfield 30) := rfl
set_option maxRecDepth 100000 in
theorem xb71_51 : j_code jP 124 51 = some (.iload_n 1) := rfl
set_option maxRecDepth 100000 in
theorem xb71_52 : j_code jP 124 52 = some (.iconst 3) := rfl
set_option maxRecDepth 100000 in
theorem xb71_53 : j_code jP 124 53 = some (.imul) := rfl
set_option maxRecDepth 100000 in
theorem xb71_54 : j_code jP 124 54 = some (.iload_n 3) := rfl
set_option maxRecDepth 100000 in
theorem xb71_55 : j_code jP 124 55 = some (.iadd) := rfl
set_option maxRecDepth 100000 in
theorem xb71_56 : j_code jP 124 56 = some (.invokevirtual 247) := rfl
set_option maxRecDepth 100000 in
theorem xb71_59 : j_code jP 124 59 = some (.ifCond .eq 9) := rfl
set_option maxRecDepth 100000 in
theorem xb71_62 : j_code jP 124 62 = some (.iload_n 2) := rfl
set_option maxRecDepth 100000 in
theorem xb71_63 : j_code jP 124 63 = some (.iconst 1) := rfl
set_option maxRecDepth 100000 in
theorem xb71_64 : j_code jP 124 64 = some (.iload_n 3) := rfl
set_option maxRecDepth 100000 in
theorem xb71_65 : j_code jP 124 65 = some (.ishl) := rfl
set_option maxRecDepth 100000 in
theorem xb71_66 : j_code jP 124 66 = some (.ior) := rfl
set_option maxRecDepth 100000 in
theorem xb71_67 : j_code jP 124 67 = some (.istore_n 2) := rfl
set_option maxRecDepth 100000 in
theorem xb71_68 : j_code jP 124 68 = some (.iinc 3 1) := rfl
set_option maxRecDepth 100000 in
theorem xb71_71 : j_code jP 124 71 = some (.goto (-37)) := rfl
set_option maxRecDepth 100000 in
theorem xb71_74 : j_code jP 124 74 = some (.aload_n 0) := rfl
set_option maxRecDepth 100000 in
theorem xb71_75 : j_code jP 124 75 = some (.iload_n 2) := rfl
set_option maxRecDepth 100000 in
theorem xb71_76 : j_code jP 124 76 = some (.invokevirtual 104) := rfl
set_option maxRecDepth 100000 in
theorem xb71_79 : j_code jP 124 79 = some (.ireturn) := rfl
set_option maxRecDepth 1000000 in
theorem xb71_ok_l34 {mi : Int32} {shu : Int32} {bus : Int32} {lks : Int32} {ce : List Int32} {ns : Int32} {nt : Int32} {cel : Int32} {tra : List Int32} {fit : List Int32} {way : List Int32} {v1 : Int32} {d : Nat} {h0 : J_H} : ∀ (f : Nat) (v3 v2 : Int32) (sea : List Int32) (row : List Int32) (rl : Int32) (sst : Int32) {lv : J_L} {h : J_H}, lpN (gA tra v1) v3 = f → LK lv [(0, .ref 0), (1, .int v1), (2, .int v2), (3, .int v3)] → KN h [(0, .inl (9, [.ref 1, .ref 3, .ref 4, .ref 29, .ref 281, .ref 325, .ref 343, .ref 327, .int sst])), (4, .inl (7, [.ref 343, .int mi, .int shu, .int bus, .ref 5, .ref 6, .ref 7, .ref 8, .ref 9, .ref 10, .ref 11, .ref 12, .ref 13, .ref 14, .ref 15, .int lks, .ref 16, .ref 17, .ref 20])), (9, .inr (.inl (0, ce))), (17, .inl (5, [.ref 18, .int rl, .ref 19])), (18, .inr (.inl (0, row))), (19, .inr (.inl (0, sea))), (343, .inl (2, [.int ns, .ref 344, .ref 345, .ref 346, .ref 347, .int nt, .ref 348, .ref 349, .ref 350, .ref 351, .ref 352, .ref 353, .ref 354, .int cel, .ref 355, .ref 356, .ref 357, .ref 358])), (346, .inr (.inl (0, tra))), (355, .inr (.inl (0, fit))), (356, .inr (.inl (0, way)))] h0 → j_V jP d 124 34 lv [] h (fun rv h' => rv = some (.int (x_qweak_l34 shu ce nt fit way v1 f v3 v2 sea row rl sst).1) ∧ KN h' [(0, .inl (9, [.ref 1, .ref 3, .ref 4, .ref 29, .ref 281, .ref 325, .ref 343, .ref 327, .int (x_qweak_l34 shu ce nt fit way v1 f v3 v2 sea row rl sst).2.2.2.2])), (4, .inl (7, [.ref 343, .int mi, .int shu, .int bus, .ref 5, .ref 6, .ref 7, .ref 8, .ref 9, .ref 10, .ref 11, .ref 12, .ref 13, .ref 14, .ref 15, .int lks, .ref 16, .ref 17, .ref 20])), (9, .inr (.inl (0, ce))), (17, .inl (5, [.ref 18, .int (x_qweak_l34 shu ce nt fit way v1 f v3 v2 sea row rl sst).2.2.2.1, .ref 19])), (18, .inr (.inl (0, (x_qweak_l34 shu ce nt fit way v1 f v3 v2 sea row rl sst).2.2.1))), (19, .inr (.inl (0, (x_qweak_l34 shu ce nt fit way v1 f v3 v2 sea row rl sst).2.1))), (343, .inl (2, [.int ns, .ref 344, .ref 345, .ref 346, .ref 347, .int nt, .ref 348, .ref 349, .ref 350, .ref 351, .ref 352, .ref 353, .ref 354, .int cel, .ref 355, .ref 356, .ref 357, .ref 358])), (346, .inr (.inl (0, tra))), (355, .inr (.inl (0, fit))), (356, .inr (.inl (0, way)))] h0) := by
  intro f
  induction f with
  | zero =>
    intro v3 v2 sea row rl sst lv h e L K
    refine j_V.ldL xb71_M xb71_34 rfl (i := 3) (kd := 0) (v := .int v3) (pcJ := 35) rfl L rfl rfl rfl ?_
    refine j_V.ldL xb71_M xb71_35 rfl (i := 0) (kd := 2) (v := .ref 0) (pcJ := 36) rfl L rfl rfl rfl ?_
    refine j_V.getK xb71_M xb71_36 (ci := 9) (j := 6) rfl K rfl rfl ?_
    refine j_V.getK xb71_M xb71_39 (ci := 2) (j := 3) rfl K rfl rfl ?_
    refine j_V.ldL xb71_M xb71_42 rfl (i := 1) (kd := 0) (v := .int v1) (pcJ := 43) rfl L rfl rfl rfl ?_
    refine j_V.iaA xb71_M xb71_43 K rfl ?_
    refine j_V.icmp xb71_M xb71_44 (t := 74) rfl (fun c44_0 => ?_) (fun c44_0 => ?_)
    · replace c44_0 : ¬ (v3 < (gA tra v1)) := jd_ge c44_0
      refine j_V.ldL xb71_M xb71_74 rfl (i := 0) (kd := 2) (v := .ref 0) (pcJ := 75) rfl L rfl rfl rfl ?_
      refine j_V.ldL xb71_M xb71_75 rfl (i := 2) (kd := 0) (v := .int v2) (pcJ := 76) rfl L rfl rfl rfl ?_
      refine j_V.cl xb71_M xb71_76 rfl (md := 3) (mj := 159) rfl (by decide) xb49_M (As := [.ref 0, .int v2]) (rest := []) (jk_spl3 (K.at rfl) rfl rfl rfl (Nat.le_of_ble_eq_true rfl) (Nat.le_of_ble_eq_true rfl)) (fun d => xb49_ok (K.fi [0] rfl rfl)) ?_
      rintro r h9 ⟨rfl, K9⟩
      generalize ez1 : (x_qanswer sst v2) = z1 at K9 ⊢
      have K : KN h9 [(0, .inl (9, [.ref 1, .ref 3, .ref 4, .ref 29, .ref 281, .ref 325, .ref 343, .ref 327, .int (z1.2)])), (4, .inl (7, [.ref 343, .int mi, .int shu, .int bus, .ref 5, .ref 6, .ref 7, .ref 8, .ref 9, .ref 10, .ref 11, .ref 12, .ref 13, .ref 14, .ref 15, .int lks, .ref 16, .ref 17, .ref 20])), (9, .inr (.inl (0, ce))), (17, .inl (5, [.ref 18, .int rl, .ref 19])), (18, .inr (.inl (0, row))), (19, .inr (.inl (0, sea))), (343, .inl (2, [.int ns, .ref 344, .ref 345, .ref 346, .ref 347, .int nt, .ref 348, .ref 349, .ref 350, .ref 351, .ref 352, .ref 353, .ref 354, .int cel, .ref 355, .ref 356, .ref 357, .ref 358])), (346, .inr (.inl (0, tra))), (355, .inr (.inl (0, fit))), (356, .inr (.inl (0, way)))] h0 := K.mg K9 rfl rfl
      clear K9
      show j_V jP _ 124 79 lv [.int (z1.1)] h9 _
      subst ez1
      refine j_V.ri xb71_M xb71_79 ?_
      rw [show (x_qweak_l34 shu ce nt fit way v1 0 v3 v2 sea row rl sst) = _ from (rfl)]
      exact ⟨rfl, K⟩
    · replace c44_0 : v3 < (gA tra v1) := jd_gen c44_0
      exact absurd c44_0 (lpN_z e)
  | succ f ih =>
    intro v3 v2 sea row rl sst lv h e L K
    refine j_V.ldL xb71_M xb71_34 rfl (i := 3) (kd := 0) (v := .int v3) (pcJ := 35) rfl L rfl rfl rfl ?_
    refine j_V.ldL xb71_M xb71_35 rfl (i := 0) (kd := 2) (v := .ref 0) (pcJ := 36) rfl L rfl rfl rfl ?_
    refine j_V.getK xb71_M xb71_36 (ci := 9) (j := 6) rfl K rfl rfl ?_
    refine j_V.getK xb71_M xb71_39 (ci := 2) (j := 3) rfl K rfl rfl ?_
    refine j_V.ldL xb71_M xb71_42 rfl (i := 1) (kd := 0) (v := .int v1) (pcJ := 43) rfl L rfl rfl rfl ?_
    refine j_V.iaA xb71_M xb71_43 K rfl ?_
    refine j_V.icmp xb71_M xb71_44 (t := 74) rfl (fun c44_0 => ?_) (fun c44_0 => ?_)
    · replace c44_0 : ¬ (v3 < (gA tra v1)) := jd_ge c44_0
      exact absurd (lpN_s e) c44_0
    · replace c44_0 : v3 < (gA tra v1) := jd_gen c44_0
      refine j_V.ldL xb71_M xb71_47 rfl (i := 0) (kd := 2) (v := .ref 0) (pcJ := 48) rfl L rfl rfl rfl ?_
      refine j_V.getK xb71_M xb71_48 (ci := 9) (j := 2) rfl K rfl rfl ?_
      refine j_V.ldL xb71_M xb71_51 rfl (i := 1) (kd := 0) (v := .int v1) (pcJ := 52) rfl L rfl rfl rfl ?_
      refine j_V.one xb71_M xb71_52 (by decide) (pcJ := 53) (stJ := [.int 3, .int v1, .ref 4]) rfl ?_
      refine j_V.one xb71_M xb71_53 (by decide) (pcJ := 54) (stJ := [.int (v1 * 3), .ref 4]) rfl ?_
      refine j_V.ldL xb71_M xb71_54 rfl (i := 3) (kd := 0) (v := .int v3) (pcJ := 55) rfl L rfl rfl rfl ?_
      refine j_V.one xb71_M xb71_55 (by decide) (pcJ := 56) (stJ := [.int ((v1 * 3) + v3), .ref 4]) rfl ?_
      refine j_V.cl xb71_M xb71_56 rfl (md := 3) (mj := 77) rfl (by decide) xb42_M (As := [.ref 4, .int ((v1 * 3) + v3)]) (rest := []) (jk_spl3 (K.at rfl) rfl rfl rfl (Nat.le_of_ble_eq_true rfl) (Nat.le_of_ble_eq_true rfl)) (fun d => xb42_ok (K.fi [4, 9, 17, 18, 19, 343, 355, 356] rfl rfl)) ?_
      rintro r h9 ⟨rfl, K9⟩
      generalize ez2 : (x_isWeak shu ce rl row sea nt fit way ((v1 * 3) + v3)) = z2 at K9 ⊢
      have K : KN h9 [(0, .inl (9, [.ref 1, .ref 3, .ref 4, .ref 29, .ref 281, .ref 325, .ref 343, .ref 327, .int sst])), (4, .inl (7, [.ref 343, .int mi, .int shu, .int bus, .ref 5, .ref 6, .ref 7, .ref 8, .ref 9, .ref 10, .ref 11, .ref 12, .ref 13, .ref 14, .ref 15, .int lks, .ref 16, .ref 17, .ref 20])), (9, .inr (.inl (0, ce))), (17, .inl (5, [.ref 18, .int (z2.2.2.2), .ref 19])), (18, .inr (.inl (0, (z2.2.2.1)))), (19, .inr (.inl (0, (z2.2.1)))), (343, .inl (2, [.int ns, .ref 344, .ref 345, .ref 346, .ref 347, .int nt, .ref 348, .ref 349, .ref 350, .ref 351, .ref 352, .ref 353, .ref 354, .int cel, .ref 355, .ref 356, .ref 357, .ref 358])), (346, .inr (.inl (0, tra))), (355, .inr (.inl (0, fit))), (356, .inr (.inl (0, way)))] h0 := K.mg K9 rfl rfl
      clear K9
      show j_V jP _ 124 59 lv [.int (z2.1)] h9 _
      refine j_V.cut (b := 68) (stJ := []) (fun v => [(0, .ref 0), (1, .int v1), (2, .int v), (3, .int v3)]) ((if (z2.1) = 0 then v2 else (v2 ||| (1 <<< (v3 &&& 31)))) : Int32) (fun Q kk => ?_) (fun lv L => ?_)
      · refine j_V.ifc xb71_M xb71_59 (t := 68) rfl (fun c59_0 => ?_) (fun c59_0 => ?_)
        · replace c59_0 : (z2.1) = 0 := jd_eq c59_0
          exact kk _ (Eq.subst (motive := fun z => LK _ ((fun v => [(0, .ref 0), (1, .int v1), (2, .int v), (3, .int v3)]) z)) (show v2 = ((if (z2.1) = 0 then v2 else (v2 ||| (1 <<< (v3 &&& 31)))) : Int32) from Eq.symm ((if_pos c59_0).trans (rfl))) L)
        · replace c59_0 : ¬ ((z2.1) = 0) := jd_eqn c59_0
          refine j_V.ldL xb71_M xb71_62 rfl (i := 2) (kd := 0) (v := .int v2) (pcJ := 63) rfl L rfl rfl rfl ?_
          refine j_V.one xb71_M xb71_63 (by decide) (pcJ := 64) (stJ := [.int 1, .int v2]) rfl ?_
          refine j_V.ldL xb71_M xb71_64 rfl (i := 3) (kd := 0) (v := .int v3) (pcJ := 65) rfl L rfl rfl rfl ?_
          refine j_V.one xb71_M xb71_65 (by decide) (pcJ := 66) (stJ := [.int (1 <<< (v3 &&& 31)), .int v2]) rfl ?_
          refine j_V.one xb71_M xb71_66 (by decide) (pcJ := 67) (stJ := [.int (v2 ||| (1 <<< (v3 &&& 31)))]) rfl ?_
          refine j_V.stL xb71_M xb71_67 rfl (i := 2) (kd := 0) (kl' := [(0, .ref 0), (1, .int v1), (2, .int (v2 ||| (1 <<< (v3 &&& 31)))), (3, .int v3)]) (pcJ := 68) rfl L rfl (by decide) rfl rfl rfl (fun lv L => ?_)
          exact kk _ (Eq.subst (motive := fun z => LK _ ((fun v => [(0, .ref 0), (1, .int v1), (2, .int v), (3, .int v3)]) z)) (show (v2 ||| (1 <<< (v3 &&& 31))) = ((if (z2.1) = 0 then v2 else (v2 ||| (1 <<< (v3 &&& 31)))) : Int32) from Eq.symm ((if_neg c59_0).trans (rfl))) L)
      refine j_V.inL xb71_M xb71_68 (i := 3) (kl' := [(0, .ref 0), (1, .int v1), (2, .int ((if (z2.1) = 0 then v2 else (v2 ||| (1 <<< (v3 &&& 31)))) : Int32)), (3, .int (v3 + 1))]) (pcJ := 71) L rfl rfl rfl rfl (fun lv L => ?_)
      refine j_V.gto xb71_M xb71_71 (t := 34) rfl ?_
      subst ez2
      rw [show (x_qweak_l34 shu ce nt fit way v1 (f + 1) v3 v2 sea row rl sst) = _ from (rfl)]
      exact ih _ _ _ _ _ _ (lpN_n e) L K
set_option maxRecDepth 1000000 in
theorem xb71_ok {mi : Int32} {shu : Int32} {bus : Int32} {lks : Int32} {ce : List Int32} {rl : Int32} {row : List Int32} {sea : List Int32} {ns : Int32} {nt : Int32} {cel : Int32} {tra : List Int32} {fit : List Int32} {way : List Int32} {sst : Int32} {x1 : Int32} {d : Nat} {h h0 : J_H} (K : KN h [(0, .inl (9, [.ref 1, .ref 3, .ref 4, .ref 29, .ref 281, .ref 325, .ref 343, .ref 327, .int sst])), (4, .inl (7, [.ref 343, .int mi, .int shu, .int bus, .ref 5, .ref 6, .ref 7, .ref 8, .ref 9, .ref 10, .ref 11, .ref 12, .ref 13, .ref 14, .ref 15, .int lks, .ref 16, .ref 17, .ref 20])), (9, .inr (.inl (0, ce))), (17, .inl (5, [.ref 18, .int rl, .ref 19])), (18, .inr (.inl (0, row))), (19, .inr (.inl (0, sea))), (343, .inl (2, [.int ns, .ref 344, .ref 345, .ref 346, .ref 347, .int nt, .ref 348, .ref 349, .ref 350, .ref 351, .ref 352, .ref 353, .ref 354, .int cel, .ref 355, .ref 356, .ref 357, .ref 358])), (346, .inr (.inl (0, tra))), (355, .inr (.inl (0, fit))), (356, .inr (.inl (0, way)))] h0) : j_V jP d 124 0 (lv_args 0 [.ref 0, .int x1]) [] h (fun rv h' => rv = some (.int (x_qweak shu ce rl row sea ns nt tra fit way sst x1).1) ∧ KN h' [(0, .inl (9, [.ref 1, .ref 3, .ref 4, .ref 29, .ref 281, .ref 325, .ref 343, .ref 327, .int (x_qweak shu ce rl row sea ns nt tra fit way sst x1).2.2.2.2])), (4, .inl (7, [.ref 343, .int mi, .int shu, .int bus, .ref 5, .ref 6, .ref 7, .ref 8, .ref 9, .ref 10, .ref 11, .ref 12, .ref 13, .ref 14, .ref 15, .int lks, .ref 16, .ref 17, .ref 20])), (9, .inr (.inl (0, ce))), (17, .inl (5, [.ref 18, .int (x_qweak shu ce rl row sea ns nt tra fit way sst x1).2.2.2.1, .ref 19])), (18, .inr (.inl (0, (x_qweak shu ce rl row sea ns nt tra fit way sst x1).2.2.1))), (19, .inr (.inl (0, (x_qweak shu ce rl row sea ns nt tra fit way sst x1).2.1))), (343, .inl (2, [.int ns, .ref 344, .ref 345, .ref 346, .ref 347, .int nt, .ref 348, .ref 349, .ref 350, .ref 351, .ref 352, .ref 353, .ref 354, .int cel, .ref 355, .ref 356, .ref 357, .ref 358])), (346, .inr (.inl (0, tra))), (355, .inr (.inl (0, fit))), (356, .inr (.inl (0, way)))] h0) := by
  show j_V jP d 124 0 [(0, .ref 0), (1, .int x1)] [] h _
  obtain ⟨lv, elv, L⟩ : ∃ lv, lv = [(0, .ref 0), (1, .int x1)] ∧ LK lv [(0, .ref 0), (1, .int x1)] := ⟨_, rfl, LK.rf⟩
  rw [← elv]
  clear elv
  refine j_V.ldL xb71_M xb71_0 rfl (i := 0) (kd := 2) (v := .ref 0) (pcJ := 1) rfl L rfl rfl rfl ?_
  refine j_V.ldL xb71_M xb71_1 rfl (i := 1) (kd := 0) (v := .int x1) (pcJ := 2) rfl L rfl rfl rfl ?_
  refine j_V.cl xb71_M xb71_2 rfl (md := 3) (mj := 163) rfl (by decide) xb45_M (As := [.ref 0, .int x1]) (rest := []) (jk_spl3 (K.at rfl) rfl rfl rfl (Nat.le_of_ble_eq_true rfl) (Nat.le_of_ble_eq_true rfl)) (fun d => xb45_ok (K.fi [0, 343] rfl rfl)) ?_
  rintro r hz ⟨rfl, ez⟩
  rw [ez]
  clear ez
  show j_V jP _ 124 5 lv [.int (x_isStation ns x1)] h _
  refine j_V.ifc xb71_M xb71_5 (t := 14) rfl (fun c5_0 => ?_) (fun c5_0 => ?_)
  · replace c5_0 : ¬ ((x_isStation ns x1) = 0) := jd_ne c5_0
    refine j_V.ldL xb71_M xb71_14 rfl (i := 0) (kd := 2) (v := .ref 0) (pcJ := 15) rfl L rfl rfl rfl ?_
    refine j_V.getK xb71_M xb71_15 (ci := 9) (j := 2) rfl K rfl rfl ?_
    refine j_V.cl xb71_M xb71_18 rfl (md := 3) (mj := 76) rfl (by decide) xb40_M (As := [.ref 4]) (rest := []) (jk_spl3 (K.at rfl) rfl rfl rfl (Nat.le_of_ble_eq_true rfl) (Nat.le_of_ble_eq_true rfl)) (fun d => xb40_ok (K.fi [4, 9, 17, 18, 19, 343, 355, 356] rfl rfl)) ?_
    rintro r h9 ⟨rfl, K9⟩
    generalize ez3 : (x_isSafe shu ce rl row sea nt fit way) = z3 at K9 ⊢
    have K : KN h9 [(0, .inl (9, [.ref 1, .ref 3, .ref 4, .ref 29, .ref 281, .ref 325, .ref 343, .ref 327, .int sst])), (4, .inl (7, [.ref 343, .int mi, .int shu, .int bus, .ref 5, .ref 6, .ref 7, .ref 8, .ref 9, .ref 10, .ref 11, .ref 12, .ref 13, .ref 14, .ref 15, .int lks, .ref 16, .ref 17, .ref 20])), (9, .inr (.inl (0, ce))), (17, .inl (5, [.ref 18, .int (z3.2.2.2), .ref 19])), (18, .inr (.inl (0, (z3.2.2.1)))), (19, .inr (.inl (0, (z3.2.1)))), (343, .inl (2, [.int ns, .ref 344, .ref 345, .ref 346, .ref 347, .int nt, .ref 348, .ref 349, .ref 350, .ref 351, .ref 352, .ref 353, .ref 354, .int cel, .ref 355, .ref 356, .ref 357, .ref 358])), (346, .inr (.inl (0, tra))), (355, .inr (.inl (0, fit))), (356, .inr (.inl (0, way)))] h0 := K.mg K9 rfl rfl
    clear K9
    show j_V jP _ 124 21 lv [.int (z3.1)] h9 _
    refine j_V.ifc xb71_M xb71_21 (t := 30) rfl (fun c21_1 => ?_) (fun c21_1 => ?_)
    · replace c21_1 : ¬ ((z3.1) = 0) := jd_ne c21_1
      refine j_V.one xb71_M xb71_30 (by decide) (pcJ := 31) (stJ := [.int 0]) rfl ?_
      refine j_V.stL xb71_M xb71_31 rfl (i := 2) (kd := 0) (kl' := [(0, .ref 0), (1, .int x1), (2, .int 0)]) (pcJ := 32) rfl L rfl (by decide) rfl rfl rfl (fun lv L => ?_)
      refine j_V.one xb71_M xb71_32 (by decide) (pcJ := 33) (stJ := [.int 0]) rfl ?_
      refine j_V.stL xb71_M xb71_33 rfl (i := 3) (kd := 0) (kl' := [(0, .ref 0), (1, .int x1), (2, .int 0), (3, .int 0)]) (pcJ := 34) rfl L rfl (by decide) rfl rfl rfl (fun lv L => ?_)
      subst ez3
      rw [show (x_qweak shu ce rl row sea ns nt tra fit way sst x1) = _ from ((if_neg c5_0).trans ((if_neg c21_1).trans (rfl)))]
      exact xb71_ok_l34 _ _ _ _ _ _ _ rfl L K
    · replace c21_1 : (z3.1) = 0 := jd_nen c21_1
      refine j_V.ldL xb71_M xb71_24 rfl (i := 0) (kd := 2) (v := .ref 0) (pcJ := 25) rfl L rfl rfl rfl ?_
      refine j_V.one xb71_M xb71_25 (by decide) (pcJ := 26) (stJ := [.int 5, .ref 0]) rfl ?_
      refine j_V.cl xb71_M xb71_26 rfl (md := 3) (mj := 161) rfl (by decide) xb50_M (As := [.ref 0, .int 5]) (rest := []) (jk_spl3 (K.at rfl) rfl rfl rfl (Nat.le_of_ble_eq_true rfl) (Nat.le_of_ble_eq_true rfl)) (fun d => xb50_ok (K.fi [0] rfl rfl)) ?_
      rintro r h9 ⟨rfl, K9⟩
      generalize ez4 : (x_qrefuse sst 5) = z4 at K9 ⊢
      have K : KN h9 [(0, .inl (9, [.ref 1, .ref 3, .ref 4, .ref 29, .ref 281, .ref 325, .ref 343, .ref 327, .int (z4.2)])), (4, .inl (7, [.ref 343, .int mi, .int shu, .int bus, .ref 5, .ref 6, .ref 7, .ref 8, .ref 9, .ref 10, .ref 11, .ref 12, .ref 13, .ref 14, .ref 15, .int lks, .ref 16, .ref 17, .ref 20])), (9, .inr (.inl (0, ce))), (17, .inl (5, [.ref 18, .int (z3.2.2.2), .ref 19])), (18, .inr (.inl (0, (z3.2.2.1)))), (19, .inr (.inl (0, (z3.2.1)))), (343, .inl (2, [.int ns, .ref 344, .ref 345, .ref 346, .ref 347, .int nt, .ref 348, .ref 349, .ref 350, .ref 351, .ref 352, .ref 353, .ref 354, .int cel, .ref 355, .ref 356, .ref 357, .ref 358])), (346, .inr (.inl (0, tra))), (355, .inr (.inl (0, fit))), (356, .inr (.inl (0, way)))] h0 := K.mg K9 rfl rfl
      clear K9
      show j_V jP _ 124 29 lv [.int (z4.1)] h9 _
      subst ez4
      subst ez3
      refine j_V.ri xb71_M xb71_29 ?_
      rw [show (x_qweak shu ce rl row sea ns nt tra fit way sst x1) = _ from ((if_neg c5_0).trans ((if_pos c21_1).trans (rfl)))]
      exact ⟨rfl, K⟩
  · replace c5_0 : (x_isStation ns x1) = 0 := jd_nen c5_0
    refine j_V.ldL xb71_M xb71_8 rfl (i := 0) (kd := 2) (v := .ref 0) (pcJ := 9) rfl L rfl rfl rfl ?_
    refine j_V.one xb71_M xb71_9 (by decide) (pcJ := 10) (stJ := [.int 2, .ref 0]) rfl ?_
    refine j_V.cl xb71_M xb71_10 rfl (md := 3) (mj := 161) rfl (by decide) xb50_M (As := [.ref 0, .int 2]) (rest := []) (jk_spl3 (K.at rfl) rfl rfl rfl (Nat.le_of_ble_eq_true rfl) (Nat.le_of_ble_eq_true rfl)) (fun d => xb50_ok (K.fi [0] rfl rfl)) ?_
    rintro r h9 ⟨rfl, K9⟩
    generalize ez5 : (x_qrefuse sst 2) = z5 at K9 ⊢
    have K : KN h9 [(0, .inl (9, [.ref 1, .ref 3, .ref 4, .ref 29, .ref 281, .ref 325, .ref 343, .ref 327, .int (z5.2)])), (4, .inl (7, [.ref 343, .int mi, .int shu, .int bus, .ref 5, .ref 6, .ref 7, .ref 8, .ref 9, .ref 10, .ref 11, .ref 12, .ref 13, .ref 14, .ref 15, .int lks, .ref 16, .ref 17, .ref 20])), (9, .inr (.inl (0, ce))), (17, .inl (5, [.ref 18, .int rl, .ref 19])), (18, .inr (.inl (0, row))), (19, .inr (.inl (0, sea))), (343, .inl (2, [.int ns, .ref 344, .ref 345, .ref 346, .ref 347, .int nt, .ref 348, .ref 349, .ref 350, .ref 351, .ref 352, .ref 353, .ref 354, .int cel, .ref 355, .ref 356, .ref 357, .ref 358])), (346, .inr (.inl (0, tra))), (355, .inr (.inl (0, fit))), (356, .inr (.inl (0, way)))] h0 := K.mg K9 rfl rfl
    clear K9
    show j_V jP _ 124 13 lv [.int (z5.1)] h9 _
    subst ez5
    refine j_V.ri xb71_M xb71_13 ?_
    rw [show (x_qweak shu ce rl row sea ns nt tra fit way sst x1) = _ from ((if_pos c5_0).trans (rfl))]
    exact ⟨rfl, K⟩

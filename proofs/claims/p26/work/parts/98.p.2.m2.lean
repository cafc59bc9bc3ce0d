/-! the reference's methods that write, by wip/px/gen_m2.py -/
set_option maxRecDepth 100000 in
theorem me0_M : j_meth jP 179 = some (yX10_puts, cX10_puts, 4, none, 3, false, 10) := rfl
set_option maxRecDepth 100000 in
theorem me0_0 : j_code jP 179 0 = some (.aload_n 0) := rfl
set_option maxRecDepth 100000 in
theorem me0_1 : j_code jP 179 1 = some (.getfield 7) := rfl
set_option maxRecDepth 100000 in
theorem me0_4 : j_code jP 179 4 = some (.iload_n 1) := rfl
set_option maxRecDepth 100000 in
theorem me0_5 : j_code jP 179 5 = some (.iload_n 2) := rfl
set_option maxRecDepth 100000 in
theorem me0_6 : j_code jP 179 6 = some (.invokestatic 73) := rfl
set_option maxRecDepth 100000 in
theorem me0_9 : j_code jP 179 9 = some (.iload_n 3) := rfl
set_option maxRecDepth 100000 in
theorem me0_10 : j_code jP 179 10 = some (.iastore) := rfl
set_option maxRecDepth 100000 in
theorem me0_11 : j_code jP 179 11 = some (.return_) := rfl
def m_puts (w : List Int32) (x1 : Int32) (x2 : Int32) (x3 : Int32) : List Int32 := let w1 := (sA w (m_at x1 x2) x3); w1
set_option maxRecDepth 1000000 in
theorem me0_ok {u : Nat → Value} {w : List Int32} {x1 x2 x3 : Int32} {d : Nat} {h h0 : J_H} (K : KN h [(359, .inl (10, [(u 0), .ref 360, .ref 361, .ref 362, .ref 363, .ref 364, .ref 365, .ref 366, .ref 367, (u 9), (u 10), (u 11), (u 12), (u 13), (u 14), (u 15), (u 16), (u 17), (u 18), (u 19), (u 20), (u 21), .ref 368, (u 23), .ref 369, .ref 370, .ref 371, (u 27)])), (360, .inr (.inl (0, w)))] h0) : j_V jP d 179 0 (lv_args 0 [.ref 359, .int x1, .int x2, .int x3]) [] h (fun rv h' => rv = none ∧ KN h' [(359, .inl (10, [(u 0), .ref 360, .ref 361, .ref 362, .ref 363, .ref 364, .ref 365, .ref 366, .ref 367, (u 9), (u 10), (u 11), (u 12), (u 13), (u 14), (u 15), (u 16), (u 17), (u 18), (u 19), (u 20), (u 21), .ref 368, (u 23), .ref 369, .ref 370, .ref 371, (u 27)])), (360, .inr (.inl (0, (m_puts w x1 x2 x3))))] h0) := by
  show j_V jP d 179 0 [(0, .ref 359), (1, .int x1), (2, .int x2), (3, .int x3)] [] h _
  obtain ⟨lv, elv, L⟩ : ∃ lv, lv = [(0, .ref 359), (1, .int x1), (2, .int x2), (3, .int x3)] ∧ LK lv [(0, .ref 359), (1, .int x1), (2, .int x2), (3, .int x3)] := ⟨_, rfl, LK.rf⟩
  rw [← elv]
  clear elv
  refine j_V.ldL me0_M me0_0 rfl (i := 0) (kd := 2) (v := .ref 359) (pcJ := 1) rfl L rfl rfl rfl ?_
  refine j_V.getK me0_M me0_1 (ci := 10) (j := 1) rfl K rfl rfl ?_
  refine j_V.ldL me0_M me0_4 rfl (i := 1) (kd := 0) (v := .int x1) (pcJ := 5) rfl L rfl rfl rfl ?_
  refine j_V.ldL me0_M me0_5 rfl (i := 2) (kd := 0) (v := .int x2) (pcJ := 6) rfl L rfl rfl rfl ?_
  refine j_V.cl me0_M me0_6 rfl (md := 2) (mj := 177) rfl (by decide) ma2_M (As := [.int x1, .int x2]) (rest := [.ref 360]) (jk_spl2 rfl rfl (Nat.le_of_ble_eq_true rfl) (Nat.le_of_ble_eq_true rfl)) (fun d => ma2_ok (K.fi [] rfl rfl)) ?_
  rintro r hz ⟨rfl, ez⟩
  rw [ez]
  clear ez
  show j_V jP _ 179 9 lv [.int (m_at x1 x2), .ref 360] h _
  refine j_V.ldL me0_M me0_9 rfl (i := 3) (kd := 0) (v := .int x3) (pcJ := 10) rfl L rfl rfl rfl ?_
  refine j_V.isA me0_M me0_10 (k' := [(359, .inl (10, [(u 0), .ref 360, .ref 361, .ref 362, .ref 363, .ref 364, .ref 365, .ref 366, .ref 367, (u 9), (u 10), (u 11), (u 12), (u 13), (u 14), (u 15), (u 16), (u 17), (u 18), (u 19), (u 20), (u 21), .ref 368, (u 23), .ref 369, .ref 370, .ref 371, (u 27)])), (360, .inr (.inl (0, (sA w (m_at x1 x2) x3))))]) K rfl rfl (fun h K => ?_)
  obtain ⟨w1, ew1⟩ : ∃ z, z = (sA w (m_at x1 x2) x3) := ⟨_, rfl⟩
  rw [← ew1] at K
  subst ew1
  refine j_V.ret me0_M me0_11 rfl rfl ?_
  rw [show (m_puts w x1 x2 x3) = _ from (rfl)]
  exact ⟨rfl, K⟩
set_option maxRecDepth 100000 in
theorem me1_M : j_meth jP 215 = some (yX10_event, cX10_event, 5, none, 3, false, 10) := rfl
set_option maxRecDepth 100000 in
theorem me1_0 : j_code jP 215 0 = some (.sipush 310) := rfl
set_option maxRecDepth 100000 in
theorem me1_3 : j_code jP 215 3 = some (.iconst 4) := rfl
set_option maxRecDepth 100000 in
theorem me1_4 : j_code jP 215 4 = some (.aload_n 0) := rfl
set_option maxRecDepth 100000 in
theorem me1_5 : j_code jP 215 5 = some (.getfield 7) := rfl
set_option maxRecDepth 100000 in
theorem me1_8 : j_code jP 215 8 = some (.sipush 309) := rfl
set_option maxRecDepth 100000 in
theorem me1_11 : j_code jP 215 11 = some (.iaload) := rfl
set_option maxRecDepth 100000 in
theorem me1_12 : j_code jP 215 12 = some (.imul) := rfl
set_option maxRecDepth 100000 in
theorem me1_13 : j_code jP 215 13 = some (.iadd) := rfl
set_option maxRecDepth 100000 in
theorem me1_14 : j_code jP 215 14 = some (.istore 4) := rfl
set_option maxRecDepth 100000 in
theorem me1_16 : j_code jP 215 16 = some (.aload_n 0) := rfl
set_option maxRecDepth 100000 in
theorem me1_17 : j_code jP 215 17 = some (.getfield 7) := rfl
set_option maxRecDepth 100000 in
theorem me1_20 : j_code jP 215 20 = some (.iload 4) := rfl
set_option maxRecDepth 100000 in
theorem me1_22 : j_code jP 215 22 = some (.iload_n 1) := rfl
set_option maxRecDepth 100000 in
theorem me1_23 : j_code jP 215 23 = some (.iastore) := rfl
set_option maxRecDepth 100000 in
theorem me1_24 : j_code jP 215 24 = some (.aload_n 0) := rfl
set_option maxRecDepth 100000 in
theorem me1_25 : j_code jP 215 25 = some (.getfield 7) := rfl
set_option maxRecDepth 100000 in
theorem me1_28 : j_code jP 215 28 = some (.iload 4) := rfl
set_option maxRecDepth 100000 in
theorem me1_30 : j_code jP 215 30 = some (.iconst 1) := rfl
set_option maxRecDepth 100000 in
theorem me1_31 : j_code jP 215 31 = some (.iadd) := rfl
set_option maxRecDepth 100000 in
theorem me1_32 : j_code jP 215 32 = some (.iload_n 2) := rfl
set_option maxRecDepth 100000 in
theorem me1_33 : j_code jP 215 33 = some (.iastore) := rfl
set_option maxRecDepth 100000 in
theorem me1_34 : j_code jP 215 34 = some (.aload_n 0) := rfl
set_option maxRecDepth 100000 in
theorem me1_35 : j_code jP 215 35 = some (.getfield 7) := rfl
set_option maxRecDepth 100000 in
theorem me1_38 : j_code jP 215 38 = some (.iload 4) := rfl
set_option maxRecDepth 100000 in
theorem me1_40 : j_code jP 215 40 = some (.iconst 2) := rfl
set_option maxRecDepth 100000 in
theorem me1_41 : j_code jP 215 41 = some (.iadd) := rfl
set_option maxRecDepth 100000 in
theorem me1_42 : j_code jP 215 42 = some (.aload_n 0) := rfl
set_option maxRecDepth 100000 in
theorem me1_43 : j_code jP 215 43 = some (.getfield 7) := rfl
set_option maxRecDepth 100000 in
theorem me1_46 : j_code jP 215 46 = some (.sipush 201) := rfl
set_option maxRecDepth 100000 in
theorem me1_49 : j_code jP 215 49 = some (.iaload) := rfl
set_option maxRecDepth 100000 in
theorem me1_50 : j_code jP 215 50 = some (.iastore) := rfl
set_option maxRecDepth 100000 in
theorem me1_51 : j_code jP 215 51 = some (.aload_n 0) := rfl
set_option maxRecDepth 100000 in
theorem me1_52 : j_code jP 215 52 = some (.getfield 7) := rfl
set_option maxRecDepth 100000 in
theorem me1_55 : j_code jP 215 55 = some (.iload 4) := rfl
set_option maxRecDepth 100000 in
theorem me1_57 : j_code jP 215 57 = some (.iconst 3) := rfl
set_option maxRecDepth 100000 in
theorem me1_58 : j_code jP 215 58 = some (.iadd) := rfl
set_option maxRecDepth 100000 in
theorem me1_59 : j_code jP 215 59 = some (.iload_n 3) := rfl
set_option maxRecDepth 100000 in
theorem me1_60 : j_code jP 215 60 = some (.iastore) := rfl
set_option maxRecDepth 100000 in
theorem me1_61 : j_code jP 215 61 = some (.aload_n 0) := rfl
set_option maxRecDepth 100000 in
theorem me1_62 : j_code jP 215 62 = some (.getfield 7) := rfl
set_option maxRecDepth 100000 in
theorem me1_65 : j_code jP 215 65 = some (.sipush 309) := rfl
set_option maxRecDepth 100000 in
theorem me1_68 : j_code jP 215 68 = some (.dup2) := rfl
set_option maxRecDepth 100000 in
theorem me1_69 : j_code jP 215 69 = some (.iaload) := rfl
set_option maxRecDepth 100000 in
theorem me1_70 : j_code jP 215 70 = some (.iconst 1) := rfl
set_option maxRecDepth 100000 in
theorem me1_71 : j_code jP 215 71 = some (.iadd) := rfl
set_option maxRecDepth 100000 in
theorem me1_72 : j_code jP 215 72 = some (.iastore) := rfl
set_option maxRecDepth 100000 in
theorem me1_73 : j_code jP 215 73 = some (.return_) := rfl
def m_event (w : List Int32) (x1 : Int32) (x2 : Int32) (x3 : Int32) : List Int32 := let w1 := (sA w (310 + (4 * (gA w 309))) x1); let w2 := (sA w1 ((310 + (4 * (gA w 309))) + 1) x2); let w3 := (sA w2 ((310 + (4 * (gA w 309))) + 2) (gA w2 201)); let w4 := (sA w3 ((310 + (4 * (gA w 309))) + 3) x3); let w5 := (sA w4 309 ((gA w4 309) + 1)); w5
set_option maxRecDepth 1000000 in
theorem me1_ok {u : Nat → Value} {w : List Int32} {x1 x2 x3 : Int32} {d : Nat} {h h0 : J_H} (K : KN h [(359, .inl (10, [(u 0), .ref 360, .ref 361, .ref 362, .ref 363, .ref 364, .ref 365, .ref 366, .ref 367, (u 9), (u 10), (u 11), (u 12), (u 13), (u 14), (u 15), (u 16), (u 17), (u 18), (u 19), (u 20), (u 21), .ref 368, (u 23), .ref 369, .ref 370, .ref 371, (u 27)])), (360, .inr (.inl (0, w)))] h0) : j_V jP d 215 0 (lv_args 0 [.ref 359, .int x1, .int x2, .int x3]) [] h (fun rv h' => rv = none ∧ KN h' [(359, .inl (10, [(u 0), .ref 360, .ref 361, .ref 362, .ref 363, .ref 364, .ref 365, .ref 366, .ref 367, (u 9), (u 10), (u 11), (u 12), (u 13), (u 14), (u 15), (u 16), (u 17), (u 18), (u 19), (u 20), (u 21), .ref 368, (u 23), .ref 369, .ref 370, .ref 371, (u 27)])), (360, .inr (.inl (0, (m_event w x1 x2 x3))))] h0) := by
  show j_V jP d 215 0 [(0, .ref 359), (1, .int x1), (2, .int x2), (3, .int x3)] [] h _
  obtain ⟨lv, elv, L⟩ : ∃ lv, lv = [(0, .ref 359), (1, .int x1), (2, .int x2), (3, .int x3)] ∧ LK lv [(0, .ref 359), (1, .int x1), (2, .int x2), (3, .int x3)] := ⟨_, rfl, LK.rf⟩
  rw [← elv]
  clear elv
  refine j_V.one me1_M me1_0 (by decide) (pcJ := 3) (stJ := [.int 310]) rfl ?_
  refine j_V.one me1_M me1_3 (by decide) (pcJ := 4) (stJ := [.int 4, .int 310]) rfl ?_
  refine j_V.ldL me1_M me1_4 rfl (i := 0) (kd := 2) (v := .ref 359) (pcJ := 5) rfl L rfl rfl rfl ?_
  refine j_V.getK me1_M me1_5 (ci := 10) (j := 1) rfl K rfl rfl ?_
  refine j_V.one me1_M me1_8 (by decide) (pcJ := 11) (stJ := [.int 309, .ref 360, .int 4, .int 310]) rfl ?_
  refine j_V.iaA me1_M me1_11 K rfl ?_
  refine j_V.one me1_M me1_12 (by decide) (pcJ := 13) (stJ := [.int (4 * (gA w 309)), .int 310]) rfl ?_
  refine j_V.one me1_M me1_13 (by decide) (pcJ := 14) (stJ := [.int (310 + (4 * (gA w 309)))]) rfl ?_
  refine j_V.stL me1_M me1_14 rfl (i := 4) (kd := 0) (kl' := [(0, .ref 359), (1, .int x1), (2, .int x2), (3, .int x3), (4, .int (310 + (4 * (gA w 309))))]) (pcJ := 16) rfl L rfl (by decide) rfl rfl rfl (fun lv L => ?_)
  refine j_V.ldL me1_M me1_16 rfl (i := 0) (kd := 2) (v := .ref 359) (pcJ := 17) rfl L rfl rfl rfl ?_
  refine j_V.getK me1_M me1_17 (ci := 10) (j := 1) rfl K rfl rfl ?_
  refine j_V.ldL me1_M me1_20 rfl (i := 4) (kd := 0) (v := .int (310 + (4 * (gA w 309)))) (pcJ := 22) rfl L rfl rfl rfl ?_
  refine j_V.ldL me1_M me1_22 rfl (i := 1) (kd := 0) (v := .int x1) (pcJ := 23) rfl L rfl rfl rfl ?_
  refine j_V.isA me1_M me1_23 (k' := [(359, .inl (10, [(u 0), .ref 360, .ref 361, .ref 362, .ref 363, .ref 364, .ref 365, .ref 366, .ref 367, (u 9), (u 10), (u 11), (u 12), (u 13), (u 14), (u 15), (u 16), (u 17), (u 18), (u 19), (u 20), (u 21), .ref 368, (u 23), .ref 369, .ref 370, .ref 371, (u 27)])), (360, .inr (.inl (0, (sA w (310 + (4 * (gA w 309))) x1))))]) K rfl rfl (fun h K => ?_)
  obtain ⟨w1, ew1⟩ : ∃ z, z = (sA w (310 + (4 * (gA w 309))) x1) := ⟨_, rfl⟩
  rw [← ew1] at K
  refine j_V.ldL me1_M me1_24 rfl (i := 0) (kd := 2) (v := .ref 359) (pcJ := 25) rfl L rfl rfl rfl ?_
  refine j_V.getK me1_M me1_25 (ci := 10) (j := 1) rfl K rfl rfl ?_
  refine j_V.ldL me1_M me1_28 rfl (i := 4) (kd := 0) (v := .int (310 + (4 * (gA w 309)))) (pcJ := 30) rfl L rfl rfl rfl ?_
  refine j_V.one me1_M me1_30 (by decide) (pcJ := 31) (stJ := [.int 1, .int (310 + (4 * (gA w 309))), .ref 360]) rfl ?_
  refine j_V.one me1_M me1_31 (by decide) (pcJ := 32) (stJ := [.int ((310 + (4 * (gA w 309))) + 1), .ref 360]) rfl ?_
  refine j_V.ldL me1_M me1_32 rfl (i := 2) (kd := 0) (v := .int x2) (pcJ := 33) rfl L rfl rfl rfl ?_
  refine j_V.isA me1_M me1_33 (k' := [(359, .inl (10, [(u 0), .ref 360, .ref 361, .ref 362, .ref 363, .ref 364, .ref 365, .ref 366, .ref 367, (u 9), (u 10), (u 11), (u 12), (u 13), (u 14), (u 15), (u 16), (u 17), (u 18), (u 19), (u 20), (u 21), .ref 368, (u 23), .ref 369, .ref 370, .ref 371, (u 27)])), (360, .inr (.inl (0, (sA w1 ((310 + (4 * (gA w 309))) + 1) x2))))]) K rfl rfl (fun h K => ?_)
  obtain ⟨w2, ew2⟩ : ∃ z, z = (sA w1 ((310 + (4 * (gA w 309))) + 1) x2) := ⟨_, rfl⟩
  rw [← ew2] at K
  refine j_V.ldL me1_M me1_34 rfl (i := 0) (kd := 2) (v := .ref 359) (pcJ := 35) rfl L rfl rfl rfl ?_
  refine j_V.getK me1_M me1_35 (ci := 10) (j := 1) rfl K rfl rfl ?_
  refine j_V.ldL me1_M me1_38 rfl (i := 4) (kd := 0) (v := .int (310 + (4 * (gA w 309)))) (pcJ := 40) rfl L rfl rfl rfl ?_
  refine j_V.one me1_M me1_40 (by decide) (pcJ := 41) (stJ := [.int 2, .int (310 + (4 * (gA w 309))), .ref 360]) rfl ?_
  refine j_V.one me1_M me1_41 (by decide) (pcJ := 42) (stJ := [.int ((310 + (4 * (gA w 309))) + 2), .ref 360]) rfl ?_
  refine j_V.ldL me1_M me1_42 rfl (i := 0) (kd := 2) (v := .ref 359) (pcJ := 43) rfl L rfl rfl rfl ?_
  refine j_V.getK me1_M me1_43 (ci := 10) (j := 1) rfl K rfl rfl ?_
  refine j_V.one me1_M me1_46 (by decide) (pcJ := 49) (stJ := [.int 201, .ref 360, .int ((310 + (4 * (gA w 309))) + 2), .ref 360]) rfl ?_
  refine j_V.iaA me1_M me1_49 K rfl ?_
  refine j_V.isA me1_M me1_50 (k' := [(359, .inl (10, [(u 0), .ref 360, .ref 361, .ref 362, .ref 363, .ref 364, .ref 365, .ref 366, .ref 367, (u 9), (u 10), (u 11), (u 12), (u 13), (u 14), (u 15), (u 16), (u 17), (u 18), (u 19), (u 20), (u 21), .ref 368, (u 23), .ref 369, .ref 370, .ref 371, (u 27)])), (360, .inr (.inl (0, (sA w2 ((310 + (4 * (gA w 309))) + 2) (gA w2 201)))))]) K rfl rfl (fun h K => ?_)
  obtain ⟨w3, ew3⟩ : ∃ z, z = (sA w2 ((310 + (4 * (gA w 309))) + 2) (gA w2 201)) := ⟨_, rfl⟩
  rw [← ew3] at K
  refine j_V.ldL me1_M me1_51 rfl (i := 0) (kd := 2) (v := .ref 359) (pcJ := 52) rfl L rfl rfl rfl ?_
  refine j_V.getK me1_M me1_52 (ci := 10) (j := 1) rfl K rfl rfl ?_
  refine j_V.ldL me1_M me1_55 rfl (i := 4) (kd := 0) (v := .int (310 + (4 * (gA w 309)))) (pcJ := 57) rfl L rfl rfl rfl ?_
  refine j_V.one me1_M me1_57 (by decide) (pcJ := 58) (stJ := [.int 3, .int (310 + (4 * (gA w 309))), .ref 360]) rfl ?_
  refine j_V.one me1_M me1_58 (by decide) (pcJ := 59) (stJ := [.int ((310 + (4 * (gA w 309))) + 3), .ref 360]) rfl ?_
  refine j_V.ldL me1_M me1_59 rfl (i := 3) (kd := 0) (v := .int x3) (pcJ := 60) rfl L rfl rfl rfl ?_
  refine j_V.isA me1_M me1_60 (k' := [(359, .inl (10, [(u 0), .ref 360, .ref 361, .ref 362, .ref 363, .ref 364, .ref 365, .ref 366, .ref 367, (u 9), (u 10), (u 11), (u 12), (u 13), (u 14), (u 15), (u 16), (u 17), (u 18), (u 19), (u 20), (u 21), .ref 368, (u 23), .ref 369, .ref 370, .ref 371, (u 27)])), (360, .inr (.inl (0, (sA w3 ((310 + (4 * (gA w 309))) + 3) x3))))]) K rfl rfl (fun h K => ?_)
  obtain ⟨w4, ew4⟩ : ∃ z, z = (sA w3 ((310 + (4 * (gA w 309))) + 3) x3) := ⟨_, rfl⟩
  rw [← ew4] at K
  refine j_V.ldL me1_M me1_61 rfl (i := 0) (kd := 2) (v := .ref 359) (pcJ := 62) rfl L rfl rfl rfl ?_
  refine j_V.getK me1_M me1_62 (ci := 10) (j := 1) rfl K rfl rfl ?_
  refine j_V.one me1_M me1_65 (by decide) (pcJ := 68) (stJ := [.int 309, .ref 360]) rfl ?_
  refine j_V.one me1_M me1_68 (by decide) (pcJ := 69) (stJ := [.int 309, .ref 360, .int 309, .ref 360]) rfl ?_
  refine j_V.iaA me1_M me1_69 K rfl ?_
  refine j_V.one me1_M me1_70 (by decide) (pcJ := 71) (stJ := [.int 1, .int (gA w4 309), .int 309, .ref 360]) rfl ?_
  refine j_V.one me1_M me1_71 (by decide) (pcJ := 72) (stJ := [.int ((gA w4 309) + 1), .int 309, .ref 360]) rfl ?_
  refine j_V.isA me1_M me1_72 (k' := [(359, .inl (10, [(u 0), .ref 360, .ref 361, .ref 362, .ref 363, .ref 364, .ref 365, .ref 366, .ref 367, (u 9), (u 10), (u 11), (u 12), (u 13), (u 14), (u 15), (u 16), (u 17), (u 18), (u 19), (u 20), (u 21), .ref 368, (u 23), .ref 369, .ref 370, .ref 371, (u 27)])), (360, .inr (.inl (0, (sA w4 309 ((gA w4 309) + 1)))))]) K rfl rfl (fun h K => ?_)
  obtain ⟨w5, ew5⟩ : ∃ z, z = (sA w4 309 ((gA w4 309) + 1)) := ⟨_, rfl⟩
  rw [← ew5] at K
  subst ew5
  subst ew4
  subst ew3
  subst ew2
  subst ew1
  refine j_V.ret me1_M me1_73 rfl rfl ?_
  rw [show (m_event w x1 x2 x3) = _ from (rfl)]
  exact ⟨rfl, K⟩
set_option maxRecDepth 100000 in
theorem me2_M : j_meth jP 216 = some (yX10_sets, cX10_sets, 3, none, 1, false, 10) := rfl
set_option maxRecDepth 100000 in
theorem me2_0 : j_code jP 216 0 = some (.aload_n 0) := rfl
set_option maxRecDepth 100000 in
theorem me2_1 : j_code jP 216 1 = some (.iload_n 1) := rfl
set_option maxRecDepth 100000 in
theorem me2_2 : j_code jP 216 2 = some (.aload_n 0) := rfl
set_option maxRecDepth 100000 in
theorem me2_3 : j_code jP 216 3 = some (.iload_n 1) := rfl
set_option maxRecDepth 100000 in
theorem me2_4 : j_code jP 216 4 = some (.bipush 6) := rfl
set_option maxRecDepth 100000 in
theorem me2_6 : j_code jP 216 6 = some (.invokevirtual 198) := rfl
set_option maxRecDepth 100000 in
theorem me2_9 : j_code jP 216 9 = some (.ifCond .ne 7) := rfl
set_option maxRecDepth 100000 in
theorem me2_12 : j_code jP 216 12 = some (.iconst 0) := rfl
set_option maxRecDepth 100000 in
theorem me2_13 : j_code jP 216 13 = some (.goto 4) := rfl
set_option maxRecDepth 100000 in
theorem me2_16 : j_code jP 216 16 = some (.iconst 1) := rfl
set_option maxRecDepth 100000 in
theorem me2_17 : j_code jP 216 17 = some (.aload_n 0) := rfl
set_option maxRecDepth 100000 in
theorem me2_18 : j_code jP 216 18 = some (.iload_n 1) := rfl
set_option maxRecDepth 100000 in
theorem me2_19 : j_code jP 216 19 = some (.bipush 6) := rfl
set_option maxRecDepth 100000 in
theorem me2_21 : j_code jP 216 21 = some (.invokevirtual 198) := rfl
set_option maxRecDepth 100000 in
theorem me2_24 : j_code jP 216 24 = some (.ifCond .ne 12) := rfl
set_option maxRecDepth 100000 in
theorem me2_27 : j_code jP 216 27 = some (.aload_n 0) := rfl
set_option maxRecDepth 100000 in
theorem me2_28 : j_code jP 216 28 = some (.iload_n 1) := rfl
set_option maxRecDepth 100000 in
theorem me2_29 : j_code jP 216 29 = some (.iconst 1) := rfl
set_option maxRecDepth 100000 in
theorem me2_30 : j_code jP 216 30 = some (.invokevirtual 198) := rfl
set_option maxRecDepth 100000 in
theorem me2_33 : j_code jP 216 33 = some (.goto 10) := rfl
set_option maxRecDepth 100000 in
theorem me2_36 : j_code jP 216 36 = some (.aload_n 0) := rfl
set_option maxRecDepth 100000 in
theorem me2_37 : j_code jP 216 37 = some (.iload_n 1) := rfl
set_option maxRecDepth 100000 in
theorem me2_38 : j_code jP 216 38 = some (.bipush 7) := rfl
set_option maxRecDepth 100000 in
theorem me2_40 : j_code jP 216 40 = some (.invokevirtual 198) := rfl
set_option maxRecDepth 100000 in
theorem me2_43 : j_code jP 216 43 = some (.invokevirtual 234) := rfl
set_option maxRecDepth 100000 in
theorem me2_46 : j_code jP 216 46 = some (.aload_n 0) := rfl
set_option maxRecDepth 100000 in
theorem me2_47 : j_code jP 216 47 = some (.iload_n 1) := rfl
set_option maxRecDepth 100000 in
theorem me2_48 : j_code jP 216 48 = some (.bipush 6) := rfl
set_option maxRecDepth 100000 in
theorem me2_50 : j_code jP 216 50 = some (.invokevirtual 198) := rfl
set_option maxRecDepth 100000 in
theorem me2_53 : j_code jP 216 53 = some (.ifCond .ne 65) := rfl
set_option maxRecDepth 100000 in
theorem me2_56 : j_code jP 216 56 = some (.aload_n 0) := rfl
set_option maxRecDepth 100000 in
theorem me2_57 : j_code jP 216 57 = some (.iload_n 1) := rfl
set_option maxRecDepth 100000 in
theorem me2_58 : j_code jP 216 58 = some (.bipush 8) := rfl
set_option maxRecDepth 100000 in
theorem me2_60 : j_code jP 216 60 = some (.aload_n 0) := rfl
set_option maxRecDepth 100000 in
theorem me2_61 : j_code jP 216 61 = some (.iload_n 1) := rfl
set_option maxRecDepth 100000 in
theorem me2_62 : j_code jP 216 62 = some (.aload_n 0) := rfl
set_option maxRecDepth 100000 in
theorem me2_63 : j_code jP 216 63 = some (.iload_n 1) := rfl
set_option maxRecDepth 100000 in
theorem me2_64 : j_code jP 216 64 = some (.iconst 1) := rfl
set_option maxRecDepth 100000 in
theorem me2_65 : j_code jP 216 65 = some (.invokevirtual 198) := rfl
set_option maxRecDepth 100000 in
theorem me2_68 : j_code jP 216 68 = some (.invokevirtual 228) := rfl
set_option maxRecDepth 100000 in
theorem me2_71 : j_code jP 216 71 = some (.invokevirtual 238) := rfl
set_option maxRecDepth 100000 in
theorem me2_74 : j_code jP 216 74 = some (.aload_n 0) := rfl
set_option maxRecDepth 100000 in
theorem me2_75 : j_code jP 216 75 = some (.iload_n 1) := rfl
set_option maxRecDepth 100000 in
theorem me2_76 : j_code jP 216 76 = some (.bipush 7) := rfl
set_option maxRecDepth 100000 in
theorem me2_78 : j_code jP 216 78 = some (.aload_n 0) := rfl
set_option maxRecDepth 100000 in
theorem me2_79 : j_code jP 216 79 = some (.iload_n 1) := rfl
set_option maxRecDepth 100000 in
theorem me2_80 : j_code jP 216 80 = some (.iconst 1) := rfl
set_option maxRecDepth 100000 in
theorem me2_81 : j_code jP 216 81 = some (.invokevirtual 198) := rfl
set_option maxRecDepth 100000 in
theorem me2_84 : j_code jP 216 84 = some (.invokevirtual 238) := rfl
set_option maxRecDepth 100000 in
theorem me2_87 : j_code jP 216 87 = some (.aload_n 0) := rfl
set_option maxRecDepth 100000 in
theorem me2_88 : j_code jP 216 88 = some (.iload_n 1) := rfl
set_option maxRecDepth 100000 in
theorem me2_89 : j_code jP 216 89 = some (.bipush 6) := rfl
set_option maxRecDepth 100000 in
theorem me2_91 : j_code jP 216 91 = some (.iconst 1) := rfl
set_option maxRecDepth 100000 in
theorem me2_92 : j_code jP 216 92 = some (.invokevirtual 238) := rfl
set_option maxRecDepth 100000 in
theorem me2_95 : j_code jP 216 95 = some (.aload_n 0) := rfl
set_option maxRecDepth 100000 in
theorem me2_96 : j_code jP 216 96 = some (.iload_n 1) := rfl
set_option maxRecDepth 100000 in
theorem me2_97 : j_code jP 216 97 = some (.bipush 13) := rfl
set_option maxRecDepth 100000 in
theorem me2_99 : j_code jP 216 99 = some (.aload_n 0) := rfl
set_option maxRecDepth 100000 in
theorem me2_100 : j_code jP 216 100 = some (.iload_n 1) := rfl
set_option maxRecDepth 100000 in
theorem me2_101 : j_code jP 216 101 = some (.iconst 1) := rfl
set_option maxRecDepth 100000 in
theorem me2_102 : j_code jP 216 102 = some (.invokevirtual 198) := rfl
set_option maxRecDepth 100000 in
theorem me2_105 : j_code jP 216 105 = some (.iadd) := rfl
set_option maxRecDepth 100000 in
theorem me2_106 : j_code jP 216 106 = some (.aload_n 0) := rfl
set_option maxRecDepth 100000 in
theorem me2_107 : j_code jP 216 107 = some (.getfield 7) := rfl
set_option maxRecDepth 100000 in
theorem me2_110 : j_code jP 216 110 = some (.sipush 201) := rfl
set_option maxRecDepth 100000 in
theorem me2_113 : j_code jP 216 113 = some (.iaload) := rfl
set_option maxRecDepth 100000 in
theorem me2_114 : j_code jP 216 114 = some (.invokevirtual 238) := rfl
set_option maxRecDepth 100000 in
theorem me2_117 : j_code jP 216 117 = some (.return_) := rfl
set_option maxRecDepth 100000 in
theorem me2_118 : j_code jP 216 118 = some (.aload_n 0) := rfl
set_option maxRecDepth 100000 in
theorem me2_119 : j_code jP 216 119 = some (.iload_n 1) := rfl
set_option maxRecDepth 100000 in
theorem me2_120 : j_code jP 216 120 = some (.invokevirtual 216) := rfl
set_option maxRecDepth 100000 in
theorem me2_123 : j_code jP 216 123 = some (.istore_n 2) := rfl
set_option maxRecDepth 100000 in
theorem me2_124 : j_code jP 216 124 = some (.aload_n 0) := rfl
set_option maxRecDepth 100000 in
theorem me2_125 : j_code jP 216 125 = some (.iload_n 1) := rfl
set_option maxRecDepth 100000 in
theorem me2_126 : j_code jP 216 126 = some (.bipush 8) := rfl
set_option maxRecDepth 100000 in
theorem me2_128 : j_code jP 216 128 = some (.aload_n 0) := rfl
set_option maxRecDepth 100000 in
theorem me2_129 : j_code jP 216 129 = some (.iload_n 1) := rfl
set_option maxRecDepth 100000 in
theorem me2_130 : j_code jP 216 130 = some (.invokevirtual 204) := rfl
set_option maxRecDepth 100000 in
theorem me2_133 : j_code jP 216 133 = some (.aload_n 0) := rfl
set_option maxRecDepth 100000 in
theorem me2_134 : j_code jP 216 134 = some (.iload_n 1) := rfl
set_option maxRecDepth 100000 in
theorem me2_135 : j_code jP 216 135 = some (.iconst 2) := rfl
set_option maxRecDepth 100000 in
theorem me2_136 : j_code jP 216 136 = some (.invokevirtual 198) := rfl
set_option maxRecDepth 100000 in
theorem me2_139 : j_code jP 216 139 = some (.if_icmp .ne 7) := rfl
set_option maxRecDepth 100000 in
theorem me2_142 : j_code jP 216 142 = some (.iconst (-1)) := rfl
set_option maxRecDepth 100000 in
theorem me2_143 : j_code jP 216 143 = some (.goto 13) := rfl
set_option maxRecDepth 100000 in
theorem me2_146 : j_code jP 216 146 = some (.aload_n 0) := rfl
set_option maxRecDepth 100000 in
theorem me2_147 : j_code jP 216 147 = some (.iload_n 1) := rfl
set_option maxRecDepth 100000 in
theorem me2_148 : j_code jP 216 148 = some (.aload_n 0) := rfl
set_option maxRecDepth 100000 in
theorem me2_149 : j_code jP 216 149 = some (.iload_n 1) := rfl
set_option maxRecDepth 100000 in
theorem me2_150 : j_code jP 216 150 = some (.invokevirtual 204) := rfl
set_option maxRecDepth 100000 in
theorem me2_153 : j_code jP 216 153 = some (.invokevirtual 228) := rfl
set_option maxRecDepth 100000 in
theorem me2_156 : j_code jP 216 156 = some (.invokevirtual 238) := rfl
set_option maxRecDepth 100000 in
theorem me2_159 : j_code jP 216 159 = some (.aload_n 0) := rfl
set_option maxRecDepth 100000 in
theorem me2_160 : j_code jP 216 160 = some (.iload_n 1) := rfl
set_option maxRecDepth 100000 in
theorem me2_161 : j_code jP 216 161 = some (.bipush 6) := rfl
set_option maxRecDepth 100000 in
theorem me2_163 : j_code jP 216 163 = some (.iconst 2) := rfl
set_option maxRecDepth 100000 in
theorem me2_164 : j_code jP 216 164 = some (.invokevirtual 238) := rfl
set_option maxRecDepth 100000 in
theorem me2_167 : j_code jP 216 167 = some (.aload_n 0) := rfl
set_option maxRecDepth 100000 in
theorem me2_168 : j_code jP 216 168 = some (.iload_n 1) := rfl
set_option maxRecDepth 100000 in
theorem me2_169 : j_code jP 216 169 = some (.bipush 9) := rfl
set_option maxRecDepth 100000 in
theorem me2_171 : j_code jP 216 171 = some (.aload_n 0) := rfl
set_option maxRecDepth 100000 in
theorem me2_172 : j_code jP 216 172 = some (.getfield 7) := rfl
set_option maxRecDepth 100000 in
theorem me2_175 : j_code jP 216 175 = some (.sipush 201) := rfl
set_option maxRecDepth 100000 in
theorem me2_178 : j_code jP 216 178 = some (.iaload) := rfl
set_option maxRecDepth 100000 in
theorem me2_179 : j_code jP 216 179 = some (.aload_n 0) := rfl
set_option maxRecDepth 100000 in
theorem me2_180 : j_code jP 216 180 = some (.iload_n 1) := rfl
set_option maxRecDepth 100000 in
theorem me2_181 : j_code jP 216 181 = some (.iload_n 2) := rfl
set_option maxRecDepth 100000 in
theorem me2_182 : j_code jP 216 182 = some (.invokevirtual 222) := rfl
set_option maxRecDepth 100000 in
theorem me2_185 : j_code jP 216 185 = some (.iadd) := rfl
set_option maxRecDepth 100000 in
theorem me2_186 : j_code jP 216 186 = some (.invokevirtual 238) := rfl
set_option maxRecDepth 100000 in
theorem me2_189 : j_code jP 216 189 = some (.aload_n 0) := rfl
set_option maxRecDepth 100000 in
theorem me2_190 : j_code jP 216 190 = some (.iload_n 1) := rfl
set_option maxRecDepth 100000 in
theorem me2_191 : j_code jP 216 191 = some (.bipush 20) := rfl
set_option maxRecDepth 100000 in
theorem me2_193 : j_code jP 216 193 = some (.aload_n 0) := rfl
set_option maxRecDepth 100000 in
theorem me2_194 : j_code jP 216 194 = some (.iload_n 1) := rfl
set_option maxRecDepth 100000 in
theorem me2_195 : j_code jP 216 195 = some (.bipush 7) := rfl
set_option maxRecDepth 100000 in
theorem me2_197 : j_code jP 216 197 = some (.invokevirtual 198) := rfl
set_option maxRecDepth 100000 in
theorem me2_200 : j_code jP 216 200 = some (.iadd) := rfl
set_option maxRecDepth 100000 in
theorem me2_201 : j_code jP 216 201 = some (.aload_n 0) := rfl
set_option maxRecDepth 100000 in
theorem me2_202 : j_code jP 216 202 = some (.getfield 7) := rfl
set_option maxRecDepth 100000 in
theorem me2_205 : j_code jP 216 205 = some (.sipush 201) := rfl
set_option maxRecDepth 100000 in
theorem me2_208 : j_code jP 216 208 = some (.iaload) := rfl
set_option maxRecDepth 100000 in
theorem me2_209 : j_code jP 216 209 = some (.invokevirtual 238) := rfl
set_option maxRecDepth 100000 in
theorem me2_212 : j_code jP 216 212 = some (.aload_n 0) := rfl
set_option maxRecDepth 100000 in
theorem me2_213 : j_code jP 216 213 = some (.getfield 7) := rfl
set_option maxRecDepth 100000 in
theorem me2_216 : j_code jP 216 216 = some (.sipush 216) := rfl
set_option maxRecDepth 100000 in
theorem me2_219 : j_code jP 216 219 = some (.iconst 5) := rfl
set_option maxRecDepth 100000 in
theorem me2_220 : j_code jP 216 220 = some (.iload_n 2) := rfl
set_option maxRecDepth 100000 in
theorem me2_221 : j_code jP 216 221 = some (.imul) := rfl
set_option maxRecDepth 100000 in
theorem me2_222 : j_code jP 216 222 = some (.iadd) := rfl
set_option maxRecDepth 100000 in
theorem me2_223 : j_code jP 216 223 = some (.aload_n 0) := rfl
set_option maxRecDepth 100000 in
theorem me2_224 : j_code jP 216 224 = some (.getfield 7) := rfl
set_option maxRecDepth 100000 in
theorem me2_227 : j_code jP 216 227 = some (.sipush 210) := rfl
set_option maxRecDepth 100000 in
theorem me2_230 : j_code jP 216 230 = some (.iload_n 2) := rfl
set_option maxRecDepth 100000 in
theorem me2_231 : j_code jP 216 231 = some (.iadd) := rfl
set_option maxRecDepth 100000 in
theorem me2_232 : j_code jP 216 232 = some (.iaload) := rfl
set_option maxRecDepth 100000 in
theorem me2_233 : j_code jP 216 233 = some (.iadd) := rfl
set_option maxRecDepth 100000 in
theorem me2_234 : j_code jP 216 234 = some (.iload_n 1) := rfl
set_option maxRecDepth 100000 in
theorem me2_235 : j_code jP 216 235 = some (.iastore) := rfl
set_option maxRecDepth 100000 in
theorem me2_236 : j_code jP 216 236 = some (.aload_n 0) := rfl
set_option maxRecDepth 100000 in
theorem me2_237 : j_code jP 216 237 = some (.getfield 7) := rfl
set_option maxRecDepth 100000 in
theorem me2_240 : j_code jP 216 240 = some (.sipush 210) := rfl
set_option maxRecDepth 100000 in
theorem me2_243 : j_code jP 216 243 = some (.iload_n 2) := rfl
set_option maxRecDepth 100000 in
theorem me2_244 : j_code jP 216 244 = some (.iadd) := rfl
set_option maxRecDepth 100000 in
theorem me2_245 : j_code jP 216 245 = some (.dup2) := rfl
set_option maxRecDepth 100000 in
theorem me2_246 : j_code jP 216 246 = some (.iaload) := rfl
set_option maxRecDepth 100000 in
theorem me2_247 : j_code jP 216 247 = some (.iconst 1) := rfl
set_option maxRecDepth 100000 in
theorem me2_248 : j_code jP 216 248 = some (.iadd) := rfl
set_option maxRecDepth 100000 in
theorem me2_249 : j_code jP 216 249 = some (.iastore) := rfl
set_option maxRecDepth 100000 in
theorem me2_250 : j_code jP 216 250 = some (.return_) := rfl
def m_sets (w : List Int32) (x1 : Int32) : List Int32 := let z1 := (m_event w x1 ((if (m_of w x1 6) = 0 then 0 else 1) : Int32) ((if (m_of w x1 6) = 0 then (m_of w x1 1) else (m_of w x1 7)) : Int32)); (if (m_of z1 x1 6) = 0 then let z6 := (m_puts z1 x1 8 (m_trackFor z1 x1 (m_of z1 x1 1))); let z7 := (m_puts z6 x1 7 (m_of z6 x1 1)); let z8 := (m_puts z7 x1 6 1); let z9 := (m_puts z8 x1 (13 + (m_of z8 x1 1)) (gA z8 201)); z9 else let z2 := (m_puts z1 x1 8 ((if (m_next z1 x1) = (m_of z1 x1 2) then (-1) else (m_trackFor z1 x1 (m_next z1 x1))) : Int32)); let z3 := (m_puts z2 x1 6 2); let z4 := (m_puts z3 x1 9 ((gA z3 201) + (m_runOf z3 x1 (m_sectionOf z1 x1)))); let z5 := (m_puts z4 x1 (20 + (m_of z4 x1 7)) (gA z4 201)); let w1 := (sA z5 ((216 + (5 * (m_sectionOf z1 x1))) + (gA z5 (210 + (m_sectionOf z1 x1)))) x1); let w2 := (sA w1 (210 + (m_sectionOf z1 x1)) ((gA w1 (210 + (m_sectionOf z1 x1))) + 1)); w2)
set_option maxRecDepth 1000000 in
theorem me2_ok {u : Nat → Value} {w : List Int32} {x1 : Int32} {d : Nat} {h h0 : J_H} (K : KN h [(359, .inl (10, [(u 0), .ref 360, .ref 361, .ref 362, .ref 363, .ref 364, .ref 365, .ref 366, .ref 367, (u 9), (u 10), (u 11), (u 12), (u 13), (u 14), (u 15), (u 16), (u 17), (u 18), (u 19), (u 20), (u 21), .ref 368, (u 23), .ref 369, .ref 370, .ref 371, (u 27)])), (360, .inr (.inl (0, w)))] h0) : j_V jP d 216 0 (lv_args 0 [.ref 359, .int x1]) [] h (fun rv h' => rv = none ∧ KN h' [(359, .inl (10, [(u 0), .ref 360, .ref 361, .ref 362, .ref 363, .ref 364, .ref 365, .ref 366, .ref 367, (u 9), (u 10), (u 11), (u 12), (u 13), (u 14), (u 15), (u 16), (u 17), (u 18), (u 19), (u 20), (u 21), .ref 368, (u 23), .ref 369, .ref 370, .ref 371, (u 27)])), (360, .inr (.inl (0, (m_sets w x1))))] h0) := by
  show j_V jP d 216 0 [(0, .ref 359), (1, .int x1)] [] h _
  obtain ⟨lv, elv, L⟩ : ∃ lv, lv = [(0, .ref 359), (1, .int x1)] ∧ LK lv [(0, .ref 359), (1, .int x1)] := ⟨_, rfl, LK.rf⟩
  rw [← elv]
  clear elv
  refine j_V.ldL me2_M me2_0 rfl (i := 0) (kd := 2) (v := .ref 359) (pcJ := 1) rfl L rfl rfl rfl ?_
  refine j_V.ldL me2_M me2_1 rfl (i := 1) (kd := 0) (v := .int x1) (pcJ := 2) rfl L rfl rfl rfl ?_
  refine j_V.ldL me2_M me2_2 rfl (i := 0) (kd := 2) (v := .ref 359) (pcJ := 3) rfl L rfl rfl rfl ?_
  refine j_V.ldL me2_M me2_3 rfl (i := 1) (kd := 0) (v := .int x1) (pcJ := 4) rfl L rfl rfl rfl ?_
  refine j_V.one me2_M me2_4 (by decide) (pcJ := 6) (stJ := [.int 6, .int x1, .ref 359, .int x1, .ref 359]) rfl ?_
  refine j_V.cl me2_M me2_6 rfl (md := 3) (mj := 178) rfl (by decide) ma3_M (As := [.ref 359, .int x1, .int 6]) (rest := [.int x1, .ref 359]) (jk_spl3 (K.at rfl) rfl rfl rfl (Nat.le_of_ble_eq_true rfl) (Nat.le_of_ble_eq_true rfl)) (fun d => ma3_ok (K.fi [359, 360] rfl rfl)) ?_
  rintro r hz ⟨rfl, ez⟩
  rw [ez]
  clear ez
  show j_V jP _ 216 9 lv [.int (m_of w x1 6), .int x1, .ref 359] h _
  refine j_V.cut (b := 17) (stJ := [.int ((if (m_of w x1 6) = 0 then 0 else 1) : Int32), .int x1, .ref 359]) (fun v => [(0, .ref 359), (1, .int x1)]) ((if (m_of w x1 6) = 0 then 0 else 1) : Int32) (fun Q kk => ?_) (fun lv L => ?_)
  · refine j_V.ifc me2_M me2_9 (t := 16) rfl (fun c9_0 => ?_) (fun c9_0 => ?_)
    · replace c9_0 : ¬ ((m_of w x1 6) = 0) := jd_ne c9_0
      refine j_V.one me2_M me2_16 (by decide) (pcJ := 17) (stJ := [.int 1, .int x1, .ref 359]) rfl ?_
      exact Eq.subst (motive := fun z => j_V jP _ 216 17 _ (.int z :: [.int x1, .ref 359]) h Q) (show ((if (m_of w x1 6) = 0 then 0 else 1) : Int32) = 1 from (if_neg c9_0).trans (rfl)) (kk _ L)
    · replace c9_0 : (m_of w x1 6) = 0 := jd_nen c9_0
      refine j_V.one me2_M me2_12 (by decide) (pcJ := 13) (stJ := [.int 0, .int x1, .ref 359]) rfl ?_
      refine j_V.gto me2_M me2_13 (t := 17) rfl ?_
      exact Eq.subst (motive := fun z => j_V jP _ 216 17 _ (.int z :: [.int x1, .ref 359]) h Q) (show ((if (m_of w x1 6) = 0 then 0 else 1) : Int32) = 0 from (if_pos c9_0).trans (rfl)) (kk _ L)
  refine j_V.ldL me2_M me2_17 rfl (i := 0) (kd := 2) (v := .ref 359) (pcJ := 18) rfl L rfl rfl rfl ?_
  refine j_V.ldL me2_M me2_18 rfl (i := 1) (kd := 0) (v := .int x1) (pcJ := 19) rfl L rfl rfl rfl ?_
  refine j_V.one me2_M me2_19 (by decide) (pcJ := 21) (stJ := [.int 6, .int x1, .ref 359, .int ((if (m_of w x1 6) = 0 then 0 else 1) : Int32), .int x1, .ref 359]) rfl ?_
  refine j_V.cl me2_M me2_21 rfl (md := 3) (mj := 178) rfl (by decide) ma3_M (As := [.ref 359, .int x1, .int 6]) (rest := [.int ((if (m_of w x1 6) = 0 then 0 else 1) : Int32), .int x1, .ref 359]) (jk_spl3 (K.at rfl) rfl rfl rfl (Nat.le_of_ble_eq_true rfl) (Nat.le_of_ble_eq_true rfl)) (fun d => ma3_ok (K.fi [359, 360] rfl rfl)) ?_
  rintro r hz ⟨rfl, ez⟩
  rw [ez]
  clear ez
  show j_V jP _ 216 24 lv [.int (m_of w x1 6), .int ((if (m_of w x1 6) = 0 then 0 else 1) : Int32), .int x1, .ref 359] h _
  refine j_V.cut (b := 43) (stJ := [.int ((if (m_of w x1 6) = 0 then (m_of w x1 1) else (m_of w x1 7)) : Int32), .int ((if (m_of w x1 6) = 0 then 0 else 1) : Int32), .int x1, .ref 359]) (fun v => [(0, .ref 359), (1, .int x1)]) ((if (m_of w x1 6) = 0 then (m_of w x1 1) else (m_of w x1 7)) : Int32) (fun Q kk => ?_) (fun lv L => ?_)
  · refine j_V.ifc me2_M me2_24 (t := 36) rfl (fun c24_0 => ?_) (fun c24_0 => ?_)
    · replace c24_0 : ¬ ((m_of w x1 6) = 0) := jd_ne c24_0
      refine j_V.ldL me2_M me2_36 rfl (i := 0) (kd := 2) (v := .ref 359) (pcJ := 37) rfl L rfl rfl rfl ?_
      refine j_V.ldL me2_M me2_37 rfl (i := 1) (kd := 0) (v := .int x1) (pcJ := 38) rfl L rfl rfl rfl ?_
      refine j_V.one me2_M me2_38 (by decide) (pcJ := 40) (stJ := [.int 7, .int x1, .ref 359, .int ((if (m_of w x1 6) = 0 then 0 else 1) : Int32), .int x1, .ref 359]) rfl ?_
      refine j_V.cl me2_M me2_40 rfl (md := 3) (mj := 178) rfl (by decide) ma3_M (As := [.ref 359, .int x1, .int 7]) (rest := [.int ((if (m_of w x1 6) = 0 then 0 else 1) : Int32), .int x1, .ref 359]) (jk_spl3 (K.at rfl) rfl rfl rfl (Nat.le_of_ble_eq_true rfl) (Nat.le_of_ble_eq_true rfl)) (fun d => ma3_ok (K.fi [359, 360] rfl rfl)) ?_
      rintro r hz ⟨rfl, ez⟩
      rw [ez]
      clear ez
      show j_V jP _ 216 43 lv [.int (m_of w x1 7), .int ((if (m_of w x1 6) = 0 then 0 else 1) : Int32), .int x1, .ref 359] h _
      exact Eq.subst (motive := fun z => j_V jP _ 216 43 _ (.int z :: [.int ((if (m_of w x1 6) = 0 then 0 else 1) : Int32), .int x1, .ref 359]) h Q) (show ((if (m_of w x1 6) = 0 then (m_of w x1 1) else (m_of w x1 7)) : Int32) = (m_of w x1 7) from (if_neg c24_0).trans (rfl)) (kk _ L)
    · replace c24_0 : (m_of w x1 6) = 0 := jd_nen c24_0
      refine j_V.ldL me2_M me2_27 rfl (i := 0) (kd := 2) (v := .ref 359) (pcJ := 28) rfl L rfl rfl rfl ?_
      refine j_V.ldL me2_M me2_28 rfl (i := 1) (kd := 0) (v := .int x1) (pcJ := 29) rfl L rfl rfl rfl ?_
      refine j_V.one me2_M me2_29 (by decide) (pcJ := 30) (stJ := [.int 1, .int x1, .ref 359, .int ((if (m_of w x1 6) = 0 then 0 else 1) : Int32), .int x1, .ref 359]) rfl ?_
      refine j_V.cl me2_M me2_30 rfl (md := 3) (mj := 178) rfl (by decide) ma3_M (As := [.ref 359, .int x1, .int 1]) (rest := [.int ((if (m_of w x1 6) = 0 then 0 else 1) : Int32), .int x1, .ref 359]) (jk_spl3 (K.at rfl) rfl rfl rfl (Nat.le_of_ble_eq_true rfl) (Nat.le_of_ble_eq_true rfl)) (fun d => ma3_ok (K.fi [359, 360] rfl rfl)) ?_
      rintro r hz ⟨rfl, ez⟩
      rw [ez]
      clear ez
      show j_V jP _ 216 33 lv [.int (m_of w x1 1), .int ((if (m_of w x1 6) = 0 then 0 else 1) : Int32), .int x1, .ref 359] h _
      refine j_V.gto me2_M me2_33 (t := 43) rfl ?_
      exact Eq.subst (motive := fun z => j_V jP _ 216 43 _ (.int z :: [.int ((if (m_of w x1 6) = 0 then 0 else 1) : Int32), .int x1, .ref 359]) h Q) (show ((if (m_of w x1 6) = 0 then (m_of w x1 1) else (m_of w x1 7)) : Int32) = (m_of w x1 1) from (if_pos c24_0).trans (rfl)) (kk _ L)
  refine j_V.cl me2_M me2_43 rfl (md := 3) (mj := 215) rfl (by decide) me1_M (As := [.ref 359, .int x1, .int ((if (m_of w x1 6) = 0 then 0 else 1) : Int32), .int ((if (m_of w x1 6) = 0 then (m_of w x1 1) else (m_of w x1 7)) : Int32)]) (rest := []) (jk_spl3 (K.at rfl) rfl rfl rfl (Nat.le_of_ble_eq_true rfl) (Nat.le_of_ble_eq_true rfl)) (fun d => me1_ok (K.fi [359, 360] rfl rfl)) ?_
  rintro r h9 ⟨rfl, K9⟩
  generalize ez1 : (m_event w x1 ((if (m_of w x1 6) = 0 then 0 else 1) : Int32) ((if (m_of w x1 6) = 0 then (m_of w x1 1) else (m_of w x1 7)) : Int32)) = z1 at K9 ⊢
  have K : KN h9 [(359, .inl (10, [(u 0), .ref 360, .ref 361, .ref 362, .ref 363, .ref 364, .ref 365, .ref 366, .ref 367, (u 9), (u 10), (u 11), (u 12), (u 13), (u 14), (u 15), (u 16), (u 17), (u 18), (u 19), (u 20), (u 21), .ref 368, (u 23), .ref 369, .ref 370, .ref 371, (u 27)])), (360, .inr (.inl (0, z1)))] h0 := K.mg K9 rfl rfl
  clear K9
  show j_V jP _ 216 46 lv [] h9 _
  refine j_V.ldL me2_M me2_46 rfl (i := 0) (kd := 2) (v := .ref 359) (pcJ := 47) rfl L rfl rfl rfl ?_
  refine j_V.ldL me2_M me2_47 rfl (i := 1) (kd := 0) (v := .int x1) (pcJ := 48) rfl L rfl rfl rfl ?_
  refine j_V.one me2_M me2_48 (by decide) (pcJ := 50) (stJ := [.int 6, .int x1, .ref 359]) rfl ?_
  refine j_V.cl me2_M me2_50 rfl (md := 3) (mj := 178) rfl (by decide) ma3_M (As := [.ref 359, .int x1, .int 6]) (rest := []) (jk_spl3 (K.at rfl) rfl rfl rfl (Nat.le_of_ble_eq_true rfl) (Nat.le_of_ble_eq_true rfl)) (fun d => ma3_ok (K.fi [359, 360] rfl rfl)) ?_
  rintro r hz ⟨rfl, ez⟩
  rw [ez]
  clear ez
  show j_V jP _ 216 53 lv [.int (m_of z1 x1 6)] h9 _
  refine j_V.ifc me2_M me2_53 (t := 118) rfl (fun c53_0 => ?_) (fun c53_0 => ?_)
  · replace c53_0 : ¬ ((m_of z1 x1 6) = 0) := jd_ne c53_0
    refine j_V.ldL me2_M me2_118 rfl (i := 0) (kd := 2) (v := .ref 359) (pcJ := 119) rfl L rfl rfl rfl ?_
    refine j_V.ldL me2_M me2_119 rfl (i := 1) (kd := 0) (v := .int x1) (pcJ := 120) rfl L rfl rfl rfl ?_
    refine j_V.cl me2_M me2_120 rfl (md := 3) (mj := 209) rfl (by decide) mb0_M (As := [.ref 359, .int x1]) (rest := []) (jk_spl3 (K.at rfl) rfl rfl rfl (Nat.le_of_ble_eq_true rfl) (Nat.le_of_ble_eq_true rfl)) (fun d => mb0_ok (K.fi [359, 360] rfl rfl)) ?_
    rintro r hz ⟨rfl, ez⟩
    rw [ez]
    clear ez
    show j_V jP _ 216 123 lv [.int (m_sectionOf z1 x1)] h9 _
    refine j_V.stL me2_M me2_123 rfl (i := 2) (kd := 0) (kl' := [(0, .ref 359), (1, .int x1), (2, .int (m_sectionOf z1 x1))]) (pcJ := 124) rfl L rfl (by decide) rfl rfl rfl (fun lv L => ?_)
    refine j_V.ldL me2_M me2_124 rfl (i := 0) (kd := 2) (v := .ref 359) (pcJ := 125) rfl L rfl rfl rfl ?_
    refine j_V.ldL me2_M me2_125 rfl (i := 1) (kd := 0) (v := .int x1) (pcJ := 126) rfl L rfl rfl rfl ?_
    refine j_V.one me2_M me2_126 (by decide) (pcJ := 128) (stJ := [.int 8, .int x1, .ref 359]) rfl ?_
    refine j_V.ldL me2_M me2_128 rfl (i := 0) (kd := 2) (v := .ref 359) (pcJ := 129) rfl L rfl rfl rfl ?_
    refine j_V.ldL me2_M me2_129 rfl (i := 1) (kd := 0) (v := .int x1) (pcJ := 130) rfl L rfl rfl rfl ?_
    refine j_V.cl me2_M me2_130 rfl (md := 3) (mj := 204) rfl (by decide) ma5_M (As := [.ref 359, .int x1]) (rest := [.int 8, .int x1, .ref 359]) (jk_spl3 (K.at rfl) rfl rfl rfl (Nat.le_of_ble_eq_true rfl) (Nat.le_of_ble_eq_true rfl)) (fun d => ma5_ok (K.fi [359, 360] rfl rfl)) ?_
    rintro r hz ⟨rfl, ez⟩
    rw [ez]
    clear ez
    show j_V jP _ 216 133 lv [.int (m_next z1 x1), .int 8, .int x1, .ref 359] h9 _
    refine j_V.ldL me2_M me2_133 rfl (i := 0) (kd := 2) (v := .ref 359) (pcJ := 134) rfl L rfl rfl rfl ?_
    refine j_V.ldL me2_M me2_134 rfl (i := 1) (kd := 0) (v := .int x1) (pcJ := 135) rfl L rfl rfl rfl ?_
    refine j_V.one me2_M me2_135 (by decide) (pcJ := 136) (stJ := [.int 2, .int x1, .ref 359, .int (m_next z1 x1), .int 8, .int x1, .ref 359]) rfl ?_
    refine j_V.cl me2_M me2_136 rfl (md := 3) (mj := 178) rfl (by decide) ma3_M (As := [.ref 359, .int x1, .int 2]) (rest := [.int (m_next z1 x1), .int 8, .int x1, .ref 359]) (jk_spl3 (K.at rfl) rfl rfl rfl (Nat.le_of_ble_eq_true rfl) (Nat.le_of_ble_eq_true rfl)) (fun d => ma3_ok (K.fi [359, 360] rfl rfl)) ?_
    rintro r hz ⟨rfl, ez⟩
    rw [ez]
    clear ez
    show j_V jP _ 216 139 lv [.int (m_of z1 x1 2), .int (m_next z1 x1), .int 8, .int x1, .ref 359] h9 _
    refine j_V.cut (b := 156) (stJ := [.int ((if (m_next z1 x1) = (m_of z1 x1 2) then (-1) else (m_trackFor z1 x1 (m_next z1 x1))) : Int32), .int 8, .int x1, .ref 359]) (fun v => [(0, .ref 359), (1, .int x1), (2, .int (m_sectionOf z1 x1))]) ((if (m_next z1 x1) = (m_of z1 x1 2) then (-1) else (m_trackFor z1 x1 (m_next z1 x1))) : Int32) (fun Q kk => ?_) (fun lv L => ?_)
    · refine j_V.icmp me2_M me2_139 (t := 146) rfl (fun c139_0 => ?_) (fun c139_0 => ?_)
      · replace c139_0 : ¬ ((m_next z1 x1) = (m_of z1 x1 2)) := jd_ne c139_0
        refine j_V.ldL me2_M me2_146 rfl (i := 0) (kd := 2) (v := .ref 359) (pcJ := 147) rfl L rfl rfl rfl ?_
        refine j_V.ldL me2_M me2_147 rfl (i := 1) (kd := 0) (v := .int x1) (pcJ := 148) rfl L rfl rfl rfl ?_
        refine j_V.ldL me2_M me2_148 rfl (i := 0) (kd := 2) (v := .ref 359) (pcJ := 149) rfl L rfl rfl rfl ?_
        refine j_V.ldL me2_M me2_149 rfl (i := 1) (kd := 0) (v := .int x1) (pcJ := 150) rfl L rfl rfl rfl ?_
        refine j_V.cl me2_M me2_150 rfl (md := 3) (mj := 204) rfl (by decide) ma5_M (As := [.ref 359, .int x1]) (rest := [.int x1, .ref 359, .int 8, .int x1, .ref 359]) (jk_spl3 (K.at rfl) rfl rfl rfl (Nat.le_of_ble_eq_true rfl) (Nat.le_of_ble_eq_true rfl)) (fun d => ma5_ok (K.fi [359, 360] rfl rfl)) ?_
        rintro r hz ⟨rfl, ez⟩
        rw [ez]
        clear ez
        show j_V jP _ 216 153 lv [.int (m_next z1 x1), .int x1, .ref 359, .int 8, .int x1, .ref 359] h9 _
        refine j_V.cl me2_M me2_153 rfl (md := 3) (mj := 208) rfl (by decide) ma9_M (As := [.ref 359, .int x1, .int (m_next z1 x1)]) (rest := [.int 8, .int x1, .ref 359]) (jk_spl3 (K.at rfl) rfl rfl rfl (Nat.le_of_ble_eq_true rfl) (Nat.le_of_ble_eq_true rfl)) (fun d => ma9_ok (K.fi [359, 360] rfl rfl)) ?_
        rintro r hz ⟨rfl, ez⟩
        rw [ez]
        clear ez
        show j_V jP _ 216 156 lv [.int (m_trackFor z1 x1 (m_next z1 x1)), .int 8, .int x1, .ref 359] h9 _
        exact Eq.subst (motive := fun z => j_V jP _ 216 156 _ (.int z :: [.int 8, .int x1, .ref 359]) h9 Q) (show ((if (m_next z1 x1) = (m_of z1 x1 2) then (-1) else (m_trackFor z1 x1 (m_next z1 x1))) : Int32) = (m_trackFor z1 x1 (m_next z1 x1)) from (if_neg c139_0).trans (rfl)) (kk _ L)
      · replace c139_0 : (m_next z1 x1) = (m_of z1 x1 2) := jd_nen c139_0
        refine j_V.one me2_M me2_142 (by decide) (pcJ := 143) (stJ := [.int (-1), .int 8, .int x1, .ref 359]) rfl ?_
        refine j_V.gto me2_M me2_143 (t := 156) rfl ?_
        exact Eq.subst (motive := fun z => j_V jP _ 216 156 _ (.int z :: [.int 8, .int x1, .ref 359]) h9 Q) (show ((if (m_next z1 x1) = (m_of z1 x1 2) then (-1) else (m_trackFor z1 x1 (m_next z1 x1))) : Int32) = (-1) from (if_pos c139_0).trans (rfl)) (kk _ L)
    refine j_V.cl me2_M me2_156 rfl (md := 3) (mj := 179) rfl (by decide) me0_M (As := [.ref 359, .int x1, .int 8, .int ((if (m_next z1 x1) = (m_of z1 x1 2) then (-1) else (m_trackFor z1 x1 (m_next z1 x1))) : Int32)]) (rest := []) (jk_spl3 (K.at rfl) rfl rfl rfl (Nat.le_of_ble_eq_true rfl) (Nat.le_of_ble_eq_true rfl)) (fun d => me0_ok (K.fi [359, 360] rfl rfl)) ?_
    rintro r h9 ⟨rfl, K9⟩
    generalize ez2 : (m_puts z1 x1 8 ((if (m_next z1 x1) = (m_of z1 x1 2) then (-1) else (m_trackFor z1 x1 (m_next z1 x1))) : Int32)) = z2 at K9 ⊢
    have K : KN h9 [(359, .inl (10, [(u 0), .ref 360, .ref 361, .ref 362, .ref 363, .ref 364, .ref 365, .ref 366, .ref 367, (u 9), (u 10), (u 11), (u 12), (u 13), (u 14), (u 15), (u 16), (u 17), (u 18), (u 19), (u 20), (u 21), .ref 368, (u 23), .ref 369, .ref 370, .ref 371, (u 27)])), (360, .inr (.inl (0, z2)))] h0 := K.mg K9 rfl rfl
    clear K9
    show j_V jP _ 216 159 lv [] h9 _
    refine j_V.ldL me2_M me2_159 rfl (i := 0) (kd := 2) (v := .ref 359) (pcJ := 160) rfl L rfl rfl rfl ?_
    refine j_V.ldL me2_M me2_160 rfl (i := 1) (kd := 0) (v := .int x1) (pcJ := 161) rfl L rfl rfl rfl ?_
    refine j_V.one me2_M me2_161 (by decide) (pcJ := 163) (stJ := [.int 6, .int x1, .ref 359]) rfl ?_
    refine j_V.one me2_M me2_163 (by decide) (pcJ := 164) (stJ := [.int 2, .int 6, .int x1, .ref 359]) rfl ?_
    refine j_V.cl me2_M me2_164 rfl (md := 3) (mj := 179) rfl (by decide) me0_M (As := [.ref 359, .int x1, .int 6, .int 2]) (rest := []) (jk_spl3 (K.at rfl) rfl rfl rfl (Nat.le_of_ble_eq_true rfl) (Nat.le_of_ble_eq_true rfl)) (fun d => me0_ok (K.fi [359, 360] rfl rfl)) ?_
    rintro r h9 ⟨rfl, K9⟩
    generalize ez3 : (m_puts z2 x1 6 2) = z3 at K9 ⊢
    have K : KN h9 [(359, .inl (10, [(u 0), .ref 360, .ref 361, .ref 362, .ref 363, .ref 364, .ref 365, .ref 366, .ref 367, (u 9), (u 10), (u 11), (u 12), (u 13), (u 14), (u 15), (u 16), (u 17), (u 18), (u 19), (u 20), (u 21), .ref 368, (u 23), .ref 369, .ref 370, .ref 371, (u 27)])), (360, .inr (.inl (0, z3)))] h0 := K.mg K9 rfl rfl
    clear K9
    show j_V jP _ 216 167 lv [] h9 _
    refine j_V.ldL me2_M me2_167 rfl (i := 0) (kd := 2) (v := .ref 359) (pcJ := 168) rfl L rfl rfl rfl ?_
    refine j_V.ldL me2_M me2_168 rfl (i := 1) (kd := 0) (v := .int x1) (pcJ := 169) rfl L rfl rfl rfl ?_
    refine j_V.one me2_M me2_169 (by decide) (pcJ := 171) (stJ := [.int 9, .int x1, .ref 359]) rfl ?_
    refine j_V.ldL me2_M me2_171 rfl (i := 0) (kd := 2) (v := .ref 359) (pcJ := 172) rfl L rfl rfl rfl ?_
    refine j_V.getK me2_M me2_172 (ci := 10) (j := 1) rfl K rfl rfl ?_
    refine j_V.one me2_M me2_175 (by decide) (pcJ := 178) (stJ := [.int 201, .ref 360, .int 9, .int x1, .ref 359]) rfl ?_
    refine j_V.iaA me2_M me2_178 K rfl ?_
    refine j_V.ldL me2_M me2_179 rfl (i := 0) (kd := 2) (v := .ref 359) (pcJ := 180) rfl L rfl rfl rfl ?_
    refine j_V.ldL me2_M me2_180 rfl (i := 1) (kd := 0) (v := .int x1) (pcJ := 181) rfl L rfl rfl rfl ?_
    refine j_V.ldL me2_M me2_181 rfl (i := 2) (kd := 0) (v := .int (m_sectionOf z1 x1)) (pcJ := 182) rfl L rfl rfl rfl ?_
    refine j_V.cl me2_M me2_182 rfl (md := 3) (mj := 211) rfl (by decide) mb2_M (As := [.ref 359, .int x1, .int (m_sectionOf z1 x1)]) (rest := [.int (gA z3 201), .int 9, .int x1, .ref 359]) (jk_spl3 (K.at rfl) rfl rfl rfl (Nat.le_of_ble_eq_true rfl) (Nat.le_of_ble_eq_true rfl)) (fun d => mb2_ok (K.fi [359, 360] rfl rfl)) ?_
    rintro r hz ⟨rfl, ez⟩
    rw [ez]
    clear ez
    show j_V jP _ 216 185 lv [.int (m_runOf z3 x1 (m_sectionOf z1 x1)), .int (gA z3 201), .int 9, .int x1, .ref 359] h9 _
    refine j_V.one me2_M me2_185 (by decide) (pcJ := 186) (stJ := [.int ((gA z3 201) + (m_runOf z3 x1 (m_sectionOf z1 x1))), .int 9, .int x1, .ref 359]) rfl ?_
    refine j_V.cl me2_M me2_186 rfl (md := 3) (mj := 179) rfl (by decide) me0_M (As := [.ref 359, .int x1, .int 9, .int ((gA z3 201) + (m_runOf z3 x1 (m_sectionOf z1 x1)))]) (rest := []) (jk_spl3 (K.at rfl) rfl rfl rfl (Nat.le_of_ble_eq_true rfl) (Nat.le_of_ble_eq_true rfl)) (fun d => me0_ok (K.fi [359, 360] rfl rfl)) ?_
    rintro r h9 ⟨rfl, K9⟩
    generalize ez4 : (m_puts z3 x1 9 ((gA z3 201) + (m_runOf z3 x1 (m_sectionOf z1 x1)))) = z4 at K9 ⊢
    have K : KN h9 [(359, .inl (10, [(u 0), .ref 360, .ref 361, .ref 362, .ref 363, .ref 364, .ref 365, .ref 366, .ref 367, (u 9), (u 10), (u 11), (u 12), (u 13), (u 14), (u 15), (u 16), (u 17), (u 18), (u 19), (u 20), (u 21), .ref 368, (u 23), .ref 369, .ref 370, .ref 371, (u 27)])), (360, .inr (.inl (0, z4)))] h0 := K.mg K9 rfl rfl
    clear K9
    show j_V jP _ 216 189 lv [] h9 _
    refine j_V.ldL me2_M me2_189 rfl (i := 0) (kd := 2) (v := .ref 359) (pcJ := 190) rfl L rfl rfl rfl ?_
    refine j_V.ldL me2_M me2_190 rfl (i := 1) (kd := 0) (v := .int x1) (pcJ := 191) rfl L rfl rfl rfl ?_
    refine j_V.one me2_M me2_191 (by decide) (pcJ := 193) (stJ := [.int 20, .int x1, .ref 359]) rfl ?_
    refine j_V.ldL me2_M me2_193 rfl (i := 0) (kd := 2) (v := .ref 359) (pcJ := 194) rfl L rfl rfl rfl ?_
    refine j_V.ldL me2_M me2_194 rfl (i := 1) (kd := 0) (v := .int x1) (pcJ := 195) rfl L rfl rfl rfl ?_
    refine j_V.one me2_M me2_195 (by decide) (pcJ := 197) (stJ := [.int 7, .int x1, .ref 359, .int 20, .int x1, .ref 359]) rfl ?_
    refine j_V.cl me2_M me2_197 rfl (md := 3) (mj := 178) rfl (by decide) ma3_M (As := [.ref 359, .int x1, .int 7]) (rest := [.int 20, .int x1, .ref 359]) (jk_spl3 (K.at rfl) rfl rfl rfl (Nat.le_of_ble_eq_true rfl) (Nat.le_of_ble_eq_true rfl)) (fun d => ma3_ok (K.fi [359, 360] rfl rfl)) ?_
    rintro r hz ⟨rfl, ez⟩
    rw [ez]
    clear ez
    show j_V jP _ 216 200 lv [.int (m_of z4 x1 7), .int 20, .int x1, .ref 359] h9 _
    refine j_V.one me2_M me2_200 (by decide) (pcJ := 201) (stJ := [.int (20 + (m_of z4 x1 7)), .int x1, .ref 359]) rfl ?_
    refine j_V.ldL me2_M me2_201 rfl (i := 0) (kd := 2) (v := .ref 359) (pcJ := 202) rfl L rfl rfl rfl ?_
    refine j_V.getK me2_M me2_202 (ci := 10) (j := 1) rfl K rfl rfl ?_
    refine j_V.one me2_M me2_205 (by decide) (pcJ := 208) (stJ := [.int 201, .ref 360, .int (20 + (m_of z4 x1 7)), .int x1, .ref 359]) rfl ?_
    refine j_V.iaA me2_M me2_208 K rfl ?_
    refine j_V.cl me2_M me2_209 rfl (md := 3) (mj := 179) rfl (by decide) me0_M (As := [.ref 359, .int x1, .int (20 + (m_of z4 x1 7)), .int (gA z4 201)]) (rest := []) (jk_spl3 (K.at rfl) rfl rfl rfl (Nat.le_of_ble_eq_true rfl) (Nat.le_of_ble_eq_true rfl)) (fun d => me0_ok (K.fi [359, 360] rfl rfl)) ?_
    rintro r h9 ⟨rfl, K9⟩
    generalize ez5 : (m_puts z4 x1 (20 + (m_of z4 x1 7)) (gA z4 201)) = z5 at K9 ⊢
    have K : KN h9 [(359, .inl (10, [(u 0), .ref 360, .ref 361, .ref 362, .ref 363, .ref 364, .ref 365, .ref 366, .ref 367, (u 9), (u 10), (u 11), (u 12), (u 13), (u 14), (u 15), (u 16), (u 17), (u 18), (u 19), (u 20), (u 21), .ref 368, (u 23), .ref 369, .ref 370, .ref 371, (u 27)])), (360, .inr (.inl (0, z5)))] h0 := K.mg K9 rfl rfl
    clear K9
    show j_V jP _ 216 212 lv [] h9 _
    refine j_V.ldL me2_M me2_212 rfl (i := 0) (kd := 2) (v := .ref 359) (pcJ := 213) rfl L rfl rfl rfl ?_
    refine j_V.getK me2_M me2_213 (ci := 10) (j := 1) rfl K rfl rfl ?_
    refine j_V.one me2_M me2_216 (by decide) (pcJ := 219) (stJ := [.int 216, .ref 360]) rfl ?_
    refine j_V.one me2_M me2_219 (by decide) (pcJ := 220) (stJ := [.int 5, .int 216, .ref 360]) rfl ?_
    refine j_V.ldL me2_M me2_220 rfl (i := 2) (kd := 0) (v := .int (m_sectionOf z1 x1)) (pcJ := 221) rfl L rfl rfl rfl ?_
    refine j_V.one me2_M me2_221 (by decide) (pcJ := 222) (stJ := [.int (5 * (m_sectionOf z1 x1)), .int 216, .ref 360]) rfl ?_
    refine j_V.one me2_M me2_222 (by decide) (pcJ := 223) (stJ := [.int (216 + (5 * (m_sectionOf z1 x1))), .ref 360]) rfl ?_
    refine j_V.ldL me2_M me2_223 rfl (i := 0) (kd := 2) (v := .ref 359) (pcJ := 224) rfl L rfl rfl rfl ?_
    refine j_V.getK me2_M me2_224 (ci := 10) (j := 1) rfl K rfl rfl ?_
    refine j_V.one me2_M me2_227 (by decide) (pcJ := 230) (stJ := [.int 210, .ref 360, .int (216 + (5 * (m_sectionOf z1 x1))), .ref 360]) rfl ?_
    refine j_V.ldL me2_M me2_230 rfl (i := 2) (kd := 0) (v := .int (m_sectionOf z1 x1)) (pcJ := 231) rfl L rfl rfl rfl ?_
    refine j_V.one me2_M me2_231 (by decide) (pcJ := 232) (stJ := [.int (210 + (m_sectionOf z1 x1)), .ref 360, .int (216 + (5 * (m_sectionOf z1 x1))), .ref 360]) rfl ?_
    refine j_V.iaA me2_M me2_232 K rfl ?_
    refine j_V.one me2_M me2_233 (by decide) (pcJ := 234) (stJ := [.int ((216 + (5 * (m_sectionOf z1 x1))) + (gA z5 (210 + (m_sectionOf z1 x1)))), .ref 360]) rfl ?_
    refine j_V.ldL me2_M me2_234 rfl (i := 1) (kd := 0) (v := .int x1) (pcJ := 235) rfl L rfl rfl rfl ?_
    refine j_V.isA me2_M me2_235 (k' := [(359, .inl (10, [(u 0), .ref 360, .ref 361, .ref 362, .ref 363, .ref 364, .ref 365, .ref 366, .ref 367, (u 9), (u 10), (u 11), (u 12), (u 13), (u 14), (u 15), (u 16), (u 17), (u 18), (u 19), (u 20), (u 21), .ref 368, (u 23), .ref 369, .ref 370, .ref 371, (u 27)])), (360, .inr (.inl (0, (sA z5 ((216 + (5 * (m_sectionOf z1 x1))) + (gA z5 (210 + (m_sectionOf z1 x1)))) x1))))]) K rfl rfl (fun h K => ?_)
    obtain ⟨w1, ew1⟩ : ∃ z, z = (sA z5 ((216 + (5 * (m_sectionOf z1 x1))) + (gA z5 (210 + (m_sectionOf z1 x1)))) x1) := ⟨_, rfl⟩
    rw [← ew1] at K
    refine j_V.ldL me2_M me2_236 rfl (i := 0) (kd := 2) (v := .ref 359) (pcJ := 237) rfl L rfl rfl rfl ?_
    refine j_V.getK me2_M me2_237 (ci := 10) (j := 1) rfl K rfl rfl ?_
    refine j_V.one me2_M me2_240 (by decide) (pcJ := 243) (stJ := [.int 210, .ref 360]) rfl ?_
    refine j_V.ldL me2_M me2_243 rfl (i := 2) (kd := 0) (v := .int (m_sectionOf z1 x1)) (pcJ := 244) rfl L rfl rfl rfl ?_
    refine j_V.one me2_M me2_244 (by decide) (pcJ := 245) (stJ := [.int (210 + (m_sectionOf z1 x1)), .ref 360]) rfl ?_
    refine j_V.one me2_M me2_245 (by decide) (pcJ := 246) (stJ := [.int (210 + (m_sectionOf z1 x1)), .ref 360, .int (210 + (m_sectionOf z1 x1)), .ref 360]) rfl ?_
    refine j_V.iaA me2_M me2_246 K rfl ?_
    refine j_V.one me2_M me2_247 (by decide) (pcJ := 248) (stJ := [.int 1, .int (gA w1 (210 + (m_sectionOf z1 x1))), .int (210 + (m_sectionOf z1 x1)), .ref 360]) rfl ?_
    refine j_V.one me2_M me2_248 (by decide) (pcJ := 249) (stJ := [.int ((gA w1 (210 + (m_sectionOf z1 x1))) + 1), .int (210 + (m_sectionOf z1 x1)), .ref 360]) rfl ?_
    refine j_V.isA me2_M me2_249 (k' := [(359, .inl (10, [(u 0), .ref 360, .ref 361, .ref 362, .ref 363, .ref 364, .ref 365, .ref 366, .ref 367, (u 9), (u 10), (u 11), (u 12), (u 13), (u 14), (u 15), (u 16), (u 17), (u 18), (u 19), (u 20), (u 21), .ref 368, (u 23), .ref 369, .ref 370, .ref 371, (u 27)])), (360, .inr (.inl (0, (sA w1 (210 + (m_sectionOf z1 x1)) ((gA w1 (210 + (m_sectionOf z1 x1))) + 1)))))]) K rfl rfl (fun h K => ?_)
    obtain ⟨w2, ew2⟩ : ∃ z, z = (sA w1 (210 + (m_sectionOf z1 x1)) ((gA w1 (210 + (m_sectionOf z1 x1))) + 1)) := ⟨_, rfl⟩
    rw [← ew2] at K
    subst ew2
    subst ew1
    subst ez5
    subst ez4
    subst ez3
    subst ez2
    subst ez1
    refine j_V.ret me2_M me2_250 rfl rfl ?_
    rw [show (m_sets w x1) = _ from ((if_neg c53_0).trans (rfl))]
    exact ⟨rfl, K⟩
  · replace c53_0 : (m_of z1 x1 6) = 0 := jd_nen c53_0
    refine j_V.ldL me2_M me2_56 rfl (i := 0) (kd := 2) (v := .ref 359) (pcJ := 57) rfl L rfl rfl rfl ?_
    refine j_V.ldL me2_M me2_57 rfl (i := 1) (kd := 0) (v := .int x1) (pcJ := 58) rfl L rfl rfl rfl ?_
    refine j_V.one me2_M me2_58 (by decide) (pcJ := 60) (stJ := [.int 8, .int x1, .ref 359]) rfl ?_
    refine j_V.ldL me2_M me2_60 rfl (i := 0) (kd := 2) (v := .ref 359) (pcJ := 61) rfl L rfl rfl rfl ?_
    refine j_V.ldL me2_M me2_61 rfl (i := 1) (kd := 0) (v := .int x1) (pcJ := 62) rfl L rfl rfl rfl ?_
    refine j_V.ldL me2_M me2_62 rfl (i := 0) (kd := 2) (v := .ref 359) (pcJ := 63) rfl L rfl rfl rfl ?_
    refine j_V.ldL me2_M me2_63 rfl (i := 1) (kd := 0) (v := .int x1) (pcJ := 64) rfl L rfl rfl rfl ?_
    refine j_V.one me2_M me2_64 (by decide) (pcJ := 65) (stJ := [.int 1, .int x1, .ref 359, .int x1, .ref 359, .int 8, .int x1, .ref 359]) rfl ?_
    refine j_V.cl me2_M me2_65 rfl (md := 3) (mj := 178) rfl (by decide) ma3_M (As := [.ref 359, .int x1, .int 1]) (rest := [.int x1, .ref 359, .int 8, .int x1, .ref 359]) (jk_spl3 (K.at rfl) rfl rfl rfl (Nat.le_of_ble_eq_true rfl) (Nat.le_of_ble_eq_true rfl)) (fun d => ma3_ok (K.fi [359, 360] rfl rfl)) ?_
    rintro r hz ⟨rfl, ez⟩
    rw [ez]
    clear ez
    show j_V jP _ 216 68 lv [.int (m_of z1 x1 1), .int x1, .ref 359, .int 8, .int x1, .ref 359] h9 _
    refine j_V.cl me2_M me2_68 rfl (md := 3) (mj := 208) rfl (by decide) ma9_M (As := [.ref 359, .int x1, .int (m_of z1 x1 1)]) (rest := [.int 8, .int x1, .ref 359]) (jk_spl3 (K.at rfl) rfl rfl rfl (Nat.le_of_ble_eq_true rfl) (Nat.le_of_ble_eq_true rfl)) (fun d => ma9_ok (K.fi [359, 360] rfl rfl)) ?_
    rintro r hz ⟨rfl, ez⟩
    rw [ez]
    clear ez
    show j_V jP _ 216 71 lv [.int (m_trackFor z1 x1 (m_of z1 x1 1)), .int 8, .int x1, .ref 359] h9 _
    refine j_V.cl me2_M me2_71 rfl (md := 3) (mj := 179) rfl (by decide) me0_M (As := [.ref 359, .int x1, .int 8, .int (m_trackFor z1 x1 (m_of z1 x1 1))]) (rest := []) (jk_spl3 (K.at rfl) rfl rfl rfl (Nat.le_of_ble_eq_true rfl) (Nat.le_of_ble_eq_true rfl)) (fun d => me0_ok (K.fi [359, 360] rfl rfl)) ?_
    rintro r h9 ⟨rfl, K9⟩
    generalize ez6 : (m_puts z1 x1 8 (m_trackFor z1 x1 (m_of z1 x1 1))) = z6 at K9 ⊢
    have K : KN h9 [(359, .inl (10, [(u 0), .ref 360, .ref 361, .ref 362, .ref 363, .ref 364, .ref 365, .ref 366, .ref 367, (u 9), (u 10), (u 11), (u 12), (u 13), (u 14), (u 15), (u 16), (u 17), (u 18), (u 19), (u 20), (u 21), .ref 368, (u 23), .ref 369, .ref 370, .ref 371, (u 27)])), (360, .inr (.inl (0, z6)))] h0 := K.mg K9 rfl rfl
    clear K9
    show j_V jP _ 216 74 lv [] h9 _
    refine j_V.ldL me2_M me2_74 rfl (i := 0) (kd := 2) (v := .ref 359) (pcJ := 75) rfl L rfl rfl rfl ?_
    refine j_V.ldL me2_M me2_75 rfl (i := 1) (kd := 0) (v := .int x1) (pcJ := 76) rfl L rfl rfl rfl ?_
    refine j_V.one me2_M me2_76 (by decide) (pcJ := 78) (stJ := [.int 7, .int x1, .ref 359]) rfl ?_
    refine j_V.ldL me2_M me2_78 rfl (i := 0) (kd := 2) (v := .ref 359) (pcJ := 79) rfl L rfl rfl rfl ?_
    refine j_V.ldL me2_M me2_79 rfl (i := 1) (kd := 0) (v := .int x1) (pcJ := 80) rfl L rfl rfl rfl ?_
    refine j_V.one me2_M me2_80 (by decide) (pcJ := 81) (stJ := [.int 1, .int x1, .ref 359, .int 7, .int x1, .ref 359]) rfl ?_
    refine j_V.cl me2_M me2_81 rfl (md := 3) (mj := 178) rfl (by decide) ma3_M (As := [.ref 359, .int x1, .int 1]) (rest := [.int 7, .int x1, .ref 359]) (jk_spl3 (K.at rfl) rfl rfl rfl (Nat.le_of_ble_eq_true rfl) (Nat.le_of_ble_eq_true rfl)) (fun d => ma3_ok (K.fi [359, 360] rfl rfl)) ?_
    rintro r hz ⟨rfl, ez⟩
    rw [ez]
    clear ez
    show j_V jP _ 216 84 lv [.int (m_of z6 x1 1), .int 7, .int x1, .ref 359] h9 _
    refine j_V.cl me2_M me2_84 rfl (md := 3) (mj := 179) rfl (by decide) me0_M (As := [.ref 359, .int x1, .int 7, .int (m_of z6 x1 1)]) (rest := []) (jk_spl3 (K.at rfl) rfl rfl rfl (Nat.le_of_ble_eq_true rfl) (Nat.le_of_ble_eq_true rfl)) (fun d => me0_ok (K.fi [359, 360] rfl rfl)) ?_
    rintro r h9 ⟨rfl, K9⟩
    generalize ez7 : (m_puts z6 x1 7 (m_of z6 x1 1)) = z7 at K9 ⊢
    have K : KN h9 [(359, .inl (10, [(u 0), .ref 360, .ref 361, .ref 362, .ref 363, .ref 364, .ref 365, .ref 366, .ref 367, (u 9), (u 10), (u 11), (u 12), (u 13), (u 14), (u 15), (u 16), (u 17), (u 18), (u 19), (u 20), (u 21), .ref 368, (u 23), .ref 369, .ref 370, .ref 371, (u 27)])), (360, .inr (.inl (0, z7)))] h0 := K.mg K9 rfl rfl
    clear K9
    show j_V jP _ 216 87 lv [] h9 _
    refine j_V.ldL me2_M me2_87 rfl (i := 0) (kd := 2) (v := .ref 359) (pcJ := 88) rfl L rfl rfl rfl ?_
    refine j_V.ldL me2_M me2_88 rfl (i := 1) (kd := 0) (v := .int x1) (pcJ := 89) rfl L rfl rfl rfl ?_
    refine j_V.one me2_M me2_89 (by decide) (pcJ := 91) (stJ := [.int 6, .int x1, .ref 359]) rfl ?_
    refine j_V.one me2_M me2_91 (by decide) (pcJ := 92) (stJ := [.int 1, .int 6, .int x1, .ref 359]) rfl ?_
    refine j_V.cl me2_M me2_92 rfl (md := 3) (mj := 179) rfl (by decide) me0_M (As := [.ref 359, .int x1, .int 6, .int 1]) (rest := []) (jk_spl3 (K.at rfl) rfl rfl rfl (Nat.le_of_ble_eq_true rfl) (Nat.le_of_ble_eq_true rfl)) (fun d => me0_ok (K.fi [359, 360] rfl rfl)) ?_
    rintro r h9 ⟨rfl, K9⟩
    generalize ez8 : (m_puts z7 x1 6 1) = z8 at K9 ⊢
    have K : KN h9 [(359, .inl (10, [(u 0), .ref 360, .ref 361, .ref 362, .ref 363, .ref 364, .ref 365, .ref 366, .ref 367, (u 9), (u 10), (u 11), (u 12), (u 13), (u 14), (u 15), (u 16), (u 17), (u 18), (u 19), (u 20), (u 21), .ref 368, (u 23), .ref 369, .ref 370, .ref 371, (u 27)])), (360, .inr (.inl (0, z8)))] h0 := K.mg K9 rfl rfl
    clear K9
    show j_V jP _ 216 95 lv [] h9 _
    refine j_V.ldL me2_M me2_95 rfl (i := 0) (kd := 2) (v := .ref 359) (pcJ := 96) rfl L rfl rfl rfl ?_
    refine j_V.ldL me2_M me2_96 rfl (i := 1) (kd := 0) (v := .int x1) (pcJ := 97) rfl L rfl rfl rfl ?_
    refine j_V.one me2_M me2_97 (by decide) (pcJ := 99) (stJ := [.int 13, .int x1, .ref 359]) rfl ?_
    refine j_V.ldL me2_M me2_99 rfl (i := 0) (kd := 2) (v := .ref 359) (pcJ := 100) rfl L rfl rfl rfl ?_
    refine j_V.ldL me2_M me2_100 rfl (i := 1) (kd := 0) (v := .int x1) (pcJ := 101) rfl L rfl rfl rfl ?_
    refine j_V.one me2_M me2_101 (by decide) (pcJ := 102) (stJ := [.int 1, .int x1, .ref 359, .int 13, .int x1, .ref 359]) rfl ?_
    refine j_V.cl me2_M me2_102 rfl (md := 3) (mj := 178) rfl (by decide) ma3_M (As := [.ref 359, .int x1, .int 1]) (rest := [.int 13, .int x1, .ref 359]) (jk_spl3 (K.at rfl) rfl rfl rfl (Nat.le_of_ble_eq_true rfl) (Nat.le_of_ble_eq_true rfl)) (fun d => ma3_ok (K.fi [359, 360] rfl rfl)) ?_
    rintro r hz ⟨rfl, ez⟩
    rw [ez]
    clear ez
    show j_V jP _ 216 105 lv [.int (m_of z8 x1 1), .int 13, .int x1, .ref 359] h9 _
    refine j_V.one me2_M me2_105 (by decide) (pcJ := 106) (stJ := [.int (13 + (m_of z8 x1 1)), .int x1, .ref 359]) rfl ?_
    refine j_V.ldL me2_M me2_106 rfl (i := 0) (kd := 2) (v := .ref 359) (pcJ := 107) rfl L rfl rfl rfl ?_
    refine j_V.getK me2_M me2_107 (ci := 10) (j := 1) rfl K rfl rfl ?_
    refine j_V.one me2_M me2_110 (by decide) (pcJ := 113) (stJ := [.int 201, .ref 360, .int (13 + (m_of z8 x1 1)), .int x1, .ref 359]) rfl ?_
    refine j_V.iaA me2_M me2_113 K rfl ?_
    refine j_V.cl me2_M me2_114 rfl (md := 3) (mj := 179) rfl (by decide) me0_M (As := [.ref 359, .int x1, .int (13 + (m_of z8 x1 1)), .int (gA z8 201)]) (rest := []) (jk_spl3 (K.at rfl) rfl rfl rfl (Nat.le_of_ble_eq_true rfl) (Nat.le_of_ble_eq_true rfl)) (fun d => me0_ok (K.fi [359, 360] rfl rfl)) ?_
    rintro r h9 ⟨rfl, K9⟩
    generalize ez9 : (m_puts z8 x1 (13 + (m_of z8 x1 1)) (gA z8 201)) = z9 at K9 ⊢
    have K : KN h9 [(359, .inl (10, [(u 0), .ref 360, .ref 361, .ref 362, .ref 363, .ref 364, .ref 365, .ref 366, .ref 367, (u 9), (u 10), (u 11), (u 12), (u 13), (u 14), (u 15), (u 16), (u 17), (u 18), (u 19), (u 20), (u 21), .ref 368, (u 23), .ref 369, .ref 370, .ref 371, (u 27)])), (360, .inr (.inl (0, z9)))] h0 := K.mg K9 rfl rfl
    clear K9
    show j_V jP _ 216 117 lv [] h9 _
    subst ez9
    subst ez8
    subst ez7
    subst ez6
    subst ez1
    refine j_V.ret me2_M me2_117 rfl rfl ?_
    rw [show (m_sets w x1) = _ from ((if_pos c53_0).trans (rfl))]
    exact ⟨rfl, K⟩
set_option maxRecDepth 100000 in
theorem me3_M : j_meth jP 223 = some (yX10_arrives, cX10_arrives, 4, none, 1, false, 10) := rfl
set_option maxRecDepth 100000 in
theorem me3_0 : j_code jP 223 0 = some (.aload_n 0) := rfl
set_option maxRecDepth 100000 in
theorem me3_1 : j_code jP 223 1 = some (.iload_n 1) := rfl
set_option maxRecDepth 100000 in
theorem me3_2 : j_code jP 223 2 = some (.invokevirtual 204) := rfl
set_option maxRecDepth 100000 in
theorem me3_5 : j_code jP 223 5 = some (.istore_n 2) := rfl
set_option maxRecDepth 100000 in
theorem me3_6 : j_code jP 223 6 = some (.iload_n 2) := rfl
set_option maxRecDepth 100000 in
theorem me3_7 : j_code jP 223 7 = some (.aload_n 0) := rfl
set_option maxRecDepth 100000 in
theorem me3_8 : j_code jP 223 8 = some (.iload_n 1) := rfl
set_option maxRecDepth 100000 in
theorem me3_9 : j_code jP 223 9 = some (.iconst 2) := rfl
set_option maxRecDepth 100000 in
theorem me3_10 : j_code jP 223 10 = some (.invokevirtual 198) := rfl
set_option maxRecDepth 100000 in
theorem me3_13 : j_code jP 223 13 = some (.if_icmp .ne 7) := rfl
set_option maxRecDepth 100000 in
theorem me3_16 : j_code jP 223 16 = some (.iconst 1) := rfl
set_option maxRecDepth 100000 in
theorem me3_17 : j_code jP 223 17 = some (.goto 4) := rfl
set_option maxRecDepth 100000 in
theorem me3_20 : j_code jP 223 20 = some (.iconst 0) := rfl
set_option maxRecDepth 100000 in
theorem me3_21 : j_code jP 223 21 = some (.istore_n 3) := rfl
set_option maxRecDepth 100000 in
theorem me3_22 : j_code jP 223 22 = some (.aload_n 0) := rfl
set_option maxRecDepth 100000 in
theorem me3_23 : j_code jP 223 23 = some (.iload_n 1) := rfl
set_option maxRecDepth 100000 in
theorem me3_24 : j_code jP 223 24 = some (.iconst 2) := rfl
set_option maxRecDepth 100000 in
theorem me3_25 : j_code jP 223 25 = some (.iload_n 2) := rfl
set_option maxRecDepth 100000 in
theorem me3_26 : j_code jP 223 26 = some (.invokevirtual 234) := rfl
set_option maxRecDepth 100000 in
theorem me3_29 : j_code jP 223 29 = some (.aload_n 0) := rfl
set_option maxRecDepth 100000 in
theorem me3_30 : j_code jP 223 30 = some (.iload_n 1) := rfl
set_option maxRecDepth 100000 in
theorem me3_31 : j_code jP 223 31 = some (.bipush 7) := rfl
set_option maxRecDepth 100000 in
theorem me3_33 : j_code jP 223 33 = some (.iload_n 2) := rfl
set_option maxRecDepth 100000 in
theorem me3_34 : j_code jP 223 34 = some (.invokevirtual 238) := rfl
set_option maxRecDepth 100000 in
theorem me3_37 : j_code jP 223 37 = some (.aload_n 0) := rfl
set_option maxRecDepth 100000 in
theorem me3_38 : j_code jP 223 38 = some (.iload_n 1) := rfl
set_option maxRecDepth 100000 in
theorem me3_39 : j_code jP 223 39 = some (.bipush 13) := rfl
set_option maxRecDepth 100000 in
theorem me3_41 : j_code jP 223 41 = some (.iload_n 2) := rfl
set_option maxRecDepth 100000 in
theorem me3_42 : j_code jP 223 42 = some (.iadd) := rfl
set_option maxRecDepth 100000 in
theorem me3_43 : j_code jP 223 43 = some (.aload_n 0) := rfl
set_option maxRecDepth 100000 in
theorem me3_44 : j_code jP 223 44 = some (.getfield 7) := rfl
set_option maxRecDepth 100000 in
theorem me3_47 : j_code jP 223 47 = some (.sipush 201) := rfl
set_option maxRecDepth 100000 in
theorem me3_50 : j_code jP 223 50 = some (.iaload) := rfl
set_option maxRecDepth 100000 in
theorem me3_51 : j_code jP 223 51 = some (.invokevirtual 238) := rfl
set_option maxRecDepth 100000 in
theorem me3_54 : j_code jP 223 54 = some (.aload_n 0) := rfl
set_option maxRecDepth 100000 in
theorem me3_55 : j_code jP 223 55 = some (.iload_n 1) := rfl
set_option maxRecDepth 100000 in
theorem me3_56 : j_code jP 223 56 = some (.bipush 6) := rfl
set_option maxRecDepth 100000 in
theorem me3_58 : j_code jP 223 58 = some (.iload_n 3) := rfl
set_option maxRecDepth 100000 in
theorem me3_59 : j_code jP 223 59 = some (.ifCond .eq 7) := rfl
set_option maxRecDepth 100000 in
theorem me3_62 : j_code jP 223 62 = some (.iconst 3) := rfl
set_option maxRecDepth 100000 in
theorem me3_63 : j_code jP 223 63 = some (.goto 4) := rfl
set_option maxRecDepth 100000 in
theorem me3_66 : j_code jP 223 66 = some (.iconst 1) := rfl
set_option maxRecDepth 100000 in
theorem me3_67 : j_code jP 223 67 = some (.invokevirtual 238) := rfl
set_option maxRecDepth 100000 in
theorem me3_70 : j_code jP 223 70 = some (.iload_n 3) := rfl
set_option maxRecDepth 100000 in
theorem me3_71 : j_code jP 223 71 = some (.ifCond .eq 18) := rfl
set_option maxRecDepth 100000 in
theorem me3_74 : j_code jP 223 74 = some (.aload_n 0) := rfl
set_option maxRecDepth 100000 in
theorem me3_75 : j_code jP 223 75 = some (.iload_n 1) := rfl
set_option maxRecDepth 100000 in
theorem me3_76 : j_code jP 223 76 = some (.bipush 11) := rfl
set_option maxRecDepth 100000 in
theorem me3_78 : j_code jP 223 78 = some (.aload_n 0) := rfl
set_option maxRecDepth 100000 in
theorem me3_79 : j_code jP 223 79 = some (.getfield 7) := rfl
set_option maxRecDepth 100000 in
theorem me3_82 : j_code jP 223 82 = some (.sipush 201) := rfl
set_option maxRecDepth 100000 in
theorem me3_85 : j_code jP 223 85 = some (.iaload) := rfl
set_option maxRecDepth 100000 in
theorem me3_86 : j_code jP 223 86 = some (.invokevirtual 238) := rfl
set_option maxRecDepth 100000 in
theorem me3_89 : j_code jP 223 89 = some (.return_) := rfl
def m_arrives (w : List Int32) (x1 : Int32) : List Int32 := let z1 := (m_event w x1 2 (m_next w x1)); let z2 := (m_puts z1 x1 7 (m_next w x1)); let z3 := (m_puts z2 x1 (13 + (m_next w x1)) (gA z2 201)); let z4 := (m_puts z3 x1 6 ((if ((if (m_next w x1) = (m_of w x1 2) then 1 else 0) : Int32) = 0 then 1 else 3) : Int32)); (if ((if (m_next w x1) = (m_of w x1 2) then 1 else 0) : Int32) = 0 then z4 else let z6 := (m_puts z4 x1 11 (gA z4 201)); z6)
set_option maxRecDepth 1000000 in
theorem me3_ok {u : Nat → Value} {w : List Int32} {x1 : Int32} {d : Nat} {h h0 : J_H} (K : KN h [(359, .inl (10, [(u 0), .ref 360, .ref 361, .ref 362, .ref 363, .ref 364, .ref 365, .ref 366, .ref 367, (u 9), (u 10), (u 11), (u 12), (u 13), (u 14), (u 15), (u 16), (u 17), (u 18), (u 19), (u 20), (u 21), .ref 368, (u 23), .ref 369, .ref 370, .ref 371, (u 27)])), (360, .inr (.inl (0, w)))] h0) : j_V jP d 223 0 (lv_args 0 [.ref 359, .int x1]) [] h (fun rv h' => rv = none ∧ KN h' [(359, .inl (10, [(u 0), .ref 360, .ref 361, .ref 362, .ref 363, .ref 364, .ref 365, .ref 366, .ref 367, (u 9), (u 10), (u 11), (u 12), (u 13), (u 14), (u 15), (u 16), (u 17), (u 18), (u 19), (u 20), (u 21), .ref 368, (u 23), .ref 369, .ref 370, .ref 371, (u 27)])), (360, .inr (.inl (0, (m_arrives w x1))))] h0) := by
  show j_V jP d 223 0 [(0, .ref 359), (1, .int x1)] [] h _
  obtain ⟨lv, elv, L⟩ : ∃ lv, lv = [(0, .ref 359), (1, .int x1)] ∧ LK lv [(0, .ref 359), (1, .int x1)] := ⟨_, rfl, LK.rf⟩
  rw [← elv]
  clear elv
  refine j_V.ldL me3_M me3_0 rfl (i := 0) (kd := 2) (v := .ref 359) (pcJ := 1) rfl L rfl rfl rfl ?_
  refine j_V.ldL me3_M me3_1 rfl (i := 1) (kd := 0) (v := .int x1) (pcJ := 2) rfl L rfl rfl rfl ?_
  refine j_V.cl me3_M me3_2 rfl (md := 3) (mj := 204) rfl (by decide) ma5_M (As := [.ref 359, .int x1]) (rest := []) (jk_spl3 (K.at rfl) rfl rfl rfl (Nat.le_of_ble_eq_true rfl) (Nat.le_of_ble_eq_true rfl)) (fun d => ma5_ok (K.fi [359, 360] rfl rfl)) ?_
  rintro r hz ⟨rfl, ez⟩
  rw [ez]
  clear ez
  show j_V jP _ 223 5 lv [.int (m_next w x1)] h _
  refine j_V.stL me3_M me3_5 rfl (i := 2) (kd := 0) (kl' := [(0, .ref 359), (1, .int x1), (2, .int (m_next w x1))]) (pcJ := 6) rfl L rfl (by decide) rfl rfl rfl (fun lv L => ?_)
  refine j_V.ldL me3_M me3_6 rfl (i := 2) (kd := 0) (v := .int (m_next w x1)) (pcJ := 7) rfl L rfl rfl rfl ?_
  refine j_V.ldL me3_M me3_7 rfl (i := 0) (kd := 2) (v := .ref 359) (pcJ := 8) rfl L rfl rfl rfl ?_
  refine j_V.ldL me3_M me3_8 rfl (i := 1) (kd := 0) (v := .int x1) (pcJ := 9) rfl L rfl rfl rfl ?_
  refine j_V.one me3_M me3_9 (by decide) (pcJ := 10) (stJ := [.int 2, .int x1, .ref 359, .int (m_next w x1)]) rfl ?_
  refine j_V.cl me3_M me3_10 rfl (md := 3) (mj := 178) rfl (by decide) ma3_M (As := [.ref 359, .int x1, .int 2]) (rest := [.int (m_next w x1)]) (jk_spl3 (K.at rfl) rfl rfl rfl (Nat.le_of_ble_eq_true rfl) (Nat.le_of_ble_eq_true rfl)) (fun d => ma3_ok (K.fi [359, 360] rfl rfl)) ?_
  rintro r hz ⟨rfl, ez⟩
  rw [ez]
  clear ez
  show j_V jP _ 223 13 lv [.int (m_of w x1 2), .int (m_next w x1)] h _
  refine j_V.cut (b := 21) (stJ := [.int ((if (m_next w x1) = (m_of w x1 2) then 1 else 0) : Int32)]) (fun v => [(0, .ref 359), (1, .int x1), (2, .int (m_next w x1))]) ((if (m_next w x1) = (m_of w x1 2) then 1 else 0) : Int32) (fun Q kk => ?_) (fun lv L => ?_)
  · refine j_V.icmp me3_M me3_13 (t := 20) rfl (fun c13_0 => ?_) (fun c13_0 => ?_)
    · replace c13_0 : ¬ ((m_next w x1) = (m_of w x1 2)) := jd_ne c13_0
      refine j_V.one me3_M me3_20 (by decide) (pcJ := 21) (stJ := [.int 0]) rfl ?_
      exact Eq.subst (motive := fun z => j_V jP _ 223 21 _ (.int z :: []) h Q) (show ((if (m_next w x1) = (m_of w x1 2) then 1 else 0) : Int32) = 0 from (if_neg c13_0).trans (rfl)) (kk _ L)
    · replace c13_0 : (m_next w x1) = (m_of w x1 2) := jd_nen c13_0
      refine j_V.one me3_M me3_16 (by decide) (pcJ := 17) (stJ := [.int 1]) rfl ?_
      refine j_V.gto me3_M me3_17 (t := 21) rfl ?_
      exact Eq.subst (motive := fun z => j_V jP _ 223 21 _ (.int z :: []) h Q) (show ((if (m_next w x1) = (m_of w x1 2) then 1 else 0) : Int32) = 1 from (if_pos c13_0).trans (rfl)) (kk _ L)
  refine j_V.stL me3_M me3_21 rfl (i := 3) (kd := 0) (kl' := [(0, .ref 359), (1, .int x1), (2, .int (m_next w x1)), (3, .int ((if (m_next w x1) = (m_of w x1 2) then 1 else 0) : Int32))]) (pcJ := 22) rfl L rfl (by decide) rfl rfl rfl (fun lv L => ?_)
  refine j_V.ldL me3_M me3_22 rfl (i := 0) (kd := 2) (v := .ref 359) (pcJ := 23) rfl L rfl rfl rfl ?_
  refine j_V.ldL me3_M me3_23 rfl (i := 1) (kd := 0) (v := .int x1) (pcJ := 24) rfl L rfl rfl rfl ?_
  refine j_V.one me3_M me3_24 (by decide) (pcJ := 25) (stJ := [.int 2, .int x1, .ref 359]) rfl ?_
  refine j_V.ldL me3_M me3_25 rfl (i := 2) (kd := 0) (v := .int (m_next w x1)) (pcJ := 26) rfl L rfl rfl rfl ?_
  refine j_V.cl me3_M me3_26 rfl (md := 3) (mj := 215) rfl (by decide) me1_M (As := [.ref 359, .int x1, .int 2, .int (m_next w x1)]) (rest := []) (jk_spl3 (K.at rfl) rfl rfl rfl (Nat.le_of_ble_eq_true rfl) (Nat.le_of_ble_eq_true rfl)) (fun d => me1_ok (K.fi [359, 360] rfl rfl)) ?_
  rintro r h9 ⟨rfl, K9⟩
  generalize ez1 : (m_event w x1 2 (m_next w x1)) = z1 at K9 ⊢
  have K : KN h9 [(359, .inl (10, [(u 0), .ref 360, .ref 361, .ref 362, .ref 363, .ref 364, .ref 365, .ref 366, .ref 367, (u 9), (u 10), (u 11), (u 12), (u 13), (u 14), (u 15), (u 16), (u 17), (u 18), (u 19), (u 20), (u 21), .ref 368, (u 23), .ref 369, .ref 370, .ref 371, (u 27)])), (360, .inr (.inl (0, z1)))] h0 := K.mg K9 rfl rfl
  clear K9
  show j_V jP _ 223 29 lv [] h9 _
  refine j_V.ldL me3_M me3_29 rfl (i := 0) (kd := 2) (v := .ref 359) (pcJ := 30) rfl L rfl rfl rfl ?_
  refine j_V.ldL me3_M me3_30 rfl (i := 1) (kd := 0) (v := .int x1) (pcJ := 31) rfl L rfl rfl rfl ?_
  refine j_V.one me3_M me3_31 (by decide) (pcJ := 33) (stJ := [.int 7, .int x1, .ref 359]) rfl ?_
  refine j_V.ldL me3_M me3_33 rfl (i := 2) (kd := 0) (v := .int (m_next w x1)) (pcJ := 34) rfl L rfl rfl rfl ?_
  refine j_V.cl me3_M me3_34 rfl (md := 3) (mj := 179) rfl (by decide) me0_M (As := [.ref 359, .int x1, .int 7, .int (m_next w x1)]) (rest := []) (jk_spl3 (K.at rfl) rfl rfl rfl (Nat.le_of_ble_eq_true rfl) (Nat.le_of_ble_eq_true rfl)) (fun d => me0_ok (K.fi [359, 360] rfl rfl)) ?_
  rintro r h9 ⟨rfl, K9⟩
  generalize ez2 : (m_puts z1 x1 7 (m_next w x1)) = z2 at K9 ⊢
  have K : KN h9 [(359, .inl (10, [(u 0), .ref 360, .ref 361, .ref 362, .ref 363, .ref 364, .ref 365, .ref 366, .ref 367, (u 9), (u 10), (u 11), (u 12), (u 13), (u 14), (u 15), (u 16), (u 17), (u 18), (u 19), (u 20), (u 21), .ref 368, (u 23), .ref 369, .ref 370, .ref 371, (u 27)])), (360, .inr (.inl (0, z2)))] h0 := K.mg K9 rfl rfl
  clear K9
  show j_V jP _ 223 37 lv [] h9 _
  refine j_V.ldL me3_M me3_37 rfl (i := 0) (kd := 2) (v := .ref 359) (pcJ := 38) rfl L rfl rfl rfl ?_
  refine j_V.ldL me3_M me3_38 rfl (i := 1) (kd := 0) (v := .int x1) (pcJ := 39) rfl L rfl rfl rfl ?_
  refine j_V.one me3_M me3_39 (by decide) (pcJ := 41) (stJ := [.int 13, .int x1, .ref 359]) rfl ?_
  refine j_V.ldL me3_M me3_41 rfl (i := 2) (kd := 0) (v := .int (m_next w x1)) (pcJ := 42) rfl L rfl rfl rfl ?_
  refine j_V.one me3_M me3_42 (by decide) (pcJ := 43) (stJ := [.int (13 + (m_next w x1)), .int x1, .ref 359]) rfl ?_
  refine j_V.ldL me3_M me3_43 rfl (i := 0) (kd := 2) (v := .ref 359) (pcJ := 44) rfl L rfl rfl rfl ?_
  refine j_V.getK me3_M me3_44 (ci := 10) (j := 1) rfl K rfl rfl ?_
  refine j_V.one me3_M me3_47 (by decide) (pcJ := 50) (stJ := [.int 201, .ref 360, .int (13 + (m_next w x1)), .int x1, .ref 359]) rfl ?_
  refine j_V.iaA me3_M me3_50 K rfl ?_
  refine j_V.cl me3_M me3_51 rfl (md := 3) (mj := 179) rfl (by decide) me0_M (As := [.ref 359, .int x1, .int (13 + (m_next w x1)), .int (gA z2 201)]) (rest := []) (jk_spl3 (K.at rfl) rfl rfl rfl (Nat.le_of_ble_eq_true rfl) (Nat.le_of_ble_eq_true rfl)) (fun d => me0_ok (K.fi [359, 360] rfl rfl)) ?_
  rintro r h9 ⟨rfl, K9⟩
  generalize ez3 : (m_puts z2 x1 (13 + (m_next w x1)) (gA z2 201)) = z3 at K9 ⊢
  have K : KN h9 [(359, .inl (10, [(u 0), .ref 360, .ref 361, .ref 362, .ref 363, .ref 364, .ref 365, .ref 366, .ref 367, (u 9), (u 10), (u 11), (u 12), (u 13), (u 14), (u 15), (u 16), (u 17), (u 18), (u 19), (u 20), (u 21), .ref 368, (u 23), .ref 369, .ref 370, .ref 371, (u 27)])), (360, .inr (.inl (0, z3)))] h0 := K.mg K9 rfl rfl
  clear K9
  show j_V jP _ 223 54 lv [] h9 _
  refine j_V.ldL me3_M me3_54 rfl (i := 0) (kd := 2) (v := .ref 359) (pcJ := 55) rfl L rfl rfl rfl ?_
  refine j_V.ldL me3_M me3_55 rfl (i := 1) (kd := 0) (v := .int x1) (pcJ := 56) rfl L rfl rfl rfl ?_
  refine j_V.one me3_M me3_56 (by decide) (pcJ := 58) (stJ := [.int 6, .int x1, .ref 359]) rfl ?_
  refine j_V.ldL me3_M me3_58 rfl (i := 3) (kd := 0) (v := .int ((if (m_next w x1) = (m_of w x1 2) then 1 else 0) : Int32)) (pcJ := 59) rfl L rfl rfl rfl ?_
  refine j_V.cut (b := 67) (stJ := [.int ((if ((if (m_next w x1) = (m_of w x1 2) then 1 else 0) : Int32) = 0 then 1 else 3) : Int32), .int 6, .int x1, .ref 359]) (fun v => [(0, .ref 359), (1, .int x1), (2, .int (m_next w x1)), (3, .int ((if (m_next w x1) = (m_of w x1 2) then 1 else 0) : Int32))]) ((if ((if (m_next w x1) = (m_of w x1 2) then 1 else 0) : Int32) = 0 then 1 else 3) : Int32) (fun Q kk => ?_) (fun lv L => ?_)
  · refine j_V.ifc me3_M me3_59 (t := 66) rfl (fun c59_0 => ?_) (fun c59_0 => ?_)
    · replace c59_0 : ((if (m_next w x1) = (m_of w x1 2) then 1 else 0) : Int32) = 0 := jd_eq c59_0
      refine j_V.one me3_M me3_66 (by decide) (pcJ := 67) (stJ := [.int 1, .int 6, .int x1, .ref 359]) rfl ?_
      exact Eq.subst (motive := fun z => j_V jP _ 223 67 _ (.int z :: [.int 6, .int x1, .ref 359]) h9 Q) (show ((if ((if (m_next w x1) = (m_of w x1 2) then 1 else 0) : Int32) = 0 then 1 else 3) : Int32) = 1 from (if_pos c59_0).trans (rfl)) (kk _ L)
    · replace c59_0 : ¬ (((if (m_next w x1) = (m_of w x1 2) then 1 else 0) : Int32) = 0) := jd_eqn c59_0
      refine j_V.one me3_M me3_62 (by decide) (pcJ := 63) (stJ := [.int 3, .int 6, .int x1, .ref 359]) rfl ?_
      refine j_V.gto me3_M me3_63 (t := 67) rfl ?_
      exact Eq.subst (motive := fun z => j_V jP _ 223 67 _ (.int z :: [.int 6, .int x1, .ref 359]) h9 Q) (show ((if ((if (m_next w x1) = (m_of w x1 2) then 1 else 0) : Int32) = 0 then 1 else 3) : Int32) = 3 from (if_neg c59_0).trans (rfl)) (kk _ L)
  refine j_V.cl me3_M me3_67 rfl (md := 3) (mj := 179) rfl (by decide) me0_M (As := [.ref 359, .int x1, .int 6, .int ((if ((if (m_next w x1) = (m_of w x1 2) then 1 else 0) : Int32) = 0 then 1 else 3) : Int32)]) (rest := []) (jk_spl3 (K.at rfl) rfl rfl rfl (Nat.le_of_ble_eq_true rfl) (Nat.le_of_ble_eq_true rfl)) (fun d => me0_ok (K.fi [359, 360] rfl rfl)) ?_
  rintro r h9 ⟨rfl, K9⟩
  generalize ez4 : (m_puts z3 x1 6 ((if ((if (m_next w x1) = (m_of w x1 2) then 1 else 0) : Int32) = 0 then 1 else 3) : Int32)) = z4 at K9 ⊢
  have K : KN h9 [(359, .inl (10, [(u 0), .ref 360, .ref 361, .ref 362, .ref 363, .ref 364, .ref 365, .ref 366, .ref 367, (u 9), (u 10), (u 11), (u 12), (u 13), (u 14), (u 15), (u 16), (u 17), (u 18), (u 19), (u 20), (u 21), .ref 368, (u 23), .ref 369, .ref 370, .ref 371, (u 27)])), (360, .inr (.inl (0, z4)))] h0 := K.mg K9 rfl rfl
  clear K9
  show j_V jP _ 223 70 lv [] h9 _
  refine j_V.ldL me3_M me3_70 rfl (i := 3) (kd := 0) (v := .int ((if (m_next w x1) = (m_of w x1 2) then 1 else 0) : Int32)) (pcJ := 71) rfl L rfl rfl rfl ?_
  refine j_V.ifc me3_M me3_71 (t := 89) rfl (fun c71_0 => ?_) (fun c71_0 => ?_)
  · replace c71_0 : ((if (m_next w x1) = (m_of w x1 2) then 1 else 0) : Int32) = 0 := jd_eq c71_0
    subst ez4
    subst ez3
    subst ez2
    subst ez1
    refine j_V.ret me3_M me3_89 rfl rfl ?_
    rw [show (m_arrives w x1) = _ from ((if_pos c71_0).trans (rfl))]
    exact ⟨rfl, K⟩
  · replace c71_0 : ¬ (((if (m_next w x1) = (m_of w x1 2) then 1 else 0) : Int32) = 0) := jd_eqn c71_0
    refine j_V.ldL me3_M me3_74 rfl (i := 0) (kd := 2) (v := .ref 359) (pcJ := 75) rfl L rfl rfl rfl ?_
    refine j_V.ldL me3_M me3_75 rfl (i := 1) (kd := 0) (v := .int x1) (pcJ := 76) rfl L rfl rfl rfl ?_
    refine j_V.one me3_M me3_76 (by decide) (pcJ := 78) (stJ := [.int 11, .int x1, .ref 359]) rfl ?_
    refine j_V.ldL me3_M me3_78 rfl (i := 0) (kd := 2) (v := .ref 359) (pcJ := 79) rfl L rfl rfl rfl ?_
    refine j_V.getK me3_M me3_79 (ci := 10) (j := 1) rfl K rfl rfl ?_
    refine j_V.one me3_M me3_82 (by decide) (pcJ := 85) (stJ := [.int 201, .ref 360, .int 11, .int x1, .ref 359]) rfl ?_
    refine j_V.iaA me3_M me3_85 K rfl ?_
    refine j_V.cl me3_M me3_86 rfl (md := 3) (mj := 179) rfl (by decide) me0_M (As := [.ref 359, .int x1, .int 11, .int (gA z4 201)]) (rest := []) (jk_spl3 (K.at rfl) rfl rfl rfl (Nat.le_of_ble_eq_true rfl) (Nat.le_of_ble_eq_true rfl)) (fun d => me0_ok (K.fi [359, 360] rfl rfl)) ?_
    rintro r h9 ⟨rfl, K9⟩
    generalize ez6 : (m_puts z4 x1 11 (gA z4 201)) = z6 at K9 ⊢
    have K : KN h9 [(359, .inl (10, [(u 0), .ref 360, .ref 361, .ref 362, .ref 363, .ref 364, .ref 365, .ref 366, .ref 367, (u 9), (u 10), (u 11), (u 12), (u 13), (u 14), (u 15), (u 16), (u 17), (u 18), (u 19), (u 20), (u 21), .ref 368, (u 23), .ref 369, .ref 370, .ref 371, (u 27)])), (360, .inr (.inl (0, z6)))] h0 := K.mg K9 rfl rfl
    clear K9
    show j_V jP _ 223 89 lv [] h9 _
    subst ez6
    subst ez4
    subst ez3
    subst ez2
    subst ez1
    refine j_V.ret me3_M me3_89 rfl rfl ?_
    rw [show (m_arrives w x1) = _ from ((if_neg c71_0).trans (rfl))]
    exact ⟨rfl, K⟩
set_option maxRecDepth 100000 in
theorem me4_M : j_meth jP 228 = some (yX10_meets, cX10_meets, 4, none, 2, false, 10) := rfl
set_option maxRecDepth 100000 in
theorem me4_0 : j_code jP 228 0 = some (.iconst 5) := rfl
set_option maxRecDepth 100000 in
theorem me4_1 : j_code jP 228 1 = some (.iload_n 1) := rfl
set_option maxRecDepth 100000 in
theorem me4_2 : j_code jP 228 2 = some (.imul) := rfl
set_option maxRecDepth 100000 in
theorem me4_3 : j_code jP 228 3 = some (.iload_n 2) := rfl
set_option maxRecDepth 100000 in
theorem me4_4 : j_code jP 228 4 = some (.iadd) := rfl
set_option maxRecDepth 100000 in
theorem me4_5 : j_code jP 228 5 = some (.istore_n 3) := rfl
set_option maxRecDepth 100000 in
theorem me4_6 : j_code jP 228 6 = some (.iload_n 2) := rfl
set_option maxRecDepth 100000 in
theorem me4_7 : j_code jP 228 7 = some (.iload_n 1) := rfl
set_option maxRecDepth 100000 in
theorem me4_8 : j_code jP 228 8 = some (.if_icmp .eq 31) := rfl
set_option maxRecDepth 100000 in
theorem me4_11 : j_code jP 228 11 = some (.aload_n 0) := rfl
set_option maxRecDepth 100000 in
theorem me4_12 : j_code jP 228 12 = some (.iload_n 2) := rfl
set_option maxRecDepth 100000 in
theorem me4_13 : j_code jP 228 13 = some (.bipush 6) := rfl
set_option maxRecDepth 100000 in
theorem me4_15 : j_code jP 228 15 = some (.invokevirtual 198) := rfl
set_option maxRecDepth 100000 in
theorem me4_18 : j_code jP 228 18 = some (.iconst 1) := rfl
set_option maxRecDepth 100000 in
theorem me4_19 : j_code jP 228 19 = some (.if_icmp .ne 20) := rfl
set_option maxRecDepth 100000 in
theorem me4_22 : j_code jP 228 22 = some (.aload_n 0) := rfl
set_option maxRecDepth 100000 in
theorem me4_23 : j_code jP 228 23 = some (.iload_n 2) := rfl
set_option maxRecDepth 100000 in
theorem me4_24 : j_code jP 228 24 = some (.bipush 7) := rfl
set_option maxRecDepth 100000 in
theorem me4_26 : j_code jP 228 26 = some (.invokevirtual 198) := rfl
set_option maxRecDepth 100000 in
theorem me4_29 : j_code jP 228 29 = some (.aload_n 0) := rfl
set_option maxRecDepth 100000 in
theorem me4_30 : j_code jP 228 30 = some (.iload_n 1) := rfl
set_option maxRecDepth 100000 in
theorem me4_31 : j_code jP 228 31 = some (.bipush 7) := rfl
set_option maxRecDepth 100000 in
theorem me4_33 : j_code jP 228 33 = some (.invokevirtual 198) := rfl
set_option maxRecDepth 100000 in
theorem me4_36 : j_code jP 228 36 = some (.if_icmp .eq 4) := rfl
set_option maxRecDepth 100000 in
theorem me4_39 : j_code jP 228 39 = some (.return_) := rfl
set_option maxRecDepth 100000 in
theorem me4_40 : j_code jP 228 40 = some (.aload_n 0) := rfl
set_option maxRecDepth 100000 in
theorem me4_41 : j_code jP 228 41 = some (.getfield 7) := rfl
set_option maxRecDepth 100000 in
theorem me4_44 : j_code jP 228 44 = some (.sipush 570) := rfl
set_option maxRecDepth 100000 in
theorem me4_47 : j_code jP 228 47 = some (.iload_n 3) := rfl
set_option maxRecDepth 100000 in
theorem me4_48 : j_code jP 228 48 = some (.iadd) := rfl
set_option maxRecDepth 100000 in
theorem me4_49 : j_code jP 228 49 = some (.dup2) := rfl
set_option maxRecDepth 100000 in
theorem me4_50 : j_code jP 228 50 = some (.iaload) := rfl
set_option maxRecDepth 100000 in
theorem me4_51 : j_code jP 228 51 = some (.iconst 1) := rfl
set_option maxRecDepth 100000 in
theorem me4_52 : j_code jP 228 52 = some (.aload_n 0) := rfl
set_option maxRecDepth 100000 in
theorem me4_53 : j_code jP 228 53 = some (.iload_n 1) := rfl
set_option maxRecDepth 100000 in
theorem me4_54 : j_code jP 228 54 = some (.bipush 7) := rfl
set_option maxRecDepth 100000 in
theorem me4_56 : j_code jP 228 56 = some (.invokevirtual 198) := rfl
set_option maxRecDepth 100000 in
theorem me4_59 : j_code jP 228 59 = some (.ishl) := rfl
set_option maxRecDepth 100000 in
theorem me4_60 : j_code jP 228 60 = some (.ior) := rfl
set_option maxRecDepth 100000 in
theorem me4_61 : j_code jP 228 61 = some (.iastore) := rfl
set_option maxRecDepth 100000 in
theorem me4_62 : j_code jP 228 62 = some (.aload_n 0) := rfl
set_option maxRecDepth 100000 in
theorem me4_63 : j_code jP 228 63 = some (.getfield 7) := rfl
set_option maxRecDepth 100000 in
theorem me4_66 : j_code jP 228 66 = some (.sipush 246) := rfl
set_option maxRecDepth 100000 in
theorem me4_69 : j_code jP 228 69 = some (.iload_n 3) := rfl
set_option maxRecDepth 100000 in
theorem me4_70 : j_code jP 228 70 = some (.iadd) := rfl
set_option maxRecDepth 100000 in
theorem me4_71 : j_code jP 228 71 = some (.iaload) := rfl
set_option maxRecDepth 100000 in
theorem me4_72 : j_code jP 228 72 = some (.iconst (-1)) := rfl
set_option maxRecDepth 100000 in
theorem me4_73 : j_code jP 228 73 = some (.if_icmp .eq 4) := rfl
set_option maxRecDepth 100000 in
theorem me4_76 : j_code jP 228 76 = some (.return_) := rfl
set_option maxRecDepth 100000 in
theorem me4_77 : j_code jP 228 77 = some (.aload_n 0) := rfl
set_option maxRecDepth 100000 in
theorem me4_78 : j_code jP 228 78 = some (.getfield 7) := rfl
set_option maxRecDepth 100000 in
theorem me4_81 : j_code jP 228 81 = some (.sipush 246) := rfl
set_option maxRecDepth 100000 in
theorem me4_84 : j_code jP 228 84 = some (.iload_n 3) := rfl
set_option maxRecDepth 100000 in
theorem me4_85 : j_code jP 228 85 = some (.iadd) := rfl
set_option maxRecDepth 100000 in
theorem me4_86 : j_code jP 228 86 = some (.aload_n 0) := rfl
set_option maxRecDepth 100000 in
theorem me4_87 : j_code jP 228 87 = some (.iload_n 1) := rfl
set_option maxRecDepth 100000 in
theorem me4_88 : j_code jP 228 88 = some (.bipush 7) := rfl
set_option maxRecDepth 100000 in
theorem me4_90 : j_code jP 228 90 = some (.invokevirtual 198) := rfl
set_option maxRecDepth 100000 in
theorem me4_93 : j_code jP 228 93 = some (.iastore) := rfl
set_option maxRecDepth 100000 in
theorem me4_94 : j_code jP 228 94 = some (.aload_n 0) := rfl
set_option maxRecDepth 100000 in
theorem me4_95 : j_code jP 228 95 = some (.getfield 7) := rfl
set_option maxRecDepth 100000 in
theorem me4_98 : j_code jP 228 98 = some (.sipush 271) := rfl
set_option maxRecDepth 100000 in
theorem me4_101 : j_code jP 228 101 = some (.iload_n 3) := rfl
set_option maxRecDepth 100000 in
theorem me4_102 : j_code jP 228 102 = some (.iadd) := rfl
set_option maxRecDepth 100000 in
theorem me4_103 : j_code jP 228 103 = some (.aload_n 0) := rfl
set_option maxRecDepth 100000 in
theorem me4_104 : j_code jP 228 104 = some (.getfield 7) := rfl
set_option maxRecDepth 100000 in
theorem me4_107 : j_code jP 228 107 = some (.sipush 201) := rfl
set_option maxRecDepth 100000 in
theorem me4_110 : j_code jP 228 110 = some (.iaload) := rfl
set_option maxRecDepth 100000 in
theorem me4_111 : j_code jP 228 111 = some (.iastore) := rfl
set_option maxRecDepth 100000 in
theorem me4_112 : j_code jP 228 112 = some (.return_) := rfl
def m_meets (w : List Int32) (x1 : Int32) (x2 : Int32) : List Int32 := (if x2 = x1 then w else (if (m_of w x2 6) = 1 then (if (m_of w x2 7) = (m_of w x1 7) then let w1 := (sA w (570 + ((5 * x1) + x2)) ((gA w (570 + ((5 * x1) + x2))) ||| (1 <<< ((m_of w x1 7) &&& 31)))); (if (gA w1 (246 + ((5 * x1) + x2))) = (-1) then let w2 := (sA w1 (246 + ((5 * x1) + x2)) (m_of w1 x1 7)); let w3 := (sA w2 (271 + ((5 * x1) + x2)) (gA w2 201)); w3 else w1) else w) else w))
set_option maxRecDepth 1000000 in
theorem me4_ok {u : Nat → Value} {w : List Int32} {x1 x2 : Int32} {d : Nat} {h h0 : J_H} (K : KN h [(359, .inl (10, [(u 0), .ref 360, .ref 361, .ref 362, .ref 363, .ref 364, .ref 365, .ref 366, .ref 367, (u 9), (u 10), (u 11), (u 12), (u 13), (u 14), (u 15), (u 16), (u 17), (u 18), (u 19), (u 20), (u 21), .ref 368, (u 23), .ref 369, .ref 370, .ref 371, (u 27)])), (360, .inr (.inl (0, w)))] h0) : j_V jP d 228 0 (lv_args 0 [.ref 359, .int x1, .int x2]) [] h (fun rv h' => rv = none ∧ KN h' [(359, .inl (10, [(u 0), .ref 360, .ref 361, .ref 362, .ref 363, .ref 364, .ref 365, .ref 366, .ref 367, (u 9), (u 10), (u 11), (u 12), (u 13), (u 14), (u 15), (u 16), (u 17), (u 18), (u 19), (u 20), (u 21), .ref 368, (u 23), .ref 369, .ref 370, .ref 371, (u 27)])), (360, .inr (.inl (0, (m_meets w x1 x2))))] h0) := by
  show j_V jP d 228 0 [(0, .ref 359), (1, .int x1), (2, .int x2)] [] h _
  obtain ⟨lv, elv, L⟩ : ∃ lv, lv = [(0, .ref 359), (1, .int x1), (2, .int x2)] ∧ LK lv [(0, .ref 359), (1, .int x1), (2, .int x2)] := ⟨_, rfl, LK.rf⟩
  rw [← elv]
  clear elv
  refine j_V.one me4_M me4_0 (by decide) (pcJ := 1) (stJ := [.int 5]) rfl ?_
  refine j_V.ldL me4_M me4_1 rfl (i := 1) (kd := 0) (v := .int x1) (pcJ := 2) rfl L rfl rfl rfl ?_
  refine j_V.one me4_M me4_2 (by decide) (pcJ := 3) (stJ := [.int (5 * x1)]) rfl ?_
  refine j_V.ldL me4_M me4_3 rfl (i := 2) (kd := 0) (v := .int x2) (pcJ := 4) rfl L rfl rfl rfl ?_
  refine j_V.one me4_M me4_4 (by decide) (pcJ := 5) (stJ := [.int ((5 * x1) + x2)]) rfl ?_
  refine j_V.stL me4_M me4_5 rfl (i := 3) (kd := 0) (kl' := [(0, .ref 359), (1, .int x1), (2, .int x2), (3, .int ((5 * x1) + x2))]) (pcJ := 6) rfl L rfl (by decide) rfl rfl rfl (fun lv L => ?_)
  refine j_V.ldL me4_M me4_6 rfl (i := 2) (kd := 0) (v := .int x2) (pcJ := 7) rfl L rfl rfl rfl ?_
  refine j_V.ldL me4_M me4_7 rfl (i := 1) (kd := 0) (v := .int x1) (pcJ := 8) rfl L rfl rfl rfl ?_
  refine j_V.icmp me4_M me4_8 (t := 39) rfl (fun c8_0 => ?_) (fun c8_0 => ?_)
  · replace c8_0 : x2 = x1 := jd_eq c8_0
    refine j_V.ret me4_M me4_39 rfl rfl ?_
    rw [show (m_meets w x1 x2) = _ from ((if_pos c8_0).trans (rfl))]
    exact ⟨rfl, K⟩
  · replace c8_0 : ¬ (x2 = x1) := jd_eqn c8_0
    refine j_V.ldL me4_M me4_11 rfl (i := 0) (kd := 2) (v := .ref 359) (pcJ := 12) rfl L rfl rfl rfl ?_
    refine j_V.ldL me4_M me4_12 rfl (i := 2) (kd := 0) (v := .int x2) (pcJ := 13) rfl L rfl rfl rfl ?_
    refine j_V.one me4_M me4_13 (by decide) (pcJ := 15) (stJ := [.int 6, .int x2, .ref 359]) rfl ?_
    refine j_V.cl me4_M me4_15 rfl (md := 3) (mj := 178) rfl (by decide) ma3_M (As := [.ref 359, .int x2, .int 6]) (rest := []) (jk_spl3 (K.at rfl) rfl rfl rfl (Nat.le_of_ble_eq_true rfl) (Nat.le_of_ble_eq_true rfl)) (fun d => ma3_ok (K.fi [359, 360] rfl rfl)) ?_
    rintro r hz ⟨rfl, ez⟩
    rw [ez]
    clear ez
    show j_V jP _ 228 18 lv [.int (m_of w x2 6)] h _
    refine j_V.one me4_M me4_18 (by decide) (pcJ := 19) (stJ := [.int 1, .int (m_of w x2 6)]) rfl ?_
    refine j_V.icmp me4_M me4_19 (t := 39) rfl (fun c19_1 => ?_) (fun c19_1 => ?_)
    · replace c19_1 : ¬ ((m_of w x2 6) = 1) := jd_ne c19_1
      refine j_V.ret me4_M me4_39 rfl rfl ?_
      rw [show (m_meets w x1 x2) = _ from ((if_neg c8_0).trans ((if_neg c19_1).trans (rfl)))]
      exact ⟨rfl, K⟩
    · replace c19_1 : (m_of w x2 6) = 1 := jd_nen c19_1
      refine j_V.ldL me4_M me4_22 rfl (i := 0) (kd := 2) (v := .ref 359) (pcJ := 23) rfl L rfl rfl rfl ?_
      refine j_V.ldL me4_M me4_23 rfl (i := 2) (kd := 0) (v := .int x2) (pcJ := 24) rfl L rfl rfl rfl ?_
      refine j_V.one me4_M me4_24 (by decide) (pcJ := 26) (stJ := [.int 7, .int x2, .ref 359]) rfl ?_
      refine j_V.cl me4_M me4_26 rfl (md := 3) (mj := 178) rfl (by decide) ma3_M (As := [.ref 359, .int x2, .int 7]) (rest := []) (jk_spl3 (K.at rfl) rfl rfl rfl (Nat.le_of_ble_eq_true rfl) (Nat.le_of_ble_eq_true rfl)) (fun d => ma3_ok (K.fi [359, 360] rfl rfl)) ?_
      rintro r hz ⟨rfl, ez⟩
      rw [ez]
      clear ez
      show j_V jP _ 228 29 lv [.int (m_of w x2 7)] h _
      refine j_V.ldL me4_M me4_29 rfl (i := 0) (kd := 2) (v := .ref 359) (pcJ := 30) rfl L rfl rfl rfl ?_
      refine j_V.ldL me4_M me4_30 rfl (i := 1) (kd := 0) (v := .int x1) (pcJ := 31) rfl L rfl rfl rfl ?_
      refine j_V.one me4_M me4_31 (by decide) (pcJ := 33) (stJ := [.int 7, .int x1, .ref 359, .int (m_of w x2 7)]) rfl ?_
      refine j_V.cl me4_M me4_33 rfl (md := 3) (mj := 178) rfl (by decide) ma3_M (As := [.ref 359, .int x1, .int 7]) (rest := [.int (m_of w x2 7)]) (jk_spl3 (K.at rfl) rfl rfl rfl (Nat.le_of_ble_eq_true rfl) (Nat.le_of_ble_eq_true rfl)) (fun d => ma3_ok (K.fi [359, 360] rfl rfl)) ?_
      rintro r hz ⟨rfl, ez⟩
      rw [ez]
      clear ez
      show j_V jP _ 228 36 lv [.int (m_of w x1 7), .int (m_of w x2 7)] h _
      refine j_V.icmp me4_M me4_36 (t := 40) rfl (fun c36_2 => ?_) (fun c36_2 => ?_)
      · replace c36_2 : (m_of w x2 7) = (m_of w x1 7) := jd_eq c36_2
        refine j_V.ldL me4_M me4_40 rfl (i := 0) (kd := 2) (v := .ref 359) (pcJ := 41) rfl L rfl rfl rfl ?_
        refine j_V.getK me4_M me4_41 (ci := 10) (j := 1) rfl K rfl rfl ?_
        refine j_V.one me4_M me4_44 (by decide) (pcJ := 47) (stJ := [.int 570, .ref 360]) rfl ?_
        refine j_V.ldL me4_M me4_47 rfl (i := 3) (kd := 0) (v := .int ((5 * x1) + x2)) (pcJ := 48) rfl L rfl rfl rfl ?_
        refine j_V.one me4_M me4_48 (by decide) (pcJ := 49) (stJ := [.int (570 + ((5 * x1) + x2)), .ref 360]) rfl ?_
        refine j_V.one me4_M me4_49 (by decide) (pcJ := 50) (stJ := [.int (570 + ((5 * x1) + x2)), .ref 360, .int (570 + ((5 * x1) + x2)), .ref 360]) rfl ?_
        refine j_V.iaA me4_M me4_50 K rfl ?_
        refine j_V.one me4_M me4_51 (by decide) (pcJ := 52) (stJ := [.int 1, .int (gA w (570 + ((5 * x1) + x2))), .int (570 + ((5 * x1) + x2)), .ref 360]) rfl ?_
        refine j_V.ldL me4_M me4_52 rfl (i := 0) (kd := 2) (v := .ref 359) (pcJ := 53) rfl L rfl rfl rfl ?_
        refine j_V.ldL me4_M me4_53 rfl (i := 1) (kd := 0) (v := .int x1) (pcJ := 54) rfl L rfl rfl rfl ?_
        refine j_V.one me4_M me4_54 (by decide) (pcJ := 56) (stJ := [.int 7, .int x1, .ref 359, .int 1, .int (gA w (570 + ((5 * x1) + x2))), .int (570 + ((5 * x1) + x2)), .ref 360]) rfl ?_
        refine j_V.cl me4_M me4_56 rfl (md := 3) (mj := 178) rfl (by decide) ma3_M (As := [.ref 359, .int x1, .int 7]) (rest := [.int 1, .int (gA w (570 + ((5 * x1) + x2))), .int (570 + ((5 * x1) + x2)), .ref 360]) (jk_spl3 (K.at rfl) rfl rfl rfl (Nat.le_of_ble_eq_true rfl) (Nat.le_of_ble_eq_true rfl)) (fun d => ma3_ok (K.fi [359, 360] rfl rfl)) ?_
        rintro r hz ⟨rfl, ez⟩
        rw [ez]
        clear ez
        show j_V jP _ 228 59 lv [.int (m_of w x1 7), .int 1, .int (gA w (570 + ((5 * x1) + x2))), .int (570 + ((5 * x1) + x2)), .ref 360] h _
        refine j_V.one me4_M me4_59 (by decide) (pcJ := 60) (stJ := [.int (1 <<< ((m_of w x1 7) &&& 31)), .int (gA w (570 + ((5 * x1) + x2))), .int (570 + ((5 * x1) + x2)), .ref 360]) rfl ?_
        refine j_V.one me4_M me4_60 (by decide) (pcJ := 61) (stJ := [.int ((gA w (570 + ((5 * x1) + x2))) ||| (1 <<< ((m_of w x1 7) &&& 31))), .int (570 + ((5 * x1) + x2)), .ref 360]) rfl ?_
        refine j_V.isA me4_M me4_61 (k' := [(359, .inl (10, [(u 0), .ref 360, .ref 361, .ref 362, .ref 363, .ref 364, .ref 365, .ref 366, .ref 367, (u 9), (u 10), (u 11), (u 12), (u 13), (u 14), (u 15), (u 16), (u 17), (u 18), (u 19), (u 20), (u 21), .ref 368, (u 23), .ref 369, .ref 370, .ref 371, (u 27)])), (360, .inr (.inl (0, (sA w (570 + ((5 * x1) + x2)) ((gA w (570 + ((5 * x1) + x2))) ||| (1 <<< ((m_of w x1 7) &&& 31)))))))]) K rfl rfl (fun h K => ?_)
        obtain ⟨w1, ew1⟩ : ∃ z, z = (sA w (570 + ((5 * x1) + x2)) ((gA w (570 + ((5 * x1) + x2))) ||| (1 <<< ((m_of w x1 7) &&& 31)))) := ⟨_, rfl⟩
        rw [← ew1] at K
        refine j_V.ldL me4_M me4_62 rfl (i := 0) (kd := 2) (v := .ref 359) (pcJ := 63) rfl L rfl rfl rfl ?_
        refine j_V.getK me4_M me4_63 (ci := 10) (j := 1) rfl K rfl rfl ?_
        refine j_V.one me4_M me4_66 (by decide) (pcJ := 69) (stJ := [.int 246, .ref 360]) rfl ?_
        refine j_V.ldL me4_M me4_69 rfl (i := 3) (kd := 0) (v := .int ((5 * x1) + x2)) (pcJ := 70) rfl L rfl rfl rfl ?_
        refine j_V.one me4_M me4_70 (by decide) (pcJ := 71) (stJ := [.int (246 + ((5 * x1) + x2)), .ref 360]) rfl ?_
        refine j_V.iaA me4_M me4_71 K rfl ?_
        refine j_V.one me4_M me4_72 (by decide) (pcJ := 73) (stJ := [.int (-1), .int (gA w1 (246 + ((5 * x1) + x2)))]) rfl ?_
        refine j_V.icmp me4_M me4_73 (t := 77) rfl (fun c73_3 => ?_) (fun c73_3 => ?_)
        · replace c73_3 : (gA w1 (246 + ((5 * x1) + x2))) = (-1) := jd_eq c73_3
          refine j_V.ldL me4_M me4_77 rfl (i := 0) (kd := 2) (v := .ref 359) (pcJ := 78) rfl L rfl rfl rfl ?_
          refine j_V.getK me4_M me4_78 (ci := 10) (j := 1) rfl K rfl rfl ?_
          refine j_V.one me4_M me4_81 (by decide) (pcJ := 84) (stJ := [.int 246, .ref 360]) rfl ?_
          refine j_V.ldL me4_M me4_84 rfl (i := 3) (kd := 0) (v := .int ((5 * x1) + x2)) (pcJ := 85) rfl L rfl rfl rfl ?_
          refine j_V.one me4_M me4_85 (by decide) (pcJ := 86) (stJ := [.int (246 + ((5 * x1) + x2)), .ref 360]) rfl ?_
          refine j_V.ldL me4_M me4_86 rfl (i := 0) (kd := 2) (v := .ref 359) (pcJ := 87) rfl L rfl rfl rfl ?_
          refine j_V.ldL me4_M me4_87 rfl (i := 1) (kd := 0) (v := .int x1) (pcJ := 88) rfl L rfl rfl rfl ?_
          refine j_V.one me4_M me4_88 (by decide) (pcJ := 90) (stJ := [.int 7, .int x1, .ref 359, .int (246 + ((5 * x1) + x2)), .ref 360]) rfl ?_
          refine j_V.cl me4_M me4_90 rfl (md := 3) (mj := 178) rfl (by decide) ma3_M (As := [.ref 359, .int x1, .int 7]) (rest := [.int (246 + ((5 * x1) + x2)), .ref 360]) (jk_spl3 (K.at rfl) rfl rfl rfl (Nat.le_of_ble_eq_true rfl) (Nat.le_of_ble_eq_true rfl)) (fun d => ma3_ok (K.fi [359, 360] rfl rfl)) ?_
          rintro r hz ⟨rfl, ez⟩
          rw [ez]
          clear ez
          show j_V jP _ 228 93 lv [.int (m_of w1 x1 7), .int (246 + ((5 * x1) + x2)), .ref 360] h _
          refine j_V.isA me4_M me4_93 (k' := [(359, .inl (10, [(u 0), .ref 360, .ref 361, .ref 362, .ref 363, .ref 364, .ref 365, .ref 366, .ref 367, (u 9), (u 10), (u 11), (u 12), (u 13), (u 14), (u 15), (u 16), (u 17), (u 18), (u 19), (u 20), (u 21), .ref 368, (u 23), .ref 369, .ref 370, .ref 371, (u 27)])), (360, .inr (.inl (0, (sA w1 (246 + ((5 * x1) + x2)) (m_of w1 x1 7)))))]) K rfl rfl (fun h K => ?_)
          obtain ⟨w2, ew2⟩ : ∃ z, z = (sA w1 (246 + ((5 * x1) + x2)) (m_of w1 x1 7)) := ⟨_, rfl⟩
          rw [← ew2] at K
          refine j_V.ldL me4_M me4_94 rfl (i := 0) (kd := 2) (v := .ref 359) (pcJ := 95) rfl L rfl rfl rfl ?_
          refine j_V.getK me4_M me4_95 (ci := 10) (j := 1) rfl K rfl rfl ?_
          refine j_V.one me4_M me4_98 (by decide) (pcJ := 101) (stJ := [.int 271, .ref 360]) rfl ?_
          refine j_V.ldL me4_M me4_101 rfl (i := 3) (kd := 0) (v := .int ((5 * x1) + x2)) (pcJ := 102) rfl L rfl rfl rfl ?_
          refine j_V.one me4_M me4_102 (by decide) (pcJ := 103) (stJ := [.int (271 + ((5 * x1) + x2)), .ref 360]) rfl ?_
          refine j_V.ldL me4_M me4_103 rfl (i := 0) (kd := 2) (v := .ref 359) (pcJ := 104) rfl L rfl rfl rfl ?_
          refine j_V.getK me4_M me4_104 (ci := 10) (j := 1) rfl K rfl rfl ?_
          refine j_V.one me4_M me4_107 (by decide) (pcJ := 110) (stJ := [.int 201, .ref 360, .int (271 + ((5 * x1) + x2)), .ref 360]) rfl ?_
          refine j_V.iaA me4_M me4_110 K rfl ?_
          refine j_V.isA me4_M me4_111 (k' := [(359, .inl (10, [(u 0), .ref 360, .ref 361, .ref 362, .ref 363, .ref 364, .ref 365, .ref 366, .ref 367, (u 9), (u 10), (u 11), (u 12), (u 13), (u 14), (u 15), (u 16), (u 17), (u 18), (u 19), (u 20), (u 21), .ref 368, (u 23), .ref 369, .ref 370, .ref 371, (u 27)])), (360, .inr (.inl (0, (sA w2 (271 + ((5 * x1) + x2)) (gA w2 201)))))]) K rfl rfl (fun h K => ?_)
          obtain ⟨w3, ew3⟩ : ∃ z, z = (sA w2 (271 + ((5 * x1) + x2)) (gA w2 201)) := ⟨_, rfl⟩
          rw [← ew3] at K
          subst ew3
          subst ew2
          subst ew1
          refine j_V.ret me4_M me4_112 rfl rfl ?_
          rw [show (m_meets w x1 x2) = _ from ((if_neg c8_0).trans ((if_pos c19_1).trans ((if_pos c36_2).trans ((if_pos c73_3).trans (rfl)))))]
          exact ⟨rfl, K⟩
        · replace c73_3 : ¬ ((gA w1 (246 + ((5 * x1) + x2))) = (-1)) := jd_eqn c73_3
          subst ew1
          refine j_V.ret me4_M me4_76 rfl rfl ?_
          rw [show (m_meets w x1 x2) = _ from ((if_neg c8_0).trans ((if_pos c19_1).trans ((if_pos c36_2).trans ((if_neg c73_3).trans (rfl)))))]
          exact ⟨rfl, K⟩
      · replace c36_2 : ¬ ((m_of w x2 7) = (m_of w x1 7)) := jd_eqn c36_2
        refine j_V.ret me4_M me4_39 rfl rfl ?_
        rw [show (m_meets w x1 x2) = _ from ((if_neg c8_0).trans ((if_pos c19_1).trans ((if_neg c36_2).trans (rfl))))]
        exact ⟨rfl, K⟩

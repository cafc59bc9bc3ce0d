/-! print of the class, its text told: written by wip/py/gen_tx.py -/
theorem tpA_n {x : Int32} {T : List Int32} : nI (tpA x T).length = nI T.length + 1 := (congrArg nI tpA_len).trans (Int32.ofNat_add _ 1)
theorem i8_up (a : Int32) : a + (-8) + 8 = a := by rw [Int32.add_assoc, show (-8 : Int32) + 8 = 0 from by decide, Int32.add_zero]
theorem i5_up (a : Int32) : a + (-5) + 5 = a := by rw [Int32.add_assoc, show (-5 : Int32) + 5 = 0 from by decide, Int32.add_zero]
theorem i8_dn {s : Int32} {f : Nat} (h : s + 8 = nI (8 * (f + 1))) : s = nI (8 * f) := by
  rw [show nI (8 * (f + 1)) = nI (8 * f) + 8 from Int32.ofNat_add (8 * f) 8] at h
  have := congrArg (fun z => z - 8) h
  simpa only [Int32.add_sub_cancel] using this
theorem i5_dn {s : Int32} {f : Nat} (h : s + 5 = nI (5 * (f + 1))) : s = nI (5 * f) := by
  rw [show nI (5 * (f + 1)) = nI (5 * f) + 5 from Int32.ofNat_add (5 * f) 5] at h
  have := congrArg (fun z => z - 5) h
  simpa only [Int32.add_sub_cancel] using this
set_option maxRecDepth 100000 in
theorem xyp_M : j_meth jP 57 = some (yX6_put, cX6_put, 2, none, 1, false, 6) := rfl
set_option maxRecDepth 100000 in
theorem xyp_0 : j_code jP 57 0 = some (.aload_n 0) := rfl
set_option maxRecDepth 100000 in
theorem xyp_1 : j_code jP 57 1 = some (.getfield 15) := rfl
set_option maxRecDepth 100000 in
theorem xyp_4 : j_code jP 57 4 = some (.sipush 700) := rfl
set_option maxRecDepth 100000 in
theorem xyp_7 : j_code jP 57 7 = some (.if_icmp .ge 24) := rfl
set_option maxRecDepth 100000 in
theorem xyp_10 : j_code jP 57 10 = some (.aload_n 0) := rfl
set_option maxRecDepth 100000 in
theorem xyp_11 : j_code jP 57 11 = some (.getfield 9) := rfl
set_option maxRecDepth 100000 in
theorem xyp_14 : j_code jP 57 14 = some (.aload_n 0) := rfl
set_option maxRecDepth 100000 in
theorem xyp_15 : j_code jP 57 15 = some (.getfield 15) := rfl
set_option maxRecDepth 100000 in
theorem xyp_18 : j_code jP 57 18 = some (.iload_n 1) := rfl
set_option maxRecDepth 100000 in
theorem xyp_19 : j_code jP 57 19 = some (.i2b) := rfl
set_option maxRecDepth 100000 in
theorem xyp_20 : j_code jP 57 20 = some (.bastore) := rfl
set_option maxRecDepth 100000 in
theorem xyp_21 : j_code jP 57 21 = some (.aload_n 0) := rfl
set_option maxRecDepth 100000 in
theorem xyp_22 : j_code jP 57 22 = some (.dup) := rfl
set_option maxRecDepth 100000 in
theorem xyp_23 : j_code jP 57 23 = some (.getfield 15) := rfl
set_option maxRecDepth 100000 in
theorem xyp_26 : j_code jP 57 26 = some (.iconst 1) := rfl
set_option maxRecDepth 100000 in
theorem xyp_27 : j_code jP 57 27 = some (.iadd) := rfl
set_option maxRecDepth 100000 in
theorem xyp_28 : j_code jP 57 28 = some (.putfield 15) := rfl
set_option maxRecDepth 100000 in
theorem xyp_31 : j_code jP 57 31 = some (.return_) := rfl
theorem xyp_ok {d : Nat} {h h0 : J_H} {T b : List Int32} {x1 : Int32} (H : tT 700 T b) (hl : T.length < 700) (K : KN h [(325, .inl (6, [.ref 326, .int (nI T.length)])), (326, .inr (.inl (1, b)))] h0) : j_V jP d 57 0 (lv_args 0 [.ref 325, .int x1]) [] h (fun rv h' => rv = none ∧ ∃ b', tT 700 (tpA x1 T) b' ∧ KN h' [(325, .inl (6, [.ref 326, .int (nI (tpA x1 T).length)])), (326, .inr (.inl (1, b')))] h0) := by
  show j_V jP d 57 0 [(0, .ref 325), (1, .int x1)] [] h _
  obtain ⟨lv, elv, L⟩ : ∃ lv, lv = [(0, .ref 325), (1, .int x1)] ∧ LK lv [(0, .ref 325), (1, .int x1)] := ⟨_, rfl, LK.rf⟩
  rw [← elv]
  clear elv
  refine j_V.ldL xyp_M xyp_0 rfl (i := 0) (kd := 2) (v := .ref 325) (pcJ := 1) rfl L rfl rfl rfl ?_
  refine j_V.getK xyp_M xyp_1 (ci := 6) (j := 1) rfl K rfl rfl ?_
  refine j_V.one xyp_M xyp_4 (by decide) (pcJ := 7) (stJ := [.int 700, .int (nI T.length)]) rfl ?_
  refine j_V.icmp xyp_M xyp_7 (t := 31) rfl (fun c7_0 => ?_) (fun c7_0 => ?_)
  · replace c7_0 : ¬ ((nI T.length) < 700) := jd_ge c7_0
    exact absurd (show nI T.length < nI 700 from nI_lt hl (by decide)) c7_0
  · replace c7_0 : (nI T.length) < 700 := jd_gen c7_0
    refine j_V.ldL xyp_M xyp_10 rfl (i := 0) (kd := 2) (v := .ref 325) (pcJ := 11) rfl L rfl rfl rfl ?_
    refine j_V.getK xyp_M xyp_11 (ci := 6) (j := 0) rfl K rfl rfl ?_
    refine j_V.ldL xyp_M xyp_14 rfl (i := 0) (kd := 2) (v := .ref 325) (pcJ := 15) rfl L rfl rfl rfl ?_
    refine j_V.getK xyp_M xyp_15 (ci := 6) (j := 1) rfl K rfl rfl ?_
    refine j_V.ldL xyp_M xyp_18 rfl (i := 1) (kd := 0) (v := .int x1) (pcJ := 19) rfl L rfl rfl rfl ?_
    refine j_V.one xyp_M xyp_19 (by decide) (pcJ := 20) (stJ := [.int (x1).toInt8.toInt32, .int (nI T.length), .ref 326]) rfl ?_
    refine j_V.baA xyp_M xyp_20 (n := T.length) (k' := [(325, .inl (6, [.ref 326, .int (nI T.length)])), (326, .inr (.inl (1, (b.set T.length ((x1).toInt8.toInt32).toInt8.toInt32))))]) K rfl (by omega) rfl (fun h K hlt => ?_)
    refine j_V.ldL xyp_M xyp_21 rfl (i := 0) (kd := 2) (v := .ref 325) (pcJ := 22) rfl L rfl rfl rfl ?_
    refine j_V.one xyp_M xyp_22 (by decide) (pcJ := 23) (stJ := [.ref 325, .ref 325]) rfl ?_
    refine j_V.getK xyp_M xyp_23 (ci := 6) (j := 1) rfl K rfl rfl ?_
    refine j_V.one xyp_M xyp_26 (by decide) (pcJ := 27) (stJ := [.int 1, .int (nI T.length), .ref 325]) rfl ?_
    refine j_V.one xyp_M xyp_27 (by decide) (pcJ := 28) (stJ := [.int ((nI T.length) + 1), .ref 325]) rfl ?_
    refine j_V.putK xyp_M xyp_28 (ci := 6) (j := 1) (k' := [(325, .inl (6, [.ref 326, .int ((nI T.length) + 1)])), (326, .inr (.inl (1, (b.set T.length ((x1).toInt8.toInt32).toInt8.toInt32))))]) rfl K rfl (Nat.le_of_ble_eq_true rfl) rfl (Or.inl rfl) rfl rfl (fun h K => ?_)
    exact j_V.ret xyp_M xyp_31 rfl rfl ⟨rfl, _, H.put hl, by rw [tpA_n]; exact K⟩
set_option maxRecDepth 100000 in
theorem xyn_M : j_meth jP 56 = some (yX6_putNumber, cX6_putNumber, 2, none, 1, false, 6) := rfl
set_option maxRecDepth 100000 in
theorem xyn_0 : j_code jP 56 0 = some (.aload_n 0) := rfl
set_option maxRecDepth 100000 in
theorem xyn_1 : j_code jP 56 1 = some (.bipush 32) := rfl
set_option maxRecDepth 100000 in
theorem xyn_3 : j_code jP 56 3 = some (.invokevirtual 49) := rfl
set_option maxRecDepth 100000 in
theorem xyn_6 : j_code jP 56 6 = some (.iload_n 1) := rfl
set_option maxRecDepth 100000 in
theorem xyn_7 : j_code jP 56 7 = some (.bipush 100) := rfl
set_option maxRecDepth 100000 in
theorem xyn_9 : j_code jP 56 9 = some (.if_icmp .lt 14) := rfl
set_option maxRecDepth 100000 in
theorem xyn_12 : j_code jP 56 12 = some (.aload_n 0) := rfl
set_option maxRecDepth 100000 in
theorem xyn_13 : j_code jP 56 13 = some (.bipush 48) := rfl
set_option maxRecDepth 100000 in
theorem xyn_15 : j_code jP 56 15 = some (.iload_n 1) := rfl
set_option maxRecDepth 100000 in
theorem xyn_16 : j_code jP 56 16 = some (.bipush 100) := rfl
set_option maxRecDepth 100000 in
theorem xyn_18 : j_code jP 56 18 = some (.idiv) := rfl
set_option maxRecDepth 100000 in
theorem xyn_19 : j_code jP 56 19 = some (.iadd) := rfl
set_option maxRecDepth 100000 in
theorem xyn_20 : j_code jP 56 20 = some (.invokevirtual 49) := rfl
set_option maxRecDepth 100000 in
theorem xyn_23 : j_code jP 56 23 = some (.iload_n 1) := rfl
set_option maxRecDepth 100000 in
theorem xyn_24 : j_code jP 56 24 = some (.bipush 10) := rfl
set_option maxRecDepth 100000 in
theorem xyn_26 : j_code jP 56 26 = some (.if_icmp .lt 17) := rfl
set_option maxRecDepth 100000 in
theorem xyn_29 : j_code jP 56 29 = some (.aload_n 0) := rfl
set_option maxRecDepth 100000 in
theorem xyn_30 : j_code jP 56 30 = some (.bipush 48) := rfl
set_option maxRecDepth 100000 in
theorem xyn_32 : j_code jP 56 32 = some (.iload_n 1) := rfl
set_option maxRecDepth 100000 in
theorem xyn_33 : j_code jP 56 33 = some (.bipush 10) := rfl
set_option maxRecDepth 100000 in
theorem xyn_35 : j_code jP 56 35 = some (.idiv) := rfl
set_option maxRecDepth 100000 in
theorem xyn_36 : j_code jP 56 36 = some (.bipush 10) := rfl
set_option maxRecDepth 100000 in
theorem xyn_38 : j_code jP 56 38 = some (.irem) := rfl
set_option maxRecDepth 100000 in
theorem xyn_39 : j_code jP 56 39 = some (.iadd) := rfl
set_option maxRecDepth 100000 in
theorem xyn_40 : j_code jP 56 40 = some (.invokevirtual 49) := rfl
set_option maxRecDepth 100000 in
theorem xyn_43 : j_code jP 56 43 = some (.aload_n 0) := rfl
set_option maxRecDepth 100000 in
theorem xyn_44 : j_code jP 56 44 = some (.bipush 48) := rfl
set_option maxRecDepth 100000 in
theorem xyn_46 : j_code jP 56 46 = some (.iload_n 1) := rfl
set_option maxRecDepth 100000 in
theorem xyn_47 : j_code jP 56 47 = some (.bipush 10) := rfl
set_option maxRecDepth 100000 in
theorem xyn_49 : j_code jP 56 49 = some (.irem) := rfl
set_option maxRecDepth 100000 in
theorem xyn_50 : j_code jP 56 50 = some (.iadd) := rfl
set_option maxRecDepth 100000 in
theorem xyn_51 : j_code jP 56 51 = some (.invokevirtual 49) := rfl
set_option maxRecDepth 100000 in
theorem xyn_54 : j_code jP 56 54 = some (.return_) := rfl
theorem xyn_ok {d : Nat} {h h0 : J_H} {T b : List Int32} {x1 : Int32} (H : tT 700 T b) (hl : T.length + 4 ≤ 700) (K : KN h [(325, .inl (6, [.ref 326, .int (nI T.length)])), (326, .inr (.inl (1, b)))] h0) : j_V jP d 56 0 (lv_args 0 [.ref 325, .int x1]) [] h (fun rv h' => rv = none ∧ ∃ b', tT 700 (tnA x1 T) b' ∧ KN h' [(325, .inl (6, [.ref 326, .int (nI (tnA x1 T).length)])), (326, .inr (.inl (1, b')))] h0) := by
  show j_V jP d 56 0 [(0, .ref 325), (1, .int x1)] [] h _
  obtain ⟨lv, elv, L⟩ : ∃ lv, lv = [(0, .ref 325), (1, .int x1)] ∧ LK lv [(0, .ref 325), (1, .int x1)] := ⟨_, rfl, LK.rf⟩
  rw [← elv]
  clear elv
  refine j_V.ldL xyn_M xyn_0 rfl (i := 0) (kd := 2) (v := .ref 325) (pcJ := 1) rfl L rfl rfl rfl ?_
  refine j_V.one xyn_M xyn_1 (by decide) (pcJ := 3) (stJ := [.int 32, .ref 325]) rfl ?_
  refine j_V.cl xyn_M xyn_3 rfl (md := 3) (mj := 57) rfl (by decide) xyp_M (As := [.ref 325, .int 32]) (rest := []) (jk_spl3 (K.at rfl) rfl rfl rfl (Nat.le_of_ble_eq_true rfl) (Nat.le_of_ble_eq_true rfl)) (fun d => xyp_ok H (by first | omega | (simp only [tpA_len]; omega)) (K.fi [325, 326] rfl rfl)) ?_
  rintro r h9 ⟨rfl, b1, H, K9⟩
  have K : KN h9 [(325, .inl (6, [.ref 326, .int (nI (tpA 32 T).length)])), (326, .inr (.inl (1, b1)))] h0 := K.mg K9 rfl rfl
  clear K9
  show j_V jP _ 56 6 lv [] h9 _
  refine j_V.ldL xyn_M xyn_6 rfl (i := 1) (kd := 0) (v := .int x1) (pcJ := 7) rfl L rfl rfl rfl ?_
  refine j_V.one xyn_M xyn_7 (by decide) (pcJ := 9) (stJ := [.int 100, .int x1]) rfl ?_
  refine j_V.icmp xyn_M xyn_9 (t := 23) rfl (fun c9_0 => ?_) (fun c9_0 => ?_)
  · replace c9_0 : x1 < 100 := jd_lt c9_0
    refine j_V.ldL xyn_M xyn_23 rfl (i := 1) (kd := 0) (v := .int x1) (pcJ := 24) rfl L rfl rfl rfl ?_
    refine j_V.one xyn_M xyn_24 (by decide) (pcJ := 26) (stJ := [.int 10, .int x1]) rfl ?_
    refine j_V.icmp xyn_M xyn_26 (t := 43) rfl (fun c26_1 => ?_) (fun c26_1 => ?_)
    · replace c26_1 : x1 < 10 := jd_lt c26_1
      refine j_V.ldL xyn_M xyn_43 rfl (i := 0) (kd := 2) (v := .ref 325) (pcJ := 44) rfl L rfl rfl rfl ?_
      refine j_V.one xyn_M xyn_44 (by decide) (pcJ := 46) (stJ := [.int 48, .ref 325]) rfl ?_
      refine j_V.ldL xyn_M xyn_46 rfl (i := 1) (kd := 0) (v := .int x1) (pcJ := 47) rfl L rfl rfl rfl ?_
      refine j_V.one xyn_M xyn_47 (by decide) (pcJ := 49) (stJ := [.int 10, .int x1, .int 48, .ref 325]) rfl ?_
      refine j_V.one xyn_M xyn_49 (by decide) (pcJ := 50) (stJ := [.int (x1 - x1 / 10 * 10), .int 48, .ref 325]) rfl ?_
      refine j_V.one xyn_M xyn_50 (by decide) (pcJ := 51) (stJ := [.int (48 + (x1 - x1 / 10 * 10)), .ref 325]) rfl ?_
      refine j_V.cl xyn_M xyn_51 rfl (md := 3) (mj := 57) rfl (by decide) xyp_M (As := [.ref 325, .int (48 + (x1 - x1 / 10 * 10))]) (rest := []) (jk_spl3 (K.at rfl) rfl rfl rfl (Nat.le_of_ble_eq_true rfl) (Nat.le_of_ble_eq_true rfl)) (fun d => xyp_ok H (by first | omega | (simp only [tpA_len]; omega)) (K.fi [325, 326] rfl rfl)) ?_
      rintro r h9 ⟨rfl, b2, H, K9⟩
      have K : KN h9 [(325, .inl (6, [.ref 326, .int (nI (tpA (48 + (x1 - x1 / 10 * 10)) (tpA 32 T)).length)])), (326, .inr (.inl (1, b2)))] h0 := K.mg K9 rfl rfl
      clear K9
      show j_V jP _ 56 54 lv [] h9 _
      rw [show tnA x1 T = (tpA (48 + (x1 - x1 / 10 * 10)) (tpA 32 T)) from by unfold tnA; rw [if_pos c26_1, if_pos c9_0]]
      exact j_V.ret xyn_M xyn_54 rfl rfl ⟨rfl, _, H, K⟩
    · replace c26_1 : ¬ (x1 < 10) := jd_ltn c26_1
      refine j_V.ldL xyn_M xyn_29 rfl (i := 0) (kd := 2) (v := .ref 325) (pcJ := 30) rfl L rfl rfl rfl ?_
      refine j_V.one xyn_M xyn_30 (by decide) (pcJ := 32) (stJ := [.int 48, .ref 325]) rfl ?_
      refine j_V.ldL xyn_M xyn_32 rfl (i := 1) (kd := 0) (v := .int x1) (pcJ := 33) rfl L rfl rfl rfl ?_
      refine j_V.one xyn_M xyn_33 (by decide) (pcJ := 35) (stJ := [.int 10, .int x1, .int 48, .ref 325]) rfl ?_
      refine j_V.one xyn_M xyn_35 (by decide) (pcJ := 36) (stJ := [.int (x1 / 10), .int 48, .ref 325]) rfl ?_
      refine j_V.one xyn_M xyn_36 (by decide) (pcJ := 38) (stJ := [.int 10, .int (x1 / 10), .int 48, .ref 325]) rfl ?_
      refine j_V.one xyn_M xyn_38 (by decide) (pcJ := 39) (stJ := [.int ((x1 / 10) - (x1 / 10) / 10 * 10), .int 48, .ref 325]) rfl ?_
      refine j_V.one xyn_M xyn_39 (by decide) (pcJ := 40) (stJ := [.int (48 + ((x1 / 10) - (x1 / 10) / 10 * 10)), .ref 325]) rfl ?_
      refine j_V.cl xyn_M xyn_40 rfl (md := 3) (mj := 57) rfl (by decide) xyp_M (As := [.ref 325, .int (48 + ((x1 / 10) - (x1 / 10) / 10 * 10))]) (rest := []) (jk_spl3 (K.at rfl) rfl rfl rfl (Nat.le_of_ble_eq_true rfl) (Nat.le_of_ble_eq_true rfl)) (fun d => xyp_ok H (by first | omega | (simp only [tpA_len]; omega)) (K.fi [325, 326] rfl rfl)) ?_
      rintro r h9 ⟨rfl, b2, H, K9⟩
      have K : KN h9 [(325, .inl (6, [.ref 326, .int (nI (tpA (48 + ((x1 / 10) - (x1 / 10) / 10 * 10)) (tpA 32 T)).length)])), (326, .inr (.inl (1, b2)))] h0 := K.mg K9 rfl rfl
      clear K9
      show j_V jP _ 56 43 lv [] h9 _
      refine j_V.ldL xyn_M xyn_43 rfl (i := 0) (kd := 2) (v := .ref 325) (pcJ := 44) rfl L rfl rfl rfl ?_
      refine j_V.one xyn_M xyn_44 (by decide) (pcJ := 46) (stJ := [.int 48, .ref 325]) rfl ?_
      refine j_V.ldL xyn_M xyn_46 rfl (i := 1) (kd := 0) (v := .int x1) (pcJ := 47) rfl L rfl rfl rfl ?_
      refine j_V.one xyn_M xyn_47 (by decide) (pcJ := 49) (stJ := [.int 10, .int x1, .int 48, .ref 325]) rfl ?_
      refine j_V.one xyn_M xyn_49 (by decide) (pcJ := 50) (stJ := [.int (x1 - x1 / 10 * 10), .int 48, .ref 325]) rfl ?_
      refine j_V.one xyn_M xyn_50 (by decide) (pcJ := 51) (stJ := [.int (48 + (x1 - x1 / 10 * 10)), .ref 325]) rfl ?_
      refine j_V.cl xyn_M xyn_51 rfl (md := 3) (mj := 57) rfl (by decide) xyp_M (As := [.ref 325, .int (48 + (x1 - x1 / 10 * 10))]) (rest := []) (jk_spl3 (K.at rfl) rfl rfl rfl (Nat.le_of_ble_eq_true rfl) (Nat.le_of_ble_eq_true rfl)) (fun d => xyp_ok H (by first | omega | (simp only [tpA_len]; omega)) (K.fi [325, 326] rfl rfl)) ?_
      rintro r h9 ⟨rfl, b3, H, K9⟩
      have K : KN h9 [(325, .inl (6, [.ref 326, .int (nI (tpA (48 + (x1 - x1 / 10 * 10)) (tpA (48 + ((x1 / 10) - (x1 / 10) / 10 * 10)) (tpA 32 T))).length)])), (326, .inr (.inl (1, b3)))] h0 := K.mg K9 rfl rfl
      clear K9
      show j_V jP _ 56 54 lv [] h9 _
      rw [show tnA x1 T = (tpA (48 + (x1 - x1 / 10 * 10)) (tpA (48 + ((x1 / 10) - (x1 / 10) / 10 * 10)) (tpA 32 T))) from by unfold tnA; rw [if_neg c26_1, if_pos c9_0]]
      exact j_V.ret xyn_M xyn_54 rfl rfl ⟨rfl, _, H, K⟩
  · replace c9_0 : ¬ (x1 < 100) := jd_ltn c9_0
    refine j_V.ldL xyn_M xyn_12 rfl (i := 0) (kd := 2) (v := .ref 325) (pcJ := 13) rfl L rfl rfl rfl ?_
    refine j_V.one xyn_M xyn_13 (by decide) (pcJ := 15) (stJ := [.int 48, .ref 325]) rfl ?_
    refine j_V.ldL xyn_M xyn_15 rfl (i := 1) (kd := 0) (v := .int x1) (pcJ := 16) rfl L rfl rfl rfl ?_
    refine j_V.one xyn_M xyn_16 (by decide) (pcJ := 18) (stJ := [.int 100, .int x1, .int 48, .ref 325]) rfl ?_
    refine j_V.one xyn_M xyn_18 (by decide) (pcJ := 19) (stJ := [.int (x1 / 100), .int 48, .ref 325]) rfl ?_
    refine j_V.one xyn_M xyn_19 (by decide) (pcJ := 20) (stJ := [.int (48 + (x1 / 100)), .ref 325]) rfl ?_
    refine j_V.cl xyn_M xyn_20 rfl (md := 3) (mj := 57) rfl (by decide) xyp_M (As := [.ref 325, .int (48 + (x1 / 100))]) (rest := []) (jk_spl3 (K.at rfl) rfl rfl rfl (Nat.le_of_ble_eq_true rfl) (Nat.le_of_ble_eq_true rfl)) (fun d => xyp_ok H (by first | omega | (simp only [tpA_len]; omega)) (K.fi [325, 326] rfl rfl)) ?_
    rintro r h9 ⟨rfl, b2, H, K9⟩
    have K : KN h9 [(325, .inl (6, [.ref 326, .int (nI (tpA (48 + (x1 / 100)) (tpA 32 T)).length)])), (326, .inr (.inl (1, b2)))] h0 := K.mg K9 rfl rfl
    clear K9
    show j_V jP _ 56 23 lv [] h9 _
    refine j_V.ldL xyn_M xyn_23 rfl (i := 1) (kd := 0) (v := .int x1) (pcJ := 24) rfl L rfl rfl rfl ?_
    refine j_V.one xyn_M xyn_24 (by decide) (pcJ := 26) (stJ := [.int 10, .int x1]) rfl ?_
    refine j_V.icmp xyn_M xyn_26 (t := 43) rfl (fun c26_1 => ?_) (fun c26_1 => ?_)
    · replace c26_1 : x1 < 10 := jd_lt c26_1
      refine j_V.ldL xyn_M xyn_43 rfl (i := 0) (kd := 2) (v := .ref 325) (pcJ := 44) rfl L rfl rfl rfl ?_
      refine j_V.one xyn_M xyn_44 (by decide) (pcJ := 46) (stJ := [.int 48, .ref 325]) rfl ?_
      refine j_V.ldL xyn_M xyn_46 rfl (i := 1) (kd := 0) (v := .int x1) (pcJ := 47) rfl L rfl rfl rfl ?_
      refine j_V.one xyn_M xyn_47 (by decide) (pcJ := 49) (stJ := [.int 10, .int x1, .int 48, .ref 325]) rfl ?_
      refine j_V.one xyn_M xyn_49 (by decide) (pcJ := 50) (stJ := [.int (x1 - x1 / 10 * 10), .int 48, .ref 325]) rfl ?_
      refine j_V.one xyn_M xyn_50 (by decide) (pcJ := 51) (stJ := [.int (48 + (x1 - x1 / 10 * 10)), .ref 325]) rfl ?_
      refine j_V.cl xyn_M xyn_51 rfl (md := 3) (mj := 57) rfl (by decide) xyp_M (As := [.ref 325, .int (48 + (x1 - x1 / 10 * 10))]) (rest := []) (jk_spl3 (K.at rfl) rfl rfl rfl (Nat.le_of_ble_eq_true rfl) (Nat.le_of_ble_eq_true rfl)) (fun d => xyp_ok H (by first | omega | (simp only [tpA_len]; omega)) (K.fi [325, 326] rfl rfl)) ?_
      rintro r h9 ⟨rfl, b3, H, K9⟩
      have K : KN h9 [(325, .inl (6, [.ref 326, .int (nI (tpA (48 + (x1 - x1 / 10 * 10)) (tpA (48 + (x1 / 100)) (tpA 32 T))).length)])), (326, .inr (.inl (1, b3)))] h0 := K.mg K9 rfl rfl
      clear K9
      show j_V jP _ 56 54 lv [] h9 _
      rw [show tnA x1 T = (tpA (48 + (x1 - x1 / 10 * 10)) (tpA (48 + (x1 / 100)) (tpA 32 T))) from by unfold tnA; rw [if_pos c26_1, if_neg c9_0]]
      exact j_V.ret xyn_M xyn_54 rfl rfl ⟨rfl, _, H, K⟩
    · replace c26_1 : ¬ (x1 < 10) := jd_ltn c26_1
      refine j_V.ldL xyn_M xyn_29 rfl (i := 0) (kd := 2) (v := .ref 325) (pcJ := 30) rfl L rfl rfl rfl ?_
      refine j_V.one xyn_M xyn_30 (by decide) (pcJ := 32) (stJ := [.int 48, .ref 325]) rfl ?_
      refine j_V.ldL xyn_M xyn_32 rfl (i := 1) (kd := 0) (v := .int x1) (pcJ := 33) rfl L rfl rfl rfl ?_
      refine j_V.one xyn_M xyn_33 (by decide) (pcJ := 35) (stJ := [.int 10, .int x1, .int 48, .ref 325]) rfl ?_
      refine j_V.one xyn_M xyn_35 (by decide) (pcJ := 36) (stJ := [.int (x1 / 10), .int 48, .ref 325]) rfl ?_
      refine j_V.one xyn_M xyn_36 (by decide) (pcJ := 38) (stJ := [.int 10, .int (x1 / 10), .int 48, .ref 325]) rfl ?_
      refine j_V.one xyn_M xyn_38 (by decide) (pcJ := 39) (stJ := [.int ((x1 / 10) - (x1 / 10) / 10 * 10), .int 48, .ref 325]) rfl ?_
      refine j_V.one xyn_M xyn_39 (by decide) (pcJ := 40) (stJ := [.int (48 + ((x1 / 10) - (x1 / 10) / 10 * 10)), .ref 325]) rfl ?_
      refine j_V.cl xyn_M xyn_40 rfl (md := 3) (mj := 57) rfl (by decide) xyp_M (As := [.ref 325, .int (48 + ((x1 / 10) - (x1 / 10) / 10 * 10))]) (rest := []) (jk_spl3 (K.at rfl) rfl rfl rfl (Nat.le_of_ble_eq_true rfl) (Nat.le_of_ble_eq_true rfl)) (fun d => xyp_ok H (by first | omega | (simp only [tpA_len]; omega)) (K.fi [325, 326] rfl rfl)) ?_
      rintro r h9 ⟨rfl, b3, H, K9⟩
      have K : KN h9 [(325, .inl (6, [.ref 326, .int (nI (tpA (48 + ((x1 / 10) - (x1 / 10) / 10 * 10)) (tpA (48 + (x1 / 100)) (tpA 32 T))).length)])), (326, .inr (.inl (1, b3)))] h0 := K.mg K9 rfl rfl
      clear K9
      show j_V jP _ 56 43 lv [] h9 _
      refine j_V.ldL xyn_M xyn_43 rfl (i := 0) (kd := 2) (v := .ref 325) (pcJ := 44) rfl L rfl rfl rfl ?_
      refine j_V.one xyn_M xyn_44 (by decide) (pcJ := 46) (stJ := [.int 48, .ref 325]) rfl ?_
      refine j_V.ldL xyn_M xyn_46 rfl (i := 1) (kd := 0) (v := .int x1) (pcJ := 47) rfl L rfl rfl rfl ?_
      refine j_V.one xyn_M xyn_47 (by decide) (pcJ := 49) (stJ := [.int 10, .int x1, .int 48, .ref 325]) rfl ?_
      refine j_V.one xyn_M xyn_49 (by decide) (pcJ := 50) (stJ := [.int (x1 - x1 / 10 * 10), .int 48, .ref 325]) rfl ?_
      refine j_V.one xyn_M xyn_50 (by decide) (pcJ := 51) (stJ := [.int (48 + (x1 - x1 / 10 * 10)), .ref 325]) rfl ?_
      refine j_V.cl xyn_M xyn_51 rfl (md := 3) (mj := 57) rfl (by decide) xyp_M (As := [.ref 325, .int (48 + (x1 - x1 / 10 * 10))]) (rest := []) (jk_spl3 (K.at rfl) rfl rfl rfl (Nat.le_of_ble_eq_true rfl) (Nat.le_of_ble_eq_true rfl)) (fun d => xyp_ok H (by first | omega | (simp only [tpA_len]; omega)) (K.fi [325, 326] rfl rfl)) ?_
      rintro r h9 ⟨rfl, b4, H, K9⟩
      have K : KN h9 [(325, .inl (6, [.ref 326, .int (nI (tpA (48 + (x1 - x1 / 10 * 10)) (tpA (48 + ((x1 / 10) - (x1 / 10) / 10 * 10)) (tpA (48 + (x1 / 100)) (tpA 32 T)))).length)])), (326, .inr (.inl (1, b4)))] h0 := K.mg K9 rfl rfl
      clear K9
      show j_V jP _ 56 54 lv [] h9 _
      rw [show tnA x1 T = (tpA (48 + (x1 - x1 / 10 * 10)) (tpA (48 + ((x1 / 10) - (x1 / 10) / 10 * 10)) (tpA (48 + (x1 / 100)) (tpA 32 T)))) from by unfold tnA; rw [if_neg c26_1, if_neg c9_0]]
      exact j_V.ret xyn_M xyn_54 rfl rfl ⟨rfl, _, H, K⟩
set_option maxRecDepth 100000 in
theorem xyw_M : j_meth jP 55 = some (yX6_putWord, cX6_putWord, 5, none, 1, false, 6) := rfl
set_option maxRecDepth 100000 in
theorem xyw_0 : j_code jP 55 0 = some (.bipush 56) := rfl
set_option maxRecDepth 100000 in
theorem xyw_2 : j_code jP 55 2 = some (.istore_n 3) := rfl
set_option maxRecDepth 100000 in
theorem xyw_3 : j_code jP 55 3 = some (.iload_n 3) := rfl
set_option maxRecDepth 100000 in
theorem xyw_4 : j_code jP 55 4 = some (.ifCond .lt 30) := rfl
set_option maxRecDepth 100000 in
theorem xyw_7 : j_code jP 55 7 = some (.lload_n 1) := rfl
set_option maxRecDepth 100000 in
theorem xyw_8 : j_code jP 55 8 = some (.iload_n 3) := rfl
set_option maxRecDepth 100000 in
theorem xyw_9 : j_code jP 55 9 = some (.lshr) := rfl
set_option maxRecDepth 100000 in
theorem xyw_10 : j_code jP 55 10 = some (.ldc2_w 95) := rfl
set_option maxRecDepth 100000 in
theorem xyw_13 : j_code jP 55 13 = some (.land) := rfl
set_option maxRecDepth 100000 in
theorem xyw_14 : j_code jP 55 14 = some (.l2i) := rfl
set_option maxRecDepth 100000 in
theorem xyw_15 : j_code jP 55 15 = some (.istore 4) := rfl
set_option maxRecDepth 100000 in
theorem xyw_17 : j_code jP 55 17 = some (.iload 4) := rfl
set_option maxRecDepth 100000 in
theorem xyw_19 : j_code jP 55 19 = some (.ifCond .eq 9) := rfl
set_option maxRecDepth 100000 in
theorem xyw_22 : j_code jP 55 22 = some (.aload_n 0) := rfl
set_option maxRecDepth 100000 in
theorem xyw_23 : j_code jP 55 23 = some (.iload 4) := rfl
set_option maxRecDepth 100000 in
theorem xyw_25 : j_code jP 55 25 = some (.invokevirtual 49) := rfl
set_option maxRecDepth 100000 in
theorem xyw_28 : j_code jP 55 28 = some (.iinc 3 (-8)) := rfl
set_option maxRecDepth 100000 in
theorem xyw_31 : j_code jP 55 31 = some (.goto (-28)) := rfl
set_option maxRecDepth 100000 in
theorem xyw_34 : j_code jP 55 34 = some (.return_) := rfl
theorem i8_z {s : Int32} (h : s + 8 = nI (8 * 0)) : s = -8 := by
  have := congrArg (fun z => z - 8) h
  rw [Int32.add_sub_cancel] at this
  rw [this]
  decide
theorem xyw_l {d : Nat} {w : Int64} : ∀ (f : Nat) (s : Int32) (T b : List Int32) (lv : J_L) (h h0 : J_H), s + 8 = nI (8 * f) → f ≤ 8 → tT 700 T b → T.length + f ≤ 700 → LK lv [(0, .ref 325), (1, .long w), (3, .int s)] → KN h [(325, .inl (6, [.ref 326, .int (nI T.length)])), (326, .inr (.inl (1, b)))] h0 → j_V jP d 55 3 lv [] h (fun rv h' => rv = none ∧ ∃ b', tT 700 (twA w f T) b' ∧ KN h' [(325, .inl (6, [.ref 326, .int (nI (twA w f T).length)])), (326, .inr (.inl (1, b')))] h0) := by
  intro f
  induction f with
  | zero =>
    intro s T b lv h h0 hs hf H hl L K
    refine j_V.ldL xyw_M xyw_3 rfl (i := 3) (kd := 0) (v := .int s) (pcJ := 4) rfl L rfl rfl rfl ?_
    refine j_V.ifc xyw_M xyw_4 (t := 34) rfl (fun c4_0 => ?_) (fun c4_0 => ?_)
    · replace c4_0 : s < 0 := jd_lt c4_0
      exact j_V.ret xyw_M xyw_34 rfl rfl ⟨rfl, _, H, K⟩
    · replace c4_0 : ¬ (s < 0) := jd_ltn c4_0
      exact absurd (by rw [i8_z hs]; decide) c4_0
  | succ f ih =>
    intro s T b lv h h0 hs hf H hl L K
    obtain rfl := i8_dn hs
    refine j_V.ldL xyw_M xyw_3 rfl (i := 3) (kd := 0) (v := .int (nI (8 * f))) (pcJ := 4) rfl L rfl rfl rfl ?_
    refine j_V.ifc xyw_M xyw_4 (t := 34) rfl (fun c9 => ?_) (fun c9 => ?_)
    · replace c9 := jd_lt c9
      exact absurd c9 (nI_pos (by omega))
    · skip
      refine j_V.ldL xyw_M xyw_7 rfl (i := 1) (kd := 1) (v := .long w) (pcJ := 8) rfl L rfl rfl rfl ?_
      refine j_V.ldL xyw_M xyw_8 rfl (i := 3) (kd := 0) (v := .int (nI (8 * f))) (pcJ := 9) rfl L rfl rfl rfl ?_
      refine j_V.one xyw_M xyw_9 (by decide) (pcJ := 10) (stJ := [.long (w >>> ((nI (8 * f)).toInt64 &&& 63))]) rfl ?_
      refine j_V.one xyw_M xyw_10 (by decide) (pcJ := 13) (stJ := [.long (255 : Int64), .long (w >>> ((nI (8 * f)).toInt64 &&& 63))]) rfl ?_
      refine j_V.one xyw_M xyw_13 (by decide) (pcJ := 14) (stJ := [.long ((w >>> ((nI (8 * f)).toInt64 &&& 63)) &&& (255 : Int64))]) rfl ?_
      refine j_V.one xyw_M xyw_14 (by decide) (pcJ := 15) (stJ := [.int (((w >>> ((nI (8 * f)).toInt64 &&& 63)) &&& (255 : Int64))).toInt32]) rfl ?_
      refine j_V.stL2 xyw_M xyw_15 rfl (i := 4) (kd := 0) (kl' := [(0, .ref 325), (1, .long w), (3, .int (nI (8 * f))), (4, .int (((w >>> ((nI (8 * f)).toInt64 &&& 63)) &&& (255 : Int64))).toInt32)]) (pcJ := 17) rfl L rfl (by decide) rfl rfl rfl (fun lv L => ?_)
      refine j_V.ldL xyw_M xyw_17 rfl (i := 4) (kd := 0) (v := .int (((w >>> ((nI (8 * f)).toInt64 &&& 63)) &&& (255 : Int64))).toInt32) (pcJ := 19) rfl L rfl rfl rfl ?_
      refine j_V.ifc xyw_M xyw_19 (t := 28) rfl (fun c19_0 => ?_) (fun c19_0 => ?_)
      · replace c19_0 : (((w >>> ((nI (8 * f)).toInt64 &&& 63)) &&& (255 : Int64))).toInt32 = 0 := jd_eq c19_0
        refine j_V.inL2 xyw_M xyw_28 (i := 3) (kl' := [(0, .ref 325), (1, .long w), (3, .int ((nI (8 * f)) + (-8))), (4, .int (((w >>> ((nI (8 * f)).toInt64 &&& 63)) &&& (255 : Int64))).toInt32)]) (pcJ := 31) L rfl rfl rfl rfl (fun lv L => ?_)
        refine j_V.gto xyw_M xyw_31 (t := 3) rfl ?_
        rw [show twA w (f + 1) T = twA w f T from congrArg (twA w f) (if_pos c19_0)]
        exact ih _ _ _ _ _ _ (i8_up _) (by omega) H (by omega) (L.sub ⟨rfl, rfl, rfl, trivial⟩) K
      · replace c19_0 : ¬ ((((w >>> ((nI (8 * f)).toInt64 &&& 63)) &&& (255 : Int64))).toInt32 = 0) := jd_eqn c19_0
        refine j_V.ldL xyw_M xyw_22 rfl (i := 0) (kd := 2) (v := .ref 325) (pcJ := 23) rfl L rfl rfl rfl ?_
        refine j_V.ldL xyw_M xyw_23 rfl (i := 4) (kd := 0) (v := .int (((w >>> ((nI (8 * f)).toInt64 &&& 63)) &&& (255 : Int64))).toInt32) (pcJ := 25) rfl L rfl rfl rfl ?_
        refine j_V.cl xyw_M xyw_25 rfl (md := 3) (mj := 57) rfl (by decide) xyp_M (As := [.ref 325, .int (((w >>> ((nI (8 * f)).toInt64 &&& 63)) &&& (255 : Int64))).toInt32]) (rest := []) (jk_spl3 (K.at rfl) rfl rfl rfl (Nat.le_of_ble_eq_true rfl) (Nat.le_of_ble_eq_true rfl)) (fun d => xyp_ok H (by omega) (K.fi [325, 326] rfl rfl)) ?_
        rintro r h9 ⟨rfl, b1, H, K9⟩
        have K : KN h9 [(325, .inl (6, [.ref 326, .int (nI (tpA ((((w >>> ((nI (8 * f)).toInt64 &&& 63)) &&& (255 : Int64))).toInt32) T).length)])), (326, .inr (.inl (1, b1)))] h0 := K.mg K9 rfl rfl
        clear K9
        show j_V jP _ 55 28 lv [] h9 _
        refine j_V.inL2 xyw_M xyw_28 (i := 3) (kl' := [(0, .ref 325), (1, .long w), (3, .int ((nI (8 * f)) + (-8))), (4, .int (((w >>> ((nI (8 * f)).toInt64 &&& 63)) &&& (255 : Int64))).toInt32)]) (pcJ := 31) L rfl rfl rfl rfl (fun lv L => ?_)
        refine j_V.gto xyw_M xyw_31 (t := 3) rfl ?_
        rw [show twA w (f + 1) T = twA w f (tpA ((((w >>> ((nI (8 * f)).toInt64 &&& 63)) &&& (255 : Int64))).toInt32) T) from congrArg (twA w f) (if_neg c19_0)]
        exact ih _ _ _ _ _ _ (i8_up _) (by omega) H (by rw [tpA_len]; omega) (L.sub ⟨rfl, rfl, rfl, trivial⟩) K
theorem xyw_ok {d : Nat} {h h0 : J_H} {T b : List Int32} {w : Int64} (H : tT 700 T b) (hl : T.length + 8 ≤ 700) (K : KN h [(325, .inl (6, [.ref 326, .int (nI T.length)])), (326, .inr (.inl (1, b)))] h0) : j_V jP d 55 0 (lv_args 0 [.ref 325, .long w]) [] h (fun rv h' => rv = none ∧ ∃ b', tT 700 (twA w 8 T) b' ∧ KN h' [(325, .inl (6, [.ref 326, .int (nI (twA w 8 T).length)])), (326, .inr (.inl (1, b')))] h0) := by
  show j_V jP d 55 0 [(0, .ref 325), (1, .long w)] [] h _
  obtain ⟨lv, elv, L⟩ : ∃ lv, lv = [(0, .ref 325), (1, .long w)] ∧ LK lv [(0, .ref 325), (1, .long w)] := ⟨_, rfl, LK.rf⟩
  rw [← elv]
  clear elv
  refine j_V.one xyw_M xyw_0 (by decide) (pcJ := 2) (stJ := [.int 56]) rfl ?_
  refine j_V.stL2 xyw_M xyw_2 rfl (i := 3) (kd := 0) (kl' := [(0, .ref 325), (1, .long w), (3, .int 56)]) (pcJ := 3) rfl L rfl (by decide) rfl rfl rfl (fun lv L => ?_)
  exact xyw_l 8 _ _ _ _ _ _ (by decide) (by decide) H hl L K

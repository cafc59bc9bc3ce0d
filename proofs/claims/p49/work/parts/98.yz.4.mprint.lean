/-! the reference's print, its text told: written by wip/py/gen_tx4.py -/
theorem j_V.dn {P : j_P} {d mi pc : Nat} {lv : J_L} {st : List Value} {h : J_H} {Q : Option Value → J_H → Prop} (k : j_V P (d + 1) mi pc lv st h Q) : j_V P d mi pc lv st h Q := fun f r h' hj => k f r h' (j_moreD P f d mi pc lv st h (r, h') hj)
theorem lg_cmp_0 {x y : Int64} : lg_cmp x y = 0 ↔ x = y := by
  have h := jk_lcmp x y
  have e : j_cond .ne (lg_cmp x y) 0 = !decide (lg_cmp x y = 0) := rfl
  rw [e] at h
  have h := congrArg Bool.not h
  rw [Bool.not_not, Bool.not_not] at h
  exact decide_eq_decide.mp h
theorem i99 {x : Int32} : (99 < x) ↔ ¬ x < 100 := by
  rw [Int32.lt_iff_toInt_lt, Int32.lt_iff_toInt_lt, show (99 : Int32).toInt = 99 from rfl, show (100 : Int32).toInt = 100 from rfl]
  omega
theorem i09 {x : Int32} : (9 < x) ↔ ¬ x < 10 := by
  rw [Int32.lt_iff_toInt_lt, Int32.lt_iff_toInt_lt, show (9 : Int32).toInt = 9 from rfl, show (10 : Int32).toInt = 10 from rfl]
  omega
def rtN (nm : List Int64) (x : Int32) (T : List Int32) : List Int32 := tmA (gL nm x) 9 (tpA 32 T)
def rtK (w : List Int32) (x k : Int32) (T : List Int32) : List Int32 := tnA (m_st w x (2 + k)) T
def rtS (w : List Int32) (nm : List Int64) (x : Int32) (T : List Int32) : List Int32 := tpA 59 (tlA (rtK w x) (lpN (m_st w x 1) 0) 0 (tnA (m_st w x 0) (rtN nm x (tmA W0 9 T))))
def rtR (w : List Int32) (nm : List Int64) (x : Int32) (T : List Int32) : List Int32 := tpA 59 (tnA (m_of w x 5) (tmA W3 9 (tpA 32 (tnA (m_of w x 4) (tmA W2 9 (tpA 32 (tnA (m_of w x 3) (rtN nm (m_of w x 2) (rtN nm (m_of w x 1) (tnA (m_of w x 0) (rtN nm (7 + x) (tmA W1 9 T))))))))))))
def rtW (S n : Nat) (w : List Int32) (nm : List Int64) : List Int32 := tlA (rtR w nm) n (nI 0) (tlA (rtS w nm) S (nI 0) [])
theorem rtN_len {nm : List Int64} {x : Int32} {T : List Int32} : (rtN nm x T).length ≤ T.length + 10 := Nat.le_trans tmA_len (by rw [tpA_len]; omega)
theorem rtK_len {w : List Int32} {x k : Int32} {T : List Int32} : (rtK w x k T).length ≤ T.length + 4 := tnA_len
theorem rtS_len {w : List Int32} {nm : List Int64} {x : Int32} {T : List Int32} : (rtS w nm x T).length ≤ T.length + 24 + 4 * lpN (m_st w x 1) 0 := by
  unfold rtS
  have h1 : (tmA W0 9 T).length ≤ T.length + 9 := tmA_len
  generalize tmA W0 9 T = T1 at h1 ⊢
  have h2 : (rtN nm x T1).length ≤ T1.length + 10 := rtN_len
  generalize rtN nm x T1 = T2 at h2 ⊢
  have h3 : (tnA (m_st w x 0) T2).length ≤ T2.length + 4 := tnA_len
  generalize tnA (m_st w x 0) T2 = T3 at h3 ⊢
  have h4 := tlA_len (F := rtK w x) (fun i T => rtK_len) (lpN (m_st w x 1) 0) 0 T3
  rw [tpA_len]
  omega
theorem rtR_len {w : List Int32} {nm : List Int64} {x : Int32} {T : List Int32} : (rtR w nm x T).length ≤ T.length + 76 := by
  unfold rtR
  have h1 : (tmA W1 9 T).length ≤ T.length + 9 := tmA_len
  generalize tmA W1 9 T = T1 at h1 ⊢
  have h2 : (rtN nm (7 + x) T1).length ≤ T1.length + 10 := rtN_len
  generalize rtN nm (7 + x) T1 = T2 at h2 ⊢
  have h3 : (tnA (m_of w x 0) T2).length ≤ T2.length + 4 := tnA_len
  generalize tnA (m_of w x 0) T2 = T3 at h3 ⊢
  have h4 : (rtN nm (m_of w x 1) T3).length ≤ T3.length + 10 := rtN_len
  generalize rtN nm (m_of w x 1) T3 = T4 at h4 ⊢
  have h5 : (rtN nm (m_of w x 2) T4).length ≤ T4.length + 10 := rtN_len
  generalize rtN nm (m_of w x 2) T4 = T5 at h5 ⊢
  have h6 : (tnA (m_of w x 3) T5).length ≤ T5.length + 4 := tnA_len
  generalize tnA (m_of w x 3) T5 = T6 at h6 ⊢
  have h7 : (tmA W2 9 (tpA 32 T6)).length ≤ (tpA 32 T6).length + 9 := tmA_len
  rw [tpA_len] at h7
  generalize tmA W2 9 (tpA 32 T6) = T7 at h7 ⊢
  have h8 : (tnA (m_of w x 4) T7).length ≤ T7.length + 4 := tnA_len
  generalize tnA (m_of w x 4) T7 = T8 at h8 ⊢
  have h9 : (tmA W3 9 (tpA 32 T8)).length ≤ (tpA 32 T8).length + 9 := tmA_len
  rw [tpA_len] at h9
  generalize tmA W3 9 (tpA 32 T8) = T9 at h9 ⊢
  have hA : (tnA (m_of w x 5) T9).length ≤ T9.length + 4 := tnA_len
  generalize tnA (m_of w x 5) T9 = TA at hA ⊢
  rw [tpA_len]
  omega
set_option maxRecDepth 100000 in
theorem myp_M : j_meth jP 291 = some (yX10_prints, cX10_prints, 2, none, 1, false, 10) := rfl
set_option maxRecDepth 100000 in
theorem myp_0 : j_code jP 291 0 = some (.aload_n 0) := rfl
set_option maxRecDepth 100000 in
theorem myp_1 : j_code jP 291 1 = some (.getfield 51) := rfl
set_option maxRecDepth 100000 in
theorem myp_4 : j_code jP 291 4 = some (.aload_n 0) := rfl
set_option maxRecDepth 100000 in
theorem myp_5 : j_code jP 291 5 = some (.getfield 365) := rfl
set_option maxRecDepth 100000 in
theorem myp_8 : j_code jP 291 8 = some (.iload_n 1) := rfl
set_option maxRecDepth 100000 in
theorem myp_9 : j_code jP 291 9 = some (.i2b) := rfl
set_option maxRecDepth 100000 in
theorem myp_10 : j_code jP 291 10 = some (.bastore) := rfl
set_option maxRecDepth 100000 in
theorem myp_11 : j_code jP 291 11 = some (.aload_n 0) := rfl
set_option maxRecDepth 100000 in
theorem myp_12 : j_code jP 291 12 = some (.dup) := rfl
set_option maxRecDepth 100000 in
theorem myp_13 : j_code jP 291 13 = some (.getfield 365) := rfl
set_option maxRecDepth 100000 in
theorem myp_16 : j_code jP 291 16 = some (.iconst 1) := rfl
set_option maxRecDepth 100000 in
theorem myp_17 : j_code jP 291 17 = some (.iadd) := rfl
set_option maxRecDepth 100000 in
theorem myp_18 : j_code jP 291 18 = some (.putfield 365) := rfl
set_option maxRecDepth 100000 in
theorem myp_21 : j_code jP 291 21 = some (.return_) := rfl
theorem myp_ok {d : Nat} {h h0 : J_H} {u : Nat → Value} {th sst : Int32} {T b : List Int32} {x1 : Int32} (H : tT 1400 T b) (hl : T.length < 1400) (K : KN h [(359, .inl (10, [.int th, .ref 360, .ref 361, .ref 362, .ref 363, .ref 364, .ref 365, .ref 366, .ref 367, (u 9), .int sst, (u 11), (u 12), (u 13), (u 14), (u 15), (u 16), (u 17), (u 18), (u 19), (u 20), (u 21), .ref 368, (u 23), .ref 369, .ref 370, .ref 371, .int (nI T.length)])), (371, .inr (.inl (1, b)))] h0) : j_V jP d 291 0 (lv_args 0 [.ref 359, .int x1]) [] h (fun rv h' => rv = none ∧ ∃ b', tT 1400 (tpA x1 T) b' ∧ KN h' [(359, .inl (10, [.int th, .ref 360, .ref 361, .ref 362, .ref 363, .ref 364, .ref 365, .ref 366, .ref 367, (u 9), .int sst, (u 11), (u 12), (u 13), (u 14), (u 15), (u 16), (u 17), (u 18), (u 19), (u 20), (u 21), .ref 368, (u 23), .ref 369, .ref 370, .ref 371, .int (nI (tpA x1 T).length)])), (371, .inr (.inl (1, b')))] h0) := by
  show j_V jP d 291 0 [(0, .ref 359), (1, .int x1)] [] h _
  obtain ⟨lv, elv, L⟩ : ∃ lv, lv = [(0, .ref 359), (1, .int x1)] ∧ LK lv [(0, .ref 359), (1, .int x1)] := ⟨_, rfl, LK.rf⟩
  rw [← elv]
  clear elv
  refine j_V.ldL myp_M myp_0 rfl (i := 0) (kd := 2) (v := .ref 359) (pcJ := 1) rfl L rfl rfl rfl ?_
  refine j_V.getK myp_M myp_1 (ci := 10) (j := 26) rfl K rfl rfl ?_
  refine j_V.ldL myp_M myp_4 rfl (i := 0) (kd := 2) (v := .ref 359) (pcJ := 5) rfl L rfl rfl rfl ?_
  refine j_V.getK myp_M myp_5 (ci := 10) (j := 27) rfl K rfl rfl ?_
  refine j_V.ldL myp_M myp_8 rfl (i := 1) (kd := 0) (v := .int x1) (pcJ := 9) rfl L rfl rfl rfl ?_
  refine j_V.one myp_M myp_9 (by decide) (pcJ := 10) (stJ := [.int (x1).toInt8.toInt32, .int (nI T.length), .ref 371]) rfl ?_
  refine j_V.baA myp_M myp_10 (n := T.length) (k' := [(359, .inl (10, [.int th, .ref 360, .ref 361, .ref 362, .ref 363, .ref 364, .ref 365, .ref 366, .ref 367, (u 9), .int sst, (u 11), (u 12), (u 13), (u 14), (u 15), (u 16), (u 17), (u 18), (u 19), (u 20), (u 21), .ref 368, (u 23), .ref 369, .ref 370, .ref 371, .int (nI T.length)])), (371, .inr (.inl (1, (b.set T.length ((x1).toInt8.toInt32).toInt8.toInt32))))]) K rfl (by omega) rfl (fun h K hlt => ?_)
  refine j_V.ldL myp_M myp_11 rfl (i := 0) (kd := 2) (v := .ref 359) (pcJ := 12) rfl L rfl rfl rfl ?_
  refine j_V.one myp_M myp_12 (by decide) (pcJ := 13) (stJ := [.ref 359, .ref 359]) rfl ?_
  refine j_V.getK myp_M myp_13 (ci := 10) (j := 27) rfl K rfl rfl ?_
  refine j_V.one myp_M myp_16 (by decide) (pcJ := 17) (stJ := [.int 1, .int (nI T.length), .ref 359]) rfl ?_
  refine j_V.one myp_M myp_17 (by decide) (pcJ := 18) (stJ := [.int ((nI T.length) + 1), .ref 359]) rfl ?_
  refine j_V.putK myp_M myp_18 (ci := 10) (j := 27) (k' := [(359, .inl (10, [.int th, .ref 360, .ref 361, .ref 362, .ref 363, .ref 364, .ref 365, .ref 366, .ref 367, (u 9), .int sst, (u 11), (u 12), (u 13), (u 14), (u 15), (u 16), (u 17), (u 18), (u 19), (u 20), (u 21), .ref 368, (u 23), .ref 369, .ref 370, .ref 371, .int ((nI T.length) + 1)])), (371, .inr (.inl (1, (b.set T.length ((x1).toInt8.toInt32).toInt8.toInt32))))]) rfl K rfl (Nat.le_of_ble_eq_true rfl) rfl (Or.inl rfl) rfl rfl (fun h K => ?_)
  exact j_V.ret myp_M myp_21 rfl rfl ⟨rfl, _, H.put (H.1 ▸ hlt), by rw [tpA_n]; exact K⟩
set_option maxRecDepth 100000 in
theorem myn_M : j_meth jP 294 = some (yX10_printsNumber, cX10_printsNumber, 2, none, 1, false, 10) := rfl
set_option maxRecDepth 100000 in
theorem myn_0 : j_code jP 294 0 = some (.aload_n 0) := rfl
set_option maxRecDepth 100000 in
theorem myn_1 : j_code jP 294 1 = some (.bipush 32) := rfl
set_option maxRecDepth 100000 in
theorem myn_3 : j_code jP 294 3 = some (.invokevirtual 370) := rfl
set_option maxRecDepth 100000 in
theorem myn_6 : j_code jP 294 6 = some (.iload_n 1) := rfl
set_option maxRecDepth 100000 in
theorem myn_7 : j_code jP 294 7 = some (.bipush 99) := rfl
set_option maxRecDepth 100000 in
theorem myn_9 : j_code jP 294 9 = some (.if_icmp .le 14) := rfl
set_option maxRecDepth 100000 in
theorem myn_12 : j_code jP 294 12 = some (.aload_n 0) := rfl
set_option maxRecDepth 100000 in
theorem myn_13 : j_code jP 294 13 = some (.bipush 48) := rfl
set_option maxRecDepth 100000 in
theorem myn_15 : j_code jP 294 15 = some (.iload_n 1) := rfl
set_option maxRecDepth 100000 in
theorem myn_16 : j_code jP 294 16 = some (.bipush 100) := rfl
set_option maxRecDepth 100000 in
theorem myn_18 : j_code jP 294 18 = some (.idiv) := rfl
set_option maxRecDepth 100000 in
theorem myn_19 : j_code jP 294 19 = some (.iadd) := rfl
set_option maxRecDepth 100000 in
theorem myn_20 : j_code jP 294 20 = some (.invokevirtual 370) := rfl
set_option maxRecDepth 100000 in
theorem myn_23 : j_code jP 294 23 = some (.iload_n 1) := rfl
set_option maxRecDepth 100000 in
theorem myn_24 : j_code jP 294 24 = some (.bipush 9) := rfl
set_option maxRecDepth 100000 in
theorem myn_26 : j_code jP 294 26 = some (.if_icmp .le 17) := rfl
set_option maxRecDepth 100000 in
theorem myn_29 : j_code jP 294 29 = some (.aload_n 0) := rfl
set_option maxRecDepth 100000 in
theorem myn_30 : j_code jP 294 30 = some (.bipush 48) := rfl
set_option maxRecDepth 100000 in
theorem myn_32 : j_code jP 294 32 = some (.iload_n 1) := rfl
set_option maxRecDepth 100000 in
theorem myn_33 : j_code jP 294 33 = some (.bipush 10) := rfl
set_option maxRecDepth 100000 in
theorem myn_35 : j_code jP 294 35 = some (.idiv) := rfl
set_option maxRecDepth 100000 in
theorem myn_36 : j_code jP 294 36 = some (.bipush 10) := rfl
set_option maxRecDepth 100000 in
theorem myn_38 : j_code jP 294 38 = some (.irem) := rfl
set_option maxRecDepth 100000 in
theorem myn_39 : j_code jP 294 39 = some (.iadd) := rfl
set_option maxRecDepth 100000 in
theorem myn_40 : j_code jP 294 40 = some (.invokevirtual 370) := rfl
set_option maxRecDepth 100000 in
theorem myn_43 : j_code jP 294 43 = some (.aload_n 0) := rfl
set_option maxRecDepth 100000 in
theorem myn_44 : j_code jP 294 44 = some (.bipush 48) := rfl
set_option maxRecDepth 100000 in
theorem myn_46 : j_code jP 294 46 = some (.iload_n 1) := rfl
set_option maxRecDepth 100000 in
theorem myn_47 : j_code jP 294 47 = some (.bipush 10) := rfl
set_option maxRecDepth 100000 in
theorem myn_49 : j_code jP 294 49 = some (.irem) := rfl
set_option maxRecDepth 100000 in
theorem myn_50 : j_code jP 294 50 = some (.iadd) := rfl
set_option maxRecDepth 100000 in
theorem myn_51 : j_code jP 294 51 = some (.invokevirtual 370) := rfl
set_option maxRecDepth 100000 in
theorem myn_54 : j_code jP 294 54 = some (.return_) := rfl
theorem myn_ok {d : Nat} {h h0 : J_H} {u : Nat → Value} {th sst : Int32} {T b : List Int32} {x1 : Int32} (H : tT 1400 T b) (hl : T.length + 4 ≤ 1400) (K : KN h [(359, .inl (10, [.int th, .ref 360, .ref 361, .ref 362, .ref 363, .ref 364, .ref 365, .ref 366, .ref 367, (u 9), .int sst, (u 11), (u 12), (u 13), (u 14), (u 15), (u 16), (u 17), (u 18), (u 19), (u 20), (u 21), .ref 368, (u 23), .ref 369, .ref 370, .ref 371, .int (nI T.length)])), (371, .inr (.inl (1, b)))] h0) : j_V jP d 294 0 (lv_args 0 [.ref 359, .int x1]) [] h (fun rv h' => rv = none ∧ ∃ b', tT 1400 (tnA x1 T) b' ∧ KN h' [(359, .inl (10, [.int th, .ref 360, .ref 361, .ref 362, .ref 363, .ref 364, .ref 365, .ref 366, .ref 367, (u 9), .int sst, (u 11), (u 12), (u 13), (u 14), (u 15), (u 16), (u 17), (u 18), (u 19), (u 20), (u 21), .ref 368, (u 23), .ref 369, .ref 370, .ref 371, .int (nI (tnA x1 T).length)])), (371, .inr (.inl (1, b')))] h0) := by
  show j_V jP d 294 0 [(0, .ref 359), (1, .int x1)] [] h _
  obtain ⟨lv, elv, L⟩ : ∃ lv, lv = [(0, .ref 359), (1, .int x1)] ∧ LK lv [(0, .ref 359), (1, .int x1)] := ⟨_, rfl, LK.rf⟩
  rw [← elv]
  clear elv
  refine j_V.ldL myn_M myn_0 rfl (i := 0) (kd := 2) (v := .ref 359) (pcJ := 1) rfl L rfl rfl rfl ?_
  refine j_V.one myn_M myn_1 (by decide) (pcJ := 3) (stJ := [.int 32, .ref 359]) rfl ?_
  refine j_V.cl myn_M myn_3 rfl (md := 3) (mj := 291) rfl (by decide) myp_M (As := [.ref 359, .int 32]) (rest := []) (jk_spl3 (K.at rfl) rfl rfl rfl (Nat.le_of_ble_eq_true rfl) (Nat.le_of_ble_eq_true rfl)) (fun d => myp_ok (u := u) H (by omega) (K.fi [359, 371] rfl rfl)) ?_
  rintro r h9 ⟨rfl, b1, H, K9⟩
  have K : KN h9 [(359, .inl (10, [.int th, .ref 360, .ref 361, .ref 362, .ref 363, .ref 364, .ref 365, .ref 366, .ref 367, (u 9), .int sst, (u 11), (u 12), (u 13), (u 14), (u 15), (u 16), (u 17), (u 18), (u 19), (u 20), (u 21), .ref 368, (u 23), .ref 369, .ref 370, .ref 371, .int (nI (tpA 32 T).length)])), (371, .inr (.inl (1, b1)))] h0 := K.mg K9 rfl rfl
  clear K9
  show j_V jP _ 294 6 lv [] h9 _
  have q49 : (tpA 32 T).length ≤ T.length + 1 := Nat.le_trans (Nat.le_of_eq tpA_len) (by omega)
  refine j_V.ldL myn_M myn_6 rfl (i := 1) (kd := 0) (v := .int x1) (pcJ := 7) rfl L rfl rfl rfl ?_
  refine j_V.one myn_M myn_7 (by decide) (pcJ := 9) (stJ := [.int 99, .int x1]) rfl ?_
  refine j_V.icmp myn_M myn_9 (t := 23) rfl (fun c9_0 => ?_) (fun c9_0 => ?_)
  · replace c9_0 : ¬ (99 < x1) := jd_le c9_0
    refine j_V.ldL myn_M myn_23 rfl (i := 1) (kd := 0) (v := .int x1) (pcJ := 24) rfl L rfl rfl rfl ?_
    refine j_V.one myn_M myn_24 (by decide) (pcJ := 26) (stJ := [.int 9, .int x1]) rfl ?_
    refine j_V.icmp myn_M myn_26 (t := 43) rfl (fun c26_1 => ?_) (fun c26_1 => ?_)
    · replace c26_1 : ¬ (9 < x1) := jd_le c26_1
      refine j_V.ldL myn_M myn_43 rfl (i := 0) (kd := 2) (v := .ref 359) (pcJ := 44) rfl L rfl rfl rfl ?_
      refine j_V.one myn_M myn_44 (by decide) (pcJ := 46) (stJ := [.int 48, .ref 359]) rfl ?_
      refine j_V.ldL myn_M myn_46 rfl (i := 1) (kd := 0) (v := .int x1) (pcJ := 47) rfl L rfl rfl rfl ?_
      refine j_V.one myn_M myn_47 (by decide) (pcJ := 49) (stJ := [.int 10, .int x1, .int 48, .ref 359]) rfl ?_
      refine j_V.one myn_M myn_49 (by decide) (pcJ := 50) (stJ := [.int (x1 - x1 / 10 * 10), .int 48, .ref 359]) rfl ?_
      refine j_V.one myn_M myn_50 (by decide) (pcJ := 51) (stJ := [.int (48 + (x1 - x1 / 10 * 10)), .ref 359]) rfl ?_
      refine j_V.cl myn_M myn_51 rfl (md := 3) (mj := 291) rfl (by decide) myp_M (As := [.ref 359, .int (48 + (x1 - x1 / 10 * 10))]) (rest := []) (jk_spl3 (K.at rfl) rfl rfl rfl (Nat.le_of_ble_eq_true rfl) (Nat.le_of_ble_eq_true rfl)) (fun d => myp_ok (u := u) H (by omega) (K.fi [359, 371] rfl rfl)) ?_
      rintro r h9 ⟨rfl, b2, H, K9⟩
      have K : KN h9 [(359, .inl (10, [.int th, .ref 360, .ref 361, .ref 362, .ref 363, .ref 364, .ref 365, .ref 366, .ref 367, (u 9), .int sst, (u 11), (u 12), (u 13), (u 14), (u 15), (u 16), (u 17), (u 18), (u 19), (u 20), (u 21), .ref 368, (u 23), .ref 369, .ref 370, .ref 371, .int (nI (tpA (48 + (x1 - x1 / 10 * 10)) (tpA 32 T)).length)])), (371, .inr (.inl (1, b2)))] h0 := K.mg K9 rfl rfl
      clear K9
      show j_V jP _ 294 54 lv [] h9 _
      have q50 : (tpA (48 + (x1 - x1 / 10 * 10)) (tpA 32 T)).length ≤ T.length + 2 := Nat.le_trans (Nat.le_of_eq tpA_len) (by omega)
      rw [show tnA x1 T = (tpA (48 + (x1 - x1 / 10 * 10)) (tpA 32 T)) from by unfold tnA; rw [if_pos (Decidable.not_not.mp (fun z => c26_1 (i09.mpr z))), if_pos (Decidable.not_not.mp (fun z => c9_0 (i99.mpr z)))]]
      exact j_V.ret myn_M myn_54 rfl rfl ⟨rfl, _, H, K⟩
    · replace c26_1 : 9 < x1 := jd_len c26_1
      refine j_V.ldL myn_M myn_29 rfl (i := 0) (kd := 2) (v := .ref 359) (pcJ := 30) rfl L rfl rfl rfl ?_
      refine j_V.one myn_M myn_30 (by decide) (pcJ := 32) (stJ := [.int 48, .ref 359]) rfl ?_
      refine j_V.ldL myn_M myn_32 rfl (i := 1) (kd := 0) (v := .int x1) (pcJ := 33) rfl L rfl rfl rfl ?_
      refine j_V.one myn_M myn_33 (by decide) (pcJ := 35) (stJ := [.int 10, .int x1, .int 48, .ref 359]) rfl ?_
      refine j_V.one myn_M myn_35 (by decide) (pcJ := 36) (stJ := [.int (x1 / 10), .int 48, .ref 359]) rfl ?_
      refine j_V.one myn_M myn_36 (by decide) (pcJ := 38) (stJ := [.int 10, .int (x1 / 10), .int 48, .ref 359]) rfl ?_
      refine j_V.one myn_M myn_38 (by decide) (pcJ := 39) (stJ := [.int ((x1 / 10) - (x1 / 10) / 10 * 10), .int 48, .ref 359]) rfl ?_
      refine j_V.one myn_M myn_39 (by decide) (pcJ := 40) (stJ := [.int (48 + ((x1 / 10) - (x1 / 10) / 10 * 10)), .ref 359]) rfl ?_
      refine j_V.cl myn_M myn_40 rfl (md := 3) (mj := 291) rfl (by decide) myp_M (As := [.ref 359, .int (48 + ((x1 / 10) - (x1 / 10) / 10 * 10))]) (rest := []) (jk_spl3 (K.at rfl) rfl rfl rfl (Nat.le_of_ble_eq_true rfl) (Nat.le_of_ble_eq_true rfl)) (fun d => myp_ok (u := u) H (by omega) (K.fi [359, 371] rfl rfl)) ?_
      rintro r h9 ⟨rfl, b2, H, K9⟩
      have K : KN h9 [(359, .inl (10, [.int th, .ref 360, .ref 361, .ref 362, .ref 363, .ref 364, .ref 365, .ref 366, .ref 367, (u 9), .int sst, (u 11), (u 12), (u 13), (u 14), (u 15), (u 16), (u 17), (u 18), (u 19), (u 20), (u 21), .ref 368, (u 23), .ref 369, .ref 370, .ref 371, .int (nI (tpA (48 + ((x1 / 10) - (x1 / 10) / 10 * 10)) (tpA 32 T)).length)])), (371, .inr (.inl (1, b2)))] h0 := K.mg K9 rfl rfl
      clear K9
      show j_V jP _ 294 43 lv [] h9 _
      have q51 : (tpA (48 + ((x1 / 10) - (x1 / 10) / 10 * 10)) (tpA 32 T)).length ≤ T.length + 2 := Nat.le_trans (Nat.le_of_eq tpA_len) (by omega)
      refine j_V.ldL myn_M myn_43 rfl (i := 0) (kd := 2) (v := .ref 359) (pcJ := 44) rfl L rfl rfl rfl ?_
      refine j_V.one myn_M myn_44 (by decide) (pcJ := 46) (stJ := [.int 48, .ref 359]) rfl ?_
      refine j_V.ldL myn_M myn_46 rfl (i := 1) (kd := 0) (v := .int x1) (pcJ := 47) rfl L rfl rfl rfl ?_
      refine j_V.one myn_M myn_47 (by decide) (pcJ := 49) (stJ := [.int 10, .int x1, .int 48, .ref 359]) rfl ?_
      refine j_V.one myn_M myn_49 (by decide) (pcJ := 50) (stJ := [.int (x1 - x1 / 10 * 10), .int 48, .ref 359]) rfl ?_
      refine j_V.one myn_M myn_50 (by decide) (pcJ := 51) (stJ := [.int (48 + (x1 - x1 / 10 * 10)), .ref 359]) rfl ?_
      refine j_V.cl myn_M myn_51 rfl (md := 3) (mj := 291) rfl (by decide) myp_M (As := [.ref 359, .int (48 + (x1 - x1 / 10 * 10))]) (rest := []) (jk_spl3 (K.at rfl) rfl rfl rfl (Nat.le_of_ble_eq_true rfl) (Nat.le_of_ble_eq_true rfl)) (fun d => myp_ok (u := u) H (by omega) (K.fi [359, 371] rfl rfl)) ?_
      rintro r h9 ⟨rfl, b3, H, K9⟩
      have K : KN h9 [(359, .inl (10, [.int th, .ref 360, .ref 361, .ref 362, .ref 363, .ref 364, .ref 365, .ref 366, .ref 367, (u 9), .int sst, (u 11), (u 12), (u 13), (u 14), (u 15), (u 16), (u 17), (u 18), (u 19), (u 20), (u 21), .ref 368, (u 23), .ref 369, .ref 370, .ref 371, .int (nI (tpA (48 + (x1 - x1 / 10 * 10)) (tpA (48 + ((x1 / 10) - (x1 / 10) / 10 * 10)) (tpA 32 T))).length)])), (371, .inr (.inl (1, b3)))] h0 := K.mg K9 rfl rfl
      clear K9
      show j_V jP _ 294 54 lv [] h9 _
      have q52 : (tpA (48 + (x1 - x1 / 10 * 10)) (tpA (48 + ((x1 / 10) - (x1 / 10) / 10 * 10)) (tpA 32 T))).length ≤ T.length + 3 := Nat.le_trans (Nat.le_of_eq tpA_len) (by omega)
      rw [show tnA x1 T = (tpA (48 + (x1 - x1 / 10 * 10)) (tpA (48 + ((x1 / 10) - (x1 / 10) / 10 * 10)) (tpA 32 T))) from by unfold tnA; rw [if_neg (i09.mp c26_1), if_pos (Decidable.not_not.mp (fun z => c9_0 (i99.mpr z)))]]
      exact j_V.ret myn_M myn_54 rfl rfl ⟨rfl, _, H, K⟩
  · replace c9_0 : 99 < x1 := jd_len c9_0
    refine j_V.ldL myn_M myn_12 rfl (i := 0) (kd := 2) (v := .ref 359) (pcJ := 13) rfl L rfl rfl rfl ?_
    refine j_V.one myn_M myn_13 (by decide) (pcJ := 15) (stJ := [.int 48, .ref 359]) rfl ?_
    refine j_V.ldL myn_M myn_15 rfl (i := 1) (kd := 0) (v := .int x1) (pcJ := 16) rfl L rfl rfl rfl ?_
    refine j_V.one myn_M myn_16 (by decide) (pcJ := 18) (stJ := [.int 100, .int x1, .int 48, .ref 359]) rfl ?_
    refine j_V.one myn_M myn_18 (by decide) (pcJ := 19) (stJ := [.int (x1 / 100), .int 48, .ref 359]) rfl ?_
    refine j_V.one myn_M myn_19 (by decide) (pcJ := 20) (stJ := [.int (48 + (x1 / 100)), .ref 359]) rfl ?_
    refine j_V.cl myn_M myn_20 rfl (md := 3) (mj := 291) rfl (by decide) myp_M (As := [.ref 359, .int (48 + (x1 / 100))]) (rest := []) (jk_spl3 (K.at rfl) rfl rfl rfl (Nat.le_of_ble_eq_true rfl) (Nat.le_of_ble_eq_true rfl)) (fun d => myp_ok (u := u) H (by omega) (K.fi [359, 371] rfl rfl)) ?_
    rintro r h9 ⟨rfl, b2, H, K9⟩
    have K : KN h9 [(359, .inl (10, [.int th, .ref 360, .ref 361, .ref 362, .ref 363, .ref 364, .ref 365, .ref 366, .ref 367, (u 9), .int sst, (u 11), (u 12), (u 13), (u 14), (u 15), (u 16), (u 17), (u 18), (u 19), (u 20), (u 21), .ref 368, (u 23), .ref 369, .ref 370, .ref 371, .int (nI (tpA (48 + (x1 / 100)) (tpA 32 T)).length)])), (371, .inr (.inl (1, b2)))] h0 := K.mg K9 rfl rfl
    clear K9
    show j_V jP _ 294 23 lv [] h9 _
    have q53 : (tpA (48 + (x1 / 100)) (tpA 32 T)).length ≤ T.length + 2 := Nat.le_trans (Nat.le_of_eq tpA_len) (by omega)
    refine j_V.ldL myn_M myn_23 rfl (i := 1) (kd := 0) (v := .int x1) (pcJ := 24) rfl L rfl rfl rfl ?_
    refine j_V.one myn_M myn_24 (by decide) (pcJ := 26) (stJ := [.int 9, .int x1]) rfl ?_
    refine j_V.icmp myn_M myn_26 (t := 43) rfl (fun c26_1 => ?_) (fun c26_1 => ?_)
    · replace c26_1 : ¬ (9 < x1) := jd_le c26_1
      refine j_V.ldL myn_M myn_43 rfl (i := 0) (kd := 2) (v := .ref 359) (pcJ := 44) rfl L rfl rfl rfl ?_
      refine j_V.one myn_M myn_44 (by decide) (pcJ := 46) (stJ := [.int 48, .ref 359]) rfl ?_
      refine j_V.ldL myn_M myn_46 rfl (i := 1) (kd := 0) (v := .int x1) (pcJ := 47) rfl L rfl rfl rfl ?_
      refine j_V.one myn_M myn_47 (by decide) (pcJ := 49) (stJ := [.int 10, .int x1, .int 48, .ref 359]) rfl ?_
      refine j_V.one myn_M myn_49 (by decide) (pcJ := 50) (stJ := [.int (x1 - x1 / 10 * 10), .int 48, .ref 359]) rfl ?_
      refine j_V.one myn_M myn_50 (by decide) (pcJ := 51) (stJ := [.int (48 + (x1 - x1 / 10 * 10)), .ref 359]) rfl ?_
      refine j_V.cl myn_M myn_51 rfl (md := 3) (mj := 291) rfl (by decide) myp_M (As := [.ref 359, .int (48 + (x1 - x1 / 10 * 10))]) (rest := []) (jk_spl3 (K.at rfl) rfl rfl rfl (Nat.le_of_ble_eq_true rfl) (Nat.le_of_ble_eq_true rfl)) (fun d => myp_ok (u := u) H (by omega) (K.fi [359, 371] rfl rfl)) ?_
      rintro r h9 ⟨rfl, b3, H, K9⟩
      have K : KN h9 [(359, .inl (10, [.int th, .ref 360, .ref 361, .ref 362, .ref 363, .ref 364, .ref 365, .ref 366, .ref 367, (u 9), .int sst, (u 11), (u 12), (u 13), (u 14), (u 15), (u 16), (u 17), (u 18), (u 19), (u 20), (u 21), .ref 368, (u 23), .ref 369, .ref 370, .ref 371, .int (nI (tpA (48 + (x1 - x1 / 10 * 10)) (tpA (48 + (x1 / 100)) (tpA 32 T))).length)])), (371, .inr (.inl (1, b3)))] h0 := K.mg K9 rfl rfl
      clear K9
      show j_V jP _ 294 54 lv [] h9 _
      have q54 : (tpA (48 + (x1 - x1 / 10 * 10)) (tpA (48 + (x1 / 100)) (tpA 32 T))).length ≤ T.length + 3 := Nat.le_trans (Nat.le_of_eq tpA_len) (by omega)
      rw [show tnA x1 T = (tpA (48 + (x1 - x1 / 10 * 10)) (tpA (48 + (x1 / 100)) (tpA 32 T))) from by unfold tnA; rw [if_pos (Decidable.not_not.mp (fun z => c26_1 (i09.mpr z))), if_neg (i99.mp c9_0)]]
      exact j_V.ret myn_M myn_54 rfl rfl ⟨rfl, _, H, K⟩
    · replace c26_1 : 9 < x1 := jd_len c26_1
      refine j_V.ldL myn_M myn_29 rfl (i := 0) (kd := 2) (v := .ref 359) (pcJ := 30) rfl L rfl rfl rfl ?_
      refine j_V.one myn_M myn_30 (by decide) (pcJ := 32) (stJ := [.int 48, .ref 359]) rfl ?_
      refine j_V.ldL myn_M myn_32 rfl (i := 1) (kd := 0) (v := .int x1) (pcJ := 33) rfl L rfl rfl rfl ?_
      refine j_V.one myn_M myn_33 (by decide) (pcJ := 35) (stJ := [.int 10, .int x1, .int 48, .ref 359]) rfl ?_
      refine j_V.one myn_M myn_35 (by decide) (pcJ := 36) (stJ := [.int (x1 / 10), .int 48, .ref 359]) rfl ?_
      refine j_V.one myn_M myn_36 (by decide) (pcJ := 38) (stJ := [.int 10, .int (x1 / 10), .int 48, .ref 359]) rfl ?_
      refine j_V.one myn_M myn_38 (by decide) (pcJ := 39) (stJ := [.int ((x1 / 10) - (x1 / 10) / 10 * 10), .int 48, .ref 359]) rfl ?_
      refine j_V.one myn_M myn_39 (by decide) (pcJ := 40) (stJ := [.int (48 + ((x1 / 10) - (x1 / 10) / 10 * 10)), .ref 359]) rfl ?_
      refine j_V.cl myn_M myn_40 rfl (md := 3) (mj := 291) rfl (by decide) myp_M (As := [.ref 359, .int (48 + ((x1 / 10) - (x1 / 10) / 10 * 10))]) (rest := []) (jk_spl3 (K.at rfl) rfl rfl rfl (Nat.le_of_ble_eq_true rfl) (Nat.le_of_ble_eq_true rfl)) (fun d => myp_ok (u := u) H (by omega) (K.fi [359, 371] rfl rfl)) ?_
      rintro r h9 ⟨rfl, b3, H, K9⟩
      have K : KN h9 [(359, .inl (10, [.int th, .ref 360, .ref 361, .ref 362, .ref 363, .ref 364, .ref 365, .ref 366, .ref 367, (u 9), .int sst, (u 11), (u 12), (u 13), (u 14), (u 15), (u 16), (u 17), (u 18), (u 19), (u 20), (u 21), .ref 368, (u 23), .ref 369, .ref 370, .ref 371, .int (nI (tpA (48 + ((x1 / 10) - (x1 / 10) / 10 * 10)) (tpA (48 + (x1 / 100)) (tpA 32 T))).length)])), (371, .inr (.inl (1, b3)))] h0 := K.mg K9 rfl rfl
      clear K9
      show j_V jP _ 294 43 lv [] h9 _
      have q55 : (tpA (48 + ((x1 / 10) - (x1 / 10) / 10 * 10)) (tpA (48 + (x1 / 100)) (tpA 32 T))).length ≤ T.length + 3 := Nat.le_trans (Nat.le_of_eq tpA_len) (by omega)
      refine j_V.ldL myn_M myn_43 rfl (i := 0) (kd := 2) (v := .ref 359) (pcJ := 44) rfl L rfl rfl rfl ?_
      refine j_V.one myn_M myn_44 (by decide) (pcJ := 46) (stJ := [.int 48, .ref 359]) rfl ?_
      refine j_V.ldL myn_M myn_46 rfl (i := 1) (kd := 0) (v := .int x1) (pcJ := 47) rfl L rfl rfl rfl ?_
      refine j_V.one myn_M myn_47 (by decide) (pcJ := 49) (stJ := [.int 10, .int x1, .int 48, .ref 359]) rfl ?_
      refine j_V.one myn_M myn_49 (by decide) (pcJ := 50) (stJ := [.int (x1 - x1 / 10 * 10), .int 48, .ref 359]) rfl ?_
      refine j_V.one myn_M myn_50 (by decide) (pcJ := 51) (stJ := [.int (48 + (x1 - x1 / 10 * 10)), .ref 359]) rfl ?_
      refine j_V.cl myn_M myn_51 rfl (md := 3) (mj := 291) rfl (by decide) myp_M (As := [.ref 359, .int (48 + (x1 - x1 / 10 * 10))]) (rest := []) (jk_spl3 (K.at rfl) rfl rfl rfl (Nat.le_of_ble_eq_true rfl) (Nat.le_of_ble_eq_true rfl)) (fun d => myp_ok (u := u) H (by omega) (K.fi [359, 371] rfl rfl)) ?_
      rintro r h9 ⟨rfl, b4, H, K9⟩
      have K : KN h9 [(359, .inl (10, [.int th, .ref 360, .ref 361, .ref 362, .ref 363, .ref 364, .ref 365, .ref 366, .ref 367, (u 9), .int sst, (u 11), (u 12), (u 13), (u 14), (u 15), (u 16), (u 17), (u 18), (u 19), (u 20), (u 21), .ref 368, (u 23), .ref 369, .ref 370, .ref 371, .int (nI (tpA (48 + (x1 - x1 / 10 * 10)) (tpA (48 + ((x1 / 10) - (x1 / 10) / 10 * 10)) (tpA (48 + (x1 / 100)) (tpA 32 T)))).length)])), (371, .inr (.inl (1, b4)))] h0 := K.mg K9 rfl rfl
      clear K9
      show j_V jP _ 294 54 lv [] h9 _
      have q56 : (tpA (48 + (x1 - x1 / 10 * 10)) (tpA (48 + ((x1 / 10) - (x1 / 10) / 10 * 10)) (tpA (48 + (x1 / 100)) (tpA 32 T)))).length ≤ T.length + 4 := Nat.le_trans (Nat.le_of_eq tpA_len) (by omega)
      rw [show tnA x1 T = (tpA (48 + (x1 - x1 / 10 * 10)) (tpA (48 + ((x1 / 10) - (x1 / 10) / 10 * 10)) (tpA (48 + (x1 / 100)) (tpA 32 T)))) from by unfold tnA; rw [if_neg (i09.mp c26_1), if_neg (i99.mp c9_0)]]
      exact j_V.ret myn_M myn_54 rfl rfl ⟨rfl, _, H, K⟩
set_option maxRecDepth 100000 in
theorem myw_M : j_meth jP 292 = some (yX10_printsWord, cX10_printsWord, 4, none, 1, false, 10) := rfl
set_option maxRecDepth 100000 in
theorem myw_0 : j_code jP 292 0 = some (.bipush 40) := rfl
set_option maxRecDepth 100000 in
theorem myw_2 : j_code jP 292 2 = some (.istore_n 3) := rfl
set_option maxRecDepth 100000 in
theorem myw_3 : j_code jP 292 3 = some (.iload_n 3) := rfl
set_option maxRecDepth 100000 in
theorem myw_4 : j_code jP 292 4 = some (.ifCond .lt 36) := rfl
set_option maxRecDepth 100000 in
theorem myw_7 : j_code jP 292 7 = some (.lload_n 1) := rfl
set_option maxRecDepth 100000 in
theorem myw_8 : j_code jP 292 8 = some (.iload_n 3) := rfl
set_option maxRecDepth 100000 in
theorem myw_9 : j_code jP 292 9 = some (.lshr) := rfl
set_option maxRecDepth 100000 in
theorem myw_10 : j_code jP 292 10 = some (.ldc2_w 368) := rfl
set_option maxRecDepth 100000 in
theorem myw_13 : j_code jP 292 13 = some (.land) := rfl
set_option maxRecDepth 100000 in
theorem myw_14 : j_code jP 292 14 = some (.lconst 0) := rfl
set_option maxRecDepth 100000 in
theorem myw_15 : j_code jP 292 15 = some (.lcmp) := rfl
set_option maxRecDepth 100000 in
theorem myw_16 : j_code jP 292 16 = some (.ifCond .eq 18) := rfl
set_option maxRecDepth 100000 in
theorem myw_19 : j_code jP 292 19 = some (.aload_n 0) := rfl
set_option maxRecDepth 100000 in
theorem myw_20 : j_code jP 292 20 = some (.lload_n 1) := rfl
set_option maxRecDepth 100000 in
theorem myw_21 : j_code jP 292 21 = some (.iload_n 3) := rfl
set_option maxRecDepth 100000 in
theorem myw_22 : j_code jP 292 22 = some (.lshr) := rfl
set_option maxRecDepth 100000 in
theorem myw_23 : j_code jP 292 23 = some (.ldc2_w 368) := rfl
set_option maxRecDepth 100000 in
theorem myw_26 : j_code jP 292 26 = some (.land) := rfl
set_option maxRecDepth 100000 in
theorem myw_27 : j_code jP 292 27 = some (.l2i) := rfl
set_option maxRecDepth 100000 in
theorem myw_28 : j_code jP 292 28 = some (.bipush 96) := rfl
set_option maxRecDepth 100000 in
theorem myw_30 : j_code jP 292 30 = some (.iadd) := rfl
set_option maxRecDepth 100000 in
theorem myw_31 : j_code jP 292 31 = some (.invokevirtual 370) := rfl
set_option maxRecDepth 100000 in
theorem myw_34 : j_code jP 292 34 = some (.iinc 3 (-5)) := rfl
set_option maxRecDepth 100000 in
theorem myw_37 : j_code jP 292 37 = some (.goto (-34)) := rfl
set_option maxRecDepth 100000 in
theorem myw_40 : j_code jP 292 40 = some (.return_) := rfl
theorem i5_z {s : Int32} (h : s + 5 = nI (5 * 0)) : s = -5 := by
  have := congrArg (fun z => z - 5) h
  rw [Int32.add_sub_cancel] at this
  rw [this]
  decide
theorem myw_l {d : Nat} {u : Nat → Value} {th sst : Int32} {v : Int64} : ∀ (f : Nat) (s : Int32) (T b : List Int32) (lv : J_L) (h h0 : J_H), s + 5 = nI (5 * f) → f ≤ 9 → tT 1400 T b → T.length + f ≤ 1400 → LK lv [(0, .ref 359), (1, .long v), (3, .int s)] → KN h [(359, .inl (10, [.int th, .ref 360, .ref 361, .ref 362, .ref 363, .ref 364, .ref 365, .ref 366, .ref 367, (u 9), .int sst, (u 11), (u 12), (u 13), (u 14), (u 15), (u 16), (u 17), (u 18), (u 19), (u 20), (u 21), .ref 368, (u 23), .ref 369, .ref 370, .ref 371, .int (nI T.length)])), (371, .inr (.inl (1, b)))] h0 → j_V jP d 292 3 lv [] h (fun rv h' => rv = none ∧ ∃ b', tT 1400 (tmA v f T) b' ∧ KN h' [(359, .inl (10, [.int th, .ref 360, .ref 361, .ref 362, .ref 363, .ref 364, .ref 365, .ref 366, .ref 367, (u 9), .int sst, (u 11), (u 12), (u 13), (u 14), (u 15), (u 16), (u 17), (u 18), (u 19), (u 20), (u 21), .ref 368, (u 23), .ref 369, .ref 370, .ref 371, .int (nI (tmA v f T).length)])), (371, .inr (.inl (1, b')))] h0) := by
  intro f
  induction f with
  | zero =>
    intro s T b lv h h0 hs hf H hl L K
    refine j_V.ldL myw_M myw_3 rfl (i := 3) (kd := 0) (v := .int s) (pcJ := 4) rfl L rfl rfl rfl ?_
    refine j_V.ifc myw_M myw_4 (t := 40) rfl (fun c4_0 => ?_) (fun c4_0 => ?_)
    · replace c4_0 : s < 0 := jd_lt c4_0
      exact j_V.ret myw_M myw_40 rfl rfl ⟨rfl, _, H, K⟩
    · replace c4_0 : ¬ (s < 0) := jd_ltn c4_0
      exact absurd (by rw [i5_z hs]; decide) c4_0
  | succ f ih =>
    intro s T b lv h h0 hs hf H hl L K
    obtain rfl := i5_dn hs
    refine j_V.ldL myw_M myw_3 rfl (i := 3) (kd := 0) (v := .int (nI (5 * f))) (pcJ := 4) rfl L rfl rfl rfl ?_
    refine j_V.ifc myw_M myw_4 (t := 40) rfl (fun c9 => ?_) (fun c9 => ?_)
    · replace c9 := jd_lt c9
      exact absurd c9 (nI_pos (by omega))
    · skip
      refine j_V.ldL myw_M myw_7 rfl (i := 1) (kd := 1) (v := .long v) (pcJ := 8) rfl L rfl rfl rfl ?_
      refine j_V.ldL myw_M myw_8 rfl (i := 3) (kd := 0) (v := .int (nI (5 * f))) (pcJ := 9) rfl L rfl rfl rfl ?_
      refine j_V.one myw_M myw_9 (by decide) (pcJ := 10) (stJ := [.long (v >>> ((nI (5 * f)).toInt64 &&& 63))]) rfl ?_
      refine j_V.one myw_M myw_10 (by decide) (pcJ := 13) (stJ := [.long (31 : Int64), .long (v >>> ((nI (5 * f)).toInt64 &&& 63))]) rfl ?_
      refine j_V.one myw_M myw_13 (by decide) (pcJ := 14) (stJ := [.long ((v >>> ((nI (5 * f)).toInt64 &&& 63)) &&& (31 : Int64))]) rfl ?_
      refine j_V.one myw_M myw_14 (by decide) (pcJ := 15) (stJ := [.long 0, .long ((v >>> ((nI (5 * f)).toInt64 &&& 63)) &&& (31 : Int64))]) rfl ?_
      refine j_V.one myw_M myw_15 (by decide) (pcJ := 16) (stJ := [.int (lg_cmp (((v >>> ((nI (5 * f)).toInt64 &&& 63)) &&& (31 : Int64))) 0)]) rfl ?_
      refine j_V.ifc myw_M myw_16 (t := 34) rfl (fun c16_0 => ?_) (fun c16_0 => ?_)
      · replace c16_0 : (lg_cmp (((v >>> ((nI (5 * f)).toInt64 &&& 63)) &&& (31 : Int64))) 0) = 0 := jd_eq c16_0
        refine j_V.inL2 myw_M myw_34 (i := 3) (kl' := [(0, .ref 359), (1, .long v), (3, .int ((nI (5 * f)) + (-5)))]) (pcJ := 37) L rfl rfl rfl rfl (fun lv L => ?_)
        refine j_V.gto myw_M myw_37 (t := 3) rfl ?_
        rw [show tmA v (f + 1) T = tmA v f T from congrArg (tmA v f) (if_pos (lg_cmp_0.mp c16_0))]
        exact ih _ _ _ _ _ _ (i5_up _) (by omega) H (by omega) (L.sub ⟨rfl, rfl, rfl, trivial⟩) K
      · replace c16_0 : ¬ ((lg_cmp (((v >>> ((nI (5 * f)).toInt64 &&& 63)) &&& (31 : Int64))) 0) = 0) := jd_eqn c16_0
        refine j_V.ldL myw_M myw_19 rfl (i := 0) (kd := 2) (v := .ref 359) (pcJ := 20) rfl L rfl rfl rfl ?_
        refine j_V.ldL myw_M myw_20 rfl (i := 1) (kd := 1) (v := .long v) (pcJ := 21) rfl L rfl rfl rfl ?_
        refine j_V.ldL myw_M myw_21 rfl (i := 3) (kd := 0) (v := .int (nI (5 * f))) (pcJ := 22) rfl L rfl rfl rfl ?_
        refine j_V.one myw_M myw_22 (by decide) (pcJ := 23) (stJ := [.long (v >>> ((nI (5 * f)).toInt64 &&& 63)), .ref 359]) rfl ?_
        refine j_V.one myw_M myw_23 (by decide) (pcJ := 26) (stJ := [.long (31 : Int64), .long (v >>> ((nI (5 * f)).toInt64 &&& 63)), .ref 359]) rfl ?_
        refine j_V.one myw_M myw_26 (by decide) (pcJ := 27) (stJ := [.long ((v >>> ((nI (5 * f)).toInt64 &&& 63)) &&& (31 : Int64)), .ref 359]) rfl ?_
        refine j_V.one myw_M myw_27 (by decide) (pcJ := 28) (stJ := [.int (((v >>> ((nI (5 * f)).toInt64 &&& 63)) &&& (31 : Int64))).toInt32, .ref 359]) rfl ?_
        refine j_V.one myw_M myw_28 (by decide) (pcJ := 30) (stJ := [.int 96, .int (((v >>> ((nI (5 * f)).toInt64 &&& 63)) &&& (31 : Int64))).toInt32, .ref 359]) rfl ?_
        refine j_V.one myw_M myw_30 (by decide) (pcJ := 31) (stJ := [.int ((((v >>> ((nI (5 * f)).toInt64 &&& 63)) &&& (31 : Int64))).toInt32 + 96), .ref 359]) rfl ?_
        refine j_V.cl myw_M myw_31 rfl (md := 3) (mj := 291) rfl (by decide) myp_M (As := [.ref 359, .int ((((v >>> ((nI (5 * f)).toInt64 &&& 63)) &&& (31 : Int64))).toInt32 + 96)]) (rest := []) (jk_spl3 (K.at rfl) rfl rfl rfl (Nat.le_of_ble_eq_true rfl) (Nat.le_of_ble_eq_true rfl)) (fun d => myp_ok (u := u) H (by omega) (K.fi [359, 371] rfl rfl)) ?_
        rintro r h9 ⟨rfl, b1, H, K9⟩
        have K : KN h9 [(359, .inl (10, [.int th, .ref 360, .ref 361, .ref 362, .ref 363, .ref 364, .ref 365, .ref 366, .ref 367, (u 9), .int sst, (u 11), (u 12), (u 13), (u 14), (u 15), (u 16), (u 17), (u 18), (u 19), (u 20), (u 21), .ref 368, (u 23), .ref 369, .ref 370, .ref 371, .int (nI (tpA ((((v >>> ((nI (5 * f)).toInt64 &&& 63)) &&& (31 : Int64))).toInt32 + 96) T).length)])), (371, .inr (.inl (1, b1)))] h0 := K.mg K9 rfl rfl
        clear K9
        show j_V jP _ 292 34 lv [] h9 _
        have q57 : (tpA ((((v >>> ((nI (5 * f)).toInt64 &&& 63)) &&& (31 : Int64))).toInt32 + 96) T).length ≤ T.length + 1 := Nat.le_trans (Nat.le_of_eq tpA_len) (by omega)
        refine j_V.inL2 myw_M myw_34 (i := 3) (kl' := [(0, .ref 359), (1, .long v), (3, .int ((nI (5 * f)) + (-5)))]) (pcJ := 37) L rfl rfl rfl rfl (fun lv L => ?_)
        refine j_V.gto myw_M myw_37 (t := 3) rfl ?_
        rw [show tmA v (f + 1) T = tmA v f (tpA ((((v >>> ((nI (5 * f)).toInt64 &&& 63)) &&& (31 : Int64))).toInt32 + 96) T) from congrArg (tmA v f) (if_neg (fun z => c16_0 (lg_cmp_0.mpr z)))]
        exact ih _ _ _ _ _ _ (i5_up _) (by omega) H (by rw [tpA_len]; omega) (L.sub ⟨rfl, rfl, rfl, trivial⟩) K
theorem myw_ok {d : Nat} {h h0 : J_H} {u : Nat → Value} {th sst : Int32} {T b : List Int32} {v : Int64} (H : tT 1400 T b) (hl : T.length + 9 ≤ 1400) (K : KN h [(359, .inl (10, [.int th, .ref 360, .ref 361, .ref 362, .ref 363, .ref 364, .ref 365, .ref 366, .ref 367, (u 9), .int sst, (u 11), (u 12), (u 13), (u 14), (u 15), (u 16), (u 17), (u 18), (u 19), (u 20), (u 21), .ref 368, (u 23), .ref 369, .ref 370, .ref 371, .int (nI T.length)])), (371, .inr (.inl (1, b)))] h0) : j_V jP d 292 0 (lv_args 0 [.ref 359, .long v]) [] h (fun rv h' => rv = none ∧ ∃ b', tT 1400 (tmA v 9 T) b' ∧ KN h' [(359, .inl (10, [.int th, .ref 360, .ref 361, .ref 362, .ref 363, .ref 364, .ref 365, .ref 366, .ref 367, (u 9), .int sst, (u 11), (u 12), (u 13), (u 14), (u 15), (u 16), (u 17), (u 18), (u 19), (u 20), (u 21), .ref 368, (u 23), .ref 369, .ref 370, .ref 371, .int (nI (tmA v 9 T).length)])), (371, .inr (.inl (1, b')))] h0) := by
  show j_V jP d 292 0 [(0, .ref 359), (1, .long v)] [] h _
  obtain ⟨lv, elv, L⟩ : ∃ lv, lv = [(0, .ref 359), (1, .long v)] ∧ LK lv [(0, .ref 359), (1, .long v)] := ⟨_, rfl, LK.rf⟩
  rw [← elv]
  clear elv
  refine j_V.one myw_M myw_0 (by decide) (pcJ := 2) (stJ := [.int 40]) rfl ?_
  refine j_V.stL2 myw_M myw_2 rfl (i := 3) (kd := 0) (kl' := [(0, .ref 359), (1, .long v), (3, .int 40)]) (pcJ := 3) rfl L rfl (by decide) rfl rfl rfl (fun lv L => ?_)
  exact myw_l 9 _ _ _ _ _ _ (by decide) (by decide) H hl L K
set_option maxRecDepth 100000 in
theorem myq_M : j_meth jP 293 = some (yX10_printsNamed, cX10_printsNamed, 2, none, 1, false, 10) := rfl
set_option maxRecDepth 100000 in
theorem myq_0 : j_code jP 293 0 = some (.aload_n 0) := rfl
set_option maxRecDepth 100000 in
theorem myq_1 : j_code jP 293 1 = some (.bipush 32) := rfl
set_option maxRecDepth 100000 in
theorem myq_3 : j_code jP 293 3 = some (.invokevirtual 370) := rfl
set_option maxRecDepth 100000 in
theorem myq_6 : j_code jP 293 6 = some (.aload_n 0) := rfl
set_option maxRecDepth 100000 in
theorem myq_7 : j_code jP 293 7 = some (.aload_n 0) := rfl
set_option maxRecDepth 100000 in
theorem myq_8 : j_code jP 293 8 = some (.getfield 28) := rfl
set_option maxRecDepth 100000 in
theorem myq_11 : j_code jP 293 11 = some (.iload_n 1) := rfl
set_option maxRecDepth 100000 in
theorem myq_12 : j_code jP 293 12 = some (.laload) := rfl
set_option maxRecDepth 100000 in
theorem myq_13 : j_code jP 293 13 = some (.invokevirtual 373) := rfl
set_option maxRecDepth 100000 in
theorem myq_16 : j_code jP 293 16 = some (.return_) := rfl
theorem myq_ok {d : Nat} {h h0 : J_H} {u : Nat → Value} {th sst : Int32} {T b : List Int32} {nm : List Int64} {x1 : Int32} (H : tT 1400 T b) (hl : T.length + 10 ≤ 1400) (K : KN h [(359, .inl (10, [.int th, .ref 360, .ref 361, .ref 362, .ref 363, .ref 364, .ref 365, .ref 366, .ref 367, (u 9), .int sst, (u 11), (u 12), (u 13), (u 14), (u 15), (u 16), (u 17), (u 18), (u 19), (u 20), (u 21), .ref 368, (u 23), .ref 369, .ref 370, .ref 371, .int (nI T.length)])), (366, .inr (.inr (.inl nm))), (371, .inr (.inl (1, b)))] h0) : j_V jP d 293 0 (lv_args 0 [.ref 359, .int x1]) [] h (fun rv h' => rv = none ∧ ∃ b', tT 1400 (rtN nm x1 T) b' ∧ KN h' [(359, .inl (10, [.int th, .ref 360, .ref 361, .ref 362, .ref 363, .ref 364, .ref 365, .ref 366, .ref 367, (u 9), .int sst, (u 11), (u 12), (u 13), (u 14), (u 15), (u 16), (u 17), (u 18), (u 19), (u 20), (u 21), .ref 368, (u 23), .ref 369, .ref 370, .ref 371, .int (nI (rtN nm x1 T).length)])), (366, .inr (.inr (.inl nm))), (371, .inr (.inl (1, b')))] h0) := by
  show j_V jP d 293 0 [(0, .ref 359), (1, .int x1)] [] h _
  obtain ⟨lv, elv, L⟩ : ∃ lv, lv = [(0, .ref 359), (1, .int x1)] ∧ LK lv [(0, .ref 359), (1, .int x1)] := ⟨_, rfl, LK.rf⟩
  rw [← elv]
  clear elv
  refine j_V.ldL myq_M myq_0 rfl (i := 0) (kd := 2) (v := .ref 359) (pcJ := 1) rfl L rfl rfl rfl ?_
  refine j_V.one myq_M myq_1 (by decide) (pcJ := 3) (stJ := [.int 32, .ref 359]) rfl ?_
  refine j_V.cl myq_M myq_3 rfl (md := 3) (mj := 291) rfl (by decide) myp_M (As := [.ref 359, .int 32]) (rest := []) (jk_spl3 (K.at rfl) rfl rfl rfl (Nat.le_of_ble_eq_true rfl) (Nat.le_of_ble_eq_true rfl)) (fun d => myp_ok (u := u) H (by omega) (K.fi [359, 371] rfl rfl)) ?_
  rintro r h9 ⟨rfl, b1, H, K9⟩
  have K : KN h9 [(359, .inl (10, [.int th, .ref 360, .ref 361, .ref 362, .ref 363, .ref 364, .ref 365, .ref 366, .ref 367, (u 9), .int sst, (u 11), (u 12), (u 13), (u 14), (u 15), (u 16), (u 17), (u 18), (u 19), (u 20), (u 21), .ref 368, (u 23), .ref 369, .ref 370, .ref 371, .int (nI (tpA 32 T).length)])), (366, .inr (.inr (.inl nm))), (371, .inr (.inl (1, b1)))] h0 := K.mg K9 rfl rfl
  clear K9
  show j_V jP _ 293 6 lv [] h9 _
  have q58 : (tpA 32 T).length ≤ T.length + 1 := Nat.le_trans (Nat.le_of_eq tpA_len) (by omega)
  refine j_V.ldL myq_M myq_6 rfl (i := 0) (kd := 2) (v := .ref 359) (pcJ := 7) rfl L rfl rfl rfl ?_
  refine j_V.ldL myq_M myq_7 rfl (i := 0) (kd := 2) (v := .ref 359) (pcJ := 8) rfl L rfl rfl rfl ?_
  refine j_V.getK myq_M myq_8 (ci := 10) (j := 7) rfl K rfl rfl ?_
  refine j_V.ldL myq_M myq_11 rfl (i := 1) (kd := 0) (v := .int x1) (pcJ := 12) rfl L rfl rfl rfl ?_
  refine j_V.laA myq_M myq_12 K rfl ?_
  refine j_V.cl myq_M myq_13 rfl (md := 3) (mj := 292) rfl (by decide) myw_M (As := [.ref 359, .long (gL nm x1)]) (rest := []) (jk_spl3 (K.at rfl) rfl rfl rfl (Nat.le_of_ble_eq_true rfl) (Nat.le_of_ble_eq_true rfl)) (fun d => myw_ok (u := u) H (by omega) (K.fi [359, 371] rfl rfl)) ?_
  rintro r h9 ⟨rfl, b2, H, K9⟩
  have K : KN h9 [(359, .inl (10, [.int th, .ref 360, .ref 361, .ref 362, .ref 363, .ref 364, .ref 365, .ref 366, .ref 367, (u 9), .int sst, (u 11), (u 12), (u 13), (u 14), (u 15), (u 16), (u 17), (u 18), (u 19), (u 20), (u 21), .ref 368, (u 23), .ref 369, .ref 370, .ref 371, .int (nI (tmA (gL nm x1) 9 (tpA 32 T)).length)])), (366, .inr (.inr (.inl nm))), (371, .inr (.inl (1, b2)))] h0 := K.mg K9 rfl rfl
  clear K9
  show j_V jP _ 293 16 lv [] h9 _
  have q59 : (tmA (gL nm x1) 9 (tpA 32 T)).length ≤ T.length + 10 := Nat.le_trans (tmA_len) (by omega)
  exact j_V.ret myq_M myq_16 rfl rfl ⟨rfl, _, H, K⟩
set_option maxRecDepth 100000 in
theorem myr_M : j_meth jP 295 = some (yX10_printsTrain, cX10_printsTrain, 3, none, 1, false, 10) := rfl
set_option maxRecDepth 100000 in
theorem myr_0 : j_code jP 295 0 = some (.aload_n 0) := rfl
set_option maxRecDepth 100000 in
theorem myr_1 : j_code jP 295 1 = some (.iconst 1) := rfl
set_option maxRecDepth 100000 in
theorem myr_2 : j_code jP 295 2 = some (.invokestatic 128) := rfl
set_option maxRecDepth 100000 in
theorem myr_5 : j_code jP 295 5 = some (.invokevirtual 373) := rfl
set_option maxRecDepth 100000 in
theorem myr_8 : j_code jP 295 8 = some (.aload_n 0) := rfl
set_option maxRecDepth 100000 in
theorem myr_9 : j_code jP 295 9 = some (.bipush 7) := rfl
set_option maxRecDepth 100000 in
theorem myr_11 : j_code jP 295 11 = some (.iload_n 1) := rfl
set_option maxRecDepth 100000 in
theorem myr_12 : j_code jP 295 12 = some (.iadd) := rfl
set_option maxRecDepth 100000 in
theorem myr_13 : j_code jP 295 13 = some (.invokevirtual 377) := rfl
set_option maxRecDepth 100000 in
theorem myr_16 : j_code jP 295 16 = some (.aload_n 0) := rfl
set_option maxRecDepth 100000 in
theorem myr_17 : j_code jP 295 17 = some (.aload_n 0) := rfl
set_option maxRecDepth 100000 in
theorem myr_18 : j_code jP 295 18 = some (.iload_n 1) := rfl
set_option maxRecDepth 100000 in
theorem myr_19 : j_code jP 295 19 = some (.iconst 0) := rfl
set_option maxRecDepth 100000 in
theorem myr_20 : j_code jP 295 20 = some (.invokevirtual 198) := rfl
set_option maxRecDepth 100000 in
theorem myr_23 : j_code jP 295 23 = some (.invokevirtual 380) := rfl
set_option maxRecDepth 100000 in
theorem myr_26 : j_code jP 295 26 = some (.aload_n 0) := rfl
set_option maxRecDepth 100000 in
theorem myr_27 : j_code jP 295 27 = some (.aload_n 0) := rfl
set_option maxRecDepth 100000 in
theorem myr_28 : j_code jP 295 28 = some (.iload_n 1) := rfl
set_option maxRecDepth 100000 in
theorem myr_29 : j_code jP 295 29 = some (.iconst 1) := rfl
set_option maxRecDepth 100000 in
theorem myr_30 : j_code jP 295 30 = some (.invokevirtual 198) := rfl
set_option maxRecDepth 100000 in
theorem myr_33 : j_code jP 295 33 = some (.invokevirtual 377) := rfl
set_option maxRecDepth 100000 in
theorem myr_36 : j_code jP 295 36 = some (.aload_n 0) := rfl
set_option maxRecDepth 100000 in
theorem myr_37 : j_code jP 295 37 = some (.aload_n 0) := rfl
set_option maxRecDepth 100000 in
theorem myr_38 : j_code jP 295 38 = some (.iload_n 1) := rfl
set_option maxRecDepth 100000 in
theorem myr_39 : j_code jP 295 39 = some (.iconst 2) := rfl
set_option maxRecDepth 100000 in
theorem myr_40 : j_code jP 295 40 = some (.invokevirtual 198) := rfl
set_option maxRecDepth 100000 in
theorem myr_43 : j_code jP 295 43 = some (.invokevirtual 377) := rfl
set_option maxRecDepth 100000 in
theorem myr_46 : j_code jP 295 46 = some (.aload_n 0) := rfl
set_option maxRecDepth 100000 in
theorem myr_47 : j_code jP 295 47 = some (.aload_n 0) := rfl
set_option maxRecDepth 100000 in
theorem myr_48 : j_code jP 295 48 = some (.iload_n 1) := rfl
set_option maxRecDepth 100000 in
theorem myr_49 : j_code jP 295 49 = some (.iconst 3) := rfl
set_option maxRecDepth 100000 in
theorem myr_50 : j_code jP 295 50 = some (.invokevirtual 198) := rfl
set_option maxRecDepth 100000 in
theorem myr_53 : j_code jP 295 53 = some (.invokevirtual 380) := rfl
set_option maxRecDepth 100000 in
theorem myr_56 : j_code jP 295 56 = some (.iconst 2) := rfl
set_option maxRecDepth 100000 in
theorem myr_57 : j_code jP 295 57 = some (.istore_n 2) := rfl
set_option maxRecDepth 100000 in
theorem myr_58 : j_code jP 295 58 = some (.iload_n 2) := rfl
set_option maxRecDepth 100000 in
theorem myr_59 : j_code jP 295 59 = some (.iconst 3) := rfl
set_option maxRecDepth 100000 in
theorem myr_60 : j_code jP 295 60 = some (.if_icmp .gt 42) := rfl
set_option maxRecDepth 100000 in
theorem myr_63 : j_code jP 295 63 = some (.aload_n 0) := rfl
set_option maxRecDepth 100000 in
theorem myr_64 : j_code jP 295 64 = some (.bipush 32) := rfl
set_option maxRecDepth 100000 in
theorem myr_66 : j_code jP 295 66 = some (.invokevirtual 370) := rfl
set_option maxRecDepth 100000 in
theorem myr_69 : j_code jP 295 69 = some (.aload_n 0) := rfl
set_option maxRecDepth 100000 in
theorem myr_70 : j_code jP 295 70 = some (.iload_n 2) := rfl
set_option maxRecDepth 100000 in
theorem myr_71 : j_code jP 295 71 = some (.invokestatic 128) := rfl
set_option maxRecDepth 100000 in
theorem myr_74 : j_code jP 295 74 = some (.invokevirtual 373) := rfl
set_option maxRecDepth 100000 in
theorem myr_77 : j_code jP 295 77 = some (.aload_n 0) := rfl
set_option maxRecDepth 100000 in
theorem myr_78 : j_code jP 295 78 = some (.aload_n 0) := rfl
set_option maxRecDepth 100000 in
theorem myr_79 : j_code jP 295 79 = some (.iload_n 1) := rfl
set_option maxRecDepth 100000 in
theorem myr_80 : j_code jP 295 80 = some (.iload_n 2) := rfl
set_option maxRecDepth 100000 in
theorem myr_81 : j_code jP 295 81 = some (.iconst 2) := rfl
set_option maxRecDepth 100000 in
theorem myr_82 : j_code jP 295 82 = some (.if_icmp .ne 7) := rfl
set_option maxRecDepth 100000 in
theorem myr_85 : j_code jP 295 85 = some (.iconst 4) := rfl
set_option maxRecDepth 100000 in
theorem myr_86 : j_code jP 295 86 = some (.goto 4) := rfl
set_option maxRecDepth 100000 in
theorem myr_89 : j_code jP 295 89 = some (.iconst 5) := rfl
set_option maxRecDepth 100000 in
theorem myr_90 : j_code jP 295 90 = some (.invokevirtual 198) := rfl
set_option maxRecDepth 100000 in
theorem myr_93 : j_code jP 295 93 = some (.invokevirtual 380) := rfl
set_option maxRecDepth 100000 in
theorem myr_96 : j_code jP 295 96 = some (.iinc 2 1) := rfl
set_option maxRecDepth 100000 in
theorem myr_99 : j_code jP 295 99 = some (.goto (-41)) := rfl
set_option maxRecDepth 100000 in
theorem myr_102 : j_code jP 295 102 = some (.aload_n 0) := rfl
set_option maxRecDepth 100000 in
theorem myr_103 : j_code jP 295 103 = some (.bipush 59) := rfl
set_option maxRecDepth 100000 in
theorem myr_105 : j_code jP 295 105 = some (.invokevirtual 370) := rfl
set_option maxRecDepth 100000 in
theorem myr_108 : j_code jP 295 108 = some (.return_) := rfl
theorem myr_ok {d : Nat} {h h0 : J_H} {u : Nat → Value} {th sst : Int32} {T b w : List Int32} {nm : List Int64} {x1 : Int32} (H : tT 1400 T b) (hl : T.length + 76 ≤ 1400) (K : KN h [(359, .inl (10, [.int th, .ref 360, .ref 361, .ref 362, .ref 363, .ref 364, .ref 365, .ref 366, .ref 367, (u 9), .int sst, (u 11), (u 12), (u 13), (u 14), (u 15), (u 16), (u 17), (u 18), (u 19), (u 20), (u 21), .ref 368, (u 23), .ref 369, .ref 370, .ref 371, .int (nI T.length)])), (360, .inr (.inl (0, w))), (366, .inr (.inr (.inl nm))), (371, .inr (.inl (1, b)))] h0) : j_V jP d 295 0 (lv_args 0 [.ref 359, .int x1]) [] h (fun rv h' => rv = none ∧ ∃ b', tT 1400 (rtR w nm x1 T) b' ∧ KN h' [(359, .inl (10, [.int th, .ref 360, .ref 361, .ref 362, .ref 363, .ref 364, .ref 365, .ref 366, .ref 367, (u 9), .int sst, (u 11), (u 12), (u 13), (u 14), (u 15), (u 16), (u 17), (u 18), (u 19), (u 20), (u 21), .ref 368, (u 23), .ref 369, .ref 370, .ref 371, .int (nI (rtR w nm x1 T).length)])), (360, .inr (.inl (0, w))), (366, .inr (.inr (.inl nm))), (371, .inr (.inl (1, b')))] h0) := by
  show j_V jP d 295 0 [(0, .ref 359), (1, .int x1)] [] h _
  obtain ⟨lv, elv, L⟩ : ∃ lv, lv = [(0, .ref 359), (1, .int x1)] ∧ LK lv [(0, .ref 359), (1, .int x1)] := ⟨_, rfl, LK.rf⟩
  rw [← elv]
  clear elv
  refine j_V.ldL myr_M myr_0 rfl (i := 0) (kd := 2) (v := .ref 359) (pcJ := 1) rfl L rfl rfl rfl ?_
  refine j_V.one myr_M myr_1 (by decide) (pcJ := 2) (stJ := [.int 1, .ref 359]) rfl ?_
  refine j_V.cl myr_M myr_2 rfl (md := 2) (mj := 187) rfl (by decide) mpa_M (As := [.int 1]) (rest := [.ref 359]) (jk_spl2 rfl rfl (Nat.le_of_ble_eq_true rfl) (Nat.le_of_ble_eq_true rfl)) (fun d => j_V.dn mw_1k.toV) ?_
  rintro r hz ⟨rfl, ez⟩
  rw [ez]
  clear ez
  show j_V jP _ 295 5 lv [.long W1, .ref 359] h _
  refine j_V.cl myr_M myr_5 rfl (md := 3) (mj := 292) rfl (by decide) myw_M (As := [.ref 359, .long W1]) (rest := []) (jk_spl3 (K.at rfl) rfl rfl rfl (Nat.le_of_ble_eq_true rfl) (Nat.le_of_ble_eq_true rfl)) (fun d => myw_ok (u := u) H (by omega) (K.fi [359, 371] rfl rfl)) ?_
  rintro r h9 ⟨rfl, b1, H, K9⟩
  have K : KN h9 [(359, .inl (10, [.int th, .ref 360, .ref 361, .ref 362, .ref 363, .ref 364, .ref 365, .ref 366, .ref 367, (u 9), .int sst, (u 11), (u 12), (u 13), (u 14), (u 15), (u 16), (u 17), (u 18), (u 19), (u 20), (u 21), .ref 368, (u 23), .ref 369, .ref 370, .ref 371, .int (nI (tmA W1 9 T).length)])), (360, .inr (.inl (0, w))), (366, .inr (.inr (.inl nm))), (371, .inr (.inl (1, b1)))] h0 := K.mg K9 rfl rfl
  clear K9
  show j_V jP _ 295 8 lv [] h9 _
  have q60 : (tmA W1 9 T).length ≤ T.length + 9 := Nat.le_trans (tmA_len) (by omega)
  refine j_V.ldL myr_M myr_8 rfl (i := 0) (kd := 2) (v := .ref 359) (pcJ := 9) rfl L rfl rfl rfl ?_
  refine j_V.one myr_M myr_9 (by decide) (pcJ := 11) (stJ := [.int 7, .ref 359]) rfl ?_
  refine j_V.ldL myr_M myr_11 rfl (i := 1) (kd := 0) (v := .int x1) (pcJ := 12) rfl L rfl rfl rfl ?_
  refine j_V.one myr_M myr_12 (by decide) (pcJ := 13) (stJ := [.int (7 + x1), .ref 359]) rfl ?_
  refine j_V.cl myr_M myr_13 rfl (md := 3) (mj := 293) rfl (by decide) myq_M (As := [.ref 359, .int (7 + x1)]) (rest := []) (jk_spl3 (K.at rfl) rfl rfl rfl (Nat.le_of_ble_eq_true rfl) (Nat.le_of_ble_eq_true rfl)) (fun d => myq_ok (u := u) H (by omega) (K.fi [359, 366, 371] rfl rfl)) ?_
  rintro r h9 ⟨rfl, b2, H, K9⟩
  have K : KN h9 [(359, .inl (10, [.int th, .ref 360, .ref 361, .ref 362, .ref 363, .ref 364, .ref 365, .ref 366, .ref 367, (u 9), .int sst, (u 11), (u 12), (u 13), (u 14), (u 15), (u 16), (u 17), (u 18), (u 19), (u 20), (u 21), .ref 368, (u 23), .ref 369, .ref 370, .ref 371, .int (nI (rtN nm (7 + x1) (tmA W1 9 T)).length)])), (360, .inr (.inl (0, w))), (366, .inr (.inr (.inl nm))), (371, .inr (.inl (1, b2)))] h0 := K.mg K9 rfl rfl
  clear K9
  show j_V jP _ 295 16 lv [] h9 _
  have q61 : (rtN nm (7 + x1) (tmA W1 9 T)).length ≤ T.length + 19 := Nat.le_trans (rtN_len) (by omega)
  refine j_V.ldL myr_M myr_16 rfl (i := 0) (kd := 2) (v := .ref 359) (pcJ := 17) rfl L rfl rfl rfl ?_
  refine j_V.ldL myr_M myr_17 rfl (i := 0) (kd := 2) (v := .ref 359) (pcJ := 18) rfl L rfl rfl rfl ?_
  refine j_V.ldL myr_M myr_18 rfl (i := 1) (kd := 0) (v := .int x1) (pcJ := 19) rfl L rfl rfl rfl ?_
  refine j_V.one myr_M myr_19 (by decide) (pcJ := 20) (stJ := [.int 0, .int x1, .ref 359, .ref 359]) rfl ?_
  refine j_V.cl myr_M myr_20 rfl (md := 3) (mj := 178) rfl (by decide) ma3_M (As := [.ref 359, .int x1, .int 0]) (rest := [.ref 359]) (jk_spl3 (K.at rfl) rfl rfl rfl (Nat.le_of_ble_eq_true rfl) (Nat.le_of_ble_eq_true rfl)) (fun d => ma3_ok (u := (fun jz => ([.int th, .ref 360, .ref 361, .ref 362, .ref 363, .ref 364, .ref 365, .ref 366, .ref 367, (u 9), .int sst, (u 11), (u 12), (u 13), (u 14), (u 15), (u 16), (u 17), (u 18), (u 19), (u 20), (u 21), .ref 368, (u 23), .ref 369, .ref 370, .ref 371, .int (nI (rtN nm (7 + x1) (tmA W1 9 T)).length)] : List Value).getD jz .null)) (K.fi [359, 360] rfl rfl)) ?_
  rintro r hz ⟨rfl, ez⟩
  rw [ez]
  clear ez
  show j_V jP _ 295 23 lv [.int (m_of w x1 0), .ref 359] h9 _
  refine j_V.cl myr_M myr_23 rfl (md := 3) (mj := 294) rfl (by decide) myn_M (As := [.ref 359, .int (m_of w x1 0)]) (rest := []) (jk_spl3 (K.at rfl) rfl rfl rfl (Nat.le_of_ble_eq_true rfl) (Nat.le_of_ble_eq_true rfl)) (fun d => myn_ok (u := u) H (by omega) (K.fi [359, 371] rfl rfl)) ?_
  rintro r h9 ⟨rfl, b3, H, K9⟩
  have K : KN h9 [(359, .inl (10, [.int th, .ref 360, .ref 361, .ref 362, .ref 363, .ref 364, .ref 365, .ref 366, .ref 367, (u 9), .int sst, (u 11), (u 12), (u 13), (u 14), (u 15), (u 16), (u 17), (u 18), (u 19), (u 20), (u 21), .ref 368, (u 23), .ref 369, .ref 370, .ref 371, .int (nI (tnA (m_of w x1 0) (rtN nm (7 + x1) (tmA W1 9 T))).length)])), (360, .inr (.inl (0, w))), (366, .inr (.inr (.inl nm))), (371, .inr (.inl (1, b3)))] h0 := K.mg K9 rfl rfl
  clear K9
  show j_V jP _ 295 26 lv [] h9 _
  have q62 : (tnA (m_of w x1 0) (rtN nm (7 + x1) (tmA W1 9 T))).length ≤ T.length + 23 := Nat.le_trans (tnA_len) (by omega)
  refine j_V.ldL myr_M myr_26 rfl (i := 0) (kd := 2) (v := .ref 359) (pcJ := 27) rfl L rfl rfl rfl ?_
  refine j_V.ldL myr_M myr_27 rfl (i := 0) (kd := 2) (v := .ref 359) (pcJ := 28) rfl L rfl rfl rfl ?_
  refine j_V.ldL myr_M myr_28 rfl (i := 1) (kd := 0) (v := .int x1) (pcJ := 29) rfl L rfl rfl rfl ?_
  refine j_V.one myr_M myr_29 (by decide) (pcJ := 30) (stJ := [.int 1, .int x1, .ref 359, .ref 359]) rfl ?_
  refine j_V.cl myr_M myr_30 rfl (md := 3) (mj := 178) rfl (by decide) ma3_M (As := [.ref 359, .int x1, .int 1]) (rest := [.ref 359]) (jk_spl3 (K.at rfl) rfl rfl rfl (Nat.le_of_ble_eq_true rfl) (Nat.le_of_ble_eq_true rfl)) (fun d => ma3_ok (u := (fun jz => ([.int th, .ref 360, .ref 361, .ref 362, .ref 363, .ref 364, .ref 365, .ref 366, .ref 367, (u 9), .int sst, (u 11), (u 12), (u 13), (u 14), (u 15), (u 16), (u 17), (u 18), (u 19), (u 20), (u 21), .ref 368, (u 23), .ref 369, .ref 370, .ref 371, .int (nI (tnA (m_of w x1 0) (rtN nm (7 + x1) (tmA W1 9 T))).length)] : List Value).getD jz .null)) (K.fi [359, 360] rfl rfl)) ?_
  rintro r hz ⟨rfl, ez⟩
  rw [ez]
  clear ez
  show j_V jP _ 295 33 lv [.int (m_of w x1 1), .ref 359] h9 _
  refine j_V.cl myr_M myr_33 rfl (md := 3) (mj := 293) rfl (by decide) myq_M (As := [.ref 359, .int (m_of w x1 1)]) (rest := []) (jk_spl3 (K.at rfl) rfl rfl rfl (Nat.le_of_ble_eq_true rfl) (Nat.le_of_ble_eq_true rfl)) (fun d => myq_ok (u := u) H (by omega) (K.fi [359, 366, 371] rfl rfl)) ?_
  rintro r h9 ⟨rfl, b4, H, K9⟩
  have K : KN h9 [(359, .inl (10, [.int th, .ref 360, .ref 361, .ref 362, .ref 363, .ref 364, .ref 365, .ref 366, .ref 367, (u 9), .int sst, (u 11), (u 12), (u 13), (u 14), (u 15), (u 16), (u 17), (u 18), (u 19), (u 20), (u 21), .ref 368, (u 23), .ref 369, .ref 370, .ref 371, .int (nI (rtN nm (m_of w x1 1) (tnA (m_of w x1 0) (rtN nm (7 + x1) (tmA W1 9 T)))).length)])), (360, .inr (.inl (0, w))), (366, .inr (.inr (.inl nm))), (371, .inr (.inl (1, b4)))] h0 := K.mg K9 rfl rfl
  clear K9
  show j_V jP _ 295 36 lv [] h9 _
  have q63 : (rtN nm (m_of w x1 1) (tnA (m_of w x1 0) (rtN nm (7 + x1) (tmA W1 9 T)))).length ≤ T.length + 33 := Nat.le_trans (rtN_len) (by omega)
  refine j_V.ldL myr_M myr_36 rfl (i := 0) (kd := 2) (v := .ref 359) (pcJ := 37) rfl L rfl rfl rfl ?_
  refine j_V.ldL myr_M myr_37 rfl (i := 0) (kd := 2) (v := .ref 359) (pcJ := 38) rfl L rfl rfl rfl ?_
  refine j_V.ldL myr_M myr_38 rfl (i := 1) (kd := 0) (v := .int x1) (pcJ := 39) rfl L rfl rfl rfl ?_
  refine j_V.one myr_M myr_39 (by decide) (pcJ := 40) (stJ := [.int 2, .int x1, .ref 359, .ref 359]) rfl ?_
  refine j_V.cl myr_M myr_40 rfl (md := 3) (mj := 178) rfl (by decide) ma3_M (As := [.ref 359, .int x1, .int 2]) (rest := [.ref 359]) (jk_spl3 (K.at rfl) rfl rfl rfl (Nat.le_of_ble_eq_true rfl) (Nat.le_of_ble_eq_true rfl)) (fun d => ma3_ok (u := (fun jz => ([.int th, .ref 360, .ref 361, .ref 362, .ref 363, .ref 364, .ref 365, .ref 366, .ref 367, (u 9), .int sst, (u 11), (u 12), (u 13), (u 14), (u 15), (u 16), (u 17), (u 18), (u 19), (u 20), (u 21), .ref 368, (u 23), .ref 369, .ref 370, .ref 371, .int (nI (rtN nm (m_of w x1 1) (tnA (m_of w x1 0) (rtN nm (7 + x1) (tmA W1 9 T)))).length)] : List Value).getD jz .null)) (K.fi [359, 360] rfl rfl)) ?_
  rintro r hz ⟨rfl, ez⟩
  rw [ez]
  clear ez
  show j_V jP _ 295 43 lv [.int (m_of w x1 2), .ref 359] h9 _
  refine j_V.cl myr_M myr_43 rfl (md := 3) (mj := 293) rfl (by decide) myq_M (As := [.ref 359, .int (m_of w x1 2)]) (rest := []) (jk_spl3 (K.at rfl) rfl rfl rfl (Nat.le_of_ble_eq_true rfl) (Nat.le_of_ble_eq_true rfl)) (fun d => myq_ok (u := u) H (by omega) (K.fi [359, 366, 371] rfl rfl)) ?_
  rintro r h9 ⟨rfl, b5, H, K9⟩
  have K : KN h9 [(359, .inl (10, [.int th, .ref 360, .ref 361, .ref 362, .ref 363, .ref 364, .ref 365, .ref 366, .ref 367, (u 9), .int sst, (u 11), (u 12), (u 13), (u 14), (u 15), (u 16), (u 17), (u 18), (u 19), (u 20), (u 21), .ref 368, (u 23), .ref 369, .ref 370, .ref 371, .int (nI (rtN nm (m_of w x1 2) (rtN nm (m_of w x1 1) (tnA (m_of w x1 0) (rtN nm (7 + x1) (tmA W1 9 T))))).length)])), (360, .inr (.inl (0, w))), (366, .inr (.inr (.inl nm))), (371, .inr (.inl (1, b5)))] h0 := K.mg K9 rfl rfl
  clear K9
  show j_V jP _ 295 46 lv [] h9 _
  have q64 : (rtN nm (m_of w x1 2) (rtN nm (m_of w x1 1) (tnA (m_of w x1 0) (rtN nm (7 + x1) (tmA W1 9 T))))).length ≤ T.length + 43 := Nat.le_trans (rtN_len) (by omega)
  refine j_V.ldL myr_M myr_46 rfl (i := 0) (kd := 2) (v := .ref 359) (pcJ := 47) rfl L rfl rfl rfl ?_
  refine j_V.ldL myr_M myr_47 rfl (i := 0) (kd := 2) (v := .ref 359) (pcJ := 48) rfl L rfl rfl rfl ?_
  refine j_V.ldL myr_M myr_48 rfl (i := 1) (kd := 0) (v := .int x1) (pcJ := 49) rfl L rfl rfl rfl ?_
  refine j_V.one myr_M myr_49 (by decide) (pcJ := 50) (stJ := [.int 3, .int x1, .ref 359, .ref 359]) rfl ?_
  refine j_V.cl myr_M myr_50 rfl (md := 3) (mj := 178) rfl (by decide) ma3_M (As := [.ref 359, .int x1, .int 3]) (rest := [.ref 359]) (jk_spl3 (K.at rfl) rfl rfl rfl (Nat.le_of_ble_eq_true rfl) (Nat.le_of_ble_eq_true rfl)) (fun d => ma3_ok (u := (fun jz => ([.int th, .ref 360, .ref 361, .ref 362, .ref 363, .ref 364, .ref 365, .ref 366, .ref 367, (u 9), .int sst, (u 11), (u 12), (u 13), (u 14), (u 15), (u 16), (u 17), (u 18), (u 19), (u 20), (u 21), .ref 368, (u 23), .ref 369, .ref 370, .ref 371, .int (nI (rtN nm (m_of w x1 2) (rtN nm (m_of w x1 1) (tnA (m_of w x1 0) (rtN nm (7 + x1) (tmA W1 9 T))))).length)] : List Value).getD jz .null)) (K.fi [359, 360] rfl rfl)) ?_
  rintro r hz ⟨rfl, ez⟩
  rw [ez]
  clear ez
  show j_V jP _ 295 53 lv [.int (m_of w x1 3), .ref 359] h9 _
  refine j_V.cl myr_M myr_53 rfl (md := 3) (mj := 294) rfl (by decide) myn_M (As := [.ref 359, .int (m_of w x1 3)]) (rest := []) (jk_spl3 (K.at rfl) rfl rfl rfl (Nat.le_of_ble_eq_true rfl) (Nat.le_of_ble_eq_true rfl)) (fun d => myn_ok (u := u) H (by omega) (K.fi [359, 371] rfl rfl)) ?_
  rintro r h9 ⟨rfl, b6, H, K9⟩
  have K : KN h9 [(359, .inl (10, [.int th, .ref 360, .ref 361, .ref 362, .ref 363, .ref 364, .ref 365, .ref 366, .ref 367, (u 9), .int sst, (u 11), (u 12), (u 13), (u 14), (u 15), (u 16), (u 17), (u 18), (u 19), (u 20), (u 21), .ref 368, (u 23), .ref 369, .ref 370, .ref 371, .int (nI (tnA (m_of w x1 3) (rtN nm (m_of w x1 2) (rtN nm (m_of w x1 1) (tnA (m_of w x1 0) (rtN nm (7 + x1) (tmA W1 9 T)))))).length)])), (360, .inr (.inl (0, w))), (366, .inr (.inr (.inl nm))), (371, .inr (.inl (1, b6)))] h0 := K.mg K9 rfl rfl
  clear K9
  show j_V jP _ 295 56 lv [] h9 _
  have q65 : (tnA (m_of w x1 3) (rtN nm (m_of w x1 2) (rtN nm (m_of w x1 1) (tnA (m_of w x1 0) (rtN nm (7 + x1) (tmA W1 9 T)))))).length ≤ T.length + 47 := Nat.le_trans (tnA_len) (by omega)
  refine j_V.one myr_M myr_56 (by decide) (pcJ := 57) (stJ := [.int 2]) rfl ?_
  refine j_V.stL2 myr_M myr_57 rfl (i := 2) (kd := 0) (kl' := [(0, .ref 359), (1, .int x1), (2, .int 2)]) (pcJ := 58) rfl L rfl (by decide) rfl rfl rfl (fun lv L => ?_)
  refine j_V.ldL myr_M myr_58 rfl (i := 2) (kd := 0) (v := .int 2) (pcJ := 59) rfl L rfl rfl rfl ?_
  refine j_V.one myr_M myr_59 (by decide) (pcJ := 60) (stJ := [.int 3, .int 2]) rfl ?_
  refine j_V.icmp myr_M myr_60 (t := 102) rfl (fun c60_0 => ?_) (fun c60_0 => ?_)
  · replace c60_0 : (3 : Int32) < 2 := jd_gt c60_0
    exact absurd c60_0 (by decide)
  · replace c60_0 : ¬ ((3 : Int32) < 2) := jd_gtn c60_0
    refine j_V.ldL myr_M myr_63 rfl (i := 0) (kd := 2) (v := .ref 359) (pcJ := 64) rfl L rfl rfl rfl ?_
    refine j_V.one myr_M myr_64 (by decide) (pcJ := 66) (stJ := [.int 32, .ref 359]) rfl ?_
    refine j_V.cl myr_M myr_66 rfl (md := 3) (mj := 291) rfl (by decide) myp_M (As := [.ref 359, .int 32]) (rest := []) (jk_spl3 (K.at rfl) rfl rfl rfl (Nat.le_of_ble_eq_true rfl) (Nat.le_of_ble_eq_true rfl)) (fun d => myp_ok (u := u) H (by omega) (K.fi [359, 371] rfl rfl)) ?_
    rintro r h9 ⟨rfl, b7, H, K9⟩
    have K : KN h9 [(359, .inl (10, [.int th, .ref 360, .ref 361, .ref 362, .ref 363, .ref 364, .ref 365, .ref 366, .ref 367, (u 9), .int sst, (u 11), (u 12), (u 13), (u 14), (u 15), (u 16), (u 17), (u 18), (u 19), (u 20), (u 21), .ref 368, (u 23), .ref 369, .ref 370, .ref 371, .int (nI (tpA 32 (tnA (m_of w x1 3) (rtN nm (m_of w x1 2) (rtN nm (m_of w x1 1) (tnA (m_of w x1 0) (rtN nm (7 + x1) (tmA W1 9 T))))))).length)])), (360, .inr (.inl (0, w))), (366, .inr (.inr (.inl nm))), (371, .inr (.inl (1, b7)))] h0 := K.mg K9 rfl rfl
    clear K9
    show j_V jP _ 295 69 lv [] h9 _
    have q66 : (tpA 32 (tnA (m_of w x1 3) (rtN nm (m_of w x1 2) (rtN nm (m_of w x1 1) (tnA (m_of w x1 0) (rtN nm (7 + x1) (tmA W1 9 T))))))).length ≤ T.length + 48 := Nat.le_trans (Nat.le_of_eq tpA_len) (by omega)
    refine j_V.ldL myr_M myr_69 rfl (i := 0) (kd := 2) (v := .ref 359) (pcJ := 70) rfl L rfl rfl rfl ?_
    refine j_V.ldL myr_M myr_70 rfl (i := 2) (kd := 0) (v := .int 2) (pcJ := 71) rfl L rfl rfl rfl ?_
    refine j_V.cl myr_M myr_71 rfl (md := 2) (mj := 187) rfl (by decide) mpa_M (As := [.int 2]) (rest := [.ref 359]) (jk_spl2 rfl rfl (Nat.le_of_ble_eq_true rfl) (Nat.le_of_ble_eq_true rfl)) (fun d => j_V.dn mw_2k.toV) ?_
    rintro r hz ⟨rfl, ez⟩
    rw [ez]
    clear ez
    show j_V jP _ 295 74 lv [.long W2, .ref 359] h9 _
    refine j_V.cl myr_M myr_74 rfl (md := 3) (mj := 292) rfl (by decide) myw_M (As := [.ref 359, .long W2]) (rest := []) (jk_spl3 (K.at rfl) rfl rfl rfl (Nat.le_of_ble_eq_true rfl) (Nat.le_of_ble_eq_true rfl)) (fun d => myw_ok (u := u) H (by omega) (K.fi [359, 371] rfl rfl)) ?_
    rintro r h9 ⟨rfl, b8, H, K9⟩
    have K : KN h9 [(359, .inl (10, [.int th, .ref 360, .ref 361, .ref 362, .ref 363, .ref 364, .ref 365, .ref 366, .ref 367, (u 9), .int sst, (u 11), (u 12), (u 13), (u 14), (u 15), (u 16), (u 17), (u 18), (u 19), (u 20), (u 21), .ref 368, (u 23), .ref 369, .ref 370, .ref 371, .int (nI (tmA W2 9 (tpA 32 (tnA (m_of w x1 3) (rtN nm (m_of w x1 2) (rtN nm (m_of w x1 1) (tnA (m_of w x1 0) (rtN nm (7 + x1) (tmA W1 9 T)))))))).length)])), (360, .inr (.inl (0, w))), (366, .inr (.inr (.inl nm))), (371, .inr (.inl (1, b8)))] h0 := K.mg K9 rfl rfl
    clear K9
    show j_V jP _ 295 77 lv [] h9 _
    have q67 : (tmA W2 9 (tpA 32 (tnA (m_of w x1 3) (rtN nm (m_of w x1 2) (rtN nm (m_of w x1 1) (tnA (m_of w x1 0) (rtN nm (7 + x1) (tmA W1 9 T)))))))).length ≤ T.length + 57 := Nat.le_trans (tmA_len) (by omega)
    refine j_V.ldL myr_M myr_77 rfl (i := 0) (kd := 2) (v := .ref 359) (pcJ := 78) rfl L rfl rfl rfl ?_
    refine j_V.ldL myr_M myr_78 rfl (i := 0) (kd := 2) (v := .ref 359) (pcJ := 79) rfl L rfl rfl rfl ?_
    refine j_V.ldL myr_M myr_79 rfl (i := 1) (kd := 0) (v := .int x1) (pcJ := 80) rfl L rfl rfl rfl ?_
    refine j_V.ldL myr_M myr_80 rfl (i := 2) (kd := 0) (v := .int 2) (pcJ := 81) rfl L rfl rfl rfl ?_
    refine j_V.one myr_M myr_81 (by decide) (pcJ := 82) (stJ := [.int 2, .int 2, .int x1, .ref 359, .ref 359]) rfl ?_
    refine j_V.icmp myr_M myr_82 (t := 89) rfl (fun c82_0 => ?_) (fun c82_0 => ?_)
    · replace c82_0 : ¬ ((2 : Int32) = 2) := jd_ne c82_0
      exact absurd (by decide) c82_0
    · replace c82_0 : (2 : Int32) = 2 := jd_nen c82_0
      refine j_V.one myr_M myr_85 (by decide) (pcJ := 86) (stJ := [.int 4, .int x1, .ref 359, .ref 359]) rfl ?_
      refine j_V.gto myr_M myr_86 (t := 90) rfl ?_
      refine j_V.cl myr_M myr_90 rfl (md := 3) (mj := 178) rfl (by decide) ma3_M (As := [.ref 359, .int x1, .int 4]) (rest := [.ref 359]) (jk_spl3 (K.at rfl) rfl rfl rfl (Nat.le_of_ble_eq_true rfl) (Nat.le_of_ble_eq_true rfl)) (fun d => ma3_ok (u := (fun jz => ([.int th, .ref 360, .ref 361, .ref 362, .ref 363, .ref 364, .ref 365, .ref 366, .ref 367, (u 9), .int sst, (u 11), (u 12), (u 13), (u 14), (u 15), (u 16), (u 17), (u 18), (u 19), (u 20), (u 21), .ref 368, (u 23), .ref 369, .ref 370, .ref 371, .int (nI (tmA W2 9 (tpA 32 (tnA (m_of w x1 3) (rtN nm (m_of w x1 2) (rtN nm (m_of w x1 1) (tnA (m_of w x1 0) (rtN nm (7 + x1) (tmA W1 9 T)))))))).length)] : List Value).getD jz .null)) (K.fi [359, 360] rfl rfl)) ?_
      rintro r hz ⟨rfl, ez⟩
      rw [ez]
      clear ez
      show j_V jP _ 295 93 lv [.int (m_of w x1 4), .ref 359] h9 _
      refine j_V.cl myr_M myr_93 rfl (md := 3) (mj := 294) rfl (by decide) myn_M (As := [.ref 359, .int (m_of w x1 4)]) (rest := []) (jk_spl3 (K.at rfl) rfl rfl rfl (Nat.le_of_ble_eq_true rfl) (Nat.le_of_ble_eq_true rfl)) (fun d => myn_ok (u := u) H (by omega) (K.fi [359, 371] rfl rfl)) ?_
      rintro r h9 ⟨rfl, b9, H, K9⟩
      have K : KN h9 [(359, .inl (10, [.int th, .ref 360, .ref 361, .ref 362, .ref 363, .ref 364, .ref 365, .ref 366, .ref 367, (u 9), .int sst, (u 11), (u 12), (u 13), (u 14), (u 15), (u 16), (u 17), (u 18), (u 19), (u 20), (u 21), .ref 368, (u 23), .ref 369, .ref 370, .ref 371, .int (nI (tnA (m_of w x1 4) (tmA W2 9 (tpA 32 (tnA (m_of w x1 3) (rtN nm (m_of w x1 2) (rtN nm (m_of w x1 1) (tnA (m_of w x1 0) (rtN nm (7 + x1) (tmA W1 9 T))))))))).length)])), (360, .inr (.inl (0, w))), (366, .inr (.inr (.inl nm))), (371, .inr (.inl (1, b9)))] h0 := K.mg K9 rfl rfl
      clear K9
      show j_V jP _ 295 96 lv [] h9 _
      have q68 : (tnA (m_of w x1 4) (tmA W2 9 (tpA 32 (tnA (m_of w x1 3) (rtN nm (m_of w x1 2) (rtN nm (m_of w x1 1) (tnA (m_of w x1 0) (rtN nm (7 + x1) (tmA W1 9 T))))))))).length ≤ T.length + 61 := Nat.le_trans (tnA_len) (by omega)
      refine j_V.inL2 myr_M myr_96 (i := 2) (kl' := [(0, .ref 359), (1, .int x1), (2, .int 3)]) (pcJ := 99) L rfl rfl rfl rfl (fun lv L => ?_)
      refine j_V.gto myr_M myr_99 (t := 58) rfl ?_
      refine j_V.ldL myr_M myr_58 rfl (i := 2) (kd := 0) (v := .int 3) (pcJ := 59) rfl L rfl rfl rfl ?_
      refine j_V.one myr_M myr_59 (by decide) (pcJ := 60) (stJ := [.int 3, .int 3]) rfl ?_
      refine j_V.icmp myr_M myr_60 (t := 102) rfl (fun c60_0 => ?_) (fun c60_0 => ?_)
      · replace c60_0 : (3 : Int32) < 3 := jd_gt c60_0
        exact absurd c60_0 (by decide)
      · replace c60_0 : ¬ ((3 : Int32) < 3) := jd_gtn c60_0
        refine j_V.ldL myr_M myr_63 rfl (i := 0) (kd := 2) (v := .ref 359) (pcJ := 64) rfl L rfl rfl rfl ?_
        refine j_V.one myr_M myr_64 (by decide) (pcJ := 66) (stJ := [.int 32, .ref 359]) rfl ?_
        refine j_V.cl myr_M myr_66 rfl (md := 3) (mj := 291) rfl (by decide) myp_M (As := [.ref 359, .int 32]) (rest := []) (jk_spl3 (K.at rfl) rfl rfl rfl (Nat.le_of_ble_eq_true rfl) (Nat.le_of_ble_eq_true rfl)) (fun d => myp_ok (u := u) H (by omega) (K.fi [359, 371] rfl rfl)) ?_
        rintro r h9 ⟨rfl, b10, H, K9⟩
        have K : KN h9 [(359, .inl (10, [.int th, .ref 360, .ref 361, .ref 362, .ref 363, .ref 364, .ref 365, .ref 366, .ref 367, (u 9), .int sst, (u 11), (u 12), (u 13), (u 14), (u 15), (u 16), (u 17), (u 18), (u 19), (u 20), (u 21), .ref 368, (u 23), .ref 369, .ref 370, .ref 371, .int (nI (tpA 32 (tnA (m_of w x1 4) (tmA W2 9 (tpA 32 (tnA (m_of w x1 3) (rtN nm (m_of w x1 2) (rtN nm (m_of w x1 1) (tnA (m_of w x1 0) (rtN nm (7 + x1) (tmA W1 9 T)))))))))).length)])), (360, .inr (.inl (0, w))), (366, .inr (.inr (.inl nm))), (371, .inr (.inl (1, b10)))] h0 := K.mg K9 rfl rfl
        clear K9
        show j_V jP _ 295 69 lv [] h9 _
        have q69 : (tpA 32 (tnA (m_of w x1 4) (tmA W2 9 (tpA 32 (tnA (m_of w x1 3) (rtN nm (m_of w x1 2) (rtN nm (m_of w x1 1) (tnA (m_of w x1 0) (rtN nm (7 + x1) (tmA W1 9 T)))))))))).length ≤ T.length + 62 := Nat.le_trans (Nat.le_of_eq tpA_len) (by omega)
        refine j_V.ldL myr_M myr_69 rfl (i := 0) (kd := 2) (v := .ref 359) (pcJ := 70) rfl L rfl rfl rfl ?_
        refine j_V.ldL myr_M myr_70 rfl (i := 2) (kd := 0) (v := .int 3) (pcJ := 71) rfl L rfl rfl rfl ?_
        refine j_V.cl myr_M myr_71 rfl (md := 2) (mj := 187) rfl (by decide) mpa_M (As := [.int 3]) (rest := [.ref 359]) (jk_spl2 rfl rfl (Nat.le_of_ble_eq_true rfl) (Nat.le_of_ble_eq_true rfl)) (fun d => j_V.dn mw_3k.toV) ?_
        rintro r hz ⟨rfl, ez⟩
        rw [ez]
        clear ez
        show j_V jP _ 295 74 lv [.long W3, .ref 359] h9 _
        refine j_V.cl myr_M myr_74 rfl (md := 3) (mj := 292) rfl (by decide) myw_M (As := [.ref 359, .long W3]) (rest := []) (jk_spl3 (K.at rfl) rfl rfl rfl (Nat.le_of_ble_eq_true rfl) (Nat.le_of_ble_eq_true rfl)) (fun d => myw_ok (u := u) H (by omega) (K.fi [359, 371] rfl rfl)) ?_
        rintro r h9 ⟨rfl, b11, H, K9⟩
        have K : KN h9 [(359, .inl (10, [.int th, .ref 360, .ref 361, .ref 362, .ref 363, .ref 364, .ref 365, .ref 366, .ref 367, (u 9), .int sst, (u 11), (u 12), (u 13), (u 14), (u 15), (u 16), (u 17), (u 18), (u 19), (u 20), (u 21), .ref 368, (u 23), .ref 369, .ref 370, .ref 371, .int (nI (tmA W3 9 (tpA 32 (tnA (m_of w x1 4) (tmA W2 9 (tpA 32 (tnA (m_of w x1 3) (rtN nm (m_of w x1 2) (rtN nm (m_of w x1 1) (tnA (m_of w x1 0) (rtN nm (7 + x1) (tmA W1 9 T))))))))))).length)])), (360, .inr (.inl (0, w))), (366, .inr (.inr (.inl nm))), (371, .inr (.inl (1, b11)))] h0 := K.mg K9 rfl rfl
        clear K9
        show j_V jP _ 295 77 lv [] h9 _
        have q70 : (tmA W3 9 (tpA 32 (tnA (m_of w x1 4) (tmA W2 9 (tpA 32 (tnA (m_of w x1 3) (rtN nm (m_of w x1 2) (rtN nm (m_of w x1 1) (tnA (m_of w x1 0) (rtN nm (7 + x1) (tmA W1 9 T))))))))))).length ≤ T.length + 71 := Nat.le_trans (tmA_len) (by omega)
        refine j_V.ldL myr_M myr_77 rfl (i := 0) (kd := 2) (v := .ref 359) (pcJ := 78) rfl L rfl rfl rfl ?_
        refine j_V.ldL myr_M myr_78 rfl (i := 0) (kd := 2) (v := .ref 359) (pcJ := 79) rfl L rfl rfl rfl ?_
        refine j_V.ldL myr_M myr_79 rfl (i := 1) (kd := 0) (v := .int x1) (pcJ := 80) rfl L rfl rfl rfl ?_
        refine j_V.ldL myr_M myr_80 rfl (i := 2) (kd := 0) (v := .int 3) (pcJ := 81) rfl L rfl rfl rfl ?_
        refine j_V.one myr_M myr_81 (by decide) (pcJ := 82) (stJ := [.int 2, .int 3, .int x1, .ref 359, .ref 359]) rfl ?_
        refine j_V.icmp myr_M myr_82 (t := 89) rfl (fun c82_0 => ?_) (fun c82_0 => ?_)
        · replace c82_0 : ¬ ((3 : Int32) = 2) := jd_ne c82_0
          refine j_V.one myr_M myr_89 (by decide) (pcJ := 90) (stJ := [.int 5, .int x1, .ref 359, .ref 359]) rfl ?_
          refine j_V.cl myr_M myr_90 rfl (md := 3) (mj := 178) rfl (by decide) ma3_M (As := [.ref 359, .int x1, .int 5]) (rest := [.ref 359]) (jk_spl3 (K.at rfl) rfl rfl rfl (Nat.le_of_ble_eq_true rfl) (Nat.le_of_ble_eq_true rfl)) (fun d => ma3_ok (u := (fun jz => ([.int th, .ref 360, .ref 361, .ref 362, .ref 363, .ref 364, .ref 365, .ref 366, .ref 367, (u 9), .int sst, (u 11), (u 12), (u 13), (u 14), (u 15), (u 16), (u 17), (u 18), (u 19), (u 20), (u 21), .ref 368, (u 23), .ref 369, .ref 370, .ref 371, .int (nI (tmA W3 9 (tpA 32 (tnA (m_of w x1 4) (tmA W2 9 (tpA 32 (tnA (m_of w x1 3) (rtN nm (m_of w x1 2) (rtN nm (m_of w x1 1) (tnA (m_of w x1 0) (rtN nm (7 + x1) (tmA W1 9 T))))))))))).length)] : List Value).getD jz .null)) (K.fi [359, 360] rfl rfl)) ?_
          rintro r hz ⟨rfl, ez⟩
          rw [ez]
          clear ez
          show j_V jP _ 295 93 lv [.int (m_of w x1 5), .ref 359] h9 _
          refine j_V.cl myr_M myr_93 rfl (md := 3) (mj := 294) rfl (by decide) myn_M (As := [.ref 359, .int (m_of w x1 5)]) (rest := []) (jk_spl3 (K.at rfl) rfl rfl rfl (Nat.le_of_ble_eq_true rfl) (Nat.le_of_ble_eq_true rfl)) (fun d => myn_ok (u := u) H (by omega) (K.fi [359, 371] rfl rfl)) ?_
          rintro r h9 ⟨rfl, b12, H, K9⟩
          have K : KN h9 [(359, .inl (10, [.int th, .ref 360, .ref 361, .ref 362, .ref 363, .ref 364, .ref 365, .ref 366, .ref 367, (u 9), .int sst, (u 11), (u 12), (u 13), (u 14), (u 15), (u 16), (u 17), (u 18), (u 19), (u 20), (u 21), .ref 368, (u 23), .ref 369, .ref 370, .ref 371, .int (nI (tnA (m_of w x1 5) (tmA W3 9 (tpA 32 (tnA (m_of w x1 4) (tmA W2 9 (tpA 32 (tnA (m_of w x1 3) (rtN nm (m_of w x1 2) (rtN nm (m_of w x1 1) (tnA (m_of w x1 0) (rtN nm (7 + x1) (tmA W1 9 T)))))))))))).length)])), (360, .inr (.inl (0, w))), (366, .inr (.inr (.inl nm))), (371, .inr (.inl (1, b12)))] h0 := K.mg K9 rfl rfl
          clear K9
          show j_V jP _ 295 96 lv [] h9 _
          have q71 : (tnA (m_of w x1 5) (tmA W3 9 (tpA 32 (tnA (m_of w x1 4) (tmA W2 9 (tpA 32 (tnA (m_of w x1 3) (rtN nm (m_of w x1 2) (rtN nm (m_of w x1 1) (tnA (m_of w x1 0) (rtN nm (7 + x1) (tmA W1 9 T)))))))))))).length ≤ T.length + 75 := Nat.le_trans (tnA_len) (by omega)
          refine j_V.inL2 myr_M myr_96 (i := 2) (kl' := [(0, .ref 359), (1, .int x1), (2, .int 4)]) (pcJ := 99) L rfl rfl rfl rfl (fun lv L => ?_)
          refine j_V.gto myr_M myr_99 (t := 58) rfl ?_
          refine j_V.ldL myr_M myr_58 rfl (i := 2) (kd := 0) (v := .int 4) (pcJ := 59) rfl L rfl rfl rfl ?_
          refine j_V.one myr_M myr_59 (by decide) (pcJ := 60) (stJ := [.int 3, .int 4]) rfl ?_
          refine j_V.icmp myr_M myr_60 (t := 102) rfl (fun c60_0 => ?_) (fun c60_0 => ?_)
          · replace c60_0 : (3 : Int32) < 4 := jd_gt c60_0
            refine j_V.ldL myr_M myr_102 rfl (i := 0) (kd := 2) (v := .ref 359) (pcJ := 103) rfl L rfl rfl rfl ?_
            refine j_V.one myr_M myr_103 (by decide) (pcJ := 105) (stJ := [.int 59, .ref 359]) rfl ?_
            refine j_V.cl myr_M myr_105 rfl (md := 3) (mj := 291) rfl (by decide) myp_M (As := [.ref 359, .int 59]) (rest := []) (jk_spl3 (K.at rfl) rfl rfl rfl (Nat.le_of_ble_eq_true rfl) (Nat.le_of_ble_eq_true rfl)) (fun d => myp_ok (u := u) H (by omega) (K.fi [359, 371] rfl rfl)) ?_
            rintro r h9 ⟨rfl, b13, H, K9⟩
            have K : KN h9 [(359, .inl (10, [.int th, .ref 360, .ref 361, .ref 362, .ref 363, .ref 364, .ref 365, .ref 366, .ref 367, (u 9), .int sst, (u 11), (u 12), (u 13), (u 14), (u 15), (u 16), (u 17), (u 18), (u 19), (u 20), (u 21), .ref 368, (u 23), .ref 369, .ref 370, .ref 371, .int (nI (tpA 59 (tnA (m_of w x1 5) (tmA W3 9 (tpA 32 (tnA (m_of w x1 4) (tmA W2 9 (tpA 32 (tnA (m_of w x1 3) (rtN nm (m_of w x1 2) (rtN nm (m_of w x1 1) (tnA (m_of w x1 0) (rtN nm (7 + x1) (tmA W1 9 T))))))))))))).length)])), (360, .inr (.inl (0, w))), (366, .inr (.inr (.inl nm))), (371, .inr (.inl (1, b13)))] h0 := K.mg K9 rfl rfl
            clear K9
            show j_V jP _ 295 108 lv [] h9 _
            have q72 : (tpA 59 (tnA (m_of w x1 5) (tmA W3 9 (tpA 32 (tnA (m_of w x1 4) (tmA W2 9 (tpA 32 (tnA (m_of w x1 3) (rtN nm (m_of w x1 2) (rtN nm (m_of w x1 1) (tnA (m_of w x1 0) (rtN nm (7 + x1) (tmA W1 9 T))))))))))))).length ≤ T.length + 76 := Nat.le_trans (Nat.le_of_eq tpA_len) (by omega)
            exact j_V.ret myr_M myr_108 rfl rfl ⟨rfl, _, H, K⟩
          · replace c60_0 : ¬ ((3 : Int32) < 4) := jd_gtn c60_0
            exact absurd (by decide) c60_0
        · replace c82_0 : (3 : Int32) = 2 := jd_nen c82_0
          exact absurd c82_0 (by decide)
set_option maxRecDepth 100000 in
theorem myt_M : j_meth jP 296 = some (yX10_print, cX10_print, 3, (some .int), 0, false, 10) := rfl
set_option maxRecDepth 100000 in
theorem myt_0 : j_code jP 296 0 = some (.aload_n 0) := rfl
set_option maxRecDepth 100000 in
theorem myt_1 : j_code jP 296 1 = some (.iconst 0) := rfl
set_option maxRecDepth 100000 in
theorem myt_2 : j_code jP 296 2 = some (.putfield 365) := rfl
set_option maxRecDepth 100000 in
theorem myt_5 : j_code jP 296 5 = some (.iconst 0) := rfl
set_option maxRecDepth 100000 in
theorem myt_6 : j_code jP 296 6 = some (.istore_n 1) := rfl
set_option maxRecDepth 100000 in
theorem myt_7 : j_code jP 296 7 = some (.iload_n 1) := rfl
set_option maxRecDepth 100000 in
theorem myt_8 : j_code jP 296 8 = some (.aload_n 0) := rfl
set_option maxRecDepth 100000 in
theorem myt_9 : j_code jP 296 9 = some (.getfield 7) := rfl
set_option maxRecDepth 100000 in
theorem myt_12 : j_code jP 296 12 = some (.sipush 202) := rfl
set_option maxRecDepth 100000 in
theorem myt_15 : j_code jP 296 15 = some (.iaload) := rfl
set_option maxRecDepth 100000 in
theorem myt_16 : j_code jP 296 16 = some (.if_icmp .ge 68) := rfl
set_option maxRecDepth 100000 in
theorem myt_19 : j_code jP 296 19 = some (.aload_n 0) := rfl
set_option maxRecDepth 100000 in
theorem myt_20 : j_code jP 296 20 = some (.iconst 0) := rfl
set_option maxRecDepth 100000 in
theorem myt_21 : j_code jP 296 21 = some (.invokestatic 128) := rfl
set_option maxRecDepth 100000 in
theorem myt_24 : j_code jP 296 24 = some (.invokevirtual 373) := rfl
set_option maxRecDepth 100000 in
theorem myt_27 : j_code jP 296 27 = some (.aload_n 0) := rfl
set_option maxRecDepth 100000 in
theorem myt_28 : j_code jP 296 28 = some (.iload_n 1) := rfl
set_option maxRecDepth 100000 in
theorem myt_29 : j_code jP 296 29 = some (.invokevirtual 377) := rfl
set_option maxRecDepth 100000 in
theorem myt_32 : j_code jP 296 32 = some (.aload_n 0) := rfl
set_option maxRecDepth 100000 in
theorem myt_33 : j_code jP 296 33 = some (.aload_n 0) := rfl
set_option maxRecDepth 100000 in
theorem myt_34 : j_code jP 296 34 = some (.iload_n 1) := rfl
set_option maxRecDepth 100000 in
theorem myt_35 : j_code jP 296 35 = some (.iconst 0) := rfl
set_option maxRecDepth 100000 in
theorem myt_36 : j_code jP 296 36 = some (.invokevirtual 69) := rfl
set_option maxRecDepth 100000 in
theorem myt_39 : j_code jP 296 39 = some (.invokevirtual 380) := rfl
set_option maxRecDepth 100000 in
theorem myt_42 : j_code jP 296 42 = some (.iconst 0) := rfl
set_option maxRecDepth 100000 in
theorem myt_43 : j_code jP 296 43 = some (.istore_n 2) := rfl
set_option maxRecDepth 100000 in
theorem myt_44 : j_code jP 296 44 = some (.iload_n 2) := rfl
set_option maxRecDepth 100000 in
theorem myt_45 : j_code jP 296 45 = some (.aload_n 0) := rfl
set_option maxRecDepth 100000 in
theorem myt_46 : j_code jP 296 46 = some (.iload_n 1) := rfl
set_option maxRecDepth 100000 in
theorem myt_47 : j_code jP 296 47 = some (.iconst 1) := rfl
set_option maxRecDepth 100000 in
theorem myt_48 : j_code jP 296 48 = some (.invokevirtual 69) := rfl
set_option maxRecDepth 100000 in
theorem myt_51 : j_code jP 296 51 = some (.if_icmp .ge 21) := rfl
set_option maxRecDepth 100000 in
theorem myt_54 : j_code jP 296 54 = some (.aload_n 0) := rfl
set_option maxRecDepth 100000 in
theorem myt_55 : j_code jP 296 55 = some (.aload_n 0) := rfl
set_option maxRecDepth 100000 in
theorem myt_56 : j_code jP 296 56 = some (.iload_n 1) := rfl
set_option maxRecDepth 100000 in
theorem myt_57 : j_code jP 296 57 = some (.iconst 2) := rfl
set_option maxRecDepth 100000 in
theorem myt_58 : j_code jP 296 58 = some (.iload_n 2) := rfl
set_option maxRecDepth 100000 in
theorem myt_59 : j_code jP 296 59 = some (.iadd) := rfl
set_option maxRecDepth 100000 in
theorem myt_60 : j_code jP 296 60 = some (.invokevirtual 69) := rfl
set_option maxRecDepth 100000 in
theorem myt_63 : j_code jP 296 63 = some (.invokevirtual 380) := rfl
set_option maxRecDepth 100000 in
theorem myt_66 : j_code jP 296 66 = some (.iinc 2 1) := rfl
set_option maxRecDepth 100000 in
theorem myt_69 : j_code jP 296 69 = some (.goto (-25)) := rfl
set_option maxRecDepth 100000 in
theorem myt_72 : j_code jP 296 72 = some (.aload_n 0) := rfl
set_option maxRecDepth 100000 in
theorem myt_73 : j_code jP 296 73 = some (.bipush 59) := rfl
set_option maxRecDepth 100000 in
theorem myt_75 : j_code jP 296 75 = some (.invokevirtual 370) := rfl
set_option maxRecDepth 100000 in
theorem myt_78 : j_code jP 296 78 = some (.iinc 1 1) := rfl
set_option maxRecDepth 100000 in
theorem myt_81 : j_code jP 296 81 = some (.goto (-74)) := rfl
set_option maxRecDepth 100000 in
theorem myt_84 : j_code jP 296 84 = some (.iconst 0) := rfl
set_option maxRecDepth 100000 in
theorem myt_85 : j_code jP 296 85 = some (.istore_n 1) := rfl
set_option maxRecDepth 100000 in
theorem myt_86 : j_code jP 296 86 = some (.iload_n 1) := rfl
set_option maxRecDepth 100000 in
theorem myt_87 : j_code jP 296 87 = some (.aload_n 0) := rfl
set_option maxRecDepth 100000 in
theorem myt_88 : j_code jP 296 88 = some (.getfield 7) := rfl
set_option maxRecDepth 100000 in
theorem myt_91 : j_code jP 296 91 = some (.sipush 203) := rfl
set_option maxRecDepth 100000 in
theorem myt_94 : j_code jP 296 94 = some (.iaload) := rfl
set_option maxRecDepth 100000 in
theorem myt_95 : j_code jP 296 95 = some (.if_icmp .ge 14) := rfl
set_option maxRecDepth 100000 in
theorem myt_98 : j_code jP 296 98 = some (.aload_n 0) := rfl
set_option maxRecDepth 100000 in
theorem myt_99 : j_code jP 296 99 = some (.iload_n 1) := rfl
set_option maxRecDepth 100000 in
theorem myt_100 : j_code jP 296 100 = some (.invokevirtual 383) := rfl
set_option maxRecDepth 100000 in
theorem myt_103 : j_code jP 296 103 = some (.iinc 1 1) := rfl
set_option maxRecDepth 100000 in
theorem myt_106 : j_code jP 296 106 = some (.goto (-20)) := rfl
set_option maxRecDepth 100000 in
theorem myt_109 : j_code jP 296 109 = some (.aload_n 0) := rfl
set_option maxRecDepth 100000 in
theorem myt_110 : j_code jP 296 110 = some (.aload_n 0) := rfl
set_option maxRecDepth 100000 in
theorem myt_111 : j_code jP 296 111 = some (.getfield 365) := rfl
set_option maxRecDepth 100000 in
theorem myt_114 : j_code jP 296 114 = some (.invokevirtual 195) := rfl
set_option maxRecDepth 100000 in
theorem myt_117 : j_code jP 296 117 = some (.ireturn) := rfl
theorem myt_t {d S n : Nat} {u : Nat → Value} {th sst : Int32} {w : List Int32} {nm : List Int64} : ∀ (f j : Nat) (T b : List Int32) (lv : J_L) (h h0 : J_H), j + f = n → gA w 203 = nI n → n ≤ 5 → tT 1400 T b → T.length + 76 * f ≤ 1400 → LK lv [(0, .ref 359), (1, .int (nI j))] → KN h [(359, .inl (10, [.int th, .ref 360, .ref 361, .ref 362, .ref 363, .ref 364, .ref 365, .ref 366, .ref 367, (u 9), .int sst, (u 11), (u 12), (u 13), (u 14), (u 15), (u 16), (u 17), (u 18), (u 19), (u 20), (u 21), .ref 368, (u 23), .ref 369, .ref 370, .ref 371, .int (nI T.length)])), (360, .inr (.inl (0, w))), (366, .inr (.inr (.inl nm))), (371, .inr (.inl (1, b)))] h0 → j_V jP d 296 86 lv [] h (fun rv h' => rv = some (.int (nI (tlA (rtR w nm) f (nI j) T).length)) ∧ ∃ b', tT 1400 (tlA (rtR w nm) f (nI j) T) b' ∧ KN h' [(359, .inl (10, [.int 0, .ref 360, .ref 361, .ref 362, .ref 363, .ref 364, .ref 365, .ref 366, .ref 367, (u 9), .int 0, (u 11), (u 12), (u 13), (u 14), (u 15), (u 16), (u 17), (u 18), (u 19), (u 20), (u 21), .ref 368, (u 23), .ref 369, .ref 370, .ref 371, .int (nI (tlA (rtR w nm) f (nI j) T).length)])), (360, .inr (.inl (0, w))), (366, .inr (.inr (.inl nm))), (371, .inr (.inl (1, b')))] h0) := by
  intro f
  induction f with
  | zero =>
    intro j T b lv h h0 e hn h5 H hl L K
    refine j_V.ldL myt_M myt_86 rfl (i := 1) (kd := 0) (v := .int (nI j)) (pcJ := 87) rfl L rfl rfl rfl ?_
    refine j_V.ldL myt_M myt_87 rfl (i := 0) (kd := 2) (v := .ref 359) (pcJ := 88) rfl L rfl rfl rfl ?_
    refine j_V.getK myt_M myt_88 (ci := 10) (j := 1) rfl K rfl rfl ?_
    refine j_V.one myt_M myt_91 (by decide) (pcJ := 94) (stJ := [.int 203, .ref 360, .int (nI j)]) rfl ?_
    refine j_V.iaA myt_M myt_94 K rfl ?_
    refine j_V.icmp myt_M myt_95 (t := 109) rfl (fun c95_0 => ?_) (fun c95_0 => ?_)
    · replace c95_0 : ¬ ((nI j) < (gA w 203)) := jd_ge c95_0
      refine j_V.ldL myt_M myt_109 rfl (i := 0) (kd := 2) (v := .ref 359) (pcJ := 110) rfl L rfl rfl rfl ?_
      refine j_V.ldL myt_M myt_110 rfl (i := 0) (kd := 2) (v := .ref 359) (pcJ := 111) rfl L rfl rfl rfl ?_
      refine j_V.getK myt_M myt_111 (ci := 10) (j := 27) rfl K rfl rfl ?_
      refine j_V.cl myt_M myt_114 rfl (md := 3) (mj := 170) rfl (by decide) mpg_M (As := [.ref 359, .int (nI T.length)]) (rest := []) (jk_spl3 (K.at rfl) rfl rfl rfl (Nat.le_of_ble_eq_true rfl) (Nat.le_of_ble_eq_true rfl)) (fun d => (ml_ok (v := (fun jz => ([.int th, .ref 360, .ref 361, .ref 362, .ref 363, .ref 364, .ref 365, .ref 366, .ref 367, (u 9), .int sst, (u 11), (u 12), (u 13), (u 14), (u 15), (u 16), (u 17), (u 18), (u 19), (u 20), (u 21), .ref 368, (u 23), .ref 369, .ref 370, .ref 371, .int (nI T.length)] : List Value).getD jz .null)) (K.fi [359] rfl rfl)).toV) ?_
      rintro r h8 ⟨rfl, K9⟩
      have K : KN h8 [(359, .inl (10, [.int 0, .ref 360, .ref 361, .ref 362, .ref 363, .ref 364, .ref 365, .ref 366, .ref 367, (u 9), .int 0, (u 11), (u 12), (u 13), (u 14), (u 15), (u 16), (u 17), (u 18), (u 19), (u 20), (u 21), .ref 368, (u 23), .ref 369, .ref 370, .ref 371, .int (nI T.length)])), (360, .inr (.inl (0, w))), (366, .inr (.inr (.inl nm))), (371, .inr (.inl (1, b)))] h0 := K.mg K9 rfl rfl
      show j_V jP _ 296 117 lv [.int (nI T.length)] h8 _
      exact j_V.ret myt_M myt_117 rfl rfl ⟨rfl, _, H, K⟩
    · replace c95_0 : (nI j) < (gA w 203) := jd_gen c95_0
      exact absurd c95_0 (by rw [hn, show j = n by omega]; exact Int32.lt_irrefl)
  | succ f ih =>
    intro j T b lv h h0 e hn h5 H hl L K
    refine j_V.ldL myt_M myt_86 rfl (i := 1) (kd := 0) (v := .int (nI j)) (pcJ := 87) rfl L rfl rfl rfl ?_
    refine j_V.ldL myt_M myt_87 rfl (i := 0) (kd := 2) (v := .ref 359) (pcJ := 88) rfl L rfl rfl rfl ?_
    refine j_V.getK myt_M myt_88 (ci := 10) (j := 1) rfl K rfl rfl ?_
    refine j_V.one myt_M myt_91 (by decide) (pcJ := 94) (stJ := [.int 203, .ref 360, .int (nI j)]) rfl ?_
    refine j_V.iaA myt_M myt_94 K rfl ?_
    refine j_V.icmp myt_M myt_95 (t := 109) rfl (fun c95_0 => ?_) (fun c95_0 => ?_)
    · replace c95_0 : ¬ ((nI j) < (gA w 203)) := jd_ge c95_0
      exact absurd (by rw [hn]; exact nI_lt (by omega) (by omega)) c95_0
    · replace c95_0 : (nI j) < (gA w 203) := jd_gen c95_0
      refine j_V.ldL myt_M myt_98 rfl (i := 0) (kd := 2) (v := .ref 359) (pcJ := 99) rfl L rfl rfl rfl ?_
      refine j_V.ldL myt_M myt_99 rfl (i := 1) (kd := 0) (v := .int (nI j)) (pcJ := 100) rfl L rfl rfl rfl ?_
      refine j_V.cl myt_M myt_100 rfl (md := 3) (mj := 295) rfl (by decide) myr_M (As := [.ref 359, .int (nI j)]) (rest := []) (jk_spl3 (K.at rfl) rfl rfl rfl (Nat.le_of_ble_eq_true rfl) (Nat.le_of_ble_eq_true rfl)) (fun d => myr_ok (u := u) H (by omega) (K.fi [359, 360, 366, 371] rfl rfl)) ?_
      rintro r h9 ⟨rfl, b1, H, K9⟩
      have K : KN h9 [(359, .inl (10, [.int th, .ref 360, .ref 361, .ref 362, .ref 363, .ref 364, .ref 365, .ref 366, .ref 367, (u 9), .int sst, (u 11), (u 12), (u 13), (u 14), (u 15), (u 16), (u 17), (u 18), (u 19), (u 20), (u 21), .ref 368, (u 23), .ref 369, .ref 370, .ref 371, .int (nI (rtR w nm (nI j) T).length)])), (360, .inr (.inl (0, w))), (366, .inr (.inr (.inl nm))), (371, .inr (.inl (1, b1)))] h0 := K.mg K9 rfl rfl
      clear K9
      show j_V jP _ 296 103 lv [] h9 _
      have q73 : (rtR w nm (nI j) T).length ≤ T.length + 76 := Nat.le_trans (rtR_len) (by omega)
      refine j_V.inL2 myt_M myt_103 (i := 1) (kl' := [(0, .ref 359), (1, .int ((nI j) + 1))]) (pcJ := 106) L rfl rfl rfl rfl (fun lv L => ?_)
      refine j_V.gto myt_M myt_106 (t := 86) rfl ?_
      rw [nI_s] at L
      rw [tlA_s, nI_s]
      have hq : (rtR w nm (nI j) T).length ≤ T.length + 76 := rtR_len
      exact ih _ _ _ _ _ _ (by omega) hn h5 H (by omega) L K
theorem myt_k {d : Nat} {u : Nat → Value} {th sst : Int32} {w : List Int32} {nm : List Int64} {x1 : Int32} {Q : Option Value → J_H → Prop} : ∀ (f : Nat) (v2 : Int32) (T b : List Int32) (lv : J_L) (h h0 : J_H), lpN (m_st w x1 1) v2 = f → tT 1400 T b → T.length + 4 * f + 1 ≤ 1400 → LK lv [(0, .ref 359), (1, .int x1), (2, .int v2)] → KN h [(359, .inl (10, [.int th, .ref 360, .ref 361, .ref 362, .ref 363, .ref 364, .ref 365, .ref 366, .ref 367, (u 9), .int sst, (u 11), (u 12), (u 13), (u 14), (u 15), (u 16), (u 17), (u 18), (u 19), (u 20), (u 21), .ref 368, (u 23), .ref 369, .ref 370, .ref 371, .int (nI T.length)])), (360, .inr (.inl (0, w))), (366, .inr (.inr (.inl nm))), (371, .inr (.inl (1, b)))] h0 → (∀ (b : List Int32) (lv : J_L) (h : J_H), tT 1400 (tpA 59 (tlA (rtK w x1) f v2 T)) b → LK lv [(0, .ref 359), (1, .int x1)] → KN h [(359, .inl (10, [.int th, .ref 360, .ref 361, .ref 362, .ref 363, .ref 364, .ref 365, .ref 366, .ref 367, (u 9), .int sst, (u 11), (u 12), (u 13), (u 14), (u 15), (u 16), (u 17), (u 18), (u 19), (u 20), (u 21), .ref 368, (u 23), .ref 369, .ref 370, .ref 371, .int (nI (tpA 59 (tlA (rtK w x1) f v2 T)).length)])), (360, .inr (.inl (0, w))), (366, .inr (.inr (.inl nm))), (371, .inr (.inl (1, b)))] h0 → j_V jP d 296 78 lv [] h Q) → j_V jP d 296 44 lv [] h Q := by
  intro f
  induction f with
  | zero =>
    intro v2 T b lv h h0 e H hl L K kk
    refine j_V.ldL myt_M myt_44 rfl (i := 2) (kd := 0) (v := .int v2) (pcJ := 45) rfl L rfl rfl rfl ?_
    refine j_V.ldL myt_M myt_45 rfl (i := 0) (kd := 2) (v := .ref 359) (pcJ := 46) rfl L rfl rfl rfl ?_
    refine j_V.ldL myt_M myt_46 rfl (i := 1) (kd := 0) (v := .int x1) (pcJ := 47) rfl L rfl rfl rfl ?_
    refine j_V.one myt_M myt_47 (by decide) (pcJ := 48) (stJ := [.int 1, .int x1, .ref 359, .int v2]) rfl ?_
    refine j_V.cl myt_M myt_48 rfl (md := 3) (mj := 176) rfl (by decide) ma1_M (As := [.ref 359, .int x1, .int 1]) (rest := [.int v2]) (jk_spl3 (K.at rfl) rfl rfl rfl (Nat.le_of_ble_eq_true rfl) (Nat.le_of_ble_eq_true rfl)) (fun d => ma1_ok (u := (fun jz => ([.int th, .ref 360, .ref 361, .ref 362, .ref 363, .ref 364, .ref 365, .ref 366, .ref 367, (u 9), .int sst, (u 11), (u 12), (u 13), (u 14), (u 15), (u 16), (u 17), (u 18), (u 19), (u 20), (u 21), .ref 368, (u 23), .ref 369, .ref 370, .ref 371, .int (nI T.length)] : List Value).getD jz .null)) (K.fi [359, 360] rfl rfl)) ?_
    rintro r hz ⟨rfl, ez⟩
    rw [ez]
    clear ez
    show j_V jP _ 296 51 lv [.int (m_st w x1 1), .int v2] h _
    refine j_V.icmp myt_M myt_51 (t := 72) rfl (fun c51_0 => ?_) (fun c51_0 => ?_)
    · replace c51_0 : ¬ (v2 < (m_st w x1 1)) := jd_ge c51_0
      refine j_V.ldL myt_M myt_72 rfl (i := 0) (kd := 2) (v := .ref 359) (pcJ := 73) rfl L rfl rfl rfl ?_
      refine j_V.one myt_M myt_73 (by decide) (pcJ := 75) (stJ := [.int 59, .ref 359]) rfl ?_
      refine j_V.cl myt_M myt_75 rfl (md := 3) (mj := 291) rfl (by decide) myp_M (As := [.ref 359, .int 59]) (rest := []) (jk_spl3 (K.at rfl) rfl rfl rfl (Nat.le_of_ble_eq_true rfl) (Nat.le_of_ble_eq_true rfl)) (fun d => myp_ok (u := u) H (by omega) (K.fi [359, 371] rfl rfl)) ?_
      rintro r h9 ⟨rfl, b1, H, K9⟩
      have K : KN h9 [(359, .inl (10, [.int th, .ref 360, .ref 361, .ref 362, .ref 363, .ref 364, .ref 365, .ref 366, .ref 367, (u 9), .int sst, (u 11), (u 12), (u 13), (u 14), (u 15), (u 16), (u 17), (u 18), (u 19), (u 20), (u 21), .ref 368, (u 23), .ref 369, .ref 370, .ref 371, .int (nI (tpA 59 T).length)])), (360, .inr (.inl (0, w))), (366, .inr (.inr (.inl nm))), (371, .inr (.inl (1, b1)))] h0 := K.mg K9 rfl rfl
      clear K9
      show j_V jP _ 296 78 lv [] h9 _
      have q74 : (tpA 59 T).length ≤ T.length + 1 := Nat.le_trans (Nat.le_of_eq tpA_len) (by omega)
      exact kk _ _ _ H (L.sub ⟨rfl, rfl, trivial⟩) K
    · replace c51_0 : v2 < (m_st w x1 1) := jd_gen c51_0
      exact absurd c51_0 (lpN_z e)
  | succ f ih =>
    intro v2 T b lv h h0 e H hl L K kk
    refine j_V.ldL myt_M myt_44 rfl (i := 2) (kd := 0) (v := .int v2) (pcJ := 45) rfl L rfl rfl rfl ?_
    refine j_V.ldL myt_M myt_45 rfl (i := 0) (kd := 2) (v := .ref 359) (pcJ := 46) rfl L rfl rfl rfl ?_
    refine j_V.ldL myt_M myt_46 rfl (i := 1) (kd := 0) (v := .int x1) (pcJ := 47) rfl L rfl rfl rfl ?_
    refine j_V.one myt_M myt_47 (by decide) (pcJ := 48) (stJ := [.int 1, .int x1, .ref 359, .int v2]) rfl ?_
    refine j_V.cl myt_M myt_48 rfl (md := 3) (mj := 176) rfl (by decide) ma1_M (As := [.ref 359, .int x1, .int 1]) (rest := [.int v2]) (jk_spl3 (K.at rfl) rfl rfl rfl (Nat.le_of_ble_eq_true rfl) (Nat.le_of_ble_eq_true rfl)) (fun d => ma1_ok (u := (fun jz => ([.int th, .ref 360, .ref 361, .ref 362, .ref 363, .ref 364, .ref 365, .ref 366, .ref 367, (u 9), .int sst, (u 11), (u 12), (u 13), (u 14), (u 15), (u 16), (u 17), (u 18), (u 19), (u 20), (u 21), .ref 368, (u 23), .ref 369, .ref 370, .ref 371, .int (nI T.length)] : List Value).getD jz .null)) (K.fi [359, 360] rfl rfl)) ?_
    rintro r hz ⟨rfl, ez⟩
    rw [ez]
    clear ez
    show j_V jP _ 296 51 lv [.int (m_st w x1 1), .int v2] h _
    refine j_V.icmp myt_M myt_51 (t := 72) rfl (fun c51_0 => ?_) (fun c51_0 => ?_)
    · replace c51_0 : ¬ (v2 < (m_st w x1 1)) := jd_ge c51_0
      exact absurd (lpN_s e) c51_0
    · replace c51_0 : v2 < (m_st w x1 1) := jd_gen c51_0
      refine j_V.ldL myt_M myt_54 rfl (i := 0) (kd := 2) (v := .ref 359) (pcJ := 55) rfl L rfl rfl rfl ?_
      refine j_V.ldL myt_M myt_55 rfl (i := 0) (kd := 2) (v := .ref 359) (pcJ := 56) rfl L rfl rfl rfl ?_
      refine j_V.ldL myt_M myt_56 rfl (i := 1) (kd := 0) (v := .int x1) (pcJ := 57) rfl L rfl rfl rfl ?_
      refine j_V.one myt_M myt_57 (by decide) (pcJ := 58) (stJ := [.int 2, .int x1, .ref 359, .ref 359]) rfl ?_
      refine j_V.ldL myt_M myt_58 rfl (i := 2) (kd := 0) (v := .int v2) (pcJ := 59) rfl L rfl rfl rfl ?_
      refine j_V.one myt_M myt_59 (by decide) (pcJ := 60) (stJ := [.int (2 + v2), .int x1, .ref 359, .ref 359]) rfl ?_
      refine j_V.cl myt_M myt_60 rfl (md := 3) (mj := 176) rfl (by decide) ma1_M (As := [.ref 359, .int x1, .int (2 + v2)]) (rest := [.ref 359]) (jk_spl3 (K.at rfl) rfl rfl rfl (Nat.le_of_ble_eq_true rfl) (Nat.le_of_ble_eq_true rfl)) (fun d => ma1_ok (u := (fun jz => ([.int th, .ref 360, .ref 361, .ref 362, .ref 363, .ref 364, .ref 365, .ref 366, .ref 367, (u 9), .int sst, (u 11), (u 12), (u 13), (u 14), (u 15), (u 16), (u 17), (u 18), (u 19), (u 20), (u 21), .ref 368, (u 23), .ref 369, .ref 370, .ref 371, .int (nI T.length)] : List Value).getD jz .null)) (K.fi [359, 360] rfl rfl)) ?_
      rintro r hz ⟨rfl, ez⟩
      rw [ez]
      clear ez
      show j_V jP _ 296 63 lv [.int (m_st w x1 (2 + v2)), .ref 359] h _
      refine j_V.cl myt_M myt_63 rfl (md := 3) (mj := 294) rfl (by decide) myn_M (As := [.ref 359, .int (m_st w x1 (2 + v2))]) (rest := []) (jk_spl3 (K.at rfl) rfl rfl rfl (Nat.le_of_ble_eq_true rfl) (Nat.le_of_ble_eq_true rfl)) (fun d => myn_ok (u := u) H (by omega) (K.fi [359, 371] rfl rfl)) ?_
      rintro r h9 ⟨rfl, b1, H, K9⟩
      have K : KN h9 [(359, .inl (10, [.int th, .ref 360, .ref 361, .ref 362, .ref 363, .ref 364, .ref 365, .ref 366, .ref 367, (u 9), .int sst, (u 11), (u 12), (u 13), (u 14), (u 15), (u 16), (u 17), (u 18), (u 19), (u 20), (u 21), .ref 368, (u 23), .ref 369, .ref 370, .ref 371, .int (nI (tnA (m_st w x1 (2 + v2)) T).length)])), (360, .inr (.inl (0, w))), (366, .inr (.inr (.inl nm))), (371, .inr (.inl (1, b1)))] h0 := K.mg K9 rfl rfl
      clear K9
      show j_V jP _ 296 66 lv [] h9 _
      have q75 : (tnA (m_st w x1 (2 + v2)) T).length ≤ T.length + 4 := Nat.le_trans (tnA_len) (by omega)
      refine j_V.inL2 myt_M myt_66 (i := 2) (kl' := [(0, .ref 359), (1, .int x1), (2, .int (v2 + 1))]) (pcJ := 69) L rfl rfl rfl rfl (fun lv L => ?_)
      refine j_V.gto myt_M myt_69 (t := 44) rfl ?_
      exact ih _ _ _ _ _ _ (lpN_n e) H (by have : (rtK w x1 v2 T).length ≤ _ := rtK_len; show (rtK w x1 v2 T).length + _ + 1 ≤ 1400; omega) L K kk
theorem myt_s {d S n : Nat} {u : Nat → Value} {th sst : Int32} {w : List Int32} {nm : List Int64} : ∀ (f j : Nat) (T b : List Int32) (lv : J_L) (h h0 : J_H), j + f = S → gA w 203 = nI n → gA w 202 = nI S → n ≤ 5 → S ≤ 7 → (∀ j, j < S → lpN (m_st w (nI j) 1) 0 ≤ 3) → tT 1400 T b → T.length + 36 * f + 76 * n ≤ 1400 → LK lv [(0, .ref 359), (1, .int (nI j))] → KN h [(359, .inl (10, [.int th, .ref 360, .ref 361, .ref 362, .ref 363, .ref 364, .ref 365, .ref 366, .ref 367, (u 9), .int sst, (u 11), (u 12), (u 13), (u 14), (u 15), (u 16), (u 17), (u 18), (u 19), (u 20), (u 21), .ref 368, (u 23), .ref 369, .ref 370, .ref 371, .int (nI T.length)])), (360, .inr (.inl (0, w))), (366, .inr (.inr (.inl nm))), (371, .inr (.inl (1, b)))] h0 → j_V jP d 296 7 lv [] h (fun rv h' => rv = some (.int (nI (tlA (rtR w nm) n (nI 0) (tlA (rtS w nm) f (nI j) T)).length)) ∧ ∃ b', tT 1400 (tlA (rtR w nm) n (nI 0) (tlA (rtS w nm) f (nI j) T)) b' ∧ KN h' [(359, .inl (10, [.int 0, .ref 360, .ref 361, .ref 362, .ref 363, .ref 364, .ref 365, .ref 366, .ref 367, (u 9), .int 0, (u 11), (u 12), (u 13), (u 14), (u 15), (u 16), (u 17), (u 18), (u 19), (u 20), (u 21), .ref 368, (u 23), .ref 369, .ref 370, .ref 371, .int (nI (tlA (rtR w nm) n (nI 0) (tlA (rtS w nm) f (nI j) T)).length)])), (360, .inr (.inl (0, w))), (366, .inr (.inr (.inl nm))), (371, .inr (.inl (1, b')))] h0) := by
  intro f
  induction f with
  | zero =>
    intro j T b lv h h0 e hn hS h5 h7 hk H hl L K
    refine j_V.ldL myt_M myt_7 rfl (i := 1) (kd := 0) (v := .int (nI j)) (pcJ := 8) rfl L rfl rfl rfl ?_
    refine j_V.ldL myt_M myt_8 rfl (i := 0) (kd := 2) (v := .ref 359) (pcJ := 9) rfl L rfl rfl rfl ?_
    refine j_V.getK myt_M myt_9 (ci := 10) (j := 1) rfl K rfl rfl ?_
    refine j_V.one myt_M myt_12 (by decide) (pcJ := 15) (stJ := [.int 202, .ref 360, .int (nI j)]) rfl ?_
    refine j_V.iaA myt_M myt_15 K rfl ?_
    refine j_V.icmp myt_M myt_16 (t := 84) rfl (fun c16_0 => ?_) (fun c16_0 => ?_)
    · replace c16_0 : ¬ ((nI j) < (gA w 202)) := jd_ge c16_0
      refine j_V.one myt_M myt_84 (by decide) (pcJ := 85) (stJ := [.int 0]) rfl ?_
      refine j_V.stL2 myt_M myt_85 rfl (i := 1) (kd := 0) (kl' := [(0, .ref 359), (1, .int 0)]) (pcJ := 86) rfl L rfl (by decide) rfl rfl rfl (fun lv L => ?_)
      exact myt_t (S := 0) n 0 T _ _ _ _ (by omega) hn h5 H (by omega) L K
    · replace c16_0 : (nI j) < (gA w 202) := jd_gen c16_0
      exact absurd c16_0 (by rw [hS, show j = S by omega]; exact Int32.lt_irrefl)
  | succ f ih =>
    intro j T b lv h h0 e hn hS h5 h7 hk H hl L K
    refine j_V.ldL myt_M myt_7 rfl (i := 1) (kd := 0) (v := .int (nI j)) (pcJ := 8) rfl L rfl rfl rfl ?_
    refine j_V.ldL myt_M myt_8 rfl (i := 0) (kd := 2) (v := .ref 359) (pcJ := 9) rfl L rfl rfl rfl ?_
    refine j_V.getK myt_M myt_9 (ci := 10) (j := 1) rfl K rfl rfl ?_
    refine j_V.one myt_M myt_12 (by decide) (pcJ := 15) (stJ := [.int 202, .ref 360, .int (nI j)]) rfl ?_
    refine j_V.iaA myt_M myt_15 K rfl ?_
    refine j_V.icmp myt_M myt_16 (t := 84) rfl (fun c16_0 => ?_) (fun c16_0 => ?_)
    · replace c16_0 : ¬ ((nI j) < (gA w 202)) := jd_ge c16_0
      exact absurd (by rw [hS]; exact nI_lt (by omega) (by omega)) c16_0
    · replace c16_0 : (nI j) < (gA w 202) := jd_gen c16_0
      refine j_V.ldL myt_M myt_19 rfl (i := 0) (kd := 2) (v := .ref 359) (pcJ := 20) rfl L rfl rfl rfl ?_
      refine j_V.one myt_M myt_20 (by decide) (pcJ := 21) (stJ := [.int 0, .ref 359]) rfl ?_
      refine j_V.cl myt_M myt_21 rfl (md := 2) (mj := 187) rfl (by decide) mpa_M (As := [.int 0]) (rest := [.ref 359]) (jk_spl2 rfl rfl (Nat.le_of_ble_eq_true rfl) (Nat.le_of_ble_eq_true rfl)) (fun d => j_V.dn mw_0k.toV) ?_
      rintro r hz ⟨rfl, ez⟩
      rw [ez]
      clear ez
      show j_V jP _ 296 24 lv [.long W0, .ref 359] h _
      refine j_V.cl myt_M myt_24 rfl (md := 3) (mj := 292) rfl (by decide) myw_M (As := [.ref 359, .long W0]) (rest := []) (jk_spl3 (K.at rfl) rfl rfl rfl (Nat.le_of_ble_eq_true rfl) (Nat.le_of_ble_eq_true rfl)) (fun d => myw_ok (u := u) H (by omega) (K.fi [359, 371] rfl rfl)) ?_
      rintro r h9 ⟨rfl, b1, H, K9⟩
      have K : KN h9 [(359, .inl (10, [.int th, .ref 360, .ref 361, .ref 362, .ref 363, .ref 364, .ref 365, .ref 366, .ref 367, (u 9), .int sst, (u 11), (u 12), (u 13), (u 14), (u 15), (u 16), (u 17), (u 18), (u 19), (u 20), (u 21), .ref 368, (u 23), .ref 369, .ref 370, .ref 371, .int (nI (tmA W0 9 T).length)])), (360, .inr (.inl (0, w))), (366, .inr (.inr (.inl nm))), (371, .inr (.inl (1, b1)))] h0 := K.mg K9 rfl rfl
      clear K9
      show j_V jP _ 296 27 lv [] h9 _
      have q76 : (tmA W0 9 T).length ≤ T.length + 9 := Nat.le_trans (tmA_len) (by omega)
      refine j_V.ldL myt_M myt_27 rfl (i := 0) (kd := 2) (v := .ref 359) (pcJ := 28) rfl L rfl rfl rfl ?_
      refine j_V.ldL myt_M myt_28 rfl (i := 1) (kd := 0) (v := .int (nI j)) (pcJ := 29) rfl L rfl rfl rfl ?_
      refine j_V.cl myt_M myt_29 rfl (md := 3) (mj := 293) rfl (by decide) myq_M (As := [.ref 359, .int (nI j)]) (rest := []) (jk_spl3 (K.at rfl) rfl rfl rfl (Nat.le_of_ble_eq_true rfl) (Nat.le_of_ble_eq_true rfl)) (fun d => myq_ok (u := u) H (by omega) (K.fi [359, 366, 371] rfl rfl)) ?_
      rintro r h9 ⟨rfl, b2, H, K9⟩
      have K : KN h9 [(359, .inl (10, [.int th, .ref 360, .ref 361, .ref 362, .ref 363, .ref 364, .ref 365, .ref 366, .ref 367, (u 9), .int sst, (u 11), (u 12), (u 13), (u 14), (u 15), (u 16), (u 17), (u 18), (u 19), (u 20), (u 21), .ref 368, (u 23), .ref 369, .ref 370, .ref 371, .int (nI (rtN nm (nI j) (tmA W0 9 T)).length)])), (360, .inr (.inl (0, w))), (366, .inr (.inr (.inl nm))), (371, .inr (.inl (1, b2)))] h0 := K.mg K9 rfl rfl
      clear K9
      show j_V jP _ 296 32 lv [] h9 _
      have q77 : (rtN nm (nI j) (tmA W0 9 T)).length ≤ T.length + 19 := Nat.le_trans (rtN_len) (by omega)
      refine j_V.ldL myt_M myt_32 rfl (i := 0) (kd := 2) (v := .ref 359) (pcJ := 33) rfl L rfl rfl rfl ?_
      refine j_V.ldL myt_M myt_33 rfl (i := 0) (kd := 2) (v := .ref 359) (pcJ := 34) rfl L rfl rfl rfl ?_
      refine j_V.ldL myt_M myt_34 rfl (i := 1) (kd := 0) (v := .int (nI j)) (pcJ := 35) rfl L rfl rfl rfl ?_
      refine j_V.one myt_M myt_35 (by decide) (pcJ := 36) (stJ := [.int 0, .int (nI j), .ref 359, .ref 359]) rfl ?_
      refine j_V.cl myt_M myt_36 rfl (md := 3) (mj := 176) rfl (by decide) ma1_M (As := [.ref 359, .int (nI j), .int 0]) (rest := [.ref 359]) (jk_spl3 (K.at rfl) rfl rfl rfl (Nat.le_of_ble_eq_true rfl) (Nat.le_of_ble_eq_true rfl)) (fun d => ma1_ok (u := (fun jz => ([.int th, .ref 360, .ref 361, .ref 362, .ref 363, .ref 364, .ref 365, .ref 366, .ref 367, (u 9), .int sst, (u 11), (u 12), (u 13), (u 14), (u 15), (u 16), (u 17), (u 18), (u 19), (u 20), (u 21), .ref 368, (u 23), .ref 369, .ref 370, .ref 371, .int (nI (rtN nm (nI j) (tmA W0 9 T)).length)] : List Value).getD jz .null)) (K.fi [359, 360] rfl rfl)) ?_
      rintro r hz ⟨rfl, ez⟩
      rw [ez]
      clear ez
      show j_V jP _ 296 39 lv [.int (m_st w (nI j) 0), .ref 359] h9 _
      refine j_V.cl myt_M myt_39 rfl (md := 3) (mj := 294) rfl (by decide) myn_M (As := [.ref 359, .int (m_st w (nI j) 0)]) (rest := []) (jk_spl3 (K.at rfl) rfl rfl rfl (Nat.le_of_ble_eq_true rfl) (Nat.le_of_ble_eq_true rfl)) (fun d => myn_ok (u := u) H (by omega) (K.fi [359, 371] rfl rfl)) ?_
      rintro r h9 ⟨rfl, b3, H, K9⟩
      have K : KN h9 [(359, .inl (10, [.int th, .ref 360, .ref 361, .ref 362, .ref 363, .ref 364, .ref 365, .ref 366, .ref 367, (u 9), .int sst, (u 11), (u 12), (u 13), (u 14), (u 15), (u 16), (u 17), (u 18), (u 19), (u 20), (u 21), .ref 368, (u 23), .ref 369, .ref 370, .ref 371, .int (nI (tnA (m_st w (nI j) 0) (rtN nm (nI j) (tmA W0 9 T))).length)])), (360, .inr (.inl (0, w))), (366, .inr (.inr (.inl nm))), (371, .inr (.inl (1, b3)))] h0 := K.mg K9 rfl rfl
      clear K9
      show j_V jP _ 296 42 lv [] h9 _
      have q78 : (tnA (m_st w (nI j) 0) (rtN nm (nI j) (tmA W0 9 T))).length ≤ T.length + 23 := Nat.le_trans (tnA_len) (by omega)
      refine j_V.one myt_M myt_42 (by decide) (pcJ := 43) (stJ := [.int 0]) rfl ?_
      refine j_V.stL2 myt_M myt_43 rfl (i := 2) (kd := 0) (kl' := [(0, .ref 359), (1, .int (nI j)), (2, .int 0)]) (pcJ := 44) rfl L rfl (by decide) rfl rfl rfl (fun lv L => ?_)
      have hk0 := hk j (by omega)
      refine myt_k _ _ _ _ _ _ _ rfl H (by omega) L K (fun b lv h H L K => ?_)
      refine j_V.inL2 myt_M myt_78 (i := 1) (kl' := [(0, .ref 359), (1, .int ((nI j) + 1))]) (pcJ := 81) L rfl rfl rfl rfl (fun lv L => ?_)
      refine j_V.gto myt_M myt_81 (t := 7) rfl ?_
      rw [nI_s] at L
      rw [tlA_s, nI_s]
      have hq : (rtS w nm (nI j) T).length ≤ _ := rtS_len
      exact ih (j + 1) (rtS w nm (nI j) T) _ _ _ _ (by omega) hn hS h5 h7 hk H (by omega) L K
theorem myt_ok {h h0 : J_H} {d S n : Nat} {u : Nat → Value} {th sst : Int32} {w : List Int32} {nm : List Int64} {om : Int32} {b : List Int32} (hn : gA w 203 = nI n) (hS : gA w 202 = nI S) (h5 : n ≤ 5) (h7 : S ≤ 7) (hk : ∀ j, j < S → lpN (m_st w (nI j) 1) 0 ≤ 3) (hb : b.length = 1400) (K : KN h [(359, .inl (10, [.int th, .ref 360, .ref 361, .ref 362, .ref 363, .ref 364, .ref 365, .ref 366, .ref 367, (u 9), .int sst, (u 11), (u 12), (u 13), (u 14), (u 15), (u 16), (u 17), (u 18), (u 19), (u 20), (u 21), .ref 368, (u 23), .ref 369, .ref 370, .ref 371, .int om])), (360, .inr (.inl (0, w))), (366, .inr (.inr (.inl nm))), (371, .inr (.inl (1, b)))] h0) : j_V jP d 296 0 (lv_args 0 [.ref 359]) [] h (fun rv h' => rv = some (.int (nI (rtW S n w nm).length)) ∧ ∃ b', tT 1400 (rtW S n w nm) b' ∧ KN h' [(359, .inl (10, [.int 0, .ref 360, .ref 361, .ref 362, .ref 363, .ref 364, .ref 365, .ref 366, .ref 367, (u 9), .int 0, (u 11), (u 12), (u 13), (u 14), (u 15), (u 16), (u 17), (u 18), (u 19), (u 20), (u 21), .ref 368, (u 23), .ref 369, .ref 370, .ref 371, .int (nI (rtW S n w nm).length)])), (360, .inr (.inl (0, w))), (366, .inr (.inr (.inl nm))), (371, .inr (.inl (1, b')))] h0) := by
  show j_V jP d 296 0 [(0, .ref 359)] [] h _
  obtain ⟨lv, elv, L⟩ : ∃ lv, lv = [(0, .ref 359)] ∧ LK lv [(0, .ref 359)] := ⟨_, rfl, LK.rf⟩
  rw [← elv]
  clear elv
  refine j_V.ldL myt_M myt_0 rfl (i := 0) (kd := 2) (v := .ref 359) (pcJ := 1) rfl L rfl rfl rfl ?_
  refine j_V.one myt_M myt_1 (by decide) (pcJ := 2) (stJ := [.int 0, .ref 359]) rfl ?_
  refine j_V.putK myt_M myt_2 (ci := 10) (j := 27) (k' := [(359, .inl (10, [.int th, .ref 360, .ref 361, .ref 362, .ref 363, .ref 364, .ref 365, .ref 366, .ref 367, (u 9), .int sst, (u 11), (u 12), (u 13), (u 14), (u 15), (u 16), (u 17), (u 18), (u 19), (u 20), (u 21), .ref 368, (u 23), .ref 369, .ref 370, .ref 371, .int 0])), (360, .inr (.inl (0, w))), (366, .inr (.inr (.inl nm))), (371, .inr (.inl (1, b)))]) rfl K rfl (Nat.le_of_ble_eq_true rfl) rfl (Or.inl rfl) rfl rfl (fun h K => ?_)
  refine j_V.one myt_M myt_5 (by decide) (pcJ := 6) (stJ := [.int 0]) rfl ?_
  refine j_V.stL2 myt_M myt_6 rfl (i := 1) (kd := 0) (kl' := [(0, .ref 359), (1, .int 0)]) (pcJ := 7) rfl L rfl (by decide) rfl rfl rfl (fun lv L => ?_)
  exact myt_s S 0 [] _ _ _ _ (by omega) hn hS h5 h7 hk ⟨hb, fun i hi => absurd hi (Nat.not_lt_zero i)⟩ (show 0 + 36 * S + 76 * n ≤ 1400 by omega) L K

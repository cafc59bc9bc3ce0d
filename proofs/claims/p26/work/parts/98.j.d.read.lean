/-! the class's reader: written by wip/jk/gen_read.py -/
set_option maxRecDepth 100000 in
theorem xw_M : j_meth jP 108 = some (yX8_isWord, cX8_isWord, 3, (some .boolean), 1, false, 8) := rfl
set_option maxRecDepth 100000 in
theorem xw_0 : j_code jP 108 0 = some (.aload_n 0) := rfl
set_option maxRecDepth 100000 in
theorem xw_1 : j_code jP 108 1 = some (.getfield 38) := rfl
set_option maxRecDepth 100000 in
theorem xw_4 : j_code jP 108 4 = some (.iconst 1) := rfl
set_option maxRecDepth 100000 in
theorem xw_5 : j_code jP 108 5 = some (.if_icmp .ne 16) := rfl
set_option maxRecDepth 100000 in
theorem xw_8 : j_code jP 108 8 = some (.aload_n 0) := rfl
set_option maxRecDepth 100000 in
theorem xw_9 : j_code jP 108 9 = some (.getfield 47) := rfl
set_option maxRecDepth 100000 in
theorem xw_12 : j_code jP 108 12 = some (.lload_n 1) := rfl
set_option maxRecDepth 100000 in
theorem xw_13 : j_code jP 108 13 = some (.lcmp) := rfl
set_option maxRecDepth 100000 in
theorem xw_14 : j_code jP 108 14 = some (.ifCond .ne 7) := rfl
set_option maxRecDepth 100000 in
theorem xw_17 : j_code jP 108 17 = some (.iconst 1) := rfl
set_option maxRecDepth 100000 in
theorem xw_18 : j_code jP 108 18 = some (.goto 4) := rfl
set_option maxRecDepth 100000 in
theorem xw_21 : j_code jP 108 21 = some (.iconst 0) := rfl
set_option maxRecDepth 100000 in
theorem xw_22 : j_code jP 108 22 = some (.ireturn) := rfl
theorem xw_ok {ln nx kd pl nu : Int32} {wo : Int64} {e : Nat} {h h0 : J_H} {d : Nat} {w : Int64} (K : KN h [(1, .inl (8, [.ref 2, .int ln, .int (nI e), .int nx, .int kd, .int pl, .long wo, .int nu]))] h0) : j_W jP d 108 0 (lv_args 0 [.ref 1, .long w]) [] h (fun rv h' => rv = some (.int (if kd = 1 ∧ wo = w then 1 else 0)) ∧ h' = h) := by
  show j_W jP d 108 0 [(0, .ref 1), (1, .long w)] [] h _
  refine j_W.one xw_M xw_0 (by decide) (pcJ := 1) (stJ := [.ref 1]) rfl ?_
  refine j_W.getK xw_M xw_1 (ci := 8) (j := 4) rfl K rfl rfl ?_
  refine j_W.one xw_M xw_4 (by decide) (pcJ := 5) (stJ := [.int 1, .int kd]) rfl ?_
  refine j_W.icmp xw_M xw_5 (t := 21) rfl (fun c => ?_) (fun c => ?_)
  · have c : ¬ kd = 1 := by simpa [j_cond] using c
    refine j_W.one xw_M xw_21 (by decide) (pcJ := 22) (stJ := [.int 0]) rfl ?_
    refine j_W.ret xw_M xw_22 rfl rfl ⟨by rw [if_neg (fun z => c z.1)], rfl⟩
  · have c1 : kd = 1 := by simpa [j_cond] using c
    refine j_W.one xw_M xw_8 (by decide) (pcJ := 9) (stJ := [.ref 1]) rfl ?_
    refine j_W.getK xw_M xw_9 (ci := 8) (j := 6) rfl K rfl rfl ?_
    refine j_W.one xw_M xw_12 (by decide) (pcJ := 13) (stJ := [.long w, .long wo]) rfl ?_
    refine j_W.one xw_M xw_13 (by decide) (pcJ := 14) (stJ := [.int (lg_cmp wo w)]) rfl ?_
    refine j_W.ifc xw_M xw_14 (t := 21) rfl (fun c => ?_) (fun c => ?_)
    · rw [jk_lcmp] at c; have c : ¬ wo = w := by simpa using c
      refine j_W.one xw_M xw_21 (by decide) (pcJ := 22) (stJ := [.int 0]) rfl ?_
      refine j_W.ret xw_M xw_22 rfl rfl ⟨by rw [if_neg (fun z => c z.2)], rfl⟩
    · rw [jk_lcmp] at c; have c : wo = w := by simpa using c
      refine j_W.one xw_M xw_17 (by decide) (pcJ := 18) (stJ := [.int 1]) rfl ?_
      refine j_W.gto xw_M xw_18 (t := 22) rfl ?_
      refine j_W.ret xw_M xw_22 rfl rfl ⟨by rw [if_pos ⟨c1, c⟩], rfl⟩
set_option maxRecDepth 100000 in
theorem xf_M : j_meth jP 46 = some (yX4_fail, cX4_fail, 2, (some .boolean), 1, false, 4) := rfl
set_option maxRecDepth 100000 in
theorem xf_0 : j_code jP 46 0 = some (.aload_n 0) := rfl
set_option maxRecDepth 100000 in
theorem xf_1 : j_code jP 46 1 = some (.iload_n 1) := rfl
set_option maxRecDepth 100000 in
theorem xf_2 : j_code jP 46 2 = some (.putfield 9) := rfl
set_option maxRecDepth 100000 in
theorem xf_5 : j_code jP 46 5 = some (.aload_n 0) := rfl
set_option maxRecDepth 100000 in
theorem xf_6 : j_code jP 46 6 = some (.aload_n 0) := rfl
set_option maxRecDepth 100000 in
theorem xf_7 : j_code jP 46 7 = some (.getfield 18) := rfl
set_option maxRecDepth 100000 in
theorem xf_10 : j_code jP 46 10 = some (.getfield 148) := rfl
set_option maxRecDepth 100000 in
theorem xf_13 : j_code jP 46 13 = some (.putfield 15) := rfl
set_option maxRecDepth 100000 in
theorem xf_16 : j_code jP 46 16 = some (.iconst 0) := rfl
set_option maxRecDepth 100000 in
theorem xf_17 : j_code jP 46 17 = some (.ireturn) := rfl
theorem xf_ok {ln nx kd pl nu fa pa : Int32} {wo : Int64} {e la : Nat} {h h0 : J_H} {d : Nat} {z : Int32} (K : KN h [(1, .inl (8, [.ref 2, .int ln, .int (nI e), .int nx, .int kd, .int pl, .long wo, .int nu])), (3, .inl (4, [.ref 1, .ref la, .int fa, .int pa]))] h0) : j_W jP d 46 0 (lv_args 0 [.ref 3, .int z]) [] h (fun rv h' => rv = some (.int 0) ∧ KN h' [(1, .inl (8, [.ref 2, .int ln, .int (nI e), .int nx, .int kd, .int pl, .long wo, .int nu])), (3, .inl (4, [.ref 1, .ref la, .int z, .int pl]))] h0) := by
  show j_W jP d 46 0 [(0, .ref 3), (1, .int z)] [] h _
  refine j_W.one xf_M xf_0 (by decide) (pcJ := 1) (stJ := [.ref 3]) rfl ?_
  refine j_W.one xf_M xf_1 (by decide) (pcJ := 2) (stJ := [.int z, .ref 3]) rfl ?_
  refine j_W.putK xf_M xf_2 (ci := 4) (j := 2) (k' := [(1, .inl (8, [.ref 2, .int ln, .int (nI e), .int nx, .int kd, .int pl, .long wo, .int nu])), (3, .inl (4, [.ref 1, .ref la, .int z, .int pa]))]) rfl K rfl (Nat.le_of_ble_eq_true rfl) rfl (Or.inl rfl) rfl rfl (fun h K => ?_)
  refine j_W.one xf_M xf_5 (by decide) (pcJ := 6) (stJ := [.ref 3]) rfl ?_
  refine j_W.one xf_M xf_6 (by decide) (pcJ := 7) (stJ := [.ref 3, .ref 3]) rfl ?_
  refine j_W.getK xf_M xf_7 (ci := 4) (j := 0) rfl K rfl rfl ?_
  refine j_W.getK xf_M xf_10 (ci := 8) (j := 5) rfl K rfl rfl ?_
  refine j_W.putK xf_M xf_13 (ci := 4) (j := 3) (k' := [(1, .inl (8, [.ref 2, .int ln, .int (nI e), .int nx, .int kd, .int pl, .long wo, .int nu])), (3, .inl (4, [.ref 1, .ref la, .int z, .int pl]))]) rfl K rfl (Nat.le_of_ble_eq_true rfl) rfl (Or.inl rfl) rfl rfl (fun h K => ?_)
  refine j_W.one xf_M xf_16 (by decide) (pcJ := 17) (stJ := [.int 0]) rfl ?_
  refine j_W.ret xf_M xf_17 rfl rfl ⟨rfl, K⟩
set_option maxRecDepth 100000 in
theorem xh_M : j_meth jP 45 = some (yX4_failHere, cX4_failHere, 1, (some .boolean), 0, false, 4) := rfl
set_option maxRecDepth 100000 in
theorem xh_0 : j_code jP 45 0 = some (.aload_n 0) := rfl
set_option maxRecDepth 100000 in
theorem xh_1 : j_code jP 45 1 = some (.aload_n 0) := rfl
set_option maxRecDepth 100000 in
theorem xh_2 : j_code jP 45 2 = some (.getfield 18) := rfl
set_option maxRecDepth 100000 in
theorem xh_5 : j_code jP 45 5 = some (.getfield 40) := rfl
set_option maxRecDepth 100000 in
theorem xh_8 : j_code jP 45 8 = some (.iconst 4) := rfl
set_option maxRecDepth 100000 in
theorem xh_9 : j_code jP 45 9 = some (.if_icmp .ne 7) := rfl
set_option maxRecDepth 100000 in
theorem xh_12 : j_code jP 45 12 = some (.iconst 1) := rfl
set_option maxRecDepth 100000 in
theorem xh_13 : j_code jP 45 13 = some (.goto 4) := rfl
set_option maxRecDepth 100000 in
theorem xh_16 : j_code jP 45 16 = some (.iconst 2) := rfl
set_option maxRecDepth 100000 in
theorem xh_17 : j_code jP 45 17 = some (.putfield 9) := rfl
set_option maxRecDepth 100000 in
theorem xh_20 : j_code jP 45 20 = some (.aload_n 0) := rfl
set_option maxRecDepth 100000 in
theorem xh_21 : j_code jP 45 21 = some (.aload_n 0) := rfl
set_option maxRecDepth 100000 in
theorem xh_22 : j_code jP 45 22 = some (.getfield 18) := rfl
set_option maxRecDepth 100000 in
theorem xh_25 : j_code jP 45 25 = some (.getfield 148) := rfl
set_option maxRecDepth 100000 in
theorem xh_28 : j_code jP 45 28 = some (.putfield 15) := rfl
set_option maxRecDepth 100000 in
theorem xh_31 : j_code jP 45 31 = some (.iconst 0) := rfl
set_option maxRecDepth 100000 in
theorem xh_32 : j_code jP 45 32 = some (.ireturn) := rfl
theorem xh_ok {ln nx kd pl nu fa pa : Int32} {wo : Int64} {e la : Nat} {h h0 : J_H} {d : Nat} (K : KN h [(1, .inl (8, [.ref 2, .int ln, .int (nI e), .int nx, .int kd, .int pl, .long wo, .int nu])), (3, .inl (4, [.ref 1, .ref la, .int fa, .int pa]))] h0) : j_W jP d 45 0 (lv_args 0 [.ref 3]) [] h (fun rv h' => rv = some (.int 0) ∧ KN h' [(1, .inl (8, [.ref 2, .int ln, .int (nI e), .int nx, .int kd, .int pl, .long wo, .int nu])), (3, .inl (4, [.ref 1, .ref la, .int (if kd = 4 then 1 else 2), .int pl]))] h0) := by
  show j_W jP d 45 0 [(0, .ref 3)] [] h _
  refine j_W.one xh_M xh_0 (by decide) (pcJ := 1) (stJ := [.ref 3]) rfl ?_
  refine j_W.one xh_M xh_1 (by decide) (pcJ := 2) (stJ := [.ref 3, .ref 3]) rfl ?_
  refine j_W.getK xh_M xh_2 (ci := 4) (j := 0) rfl K rfl rfl ?_
  refine j_W.getK xh_M xh_5 (ci := 8) (j := 4) rfl K rfl rfl ?_
  refine j_W.one xh_M xh_8 (by decide) (pcJ := 9) (stJ := [.int 4, .int kd, .ref 3]) rfl ?_
  refine j_W.icmp xh_M xh_9 (t := 16) rfl (fun c => ?_) (fun c => ?_)
  · have c : ¬ kd = 4 := by simpa [j_cond] using c
    refine j_W.one xh_M xh_16 (by decide) (pcJ := 17) (stJ := [.int 2, .ref 3]) rfl ?_
    refine j_W.putK xh_M xh_17 (ci := 4) (j := 2) (k' := [(1, .inl (8, [.ref 2, .int ln, .int (nI e), .int nx, .int kd, .int pl, .long wo, .int nu])), (3, .inl (4, [.ref 1, .ref la, .int 2, .int pa]))]) rfl K rfl (Nat.le_of_ble_eq_true rfl) rfl (Or.inl rfl) rfl rfl (fun h K => ?_)
    refine j_W.one xh_M xh_20 (by decide) (pcJ := 21) (stJ := [.ref 3]) rfl ?_
    refine j_W.one xh_M xh_21 (by decide) (pcJ := 22) (stJ := [.ref 3, .ref 3]) rfl ?_
    refine j_W.getK xh_M xh_22 (ci := 4) (j := 0) rfl K rfl rfl ?_
    refine j_W.getK xh_M xh_25 (ci := 8) (j := 5) rfl K rfl rfl ?_
    refine j_W.putK xh_M xh_28 (ci := 4) (j := 3) (k' := [(1, .inl (8, [.ref 2, .int ln, .int (nI e), .int nx, .int kd, .int pl, .long wo, .int nu])), (3, .inl (4, [.ref 1, .ref la, .int 2, .int pl]))]) rfl K rfl (Nat.le_of_ble_eq_true rfl) rfl (Or.inl rfl) rfl rfl (fun h K => ?_)
    refine j_W.one xh_M xh_31 (by decide) (pcJ := 32) (stJ := [.int 0]) rfl ?_
    refine j_W.ret xh_M xh_32 rfl rfl ⟨rfl, by rw [if_neg c]; exact K⟩
  · have c : kd = 4 := by simpa [j_cond] using c
    refine j_W.one xh_M xh_12 (by decide) (pcJ := 13) (stJ := [.int 1, .ref 3]) rfl ?_
    refine j_W.gto xh_M xh_13 (t := 17) rfl ?_
    refine j_W.putK xh_M xh_17 (ci := 4) (j := 2) (k' := [(1, .inl (8, [.ref 2, .int ln, .int (nI e), .int nx, .int kd, .int pl, .long wo, .int nu])), (3, .inl (4, [.ref 1, .ref la, .int 1, .int pa]))]) rfl K rfl (Nat.le_of_ble_eq_true rfl) rfl (Or.inl rfl) rfl rfl (fun h K => ?_)
    refine j_W.one xh_M xh_20 (by decide) (pcJ := 21) (stJ := [.ref 3]) rfl ?_
    refine j_W.one xh_M xh_21 (by decide) (pcJ := 22) (stJ := [.ref 3, .ref 3]) rfl ?_
    refine j_W.getK xh_M xh_22 (ci := 4) (j := 0) rfl K rfl rfl ?_
    refine j_W.getK xh_M xh_25 (ci := 8) (j := 5) rfl K rfl rfl ?_
    refine j_W.putK xh_M xh_28 (ci := 4) (j := 3) (k' := [(1, .inl (8, [.ref 2, .int ln, .int (nI e), .int nx, .int kd, .int pl, .long wo, .int nu])), (3, .inl (4, [.ref 1, .ref la, .int 1, .int pl]))]) rfl K rfl (Nat.le_of_ble_eq_true rfl) rfl (Or.inl rfl) rfl rfl (fun h K => ?_)
    refine j_W.one xh_M xh_31 (by decide) (pcJ := 32) (stJ := [.int 0]) rfl ?_
    refine j_W.ret xh_M xh_32 rfl rfl ⟨rfl, by rw [if_pos c]; exact K⟩
set_option maxRecDepth 100000 in
theorem xb_M : j_meth jP 162 = some (yX9_isWithin, cX9_isWithin, 3, (some .boolean), 3, false, 9) := rfl
set_option maxRecDepth 100000 in
theorem xb_0 : j_code jP 162 0 = some (.iload_n 0) := rfl
set_option maxRecDepth 100000 in
theorem xb_1 : j_code jP 162 1 = some (.iload_n 1) := rfl
set_option maxRecDepth 100000 in
theorem xb_2 : j_code jP 162 2 = some (.if_icmp .lt 12) := rfl
set_option maxRecDepth 100000 in
theorem xb_5 : j_code jP 162 5 = some (.iload_n 0) := rfl
set_option maxRecDepth 100000 in
theorem xb_6 : j_code jP 162 6 = some (.iload_n 2) := rfl
set_option maxRecDepth 100000 in
theorem xb_7 : j_code jP 162 7 = some (.if_icmp .gt 7) := rfl
set_option maxRecDepth 100000 in
theorem xb_10 : j_code jP 162 10 = some (.iconst 1) := rfl
set_option maxRecDepth 100000 in
theorem xb_11 : j_code jP 162 11 = some (.goto 4) := rfl
set_option maxRecDepth 100000 in
theorem xb_14 : j_code jP 162 14 = some (.iconst 0) := rfl
set_option maxRecDepth 100000 in
theorem xb_15 : j_code jP 162 15 = some (.ireturn) := rfl
theorem xb_ok {d : Nat} {v lo hi : Int32} {h : J_H} : j_W jP d 162 0 (lv_args 0 [.int v, .int lo, .int hi]) [] h (fun rv h' => rv = some (.int (bif inB v lo hi then 1 else 0)) ∧ h' = h) := by
  show j_W jP d 162 0 [(0, .int v), (1, .int lo), (2, .int hi)] [] h _
  refine j_W.one xb_M xb_0 (by decide) (pcJ := 1) (stJ := [.int v]) rfl ?_
  refine j_W.one xb_M xb_1 (by decide) (pcJ := 2) (stJ := [.int lo, .int v]) rfl ?_
  refine j_W.icmp xb_M xb_2 (t := 14) rfl (fun c => ?_) (fun c => ?_)
  · rw [sk_lt] at c; have c := of_decide_eq_true c
    refine j_W.one xb_M xb_14 (by decide) (pcJ := 15) (stJ := [.int 0]) rfl ?_
    refine j_W.ret xb_M xb_15 rfl rfl ⟨by unfold inB; rw [decide_eq_false (show ¬ lo.toInt ≤ v.toInt by omega)]; rfl, rfl⟩
  · rw [sk_lt] at c; have c1 := of_decide_eq_false c; clear c
    refine j_W.one xb_M xb_5 (by decide) (pcJ := 6) (stJ := [.int v]) rfl ?_
    refine j_W.one xb_M xb_6 (by decide) (pcJ := 7) (stJ := [.int hi, .int v]) rfl ?_
    refine j_W.icmp xb_M xb_7 (t := 14) rfl (fun c => ?_) (fun c => ?_)
    · rw [jk_gt] at c; have c := of_decide_eq_true c
      refine j_W.one xb_M xb_14 (by decide) (pcJ := 15) (stJ := [.int 0]) rfl ?_
      refine j_W.ret xb_M xb_15 rfl rfl ⟨by unfold inB; rw [decide_eq_false (show ¬ v.toInt ≤ hi.toInt by omega), Bool.and_false]; rfl, rfl⟩
    · rw [jk_gt] at c; have c := of_decide_eq_false c
      refine j_W.one xb_M xb_10 (by decide) (pcJ := 11) (stJ := [.int 1]) rfl ?_
      refine j_W.gto xb_M xb_11 (t := 15) rfl ?_
      refine j_W.ret xb_M xb_15 rfl rfl ⟨by unfold inB; rw [decide_eq_true (show lo.toInt ≤ v.toInt by omega), decide_eq_true (show v.toInt ≤ hi.toInt by omega)]; rfl, rfl⟩
set_option maxRecDepth 100000 in
theorem xi_M : j_meth jP 40 = some (yX4_isNumber, cX4_isNumber, 3, (some .boolean), 2, false, 4) := rfl
set_option maxRecDepth 100000 in
theorem xi_0 : j_code jP 40 0 = some (.aload_n 0) := rfl
set_option maxRecDepth 100000 in
theorem xi_1 : j_code jP 40 1 = some (.getfield 18) := rfl
set_option maxRecDepth 100000 in
theorem xi_4 : j_code jP 40 4 = some (.getfield 40) := rfl
set_option maxRecDepth 100000 in
theorem xi_7 : j_code jP 40 7 = some (.iconst 2) := rfl
set_option maxRecDepth 100000 in
theorem xi_8 : j_code jP 40 8 = some (.if_icmp .eq 8) := rfl
set_option maxRecDepth 100000 in
theorem xi_11 : j_code jP 40 11 = some (.aload_n 0) := rfl
set_option maxRecDepth 100000 in
theorem xi_12 : j_code jP 40 12 = some (.invokevirtual 58) := rfl
set_option maxRecDepth 100000 in
theorem xi_15 : j_code jP 40 15 = some (.ireturn) := rfl
set_option maxRecDepth 100000 in
theorem xi_16 : j_code jP 40 16 = some (.aload_n 0) := rfl
set_option maxRecDepth 100000 in
theorem xi_17 : j_code jP 40 17 = some (.getfield 18) := rfl
set_option maxRecDepth 100000 in
theorem xi_20 : j_code jP 40 20 = some (.getfield 87) := rfl
set_option maxRecDepth 100000 in
theorem xi_23 : j_code jP 40 23 = some (.iload_n 1) := rfl
set_option maxRecDepth 100000 in
theorem xi_24 : j_code jP 40 24 = some (.iload_n 2) := rfl
set_option maxRecDepth 100000 in
theorem xi_25 : j_code jP 40 25 = some (.invokestatic 137) := rfl
set_option maxRecDepth 100000 in
theorem xi_28 : j_code jP 40 28 = some (.ifCond .ne 11) := rfl
set_option maxRecDepth 100000 in
theorem xi_31 : j_code jP 40 31 = some (.aload_n 0) := rfl
set_option maxRecDepth 100000 in
theorem xi_32 : j_code jP 40 32 = some (.iconst 3) := rfl
set_option maxRecDepth 100000 in
theorem xi_33 : j_code jP 40 33 = some (.invokevirtual 64) := rfl
set_option maxRecDepth 100000 in
theorem xi_36 : j_code jP 40 36 = some (.ifCond .eq 7) := rfl
set_option maxRecDepth 100000 in
theorem xi_39 : j_code jP 40 39 = some (.iconst 1) := rfl
set_option maxRecDepth 100000 in
theorem xi_40 : j_code jP 40 40 = some (.goto 4) := rfl
set_option maxRecDepth 100000 in
theorem xi_43 : j_code jP 40 43 = some (.iconst 0) := rfl
set_option maxRecDepth 100000 in
theorem xi_44 : j_code jP 40 44 = some (.ireturn) := rfl
theorem xi_ok {ln nx kd pl nu fa pa : Int32} {wo : Int64} {e la : Nat} {h h0 : J_H} {d : Nat} {lo hi : Int32} (K : KN h [(1, .inl (8, [.ref 2, .int ln, .int (nI e), .int nx, .int kd, .int pl, .long wo, .int nu])), (3, .inl (4, [.ref 1, .ref la, .int fa, .int pa]))] h0) : j_W jP (d + 1) 40 0 (lv_args 0 [.ref 3, .int lo, .int hi]) [] h (fun rv h' => rv = some (.int (bif (nOk kd nu lo hi) then 1 else 0)) ∧ KN h' [(1, .inl (8, [.ref 2, .int ln, .int (nI e), .int nx, .int kd, .int pl, .long wo, .int nu])), (3, .inl (4, [.ref 1, .ref la, .int (bif (nOk kd nu lo hi) then fa else nF kd), .int (bif (nOk kd nu lo hi) then pa else pl)]))] h0) := by
  show j_W jP (d + 1) 40 0 [(0, .ref 3), (1, .int lo), (2, .int hi)] [] h _
  refine j_W.one xi_M xi_0 (by decide) (pcJ := 1) (stJ := [.ref 3]) rfl ?_
  refine j_W.getK xi_M xi_1 (ci := 4) (j := 0) rfl K rfl rfl ?_
  refine j_W.getK xi_M xi_4 (ci := 8) (j := 4) rfl K rfl rfl ?_
  refine j_W.one xi_M xi_7 (by decide) (pcJ := 8) (stJ := [.int 2, .int kd]) rfl ?_
  refine j_W.icmp xi_M xi_8 (t := 16) rfl (fun c => ?_) (fun c => ?_)
  · have c1 : kd = 2 := by simpa [j_cond] using c
    clear c
    refine j_W.one xi_M xi_16 (by decide) (pcJ := 17) (stJ := [.ref 3]) rfl ?_
    refine j_W.getK xi_M xi_17 (ci := 4) (j := 0) rfl K rfl rfl ?_
    refine j_W.getK xi_M xi_20 (ci := 8) (j := 7) rfl K rfl rfl ?_
    refine j_W.one xi_M xi_23 (by decide) (pcJ := 24) (stJ := [.int lo, .int nu]) rfl ?_
    refine j_W.one xi_M xi_24 (by decide) (pcJ := 25) (stJ := [.int hi, .int lo, .int nu]) rfl ?_
    refine j_W.call xi_M xi_25 rfl (md := 6) (mj := 162) rfl (by decide) xb_M (As := [.int nu, .int lo, .int hi]) (rest := []) (jk_spl6 rfl rfl (Nat.le_of_ble_eq_true rfl) (Nat.le_of_ble_eq_true rfl)) (xb_ok) ?_
    rintro r hz ⟨rfl, ez⟩
    rw [ez]
    clear ez
    show j_W jP _ 40 28 [(0, .ref 3), (1, .int lo), (2, .int hi)] [.int (bif inB nu lo hi then 1 else 0)] h _
    have e1 : (nOk kd nu lo hi) = inB nu lo hi := by unfold nOk; rw [decide_eq_true c1]; rfl
    rw [e1]
    cases hb : inB nu lo hi with
    | true =>
      show j_W jP _ 40 28 [(0, .ref 3), (1, .int lo), (2, .int hi)] [.int 1] h _
      refine j_W.ifc xi_M xi_28 (t := 39) rfl (fun c => ?_) (fun c => ?_)
      · refine j_W.one xi_M xi_39 (by decide) (pcJ := 40) (stJ := [.int 1]) rfl ?_
        refine j_W.gto xi_M xi_40 (t := 44) rfl ?_
        refine j_W.ret xi_M xi_44 rfl rfl ⟨rfl, K⟩
      · cases c
    | false =>
      show j_W jP _ 40 28 [(0, .ref 3), (1, .int lo), (2, .int hi)] [.int 0] h _
      refine j_W.ifc xi_M xi_28 (t := 39) rfl (fun c => ?_) (fun c => ?_)
      · cases c
      · refine j_W.one xi_M xi_31 (by decide) (pcJ := 32) (stJ := [.ref 3]) rfl ?_
        refine j_W.one xi_M xi_32 (by decide) (pcJ := 33) (stJ := [.int 3, .ref 3]) rfl ?_
        refine j_W.call xi_M xi_33 rfl (md := 3) (mj := 46) rfl (by decide) xf_M (As := [.ref 3, .int 3]) (rest := []) (jk_spl3 (K.at rfl) rfl rfl rfl (Nat.le_of_ble_eq_true rfl) (Nat.le_of_ble_eq_true rfl)) (xf_ok (K.sub ⟨rfl, rfl, trivial⟩)) ?_
        rintro r h9 ⟨rfl, K9⟩
        have K : KN h9 [(1, .inl (8, [.ref 2, .int ln, .int (nI e), .int nx, .int kd, .int pl, .long wo, .int nu])), (3, .inl (4, [.ref 1, .ref la, .int 3, .int pl]))] h0 := K.go K9 rfl rfl rfl
        clear K9
        show j_W jP _ 40 36 [(0, .ref 3), (1, .int lo), (2, .int hi)] [.int 0] h9 _
        refine j_W.ifc xi_M xi_36 (t := 43) rfl (fun c => ?_) (fun c => ?_)
        · refine j_W.one xi_M xi_43 (by decide) (pcJ := 44) (stJ := [.int 0]) rfl ?_
          refine j_W.ret xi_M xi_44 rfl rfl ⟨rfl, by unfold nF; rw [if_pos c1]; exact K⟩
        · cases c
  · have c1 : ¬ kd = 2 := by simpa [j_cond] using c
    clear c
    have e1 : (nOk kd nu lo hi) = false := by unfold nOk; rw [decide_eq_false c1]; rfl
    rw [e1]
    refine j_W.one xi_M xi_11 (by decide) (pcJ := 12) (stJ := [.ref 3]) rfl ?_
    refine j_W.call xi_M xi_12 rfl (md := 3) (mj := 45) rfl (by decide) xh_M (As := [.ref 3]) (rest := []) (jk_spl3 (K.at rfl) rfl rfl rfl (Nat.le_of_ble_eq_true rfl) (Nat.le_of_ble_eq_true rfl)) (xh_ok (K.sub ⟨rfl, rfl, trivial⟩)) ?_
    rintro r h9 ⟨rfl, K9⟩
    have K : KN h9 [(1, .inl (8, [.ref 2, .int ln, .int (nI e), .int nx, .int kd, .int pl, .long wo, .int nu])), (3, .inl (4, [.ref 1, .ref la, .int (if kd = 4 then 1 else 2), .int pl]))] h0 := K.go K9 rfl rfl rfl
    clear K9
    show j_W jP _ 40 15 [(0, .ref 3), (1, .int lo), (2, .int hi)] [.int 0] h9 _
    refine j_W.ret xi_M xi_15 rfl rfl ⟨rfl, by unfold nF; rw [if_neg c1]; exact K⟩
set_option maxRecDepth 100000 in
theorem xt_M : j_meth jP 39 = some (yX4_takeNumber, cX4_takeNumber, 3, (some .boolean), 2, false, 4) := rfl
set_option maxRecDepth 100000 in
theorem xt_0 : j_code jP 39 0 = some (.aload_n 0) := rfl
set_option maxRecDepth 100000 in
theorem xt_1 : j_code jP 39 1 = some (.getfield 18) := rfl
set_option maxRecDepth 100000 in
theorem xt_4 : j_code jP 39 4 = some (.invokevirtual 37) := rfl
set_option maxRecDepth 100000 in
theorem xt_7 : j_code jP 39 7 = some (.aload_n 0) := rfl
set_option maxRecDepth 100000 in
theorem xt_8 : j_code jP 39 8 = some (.iload_n 1) := rfl
set_option maxRecDepth 100000 in
theorem xt_9 : j_code jP 39 9 = some (.iload_n 2) := rfl
set_option maxRecDepth 100000 in
theorem xt_10 : j_code jP 39 10 = some (.invokevirtual 96) := rfl
set_option maxRecDepth 100000 in
theorem xt_13 : j_code jP 39 13 = some (.ireturn) := rfl
theorem xt_ok {ln kd pl nu fa pa : Int32} {wo : Int64} {e la : Nat} {l : List Int32} {p : Nat} {h h0 : J_H} {d : Nat} {lo hi : Int32} (hl : l.length = 700) (he : e ≤ 700) (hp : p ≤ e) (K : KN h [(1, .inl (8, [.ref 2, .int ln, .int (nI e), .int (nI p), .int kd, .int pl, .long wo, .int nu])), (2, .inr (.inl (1, l))), (3, .inl (4, [.ref 1, .ref la, .int fa, .int pa]))] h0) : j_W jP (d + 1 + 1) 39 0 (lv_args 0 [.ref 3, .int lo, .int hi]) [] h (fun rv h' => rv = some (.int (bif (nOk (tkK (cX l) e p) (tkD l e p nu) lo hi) then 1 else 0)) ∧ KN h' [(1, .inl (8, [.ref 2, .int ln, .int (nI e), .int (nI (tkN (cX l) e p)), .int (tkK (cX l) e p), .int (nI (tkQ (cX l) e p)), .long (tkW l e p wo), .int (tkD l e p nu)])), (2, .inr (.inl (1, l))), (3, .inl (4, [.ref 1, .ref la, .int (bif (nOk (tkK (cX l) e p) (tkD l e p nu) lo hi) then fa else nF (tkK (cX l) e p)), .int (bif (nOk (tkK (cX l) e p) (tkD l e p nu) lo hi) then pa else nI (tkQ (cX l) e p))]))] h0) := by
  show j_W jP (d + 1 + 1) 39 0 [(0, .ref 3), (1, .int lo), (2, .int hi)] [] h _
  refine j_W.one xt_M xt_0 (by decide) (pcJ := 1) (stJ := [.ref 3]) rfl ?_
  refine j_W.getK xt_M xt_1 (ci := 4) (j := 0) rfl K rfl rfl ?_
  refine j_W.call xt_M xt_4 rfl (md := 3) (mj := 107) rfl (by decide) sa_M (As := [.ref 1]) (rest := []) (jk_spl3 (K.at rfl) rfl rfl rfl (Nat.le_of_ble_eq_true rfl) (Nat.le_of_ble_eq_true rfl)) (sa_ok hl he hp (K.sub ⟨rfl, rfl, trivial⟩)) ?_
  rintro r h9 ⟨rfl, K9⟩
  have K : KN h9 [(1, .inl (8, [.ref 2, .int ln, .int (nI e), .int (nI (tkN (cX l) e p)), .int (tkK (cX l) e p), .int (nI (tkQ (cX l) e p)), .long (tkW l e p wo), .int (tkD l e p nu)])), (2, .inr (.inl (1, l))), (3, .inl (4, [.ref 1, .ref la, .int fa, .int pa]))] h0 := K.go K9 rfl rfl rfl
  clear K9
  show j_W jP _ 39 7 [(0, .ref 3), (1, .int lo), (2, .int hi)] [] h9 _
  refine j_W.one xt_M xt_7 (by decide) (pcJ := 8) (stJ := [.ref 3]) rfl ?_
  refine j_W.one xt_M xt_8 (by decide) (pcJ := 9) (stJ := [.int lo, .ref 3]) rfl ?_
  refine j_W.one xt_M xt_9 (by decide) (pcJ := 10) (stJ := [.int hi, .int lo, .ref 3]) rfl ?_
  refine j_W.call xt_M xt_10 rfl (md := 3) (mj := 40) rfl (by decide) xi_M (As := [.ref 3, .int lo, .int hi]) (rest := []) (jk_spl3 (K.at rfl) rfl rfl rfl (Nat.le_of_ble_eq_true rfl) (Nat.le_of_ble_eq_true rfl)) (xi_ok (K.sub ⟨rfl, rfl, trivial⟩)) ?_
  rintro r h9 ⟨rfl, K9⟩
  have K : KN h9 [(1, .inl (8, [.ref 2, .int ln, .int (nI e), .int (nI (tkN (cX l) e p)), .int (tkK (cX l) e p), .int (nI (tkQ (cX l) e p)), .long (tkW l e p wo), .int (tkD l e p nu)])), (2, .inr (.inl (1, l))), (3, .inl (4, [.ref 1, .ref la, .int (bif (nOk (tkK (cX l) e p) (tkD l e p nu) lo hi) then fa else nF (tkK (cX l) e p)), .int (bif (nOk (tkK (cX l) e p) (tkD l e p nu) lo hi) then pa else nI (tkQ (cX l) e p))]))] h0 := K.go K9 rfl rfl rfl
  clear K9
  show j_W jP _ 39 13 [(0, .ref 3), (1, .int lo), (2, .int hi)] [.int (bif (nOk (tkK (cX l) e p) (tkD l e p nu) lo hi) then 1 else 0)] h9 _
  refine j_W.ret xt_M xt_13 rfl (jk_retb _) ⟨rfl, K⟩
set_option maxRecDepth 100000 in
theorem xn_M : j_meth jP 41 = some (yX4_takeName, cX4_takeName, 2, (some .boolean), 0, false, 4) := rfl
set_option maxRecDepth 100000 in
theorem xn_0 : j_code jP 41 0 = some (.aload_n 0) := rfl
set_option maxRecDepth 100000 in
theorem xn_1 : j_code jP 41 1 = some (.getfield 18) := rfl
set_option maxRecDepth 100000 in
theorem xn_4 : j_code jP 41 4 = some (.invokevirtual 37) := rfl
set_option maxRecDepth 100000 in
theorem xn_7 : j_code jP 41 7 = some (.aload_n 0) := rfl
set_option maxRecDepth 100000 in
theorem xn_8 : j_code jP 41 8 = some (.getfield 18) := rfl
set_option maxRecDepth 100000 in
theorem xn_11 : j_code jP 41 11 = some (.ldc2_w 43) := rfl
set_option maxRecDepth 100000 in
theorem xn_14 : j_code jP 41 14 = some (.invokevirtual 45) := rfl
set_option maxRecDepth 100000 in
theorem xn_17 : j_code jP 41 17 = some (.ifCond .ne 42) := rfl
set_option maxRecDepth 100000 in
theorem xn_20 : j_code jP 41 20 = some (.aload_n 0) := rfl
set_option maxRecDepth 100000 in
theorem xn_21 : j_code jP 41 21 = some (.getfield 18) := rfl
set_option maxRecDepth 100000 in
theorem xn_24 : j_code jP 41 24 = some (.ldc2_w 53) := rfl
set_option maxRecDepth 100000 in
theorem xn_27 : j_code jP 41 27 = some (.invokevirtual 45) := rfl
set_option maxRecDepth 100000 in
theorem xn_30 : j_code jP 41 30 = some (.ifCond .ne 29) := rfl
set_option maxRecDepth 100000 in
theorem xn_33 : j_code jP 41 33 = some (.aload_n 0) := rfl
set_option maxRecDepth 100000 in
theorem xn_34 : j_code jP 41 34 = some (.getfield 18) := rfl
set_option maxRecDepth 100000 in
theorem xn_37 : j_code jP 41 37 = some (.ldc2_w 133) := rfl
set_option maxRecDepth 100000 in
theorem xn_40 : j_code jP 41 40 = some (.invokevirtual 45) := rfl
set_option maxRecDepth 100000 in
theorem xn_43 : j_code jP 41 43 = some (.ifCond .ne 16) := rfl
set_option maxRecDepth 100000 in
theorem xn_46 : j_code jP 41 46 = some (.aload_n 0) := rfl
set_option maxRecDepth 100000 in
theorem xn_47 : j_code jP 41 47 = some (.getfield 18) := rfl
set_option maxRecDepth 100000 in
theorem xn_50 : j_code jP 41 50 = some (.ldc2_w 135) := rfl
set_option maxRecDepth 100000 in
theorem xn_53 : j_code jP 41 53 = some (.invokevirtual 45) := rfl
set_option maxRecDepth 100000 in
theorem xn_56 : j_code jP 41 56 = some (.ifCond .eq 7) := rfl
set_option maxRecDepth 100000 in
theorem xn_59 : j_code jP 41 59 = some (.iconst 1) := rfl
set_option maxRecDepth 100000 in
theorem xn_60 : j_code jP 41 60 = some (.goto 4) := rfl
set_option maxRecDepth 100000 in
theorem xn_63 : j_code jP 41 63 = some (.iconst 0) := rfl
set_option maxRecDepth 100000 in
theorem xn_64 : j_code jP 41 64 = some (.istore_n 1) := rfl
set_option maxRecDepth 100000 in
theorem xn_65 : j_code jP 41 65 = some (.aload_n 0) := rfl
set_option maxRecDepth 100000 in
theorem xn_66 : j_code jP 41 66 = some (.getfield 18) := rfl
set_option maxRecDepth 100000 in
theorem xn_69 : j_code jP 41 69 = some (.getfield 40) := rfl
set_option maxRecDepth 100000 in
theorem xn_72 : j_code jP 41 72 = some (.iconst 1) := rfl
set_option maxRecDepth 100000 in
theorem xn_73 : j_code jP 41 73 = some (.if_icmp .ne 7) := rfl
set_option maxRecDepth 100000 in
theorem xn_76 : j_code jP 41 76 = some (.iload_n 1) := rfl
set_option maxRecDepth 100000 in
theorem xn_77 : j_code jP 41 77 = some (.ifCond .eq 10) := rfl
set_option maxRecDepth 100000 in
theorem xn_80 : j_code jP 41 80 = some (.aload_n 0) := rfl
set_option maxRecDepth 100000 in
theorem xn_81 : j_code jP 41 81 = some (.invokevirtual 58) := rfl
set_option maxRecDepth 100000 in
theorem xn_84 : j_code jP 41 84 = some (.ifCond .eq 7) := rfl
set_option maxRecDepth 100000 in
theorem xn_87 : j_code jP 41 87 = some (.iconst 1) := rfl
set_option maxRecDepth 100000 in
theorem xn_88 : j_code jP 41 88 = some (.goto 4) := rfl
set_option maxRecDepth 100000 in
theorem xn_91 : j_code jP 41 91 = some (.iconst 0) := rfl
set_option maxRecDepth 100000 in
theorem xn_92 : j_code jP 41 92 = some (.ireturn) := rfl
theorem xn_a {ln nx kd pl nu fa pa : Int32} {wo : Int64} {e la : Nat} {h h0 : J_H} {d : Nat} (K : KN h [(1, .inl (8, [.ref 2, .int ln, .int (nI e), .int nx, .int kd, .int pl, .long wo, .int nu])), (3, .inl (4, [.ref 1, .ref la, .int fa, .int pa]))] h0) : j_W jP (d + 1) 41 64 [(0, .ref 3)] [.int 1] h (fun rv h' => rv = some (.int 0) ∧ KN h' [(1, .inl (8, [.ref 2, .int ln, .int (nI e), .int nx, .int kd, .int pl, .long wo, .int nu])), (3, .inl (4, [.ref 1, .ref la, .int (if kd = 4 then 1 else 2), .int pl]))] h0) := by
  refine j_W.one xn_M xn_64 (by decide) (pcJ := 65) (lv' := [(1, .int 1), (0, .ref 3)]) (stJ := []) rfl ?_
  refine j_W.one xn_M xn_65 (by decide) (pcJ := 66) (stJ := [.ref 3]) rfl ?_
  refine j_W.getK xn_M xn_66 (ci := 4) (j := 0) rfl K rfl rfl ?_
  refine j_W.getK xn_M xn_69 (ci := 8) (j := 4) rfl K rfl rfl ?_
  refine j_W.one xn_M xn_72 (by decide) (pcJ := 73) (stJ := [.int 1, .int kd]) rfl ?_
  refine j_W.icmp xn_M xn_73 (t := 80) rfl (fun c => ?_) (fun c => ?_)
  · have c0 : ¬ kd = 1 := by simpa [j_cond] using c
    clear c
    refine j_W.one xn_M xn_80 (by decide) (pcJ := 81) (stJ := [.ref 3]) rfl ?_
    refine j_W.call xn_M xn_81 rfl (md := 3) (mj := 45) rfl (by decide) xh_M (As := [.ref 3]) (rest := []) (jk_spl3 (K.at rfl) rfl rfl rfl (Nat.le_of_ble_eq_true rfl) (Nat.le_of_ble_eq_true rfl)) (xh_ok (K.sub ⟨rfl, rfl, trivial⟩)) ?_
    rintro r h9 ⟨rfl, K9⟩
    have K : KN h9 [(1, .inl (8, [.ref 2, .int ln, .int (nI e), .int nx, .int kd, .int pl, .long wo, .int nu])), (3, .inl (4, [.ref 1, .ref la, .int (if kd = 4 then 1 else 2), .int pl]))] h0 := K.go K9 rfl rfl rfl
    clear K9
    show j_W jP _ 41 84 [(1, .int 1), (0, .ref 3)] [.int 0] h9 _
    refine j_W.ifc xn_M xn_84 (t := 91) rfl (fun c => ?_) (fun c => ?_)
    · refine j_W.one xn_M xn_91 (by decide) (pcJ := 92) (stJ := [.int 0]) rfl ?_
      refine j_W.ret xn_M xn_92 rfl rfl ⟨rfl, K⟩
    · cases c
  · have c0 : kd = 1 := by simpa [j_cond] using c
    clear c
    refine j_W.one xn_M xn_76 (by decide) (pcJ := 77) (stJ := [.int 1]) rfl ?_
    refine j_W.ifc xn_M xn_77 (t := 87) rfl (fun c => ?_) (fun c => ?_)
    · cases c
    · refine j_W.one xn_M xn_80 (by decide) (pcJ := 81) (stJ := [.ref 3]) rfl ?_
      refine j_W.call xn_M xn_81 rfl (md := 3) (mj := 45) rfl (by decide) xh_M (As := [.ref 3]) (rest := []) (jk_spl3 (K.at rfl) rfl rfl rfl (Nat.le_of_ble_eq_true rfl) (Nat.le_of_ble_eq_true rfl)) (xh_ok (K.sub ⟨rfl, rfl, trivial⟩)) ?_
      rintro r h9 ⟨rfl, K9⟩
      have K : KN h9 [(1, .inl (8, [.ref 2, .int ln, .int (nI e), .int nx, .int kd, .int pl, .long wo, .int nu])), (3, .inl (4, [.ref 1, .ref la, .int (if kd = 4 then 1 else 2), .int pl]))] h0 := K.go K9 rfl rfl rfl
      clear K9
      show j_W jP _ 41 84 [(1, .int 1), (0, .ref 3)] [.int 0] h9 _
      refine j_W.ifc xn_M xn_84 (t := 91) rfl (fun c => ?_) (fun c => ?_)
      · refine j_W.one xn_M xn_91 (by decide) (pcJ := 92) (stJ := [.int 0]) rfl ?_
        refine j_W.ret xn_M xn_92 rfl rfl ⟨rfl, K⟩
      · cases c
theorem xn_b {ln nx kd pl nu fa pa : Int32} {wo : Int64} {e la : Nat} {h h0 : J_H} {d : Nat} (K : KN h [(1, .inl (8, [.ref 2, .int ln, .int (nI e), .int nx, .int kd, .int pl, .long wo, .int nu])), (3, .inl (4, [.ref 1, .ref la, .int fa, .int pa]))] h0) : j_W jP (d + 1) 41 64 [(0, .ref 3)] [.int 0] h (fun rv h' => rv = some (.int (if kd = 1 then 1 else 0)) ∧ KN h' [(1, .inl (8, [.ref 2, .int ln, .int (nI e), .int nx, .int kd, .int pl, .long wo, .int nu])), (3, .inl (4, [.ref 1, .ref la, .int (if kd = 1 then fa else (if kd = 4 then 1 else 2)), .int (if kd = 1 then pa else pl)]))] h0) := by
  refine j_W.one xn_M xn_64 (by decide) (pcJ := 65) (lv' := [(1, .int 0), (0, .ref 3)]) (stJ := []) rfl ?_
  refine j_W.one xn_M xn_65 (by decide) (pcJ := 66) (stJ := [.ref 3]) rfl ?_
  refine j_W.getK xn_M xn_66 (ci := 4) (j := 0) rfl K rfl rfl ?_
  refine j_W.getK xn_M xn_69 (ci := 8) (j := 4) rfl K rfl rfl ?_
  refine j_W.one xn_M xn_72 (by decide) (pcJ := 73) (stJ := [.int 1, .int kd]) rfl ?_
  refine j_W.icmp xn_M xn_73 (t := 80) rfl (fun c => ?_) (fun c => ?_)
  · have c0 : ¬ kd = 1 := by simpa [j_cond] using c
    clear c
    refine j_W.one xn_M xn_80 (by decide) (pcJ := 81) (stJ := [.ref 3]) rfl ?_
    refine j_W.call xn_M xn_81 rfl (md := 3) (mj := 45) rfl (by decide) xh_M (As := [.ref 3]) (rest := []) (jk_spl3 (K.at rfl) rfl rfl rfl (Nat.le_of_ble_eq_true rfl) (Nat.le_of_ble_eq_true rfl)) (xh_ok (K.sub ⟨rfl, rfl, trivial⟩)) ?_
    rintro r h9 ⟨rfl, K9⟩
    have K : KN h9 [(1, .inl (8, [.ref 2, .int ln, .int (nI e), .int nx, .int kd, .int pl, .long wo, .int nu])), (3, .inl (4, [.ref 1, .ref la, .int (if kd = 4 then 1 else 2), .int pl]))] h0 := K.go K9 rfl rfl rfl
    clear K9
    show j_W jP _ 41 84 [(1, .int 0), (0, .ref 3)] [.int 0] h9 _
    refine j_W.ifc xn_M xn_84 (t := 91) rfl (fun c => ?_) (fun c => ?_)
    · refine j_W.one xn_M xn_91 (by decide) (pcJ := 92) (stJ := [.int 0]) rfl ?_
      refine j_W.ret xn_M xn_92 rfl rfl ⟨by rw [if_neg c0], by rw [if_neg c0, if_neg c0]; exact K⟩
    · cases c
  · have c0 : kd = 1 := by simpa [j_cond] using c
    clear c
    refine j_W.one xn_M xn_76 (by decide) (pcJ := 77) (stJ := [.int 0]) rfl ?_
    refine j_W.ifc xn_M xn_77 (t := 87) rfl (fun c => ?_) (fun c => ?_)
    · refine j_W.one xn_M xn_87 (by decide) (pcJ := 88) (stJ := [.int 1]) rfl ?_
      refine j_W.gto xn_M xn_88 (t := 92) rfl ?_
      refine j_W.ret xn_M xn_92 rfl rfl ⟨by rw [if_pos c0], by rw [if_pos c0, if_pos c0]; exact K⟩
    · cases c
def ownW (w : Int64) : Bool := decide (w = 32497584235442030) || decide (w = 500135192942) || decide (w = 1936486263) || decide (w = 131277443786868)
/-- a name: a word, none of the four -/
def nmOk (kd : Int32) (w : Int64) : Bool := decide (kd = 1) && !ownW w
theorem xn_s7 {ln nx kd pl nu fa pa : Int32} {wo : Int64} {e la : Nat} {h h0 : J_H} {d : Nat} (K : KN h [(1, .inl (8, [.ref 2, .int ln, .int (nI e), .int nx, .int kd, .int pl, .long wo, .int nu])), (3, .inl (4, [.ref 1, .ref la, .int fa, .int pa]))] h0) : j_W jP (d + 1) 41 7 [(0, .ref 3)] [] h (fun rv h' => rv = some (.int (bif (nmOk kd wo) then 1 else 0)) ∧ KN h' [(1, .inl (8, [.ref 2, .int ln, .int (nI e), .int nx, .int kd, .int pl, .long wo, .int nu])), (3, .inl (4, [.ref 1, .ref la, .int (bif (nmOk kd wo) then fa else (if kd = 4 then 1 else 2)), .int (bif (nmOk kd wo) then pa else pl)]))] h0) := by
  refine j_W.one xn_M xn_7 (by decide) (pcJ := 8) (stJ := [.ref 3]) rfl ?_
  refine j_W.getK xn_M xn_8 (ci := 4) (j := 0) rfl K rfl rfl ?_
  refine j_W.one xn_M xn_11 (by decide) (pcJ := 14) (stJ := [.long 32497584235442030, .ref 1]) rfl ?_
  refine j_W.call xn_M xn_14 rfl (md := 3) (mj := 108) rfl (by decide) xw_M (As := [.ref 1, .long 32497584235442030]) (rest := []) (jk_spl3 (K.at rfl) rfl rfl rfl (Nat.le_of_ble_eq_true rfl) (Nat.le_of_ble_eq_true rfl)) (xw_ok (K.sub ⟨rfl, trivial⟩)) ?_
  rintro r hz ⟨rfl, ez⟩
  rw [ez]
  clear ez
  show j_W jP _ 41 17 [(0, .ref 3)] [.int (if kd = 1 ∧ wo = 32497584235442030 then 1 else 0)] h _
  rcases Decidable.em (kd = 1 ∧ wo = 32497584235442030) with hw0 | hw0
  · rw [if_pos hw0]
    refine j_W.ifc xn_M xn_17 (t := 59) rfl (fun c => ?_) (fun c => ?_)
    · refine j_W.one xn_M xn_59 (by decide) (pcJ := 60) (stJ := [.int 1]) rfl ?_
      refine j_W.gto xn_M xn_60 (t := 64) rfl ?_
      have e1 : (nmOk kd wo) = false := by unfold nmOk ownW; rw [hw0.2]; simp
      rw [e1]
      exact xn_a K
    · cases c
  · rw [if_neg hw0]
    refine j_W.ifc xn_M xn_17 (t := 59) rfl (fun c => ?_) (fun c => ?_)
    · cases c
    · refine j_W.one xn_M xn_20 (by decide) (pcJ := 21) (stJ := [.ref 3]) rfl ?_
      refine j_W.getK xn_M xn_21 (ci := 4) (j := 0) rfl K rfl rfl ?_
      refine j_W.one xn_M xn_24 (by decide) (pcJ := 27) (stJ := [.long 500135192942, .ref 1]) rfl ?_
      refine j_W.call xn_M xn_27 rfl (md := 3) (mj := 108) rfl (by decide) xw_M (As := [.ref 1, .long 500135192942]) (rest := []) (jk_spl3 (K.at rfl) rfl rfl rfl (Nat.le_of_ble_eq_true rfl) (Nat.le_of_ble_eq_true rfl)) (xw_ok (K.sub ⟨rfl, trivial⟩)) ?_
      rintro r hz ⟨rfl, ez⟩
      rw [ez]
      clear ez
      show j_W jP _ 41 30 [(0, .ref 3)] [.int (if kd = 1 ∧ wo = 500135192942 then 1 else 0)] h _
      rcases Decidable.em (kd = 1 ∧ wo = 500135192942) with hw1 | hw1
      · rw [if_pos hw1]
        refine j_W.ifc xn_M xn_30 (t := 59) rfl (fun c => ?_) (fun c => ?_)
        · refine j_W.one xn_M xn_59 (by decide) (pcJ := 60) (stJ := [.int 1]) rfl ?_
          refine j_W.gto xn_M xn_60 (t := 64) rfl ?_
          have e1 : (nmOk kd wo) = false := by unfold nmOk ownW; rw [hw1.2]; simp
          rw [e1]
          exact xn_a K
        · cases c
      · rw [if_neg hw1]
        refine j_W.ifc xn_M xn_30 (t := 59) rfl (fun c => ?_) (fun c => ?_)
        · cases c
        · refine j_W.one xn_M xn_33 (by decide) (pcJ := 34) (stJ := [.ref 3]) rfl ?_
          refine j_W.getK xn_M xn_34 (ci := 4) (j := 0) rfl K rfl rfl ?_
          refine j_W.one xn_M xn_37 (by decide) (pcJ := 40) (stJ := [.long 1936486263, .ref 1]) rfl ?_
          refine j_W.call xn_M xn_40 rfl (md := 3) (mj := 108) rfl (by decide) xw_M (As := [.ref 1, .long 1936486263]) (rest := []) (jk_spl3 (K.at rfl) rfl rfl rfl (Nat.le_of_ble_eq_true rfl) (Nat.le_of_ble_eq_true rfl)) (xw_ok (K.sub ⟨rfl, trivial⟩)) ?_
          rintro r hz ⟨rfl, ez⟩
          rw [ez]
          clear ez
          show j_W jP _ 41 43 [(0, .ref 3)] [.int (if kd = 1 ∧ wo = 1936486263 then 1 else 0)] h _
          rcases Decidable.em (kd = 1 ∧ wo = 1936486263) with hw2 | hw2
          · rw [if_pos hw2]
            refine j_W.ifc xn_M xn_43 (t := 59) rfl (fun c => ?_) (fun c => ?_)
            · refine j_W.one xn_M xn_59 (by decide) (pcJ := 60) (stJ := [.int 1]) rfl ?_
              refine j_W.gto xn_M xn_60 (t := 64) rfl ?_
              have e1 : (nmOk kd wo) = false := by unfold nmOk ownW; rw [hw2.2]; simp
              rw [e1]
              exact xn_a K
            · cases c
          · rw [if_neg hw2]
            refine j_W.ifc xn_M xn_43 (t := 59) rfl (fun c => ?_) (fun c => ?_)
            · cases c
            · refine j_W.one xn_M xn_46 (by decide) (pcJ := 47) (stJ := [.ref 3]) rfl ?_
              refine j_W.getK xn_M xn_47 (ci := 4) (j := 0) rfl K rfl rfl ?_
              refine j_W.one xn_M xn_50 (by decide) (pcJ := 53) (stJ := [.long 131277443786868, .ref 1]) rfl ?_
              refine j_W.call xn_M xn_53 rfl (md := 3) (mj := 108) rfl (by decide) xw_M (As := [.ref 1, .long 131277443786868]) (rest := []) (jk_spl3 (K.at rfl) rfl rfl rfl (Nat.le_of_ble_eq_true rfl) (Nat.le_of_ble_eq_true rfl)) (xw_ok (K.sub ⟨rfl, trivial⟩)) ?_
              rintro r hz ⟨rfl, ez⟩
              rw [ez]
              clear ez
              show j_W jP _ 41 56 [(0, .ref 3)] [.int (if kd = 1 ∧ wo = 131277443786868 then 1 else 0)] h _
              rcases Decidable.em (kd = 1 ∧ wo = 131277443786868) with hw3 | hw3
              · rw [if_pos hw3]
                refine j_W.ifc xn_M xn_56 (t := 63) rfl (fun c => ?_) (fun c => ?_)
                · cases c
                · refine j_W.one xn_M xn_59 (by decide) (pcJ := 60) (stJ := [.int 1]) rfl ?_
                  refine j_W.gto xn_M xn_60 (t := 64) rfl ?_
                  have e1 : (nmOk kd wo) = false := by unfold nmOk ownW; rw [hw3.2]; simp
                  rw [e1]
                  exact xn_a K
              · rw [if_neg hw3]
                refine j_W.ifc xn_M xn_56 (t := 63) rfl (fun c => ?_) (fun c => ?_)
                · refine j_W.one xn_M xn_63 (by decide) (pcJ := 64) (stJ := [.int 0]) rfl ?_
                  have e1 : (nmOk kd wo) = decide (kd = 1) := by
                    unfold nmOk
                    by_cases c1 : kd = 1
                    · rw [show ownW wo = false by unfold ownW; rw [decide_eq_false (fun z => hw0 ⟨c1, z⟩), decide_eq_false (fun z => hw1 ⟨c1, z⟩), decide_eq_false (fun z => hw2 ⟨c1, z⟩), decide_eq_false (fun z => hw3 ⟨c1, z⟩)]; rfl]; simp
                    · rw [decide_eq_false c1]; rfl
                  rw [e1]
                  have t := xn_b (d := d) K
                  by_cases c1 : kd = 1
                  · simp only [c1, if_true, decide_true, cond_true] at t ⊢; exact t
                  · simp only [if_neg c1, decide_eq_false c1, cond_false] at t ⊢; exact t
                · cases c
theorem xn_ok {ln kd pl nu fa pa : Int32} {wo : Int64} {e la : Nat} {l : List Int32} {p : Nat} {h h0 : J_H} {d : Nat} (hl : l.length = 700) (he : e ≤ 700) (hp : p ≤ e) (K : KN h [(1, .inl (8, [.ref 2, .int ln, .int (nI e), .int (nI p), .int kd, .int pl, .long wo, .int nu])), (2, .inr (.inl (1, l))), (3, .inl (4, [.ref 1, .ref la, .int fa, .int pa]))] h0) : j_W jP (d + 1 + 1) 41 0 (lv_args 0 [.ref 3]) [] h (fun rv h' => rv = some (.int (bif (nmOk (tkK (cX l) e p) (tkW l e p wo)) then 1 else 0)) ∧ KN h' [(1, .inl (8, [.ref 2, .int ln, .int (nI e), .int (nI (tkN (cX l) e p)), .int (tkK (cX l) e p), .int (nI (tkQ (cX l) e p)), .long (tkW l e p wo), .int (tkD l e p nu)])), (2, .inr (.inl (1, l))), (3, .inl (4, [.ref 1, .ref la, .int (bif (nmOk (tkK (cX l) e p) (tkW l e p wo)) then fa else (if tkK (cX l) e p = 4 then 1 else 2)), .int (bif (nmOk (tkK (cX l) e p) (tkW l e p wo)) then pa else nI (tkQ (cX l) e p))]))] h0) := by
  show j_W jP (d + 1 + 1) 41 0 [(0, .ref 3)] [] h _
  refine j_W.one xn_M xn_0 (by decide) (pcJ := 1) (stJ := [.ref 3]) rfl ?_
  refine j_W.getK xn_M xn_1 (ci := 4) (j := 0) rfl K rfl rfl ?_
  refine j_W.call xn_M xn_4 rfl (md := 3) (mj := 107) rfl (by decide) sa_M (As := [.ref 1]) (rest := []) (jk_spl3 (K.at rfl) rfl rfl rfl (Nat.le_of_ble_eq_true rfl) (Nat.le_of_ble_eq_true rfl)) (sa_ok hl he hp (K.sub ⟨rfl, rfl, trivial⟩)) ?_
  rintro r h9 ⟨rfl, K9⟩
  have K : KN h9 [(1, .inl (8, [.ref 2, .int ln, .int (nI e), .int (nI (tkN (cX l) e p)), .int (tkK (cX l) e p), .int (nI (tkQ (cX l) e p)), .long (tkW l e p wo), .int (tkD l e p nu)])), (2, .inr (.inl (1, l))), (3, .inl (4, [.ref 1, .ref la, .int fa, .int pa]))] h0 := K.go K9 rfl rfl rfl
  clear K9
  show j_W jP _ 41 7 [(0, .ref 3)] [] h9 _
  refine (xn_s7 (d := d + 1) (K.sub ⟨rfl, rfl, trivial⟩)).mono ?_
  rintro r h8 ⟨rfl, K8⟩
  exact ⟨rfl, K.go K8 rfl rfl rfl⟩
set_option maxRecDepth 100000 in
theorem xs_M : j_meth jP 44 = some (yX4_stationNamed, cX4_stationNamed, 4, (some .int), 1, false, 4) := rfl
set_option maxRecDepth 100000 in
theorem xs_0 : j_code jP 44 0 = some (.iconst 0) := rfl
set_option maxRecDepth 100000 in
theorem xs_1 : j_code jP 44 1 = some (.istore_n 3) := rfl
set_option maxRecDepth 100000 in
theorem xs_2 : j_code jP 44 2 = some (.iload_n 3) := rfl
set_option maxRecDepth 100000 in
theorem xs_3 : j_code jP 44 3 = some (.aload_n 0) := rfl
set_option maxRecDepth 100000 in
theorem xs_4 : j_code jP 44 4 = some (.getfield 22) := rfl
set_option maxRecDepth 100000 in
theorem xs_7 : j_code jP 44 7 = some (.getfield 61) := rfl
set_option maxRecDepth 100000 in
theorem xs_10 : j_code jP 44 10 = some (.if_icmp .ge 25) := rfl
set_option maxRecDepth 100000 in
theorem xs_13 : j_code jP 44 13 = some (.aload_n 0) := rfl
set_option maxRecDepth 100000 in
theorem xs_14 : j_code jP 44 14 = some (.getfield 22) := rfl
set_option maxRecDepth 100000 in
theorem xs_17 : j_code jP 44 17 = some (.getfield 71) := rfl
set_option maxRecDepth 100000 in
theorem xs_20 : j_code jP 44 20 = some (.iload_n 3) := rfl
set_option maxRecDepth 100000 in
theorem xs_21 : j_code jP 44 21 = some (.laload) := rfl
set_option maxRecDepth 100000 in
theorem xs_22 : j_code jP 44 22 = some (.lload_n 1) := rfl
set_option maxRecDepth 100000 in
theorem xs_23 : j_code jP 44 23 = some (.lcmp) := rfl
set_option maxRecDepth 100000 in
theorem xs_24 : j_code jP 44 24 = some (.ifCond .ne 5) := rfl
set_option maxRecDepth 100000 in
theorem xs_27 : j_code jP 44 27 = some (.iload_n 3) := rfl
set_option maxRecDepth 100000 in
theorem xs_28 : j_code jP 44 28 = some (.ireturn) := rfl
set_option maxRecDepth 100000 in
theorem xs_29 : j_code jP 44 29 = some (.iinc 3 1) := rfl
set_option maxRecDepth 100000 in
theorem xs_32 : j_code jP 44 32 = some (.goto (-30)) := rfl
set_option maxRecDepth 100000 in
theorem xs_35 : j_code jP 44 35 = some (.iconst (-1)) := rfl
set_option maxRecDepth 100000 in
theorem xs_36 : j_code jP 44 36 = some (.ireturn) := rfl
theorem xs_lA {fa pa ce : Int32} {ns nt : Nat} {sn : List Int64} {h0 : J_H} {d : Nat} {w : Int64} (hs : sn.length = 7) (hn : ns ≤ 7) : ∀ (f s : Nat) (h : J_H), s + f = ns → KN h [(3, .inl (4, [.ref 1, .ref 327, .int fa, .int pa])), (327, .inl (2, [.int (nI ns), .ref 328, .ref 329, .ref 330, .ref 331, .int (nI nt), .ref 332, .ref 333, .ref 334, .ref 335, .ref 336, .ref 337, .ref 338, .int ce, .ref 339, .ref 340, .ref 341, .ref 342])), (328, .inr (.inr (.inl sn)))] h0 → j_W jP d 44 2 [(3, .int (nI s)), (0, .ref 3), (1, .long w)] [] h (fun rv h' => rv = some (.int (sIx sn w f s)) ∧ h' = h) := by
  intro f
  induction f with
  | zero =>
    intro s h hf K
    refine j_W.one xs_M xs_2 (by decide) (pcJ := 3) (stJ := [.int (nI s)]) rfl ?_
    refine j_W.one xs_M xs_3 (by decide) (pcJ := 4) (stJ := [.ref 3, .int (nI s)]) rfl ?_
    refine j_W.getK xs_M xs_4 (ci := 4) (j := 1) rfl K rfl rfl ?_
    refine j_W.getK xs_M xs_7 (ci := 2) (j := 0) rfl K rfl rfl ?_
    refine j_W.icmp xs_M xs_10 (t := 35) rfl (fun c => ?_) (fun c => ?_)
    · refine j_W.one xs_M xs_35 (by decide) (pcJ := 36) (stJ := [.int (-1)]) rfl ?_
      refine j_W.ret xs_M xs_36 rfl rfl ⟨rfl, rfl⟩
    · exfalso; rw [jk_ge] at c; have c := of_decide_eq_false c; rw [nI_toInt (by omega), nI_toInt (by omega)] at c; omega
  | succ f ih =>
    intro s h hf K
    refine j_W.one xs_M xs_2 (by decide) (pcJ := 3) (stJ := [.int (nI s)]) rfl ?_
    refine j_W.one xs_M xs_3 (by decide) (pcJ := 4) (stJ := [.ref 3, .int (nI s)]) rfl ?_
    refine j_W.getK xs_M xs_4 (ci := 4) (j := 1) rfl K rfl rfl ?_
    refine j_W.getK xs_M xs_7 (ci := 2) (j := 0) rfl K rfl rfl ?_
    refine j_W.icmp xs_M xs_10 (t := 35) rfl (fun c => ?_) (fun c => ?_)
    · exfalso; rw [jk_ge] at c; have c := of_decide_eq_true c; rw [nI_toInt (by omega), nI_toInt (by omega)] at c; omega
    · refine j_W.one xs_M xs_13 (by decide) (pcJ := 14) (stJ := [.ref 3]) rfl ?_
      refine j_W.getK xs_M xs_14 (ci := 4) (j := 1) rfl K rfl rfl ?_
      refine j_W.getK xs_M xs_17 (ci := 2) (j := 1) rfl K rfl rfl ?_
      refine j_W.one xs_M xs_20 (by decide) (pcJ := 21) (stJ := [.int (nI s), .ref 328]) rfl ?_
      refine j_W.laldK xs_M xs_21 K rfl (n := s) (by omega) (by omega) ?_
      refine j_W.one xs_M xs_22 (by decide) (pcJ := 23) (stJ := [.long w, .long (sn.getD s 0)]) rfl ?_
      refine j_W.one xs_M xs_23 (by decide) (pcJ := 24) (stJ := [.int (lg_cmp (sn.getD s 0) w)]) rfl ?_
      refine j_W.ifc xs_M xs_24 (t := 29) rfl (fun c => ?_) (fun c => ?_)
      · rw [jk_lcmp] at c; have c : ¬ sn.getD s 0 = w := by simpa using c
        have e1 : sIx sn w (f + 1) s = sIx sn w f (s + 1) := by show (if sn.getD s 0 = w then nI s else sIx sn w f (s + 1)) = _; rw [if_neg c]
        rw [e1]
        refine j_W.one xs_M xs_29 (by decide) (pcJ := 32) (lv' := [(3, .int ((nI s) + 1)), (0, .ref 3), (1, .long w)]) (stJ := []) rfl ?_
        refine j_W.gto xs_M xs_32 (t := 2) rfl ?_
        have t := ih (s + 1) h (by omega) K
        rw [nI_succ] at t
        exact t
      · rw [jk_lcmp] at c; have c : sn.getD s 0 = w := by simpa using c
        have e1 : sIx sn w (f + 1) s = nI s := by show (if sn.getD s 0 = w then nI s else sIx sn w f (s + 1)) = _; rw [if_pos c]
        rw [e1]
        refine j_W.one xs_M xs_27 (by decide) (pcJ := 28) (stJ := [.int (nI s)]) rfl ?_
        refine j_W.ret xs_M xs_28 rfl rfl ⟨rfl, rfl⟩
theorem xs_okA {fa pa ce : Int32} {ns nt : Nat} {sn : List Int64} {h h0 : J_H} {d : Nat} {w : Int64} (hs : sn.length = 7) (hn : ns ≤ 7) (K : KN h [(3, .inl (4, [.ref 1, .ref 327, .int fa, .int pa])), (327, .inl (2, [.int (nI ns), .ref 328, .ref 329, .ref 330, .ref 331, .int (nI nt), .ref 332, .ref 333, .ref 334, .ref 335, .ref 336, .ref 337, .ref 338, .int ce, .ref 339, .ref 340, .ref 341, .ref 342])), (328, .inr (.inr (.inl sn)))] h0) : j_W jP d 44 0 (lv_args 0 [.ref 3, .long w]) [] h (fun rv h' => rv = some (.int (sIx sn w ns 0)) ∧ h' = h) := by
  show j_W jP d 44 0 [(0, .ref 3), (1, .long w)] [] h _
  refine j_W.one xs_M xs_0 (by decide) (pcJ := 1) (stJ := [.int 0]) rfl ?_
  refine j_W.one xs_M xs_1 (by decide) (pcJ := 2) (lv' := [(3, .int 0), (0, .ref 3), (1, .long w)]) (stJ := []) rfl ?_
  exact xs_lA hs hn ns 0 h (by omega) K
theorem xs_lB {fa pa ce : Int32} {ns nt : Nat} {sn : List Int64} {h0 : J_H} {d : Nat} {w : Int64} (hs : sn.length = 7) (hn : ns ≤ 7) : ∀ (f s : Nat) (h : J_H), s + f = ns → KN h [(3, .inl (4, [.ref 1, .ref 343, .int fa, .int pa])), (343, .inl (2, [.int (nI ns), .ref 344, .ref 345, .ref 346, .ref 347, .int (nI nt), .ref 348, .ref 349, .ref 350, .ref 351, .ref 352, .ref 353, .ref 354, .int ce, .ref 355, .ref 356, .ref 357, .ref 358])), (344, .inr (.inr (.inl sn)))] h0 → j_W jP d 44 2 [(3, .int (nI s)), (0, .ref 3), (1, .long w)] [] h (fun rv h' => rv = some (.int (sIx sn w f s)) ∧ h' = h) := by
  intro f
  induction f with
  | zero =>
    intro s h hf K
    refine j_W.one xs_M xs_2 (by decide) (pcJ := 3) (stJ := [.int (nI s)]) rfl ?_
    refine j_W.one xs_M xs_3 (by decide) (pcJ := 4) (stJ := [.ref 3, .int (nI s)]) rfl ?_
    refine j_W.getK xs_M xs_4 (ci := 4) (j := 1) rfl K rfl rfl ?_
    refine j_W.getK xs_M xs_7 (ci := 2) (j := 0) rfl K rfl rfl ?_
    refine j_W.icmp xs_M xs_10 (t := 35) rfl (fun c => ?_) (fun c => ?_)
    · refine j_W.one xs_M xs_35 (by decide) (pcJ := 36) (stJ := [.int (-1)]) rfl ?_
      refine j_W.ret xs_M xs_36 rfl rfl ⟨rfl, rfl⟩
    · exfalso; rw [jk_ge] at c; have c := of_decide_eq_false c; rw [nI_toInt (by omega), nI_toInt (by omega)] at c; omega
  | succ f ih =>
    intro s h hf K
    refine j_W.one xs_M xs_2 (by decide) (pcJ := 3) (stJ := [.int (nI s)]) rfl ?_
    refine j_W.one xs_M xs_3 (by decide) (pcJ := 4) (stJ := [.ref 3, .int (nI s)]) rfl ?_
    refine j_W.getK xs_M xs_4 (ci := 4) (j := 1) rfl K rfl rfl ?_
    refine j_W.getK xs_M xs_7 (ci := 2) (j := 0) rfl K rfl rfl ?_
    refine j_W.icmp xs_M xs_10 (t := 35) rfl (fun c => ?_) (fun c => ?_)
    · exfalso; rw [jk_ge] at c; have c := of_decide_eq_true c; rw [nI_toInt (by omega), nI_toInt (by omega)] at c; omega
    · refine j_W.one xs_M xs_13 (by decide) (pcJ := 14) (stJ := [.ref 3]) rfl ?_
      refine j_W.getK xs_M xs_14 (ci := 4) (j := 1) rfl K rfl rfl ?_
      refine j_W.getK xs_M xs_17 (ci := 2) (j := 1) rfl K rfl rfl ?_
      refine j_W.one xs_M xs_20 (by decide) (pcJ := 21) (stJ := [.int (nI s), .ref 344]) rfl ?_
      refine j_W.laldK xs_M xs_21 K rfl (n := s) (by omega) (by omega) ?_
      refine j_W.one xs_M xs_22 (by decide) (pcJ := 23) (stJ := [.long w, .long (sn.getD s 0)]) rfl ?_
      refine j_W.one xs_M xs_23 (by decide) (pcJ := 24) (stJ := [.int (lg_cmp (sn.getD s 0) w)]) rfl ?_
      refine j_W.ifc xs_M xs_24 (t := 29) rfl (fun c => ?_) (fun c => ?_)
      · rw [jk_lcmp] at c; have c : ¬ sn.getD s 0 = w := by simpa using c
        have e1 : sIx sn w (f + 1) s = sIx sn w f (s + 1) := by show (if sn.getD s 0 = w then nI s else sIx sn w f (s + 1)) = _; rw [if_neg c]
        rw [e1]
        refine j_W.one xs_M xs_29 (by decide) (pcJ := 32) (lv' := [(3, .int ((nI s) + 1)), (0, .ref 3), (1, .long w)]) (stJ := []) rfl ?_
        refine j_W.gto xs_M xs_32 (t := 2) rfl ?_
        have t := ih (s + 1) h (by omega) K
        rw [nI_succ] at t
        exact t
      · rw [jk_lcmp] at c; have c : sn.getD s 0 = w := by simpa using c
        have e1 : sIx sn w (f + 1) s = nI s := by show (if sn.getD s 0 = w then nI s else sIx sn w f (s + 1)) = _; rw [if_pos c]
        rw [e1]
        refine j_W.one xs_M xs_27 (by decide) (pcJ := 28) (stJ := [.int (nI s)]) rfl ?_
        refine j_W.ret xs_M xs_28 rfl rfl ⟨rfl, rfl⟩
theorem xs_okB {fa pa ce : Int32} {ns nt : Nat} {sn : List Int64} {h h0 : J_H} {d : Nat} {w : Int64} (hs : sn.length = 7) (hn : ns ≤ 7) (K : KN h [(3, .inl (4, [.ref 1, .ref 343, .int fa, .int pa])), (343, .inl (2, [.int (nI ns), .ref 344, .ref 345, .ref 346, .ref 347, .int (nI nt), .ref 348, .ref 349, .ref 350, .ref 351, .ref 352, .ref 353, .ref 354, .int ce, .ref 355, .ref 356, .ref 357, .ref 358])), (344, .inr (.inr (.inl sn)))] h0) : j_W jP d 44 0 (lv_args 0 [.ref 3, .long w]) [] h (fun rv h' => rv = some (.int (sIx sn w ns 0)) ∧ h' = h) := by
  show j_W jP d 44 0 [(0, .ref 3), (1, .long w)] [] h _
  refine j_W.one xs_M xs_0 (by decide) (pcJ := 1) (stJ := [.int 0]) rfl ?_
  refine j_W.one xs_M xs_1 (by decide) (pcJ := 2) (lv' := [(3, .int 0), (0, .ref 3), (1, .long w)]) (stJ := []) rfl ?_
  exact xs_lB hs hn ns 0 h (by omega) K
set_option maxRecDepth 100000 in
theorem xq_M : j_meth jP 42 = some (yX4_takeNewName, cX4_takeNewName, 3, (some .boolean), 0, false, 4) := rfl
set_option maxRecDepth 100000 in
theorem xq_0 : j_code jP 42 0 = some (.aload_n 0) := rfl
set_option maxRecDepth 100000 in
theorem xq_1 : j_code jP 42 1 = some (.invokevirtual 141) := rfl
set_option maxRecDepth 100000 in
theorem xq_4 : j_code jP 42 4 = some (.ifCond .ne 5) := rfl
set_option maxRecDepth 100000 in
theorem xq_7 : j_code jP 42 7 = some (.iconst 0) := rfl
set_option maxRecDepth 100000 in
theorem xq_8 : j_code jP 42 8 = some (.ireturn) := rfl
set_option maxRecDepth 100000 in
theorem xq_9 : j_code jP 42 9 = some (.aload_n 0) := rfl
set_option maxRecDepth 100000 in
theorem xq_10 : j_code jP 42 10 = some (.aload_n 0) := rfl
set_option maxRecDepth 100000 in
theorem xq_11 : j_code jP 42 11 = some (.getfield 18) := rfl
set_option maxRecDepth 100000 in
theorem xq_14 : j_code jP 42 14 = some (.getfield 75) := rfl
set_option maxRecDepth 100000 in
theorem xq_17 : j_code jP 42 17 = some (.invokevirtual 144) := rfl
set_option maxRecDepth 100000 in
theorem xq_20 : j_code jP 42 20 = some (.iconst (-1)) := rfl
set_option maxRecDepth 100000 in
theorem xq_21 : j_code jP 42 21 = some (.if_icmp .eq 7) := rfl
set_option maxRecDepth 100000 in
theorem xq_24 : j_code jP 42 24 = some (.iconst 1) := rfl
set_option maxRecDepth 100000 in
theorem xq_25 : j_code jP 42 25 = some (.goto 4) := rfl
set_option maxRecDepth 100000 in
theorem xq_28 : j_code jP 42 28 = some (.iconst 0) := rfl
set_option maxRecDepth 100000 in
theorem xq_29 : j_code jP 42 29 = some (.istore_n 1) := rfl
set_option maxRecDepth 100000 in
theorem xq_30 : j_code jP 42 30 = some (.iconst 0) := rfl
set_option maxRecDepth 100000 in
theorem xq_31 : j_code jP 42 31 = some (.istore_n 2) := rfl
set_option maxRecDepth 100000 in
theorem xq_32 : j_code jP 42 32 = some (.iload_n 2) := rfl
set_option maxRecDepth 100000 in
theorem xq_33 : j_code jP 42 33 = some (.aload_n 0) := rfl
set_option maxRecDepth 100000 in
theorem xq_34 : j_code jP 42 34 = some (.getfield 22) := rfl
set_option maxRecDepth 100000 in
theorem xq_37 : j_code jP 42 37 = some (.getfield 102) := rfl
set_option maxRecDepth 100000 in
theorem xq_40 : j_code jP 42 40 = some (.if_icmp .ge 39) := rfl
set_option maxRecDepth 100000 in
theorem xq_43 : j_code jP 42 43 = some (.iload_n 1) := rfl
set_option maxRecDepth 100000 in
theorem xq_44 : j_code jP 42 44 = some (.ifCond .ne 23) := rfl
set_option maxRecDepth 100000 in
theorem xq_47 : j_code jP 42 47 = some (.aload_n 0) := rfl
set_option maxRecDepth 100000 in
theorem xq_48 : j_code jP 42 48 = some (.getfield 22) := rfl
set_option maxRecDepth 100000 in
theorem xq_51 : j_code jP 42 51 = some (.getfield 105) := rfl
set_option maxRecDepth 100000 in
theorem xq_54 : j_code jP 42 54 = some (.iload_n 2) := rfl
set_option maxRecDepth 100000 in
theorem xq_55 : j_code jP 42 55 = some (.laload) := rfl
set_option maxRecDepth 100000 in
theorem xq_56 : j_code jP 42 56 = some (.aload_n 0) := rfl
set_option maxRecDepth 100000 in
theorem xq_57 : j_code jP 42 57 = some (.getfield 18) := rfl
set_option maxRecDepth 100000 in
theorem xq_60 : j_code jP 42 60 = some (.getfield 75) := rfl
set_option maxRecDepth 100000 in
theorem xq_63 : j_code jP 42 63 = some (.lcmp) := rfl
set_option maxRecDepth 100000 in
theorem xq_64 : j_code jP 42 64 = some (.ifCond .ne 7) := rfl
set_option maxRecDepth 100000 in
theorem xq_67 : j_code jP 42 67 = some (.iconst 1) := rfl
set_option maxRecDepth 100000 in
theorem xq_68 : j_code jP 42 68 = some (.goto 4) := rfl
set_option maxRecDepth 100000 in
theorem xq_71 : j_code jP 42 71 = some (.iconst 0) := rfl
set_option maxRecDepth 100000 in
theorem xq_72 : j_code jP 42 72 = some (.istore_n 1) := rfl
set_option maxRecDepth 100000 in
theorem xq_73 : j_code jP 42 73 = some (.iinc 2 1) := rfl
set_option maxRecDepth 100000 in
theorem xq_76 : j_code jP 42 76 = some (.goto (-44)) := rfl
set_option maxRecDepth 100000 in
theorem xq_79 : j_code jP 42 79 = some (.iload_n 1) := rfl
set_option maxRecDepth 100000 in
theorem xq_80 : j_code jP 42 80 = some (.ifCond .eq 11) := rfl
set_option maxRecDepth 100000 in
theorem xq_83 : j_code jP 42 83 = some (.aload_n 0) := rfl
set_option maxRecDepth 100000 in
theorem xq_84 : j_code jP 42 84 = some (.iconst 4) := rfl
set_option maxRecDepth 100000 in
theorem xq_85 : j_code jP 42 85 = some (.invokevirtual 64) := rfl
set_option maxRecDepth 100000 in
theorem xq_88 : j_code jP 42 88 = some (.ifCond .eq 7) := rfl
set_option maxRecDepth 100000 in
theorem xq_91 : j_code jP 42 91 = some (.iconst 1) := rfl
set_option maxRecDepth 100000 in
theorem xq_92 : j_code jP 42 92 = some (.goto 4) := rfl
set_option maxRecDepth 100000 in
theorem xq_95 : j_code jP 42 95 = some (.iconst 0) := rfl
set_option maxRecDepth 100000 in
theorem xq_96 : j_code jP 42 96 = some (.ireturn) := rfl
theorem xq_lA {ln nx kd pl nu fa pa ce : Int32} {wo : Int64} {e ns nt : Nat} {sn tn : List Int64} {h0 : J_H} {d : Nat} {Q : Option Value → J_H → Prop} (hs : tn.length = 5) (hn : nt ≤ 5) : ∀ (f t : Nat) (b : Bool) (h : J_H), t + f = nt → KN h [(1, .inl (8, [.ref 2, .int ln, .int (nI e), .int nx, .int kd, .int pl, .long wo, .int nu])), (3, .inl (4, [.ref 1, .ref 327, .int fa, .int pa])), (327, .inl (2, [.int (nI ns), .ref 328, .ref 329, .ref 330, .ref 331, .int (nI nt), .ref 332, .ref 333, .ref 334, .ref 335, .ref 336, .ref 337, .ref 338, .int ce, .ref 339, .ref 340, .ref 341, .ref 342])), (328, .inr (.inr (.inl sn))), (332, .inr (.inr (.inl tn)))] h0 → j_W jP d 42 79 [(2, .int (nI nt)), (1, .int (bif (sAn tn wo f t b) then 1 else 0)), (0, .ref 3)] [] h Q → j_W jP d 42 32 [(2, .int (nI t)), (1, .int (bif b then 1 else 0)), (0, .ref 3)] [] h Q := by
  intro f
  induction f with
  | zero =>
    intro t b h hf K k
    obtain rfl : t = nt := by omega
    refine j_W.one xq_M xq_32 (by decide) (pcJ := 33) (stJ := [.int (nI t)]) rfl ?_
    refine j_W.one xq_M xq_33 (by decide) (pcJ := 34) (stJ := [.ref 3, .int (nI t)]) rfl ?_
    refine j_W.getK xq_M xq_34 (ci := 4) (j := 1) rfl K rfl rfl ?_
    refine j_W.getK xq_M xq_37 (ci := 2) (j := 5) rfl K rfl rfl ?_
    refine j_W.icmp xq_M xq_40 (t := 79) rfl (fun c => ?_) (fun c => ?_)
    · exact k
    · exfalso; rw [jk_ge] at c; have c := of_decide_eq_false c; rw [nI_toInt (by omega)] at c; omega
  | succ f ih =>
    intro t b h hf K k
    refine j_W.one xq_M xq_32 (by decide) (pcJ := 33) (stJ := [.int (nI t)]) rfl ?_
    refine j_W.one xq_M xq_33 (by decide) (pcJ := 34) (stJ := [.ref 3, .int (nI t)]) rfl ?_
    refine j_W.getK xq_M xq_34 (ci := 4) (j := 1) rfl K rfl rfl ?_
    refine j_W.getK xq_M xq_37 (ci := 2) (j := 5) rfl K rfl rfl ?_
    refine j_W.icmp xq_M xq_40 (t := 79) rfl (fun c => ?_) (fun c => ?_)
    · exfalso; rw [jk_ge] at c; have c := of_decide_eq_true c; rw [nI_toInt (by omega), nI_toInt (by omega)] at c; omega
    · clear c
      refine j_W.one xq_M xq_43 (by decide) (pcJ := 44) (stJ := [.int (bif b then 1 else 0)]) rfl ?_
      cases b with
      | true =>
        show j_W jP _ 42 44 [(2, .int (nI t)), (1, .int (bif true then 1 else 0)), (0, .ref 3)] [.int 1] h _
        refine j_W.ifc xq_M xq_44 (t := 67) rfl (fun c => ?_) (fun c => ?_)
        · refine j_W.one xq_M xq_67 (by decide) (pcJ := 68) (stJ := [.int 1]) rfl ?_
          refine j_W.gto xq_M xq_68 (t := 72) rfl ?_
          refine j_W.one xq_M xq_72 (by decide) (pcJ := 73) (lv' := [(1, .int 1), (2, .int (nI t)), (0, .ref 3)]) (stJ := []) rfl ?_
          refine j_W.one xq_M xq_73 (by decide) (pcJ := 76) (lv' := [(2, .int ((nI t) + 1)), (1, .int 1), (0, .ref 3)]) (stJ := []) rfl ?_
          refine j_W.gto xq_M xq_76 (t := 32) rfl ?_
          have t9 := ih (t + 1) (true || decide (tn.getD t 0 = wo)) h (by omega) K k
          rw [nI_succ] at t9
          exact t9
        · cases c
      | false =>
        show j_W jP _ 42 44 [(2, .int (nI t)), (1, .int (bif false then 1 else 0)), (0, .ref 3)] [.int 0] h _
        refine j_W.ifc xq_M xq_44 (t := 67) rfl (fun c => ?_) (fun c => ?_)
        · cases c
        · clear c
          refine j_W.one xq_M xq_47 (by decide) (pcJ := 48) (stJ := [.ref 3]) rfl ?_
          refine j_W.getK xq_M xq_48 (ci := 4) (j := 1) rfl K rfl rfl ?_
          refine j_W.getK xq_M xq_51 (ci := 2) (j := 6) rfl K rfl rfl ?_
          refine j_W.one xq_M xq_54 (by decide) (pcJ := 55) (stJ := [.int (nI t), .ref 332]) rfl ?_
          refine j_W.laldK xq_M xq_55 K rfl (n := t) (by omega) (by omega) ?_
          refine j_W.one xq_M xq_56 (by decide) (pcJ := 57) (stJ := [.ref 3, .long (tn.getD t 0)]) rfl ?_
          refine j_W.getK xq_M xq_57 (ci := 4) (j := 0) rfl K rfl rfl ?_
          refine j_W.getK xq_M xq_60 (ci := 8) (j := 6) rfl K rfl rfl ?_
          refine j_W.one xq_M xq_63 (by decide) (pcJ := 64) (stJ := [.int (lg_cmp (tn.getD t 0) wo)]) rfl ?_
          refine j_W.ifc xq_M xq_64 (t := 71) rfl (fun c => ?_) (fun c => ?_)
          · rw [jk_lcmp] at c; have c : ¬ tn.getD t 0 = wo := by simpa using c
            refine j_W.one xq_M xq_71 (by decide) (pcJ := 72) (stJ := [.int 0]) rfl ?_
            refine j_W.one xq_M xq_72 (by decide) (pcJ := 73) (lv' := [(1, .int 0), (2, .int (nI t)), (0, .ref 3)]) (stJ := []) rfl ?_
            refine j_W.one xq_M xq_73 (by decide) (pcJ := 76) (lv' := [(2, .int ((nI t) + 1)), (1, .int 0), (0, .ref 3)]) (stJ := []) rfl ?_
            refine j_W.gto xq_M xq_76 (t := 32) rfl ?_
            have t9 := ih (t + 1) (false || decide (tn.getD t 0 = wo)) h (by omega) K k
            rw [decide_eq_false c] at t9
            rw [nI_succ] at t9
            exact t9
          · rw [jk_lcmp] at c; have c : tn.getD t 0 = wo := by simpa using c
            refine j_W.one xq_M xq_67 (by decide) (pcJ := 68) (stJ := [.int 1]) rfl ?_
            refine j_W.gto xq_M xq_68 (t := 72) rfl ?_
            refine j_W.one xq_M xq_72 (by decide) (pcJ := 73) (lv' := [(1, .int 1), (2, .int (nI t)), (0, .ref 3)]) (stJ := []) rfl ?_
            refine j_W.one xq_M xq_73 (by decide) (pcJ := 76) (lv' := [(2, .int ((nI t) + 1)), (1, .int 1), (0, .ref 3)]) (stJ := []) rfl ?_
            refine j_W.gto xq_M xq_76 (t := 32) rfl ?_
            have t9 := ih (t + 1) (false || decide (tn.getD t 0 = wo)) h (by omega) K k
            rw [decide_eq_true c] at t9
            rw [nI_succ] at t9
            exact t9
theorem xq_okA {ln kd pl nu fa pa ce : Int32} {wo : Int64} {e ns nt : Nat} {l : List Int32} {sn tn : List Int64} {p : Nat} {h h0 : J_H} {d : Nat} (hl : l.length = 700) (he : e ≤ 700) (hp : p ≤ e) (hs : sn.length = 7) (ht : tn.length = 5) (hn : ns ≤ 7) (hm : nt ≤ 5) (K : KN h [(1, .inl (8, [.ref 2, .int ln, .int (nI e), .int (nI p), .int kd, .int pl, .long wo, .int nu])), (2, .inr (.inl (1, l))), (3, .inl (4, [.ref 1, .ref 327, .int fa, .int pa])), (327, .inl (2, [.int (nI ns), .ref 328, .ref 329, .ref 330, .ref 331, .int (nI nt), .ref 332, .ref 333, .ref 334, .ref 335, .ref 336, .ref 337, .ref 338, .int ce, .ref 339, .ref 340, .ref 341, .ref 342])), (328, .inr (.inr (.inl sn))), (332, .inr (.inr (.inl tn)))] h0) : j_W jP (d + 1 + 1 + 1) 42 0 (lv_args 0 [.ref 3]) [] h (fun rv h' => rv = some (.int (bif (nmOk (tkK (cX l) e p) (tkW l e p wo) && !(sTk sn tn (tkW l e p wo) ns nt)) then 1 else 0)) ∧ KN h' [(1, .inl (8, [.ref 2, .int ln, .int (nI e), .int (nI (tkN (cX l) e p)), .int (tkK (cX l) e p), .int (nI (tkQ (cX l) e p)), .long (tkW l e p wo), .int (tkD l e p nu)])), (2, .inr (.inl (1, l))), (3, .inl (4, [.ref 1, .ref 327, .int (bif (nmOk (tkK (cX l) e p) (tkW l e p wo) && !(sTk sn tn (tkW l e p wo) ns nt)) then fa else (bif (nmOk (tkK (cX l) e p) (tkW l e p wo)) then 4 else (if (tkK (cX l) e p) = 4 then 1 else 2))), .int (bif (nmOk (tkK (cX l) e p) (tkW l e p wo) && !(sTk sn tn (tkW l e p wo) ns nt)) then pa else (nI (tkQ (cX l) e p)))])), (327, .inl (2, [.int (nI ns), .ref 328, .ref 329, .ref 330, .ref 331, .int (nI nt), .ref 332, .ref 333, .ref 334, .ref 335, .ref 336, .ref 337, .ref 338, .int ce, .ref 339, .ref 340, .ref 341, .ref 342])), (328, .inr (.inr (.inl sn))), (332, .inr (.inr (.inl tn)))] h0) := by
  show j_W jP (d + 1 + 1 + 1) 42 0 [(0, .ref 3)] [] h _
  refine j_W.one xq_M xq_0 (by decide) (pcJ := 1) (stJ := [.ref 3]) rfl ?_
  refine j_W.call xq_M xq_1 rfl (md := 3) (mj := 41) rfl (by decide) xn_M (As := [.ref 3]) (rest := []) (jk_spl3 (K.at rfl) rfl rfl rfl (Nat.le_of_ble_eq_true rfl) (Nat.le_of_ble_eq_true rfl)) (xn_ok hl he hp (K.sub ⟨rfl, rfl, rfl, trivial⟩)) ?_
  rintro r h9 ⟨rfl, K9⟩
  have K : KN h9 [(1, .inl (8, [.ref 2, .int ln, .int (nI e), .int (nI (tkN (cX l) e p)), .int (tkK (cX l) e p), .int (nI (tkQ (cX l) e p)), .long (tkW l e p wo), .int (tkD l e p nu)])), (2, .inr (.inl (1, l))), (3, .inl (4, [.ref 1, .ref 327, .int (bif (nmOk (tkK (cX l) e p) (tkW l e p wo)) then fa else (if (tkK (cX l) e p) = 4 then 1 else 2)), .int (bif (nmOk (tkK (cX l) e p) (tkW l e p wo)) then pa else (nI (tkQ (cX l) e p)))])), (327, .inl (2, [.int (nI ns), .ref 328, .ref 329, .ref 330, .ref 331, .int (nI nt), .ref 332, .ref 333, .ref 334, .ref 335, .ref 336, .ref 337, .ref 338, .int ce, .ref 339, .ref 340, .ref 341, .ref 342])), (328, .inr (.inr (.inl sn))), (332, .inr (.inr (.inl tn)))] h0 := K.go K9 rfl rfl rfl
  clear K9
  show j_W jP _ 42 4 [(0, .ref 3)] [.int (bif (nmOk (tkK (cX l) e p) (tkW l e p wo)) then 1 else 0)] h9 _
  cases hb : nmOk (tkK (cX l) e p) (tkW l e p wo) with
  | true =>
    rw [hb] at K
    show j_W jP _ 42 4 [(0, .ref 3)] [.int 1] h9 _
    refine j_W.ifc xq_M xq_4 (t := 9) rfl (fun c => ?_) (fun c => ?_)
    · have K : KN h9 [(1, .inl (8, [.ref 2, .int ln, .int (nI e), .int (nI (tkN (cX l) e p)), .int (tkK (cX l) e p), .int (nI (tkQ (cX l) e p)), .long (tkW l e p wo), .int (tkD l e p nu)])), (2, .inr (.inl (1, l))), (3, .inl (4, [.ref 1, .ref 327, .int fa, .int pa])), (327, .inl (2, [.int (nI ns), .ref 328, .ref 329, .ref 330, .ref 331, .int (nI nt), .ref 332, .ref 333, .ref 334, .ref 335, .ref 336, .ref 337, .ref 338, .int ce, .ref 339, .ref 340, .ref 341, .ref 342])), (328, .inr (.inr (.inl sn))), (332, .inr (.inr (.inl tn)))] h0 := K
      clear c
      refine j_W.one xq_M xq_9 (by decide) (pcJ := 10) (stJ := [.ref 3]) rfl ?_
      refine j_W.one xq_M xq_10 (by decide) (pcJ := 11) (stJ := [.ref 3, .ref 3]) rfl ?_
      refine j_W.getK xq_M xq_11 (ci := 4) (j := 0) rfl K rfl rfl ?_
      refine j_W.getK xq_M xq_14 (ci := 8) (j := 6) rfl K rfl rfl ?_
      refine j_W.call xq_M xq_17 rfl (md := 3) (mj := 44) rfl (by decide) xs_M (As := [.ref 3, .long (tkW l e p wo)]) (rest := []) (jk_spl3 (K.at rfl) rfl rfl rfl (Nat.le_of_ble_eq_true rfl) (Nat.le_of_ble_eq_true rfl)) (xs_okA hs hn (K.sub ⟨rfl, rfl, rfl, trivial⟩)) ?_
      rintro r hz ⟨rfl, ez⟩
      rw [ez]
      clear ez
      show j_W jP _ 42 20 [(0, .ref 3)] [.int (sIx sn (tkW l e p wo) ns 0)] h9 _
      refine j_W.one xq_M xq_20 (by decide) (pcJ := 21) (stJ := [.int (-1), .int (sIx sn (tkW l e p wo) ns 0)]) rfl ?_
      refine j_W.icmp xq_M xq_21 (t := 28) rfl (fun c => ?_) (fun c => ?_)
      · have c9 : decide (sIx sn (tkW l e p wo) ns 0 = -1) = true := by simpa [j_cond] using c
        clear c
        refine j_W.one xq_M xq_28 (by decide) (pcJ := 29) (stJ := [.int 0]) rfl ?_
        refine j_W.one xq_M xq_29 (by decide) (pcJ := 30) (lv' := [(1, .int 0), (0, .ref 3)]) (stJ := []) rfl ?_
        refine j_W.one xq_M xq_30 (by decide) (pcJ := 31) (stJ := [.int 0]) rfl ?_
        refine j_W.one xq_M xq_31 (by decide) (pcJ := 32) (lv' := [(2, .int 0), (1, .int 0), (0, .ref 3)]) (stJ := []) rfl ?_
        refine xq_lA ht hm nt 0 false _ (by omega) (K.sub ⟨rfl, rfl, rfl, rfl, rfl, trivial⟩) ?_
        have e9 : sAn tn (tkW l e p wo) nt 0 false = (sTk sn tn (tkW l e p wo) ns nt) := by unfold sTk; rw [c9]; rfl
        rw [e9]
        refine j_W.one xq_M xq_79 (by decide) (pcJ := 80) (stJ := [.int (bif (sTk sn tn (tkW l e p wo) ns nt) then 1 else 0)]) rfl ?_
        cases ht9 : sTk sn tn (tkW l e p wo) ns nt with
        | true =>
          show j_W jP _ 42 80 [(2, .int (nI nt)), (1, .int 1), (0, .ref 3)] [.int 1] h9 _
          refine j_W.ifc xq_M xq_80 (t := 91) rfl (fun c => ?_) (fun c => ?_)
          · cases c
          · refine j_W.one xq_M xq_83 (by decide) (pcJ := 84) (stJ := [.ref 3]) rfl ?_
            refine j_W.one xq_M xq_84 (by decide) (pcJ := 85) (stJ := [.int 4, .ref 3]) rfl ?_
            refine j_W.call xq_M xq_85 rfl (md := 3) (mj := 46) rfl (by decide) xf_M (As := [.ref 3, .int 4]) (rest := []) (jk_spl3 (K.at rfl) rfl rfl rfl (Nat.le_of_ble_eq_true rfl) (Nat.le_of_ble_eq_true rfl)) (xf_ok (K.sub ⟨rfl, rfl, trivial⟩)) ?_
            rintro r h9 ⟨rfl, K9⟩
            have K : KN h9 [(1, .inl (8, [.ref 2, .int ln, .int (nI e), .int (nI (tkN (cX l) e p)), .int (tkK (cX l) e p), .int (nI (tkQ (cX l) e p)), .long (tkW l e p wo), .int (tkD l e p nu)])), (2, .inr (.inl (1, l))), (3, .inl (4, [.ref 1, .ref 327, .int 4, .int (nI (tkQ (cX l) e p))])), (327, .inl (2, [.int (nI ns), .ref 328, .ref 329, .ref 330, .ref 331, .int (nI nt), .ref 332, .ref 333, .ref 334, .ref 335, .ref 336, .ref 337, .ref 338, .int ce, .ref 339, .ref 340, .ref 341, .ref 342])), (328, .inr (.inr (.inl sn))), (332, .inr (.inr (.inl tn)))] h0 := K.go K9 rfl rfl rfl
            clear K9
            show j_W jP _ 42 88 [(2, .int (nI nt)), (1, .int 1), (0, .ref 3)] [.int 0] h9 _
            refine j_W.ifc xq_M xq_88 (t := 95) rfl (fun c => ?_) (fun c => ?_)
            · refine j_W.one xq_M xq_95 (by decide) (pcJ := 96) (stJ := [.int 0]) rfl ?_
              refine j_W.ret xq_M xq_96 rfl rfl ⟨rfl, K⟩
            · cases c
        | false =>
          show j_W jP _ 42 80 [(2, .int (nI nt)), (1, .int 0), (0, .ref 3)] [.int 0] h9 _
          refine j_W.ifc xq_M xq_80 (t := 91) rfl (fun c => ?_) (fun c => ?_)
          · refine j_W.one xq_M xq_91 (by decide) (pcJ := 92) (stJ := [.int 1]) rfl ?_
            refine j_W.gto xq_M xq_92 (t := 96) rfl ?_
            refine j_W.ret xq_M xq_96 rfl rfl ⟨rfl, K⟩
          · cases c
      · have c9 : decide (sIx sn (tkW l e p wo) ns 0 = -1) = false := by simpa [j_cond] using c
        clear c
        refine j_W.one xq_M xq_24 (by decide) (pcJ := 25) (stJ := [.int 1]) rfl ?_
        refine j_W.gto xq_M xq_25 (t := 29) rfl ?_
        refine j_W.one xq_M xq_29 (by decide) (pcJ := 30) (lv' := [(1, .int 1), (0, .ref 3)]) (stJ := []) rfl ?_
        refine j_W.one xq_M xq_30 (by decide) (pcJ := 31) (stJ := [.int 0]) rfl ?_
        refine j_W.one xq_M xq_31 (by decide) (pcJ := 32) (lv' := [(2, .int 0), (1, .int 1), (0, .ref 3)]) (stJ := []) rfl ?_
        refine xq_lA ht hm nt 0 true _ (by omega) (K.sub ⟨rfl, rfl, rfl, rfl, rfl, trivial⟩) ?_
        have e9 : sAn tn (tkW l e p wo) nt 0 true = (sTk sn tn (tkW l e p wo) ns nt) := by unfold sTk; rw [c9]; rfl
        rw [e9]
        refine j_W.one xq_M xq_79 (by decide) (pcJ := 80) (stJ := [.int (bif (sTk sn tn (tkW l e p wo) ns nt) then 1 else 0)]) rfl ?_
        cases ht9 : sTk sn tn (tkW l e p wo) ns nt with
        | true =>
          show j_W jP _ 42 80 [(2, .int (nI nt)), (1, .int 1), (0, .ref 3)] [.int 1] h9 _
          refine j_W.ifc xq_M xq_80 (t := 91) rfl (fun c => ?_) (fun c => ?_)
          · cases c
          · refine j_W.one xq_M xq_83 (by decide) (pcJ := 84) (stJ := [.ref 3]) rfl ?_
            refine j_W.one xq_M xq_84 (by decide) (pcJ := 85) (stJ := [.int 4, .ref 3]) rfl ?_
            refine j_W.call xq_M xq_85 rfl (md := 3) (mj := 46) rfl (by decide) xf_M (As := [.ref 3, .int 4]) (rest := []) (jk_spl3 (K.at rfl) rfl rfl rfl (Nat.le_of_ble_eq_true rfl) (Nat.le_of_ble_eq_true rfl)) (xf_ok (K.sub ⟨rfl, rfl, trivial⟩)) ?_
            rintro r h9 ⟨rfl, K9⟩
            have K : KN h9 [(1, .inl (8, [.ref 2, .int ln, .int (nI e), .int (nI (tkN (cX l) e p)), .int (tkK (cX l) e p), .int (nI (tkQ (cX l) e p)), .long (tkW l e p wo), .int (tkD l e p nu)])), (2, .inr (.inl (1, l))), (3, .inl (4, [.ref 1, .ref 327, .int 4, .int (nI (tkQ (cX l) e p))])), (327, .inl (2, [.int (nI ns), .ref 328, .ref 329, .ref 330, .ref 331, .int (nI nt), .ref 332, .ref 333, .ref 334, .ref 335, .ref 336, .ref 337, .ref 338, .int ce, .ref 339, .ref 340, .ref 341, .ref 342])), (328, .inr (.inr (.inl sn))), (332, .inr (.inr (.inl tn)))] h0 := K.go K9 rfl rfl rfl
            clear K9
            show j_W jP _ 42 88 [(2, .int (nI nt)), (1, .int 1), (0, .ref 3)] [.int 0] h9 _
            refine j_W.ifc xq_M xq_88 (t := 95) rfl (fun c => ?_) (fun c => ?_)
            · refine j_W.one xq_M xq_95 (by decide) (pcJ := 96) (stJ := [.int 0]) rfl ?_
              refine j_W.ret xq_M xq_96 rfl rfl ⟨rfl, K⟩
            · cases c
        | false =>
          show j_W jP _ 42 80 [(2, .int (nI nt)), (1, .int 0), (0, .ref 3)] [.int 0] h9 _
          refine j_W.ifc xq_M xq_80 (t := 91) rfl (fun c => ?_) (fun c => ?_)
          · refine j_W.one xq_M xq_91 (by decide) (pcJ := 92) (stJ := [.int 1]) rfl ?_
            refine j_W.gto xq_M xq_92 (t := 96) rfl ?_
            refine j_W.ret xq_M xq_96 rfl rfl ⟨rfl, K⟩
          · cases c
    · cases c
  | false =>
    rw [hb] at K
    show j_W jP _ 42 4 [(0, .ref 3)] [.int 0] h9 _
    refine j_W.ifc xq_M xq_4 (t := 9) rfl (fun c => ?_) (fun c => ?_)
    · cases c
    · refine j_W.one xq_M xq_7 (by decide) (pcJ := 8) (stJ := [.int 0]) rfl ?_
      refine j_W.ret xq_M xq_8 rfl rfl ⟨rfl, K⟩
theorem xq_lB {ln nx kd pl nu fa pa ce : Int32} {wo : Int64} {e ns nt : Nat} {sn tn : List Int64} {h0 : J_H} {d : Nat} {Q : Option Value → J_H → Prop} (hs : tn.length = 5) (hn : nt ≤ 5) : ∀ (f t : Nat) (b : Bool) (h : J_H), t + f = nt → KN h [(1, .inl (8, [.ref 2, .int ln, .int (nI e), .int nx, .int kd, .int pl, .long wo, .int nu])), (3, .inl (4, [.ref 1, .ref 343, .int fa, .int pa])), (343, .inl (2, [.int (nI ns), .ref 344, .ref 345, .ref 346, .ref 347, .int (nI nt), .ref 348, .ref 349, .ref 350, .ref 351, .ref 352, .ref 353, .ref 354, .int ce, .ref 355, .ref 356, .ref 357, .ref 358])), (344, .inr (.inr (.inl sn))), (348, .inr (.inr (.inl tn)))] h0 → j_W jP d 42 79 [(2, .int (nI nt)), (1, .int (bif (sAn tn wo f t b) then 1 else 0)), (0, .ref 3)] [] h Q → j_W jP d 42 32 [(2, .int (nI t)), (1, .int (bif b then 1 else 0)), (0, .ref 3)] [] h Q := by
  intro f
  induction f with
  | zero =>
    intro t b h hf K k
    obtain rfl : t = nt := by omega
    refine j_W.one xq_M xq_32 (by decide) (pcJ := 33) (stJ := [.int (nI t)]) rfl ?_
    refine j_W.one xq_M xq_33 (by decide) (pcJ := 34) (stJ := [.ref 3, .int (nI t)]) rfl ?_
    refine j_W.getK xq_M xq_34 (ci := 4) (j := 1) rfl K rfl rfl ?_
    refine j_W.getK xq_M xq_37 (ci := 2) (j := 5) rfl K rfl rfl ?_
    refine j_W.icmp xq_M xq_40 (t := 79) rfl (fun c => ?_) (fun c => ?_)
    · exact k
    · exfalso; rw [jk_ge] at c; have c := of_decide_eq_false c; rw [nI_toInt (by omega)] at c; omega
  | succ f ih =>
    intro t b h hf K k
    refine j_W.one xq_M xq_32 (by decide) (pcJ := 33) (stJ := [.int (nI t)]) rfl ?_
    refine j_W.one xq_M xq_33 (by decide) (pcJ := 34) (stJ := [.ref 3, .int (nI t)]) rfl ?_
    refine j_W.getK xq_M xq_34 (ci := 4) (j := 1) rfl K rfl rfl ?_
    refine j_W.getK xq_M xq_37 (ci := 2) (j := 5) rfl K rfl rfl ?_
    refine j_W.icmp xq_M xq_40 (t := 79) rfl (fun c => ?_) (fun c => ?_)
    · exfalso; rw [jk_ge] at c; have c := of_decide_eq_true c; rw [nI_toInt (by omega), nI_toInt (by omega)] at c; omega
    · clear c
      refine j_W.one xq_M xq_43 (by decide) (pcJ := 44) (stJ := [.int (bif b then 1 else 0)]) rfl ?_
      cases b with
      | true =>
        show j_W jP _ 42 44 [(2, .int (nI t)), (1, .int (bif true then 1 else 0)), (0, .ref 3)] [.int 1] h _
        refine j_W.ifc xq_M xq_44 (t := 67) rfl (fun c => ?_) (fun c => ?_)
        · refine j_W.one xq_M xq_67 (by decide) (pcJ := 68) (stJ := [.int 1]) rfl ?_
          refine j_W.gto xq_M xq_68 (t := 72) rfl ?_
          refine j_W.one xq_M xq_72 (by decide) (pcJ := 73) (lv' := [(1, .int 1), (2, .int (nI t)), (0, .ref 3)]) (stJ := []) rfl ?_
          refine j_W.one xq_M xq_73 (by decide) (pcJ := 76) (lv' := [(2, .int ((nI t) + 1)), (1, .int 1), (0, .ref 3)]) (stJ := []) rfl ?_
          refine j_W.gto xq_M xq_76 (t := 32) rfl ?_
          have t9 := ih (t + 1) (true || decide (tn.getD t 0 = wo)) h (by omega) K k
          rw [nI_succ] at t9
          exact t9
        · cases c
      | false =>
        show j_W jP _ 42 44 [(2, .int (nI t)), (1, .int (bif false then 1 else 0)), (0, .ref 3)] [.int 0] h _
        refine j_W.ifc xq_M xq_44 (t := 67) rfl (fun c => ?_) (fun c => ?_)
        · cases c
        · clear c
          refine j_W.one xq_M xq_47 (by decide) (pcJ := 48) (stJ := [.ref 3]) rfl ?_
          refine j_W.getK xq_M xq_48 (ci := 4) (j := 1) rfl K rfl rfl ?_
          refine j_W.getK xq_M xq_51 (ci := 2) (j := 6) rfl K rfl rfl ?_
          refine j_W.one xq_M xq_54 (by decide) (pcJ := 55) (stJ := [.int (nI t), .ref 348]) rfl ?_
          refine j_W.laldK xq_M xq_55 K rfl (n := t) (by omega) (by omega) ?_
          refine j_W.one xq_M xq_56 (by decide) (pcJ := 57) (stJ := [.ref 3, .long (tn.getD t 0)]) rfl ?_
          refine j_W.getK xq_M xq_57 (ci := 4) (j := 0) rfl K rfl rfl ?_
          refine j_W.getK xq_M xq_60 (ci := 8) (j := 6) rfl K rfl rfl ?_
          refine j_W.one xq_M xq_63 (by decide) (pcJ := 64) (stJ := [.int (lg_cmp (tn.getD t 0) wo)]) rfl ?_
          refine j_W.ifc xq_M xq_64 (t := 71) rfl (fun c => ?_) (fun c => ?_)
          · rw [jk_lcmp] at c; have c : ¬ tn.getD t 0 = wo := by simpa using c
            refine j_W.one xq_M xq_71 (by decide) (pcJ := 72) (stJ := [.int 0]) rfl ?_
            refine j_W.one xq_M xq_72 (by decide) (pcJ := 73) (lv' := [(1, .int 0), (2, .int (nI t)), (0, .ref 3)]) (stJ := []) rfl ?_
            refine j_W.one xq_M xq_73 (by decide) (pcJ := 76) (lv' := [(2, .int ((nI t) + 1)), (1, .int 0), (0, .ref 3)]) (stJ := []) rfl ?_
            refine j_W.gto xq_M xq_76 (t := 32) rfl ?_
            have t9 := ih (t + 1) (false || decide (tn.getD t 0 = wo)) h (by omega) K k
            rw [decide_eq_false c] at t9
            rw [nI_succ] at t9
            exact t9
          · rw [jk_lcmp] at c; have c : tn.getD t 0 = wo := by simpa using c
            refine j_W.one xq_M xq_67 (by decide) (pcJ := 68) (stJ := [.int 1]) rfl ?_
            refine j_W.gto xq_M xq_68 (t := 72) rfl ?_
            refine j_W.one xq_M xq_72 (by decide) (pcJ := 73) (lv' := [(1, .int 1), (2, .int (nI t)), (0, .ref 3)]) (stJ := []) rfl ?_
            refine j_W.one xq_M xq_73 (by decide) (pcJ := 76) (lv' := [(2, .int ((nI t) + 1)), (1, .int 1), (0, .ref 3)]) (stJ := []) rfl ?_
            refine j_W.gto xq_M xq_76 (t := 32) rfl ?_
            have t9 := ih (t + 1) (false || decide (tn.getD t 0 = wo)) h (by omega) K k
            rw [decide_eq_true c] at t9
            rw [nI_succ] at t9
            exact t9
theorem xq_okB {ln kd pl nu fa pa ce : Int32} {wo : Int64} {e ns nt : Nat} {l : List Int32} {sn tn : List Int64} {p : Nat} {h h0 : J_H} {d : Nat} (hl : l.length = 700) (he : e ≤ 700) (hp : p ≤ e) (hs : sn.length = 7) (ht : tn.length = 5) (hn : ns ≤ 7) (hm : nt ≤ 5) (K : KN h [(1, .inl (8, [.ref 2, .int ln, .int (nI e), .int (nI p), .int kd, .int pl, .long wo, .int nu])), (2, .inr (.inl (1, l))), (3, .inl (4, [.ref 1, .ref 343, .int fa, .int pa])), (343, .inl (2, [.int (nI ns), .ref 344, .ref 345, .ref 346, .ref 347, .int (nI nt), .ref 348, .ref 349, .ref 350, .ref 351, .ref 352, .ref 353, .ref 354, .int ce, .ref 355, .ref 356, .ref 357, .ref 358])), (344, .inr (.inr (.inl sn))), (348, .inr (.inr (.inl tn)))] h0) : j_W jP (d + 1 + 1 + 1) 42 0 (lv_args 0 [.ref 3]) [] h (fun rv h' => rv = some (.int (bif (nmOk (tkK (cX l) e p) (tkW l e p wo) && !(sTk sn tn (tkW l e p wo) ns nt)) then 1 else 0)) ∧ KN h' [(1, .inl (8, [.ref 2, .int ln, .int (nI e), .int (nI (tkN (cX l) e p)), .int (tkK (cX l) e p), .int (nI (tkQ (cX l) e p)), .long (tkW l e p wo), .int (tkD l e p nu)])), (2, .inr (.inl (1, l))), (3, .inl (4, [.ref 1, .ref 343, .int (bif (nmOk (tkK (cX l) e p) (tkW l e p wo) && !(sTk sn tn (tkW l e p wo) ns nt)) then fa else (bif (nmOk (tkK (cX l) e p) (tkW l e p wo)) then 4 else (if (tkK (cX l) e p) = 4 then 1 else 2))), .int (bif (nmOk (tkK (cX l) e p) (tkW l e p wo) && !(sTk sn tn (tkW l e p wo) ns nt)) then pa else (nI (tkQ (cX l) e p)))])), (343, .inl (2, [.int (nI ns), .ref 344, .ref 345, .ref 346, .ref 347, .int (nI nt), .ref 348, .ref 349, .ref 350, .ref 351, .ref 352, .ref 353, .ref 354, .int ce, .ref 355, .ref 356, .ref 357, .ref 358])), (344, .inr (.inr (.inl sn))), (348, .inr (.inr (.inl tn)))] h0) := by
  show j_W jP (d + 1 + 1 + 1) 42 0 [(0, .ref 3)] [] h _
  refine j_W.one xq_M xq_0 (by decide) (pcJ := 1) (stJ := [.ref 3]) rfl ?_
  refine j_W.call xq_M xq_1 rfl (md := 3) (mj := 41) rfl (by decide) xn_M (As := [.ref 3]) (rest := []) (jk_spl3 (K.at rfl) rfl rfl rfl (Nat.le_of_ble_eq_true rfl) (Nat.le_of_ble_eq_true rfl)) (xn_ok hl he hp (K.sub ⟨rfl, rfl, rfl, trivial⟩)) ?_
  rintro r h9 ⟨rfl, K9⟩
  have K : KN h9 [(1, .inl (8, [.ref 2, .int ln, .int (nI e), .int (nI (tkN (cX l) e p)), .int (tkK (cX l) e p), .int (nI (tkQ (cX l) e p)), .long (tkW l e p wo), .int (tkD l e p nu)])), (2, .inr (.inl (1, l))), (3, .inl (4, [.ref 1, .ref 343, .int (bif (nmOk (tkK (cX l) e p) (tkW l e p wo)) then fa else (if (tkK (cX l) e p) = 4 then 1 else 2)), .int (bif (nmOk (tkK (cX l) e p) (tkW l e p wo)) then pa else (nI (tkQ (cX l) e p)))])), (343, .inl (2, [.int (nI ns), .ref 344, .ref 345, .ref 346, .ref 347, .int (nI nt), .ref 348, .ref 349, .ref 350, .ref 351, .ref 352, .ref 353, .ref 354, .int ce, .ref 355, .ref 356, .ref 357, .ref 358])), (344, .inr (.inr (.inl sn))), (348, .inr (.inr (.inl tn)))] h0 := K.go K9 rfl rfl rfl
  clear K9
  show j_W jP _ 42 4 [(0, .ref 3)] [.int (bif (nmOk (tkK (cX l) e p) (tkW l e p wo)) then 1 else 0)] h9 _
  cases hb : nmOk (tkK (cX l) e p) (tkW l e p wo) with
  | true =>
    rw [hb] at K
    show j_W jP _ 42 4 [(0, .ref 3)] [.int 1] h9 _
    refine j_W.ifc xq_M xq_4 (t := 9) rfl (fun c => ?_) (fun c => ?_)
    · have K : KN h9 [(1, .inl (8, [.ref 2, .int ln, .int (nI e), .int (nI (tkN (cX l) e p)), .int (tkK (cX l) e p), .int (nI (tkQ (cX l) e p)), .long (tkW l e p wo), .int (tkD l e p nu)])), (2, .inr (.inl (1, l))), (3, .inl (4, [.ref 1, .ref 343, .int fa, .int pa])), (343, .inl (2, [.int (nI ns), .ref 344, .ref 345, .ref 346, .ref 347, .int (nI nt), .ref 348, .ref 349, .ref 350, .ref 351, .ref 352, .ref 353, .ref 354, .int ce, .ref 355, .ref 356, .ref 357, .ref 358])), (344, .inr (.inr (.inl sn))), (348, .inr (.inr (.inl tn)))] h0 := K
      clear c
      refine j_W.one xq_M xq_9 (by decide) (pcJ := 10) (stJ := [.ref 3]) rfl ?_
      refine j_W.one xq_M xq_10 (by decide) (pcJ := 11) (stJ := [.ref 3, .ref 3]) rfl ?_
      refine j_W.getK xq_M xq_11 (ci := 4) (j := 0) rfl K rfl rfl ?_
      refine j_W.getK xq_M xq_14 (ci := 8) (j := 6) rfl K rfl rfl ?_
      refine j_W.call xq_M xq_17 rfl (md := 3) (mj := 44) rfl (by decide) xs_M (As := [.ref 3, .long (tkW l e p wo)]) (rest := []) (jk_spl3 (K.at rfl) rfl rfl rfl (Nat.le_of_ble_eq_true rfl) (Nat.le_of_ble_eq_true rfl)) (xs_okB hs hn (K.sub ⟨rfl, rfl, rfl, trivial⟩)) ?_
      rintro r hz ⟨rfl, ez⟩
      rw [ez]
      clear ez
      show j_W jP _ 42 20 [(0, .ref 3)] [.int (sIx sn (tkW l e p wo) ns 0)] h9 _
      refine j_W.one xq_M xq_20 (by decide) (pcJ := 21) (stJ := [.int (-1), .int (sIx sn (tkW l e p wo) ns 0)]) rfl ?_
      refine j_W.icmp xq_M xq_21 (t := 28) rfl (fun c => ?_) (fun c => ?_)
      · have c9 : decide (sIx sn (tkW l e p wo) ns 0 = -1) = true := by simpa [j_cond] using c
        clear c
        refine j_W.one xq_M xq_28 (by decide) (pcJ := 29) (stJ := [.int 0]) rfl ?_
        refine j_W.one xq_M xq_29 (by decide) (pcJ := 30) (lv' := [(1, .int 0), (0, .ref 3)]) (stJ := []) rfl ?_
        refine j_W.one xq_M xq_30 (by decide) (pcJ := 31) (stJ := [.int 0]) rfl ?_
        refine j_W.one xq_M xq_31 (by decide) (pcJ := 32) (lv' := [(2, .int 0), (1, .int 0), (0, .ref 3)]) (stJ := []) rfl ?_
        refine xq_lB ht hm nt 0 false _ (by omega) (K.sub ⟨rfl, rfl, rfl, rfl, rfl, trivial⟩) ?_
        have e9 : sAn tn (tkW l e p wo) nt 0 false = (sTk sn tn (tkW l e p wo) ns nt) := by unfold sTk; rw [c9]; rfl
        rw [e9]
        refine j_W.one xq_M xq_79 (by decide) (pcJ := 80) (stJ := [.int (bif (sTk sn tn (tkW l e p wo) ns nt) then 1 else 0)]) rfl ?_
        cases ht9 : sTk sn tn (tkW l e p wo) ns nt with
        | true =>
          show j_W jP _ 42 80 [(2, .int (nI nt)), (1, .int 1), (0, .ref 3)] [.int 1] h9 _
          refine j_W.ifc xq_M xq_80 (t := 91) rfl (fun c => ?_) (fun c => ?_)
          · cases c
          · refine j_W.one xq_M xq_83 (by decide) (pcJ := 84) (stJ := [.ref 3]) rfl ?_
            refine j_W.one xq_M xq_84 (by decide) (pcJ := 85) (stJ := [.int 4, .ref 3]) rfl ?_
            refine j_W.call xq_M xq_85 rfl (md := 3) (mj := 46) rfl (by decide) xf_M (As := [.ref 3, .int 4]) (rest := []) (jk_spl3 (K.at rfl) rfl rfl rfl (Nat.le_of_ble_eq_true rfl) (Nat.le_of_ble_eq_true rfl)) (xf_ok (K.sub ⟨rfl, rfl, trivial⟩)) ?_
            rintro r h9 ⟨rfl, K9⟩
            have K : KN h9 [(1, .inl (8, [.ref 2, .int ln, .int (nI e), .int (nI (tkN (cX l) e p)), .int (tkK (cX l) e p), .int (nI (tkQ (cX l) e p)), .long (tkW l e p wo), .int (tkD l e p nu)])), (2, .inr (.inl (1, l))), (3, .inl (4, [.ref 1, .ref 343, .int 4, .int (nI (tkQ (cX l) e p))])), (343, .inl (2, [.int (nI ns), .ref 344, .ref 345, .ref 346, .ref 347, .int (nI nt), .ref 348, .ref 349, .ref 350, .ref 351, .ref 352, .ref 353, .ref 354, .int ce, .ref 355, .ref 356, .ref 357, .ref 358])), (344, .inr (.inr (.inl sn))), (348, .inr (.inr (.inl tn)))] h0 := K.go K9 rfl rfl rfl
            clear K9
            show j_W jP _ 42 88 [(2, .int (nI nt)), (1, .int 1), (0, .ref 3)] [.int 0] h9 _
            refine j_W.ifc xq_M xq_88 (t := 95) rfl (fun c => ?_) (fun c => ?_)
            · refine j_W.one xq_M xq_95 (by decide) (pcJ := 96) (stJ := [.int 0]) rfl ?_
              refine j_W.ret xq_M xq_96 rfl rfl ⟨rfl, K⟩
            · cases c
        | false =>
          show j_W jP _ 42 80 [(2, .int (nI nt)), (1, .int 0), (0, .ref 3)] [.int 0] h9 _
          refine j_W.ifc xq_M xq_80 (t := 91) rfl (fun c => ?_) (fun c => ?_)
          · refine j_W.one xq_M xq_91 (by decide) (pcJ := 92) (stJ := [.int 1]) rfl ?_
            refine j_W.gto xq_M xq_92 (t := 96) rfl ?_
            refine j_W.ret xq_M xq_96 rfl rfl ⟨rfl, K⟩
          · cases c
      · have c9 : decide (sIx sn (tkW l e p wo) ns 0 = -1) = false := by simpa [j_cond] using c
        clear c
        refine j_W.one xq_M xq_24 (by decide) (pcJ := 25) (stJ := [.int 1]) rfl ?_
        refine j_W.gto xq_M xq_25 (t := 29) rfl ?_
        refine j_W.one xq_M xq_29 (by decide) (pcJ := 30) (lv' := [(1, .int 1), (0, .ref 3)]) (stJ := []) rfl ?_
        refine j_W.one xq_M xq_30 (by decide) (pcJ := 31) (stJ := [.int 0]) rfl ?_
        refine j_W.one xq_M xq_31 (by decide) (pcJ := 32) (lv' := [(2, .int 0), (1, .int 1), (0, .ref 3)]) (stJ := []) rfl ?_
        refine xq_lB ht hm nt 0 true _ (by omega) (K.sub ⟨rfl, rfl, rfl, rfl, rfl, trivial⟩) ?_
        have e9 : sAn tn (tkW l e p wo) nt 0 true = (sTk sn tn (tkW l e p wo) ns nt) := by unfold sTk; rw [c9]; rfl
        rw [e9]
        refine j_W.one xq_M xq_79 (by decide) (pcJ := 80) (stJ := [.int (bif (sTk sn tn (tkW l e p wo) ns nt) then 1 else 0)]) rfl ?_
        cases ht9 : sTk sn tn (tkW l e p wo) ns nt with
        | true =>
          show j_W jP _ 42 80 [(2, .int (nI nt)), (1, .int 1), (0, .ref 3)] [.int 1] h9 _
          refine j_W.ifc xq_M xq_80 (t := 91) rfl (fun c => ?_) (fun c => ?_)
          · cases c
          · refine j_W.one xq_M xq_83 (by decide) (pcJ := 84) (stJ := [.ref 3]) rfl ?_
            refine j_W.one xq_M xq_84 (by decide) (pcJ := 85) (stJ := [.int 4, .ref 3]) rfl ?_
            refine j_W.call xq_M xq_85 rfl (md := 3) (mj := 46) rfl (by decide) xf_M (As := [.ref 3, .int 4]) (rest := []) (jk_spl3 (K.at rfl) rfl rfl rfl (Nat.le_of_ble_eq_true rfl) (Nat.le_of_ble_eq_true rfl)) (xf_ok (K.sub ⟨rfl, rfl, trivial⟩)) ?_
            rintro r h9 ⟨rfl, K9⟩
            have K : KN h9 [(1, .inl (8, [.ref 2, .int ln, .int (nI e), .int (nI (tkN (cX l) e p)), .int (tkK (cX l) e p), .int (nI (tkQ (cX l) e p)), .long (tkW l e p wo), .int (tkD l e p nu)])), (2, .inr (.inl (1, l))), (3, .inl (4, [.ref 1, .ref 343, .int 4, .int (nI (tkQ (cX l) e p))])), (343, .inl (2, [.int (nI ns), .ref 344, .ref 345, .ref 346, .ref 347, .int (nI nt), .ref 348, .ref 349, .ref 350, .ref 351, .ref 352, .ref 353, .ref 354, .int ce, .ref 355, .ref 356, .ref 357, .ref 358])), (344, .inr (.inr (.inl sn))), (348, .inr (.inr (.inl tn)))] h0 := K.go K9 rfl rfl rfl
            clear K9
            show j_W jP _ 42 88 [(2, .int (nI nt)), (1, .int 1), (0, .ref 3)] [.int 0] h9 _
            refine j_W.ifc xq_M xq_88 (t := 95) rfl (fun c => ?_) (fun c => ?_)
            · refine j_W.one xq_M xq_95 (by decide) (pcJ := 96) (stJ := [.int 0]) rfl ?_
              refine j_W.ret xq_M xq_96 rfl rfl ⟨rfl, K⟩
            · cases c
        | false =>
          show j_W jP _ 42 80 [(2, .int (nI nt)), (1, .int 0), (0, .ref 3)] [.int 0] h9 _
          refine j_W.ifc xq_M xq_80 (t := 91) rfl (fun c => ?_) (fun c => ?_)
          · refine j_W.one xq_M xq_91 (by decide) (pcJ := 92) (stJ := [.int 1]) rfl ?_
            refine j_W.gto xq_M xq_92 (t := 96) rfl ?_
            refine j_W.ret xq_M xq_96 rfl rfl ⟨rfl, K⟩
          · cases c
    · cases c
  | false =>
    rw [hb] at K
    show j_W jP _ 42 4 [(0, .ref 3)] [.int 0] h9 _
    refine j_W.ifc xq_M xq_4 (t := 9) rfl (fun c => ?_) (fun c => ?_)
    · cases c
    · refine j_W.one xq_M xq_7 (by decide) (pcJ := 8) (stJ := [.int 0]) rfl ?_
      refine j_W.ret xq_M xq_8 rfl rfl ⟨rfl, K⟩
set_option maxRecDepth 100000 in
theorem xu_M : j_meth jP 43 = some (yX4_takeStation, cX4_takeStation, 3, (some .int), 1, false, 4) := rfl
set_option maxRecDepth 100000 in
theorem xu_0 : j_code jP 43 0 = some (.aload_n 0) := rfl
set_option maxRecDepth 100000 in
theorem xu_1 : j_code jP 43 1 = some (.invokevirtual 141) := rfl
set_option maxRecDepth 100000 in
theorem xu_4 : j_code jP 43 4 = some (.ifCond .ne 5) := rfl
set_option maxRecDepth 100000 in
theorem xu_7 : j_code jP 43 7 = some (.iconst (-1)) := rfl
set_option maxRecDepth 100000 in
theorem xu_8 : j_code jP 43 8 = some (.ireturn) := rfl
set_option maxRecDepth 100000 in
theorem xu_9 : j_code jP 43 9 = some (.aload_n 0) := rfl
set_option maxRecDepth 100000 in
theorem xu_10 : j_code jP 43 10 = some (.aload_n 0) := rfl
set_option maxRecDepth 100000 in
theorem xu_11 : j_code jP 43 11 = some (.getfield 18) := rfl
set_option maxRecDepth 100000 in
theorem xu_14 : j_code jP 43 14 = some (.getfield 75) := rfl
set_option maxRecDepth 100000 in
theorem xu_17 : j_code jP 43 17 = some (.invokevirtual 144) := rfl
set_option maxRecDepth 100000 in
theorem xu_20 : j_code jP 43 20 = some (.istore_n 2) := rfl
set_option maxRecDepth 100000 in
theorem xu_21 : j_code jP 43 21 = some (.iload_n 2) := rfl
set_option maxRecDepth 100000 in
theorem xu_22 : j_code jP 43 22 = some (.iconst (-1)) := rfl
set_option maxRecDepth 100000 in
theorem xu_23 : j_code jP 43 23 = some (.if_icmp .eq 8) := rfl
set_option maxRecDepth 100000 in
theorem xu_26 : j_code jP 43 26 = some (.iload_n 2) := rfl
set_option maxRecDepth 100000 in
theorem xu_27 : j_code jP 43 27 = some (.iload_n 1) := rfl
set_option maxRecDepth 100000 in
theorem xu_28 : j_code jP 43 28 = some (.if_icmp .ne 11) := rfl
set_option maxRecDepth 100000 in
theorem xu_31 : j_code jP 43 31 = some (.aload_n 0) := rfl
set_option maxRecDepth 100000 in
theorem xu_32 : j_code jP 43 32 = some (.iconst 4) := rfl
set_option maxRecDepth 100000 in
theorem xu_33 : j_code jP 43 33 = some (.invokevirtual 64) := rfl
set_option maxRecDepth 100000 in
theorem xu_36 : j_code jP 43 36 = some (.pop) := rfl
set_option maxRecDepth 100000 in
theorem xu_37 : j_code jP 43 37 = some (.iconst (-1)) := rfl
set_option maxRecDepth 100000 in
theorem xu_38 : j_code jP 43 38 = some (.ireturn) := rfl
set_option maxRecDepth 100000 in
theorem xu_39 : j_code jP 43 39 = some (.iload_n 2) := rfl
set_option maxRecDepth 100000 in
theorem xu_40 : j_code jP 43 40 = some (.ireturn) := rfl
theorem xu_okA {ln kd pl nu fa pa ce : Int32} {wo : Int64} {e ns nt : Nat} {l : List Int32} {sn : List Int64} {p : Nat} {h h0 : J_H} {d : Nat} {u : Int32} (hl : l.length = 700) (he : e ≤ 700) (hp : p ≤ e) (hs : sn.length = 7) (hn : ns ≤ 7) (K : KN h [(1, .inl (8, [.ref 2, .int ln, .int (nI e), .int (nI p), .int kd, .int pl, .long wo, .int nu])), (2, .inr (.inl (1, l))), (3, .inl (4, [.ref 1, .ref 327, .int fa, .int pa])), (327, .inl (2, [.int (nI ns), .ref 328, .ref 329, .ref 330, .ref 331, .int (nI nt), .ref 332, .ref 333, .ref 334, .ref 335, .ref 336, .ref 337, .ref 338, .int ce, .ref 339, .ref 340, .ref 341, .ref 342])), (328, .inr (.inr (.inl sn)))] h0) : j_W jP (d + 1 + 1 + 1) 43 0 (lv_args 0 [.ref 3, .int u]) [] h (fun rv h' => rv = some (.int (bif (nmOk (tkK (cX l) e p) (tkW l e p wo) && !(decide ((sIx sn (tkW l e p wo) ns 0) = -1) || decide ((sIx sn (tkW l e p wo) ns 0) = u))) then (sIx sn (tkW l e p wo) ns 0) else -1)) ∧ KN h' [(1, .inl (8, [.ref 2, .int ln, .int (nI e), .int (nI (tkN (cX l) e p)), .int (tkK (cX l) e p), .int (nI (tkQ (cX l) e p)), .long (tkW l e p wo), .int (tkD l e p nu)])), (2, .inr (.inl (1, l))), (3, .inl (4, [.ref 1, .ref 327, .int (bif (nmOk (tkK (cX l) e p) (tkW l e p wo) && !(decide ((sIx sn (tkW l e p wo) ns 0) = -1) || decide ((sIx sn (tkW l e p wo) ns 0) = u))) then fa else (bif (nmOk (tkK (cX l) e p) (tkW l e p wo)) then 4 else (if (tkK (cX l) e p) = 4 then 1 else 2))), .int (bif (nmOk (tkK (cX l) e p) (tkW l e p wo) && !(decide ((sIx sn (tkW l e p wo) ns 0) = -1) || decide ((sIx sn (tkW l e p wo) ns 0) = u))) then pa else (nI (tkQ (cX l) e p)))])), (327, .inl (2, [.int (nI ns), .ref 328, .ref 329, .ref 330, .ref 331, .int (nI nt), .ref 332, .ref 333, .ref 334, .ref 335, .ref 336, .ref 337, .ref 338, .int ce, .ref 339, .ref 340, .ref 341, .ref 342])), (328, .inr (.inr (.inl sn)))] h0) := by
  show j_W jP (d + 1 + 1 + 1) 43 0 [(0, .ref 3), (1, .int u)] [] h _
  refine j_W.one xu_M xu_0 (by decide) (pcJ := 1) (stJ := [.ref 3]) rfl ?_
  refine j_W.call xu_M xu_1 rfl (md := 3) (mj := 41) rfl (by decide) xn_M (As := [.ref 3]) (rest := []) (jk_spl3 (K.at rfl) rfl rfl rfl (Nat.le_of_ble_eq_true rfl) (Nat.le_of_ble_eq_true rfl)) (xn_ok hl he hp (K.sub ⟨rfl, rfl, rfl, trivial⟩)) ?_
  rintro r h9 ⟨rfl, K9⟩
  have K : KN h9 [(1, .inl (8, [.ref 2, .int ln, .int (nI e), .int (nI (tkN (cX l) e p)), .int (tkK (cX l) e p), .int (nI (tkQ (cX l) e p)), .long (tkW l e p wo), .int (tkD l e p nu)])), (2, .inr (.inl (1, l))), (3, .inl (4, [.ref 1, .ref 327, .int (bif (nmOk (tkK (cX l) e p) (tkW l e p wo)) then fa else (if (tkK (cX l) e p) = 4 then 1 else 2)), .int (bif (nmOk (tkK (cX l) e p) (tkW l e p wo)) then pa else (nI (tkQ (cX l) e p)))])), (327, .inl (2, [.int (nI ns), .ref 328, .ref 329, .ref 330, .ref 331, .int (nI nt), .ref 332, .ref 333, .ref 334, .ref 335, .ref 336, .ref 337, .ref 338, .int ce, .ref 339, .ref 340, .ref 341, .ref 342])), (328, .inr (.inr (.inl sn)))] h0 := K.go K9 rfl rfl rfl
  clear K9
  show j_W jP _ 43 4 [(0, .ref 3), (1, .int u)] [.int (bif (nmOk (tkK (cX l) e p) (tkW l e p wo)) then 1 else 0)] h9 _
  cases hb : nmOk (tkK (cX l) e p) (tkW l e p wo) with
  | true =>
    rw [hb] at K
    show j_W jP _ 43 4 [(0, .ref 3), (1, .int u)] [.int 1] h9 _
    refine j_W.ifc xu_M xu_4 (t := 9) rfl (fun c => ?_) (fun c => ?_)
    · have K : KN h9 [(1, .inl (8, [.ref 2, .int ln, .int (nI e), .int (nI (tkN (cX l) e p)), .int (tkK (cX l) e p), .int (nI (tkQ (cX l) e p)), .long (tkW l e p wo), .int (tkD l e p nu)])), (2, .inr (.inl (1, l))), (3, .inl (4, [.ref 1, .ref 327, .int fa, .int pa])), (327, .inl (2, [.int (nI ns), .ref 328, .ref 329, .ref 330, .ref 331, .int (nI nt), .ref 332, .ref 333, .ref 334, .ref 335, .ref 336, .ref 337, .ref 338, .int ce, .ref 339, .ref 340, .ref 341, .ref 342])), (328, .inr (.inr (.inl sn)))] h0 := K
      clear c
      refine j_W.one xu_M xu_9 (by decide) (pcJ := 10) (stJ := [.ref 3]) rfl ?_
      refine j_W.one xu_M xu_10 (by decide) (pcJ := 11) (stJ := [.ref 3, .ref 3]) rfl ?_
      refine j_W.getK xu_M xu_11 (ci := 4) (j := 0) rfl K rfl rfl ?_
      refine j_W.getK xu_M xu_14 (ci := 8) (j := 6) rfl K rfl rfl ?_
      refine j_W.call xu_M xu_17 rfl (md := 3) (mj := 44) rfl (by decide) xs_M (As := [.ref 3, .long (tkW l e p wo)]) (rest := []) (jk_spl3 (K.at rfl) rfl rfl rfl (Nat.le_of_ble_eq_true rfl) (Nat.le_of_ble_eq_true rfl)) (xs_okA hs hn (K.sub ⟨rfl, rfl, rfl, trivial⟩)) ?_
      rintro r hz ⟨rfl, ez⟩
      rw [ez]
      clear ez
      show j_W jP _ 43 20 [(0, .ref 3), (1, .int u)] [.int (sIx sn (tkW l e p wo) ns 0)] h9 _
      refine j_W.one xu_M xu_20 (by decide) (pcJ := 21) (lv' := [(2, .int (sIx sn (tkW l e p wo) ns 0)), (0, .ref 3), (1, .int u)]) (stJ := []) rfl ?_
      refine j_W.one xu_M xu_21 (by decide) (pcJ := 22) (stJ := [.int (sIx sn (tkW l e p wo) ns 0)]) rfl ?_
      refine j_W.one xu_M xu_22 (by decide) (pcJ := 23) (stJ := [.int (-1), .int (sIx sn (tkW l e p wo) ns 0)]) rfl ?_
      refine j_W.icmp xu_M xu_23 (t := 31) rfl (fun c => ?_) (fun c => ?_)
      · have c9 : decide ((sIx sn (tkW l e p wo) ns 0) = -1) = true := by simpa [j_cond] using c
        clear c
        rw [c9]
        refine j_W.one xu_M xu_31 (by decide) (pcJ := 32) (stJ := [.ref 3]) rfl ?_
        refine j_W.one xu_M xu_32 (by decide) (pcJ := 33) (stJ := [.int 4, .ref 3]) rfl ?_
        refine j_W.call xu_M xu_33 rfl (md := 3) (mj := 46) rfl (by decide) xf_M (As := [.ref 3, .int 4]) (rest := []) (jk_spl3 (K.at rfl) rfl rfl rfl (Nat.le_of_ble_eq_true rfl) (Nat.le_of_ble_eq_true rfl)) (xf_ok (K.sub ⟨rfl, rfl, trivial⟩)) ?_
        rintro r h9 ⟨rfl, K9⟩
        have K : KN h9 [(1, .inl (8, [.ref 2, .int ln, .int (nI e), .int (nI (tkN (cX l) e p)), .int (tkK (cX l) e p), .int (nI (tkQ (cX l) e p)), .long (tkW l e p wo), .int (tkD l e p nu)])), (2, .inr (.inl (1, l))), (3, .inl (4, [.ref 1, .ref 327, .int 4, .int (nI (tkQ (cX l) e p))])), (327, .inl (2, [.int (nI ns), .ref 328, .ref 329, .ref 330, .ref 331, .int (nI nt), .ref 332, .ref 333, .ref 334, .ref 335, .ref 336, .ref 337, .ref 338, .int ce, .ref 339, .ref 340, .ref 341, .ref 342])), (328, .inr (.inr (.inl sn)))] h0 := K.go K9 rfl rfl rfl
        clear K9
        show j_W jP _ 43 36 [(2, .int (sIx sn (tkW l e p wo) ns 0)), (0, .ref 3), (1, .int u)] [.int 0] h9 _
        refine j_W.one xu_M xu_36 (by decide) (pcJ := 37) (stJ := []) rfl ?_
        refine j_W.one xu_M xu_37 (by decide) (pcJ := 38) (stJ := [.int (-1)]) rfl ?_
        refine j_W.ret xu_M xu_38 rfl rfl ⟨rfl, K⟩
      · have c9 : decide ((sIx sn (tkW l e p wo) ns 0) = -1) = false := by simpa [j_cond] using c
        clear c
        rw [c9]
        refine j_W.one xu_M xu_26 (by decide) (pcJ := 27) (stJ := [.int (sIx sn (tkW l e p wo) ns 0)]) rfl ?_
        refine j_W.one xu_M xu_27 (by decide) (pcJ := 28) (stJ := [.int u, .int (sIx sn (tkW l e p wo) ns 0)]) rfl ?_
        refine j_W.icmp xu_M xu_28 (t := 39) rfl (fun c => ?_) (fun c => ?_)
        · have c8 : decide ((sIx sn (tkW l e p wo) ns 0) = u) = false := by simpa [j_cond] using c
          clear c
          rw [c8]
          refine j_W.one xu_M xu_39 (by decide) (pcJ := 40) (stJ := [.int (sIx sn (tkW l e p wo) ns 0)]) rfl ?_
          refine j_W.ret xu_M xu_40 rfl rfl ⟨rfl, K⟩
        · have c8 : decide ((sIx sn (tkW l e p wo) ns 0) = u) = true := by simpa [j_cond] using c
          clear c
          rw [c8]
          refine j_W.one xu_M xu_31 (by decide) (pcJ := 32) (stJ := [.ref 3]) rfl ?_
          refine j_W.one xu_M xu_32 (by decide) (pcJ := 33) (stJ := [.int 4, .ref 3]) rfl ?_
          refine j_W.call xu_M xu_33 rfl (md := 3) (mj := 46) rfl (by decide) xf_M (As := [.ref 3, .int 4]) (rest := []) (jk_spl3 (K.at rfl) rfl rfl rfl (Nat.le_of_ble_eq_true rfl) (Nat.le_of_ble_eq_true rfl)) (xf_ok (K.sub ⟨rfl, rfl, trivial⟩)) ?_
          rintro r h9 ⟨rfl, K9⟩
          have K : KN h9 [(1, .inl (8, [.ref 2, .int ln, .int (nI e), .int (nI (tkN (cX l) e p)), .int (tkK (cX l) e p), .int (nI (tkQ (cX l) e p)), .long (tkW l e p wo), .int (tkD l e p nu)])), (2, .inr (.inl (1, l))), (3, .inl (4, [.ref 1, .ref 327, .int 4, .int (nI (tkQ (cX l) e p))])), (327, .inl (2, [.int (nI ns), .ref 328, .ref 329, .ref 330, .ref 331, .int (nI nt), .ref 332, .ref 333, .ref 334, .ref 335, .ref 336, .ref 337, .ref 338, .int ce, .ref 339, .ref 340, .ref 341, .ref 342])), (328, .inr (.inr (.inl sn)))] h0 := K.go K9 rfl rfl rfl
          clear K9
          show j_W jP _ 43 36 [(2, .int (sIx sn (tkW l e p wo) ns 0)), (0, .ref 3), (1, .int u)] [.int 0] h9 _
          refine j_W.one xu_M xu_36 (by decide) (pcJ := 37) (stJ := []) rfl ?_
          refine j_W.one xu_M xu_37 (by decide) (pcJ := 38) (stJ := [.int (-1)]) rfl ?_
          refine j_W.ret xu_M xu_38 rfl rfl ⟨rfl, K⟩
    · cases c
  | false =>
    rw [hb] at K
    show j_W jP _ 43 4 [(0, .ref 3), (1, .int u)] [.int 0] h9 _
    refine j_W.ifc xu_M xu_4 (t := 9) rfl (fun c => ?_) (fun c => ?_)
    · cases c
    · refine j_W.one xu_M xu_7 (by decide) (pcJ := 8) (stJ := [.int (-1)]) rfl ?_
      refine j_W.ret xu_M xu_8 rfl rfl ⟨rfl, K⟩
theorem xu_okB {ln kd pl nu fa pa ce : Int32} {wo : Int64} {e ns nt : Nat} {l : List Int32} {sn : List Int64} {p : Nat} {h h0 : J_H} {d : Nat} {u : Int32} (hl : l.length = 700) (he : e ≤ 700) (hp : p ≤ e) (hs : sn.length = 7) (hn : ns ≤ 7) (K : KN h [(1, .inl (8, [.ref 2, .int ln, .int (nI e), .int (nI p), .int kd, .int pl, .long wo, .int nu])), (2, .inr (.inl (1, l))), (3, .inl (4, [.ref 1, .ref 343, .int fa, .int pa])), (343, .inl (2, [.int (nI ns), .ref 344, .ref 345, .ref 346, .ref 347, .int (nI nt), .ref 348, .ref 349, .ref 350, .ref 351, .ref 352, .ref 353, .ref 354, .int ce, .ref 355, .ref 356, .ref 357, .ref 358])), (344, .inr (.inr (.inl sn)))] h0) : j_W jP (d + 1 + 1 + 1) 43 0 (lv_args 0 [.ref 3, .int u]) [] h (fun rv h' => rv = some (.int (bif (nmOk (tkK (cX l) e p) (tkW l e p wo) && !(decide ((sIx sn (tkW l e p wo) ns 0) = -1) || decide ((sIx sn (tkW l e p wo) ns 0) = u))) then (sIx sn (tkW l e p wo) ns 0) else -1)) ∧ KN h' [(1, .inl (8, [.ref 2, .int ln, .int (nI e), .int (nI (tkN (cX l) e p)), .int (tkK (cX l) e p), .int (nI (tkQ (cX l) e p)), .long (tkW l e p wo), .int (tkD l e p nu)])), (2, .inr (.inl (1, l))), (3, .inl (4, [.ref 1, .ref 343, .int (bif (nmOk (tkK (cX l) e p) (tkW l e p wo) && !(decide ((sIx sn (tkW l e p wo) ns 0) = -1) || decide ((sIx sn (tkW l e p wo) ns 0) = u))) then fa else (bif (nmOk (tkK (cX l) e p) (tkW l e p wo)) then 4 else (if (tkK (cX l) e p) = 4 then 1 else 2))), .int (bif (nmOk (tkK (cX l) e p) (tkW l e p wo) && !(decide ((sIx sn (tkW l e p wo) ns 0) = -1) || decide ((sIx sn (tkW l e p wo) ns 0) = u))) then pa else (nI (tkQ (cX l) e p)))])), (343, .inl (2, [.int (nI ns), .ref 344, .ref 345, .ref 346, .ref 347, .int (nI nt), .ref 348, .ref 349, .ref 350, .ref 351, .ref 352, .ref 353, .ref 354, .int ce, .ref 355, .ref 356, .ref 357, .ref 358])), (344, .inr (.inr (.inl sn)))] h0) := by
  show j_W jP (d + 1 + 1 + 1) 43 0 [(0, .ref 3), (1, .int u)] [] h _
  refine j_W.one xu_M xu_0 (by decide) (pcJ := 1) (stJ := [.ref 3]) rfl ?_
  refine j_W.call xu_M xu_1 rfl (md := 3) (mj := 41) rfl (by decide) xn_M (As := [.ref 3]) (rest := []) (jk_spl3 (K.at rfl) rfl rfl rfl (Nat.le_of_ble_eq_true rfl) (Nat.le_of_ble_eq_true rfl)) (xn_ok hl he hp (K.sub ⟨rfl, rfl, rfl, trivial⟩)) ?_
  rintro r h9 ⟨rfl, K9⟩
  have K : KN h9 [(1, .inl (8, [.ref 2, .int ln, .int (nI e), .int (nI (tkN (cX l) e p)), .int (tkK (cX l) e p), .int (nI (tkQ (cX l) e p)), .long (tkW l e p wo), .int (tkD l e p nu)])), (2, .inr (.inl (1, l))), (3, .inl (4, [.ref 1, .ref 343, .int (bif (nmOk (tkK (cX l) e p) (tkW l e p wo)) then fa else (if (tkK (cX l) e p) = 4 then 1 else 2)), .int (bif (nmOk (tkK (cX l) e p) (tkW l e p wo)) then pa else (nI (tkQ (cX l) e p)))])), (343, .inl (2, [.int (nI ns), .ref 344, .ref 345, .ref 346, .ref 347, .int (nI nt), .ref 348, .ref 349, .ref 350, .ref 351, .ref 352, .ref 353, .ref 354, .int ce, .ref 355, .ref 356, .ref 357, .ref 358])), (344, .inr (.inr (.inl sn)))] h0 := K.go K9 rfl rfl rfl
  clear K9
  show j_W jP _ 43 4 [(0, .ref 3), (1, .int u)] [.int (bif (nmOk (tkK (cX l) e p) (tkW l e p wo)) then 1 else 0)] h9 _
  cases hb : nmOk (tkK (cX l) e p) (tkW l e p wo) with
  | true =>
    rw [hb] at K
    show j_W jP _ 43 4 [(0, .ref 3), (1, .int u)] [.int 1] h9 _
    refine j_W.ifc xu_M xu_4 (t := 9) rfl (fun c => ?_) (fun c => ?_)
    · have K : KN h9 [(1, .inl (8, [.ref 2, .int ln, .int (nI e), .int (nI (tkN (cX l) e p)), .int (tkK (cX l) e p), .int (nI (tkQ (cX l) e p)), .long (tkW l e p wo), .int (tkD l e p nu)])), (2, .inr (.inl (1, l))), (3, .inl (4, [.ref 1, .ref 343, .int fa, .int pa])), (343, .inl (2, [.int (nI ns), .ref 344, .ref 345, .ref 346, .ref 347, .int (nI nt), .ref 348, .ref 349, .ref 350, .ref 351, .ref 352, .ref 353, .ref 354, .int ce, .ref 355, .ref 356, .ref 357, .ref 358])), (344, .inr (.inr (.inl sn)))] h0 := K
      clear c
      refine j_W.one xu_M xu_9 (by decide) (pcJ := 10) (stJ := [.ref 3]) rfl ?_
      refine j_W.one xu_M xu_10 (by decide) (pcJ := 11) (stJ := [.ref 3, .ref 3]) rfl ?_
      refine j_W.getK xu_M xu_11 (ci := 4) (j := 0) rfl K rfl rfl ?_
      refine j_W.getK xu_M xu_14 (ci := 8) (j := 6) rfl K rfl rfl ?_
      refine j_W.call xu_M xu_17 rfl (md := 3) (mj := 44) rfl (by decide) xs_M (As := [.ref 3, .long (tkW l e p wo)]) (rest := []) (jk_spl3 (K.at rfl) rfl rfl rfl (Nat.le_of_ble_eq_true rfl) (Nat.le_of_ble_eq_true rfl)) (xs_okB hs hn (K.sub ⟨rfl, rfl, rfl, trivial⟩)) ?_
      rintro r hz ⟨rfl, ez⟩
      rw [ez]
      clear ez
      show j_W jP _ 43 20 [(0, .ref 3), (1, .int u)] [.int (sIx sn (tkW l e p wo) ns 0)] h9 _
      refine j_W.one xu_M xu_20 (by decide) (pcJ := 21) (lv' := [(2, .int (sIx sn (tkW l e p wo) ns 0)), (0, .ref 3), (1, .int u)]) (stJ := []) rfl ?_
      refine j_W.one xu_M xu_21 (by decide) (pcJ := 22) (stJ := [.int (sIx sn (tkW l e p wo) ns 0)]) rfl ?_
      refine j_W.one xu_M xu_22 (by decide) (pcJ := 23) (stJ := [.int (-1), .int (sIx sn (tkW l e p wo) ns 0)]) rfl ?_
      refine j_W.icmp xu_M xu_23 (t := 31) rfl (fun c => ?_) (fun c => ?_)
      · have c9 : decide ((sIx sn (tkW l e p wo) ns 0) = -1) = true := by simpa [j_cond] using c
        clear c
        rw [c9]
        refine j_W.one xu_M xu_31 (by decide) (pcJ := 32) (stJ := [.ref 3]) rfl ?_
        refine j_W.one xu_M xu_32 (by decide) (pcJ := 33) (stJ := [.int 4, .ref 3]) rfl ?_
        refine j_W.call xu_M xu_33 rfl (md := 3) (mj := 46) rfl (by decide) xf_M (As := [.ref 3, .int 4]) (rest := []) (jk_spl3 (K.at rfl) rfl rfl rfl (Nat.le_of_ble_eq_true rfl) (Nat.le_of_ble_eq_true rfl)) (xf_ok (K.sub ⟨rfl, rfl, trivial⟩)) ?_
        rintro r h9 ⟨rfl, K9⟩
        have K : KN h9 [(1, .inl (8, [.ref 2, .int ln, .int (nI e), .int (nI (tkN (cX l) e p)), .int (tkK (cX l) e p), .int (nI (tkQ (cX l) e p)), .long (tkW l e p wo), .int (tkD l e p nu)])), (2, .inr (.inl (1, l))), (3, .inl (4, [.ref 1, .ref 343, .int 4, .int (nI (tkQ (cX l) e p))])), (343, .inl (2, [.int (nI ns), .ref 344, .ref 345, .ref 346, .ref 347, .int (nI nt), .ref 348, .ref 349, .ref 350, .ref 351, .ref 352, .ref 353, .ref 354, .int ce, .ref 355, .ref 356, .ref 357, .ref 358])), (344, .inr (.inr (.inl sn)))] h0 := K.go K9 rfl rfl rfl
        clear K9
        show j_W jP _ 43 36 [(2, .int (sIx sn (tkW l e p wo) ns 0)), (0, .ref 3), (1, .int u)] [.int 0] h9 _
        refine j_W.one xu_M xu_36 (by decide) (pcJ := 37) (stJ := []) rfl ?_
        refine j_W.one xu_M xu_37 (by decide) (pcJ := 38) (stJ := [.int (-1)]) rfl ?_
        refine j_W.ret xu_M xu_38 rfl rfl ⟨rfl, K⟩
      · have c9 : decide ((sIx sn (tkW l e p wo) ns 0) = -1) = false := by simpa [j_cond] using c
        clear c
        rw [c9]
        refine j_W.one xu_M xu_26 (by decide) (pcJ := 27) (stJ := [.int (sIx sn (tkW l e p wo) ns 0)]) rfl ?_
        refine j_W.one xu_M xu_27 (by decide) (pcJ := 28) (stJ := [.int u, .int (sIx sn (tkW l e p wo) ns 0)]) rfl ?_
        refine j_W.icmp xu_M xu_28 (t := 39) rfl (fun c => ?_) (fun c => ?_)
        · have c8 : decide ((sIx sn (tkW l e p wo) ns 0) = u) = false := by simpa [j_cond] using c
          clear c
          rw [c8]
          refine j_W.one xu_M xu_39 (by decide) (pcJ := 40) (stJ := [.int (sIx sn (tkW l e p wo) ns 0)]) rfl ?_
          refine j_W.ret xu_M xu_40 rfl rfl ⟨rfl, K⟩
        · have c8 : decide ((sIx sn (tkW l e p wo) ns 0) = u) = true := by simpa [j_cond] using c
          clear c
          rw [c8]
          refine j_W.one xu_M xu_31 (by decide) (pcJ := 32) (stJ := [.ref 3]) rfl ?_
          refine j_W.one xu_M xu_32 (by decide) (pcJ := 33) (stJ := [.int 4, .ref 3]) rfl ?_
          refine j_W.call xu_M xu_33 rfl (md := 3) (mj := 46) rfl (by decide) xf_M (As := [.ref 3, .int 4]) (rest := []) (jk_spl3 (K.at rfl) rfl rfl rfl (Nat.le_of_ble_eq_true rfl) (Nat.le_of_ble_eq_true rfl)) (xf_ok (K.sub ⟨rfl, rfl, trivial⟩)) ?_
          rintro r h9 ⟨rfl, K9⟩
          have K : KN h9 [(1, .inl (8, [.ref 2, .int ln, .int (nI e), .int (nI (tkN (cX l) e p)), .int (tkK (cX l) e p), .int (nI (tkQ (cX l) e p)), .long (tkW l e p wo), .int (tkD l e p nu)])), (2, .inr (.inl (1, l))), (3, .inl (4, [.ref 1, .ref 343, .int 4, .int (nI (tkQ (cX l) e p))])), (343, .inl (2, [.int (nI ns), .ref 344, .ref 345, .ref 346, .ref 347, .int (nI nt), .ref 348, .ref 349, .ref 350, .ref 351, .ref 352, .ref 353, .ref 354, .int ce, .ref 355, .ref 356, .ref 357, .ref 358])), (344, .inr (.inr (.inl sn)))] h0 := K.go K9 rfl rfl rfl
          clear K9
          show j_W jP _ 43 36 [(2, .int (sIx sn (tkW l e p wo) ns 0)), (0, .ref 3), (1, .int u)] [.int 0] h9 _
          refine j_W.one xu_M xu_36 (by decide) (pcJ := 37) (stJ := []) rfl ?_
          refine j_W.one xu_M xu_37 (by decide) (pcJ := 38) (stJ := [.int (-1)]) rfl ?_
          refine j_W.ret xu_M xu_38 rfl rfl ⟨rfl, K⟩
    · cases c
  | false =>
    rw [hb] at K
    show j_W jP _ 43 4 [(0, .ref 3), (1, .int u)] [.int 0] h9 _
    refine j_W.ifc xu_M xu_4 (t := 9) rfl (fun c => ?_) (fun c => ?_)
    · cases c
    · refine j_W.one xu_M xu_7 (by decide) (pcJ := 8) (stJ := [.int (-1)]) rfl ?_
      refine j_W.ret xu_M xu_8 rfl rfl ⟨rfl, K⟩

/-! the class's print over the layouts, its text told: written by wip/py/gen_tx3.py -/
theorem nI_s (j : Nat) : nI j + 1 = nI (j + 1) := (Int32.ofNat_add j 1).symm
theorem tlA_s {F : Int32 → List Int32 → List Int32} {f : Nat} {i : Int32} {T : List Int32} : tlA F (f + 1) i T = tlA F f (i + 1) (F i T) := rfl
def txN (ns : Int32) (sn : List Int64) (x : Int32) (T : List Int32) : List Int32 := if x < 0 then T else if x < ns then twA (gL sn x) 8 (tpA 32 T) else T
def txK (len : List Int32) (x k : Int32) (T : List Int32) : List Int32 := tnA (gA len (x * 3 + k)) T
def txS (sn : List Int64) (run tra len : List Int32) (x : Int32) (T : List Int32) : List Int32 := tpA 59 (tlA (txK len x) (lpN (gA tra x) 0) 0 (tnA (gA run x) (twA (gL sn x) 8 (tpA 32 (twA (32497584235442030 : Int64) 8 T)))))
def txR (ns : Int32) (sn tn : List Int64) (siz frm tto slo wei : List Int32) (x s : Int32) (T : List Int32) : List Int32 := tpA 59 (tnA (gA wei x) (twA (131277443786868 : Int64) 8 (tpA 32 (tnA (gA slo x) (twA (1936486263 : Int64) 8 (tpA 32 (tnA s (txN ns sn (gA tto x) (txN ns sn (gA frm x) (tnA (gA siz x) (twA (gL tn x) 8 (tpA 32 (twA (500135192942 : Int64) 8 T)))))))))))))
def txT (ns : Int32) (sn tn : List Int64) (siz frm tto slo wei sta : List Int32) (x : Int32) (T : List Int32) : List Int32 := txR ns sn tn siz frm tto slo wei x (gA sta x) T
def txW (S n : Nat) (sn tn : List Int64) (run tra len siz frm tto slo wei sta : List Int32) : List Int32 := tlA (txT (nI S) sn tn siz frm tto slo wei sta) n (nI 0) (tlA (txS sn run tra len) S (nI 0) [])
theorem txN_len {ns : Int32} {sn : List Int64} {x : Int32} {T : List Int32} : (txN ns sn x T).length ≤ T.length + 9 := by
  unfold txN
  split
  · omega
  · split
    · exact Nat.le_trans twA_len (by rw [tpA_len]; omega)
    · omega
theorem txK_len {len : List Int32} {x k : Int32} {T : List Int32} : (txK len x k T).length ≤ T.length + 4 := tnA_len
theorem txS_len {sn : List Int64} {run tra len : List Int32} {x : Int32} {T : List Int32} : (txS sn run tra len x T).length ≤ T.length + 22 + 4 * lpN (gA tra x) 0 := by
  unfold txS
  have h1 : (twA (32497584235442030 : Int64) 8 T).length ≤ T.length + 8 := twA_len
  generalize twA (32497584235442030 : Int64) 8 T = T1 at h1 ⊢
  have h2 : (twA (gL sn x) 8 (tpA 32 T1)).length ≤ (tpA 32 T1).length + 8 := twA_len
  rw [tpA_len] at h2
  generalize twA (gL sn x) 8 (tpA 32 T1) = T2 at h2 ⊢
  have h3 : (tnA (gA run x) T2).length ≤ T2.length + 4 := tnA_len
  generalize tnA (gA run x) T2 = T3 at h3 ⊢
  have h4 := tlA_len (F := txK len x) (fun i T => txK_len) (lpN (gA tra x) 0) 0 T3
  rw [tpA_len]
  omega
theorem txR_len {ns : Int32} {sn tn : List Int64} {siz frm tto slo wei : List Int32} {x s : Int32} {T : List Int32} : (txR ns sn tn siz frm tto slo wei x s T).length ≤ T.length + 70 := by
  unfold txR
  have h1 : (twA (500135192942 : Int64) 8 T).length ≤ T.length + 8 := twA_len
  generalize twA (500135192942 : Int64) 8 T = T1 at h1 ⊢
  have h2 : (twA (gL tn x) 8 (tpA 32 T1)).length ≤ (tpA 32 T1).length + 8 := twA_len
  rw [tpA_len] at h2
  generalize twA (gL tn x) 8 (tpA 32 T1) = T2 at h2 ⊢
  have h3 : (tnA (gA siz x) T2).length ≤ T2.length + 4 := tnA_len
  generalize tnA (gA siz x) T2 = T3 at h3 ⊢
  have h4 : (txN ns sn (gA frm x) T3).length ≤ T3.length + 9 := txN_len
  generalize txN ns sn (gA frm x) T3 = T4 at h4 ⊢
  have h5 : (txN ns sn (gA tto x) T4).length ≤ T4.length + 9 := txN_len
  generalize txN ns sn (gA tto x) T4 = T5 at h5 ⊢
  have h6 : (tnA s T5).length ≤ T5.length + 4 := tnA_len
  generalize tnA s T5 = T6 at h6 ⊢
  have h7 : (twA (1936486263 : Int64) 8 (tpA 32 T6)).length ≤ (tpA 32 T6).length + 8 := twA_len
  rw [tpA_len] at h7
  generalize twA (1936486263 : Int64) 8 (tpA 32 T6) = T7 at h7 ⊢
  have h8 : (tnA (gA slo x) T7).length ≤ T7.length + 4 := tnA_len
  generalize tnA (gA slo x) T7 = T8 at h8 ⊢
  have h9 : (twA (131277443786868 : Int64) 8 (tpA 32 T8)).length ≤ (tpA 32 T8).length + 8 := twA_len
  rw [tpA_len] at h9
  generalize twA (131277443786868 : Int64) 8 (tpA 32 T8) = T9 at h9 ⊢
  have hA : (tnA (gA wei x) T9).length ≤ T9.length + 4 := tnA_len
  generalize tnA (gA wei x) T9 = TA at hA ⊢
  rw [tpA_len]
  omega
set_option maxRecDepth 100000 in
theorem xyqA_M : j_meth jP 54 = some (yX6_putStationName, cX6_putStationName, 3, none, 2, false, 6) := rfl
set_option maxRecDepth 100000 in
theorem xyqA_0 : j_code jP 54 0 = some (.iload_n 2) := rfl
set_option maxRecDepth 100000 in
theorem xyqA_1 : j_code jP 54 1 = some (.ifCond .lt 27) := rfl
set_option maxRecDepth 100000 in
theorem xyqA_4 : j_code jP 54 4 = some (.iload_n 2) := rfl
set_option maxRecDepth 100000 in
theorem xyqA_5 : j_code jP 54 5 = some (.aload_n 1) := rfl
set_option maxRecDepth 100000 in
theorem xyqA_6 : j_code jP 54 6 = some (.getfield 19) := rfl
set_option maxRecDepth 100000 in
theorem xyqA_9 : j_code jP 54 9 = some (.if_icmp .ge 19) := rfl
set_option maxRecDepth 100000 in
theorem xyqA_12 : j_code jP 54 12 = some (.aload_n 0) := rfl
set_option maxRecDepth 100000 in
theorem xyqA_13 : j_code jP 54 13 = some (.bipush 32) := rfl
set_option maxRecDepth 100000 in
theorem xyqA_15 : j_code jP 54 15 = some (.invokevirtual 49) := rfl
set_option maxRecDepth 100000 in
theorem xyqA_18 : j_code jP 54 18 = some (.aload_n 0) := rfl
set_option maxRecDepth 100000 in
theorem xyqA_19 : j_code jP 54 19 = some (.aload_n 1) := rfl
set_option maxRecDepth 100000 in
theorem xyqA_20 : j_code jP 54 20 = some (.getfield 53) := rfl
set_option maxRecDepth 100000 in
theorem xyqA_23 : j_code jP 54 23 = some (.iload_n 2) := rfl
set_option maxRecDepth 100000 in
theorem xyqA_24 : j_code jP 54 24 = some (.laload) := rfl
set_option maxRecDepth 100000 in
theorem xyqA_25 : j_code jP 54 25 = some (.invokevirtual 45) := rfl
set_option maxRecDepth 100000 in
theorem xyqA_28 : j_code jP 54 28 = some (.return_) := rfl
theorem xyqA_ok {d : Nat} {h h0 : J_H} {T b : List Int32} {sn : List Int64} {ns nt cel x2 : Int32} (H : tT 700 T b) (hl : T.length + 9 ≤ 700) (K : KN h [(325, .inl (6, [.ref 326, .int (nI T.length)])), (326, .inr (.inl (1, b))), (327, .inl (2, [.int ns, .ref 328, .ref 329, .ref 330, .ref 331, .int nt, .ref 332, .ref 333, .ref 334, .ref 335, .ref 336, .ref 337, .ref 338, .int cel, .ref 339, .ref 340, .ref 341, .ref 342])), (328, .inr (.inr (.inl sn)))] h0) : j_V jP d 54 0 (lv_args 0 [.ref 325, .ref 327, .int x2]) [] h (fun rv h' => rv = none ∧ ∃ b', tT 700 (txN ns sn x2 T) b' ∧ KN h' [(325, .inl (6, [.ref 326, .int (nI (txN ns sn x2 T).length)])), (326, .inr (.inl (1, b'))), (327, .inl (2, [.int ns, .ref 328, .ref 329, .ref 330, .ref 331, .int nt, .ref 332, .ref 333, .ref 334, .ref 335, .ref 336, .ref 337, .ref 338, .int cel, .ref 339, .ref 340, .ref 341, .ref 342])), (328, .inr (.inr (.inl sn)))] h0) := by
  show j_V jP d 54 0 [(0, .ref 325), (1, .ref 327), (2, .int x2)] [] h _
  obtain ⟨lv, elv, L⟩ : ∃ lv, lv = [(0, .ref 325), (1, .ref 327), (2, .int x2)] ∧ LK lv [(0, .ref 325), (1, .ref 327), (2, .int x2)] := ⟨_, rfl, LK.rf⟩
  rw [← elv]
  clear elv
  refine j_V.ldL xyqA_M xyqA_0 rfl (i := 2) (kd := 0) (v := .int x2) (pcJ := 1) rfl L rfl rfl rfl ?_
  refine j_V.ifc xyqA_M xyqA_1 (t := 28) rfl (fun c1_0 => ?_) (fun c1_0 => ?_)
  · replace c1_0 : x2 < 0 := jd_lt c1_0
    rw [show txN ns sn x2 T = T from by unfold txN; rw [if_pos c1_0]]
    exact j_V.ret xyqA_M xyqA_28 rfl rfl ⟨rfl, _, H, K⟩
  · replace c1_0 : ¬ (x2 < 0) := jd_ltn c1_0
    refine j_V.ldL xyqA_M xyqA_4 rfl (i := 2) (kd := 0) (v := .int x2) (pcJ := 5) rfl L rfl rfl rfl ?_
    refine j_V.ldL xyqA_M xyqA_5 rfl (i := 1) (kd := 2) (v := .ref 327) (pcJ := 6) rfl L rfl rfl rfl ?_
    refine j_V.getK xyqA_M xyqA_6 (ci := 2) (j := 0) rfl K rfl rfl ?_
    refine j_V.icmp xyqA_M xyqA_9 (t := 28) rfl (fun c9_1 => ?_) (fun c9_1 => ?_)
    · replace c9_1 : ¬ (x2 < ns) := jd_ge c9_1
      rw [show txN ns sn x2 T = T from by unfold txN; rw [if_neg c1_0, if_neg c9_1]]
      exact j_V.ret xyqA_M xyqA_28 rfl rfl ⟨rfl, _, H, K⟩
    · replace c9_1 : x2 < ns := jd_gen c9_1
      refine j_V.ldL xyqA_M xyqA_12 rfl (i := 0) (kd := 2) (v := .ref 325) (pcJ := 13) rfl L rfl rfl rfl ?_
      refine j_V.one xyqA_M xyqA_13 (by decide) (pcJ := 15) (stJ := [.int 32, .ref 325]) rfl ?_
      refine j_V.cl xyqA_M xyqA_15 rfl (md := 3) (mj := 57) rfl (by decide) xyp_M (As := [.ref 325, .int 32]) (rest := []) (jk_spl3 (K.at rfl) rfl rfl rfl (Nat.le_of_ble_eq_true rfl) (Nat.le_of_ble_eq_true rfl)) (fun d => xyp_ok H (by omega) (K.fi [325, 326] rfl rfl)) ?_
      rintro r h9 ⟨rfl, b1, H, K9⟩
      have K : KN h9 [(325, .inl (6, [.ref 326, .int (nI (tpA 32 T).length)])), (326, .inr (.inl (1, b1))), (327, .inl (2, [.int ns, .ref 328, .ref 329, .ref 330, .ref 331, .int nt, .ref 332, .ref 333, .ref 334, .ref 335, .ref 336, .ref 337, .ref 338, .int cel, .ref 339, .ref 340, .ref 341, .ref 342])), (328, .inr (.inr (.inl sn)))] h0 := K.mg K9 rfl rfl
      clear K9
      show j_V jP _ 54 18 lv [] h9 _
      have q1 : (tpA 32 T).length ≤ T.length + 1 := Nat.le_trans (Nat.le_of_eq tpA_len) (by omega)
      refine j_V.ldL xyqA_M xyqA_18 rfl (i := 0) (kd := 2) (v := .ref 325) (pcJ := 19) rfl L rfl rfl rfl ?_
      refine j_V.ldL xyqA_M xyqA_19 rfl (i := 1) (kd := 2) (v := .ref 327) (pcJ := 20) rfl L rfl rfl rfl ?_
      refine j_V.getK xyqA_M xyqA_20 (ci := 2) (j := 1) rfl K rfl rfl ?_
      refine j_V.ldL xyqA_M xyqA_23 rfl (i := 2) (kd := 0) (v := .int x2) (pcJ := 24) rfl L rfl rfl rfl ?_
      refine j_V.laA xyqA_M xyqA_24 K rfl ?_
      refine j_V.cl xyqA_M xyqA_25 rfl (md := 3) (mj := 55) rfl (by decide) xyw_M (As := [.ref 325, .long (gL sn x2)]) (rest := []) (jk_spl3 (K.at rfl) rfl rfl rfl (Nat.le_of_ble_eq_true rfl) (Nat.le_of_ble_eq_true rfl)) (fun d => xyw_ok H (by omega) (K.fi [325, 326] rfl rfl)) ?_
      rintro r h9 ⟨rfl, b2, H, K9⟩
      have K : KN h9 [(325, .inl (6, [.ref 326, .int (nI (twA (gL sn x2) 8 (tpA 32 T)).length)])), (326, .inr (.inl (1, b2))), (327, .inl (2, [.int ns, .ref 328, .ref 329, .ref 330, .ref 331, .int nt, .ref 332, .ref 333, .ref 334, .ref 335, .ref 336, .ref 337, .ref 338, .int cel, .ref 339, .ref 340, .ref 341, .ref 342])), (328, .inr (.inr (.inl sn)))] h0 := K.mg K9 rfl rfl
      clear K9
      show j_V jP _ 54 28 lv [] h9 _
      have q2 : (twA (gL sn x2) 8 (tpA 32 T)).length ≤ T.length + 9 := Nat.le_trans (twA_len) (by omega)
      rw [show txN ns sn x2 T = (twA (gL sn x2) 8 (tpA 32 T)) from by unfold txN; rw [if_neg c1_0, if_pos c9_1]]
      exact j_V.ret xyqA_M xyqA_28 rfl rfl ⟨rfl, _, H, K⟩
set_option maxRecDepth 100000 in
theorem xysA_M : j_meth jP 52 = some (yX6_writeStation, cX6_writeStation, 4, none, 2, false, 6) := rfl
set_option maxRecDepth 100000 in
theorem xysA_0 : j_code jP 52 0 = some (.aload_n 0) := rfl
set_option maxRecDepth 100000 in
theorem xysA_1 : j_code jP 52 1 = some (.ldc2_w 43) := rfl
set_option maxRecDepth 100000 in
theorem xysA_4 : j_code jP 52 4 = some (.invokevirtual 45) := rfl
set_option maxRecDepth 100000 in
theorem xysA_7 : j_code jP 52 7 = some (.aload_n 0) := rfl
set_option maxRecDepth 100000 in
theorem xysA_8 : j_code jP 52 8 = some (.bipush 32) := rfl
set_option maxRecDepth 100000 in
theorem xysA_10 : j_code jP 52 10 = some (.invokevirtual 49) := rfl
set_option maxRecDepth 100000 in
theorem xysA_13 : j_code jP 52 13 = some (.aload_n 0) := rfl
set_option maxRecDepth 100000 in
theorem xysA_14 : j_code jP 52 14 = some (.aload_n 1) := rfl
set_option maxRecDepth 100000 in
theorem xysA_15 : j_code jP 52 15 = some (.getfield 53) := rfl
set_option maxRecDepth 100000 in
theorem xysA_18 : j_code jP 52 18 = some (.iload_n 2) := rfl
set_option maxRecDepth 100000 in
theorem xysA_19 : j_code jP 52 19 = some (.laload) := rfl
set_option maxRecDepth 100000 in
theorem xysA_20 : j_code jP 52 20 = some (.invokevirtual 45) := rfl
set_option maxRecDepth 100000 in
theorem xysA_23 : j_code jP 52 23 = some (.aload_n 0) := rfl
set_option maxRecDepth 100000 in
theorem xysA_24 : j_code jP 52 24 = some (.aload_n 1) := rfl
set_option maxRecDepth 100000 in
theorem xysA_25 : j_code jP 52 25 = some (.getfield 57) := rfl
set_option maxRecDepth 100000 in
theorem xysA_28 : j_code jP 52 28 = some (.iload_n 2) := rfl
set_option maxRecDepth 100000 in
theorem xysA_29 : j_code jP 52 29 = some (.iaload) := rfl
set_option maxRecDepth 100000 in
theorem xysA_30 : j_code jP 52 30 = some (.invokevirtual 60) := rfl
set_option maxRecDepth 100000 in
theorem xysA_33 : j_code jP 52 33 = some (.iconst 0) := rfl
set_option maxRecDepth 100000 in
theorem xysA_34 : j_code jP 52 34 = some (.istore_n 3) := rfl
set_option maxRecDepth 100000 in
theorem xysA_35 : j_code jP 52 35 = some (.iload_n 3) := rfl
set_option maxRecDepth 100000 in
theorem xysA_36 : j_code jP 52 36 = some (.aload_n 1) := rfl
set_option maxRecDepth 100000 in
theorem xysA_37 : j_code jP 52 37 = some (.getfield 63) := rfl
set_option maxRecDepth 100000 in
theorem xysA_40 : j_code jP 52 40 = some (.iload_n 2) := rfl
set_option maxRecDepth 100000 in
theorem xysA_41 : j_code jP 52 41 = some (.iaload) := rfl
set_option maxRecDepth 100000 in
theorem xysA_42 : j_code jP 52 42 = some (.if_icmp .ge 23) := rfl
set_option maxRecDepth 100000 in
theorem xysA_45 : j_code jP 52 45 = some (.aload_n 0) := rfl
set_option maxRecDepth 100000 in
theorem xysA_46 : j_code jP 52 46 = some (.aload_n 1) := rfl
set_option maxRecDepth 100000 in
theorem xysA_47 : j_code jP 52 47 = some (.getfield 66) := rfl
set_option maxRecDepth 100000 in
theorem xysA_50 : j_code jP 52 50 = some (.iload_n 2) := rfl
set_option maxRecDepth 100000 in
theorem xysA_51 : j_code jP 52 51 = some (.iconst 3) := rfl
set_option maxRecDepth 100000 in
theorem xysA_52 : j_code jP 52 52 = some (.imul) := rfl
set_option maxRecDepth 100000 in
theorem xysA_53 : j_code jP 52 53 = some (.iload_n 3) := rfl
set_option maxRecDepth 100000 in
theorem xysA_54 : j_code jP 52 54 = some (.iadd) := rfl
set_option maxRecDepth 100000 in
theorem xysA_55 : j_code jP 52 55 = some (.iaload) := rfl
set_option maxRecDepth 100000 in
theorem xysA_56 : j_code jP 52 56 = some (.invokevirtual 60) := rfl
set_option maxRecDepth 100000 in
theorem xysA_59 : j_code jP 52 59 = some (.iinc 3 1) := rfl
set_option maxRecDepth 100000 in
theorem xysA_62 : j_code jP 52 62 = some (.goto (-27)) := rfl
set_option maxRecDepth 100000 in
theorem xysA_65 : j_code jP 52 65 = some (.aload_n 0) := rfl
set_option maxRecDepth 100000 in
theorem xysA_66 : j_code jP 52 66 = some (.bipush 59) := rfl
set_option maxRecDepth 100000 in
theorem xysA_68 : j_code jP 52 68 = some (.invokevirtual 49) := rfl
set_option maxRecDepth 100000 in
theorem xysA_71 : j_code jP 52 71 = some (.return_) := rfl
theorem xysA_k {d : Nat} {sn : List Int64} {run tra len : List Int32} {ns nt cel x2 : Int32} : ∀ (f : Nat) (v3 : Int32) (T b : List Int32) (lv : J_L) (h h0 : J_H), lpN (gA tra x2) v3 = f → tT 700 T b → T.length + 4 * f + 1 ≤ 700 → LK lv [(0, .ref 325), (1, .ref 327), (2, .int x2), (3, .int v3)] → KN h [(325, .inl (6, [.ref 326, .int (nI T.length)])), (326, .inr (.inl (1, b))), (327, .inl (2, [.int ns, .ref 328, .ref 329, .ref 330, .ref 331, .int nt, .ref 332, .ref 333, .ref 334, .ref 335, .ref 336, .ref 337, .ref 338, .int cel, .ref 339, .ref 340, .ref 341, .ref 342])), (328, .inr (.inr (.inl sn))), (329, .inr (.inl (0, run))), (330, .inr (.inl (0, tra))), (331, .inr (.inl (0, len)))] h0 → j_V jP d 52 35 lv [] h (fun rv h' => rv = none ∧ ∃ b', tT 700 (tpA 59 (tlA (txK len x2) f v3 T)) b' ∧ KN h' [(325, .inl (6, [.ref 326, .int (nI (tpA 59 (tlA (txK len x2) f v3 T)).length)])), (326, .inr (.inl (1, b'))), (327, .inl (2, [.int ns, .ref 328, .ref 329, .ref 330, .ref 331, .int nt, .ref 332, .ref 333, .ref 334, .ref 335, .ref 336, .ref 337, .ref 338, .int cel, .ref 339, .ref 340, .ref 341, .ref 342])), (328, .inr (.inr (.inl sn))), (329, .inr (.inl (0, run))), (330, .inr (.inl (0, tra))), (331, .inr (.inl (0, len)))] h0) := by
  intro f
  induction f with
  | zero =>
    intro v3 T b lv h h0 e H hl L K
    refine j_V.ldL xysA_M xysA_35 rfl (i := 3) (kd := 0) (v := .int v3) (pcJ := 36) rfl L rfl rfl rfl ?_
    refine j_V.ldL xysA_M xysA_36 rfl (i := 1) (kd := 2) (v := .ref 327) (pcJ := 37) rfl L rfl rfl rfl ?_
    refine j_V.getK xysA_M xysA_37 (ci := 2) (j := 3) rfl K rfl rfl ?_
    refine j_V.ldL xysA_M xysA_40 rfl (i := 2) (kd := 0) (v := .int x2) (pcJ := 41) rfl L rfl rfl rfl ?_
    refine j_V.iaA xysA_M xysA_41 K rfl ?_
    refine j_V.icmp xysA_M xysA_42 (t := 65) rfl (fun c42_0 => ?_) (fun c42_0 => ?_)
    · replace c42_0 : ¬ (v3 < (gA tra x2)) := jd_ge c42_0
      refine j_V.ldL xysA_M xysA_65 rfl (i := 0) (kd := 2) (v := .ref 325) (pcJ := 66) rfl L rfl rfl rfl ?_
      refine j_V.one xysA_M xysA_66 (by decide) (pcJ := 68) (stJ := [.int 59, .ref 325]) rfl ?_
      refine j_V.cl xysA_M xysA_68 rfl (md := 3) (mj := 57) rfl (by decide) xyp_M (As := [.ref 325, .int 59]) (rest := []) (jk_spl3 (K.at rfl) rfl rfl rfl (Nat.le_of_ble_eq_true rfl) (Nat.le_of_ble_eq_true rfl)) (fun d => xyp_ok H (by omega) (K.fi [325, 326] rfl rfl)) ?_
      rintro r h9 ⟨rfl, b1, H, K9⟩
      have K : KN h9 [(325, .inl (6, [.ref 326, .int (nI (tpA 59 T).length)])), (326, .inr (.inl (1, b1))), (327, .inl (2, [.int ns, .ref 328, .ref 329, .ref 330, .ref 331, .int nt, .ref 332, .ref 333, .ref 334, .ref 335, .ref 336, .ref 337, .ref 338, .int cel, .ref 339, .ref 340, .ref 341, .ref 342])), (328, .inr (.inr (.inl sn))), (329, .inr (.inl (0, run))), (330, .inr (.inl (0, tra))), (331, .inr (.inl (0, len)))] h0 := K.mg K9 rfl rfl
      clear K9
      show j_V jP _ 52 71 lv [] h9 _
      have q3 : (tpA 59 T).length ≤ T.length + 1 := Nat.le_trans (Nat.le_of_eq tpA_len) (by omega)
      exact j_V.ret xysA_M xysA_71 rfl rfl ⟨rfl, _, H, K⟩
    · replace c42_0 : v3 < (gA tra x2) := jd_gen c42_0
      exact absurd c42_0 (lpN_z e)
  | succ f ih =>
    intro v3 T b lv h h0 e H hl L K
    refine j_V.ldL xysA_M xysA_35 rfl (i := 3) (kd := 0) (v := .int v3) (pcJ := 36) rfl L rfl rfl rfl ?_
    refine j_V.ldL xysA_M xysA_36 rfl (i := 1) (kd := 2) (v := .ref 327) (pcJ := 37) rfl L rfl rfl rfl ?_
    refine j_V.getK xysA_M xysA_37 (ci := 2) (j := 3) rfl K rfl rfl ?_
    refine j_V.ldL xysA_M xysA_40 rfl (i := 2) (kd := 0) (v := .int x2) (pcJ := 41) rfl L rfl rfl rfl ?_
    refine j_V.iaA xysA_M xysA_41 K rfl ?_
    refine j_V.icmp xysA_M xysA_42 (t := 65) rfl (fun c42_0 => ?_) (fun c42_0 => ?_)
    · replace c42_0 : ¬ (v3 < (gA tra x2)) := jd_ge c42_0
      exact absurd (lpN_s e) c42_0
    · replace c42_0 : v3 < (gA tra x2) := jd_gen c42_0
      refine j_V.ldL xysA_M xysA_45 rfl (i := 0) (kd := 2) (v := .ref 325) (pcJ := 46) rfl L rfl rfl rfl ?_
      refine j_V.ldL xysA_M xysA_46 rfl (i := 1) (kd := 2) (v := .ref 327) (pcJ := 47) rfl L rfl rfl rfl ?_
      refine j_V.getK xysA_M xysA_47 (ci := 2) (j := 4) rfl K rfl rfl ?_
      refine j_V.ldL xysA_M xysA_50 rfl (i := 2) (kd := 0) (v := .int x2) (pcJ := 51) rfl L rfl rfl rfl ?_
      refine j_V.one xysA_M xysA_51 (by decide) (pcJ := 52) (stJ := [.int 3, .int x2, .ref 331, .ref 325]) rfl ?_
      refine j_V.one xysA_M xysA_52 (by decide) (pcJ := 53) (stJ := [.int (x2 * 3), .ref 331, .ref 325]) rfl ?_
      refine j_V.ldL xysA_M xysA_53 rfl (i := 3) (kd := 0) (v := .int v3) (pcJ := 54) rfl L rfl rfl rfl ?_
      refine j_V.one xysA_M xysA_54 (by decide) (pcJ := 55) (stJ := [.int ((x2 * 3) + v3), .ref 331, .ref 325]) rfl ?_
      refine j_V.iaA xysA_M xysA_55 K rfl ?_
      refine j_V.cl xysA_M xysA_56 rfl (md := 3) (mj := 56) rfl (by decide) xyn_M (As := [.ref 325, .int (gA len ((x2 * 3) + v3))]) (rest := []) (jk_spl3 (K.at rfl) rfl rfl rfl (Nat.le_of_ble_eq_true rfl) (Nat.le_of_ble_eq_true rfl)) (fun d => xyn_ok H (by omega) (K.fi [325, 326] rfl rfl)) ?_
      rintro r h9 ⟨rfl, b1, H, K9⟩
      have K : KN h9 [(325, .inl (6, [.ref 326, .int (nI (tnA (gA len ((x2 * 3) + v3)) T).length)])), (326, .inr (.inl (1, b1))), (327, .inl (2, [.int ns, .ref 328, .ref 329, .ref 330, .ref 331, .int nt, .ref 332, .ref 333, .ref 334, .ref 335, .ref 336, .ref 337, .ref 338, .int cel, .ref 339, .ref 340, .ref 341, .ref 342])), (328, .inr (.inr (.inl sn))), (329, .inr (.inl (0, run))), (330, .inr (.inl (0, tra))), (331, .inr (.inl (0, len)))] h0 := K.mg K9 rfl rfl
      clear K9
      show j_V jP _ 52 59 lv [] h9 _
      have q4 : (tnA (gA len ((x2 * 3) + v3)) T).length ≤ T.length + 4 := Nat.le_trans (tnA_len) (by omega)
      refine j_V.inL2 xysA_M xysA_59 (i := 3) (kl' := [(0, .ref 325), (1, .ref 327), (2, .int x2), (3, .int (v3 + 1))]) (pcJ := 62) L rfl rfl rfl rfl (fun lv L => ?_)
      refine j_V.gto xysA_M xysA_62 (t := 35) rfl ?_
      rw [tlA_s]
      exact ih _ _ _ _ _ _ (lpN_n e) H (by have : (txK len x2 v3 T).length ≤ _ := txK_len; show (txK len x2 v3 T).length + _ + 1 ≤ 700; omega) L K
theorem xysA_ok {d : Nat} {h h0 : J_H} {T b : List Int32} {sn : List Int64} {run tra len : List Int32} {ns nt cel x2 : Int32} (H : tT 700 T b) (hl : T.length + 22 + 4 * lpN (gA tra x2) 0 ≤ 700) (K : KN h [(325, .inl (6, [.ref 326, .int (nI T.length)])), (326, .inr (.inl (1, b))), (327, .inl (2, [.int ns, .ref 328, .ref 329, .ref 330, .ref 331, .int nt, .ref 332, .ref 333, .ref 334, .ref 335, .ref 336, .ref 337, .ref 338, .int cel, .ref 339, .ref 340, .ref 341, .ref 342])), (328, .inr (.inr (.inl sn))), (329, .inr (.inl (0, run))), (330, .inr (.inl (0, tra))), (331, .inr (.inl (0, len)))] h0) : j_V jP d 52 0 (lv_args 0 [.ref 325, .ref 327, .int x2]) [] h (fun rv h' => rv = none ∧ ∃ b', tT 700 (txS sn run tra len x2 T) b' ∧ KN h' [(325, .inl (6, [.ref 326, .int (nI (txS sn run tra len x2 T).length)])), (326, .inr (.inl (1, b'))), (327, .inl (2, [.int ns, .ref 328, .ref 329, .ref 330, .ref 331, .int nt, .ref 332, .ref 333, .ref 334, .ref 335, .ref 336, .ref 337, .ref 338, .int cel, .ref 339, .ref 340, .ref 341, .ref 342])), (328, .inr (.inr (.inl sn))), (329, .inr (.inl (0, run))), (330, .inr (.inl (0, tra))), (331, .inr (.inl (0, len)))] h0) := by
  show j_V jP d 52 0 [(0, .ref 325), (1, .ref 327), (2, .int x2)] [] h _
  obtain ⟨lv, elv, L⟩ : ∃ lv, lv = [(0, .ref 325), (1, .ref 327), (2, .int x2)] ∧ LK lv [(0, .ref 325), (1, .ref 327), (2, .int x2)] := ⟨_, rfl, LK.rf⟩
  rw [← elv]
  clear elv
  refine j_V.ldL xysA_M xysA_0 rfl (i := 0) (kd := 2) (v := .ref 325) (pcJ := 1) rfl L rfl rfl rfl ?_
  refine j_V.one xysA_M xysA_1 (by decide) (pcJ := 4) (stJ := [.long (32497584235442030 : Int64), .ref 325]) rfl ?_
  refine j_V.cl xysA_M xysA_4 rfl (md := 3) (mj := 55) rfl (by decide) xyw_M (As := [.ref 325, .long (32497584235442030 : Int64)]) (rest := []) (jk_spl3 (K.at rfl) rfl rfl rfl (Nat.le_of_ble_eq_true rfl) (Nat.le_of_ble_eq_true rfl)) (fun d => xyw_ok H (by omega) (K.fi [325, 326] rfl rfl)) ?_
  rintro r h9 ⟨rfl, b1, H, K9⟩
  have K : KN h9 [(325, .inl (6, [.ref 326, .int (nI (twA (32497584235442030 : Int64) 8 T).length)])), (326, .inr (.inl (1, b1))), (327, .inl (2, [.int ns, .ref 328, .ref 329, .ref 330, .ref 331, .int nt, .ref 332, .ref 333, .ref 334, .ref 335, .ref 336, .ref 337, .ref 338, .int cel, .ref 339, .ref 340, .ref 341, .ref 342])), (328, .inr (.inr (.inl sn))), (329, .inr (.inl (0, run))), (330, .inr (.inl (0, tra))), (331, .inr (.inl (0, len)))] h0 := K.mg K9 rfl rfl
  clear K9
  show j_V jP _ 52 7 lv [] h9 _
  have q5 : (twA (32497584235442030 : Int64) 8 T).length ≤ T.length + 8 := Nat.le_trans (twA_len) (by omega)
  refine j_V.ldL xysA_M xysA_7 rfl (i := 0) (kd := 2) (v := .ref 325) (pcJ := 8) rfl L rfl rfl rfl ?_
  refine j_V.one xysA_M xysA_8 (by decide) (pcJ := 10) (stJ := [.int 32, .ref 325]) rfl ?_
  refine j_V.cl xysA_M xysA_10 rfl (md := 3) (mj := 57) rfl (by decide) xyp_M (As := [.ref 325, .int 32]) (rest := []) (jk_spl3 (K.at rfl) rfl rfl rfl (Nat.le_of_ble_eq_true rfl) (Nat.le_of_ble_eq_true rfl)) (fun d => xyp_ok H (by omega) (K.fi [325, 326] rfl rfl)) ?_
  rintro r h9 ⟨rfl, b2, H, K9⟩
  have K : KN h9 [(325, .inl (6, [.ref 326, .int (nI (tpA 32 (twA (32497584235442030 : Int64) 8 T)).length)])), (326, .inr (.inl (1, b2))), (327, .inl (2, [.int ns, .ref 328, .ref 329, .ref 330, .ref 331, .int nt, .ref 332, .ref 333, .ref 334, .ref 335, .ref 336, .ref 337, .ref 338, .int cel, .ref 339, .ref 340, .ref 341, .ref 342])), (328, .inr (.inr (.inl sn))), (329, .inr (.inl (0, run))), (330, .inr (.inl (0, tra))), (331, .inr (.inl (0, len)))] h0 := K.mg K9 rfl rfl
  clear K9
  show j_V jP _ 52 13 lv [] h9 _
  have q6 : (tpA 32 (twA (32497584235442030 : Int64) 8 T)).length ≤ T.length + 9 := Nat.le_trans (Nat.le_of_eq tpA_len) (by omega)
  refine j_V.ldL xysA_M xysA_13 rfl (i := 0) (kd := 2) (v := .ref 325) (pcJ := 14) rfl L rfl rfl rfl ?_
  refine j_V.ldL xysA_M xysA_14 rfl (i := 1) (kd := 2) (v := .ref 327) (pcJ := 15) rfl L rfl rfl rfl ?_
  refine j_V.getK xysA_M xysA_15 (ci := 2) (j := 1) rfl K rfl rfl ?_
  refine j_V.ldL xysA_M xysA_18 rfl (i := 2) (kd := 0) (v := .int x2) (pcJ := 19) rfl L rfl rfl rfl ?_
  refine j_V.laA xysA_M xysA_19 K rfl ?_
  refine j_V.cl xysA_M xysA_20 rfl (md := 3) (mj := 55) rfl (by decide) xyw_M (As := [.ref 325, .long (gL sn x2)]) (rest := []) (jk_spl3 (K.at rfl) rfl rfl rfl (Nat.le_of_ble_eq_true rfl) (Nat.le_of_ble_eq_true rfl)) (fun d => xyw_ok H (by omega) (K.fi [325, 326] rfl rfl)) ?_
  rintro r h9 ⟨rfl, b3, H, K9⟩
  have K : KN h9 [(325, .inl (6, [.ref 326, .int (nI (twA (gL sn x2) 8 (tpA 32 (twA (32497584235442030 : Int64) 8 T))).length)])), (326, .inr (.inl (1, b3))), (327, .inl (2, [.int ns, .ref 328, .ref 329, .ref 330, .ref 331, .int nt, .ref 332, .ref 333, .ref 334, .ref 335, .ref 336, .ref 337, .ref 338, .int cel, .ref 339, .ref 340, .ref 341, .ref 342])), (328, .inr (.inr (.inl sn))), (329, .inr (.inl (0, run))), (330, .inr (.inl (0, tra))), (331, .inr (.inl (0, len)))] h0 := K.mg K9 rfl rfl
  clear K9
  show j_V jP _ 52 23 lv [] h9 _
  have q7 : (twA (gL sn x2) 8 (tpA 32 (twA (32497584235442030 : Int64) 8 T))).length ≤ T.length + 17 := Nat.le_trans (twA_len) (by omega)
  refine j_V.ldL xysA_M xysA_23 rfl (i := 0) (kd := 2) (v := .ref 325) (pcJ := 24) rfl L rfl rfl rfl ?_
  refine j_V.ldL xysA_M xysA_24 rfl (i := 1) (kd := 2) (v := .ref 327) (pcJ := 25) rfl L rfl rfl rfl ?_
  refine j_V.getK xysA_M xysA_25 (ci := 2) (j := 2) rfl K rfl rfl ?_
  refine j_V.ldL xysA_M xysA_28 rfl (i := 2) (kd := 0) (v := .int x2) (pcJ := 29) rfl L rfl rfl rfl ?_
  refine j_V.iaA xysA_M xysA_29 K rfl ?_
  refine j_V.cl xysA_M xysA_30 rfl (md := 3) (mj := 56) rfl (by decide) xyn_M (As := [.ref 325, .int (gA run x2)]) (rest := []) (jk_spl3 (K.at rfl) rfl rfl rfl (Nat.le_of_ble_eq_true rfl) (Nat.le_of_ble_eq_true rfl)) (fun d => xyn_ok H (by omega) (K.fi [325, 326] rfl rfl)) ?_
  rintro r h9 ⟨rfl, b4, H, K9⟩
  have K : KN h9 [(325, .inl (6, [.ref 326, .int (nI (tnA (gA run x2) (twA (gL sn x2) 8 (tpA 32 (twA (32497584235442030 : Int64) 8 T)))).length)])), (326, .inr (.inl (1, b4))), (327, .inl (2, [.int ns, .ref 328, .ref 329, .ref 330, .ref 331, .int nt, .ref 332, .ref 333, .ref 334, .ref 335, .ref 336, .ref 337, .ref 338, .int cel, .ref 339, .ref 340, .ref 341, .ref 342])), (328, .inr (.inr (.inl sn))), (329, .inr (.inl (0, run))), (330, .inr (.inl (0, tra))), (331, .inr (.inl (0, len)))] h0 := K.mg K9 rfl rfl
  clear K9
  show j_V jP _ 52 33 lv [] h9 _
  have q8 : (tnA (gA run x2) (twA (gL sn x2) 8 (tpA 32 (twA (32497584235442030 : Int64) 8 T)))).length ≤ T.length + 21 := Nat.le_trans (tnA_len) (by omega)
  refine j_V.one xysA_M xysA_33 (by decide) (pcJ := 34) (stJ := [.int 0]) rfl ?_
  refine j_V.stL2 xysA_M xysA_34 rfl (i := 3) (kd := 0) (kl' := [(0, .ref 325), (1, .ref 327), (2, .int x2), (3, .int 0)]) (pcJ := 35) rfl L rfl (by decide) rfl rfl rfl (fun lv L => ?_)
  exact xysA_k _ _ _ _ _ _ _ rfl H (by omega) L K
set_option maxRecDepth 100000 in
theorem xyrA_M : j_meth jP 53 = some (yX6_writeTrain, cX6_writeTrain, 4, none, 3, false, 6) := rfl
set_option maxRecDepth 100000 in
theorem xyrA_0 : j_code jP 53 0 = some (.aload_n 0) := rfl
set_option maxRecDepth 100000 in
theorem xyrA_1 : j_code jP 53 1 = some (.ldc2_w 68) := rfl
set_option maxRecDepth 100000 in
theorem xyrA_4 : j_code jP 53 4 = some (.invokevirtual 45) := rfl
set_option maxRecDepth 100000 in
theorem xyrA_7 : j_code jP 53 7 = some (.aload_n 0) := rfl
set_option maxRecDepth 100000 in
theorem xyrA_8 : j_code jP 53 8 = some (.bipush 32) := rfl
set_option maxRecDepth 100000 in
theorem xyrA_10 : j_code jP 53 10 = some (.invokevirtual 49) := rfl
set_option maxRecDepth 100000 in
theorem xyrA_13 : j_code jP 53 13 = some (.aload_n 0) := rfl
set_option maxRecDepth 100000 in
theorem xyrA_14 : j_code jP 53 14 = some (.aload_n 1) := rfl
set_option maxRecDepth 100000 in
theorem xyrA_15 : j_code jP 53 15 = some (.getfield 70) := rfl
set_option maxRecDepth 100000 in
theorem xyrA_18 : j_code jP 53 18 = some (.iload_n 2) := rfl
set_option maxRecDepth 100000 in
theorem xyrA_19 : j_code jP 53 19 = some (.laload) := rfl
set_option maxRecDepth 100000 in
theorem xyrA_20 : j_code jP 53 20 = some (.invokevirtual 45) := rfl
set_option maxRecDepth 100000 in
theorem xyrA_23 : j_code jP 53 23 = some (.aload_n 0) := rfl
set_option maxRecDepth 100000 in
theorem xyrA_24 : j_code jP 53 24 = some (.aload_n 1) := rfl
set_option maxRecDepth 100000 in
theorem xyrA_25 : j_code jP 53 25 = some (.getfield 73) := rfl
set_option maxRecDepth 100000 in
theorem xyrA_28 : j_code jP 53 28 = some (.iload_n 2) := rfl
set_option maxRecDepth 100000 in
theorem xyrA_29 : j_code jP 53 29 = some (.iaload) := rfl
set_option maxRecDepth 100000 in
theorem xyrA_30 : j_code jP 53 30 = some (.invokevirtual 60) := rfl
set_option maxRecDepth 100000 in
theorem xyrA_33 : j_code jP 53 33 = some (.aload_n 0) := rfl
set_option maxRecDepth 100000 in
theorem xyrA_34 : j_code jP 53 34 = some (.aload_n 1) := rfl
set_option maxRecDepth 100000 in
theorem xyrA_35 : j_code jP 53 35 = some (.aload_n 1) := rfl
set_option maxRecDepth 100000 in
theorem xyrA_36 : j_code jP 53 36 = some (.getfield 76) := rfl
set_option maxRecDepth 100000 in
theorem xyrA_39 : j_code jP 53 39 = some (.iload_n 2) := rfl
set_option maxRecDepth 100000 in
theorem xyrA_40 : j_code jP 53 40 = some (.iaload) := rfl
set_option maxRecDepth 100000 in
theorem xyrA_41 : j_code jP 53 41 = some (.invokevirtual 79) := rfl
set_option maxRecDepth 100000 in
theorem xyrA_44 : j_code jP 53 44 = some (.aload_n 0) := rfl
set_option maxRecDepth 100000 in
theorem xyrA_45 : j_code jP 53 45 = some (.aload_n 1) := rfl
set_option maxRecDepth 100000 in
theorem xyrA_46 : j_code jP 53 46 = some (.aload_n 1) := rfl
set_option maxRecDepth 100000 in
theorem xyrA_47 : j_code jP 53 47 = some (.getfield 82) := rfl
set_option maxRecDepth 100000 in
theorem xyrA_50 : j_code jP 53 50 = some (.iload_n 2) := rfl
set_option maxRecDepth 100000 in
theorem xyrA_51 : j_code jP 53 51 = some (.iaload) := rfl
set_option maxRecDepth 100000 in
theorem xyrA_52 : j_code jP 53 52 = some (.invokevirtual 79) := rfl
set_option maxRecDepth 100000 in
theorem xyrA_55 : j_code jP 53 55 = some (.aload_n 0) := rfl
set_option maxRecDepth 100000 in
theorem xyrA_56 : j_code jP 53 56 = some (.iload_n 3) := rfl
set_option maxRecDepth 100000 in
theorem xyrA_57 : j_code jP 53 57 = some (.invokevirtual 60) := rfl
set_option maxRecDepth 100000 in
theorem xyrA_60 : j_code jP 53 60 = some (.aload_n 0) := rfl
set_option maxRecDepth 100000 in
theorem xyrA_61 : j_code jP 53 61 = some (.bipush 32) := rfl
set_option maxRecDepth 100000 in
theorem xyrA_63 : j_code jP 53 63 = some (.invokevirtual 49) := rfl
set_option maxRecDepth 100000 in
theorem xyrA_66 : j_code jP 53 66 = some (.aload_n 0) := rfl
set_option maxRecDepth 100000 in
theorem xyrA_67 : j_code jP 53 67 = some (.ldc2_w 85) := rfl
set_option maxRecDepth 100000 in
theorem xyrA_70 : j_code jP 53 70 = some (.invokevirtual 45) := rfl
set_option maxRecDepth 100000 in
theorem xyrA_73 : j_code jP 53 73 = some (.aload_n 0) := rfl
set_option maxRecDepth 100000 in
theorem xyrA_74 : j_code jP 53 74 = some (.aload_n 1) := rfl
set_option maxRecDepth 100000 in
theorem xyrA_75 : j_code jP 53 75 = some (.getfield 87) := rfl
set_option maxRecDepth 100000 in
theorem xyrA_78 : j_code jP 53 78 = some (.iload_n 2) := rfl
set_option maxRecDepth 100000 in
theorem xyrA_79 : j_code jP 53 79 = some (.iaload) := rfl
set_option maxRecDepth 100000 in
theorem xyrA_80 : j_code jP 53 80 = some (.invokevirtual 60) := rfl
set_option maxRecDepth 100000 in
theorem xyrA_83 : j_code jP 53 83 = some (.aload_n 0) := rfl
set_option maxRecDepth 100000 in
theorem xyrA_84 : j_code jP 53 84 = some (.bipush 32) := rfl
set_option maxRecDepth 100000 in
theorem xyrA_86 : j_code jP 53 86 = some (.invokevirtual 49) := rfl
set_option maxRecDepth 100000 in
theorem xyrA_89 : j_code jP 53 89 = some (.aload_n 0) := rfl
set_option maxRecDepth 100000 in
theorem xyrA_90 : j_code jP 53 90 = some (.ldc2_w 90) := rfl
set_option maxRecDepth 100000 in
theorem xyrA_93 : j_code jP 53 93 = some (.invokevirtual 45) := rfl
set_option maxRecDepth 100000 in
theorem xyrA_96 : j_code jP 53 96 = some (.aload_n 0) := rfl
set_option maxRecDepth 100000 in
theorem xyrA_97 : j_code jP 53 97 = some (.aload_n 1) := rfl
set_option maxRecDepth 100000 in
theorem xyrA_98 : j_code jP 53 98 = some (.getfield 92) := rfl
set_option maxRecDepth 100000 in
theorem xyrA_101 : j_code jP 53 101 = some (.iload_n 2) := rfl
set_option maxRecDepth 100000 in
theorem xyrA_102 : j_code jP 53 102 = some (.iaload) := rfl
set_option maxRecDepth 100000 in
theorem xyrA_103 : j_code jP 53 103 = some (.invokevirtual 60) := rfl
set_option maxRecDepth 100000 in
theorem xyrA_106 : j_code jP 53 106 = some (.aload_n 0) := rfl
set_option maxRecDepth 100000 in
theorem xyrA_107 : j_code jP 53 107 = some (.bipush 59) := rfl
set_option maxRecDepth 100000 in
theorem xyrA_109 : j_code jP 53 109 = some (.invokevirtual 49) := rfl
set_option maxRecDepth 100000 in
theorem xyrA_112 : j_code jP 53 112 = some (.return_) := rfl
theorem xyrA_ok {d : Nat} {h h0 : J_H} {T b : List Int32} {sn tn : List Int64} {siz frm tto slo wei : List Int32} {ns nt cel x2 x3 : Int32} (H : tT 700 T b) (hl : T.length + 70 ≤ 700) (K : KN h [(325, .inl (6, [.ref 326, .int (nI T.length)])), (326, .inr (.inl (1, b))), (327, .inl (2, [.int ns, .ref 328, .ref 329, .ref 330, .ref 331, .int nt, .ref 332, .ref 333, .ref 334, .ref 335, .ref 336, .ref 337, .ref 338, .int cel, .ref 339, .ref 340, .ref 341, .ref 342])), (328, .inr (.inr (.inl sn))), (332, .inr (.inr (.inl tn))), (333, .inr (.inl (0, siz))), (334, .inr (.inl (0, frm))), (335, .inr (.inl (0, tto))), (337, .inr (.inl (0, slo))), (338, .inr (.inl (0, wei)))] h0) : j_V jP d 53 0 (lv_args 0 [.ref 325, .ref 327, .int x2, .int x3]) [] h (fun rv h' => rv = none ∧ ∃ b', tT 700 (txR ns sn tn siz frm tto slo wei x2 x3 T) b' ∧ KN h' [(325, .inl (6, [.ref 326, .int (nI (txR ns sn tn siz frm tto slo wei x2 x3 T).length)])), (326, .inr (.inl (1, b'))), (327, .inl (2, [.int ns, .ref 328, .ref 329, .ref 330, .ref 331, .int nt, .ref 332, .ref 333, .ref 334, .ref 335, .ref 336, .ref 337, .ref 338, .int cel, .ref 339, .ref 340, .ref 341, .ref 342])), (328, .inr (.inr (.inl sn))), (332, .inr (.inr (.inl tn))), (333, .inr (.inl (0, siz))), (334, .inr (.inl (0, frm))), (335, .inr (.inl (0, tto))), (337, .inr (.inl (0, slo))), (338, .inr (.inl (0, wei)))] h0) := by
  show j_V jP d 53 0 [(0, .ref 325), (1, .ref 327), (2, .int x2), (3, .int x3)] [] h _
  obtain ⟨lv, elv, L⟩ : ∃ lv, lv = [(0, .ref 325), (1, .ref 327), (2, .int x2), (3, .int x3)] ∧ LK lv [(0, .ref 325), (1, .ref 327), (2, .int x2), (3, .int x3)] := ⟨_, rfl, LK.rf⟩
  rw [← elv]
  clear elv
  refine j_V.ldL xyrA_M xyrA_0 rfl (i := 0) (kd := 2) (v := .ref 325) (pcJ := 1) rfl L rfl rfl rfl ?_
  refine j_V.one xyrA_M xyrA_1 (by decide) (pcJ := 4) (stJ := [.long (500135192942 : Int64), .ref 325]) rfl ?_
  refine j_V.cl xyrA_M xyrA_4 rfl (md := 3) (mj := 55) rfl (by decide) xyw_M (As := [.ref 325, .long (500135192942 : Int64)]) (rest := []) (jk_spl3 (K.at rfl) rfl rfl rfl (Nat.le_of_ble_eq_true rfl) (Nat.le_of_ble_eq_true rfl)) (fun d => xyw_ok H (by omega) (K.fi [325, 326] rfl rfl)) ?_
  rintro r h9 ⟨rfl, b1, H, K9⟩
  have K : KN h9 [(325, .inl (6, [.ref 326, .int (nI (twA (500135192942 : Int64) 8 T).length)])), (326, .inr (.inl (1, b1))), (327, .inl (2, [.int ns, .ref 328, .ref 329, .ref 330, .ref 331, .int nt, .ref 332, .ref 333, .ref 334, .ref 335, .ref 336, .ref 337, .ref 338, .int cel, .ref 339, .ref 340, .ref 341, .ref 342])), (328, .inr (.inr (.inl sn))), (332, .inr (.inr (.inl tn))), (333, .inr (.inl (0, siz))), (334, .inr (.inl (0, frm))), (335, .inr (.inl (0, tto))), (337, .inr (.inl (0, slo))), (338, .inr (.inl (0, wei)))] h0 := K.mg K9 rfl rfl
  clear K9
  show j_V jP _ 53 7 lv [] h9 _
  have q9 : (twA (500135192942 : Int64) 8 T).length ≤ T.length + 8 := Nat.le_trans (twA_len) (by omega)
  refine j_V.ldL xyrA_M xyrA_7 rfl (i := 0) (kd := 2) (v := .ref 325) (pcJ := 8) rfl L rfl rfl rfl ?_
  refine j_V.one xyrA_M xyrA_8 (by decide) (pcJ := 10) (stJ := [.int 32, .ref 325]) rfl ?_
  refine j_V.cl xyrA_M xyrA_10 rfl (md := 3) (mj := 57) rfl (by decide) xyp_M (As := [.ref 325, .int 32]) (rest := []) (jk_spl3 (K.at rfl) rfl rfl rfl (Nat.le_of_ble_eq_true rfl) (Nat.le_of_ble_eq_true rfl)) (fun d => xyp_ok H (by omega) (K.fi [325, 326] rfl rfl)) ?_
  rintro r h9 ⟨rfl, b2, H, K9⟩
  have K : KN h9 [(325, .inl (6, [.ref 326, .int (nI (tpA 32 (twA (500135192942 : Int64) 8 T)).length)])), (326, .inr (.inl (1, b2))), (327, .inl (2, [.int ns, .ref 328, .ref 329, .ref 330, .ref 331, .int nt, .ref 332, .ref 333, .ref 334, .ref 335, .ref 336, .ref 337, .ref 338, .int cel, .ref 339, .ref 340, .ref 341, .ref 342])), (328, .inr (.inr (.inl sn))), (332, .inr (.inr (.inl tn))), (333, .inr (.inl (0, siz))), (334, .inr (.inl (0, frm))), (335, .inr (.inl (0, tto))), (337, .inr (.inl (0, slo))), (338, .inr (.inl (0, wei)))] h0 := K.mg K9 rfl rfl
  clear K9
  show j_V jP _ 53 13 lv [] h9 _
  have q10 : (tpA 32 (twA (500135192942 : Int64) 8 T)).length ≤ T.length + 9 := Nat.le_trans (Nat.le_of_eq tpA_len) (by omega)
  refine j_V.ldL xyrA_M xyrA_13 rfl (i := 0) (kd := 2) (v := .ref 325) (pcJ := 14) rfl L rfl rfl rfl ?_
  refine j_V.ldL xyrA_M xyrA_14 rfl (i := 1) (kd := 2) (v := .ref 327) (pcJ := 15) rfl L rfl rfl rfl ?_
  refine j_V.getK xyrA_M xyrA_15 (ci := 2) (j := 6) rfl K rfl rfl ?_
  refine j_V.ldL xyrA_M xyrA_18 rfl (i := 2) (kd := 0) (v := .int x2) (pcJ := 19) rfl L rfl rfl rfl ?_
  refine j_V.laA xyrA_M xyrA_19 K rfl ?_
  refine j_V.cl xyrA_M xyrA_20 rfl (md := 3) (mj := 55) rfl (by decide) xyw_M (As := [.ref 325, .long (gL tn x2)]) (rest := []) (jk_spl3 (K.at rfl) rfl rfl rfl (Nat.le_of_ble_eq_true rfl) (Nat.le_of_ble_eq_true rfl)) (fun d => xyw_ok H (by omega) (K.fi [325, 326] rfl rfl)) ?_
  rintro r h9 ⟨rfl, b3, H, K9⟩
  have K : KN h9 [(325, .inl (6, [.ref 326, .int (nI (twA (gL tn x2) 8 (tpA 32 (twA (500135192942 : Int64) 8 T))).length)])), (326, .inr (.inl (1, b3))), (327, .inl (2, [.int ns, .ref 328, .ref 329, .ref 330, .ref 331, .int nt, .ref 332, .ref 333, .ref 334, .ref 335, .ref 336, .ref 337, .ref 338, .int cel, .ref 339, .ref 340, .ref 341, .ref 342])), (328, .inr (.inr (.inl sn))), (332, .inr (.inr (.inl tn))), (333, .inr (.inl (0, siz))), (334, .inr (.inl (0, frm))), (335, .inr (.inl (0, tto))), (337, .inr (.inl (0, slo))), (338, .inr (.inl (0, wei)))] h0 := K.mg K9 rfl rfl
  clear K9
  show j_V jP _ 53 23 lv [] h9 _
  have q11 : (twA (gL tn x2) 8 (tpA 32 (twA (500135192942 : Int64) 8 T))).length ≤ T.length + 17 := Nat.le_trans (twA_len) (by omega)
  refine j_V.ldL xyrA_M xyrA_23 rfl (i := 0) (kd := 2) (v := .ref 325) (pcJ := 24) rfl L rfl rfl rfl ?_
  refine j_V.ldL xyrA_M xyrA_24 rfl (i := 1) (kd := 2) (v := .ref 327) (pcJ := 25) rfl L rfl rfl rfl ?_
  refine j_V.getK xyrA_M xyrA_25 (ci := 2) (j := 7) rfl K rfl rfl ?_
  refine j_V.ldL xyrA_M xyrA_28 rfl (i := 2) (kd := 0) (v := .int x2) (pcJ := 29) rfl L rfl rfl rfl ?_
  refine j_V.iaA xyrA_M xyrA_29 K rfl ?_
  refine j_V.cl xyrA_M xyrA_30 rfl (md := 3) (mj := 56) rfl (by decide) xyn_M (As := [.ref 325, .int (gA siz x2)]) (rest := []) (jk_spl3 (K.at rfl) rfl rfl rfl (Nat.le_of_ble_eq_true rfl) (Nat.le_of_ble_eq_true rfl)) (fun d => xyn_ok H (by omega) (K.fi [325, 326] rfl rfl)) ?_
  rintro r h9 ⟨rfl, b4, H, K9⟩
  have K : KN h9 [(325, .inl (6, [.ref 326, .int (nI (tnA (gA siz x2) (twA (gL tn x2) 8 (tpA 32 (twA (500135192942 : Int64) 8 T)))).length)])), (326, .inr (.inl (1, b4))), (327, .inl (2, [.int ns, .ref 328, .ref 329, .ref 330, .ref 331, .int nt, .ref 332, .ref 333, .ref 334, .ref 335, .ref 336, .ref 337, .ref 338, .int cel, .ref 339, .ref 340, .ref 341, .ref 342])), (328, .inr (.inr (.inl sn))), (332, .inr (.inr (.inl tn))), (333, .inr (.inl (0, siz))), (334, .inr (.inl (0, frm))), (335, .inr (.inl (0, tto))), (337, .inr (.inl (0, slo))), (338, .inr (.inl (0, wei)))] h0 := K.mg K9 rfl rfl
  clear K9
  show j_V jP _ 53 33 lv [] h9 _
  have q12 : (tnA (gA siz x2) (twA (gL tn x2) 8 (tpA 32 (twA (500135192942 : Int64) 8 T)))).length ≤ T.length + 21 := Nat.le_trans (tnA_len) (by omega)
  refine j_V.ldL xyrA_M xyrA_33 rfl (i := 0) (kd := 2) (v := .ref 325) (pcJ := 34) rfl L rfl rfl rfl ?_
  refine j_V.ldL xyrA_M xyrA_34 rfl (i := 1) (kd := 2) (v := .ref 327) (pcJ := 35) rfl L rfl rfl rfl ?_
  refine j_V.ldL xyrA_M xyrA_35 rfl (i := 1) (kd := 2) (v := .ref 327) (pcJ := 36) rfl L rfl rfl rfl ?_
  refine j_V.getK xyrA_M xyrA_36 (ci := 2) (j := 8) rfl K rfl rfl ?_
  refine j_V.ldL xyrA_M xyrA_39 rfl (i := 2) (kd := 0) (v := .int x2) (pcJ := 40) rfl L rfl rfl rfl ?_
  refine j_V.iaA xyrA_M xyrA_40 K rfl ?_
  refine j_V.cl xyrA_M xyrA_41 rfl (md := 3) (mj := 54) rfl (by decide) xyqA_M (As := [.ref 325, .ref 327, .int (gA frm x2)]) (rest := []) (jk_spl3 (K.at rfl) rfl rfl rfl (Nat.le_of_ble_eq_true rfl) (Nat.le_of_ble_eq_true rfl)) (fun d => xyqA_ok H (by omega) (K.fi [325, 326, 327, 328] rfl rfl)) ?_
  rintro r h9 ⟨rfl, b5, H, K9⟩
  have K : KN h9 [(325, .inl (6, [.ref 326, .int (nI (txN ns sn (gA frm x2) (tnA (gA siz x2) (twA (gL tn x2) 8 (tpA 32 (twA (500135192942 : Int64) 8 T))))).length)])), (326, .inr (.inl (1, b5))), (327, .inl (2, [.int ns, .ref 328, .ref 329, .ref 330, .ref 331, .int nt, .ref 332, .ref 333, .ref 334, .ref 335, .ref 336, .ref 337, .ref 338, .int cel, .ref 339, .ref 340, .ref 341, .ref 342])), (328, .inr (.inr (.inl sn))), (332, .inr (.inr (.inl tn))), (333, .inr (.inl (0, siz))), (334, .inr (.inl (0, frm))), (335, .inr (.inl (0, tto))), (337, .inr (.inl (0, slo))), (338, .inr (.inl (0, wei)))] h0 := K.mg K9 rfl rfl
  clear K9
  show j_V jP _ 53 44 lv [] h9 _
  have q13 : (txN ns sn (gA frm x2) (tnA (gA siz x2) (twA (gL tn x2) 8 (tpA 32 (twA (500135192942 : Int64) 8 T))))).length ≤ T.length + 30 := Nat.le_trans (txN_len) (by omega)
  refine j_V.ldL xyrA_M xyrA_44 rfl (i := 0) (kd := 2) (v := .ref 325) (pcJ := 45) rfl L rfl rfl rfl ?_
  refine j_V.ldL xyrA_M xyrA_45 rfl (i := 1) (kd := 2) (v := .ref 327) (pcJ := 46) rfl L rfl rfl rfl ?_
  refine j_V.ldL xyrA_M xyrA_46 rfl (i := 1) (kd := 2) (v := .ref 327) (pcJ := 47) rfl L rfl rfl rfl ?_
  refine j_V.getK xyrA_M xyrA_47 (ci := 2) (j := 9) rfl K rfl rfl ?_
  refine j_V.ldL xyrA_M xyrA_50 rfl (i := 2) (kd := 0) (v := .int x2) (pcJ := 51) rfl L rfl rfl rfl ?_
  refine j_V.iaA xyrA_M xyrA_51 K rfl ?_
  refine j_V.cl xyrA_M xyrA_52 rfl (md := 3) (mj := 54) rfl (by decide) xyqA_M (As := [.ref 325, .ref 327, .int (gA tto x2)]) (rest := []) (jk_spl3 (K.at rfl) rfl rfl rfl (Nat.le_of_ble_eq_true rfl) (Nat.le_of_ble_eq_true rfl)) (fun d => xyqA_ok H (by omega) (K.fi [325, 326, 327, 328] rfl rfl)) ?_
  rintro r h9 ⟨rfl, b6, H, K9⟩
  have K : KN h9 [(325, .inl (6, [.ref 326, .int (nI (txN ns sn (gA tto x2) (txN ns sn (gA frm x2) (tnA (gA siz x2) (twA (gL tn x2) 8 (tpA 32 (twA (500135192942 : Int64) 8 T)))))).length)])), (326, .inr (.inl (1, b6))), (327, .inl (2, [.int ns, .ref 328, .ref 329, .ref 330, .ref 331, .int nt, .ref 332, .ref 333, .ref 334, .ref 335, .ref 336, .ref 337, .ref 338, .int cel, .ref 339, .ref 340, .ref 341, .ref 342])), (328, .inr (.inr (.inl sn))), (332, .inr (.inr (.inl tn))), (333, .inr (.inl (0, siz))), (334, .inr (.inl (0, frm))), (335, .inr (.inl (0, tto))), (337, .inr (.inl (0, slo))), (338, .inr (.inl (0, wei)))] h0 := K.mg K9 rfl rfl
  clear K9
  show j_V jP _ 53 55 lv [] h9 _
  have q14 : (txN ns sn (gA tto x2) (txN ns sn (gA frm x2) (tnA (gA siz x2) (twA (gL tn x2) 8 (tpA 32 (twA (500135192942 : Int64) 8 T)))))).length ≤ T.length + 39 := Nat.le_trans (txN_len) (by omega)
  refine j_V.ldL xyrA_M xyrA_55 rfl (i := 0) (kd := 2) (v := .ref 325) (pcJ := 56) rfl L rfl rfl rfl ?_
  refine j_V.ldL xyrA_M xyrA_56 rfl (i := 3) (kd := 0) (v := .int x3) (pcJ := 57) rfl L rfl rfl rfl ?_
  refine j_V.cl xyrA_M xyrA_57 rfl (md := 3) (mj := 56) rfl (by decide) xyn_M (As := [.ref 325, .int x3]) (rest := []) (jk_spl3 (K.at rfl) rfl rfl rfl (Nat.le_of_ble_eq_true rfl) (Nat.le_of_ble_eq_true rfl)) (fun d => xyn_ok H (by omega) (K.fi [325, 326] rfl rfl)) ?_
  rintro r h9 ⟨rfl, b7, H, K9⟩
  have K : KN h9 [(325, .inl (6, [.ref 326, .int (nI (tnA x3 (txN ns sn (gA tto x2) (txN ns sn (gA frm x2) (tnA (gA siz x2) (twA (gL tn x2) 8 (tpA 32 (twA (500135192942 : Int64) 8 T))))))).length)])), (326, .inr (.inl (1, b7))), (327, .inl (2, [.int ns, .ref 328, .ref 329, .ref 330, .ref 331, .int nt, .ref 332, .ref 333, .ref 334, .ref 335, .ref 336, .ref 337, .ref 338, .int cel, .ref 339, .ref 340, .ref 341, .ref 342])), (328, .inr (.inr (.inl sn))), (332, .inr (.inr (.inl tn))), (333, .inr (.inl (0, siz))), (334, .inr (.inl (0, frm))), (335, .inr (.inl (0, tto))), (337, .inr (.inl (0, slo))), (338, .inr (.inl (0, wei)))] h0 := K.mg K9 rfl rfl
  clear K9
  show j_V jP _ 53 60 lv [] h9 _
  have q15 : (tnA x3 (txN ns sn (gA tto x2) (txN ns sn (gA frm x2) (tnA (gA siz x2) (twA (gL tn x2) 8 (tpA 32 (twA (500135192942 : Int64) 8 T))))))).length ≤ T.length + 43 := Nat.le_trans (tnA_len) (by omega)
  refine j_V.ldL xyrA_M xyrA_60 rfl (i := 0) (kd := 2) (v := .ref 325) (pcJ := 61) rfl L rfl rfl rfl ?_
  refine j_V.one xyrA_M xyrA_61 (by decide) (pcJ := 63) (stJ := [.int 32, .ref 325]) rfl ?_
  refine j_V.cl xyrA_M xyrA_63 rfl (md := 3) (mj := 57) rfl (by decide) xyp_M (As := [.ref 325, .int 32]) (rest := []) (jk_spl3 (K.at rfl) rfl rfl rfl (Nat.le_of_ble_eq_true rfl) (Nat.le_of_ble_eq_true rfl)) (fun d => xyp_ok H (by omega) (K.fi [325, 326] rfl rfl)) ?_
  rintro r h9 ⟨rfl, b8, H, K9⟩
  have K : KN h9 [(325, .inl (6, [.ref 326, .int (nI (tpA 32 (tnA x3 (txN ns sn (gA tto x2) (txN ns sn (gA frm x2) (tnA (gA siz x2) (twA (gL tn x2) 8 (tpA 32 (twA (500135192942 : Int64) 8 T)))))))).length)])), (326, .inr (.inl (1, b8))), (327, .inl (2, [.int ns, .ref 328, .ref 329, .ref 330, .ref 331, .int nt, .ref 332, .ref 333, .ref 334, .ref 335, .ref 336, .ref 337, .ref 338, .int cel, .ref 339, .ref 340, .ref 341, .ref 342])), (328, .inr (.inr (.inl sn))), (332, .inr (.inr (.inl tn))), (333, .inr (.inl (0, siz))), (334, .inr (.inl (0, frm))), (335, .inr (.inl (0, tto))), (337, .inr (.inl (0, slo))), (338, .inr (.inl (0, wei)))] h0 := K.mg K9 rfl rfl
  clear K9
  show j_V jP _ 53 66 lv [] h9 _
  have q16 : (tpA 32 (tnA x3 (txN ns sn (gA tto x2) (txN ns sn (gA frm x2) (tnA (gA siz x2) (twA (gL tn x2) 8 (tpA 32 (twA (500135192942 : Int64) 8 T)))))))).length ≤ T.length + 44 := Nat.le_trans (Nat.le_of_eq tpA_len) (by omega)
  refine j_V.ldL xyrA_M xyrA_66 rfl (i := 0) (kd := 2) (v := .ref 325) (pcJ := 67) rfl L rfl rfl rfl ?_
  refine j_V.one xyrA_M xyrA_67 (by decide) (pcJ := 70) (stJ := [.long (1936486263 : Int64), .ref 325]) rfl ?_
  refine j_V.cl xyrA_M xyrA_70 rfl (md := 3) (mj := 55) rfl (by decide) xyw_M (As := [.ref 325, .long (1936486263 : Int64)]) (rest := []) (jk_spl3 (K.at rfl) rfl rfl rfl (Nat.le_of_ble_eq_true rfl) (Nat.le_of_ble_eq_true rfl)) (fun d => xyw_ok H (by omega) (K.fi [325, 326] rfl rfl)) ?_
  rintro r h9 ⟨rfl, b9, H, K9⟩
  have K : KN h9 [(325, .inl (6, [.ref 326, .int (nI (twA (1936486263 : Int64) 8 (tpA 32 (tnA x3 (txN ns sn (gA tto x2) (txN ns sn (gA frm x2) (tnA (gA siz x2) (twA (gL tn x2) 8 (tpA 32 (twA (500135192942 : Int64) 8 T))))))))).length)])), (326, .inr (.inl (1, b9))), (327, .inl (2, [.int ns, .ref 328, .ref 329, .ref 330, .ref 331, .int nt, .ref 332, .ref 333, .ref 334, .ref 335, .ref 336, .ref 337, .ref 338, .int cel, .ref 339, .ref 340, .ref 341, .ref 342])), (328, .inr (.inr (.inl sn))), (332, .inr (.inr (.inl tn))), (333, .inr (.inl (0, siz))), (334, .inr (.inl (0, frm))), (335, .inr (.inl (0, tto))), (337, .inr (.inl (0, slo))), (338, .inr (.inl (0, wei)))] h0 := K.mg K9 rfl rfl
  clear K9
  show j_V jP _ 53 73 lv [] h9 _
  have q17 : (twA (1936486263 : Int64) 8 (tpA 32 (tnA x3 (txN ns sn (gA tto x2) (txN ns sn (gA frm x2) (tnA (gA siz x2) (twA (gL tn x2) 8 (tpA 32 (twA (500135192942 : Int64) 8 T))))))))).length ≤ T.length + 52 := Nat.le_trans (twA_len) (by omega)
  refine j_V.ldL xyrA_M xyrA_73 rfl (i := 0) (kd := 2) (v := .ref 325) (pcJ := 74) rfl L rfl rfl rfl ?_
  refine j_V.ldL xyrA_M xyrA_74 rfl (i := 1) (kd := 2) (v := .ref 327) (pcJ := 75) rfl L rfl rfl rfl ?_
  refine j_V.getK xyrA_M xyrA_75 (ci := 2) (j := 11) rfl K rfl rfl ?_
  refine j_V.ldL xyrA_M xyrA_78 rfl (i := 2) (kd := 0) (v := .int x2) (pcJ := 79) rfl L rfl rfl rfl ?_
  refine j_V.iaA xyrA_M xyrA_79 K rfl ?_
  refine j_V.cl xyrA_M xyrA_80 rfl (md := 3) (mj := 56) rfl (by decide) xyn_M (As := [.ref 325, .int (gA slo x2)]) (rest := []) (jk_spl3 (K.at rfl) rfl rfl rfl (Nat.le_of_ble_eq_true rfl) (Nat.le_of_ble_eq_true rfl)) (fun d => xyn_ok H (by omega) (K.fi [325, 326] rfl rfl)) ?_
  rintro r h9 ⟨rfl, b10, H, K9⟩
  have K : KN h9 [(325, .inl (6, [.ref 326, .int (nI (tnA (gA slo x2) (twA (1936486263 : Int64) 8 (tpA 32 (tnA x3 (txN ns sn (gA tto x2) (txN ns sn (gA frm x2) (tnA (gA siz x2) (twA (gL tn x2) 8 (tpA 32 (twA (500135192942 : Int64) 8 T)))))))))).length)])), (326, .inr (.inl (1, b10))), (327, .inl (2, [.int ns, .ref 328, .ref 329, .ref 330, .ref 331, .int nt, .ref 332, .ref 333, .ref 334, .ref 335, .ref 336, .ref 337, .ref 338, .int cel, .ref 339, .ref 340, .ref 341, .ref 342])), (328, .inr (.inr (.inl sn))), (332, .inr (.inr (.inl tn))), (333, .inr (.inl (0, siz))), (334, .inr (.inl (0, frm))), (335, .inr (.inl (0, tto))), (337, .inr (.inl (0, slo))), (338, .inr (.inl (0, wei)))] h0 := K.mg K9 rfl rfl
  clear K9
  show j_V jP _ 53 83 lv [] h9 _
  have q18 : (tnA (gA slo x2) (twA (1936486263 : Int64) 8 (tpA 32 (tnA x3 (txN ns sn (gA tto x2) (txN ns sn (gA frm x2) (tnA (gA siz x2) (twA (gL tn x2) 8 (tpA 32 (twA (500135192942 : Int64) 8 T)))))))))).length ≤ T.length + 56 := Nat.le_trans (tnA_len) (by omega)
  refine j_V.ldL xyrA_M xyrA_83 rfl (i := 0) (kd := 2) (v := .ref 325) (pcJ := 84) rfl L rfl rfl rfl ?_
  refine j_V.one xyrA_M xyrA_84 (by decide) (pcJ := 86) (stJ := [.int 32, .ref 325]) rfl ?_
  refine j_V.cl xyrA_M xyrA_86 rfl (md := 3) (mj := 57) rfl (by decide) xyp_M (As := [.ref 325, .int 32]) (rest := []) (jk_spl3 (K.at rfl) rfl rfl rfl (Nat.le_of_ble_eq_true rfl) (Nat.le_of_ble_eq_true rfl)) (fun d => xyp_ok H (by omega) (K.fi [325, 326] rfl rfl)) ?_
  rintro r h9 ⟨rfl, b11, H, K9⟩
  have K : KN h9 [(325, .inl (6, [.ref 326, .int (nI (tpA 32 (tnA (gA slo x2) (twA (1936486263 : Int64) 8 (tpA 32 (tnA x3 (txN ns sn (gA tto x2) (txN ns sn (gA frm x2) (tnA (gA siz x2) (twA (gL tn x2) 8 (tpA 32 (twA (500135192942 : Int64) 8 T))))))))))).length)])), (326, .inr (.inl (1, b11))), (327, .inl (2, [.int ns, .ref 328, .ref 329, .ref 330, .ref 331, .int nt, .ref 332, .ref 333, .ref 334, .ref 335, .ref 336, .ref 337, .ref 338, .int cel, .ref 339, .ref 340, .ref 341, .ref 342])), (328, .inr (.inr (.inl sn))), (332, .inr (.inr (.inl tn))), (333, .inr (.inl (0, siz))), (334, .inr (.inl (0, frm))), (335, .inr (.inl (0, tto))), (337, .inr (.inl (0, slo))), (338, .inr (.inl (0, wei)))] h0 := K.mg K9 rfl rfl
  clear K9
  show j_V jP _ 53 89 lv [] h9 _
  have q19 : (tpA 32 (tnA (gA slo x2) (twA (1936486263 : Int64) 8 (tpA 32 (tnA x3 (txN ns sn (gA tto x2) (txN ns sn (gA frm x2) (tnA (gA siz x2) (twA (gL tn x2) 8 (tpA 32 (twA (500135192942 : Int64) 8 T))))))))))).length ≤ T.length + 57 := Nat.le_trans (Nat.le_of_eq tpA_len) (by omega)
  refine j_V.ldL xyrA_M xyrA_89 rfl (i := 0) (kd := 2) (v := .ref 325) (pcJ := 90) rfl L rfl rfl rfl ?_
  refine j_V.one xyrA_M xyrA_90 (by decide) (pcJ := 93) (stJ := [.long (131277443786868 : Int64), .ref 325]) rfl ?_
  refine j_V.cl xyrA_M xyrA_93 rfl (md := 3) (mj := 55) rfl (by decide) xyw_M (As := [.ref 325, .long (131277443786868 : Int64)]) (rest := []) (jk_spl3 (K.at rfl) rfl rfl rfl (Nat.le_of_ble_eq_true rfl) (Nat.le_of_ble_eq_true rfl)) (fun d => xyw_ok H (by omega) (K.fi [325, 326] rfl rfl)) ?_
  rintro r h9 ⟨rfl, b12, H, K9⟩
  have K : KN h9 [(325, .inl (6, [.ref 326, .int (nI (twA (131277443786868 : Int64) 8 (tpA 32 (tnA (gA slo x2) (twA (1936486263 : Int64) 8 (tpA 32 (tnA x3 (txN ns sn (gA tto x2) (txN ns sn (gA frm x2) (tnA (gA siz x2) (twA (gL tn x2) 8 (tpA 32 (twA (500135192942 : Int64) 8 T)))))))))))).length)])), (326, .inr (.inl (1, b12))), (327, .inl (2, [.int ns, .ref 328, .ref 329, .ref 330, .ref 331, .int nt, .ref 332, .ref 333, .ref 334, .ref 335, .ref 336, .ref 337, .ref 338, .int cel, .ref 339, .ref 340, .ref 341, .ref 342])), (328, .inr (.inr (.inl sn))), (332, .inr (.inr (.inl tn))), (333, .inr (.inl (0, siz))), (334, .inr (.inl (0, frm))), (335, .inr (.inl (0, tto))), (337, .inr (.inl (0, slo))), (338, .inr (.inl (0, wei)))] h0 := K.mg K9 rfl rfl
  clear K9
  show j_V jP _ 53 96 lv [] h9 _
  have q20 : (twA (131277443786868 : Int64) 8 (tpA 32 (tnA (gA slo x2) (twA (1936486263 : Int64) 8 (tpA 32 (tnA x3 (txN ns sn (gA tto x2) (txN ns sn (gA frm x2) (tnA (gA siz x2) (twA (gL tn x2) 8 (tpA 32 (twA (500135192942 : Int64) 8 T)))))))))))).length ≤ T.length + 65 := Nat.le_trans (twA_len) (by omega)
  refine j_V.ldL xyrA_M xyrA_96 rfl (i := 0) (kd := 2) (v := .ref 325) (pcJ := 97) rfl L rfl rfl rfl ?_
  refine j_V.ldL xyrA_M xyrA_97 rfl (i := 1) (kd := 2) (v := .ref 327) (pcJ := 98) rfl L rfl rfl rfl ?_
  refine j_V.getK xyrA_M xyrA_98 (ci := 2) (j := 12) rfl K rfl rfl ?_
  refine j_V.ldL xyrA_M xyrA_101 rfl (i := 2) (kd := 0) (v := .int x2) (pcJ := 102) rfl L rfl rfl rfl ?_
  refine j_V.iaA xyrA_M xyrA_102 K rfl ?_
  refine j_V.cl xyrA_M xyrA_103 rfl (md := 3) (mj := 56) rfl (by decide) xyn_M (As := [.ref 325, .int (gA wei x2)]) (rest := []) (jk_spl3 (K.at rfl) rfl rfl rfl (Nat.le_of_ble_eq_true rfl) (Nat.le_of_ble_eq_true rfl)) (fun d => xyn_ok H (by omega) (K.fi [325, 326] rfl rfl)) ?_
  rintro r h9 ⟨rfl, b13, H, K9⟩
  have K : KN h9 [(325, .inl (6, [.ref 326, .int (nI (tnA (gA wei x2) (twA (131277443786868 : Int64) 8 (tpA 32 (tnA (gA slo x2) (twA (1936486263 : Int64) 8 (tpA 32 (tnA x3 (txN ns sn (gA tto x2) (txN ns sn (gA frm x2) (tnA (gA siz x2) (twA (gL tn x2) 8 (tpA 32 (twA (500135192942 : Int64) 8 T))))))))))))).length)])), (326, .inr (.inl (1, b13))), (327, .inl (2, [.int ns, .ref 328, .ref 329, .ref 330, .ref 331, .int nt, .ref 332, .ref 333, .ref 334, .ref 335, .ref 336, .ref 337, .ref 338, .int cel, .ref 339, .ref 340, .ref 341, .ref 342])), (328, .inr (.inr (.inl sn))), (332, .inr (.inr (.inl tn))), (333, .inr (.inl (0, siz))), (334, .inr (.inl (0, frm))), (335, .inr (.inl (0, tto))), (337, .inr (.inl (0, slo))), (338, .inr (.inl (0, wei)))] h0 := K.mg K9 rfl rfl
  clear K9
  show j_V jP _ 53 106 lv [] h9 _
  have q21 : (tnA (gA wei x2) (twA (131277443786868 : Int64) 8 (tpA 32 (tnA (gA slo x2) (twA (1936486263 : Int64) 8 (tpA 32 (tnA x3 (txN ns sn (gA tto x2) (txN ns sn (gA frm x2) (tnA (gA siz x2) (twA (gL tn x2) 8 (tpA 32 (twA (500135192942 : Int64) 8 T))))))))))))).length ≤ T.length + 69 := Nat.le_trans (tnA_len) (by omega)
  refine j_V.ldL xyrA_M xyrA_106 rfl (i := 0) (kd := 2) (v := .ref 325) (pcJ := 107) rfl L rfl rfl rfl ?_
  refine j_V.one xyrA_M xyrA_107 (by decide) (pcJ := 109) (stJ := [.int 59, .ref 325]) rfl ?_
  refine j_V.cl xyrA_M xyrA_109 rfl (md := 3) (mj := 57) rfl (by decide) xyp_M (As := [.ref 325, .int 59]) (rest := []) (jk_spl3 (K.at rfl) rfl rfl rfl (Nat.le_of_ble_eq_true rfl) (Nat.le_of_ble_eq_true rfl)) (fun d => xyp_ok H (by omega) (K.fi [325, 326] rfl rfl)) ?_
  rintro r h9 ⟨rfl, b14, H, K9⟩
  have K : KN h9 [(325, .inl (6, [.ref 326, .int (nI (tpA 59 (tnA (gA wei x2) (twA (131277443786868 : Int64) 8 (tpA 32 (tnA (gA slo x2) (twA (1936486263 : Int64) 8 (tpA 32 (tnA x3 (txN ns sn (gA tto x2) (txN ns sn (gA frm x2) (tnA (gA siz x2) (twA (gL tn x2) 8 (tpA 32 (twA (500135192942 : Int64) 8 T)))))))))))))).length)])), (326, .inr (.inl (1, b14))), (327, .inl (2, [.int ns, .ref 328, .ref 329, .ref 330, .ref 331, .int nt, .ref 332, .ref 333, .ref 334, .ref 335, .ref 336, .ref 337, .ref 338, .int cel, .ref 339, .ref 340, .ref 341, .ref 342])), (328, .inr (.inr (.inl sn))), (332, .inr (.inr (.inl tn))), (333, .inr (.inl (0, siz))), (334, .inr (.inl (0, frm))), (335, .inr (.inl (0, tto))), (337, .inr (.inl (0, slo))), (338, .inr (.inl (0, wei)))] h0 := K.mg K9 rfl rfl
  clear K9
  show j_V jP _ 53 112 lv [] h9 _
  have q22 : (tpA 59 (tnA (gA wei x2) (twA (131277443786868 : Int64) 8 (tpA 32 (tnA (gA slo x2) (twA (1936486263 : Int64) 8 (tpA 32 (tnA x3 (txN ns sn (gA tto x2) (txN ns sn (gA frm x2) (tnA (gA siz x2) (twA (gL tn x2) 8 (tpA 32 (twA (500135192942 : Int64) 8 T)))))))))))))).length ≤ T.length + 70 := Nat.le_trans (Nat.le_of_eq tpA_len) (by omega)
  exact j_V.ret xyrA_M xyrA_112 rfl rfl ⟨rfl, _, H, K⟩
set_option maxRecDepth 100000 in
theorem xyvA_M : j_meth jP 51 = some (yX6_write, cX6_write, 4, none, 2, false, 6) := rfl
set_option maxRecDepth 100000 in
theorem xyvA_0 : j_code jP 51 0 = some (.aload_n 0) := rfl
set_option maxRecDepth 100000 in
theorem xyvA_1 : j_code jP 51 1 = some (.iconst 0) := rfl
set_option maxRecDepth 100000 in
theorem xyvA_2 : j_code jP 51 2 = some (.putfield 15) := rfl
set_option maxRecDepth 100000 in
theorem xyvA_5 : j_code jP 51 5 = some (.iconst 0) := rfl
set_option maxRecDepth 100000 in
theorem xyvA_6 : j_code jP 51 6 = some (.istore_n 3) := rfl
set_option maxRecDepth 100000 in
theorem xyvA_7 : j_code jP 51 7 = some (.iload_n 3) := rfl
set_option maxRecDepth 100000 in
theorem xyvA_8 : j_code jP 51 8 = some (.aload_n 1) := rfl
set_option maxRecDepth 100000 in
theorem xyvA_9 : j_code jP 51 9 = some (.getfield 19) := rfl
set_option maxRecDepth 100000 in
theorem xyvA_12 : j_code jP 51 12 = some (.if_icmp .ge 15) := rfl
set_option maxRecDepth 100000 in
theorem xyvA_15 : j_code jP 51 15 = some (.aload_n 0) := rfl
set_option maxRecDepth 100000 in
theorem xyvA_16 : j_code jP 51 16 = some (.aload_n 1) := rfl
set_option maxRecDepth 100000 in
theorem xyvA_17 : j_code jP 51 17 = some (.iload_n 3) := rfl
set_option maxRecDepth 100000 in
theorem xyvA_18 : j_code jP 51 18 = some (.invokevirtual 24) := rfl
set_option maxRecDepth 100000 in
theorem xyvA_21 : j_code jP 51 21 = some (.iinc 3 1) := rfl
set_option maxRecDepth 100000 in
theorem xyvA_24 : j_code jP 51 24 = some (.goto (-17)) := rfl
set_option maxRecDepth 100000 in
theorem xyvA_27 : j_code jP 51 27 = some (.iconst 0) := rfl
set_option maxRecDepth 100000 in
theorem xyvA_28 : j_code jP 51 28 = some (.istore_n 3) := rfl
set_option maxRecDepth 100000 in
theorem xyvA_29 : j_code jP 51 29 = some (.iload_n 3) := rfl
set_option maxRecDepth 100000 in
theorem xyvA_30 : j_code jP 51 30 = some (.aload_n 1) := rfl
set_option maxRecDepth 100000 in
theorem xyvA_31 : j_code jP 51 31 = some (.getfield 28) := rfl
set_option maxRecDepth 100000 in
theorem xyvA_34 : j_code jP 51 34 = some (.if_icmp .ge 21) := rfl
set_option maxRecDepth 100000 in
theorem xyvA_37 : j_code jP 51 37 = some (.aload_n 0) := rfl
set_option maxRecDepth 100000 in
theorem xyvA_38 : j_code jP 51 38 = some (.aload_n 1) := rfl
set_option maxRecDepth 100000 in
theorem xyvA_39 : j_code jP 51 39 = some (.iload_n 3) := rfl
set_option maxRecDepth 100000 in
theorem xyvA_40 : j_code jP 51 40 = some (.aload_n 2) := rfl
set_option maxRecDepth 100000 in
theorem xyvA_41 : j_code jP 51 41 = some (.getfield 31) := rfl
set_option maxRecDepth 100000 in
theorem xyvA_44 : j_code jP 51 44 = some (.iload_n 3) := rfl
set_option maxRecDepth 100000 in
theorem xyvA_45 : j_code jP 51 45 = some (.iaload) := rfl
set_option maxRecDepth 100000 in
theorem xyvA_46 : j_code jP 51 46 = some (.invokevirtual 37) := rfl
set_option maxRecDepth 100000 in
theorem xyvA_49 : j_code jP 51 49 = some (.iinc 3 1) := rfl
set_option maxRecDepth 100000 in
theorem xyvA_52 : j_code jP 51 52 = some (.goto (-23)) := rfl
set_option maxRecDepth 100000 in
theorem xyvA_55 : j_code jP 51 55 = some (.return_) := rfl
theorem xyvA_t {d S n : Nat} {u : Nat → Value} {sn tn : List Int64} {run tra len siz frm tto slo wei sta : List Int32} {cel : Int32} : ∀ (f j : Nat) (T b : List Int32) (lv : J_L) (h h0 : J_H), j + f = n → n ≤ 5 → tT 700 T b → T.length + 70 * f ≤ 700 → LK lv [(0, .ref 325), (1, .ref 327), (2, .ref 4), (3, .int (nI j))] → KN h [(4, .inl (7, [.ref 327, (u 1), (u 2), (u 3), (u 4), .ref 6, (u 6), (u 7), (u 8), (u 9), (u 10), (u 11), (u 12), (u 13), (u 14), (u 15), (u 16), (u 17), (u 18)])), (6, .inr (.inl (0, sta))), (325, .inl (6, [.ref 326, .int (nI T.length)])), (326, .inr (.inl (1, b))), (327, .inl (2, [.int (nI S), .ref 328, .ref 329, .ref 330, .ref 331, .int (nI n), .ref 332, .ref 333, .ref 334, .ref 335, .ref 336, .ref 337, .ref 338, .int cel, .ref 339, .ref 340, .ref 341, .ref 342])), (328, .inr (.inr (.inl sn))), (329, .inr (.inl (0, run))), (330, .inr (.inl (0, tra))), (331, .inr (.inl (0, len))), (332, .inr (.inr (.inl tn))), (333, .inr (.inl (0, siz))), (334, .inr (.inl (0, frm))), (335, .inr (.inl (0, tto))), (337, .inr (.inl (0, slo))), (338, .inr (.inl (0, wei)))] h0 → j_V jP d 51 29 lv [] h (fun rv h' => rv = none ∧ ∃ b', tT 700 (tlA (txT (nI S) sn tn siz frm tto slo wei sta) f (nI j) T) b' ∧ KN h' [(4, .inl (7, [.ref 327, (u 1), (u 2), (u 3), (u 4), .ref 6, (u 6), (u 7), (u 8), (u 9), (u 10), (u 11), (u 12), (u 13), (u 14), (u 15), (u 16), (u 17), (u 18)])), (6, .inr (.inl (0, sta))), (325, .inl (6, [.ref 326, .int (nI (tlA (txT (nI S) sn tn siz frm tto slo wei sta) f (nI j) T).length)])), (326, .inr (.inl (1, b'))), (327, .inl (2, [.int (nI S), .ref 328, .ref 329, .ref 330, .ref 331, .int (nI n), .ref 332, .ref 333, .ref 334, .ref 335, .ref 336, .ref 337, .ref 338, .int cel, .ref 339, .ref 340, .ref 341, .ref 342])), (328, .inr (.inr (.inl sn))), (329, .inr (.inl (0, run))), (330, .inr (.inl (0, tra))), (331, .inr (.inl (0, len))), (332, .inr (.inr (.inl tn))), (333, .inr (.inl (0, siz))), (334, .inr (.inl (0, frm))), (335, .inr (.inl (0, tto))), (337, .inr (.inl (0, slo))), (338, .inr (.inl (0, wei)))] h0) := by
  intro f
  induction f with
  | zero =>
    intro j T b lv h h0 e h5 H hl L K
    refine j_V.ldL xyvA_M xyvA_29 rfl (i := 3) (kd := 0) (v := .int (nI j)) (pcJ := 30) rfl L rfl rfl rfl ?_
    refine j_V.ldL xyvA_M xyvA_30 rfl (i := 1) (kd := 2) (v := .ref 327) (pcJ := 31) rfl L rfl rfl rfl ?_
    refine j_V.getK xyvA_M xyvA_31 (ci := 2) (j := 5) rfl K rfl rfl ?_
    refine j_V.icmp xyvA_M xyvA_34 (t := 55) rfl (fun c34_0 => ?_) (fun c34_0 => ?_)
    · replace c34_0 : ¬ ((nI j) < (nI n)) := jd_ge c34_0
      exact j_V.ret xyvA_M xyvA_55 rfl rfl ⟨rfl, _, H, K⟩
    · replace c34_0 : (nI j) < (nI n) := jd_gen c34_0
      exact absurd c34_0 (by rw [show j = n by omega]; exact Int32.lt_irrefl)
  | succ f ih =>
    intro j T b lv h h0 e h5 H hl L K
    refine j_V.ldL xyvA_M xyvA_29 rfl (i := 3) (kd := 0) (v := .int (nI j)) (pcJ := 30) rfl L rfl rfl rfl ?_
    refine j_V.ldL xyvA_M xyvA_30 rfl (i := 1) (kd := 2) (v := .ref 327) (pcJ := 31) rfl L rfl rfl rfl ?_
    refine j_V.getK xyvA_M xyvA_31 (ci := 2) (j := 5) rfl K rfl rfl ?_
    refine j_V.icmp xyvA_M xyvA_34 (t := 55) rfl (fun c34_0 => ?_) (fun c34_0 => ?_)
    · replace c34_0 : ¬ ((nI j) < (nI n)) := jd_ge c34_0
      exact absurd (nI_lt (by omega) (by omega)) c34_0
    · replace c34_0 : (nI j) < (nI n) := jd_gen c34_0
      refine j_V.ldL xyvA_M xyvA_37 rfl (i := 0) (kd := 2) (v := .ref 325) (pcJ := 38) rfl L rfl rfl rfl ?_
      refine j_V.ldL xyvA_M xyvA_38 rfl (i := 1) (kd := 2) (v := .ref 327) (pcJ := 39) rfl L rfl rfl rfl ?_
      refine j_V.ldL xyvA_M xyvA_39 rfl (i := 3) (kd := 0) (v := .int (nI j)) (pcJ := 40) rfl L rfl rfl rfl ?_
      refine j_V.ldL xyvA_M xyvA_40 rfl (i := 2) (kd := 2) (v := .ref 4) (pcJ := 41) rfl L rfl rfl rfl ?_
      refine j_V.getK xyvA_M xyvA_41 (ci := 7) (j := 5) rfl K rfl rfl ?_
      refine j_V.ldL xyvA_M xyvA_44 rfl (i := 3) (kd := 0) (v := .int (nI j)) (pcJ := 45) rfl L rfl rfl rfl ?_
      refine j_V.iaA xyvA_M xyvA_45 K rfl ?_
      refine j_V.cl xyvA_M xyvA_46 rfl (md := 3) (mj := 53) rfl (by decide) xyrA_M (As := [.ref 325, .ref 327, .int (nI j), .int (gA sta (nI j))]) (rest := []) (jk_spl3 (K.at rfl) rfl rfl rfl (Nat.le_of_ble_eq_true rfl) (Nat.le_of_ble_eq_true rfl)) (fun d => xyrA_ok H (by omega) (K.fi [325, 326, 327, 328, 332, 333, 334, 335, 337, 338] rfl rfl)) ?_
      rintro r h9 ⟨rfl, b1, H, K9⟩
      have K : KN h9 [(4, .inl (7, [.ref 327, (u 1), (u 2), (u 3), (u 4), .ref 6, (u 6), (u 7), (u 8), (u 9), (u 10), (u 11), (u 12), (u 13), (u 14), (u 15), (u 16), (u 17), (u 18)])), (6, .inr (.inl (0, sta))), (325, .inl (6, [.ref 326, .int (nI (txR (nI S) sn tn siz frm tto slo wei (nI j) (gA sta (nI j)) T).length)])), (326, .inr (.inl (1, b1))), (327, .inl (2, [.int (nI S), .ref 328, .ref 329, .ref 330, .ref 331, .int (nI n), .ref 332, .ref 333, .ref 334, .ref 335, .ref 336, .ref 337, .ref 338, .int cel, .ref 339, .ref 340, .ref 341, .ref 342])), (328, .inr (.inr (.inl sn))), (329, .inr (.inl (0, run))), (330, .inr (.inl (0, tra))), (331, .inr (.inl (0, len))), (332, .inr (.inr (.inl tn))), (333, .inr (.inl (0, siz))), (334, .inr (.inl (0, frm))), (335, .inr (.inl (0, tto))), (337, .inr (.inl (0, slo))), (338, .inr (.inl (0, wei)))] h0 := K.mg K9 rfl rfl
      clear K9
      show j_V jP _ 51 49 lv [] h9 _
      have q23 : (txR (nI S) sn tn siz frm tto slo wei (nI j) (gA sta (nI j)) T).length ≤ T.length + 70 := Nat.le_trans (txR_len) (by omega)
      refine j_V.inL2 xyvA_M xyvA_49 (i := 3) (kl' := [(0, .ref 325), (1, .ref 327), (2, .ref 4), (3, .int ((nI j) + 1))]) (pcJ := 52) L rfl rfl rfl rfl (fun lv L => ?_)
      refine j_V.gto xyvA_M xyvA_52 (t := 29) rfl ?_
      rw [nI_s] at L
      rw [tlA_s, nI_s]
      have hq : (txT (nI S) sn tn siz frm tto slo wei sta (nI j) T).length ≤ T.length + 70 := txR_len
      exact ih _ _ _ _ _ _ (by omega) h5 H (by omega) L K
theorem xyvA_s {d S n : Nat} {u : Nat → Value} {sn tn : List Int64} {run tra len siz frm tto slo wei sta : List Int32} {cel : Int32} : ∀ (f j : Nat) (T b : List Int32) (lv : J_L) (h h0 : J_H), j + f = S → n ≤ 5 → S ≤ 7 → (∀ j, j < S → lpN (gA tra (nI j)) 0 ≤ 3) → tT 700 T b → T.length + 34 * f + 70 * n ≤ 700 → LK lv [(0, .ref 325), (1, .ref 327), (2, .ref 4), (3, .int (nI j))] → KN h [(4, .inl (7, [.ref 327, (u 1), (u 2), (u 3), (u 4), .ref 6, (u 6), (u 7), (u 8), (u 9), (u 10), (u 11), (u 12), (u 13), (u 14), (u 15), (u 16), (u 17), (u 18)])), (6, .inr (.inl (0, sta))), (325, .inl (6, [.ref 326, .int (nI T.length)])), (326, .inr (.inl (1, b))), (327, .inl (2, [.int (nI S), .ref 328, .ref 329, .ref 330, .ref 331, .int (nI n), .ref 332, .ref 333, .ref 334, .ref 335, .ref 336, .ref 337, .ref 338, .int cel, .ref 339, .ref 340, .ref 341, .ref 342])), (328, .inr (.inr (.inl sn))), (329, .inr (.inl (0, run))), (330, .inr (.inl (0, tra))), (331, .inr (.inl (0, len))), (332, .inr (.inr (.inl tn))), (333, .inr (.inl (0, siz))), (334, .inr (.inl (0, frm))), (335, .inr (.inl (0, tto))), (337, .inr (.inl (0, slo))), (338, .inr (.inl (0, wei)))] h0 → j_V jP d 51 7 lv [] h (fun rv h' => rv = none ∧ ∃ b', tT 700 (tlA (txT (nI S) sn tn siz frm tto slo wei sta) n (nI 0) (tlA (txS sn run tra len) f (nI j) T)) b' ∧ KN h' [(4, .inl (7, [.ref 327, (u 1), (u 2), (u 3), (u 4), .ref 6, (u 6), (u 7), (u 8), (u 9), (u 10), (u 11), (u 12), (u 13), (u 14), (u 15), (u 16), (u 17), (u 18)])), (6, .inr (.inl (0, sta))), (325, .inl (6, [.ref 326, .int (nI (tlA (txT (nI S) sn tn siz frm tto slo wei sta) n (nI 0) (tlA (txS sn run tra len) f (nI j) T)).length)])), (326, .inr (.inl (1, b'))), (327, .inl (2, [.int (nI S), .ref 328, .ref 329, .ref 330, .ref 331, .int (nI n), .ref 332, .ref 333, .ref 334, .ref 335, .ref 336, .ref 337, .ref 338, .int cel, .ref 339, .ref 340, .ref 341, .ref 342])), (328, .inr (.inr (.inl sn))), (329, .inr (.inl (0, run))), (330, .inr (.inl (0, tra))), (331, .inr (.inl (0, len))), (332, .inr (.inr (.inl tn))), (333, .inr (.inl (0, siz))), (334, .inr (.inl (0, frm))), (335, .inr (.inl (0, tto))), (337, .inr (.inl (0, slo))), (338, .inr (.inl (0, wei)))] h0) := by
  intro f
  induction f with
  | zero =>
    intro j T b lv h h0 e h5 h7 hk H hl L K
    refine j_V.ldL xyvA_M xyvA_7 rfl (i := 3) (kd := 0) (v := .int (nI j)) (pcJ := 8) rfl L rfl rfl rfl ?_
    refine j_V.ldL xyvA_M xyvA_8 rfl (i := 1) (kd := 2) (v := .ref 327) (pcJ := 9) rfl L rfl rfl rfl ?_
    refine j_V.getK xyvA_M xyvA_9 (ci := 2) (j := 0) rfl K rfl rfl ?_
    refine j_V.icmp xyvA_M xyvA_12 (t := 27) rfl (fun c12_0 => ?_) (fun c12_0 => ?_)
    · replace c12_0 : ¬ ((nI j) < (nI S)) := jd_ge c12_0
      refine j_V.one xyvA_M xyvA_27 (by decide) (pcJ := 28) (stJ := [.int 0]) rfl ?_
      refine j_V.stL2 xyvA_M xyvA_28 rfl (i := 3) (kd := 0) (kl' := [(0, .ref 325), (1, .ref 327), (2, .ref 4), (3, .int 0)]) (pcJ := 29) rfl L rfl (by decide) rfl rfl rfl (fun lv L => ?_)
      exact xyvA_t n 0 T _ _ _ _ (by omega) h5 H (by omega) L K
    · replace c12_0 : (nI j) < (nI S) := jd_gen c12_0
      exact absurd c12_0 (by rw [show j = S by omega]; exact Int32.lt_irrefl)
  | succ f ih =>
    intro j T b lv h h0 e h5 h7 hk H hl L K
    refine j_V.ldL xyvA_M xyvA_7 rfl (i := 3) (kd := 0) (v := .int (nI j)) (pcJ := 8) rfl L rfl rfl rfl ?_
    refine j_V.ldL xyvA_M xyvA_8 rfl (i := 1) (kd := 2) (v := .ref 327) (pcJ := 9) rfl L rfl rfl rfl ?_
    refine j_V.getK xyvA_M xyvA_9 (ci := 2) (j := 0) rfl K rfl rfl ?_
    refine j_V.icmp xyvA_M xyvA_12 (t := 27) rfl (fun c12_0 => ?_) (fun c12_0 => ?_)
    · replace c12_0 : ¬ ((nI j) < (nI S)) := jd_ge c12_0
      exact absurd (nI_lt (by omega) (by omega)) c12_0
    · replace c12_0 : (nI j) < (nI S) := jd_gen c12_0
      refine j_V.ldL xyvA_M xyvA_15 rfl (i := 0) (kd := 2) (v := .ref 325) (pcJ := 16) rfl L rfl rfl rfl ?_
      refine j_V.ldL xyvA_M xyvA_16 rfl (i := 1) (kd := 2) (v := .ref 327) (pcJ := 17) rfl L rfl rfl rfl ?_
      refine j_V.ldL xyvA_M xyvA_17 rfl (i := 3) (kd := 0) (v := .int (nI j)) (pcJ := 18) rfl L rfl rfl rfl ?_
      refine j_V.cl xyvA_M xyvA_18 rfl (md := 3) (mj := 52) rfl (by decide) xysA_M (As := [.ref 325, .ref 327, .int (nI j)]) (rest := []) (jk_spl3 (K.at rfl) rfl rfl rfl (Nat.le_of_ble_eq_true rfl) (Nat.le_of_ble_eq_true rfl)) (fun d => xysA_ok H (by have := hk j (by omega); omega) (K.fi [325, 326, 327, 328, 329, 330, 331] rfl rfl)) ?_
      rintro r h9 ⟨rfl, b1, H, K9⟩
      have K : KN h9 [(4, .inl (7, [.ref 327, (u 1), (u 2), (u 3), (u 4), .ref 6, (u 6), (u 7), (u 8), (u 9), (u 10), (u 11), (u 12), (u 13), (u 14), (u 15), (u 16), (u 17), (u 18)])), (6, .inr (.inl (0, sta))), (325, .inl (6, [.ref 326, .int (nI (txS sn run tra len (nI j) T).length)])), (326, .inr (.inl (1, b1))), (327, .inl (2, [.int (nI S), .ref 328, .ref 329, .ref 330, .ref 331, .int (nI n), .ref 332, .ref 333, .ref 334, .ref 335, .ref 336, .ref 337, .ref 338, .int cel, .ref 339, .ref 340, .ref 341, .ref 342])), (328, .inr (.inr (.inl sn))), (329, .inr (.inl (0, run))), (330, .inr (.inl (0, tra))), (331, .inr (.inl (0, len))), (332, .inr (.inr (.inl tn))), (333, .inr (.inl (0, siz))), (334, .inr (.inl (0, frm))), (335, .inr (.inl (0, tto))), (337, .inr (.inl (0, slo))), (338, .inr (.inl (0, wei)))] h0 := K.mg K9 rfl rfl
      clear K9
      show j_V jP _ 51 21 lv [] h9 _
      have q24 : (txS sn run tra len (nI j) T).length ≤ T.length + 34 := Nat.le_trans (txS_len) (by have := hk j (by omega); omega)
      refine j_V.inL2 xyvA_M xyvA_21 (i := 3) (kl' := [(0, .ref 325), (1, .ref 327), (2, .ref 4), (3, .int ((nI j) + 1))]) (pcJ := 24) L rfl rfl rfl rfl (fun lv L => ?_)
      refine j_V.gto xyvA_M xyvA_24 (t := 7) rfl ?_
      rw [nI_s] at L
      rw [tlA_s, nI_s]
      have hk0 := hk j (by omega)
      have hq : (txS sn run tra len (nI j) T).length ≤ _ := txS_len
      exact ih _ _ _ _ _ _ (by omega) h5 h7 hk H (by omega) L K
theorem xyvA_ok {h h0 : J_H} {d S n : Nat} {u : Nat → Value} {sn tn : List Int64} {run tra len siz frm tto slo wei sta : List Int32} {cel : Int32} {ln : Int32} {b : List Int32} (h5 : n ≤ 5) (h7 : S ≤ 7) (hk : ∀ j, j < S → lpN (gA tra (nI j)) 0 ≤ 3) (hb : b.length = 700) (K : KN h [(4, .inl (7, [.ref 327, (u 1), (u 2), (u 3), (u 4), .ref 6, (u 6), (u 7), (u 8), (u 9), (u 10), (u 11), (u 12), (u 13), (u 14), (u 15), (u 16), (u 17), (u 18)])), (6, .inr (.inl (0, sta))), (325, .inl (6, [.ref 326, .int ln])), (326, .inr (.inl (1, b))), (327, .inl (2, [.int (nI S), .ref 328, .ref 329, .ref 330, .ref 331, .int (nI n), .ref 332, .ref 333, .ref 334, .ref 335, .ref 336, .ref 337, .ref 338, .int cel, .ref 339, .ref 340, .ref 341, .ref 342])), (328, .inr (.inr (.inl sn))), (329, .inr (.inl (0, run))), (330, .inr (.inl (0, tra))), (331, .inr (.inl (0, len))), (332, .inr (.inr (.inl tn))), (333, .inr (.inl (0, siz))), (334, .inr (.inl (0, frm))), (335, .inr (.inl (0, tto))), (337, .inr (.inl (0, slo))), (338, .inr (.inl (0, wei)))] h0) : j_V jP d 51 0 (lv_args 0 [.ref 325, .ref 327, .ref 4]) [] h (fun rv h' => rv = none ∧ ∃ b', tT 700 (txW S n sn tn run tra len siz frm tto slo wei sta) b' ∧ KN h' [(4, .inl (7, [.ref 327, (u 1), (u 2), (u 3), (u 4), .ref 6, (u 6), (u 7), (u 8), (u 9), (u 10), (u 11), (u 12), (u 13), (u 14), (u 15), (u 16), (u 17), (u 18)])), (6, .inr (.inl (0, sta))), (325, .inl (6, [.ref 326, .int (nI (txW S n sn tn run tra len siz frm tto slo wei sta).length)])), (326, .inr (.inl (1, b'))), (327, .inl (2, [.int (nI S), .ref 328, .ref 329, .ref 330, .ref 331, .int (nI n), .ref 332, .ref 333, .ref 334, .ref 335, .ref 336, .ref 337, .ref 338, .int cel, .ref 339, .ref 340, .ref 341, .ref 342])), (328, .inr (.inr (.inl sn))), (329, .inr (.inl (0, run))), (330, .inr (.inl (0, tra))), (331, .inr (.inl (0, len))), (332, .inr (.inr (.inl tn))), (333, .inr (.inl (0, siz))), (334, .inr (.inl (0, frm))), (335, .inr (.inl (0, tto))), (337, .inr (.inl (0, slo))), (338, .inr (.inl (0, wei)))] h0) := by
  show j_V jP d 51 0 [(0, .ref 325), (1, .ref 327), (2, .ref 4)] [] h _
  obtain ⟨lv, elv, L⟩ : ∃ lv, lv = [(0, .ref 325), (1, .ref 327), (2, .ref 4)] ∧ LK lv [(0, .ref 325), (1, .ref 327), (2, .ref 4)] := ⟨_, rfl, LK.rf⟩
  rw [← elv]
  clear elv
  refine j_V.ldL xyvA_M xyvA_0 rfl (i := 0) (kd := 2) (v := .ref 325) (pcJ := 1) rfl L rfl rfl rfl ?_
  refine j_V.one xyvA_M xyvA_1 (by decide) (pcJ := 2) (stJ := [.int 0, .ref 325]) rfl ?_
  refine j_V.putK xyvA_M xyvA_2 (ci := 6) (j := 1) (k' := [(4, .inl (7, [.ref 327, (u 1), (u 2), (u 3), (u 4), .ref 6, (u 6), (u 7), (u 8), (u 9), (u 10), (u 11), (u 12), (u 13), (u 14), (u 15), (u 16), (u 17), (u 18)])), (6, .inr (.inl (0, sta))), (325, .inl (6, [.ref 326, .int 0])), (326, .inr (.inl (1, b))), (327, .inl (2, [.int (nI S), .ref 328, .ref 329, .ref 330, .ref 331, .int (nI n), .ref 332, .ref 333, .ref 334, .ref 335, .ref 336, .ref 337, .ref 338, .int cel, .ref 339, .ref 340, .ref 341, .ref 342])), (328, .inr (.inr (.inl sn))), (329, .inr (.inl (0, run))), (330, .inr (.inl (0, tra))), (331, .inr (.inl (0, len))), (332, .inr (.inr (.inl tn))), (333, .inr (.inl (0, siz))), (334, .inr (.inl (0, frm))), (335, .inr (.inl (0, tto))), (337, .inr (.inl (0, slo))), (338, .inr (.inl (0, wei)))]) rfl K rfl (Nat.le_of_ble_eq_true rfl) rfl (Or.inl rfl) rfl rfl (fun h K => ?_)
  refine j_V.one xyvA_M xyvA_5 (by decide) (pcJ := 6) (stJ := [.int 0]) rfl ?_
  refine j_V.stL2 xyvA_M xyvA_6 rfl (i := 3) (kd := 0) (kl' := [(0, .ref 325), (1, .ref 327), (2, .ref 4), (3, .int 0)]) (pcJ := 7) rfl L rfl (by decide) rfl rfl rfl (fun lv L => ?_)
  exact xyvA_s S 0 [] _ _ _ _ (by omega) h5 h7 hk ⟨hb, fun i hi => absurd hi (Nat.not_lt_zero i)⟩ (show 0 + 34 * S + 70 * n ≤ 700 by omega) L K
theorem xytA_ok {h h0 : J_H} {d S n : Nat} {u : Nat → Value} {sn tn : List Int64} {run tra len siz frm tto slo wei sta : List Int32} {cel : Int32} {ln sst : Int32} {b : List Int32} (h5 : n ≤ 5) (h7 : S ≤ 7) (hk : ∀ j, j < S → lpN (gA tra (nI j)) 0 ≤ 3) (hb : b.length = 700) (K : KN h [(0, .inl (9, [.ref 1, .ref 3, .ref 4, .ref 29, .ref 281, .ref 325, .ref 327, .ref 343, .int sst])), (4, .inl (7, [.ref 327, (u 1), (u 2), (u 3), (u 4), .ref 6, (u 6), (u 7), (u 8), (u 9), (u 10), (u 11), (u 12), (u 13), (u 14), (u 15), (u 16), (u 17), (u 18)])), (6, .inr (.inl (0, sta))), (325, .inl (6, [.ref 326, .int ln])), (326, .inr (.inl (1, b))), (327, .inl (2, [.int (nI S), .ref 328, .ref 329, .ref 330, .ref 331, .int (nI n), .ref 332, .ref 333, .ref 334, .ref 335, .ref 336, .ref 337, .ref 338, .int cel, .ref 339, .ref 340, .ref 341, .ref 342])), (328, .inr (.inr (.inl sn))), (329, .inr (.inl (0, run))), (330, .inr (.inl (0, tra))), (331, .inr (.inl (0, len))), (332, .inr (.inr (.inl tn))), (333, .inr (.inl (0, siz))), (334, .inr (.inl (0, frm))), (335, .inr (.inl (0, tto))), (337, .inr (.inl (0, slo))), (338, .inr (.inl (0, wei)))] h0) : j_V jP d 158 0 (lv_args 0 [.ref 0]) [] h (fun rv h' => rv = some (.int (nI (txW S n sn tn run tra len siz frm tto slo wei sta).length)) ∧ ∃ b', tT 700 (txW S n sn tn run tra len siz frm tto slo wei sta) b' ∧ KN h' [(0, .inl (9, [.ref 1, .ref 3, .ref 4, .ref 29, .ref 281, .ref 325, .ref 327, .ref 343, .int 0])), (4, .inl (7, [.ref 327, (u 1), (u 2), (u 3), (u 4), .ref 6, (u 6), (u 7), (u 8), (u 9), (u 10), (u 11), (u 12), (u 13), (u 14), (u 15), (u 16), (u 17), (u 18)])), (6, .inr (.inl (0, sta))), (325, .inl (6, [.ref 326, .int (nI (txW S n sn tn run tra len siz frm tto slo wei sta).length)])), (326, .inr (.inl (1, b'))), (327, .inl (2, [.int (nI S), .ref 328, .ref 329, .ref 330, .ref 331, .int (nI n), .ref 332, .ref 333, .ref 334, .ref 335, .ref 336, .ref 337, .ref 338, .int cel, .ref 339, .ref 340, .ref 341, .ref 342])), (328, .inr (.inr (.inl sn))), (329, .inr (.inl (0, run))), (330, .inr (.inl (0, tra))), (331, .inr (.inl (0, len))), (332, .inr (.inr (.inl tn))), (333, .inr (.inl (0, siz))), (334, .inr (.inl (0, frm))), (335, .inr (.inl (0, tto))), (337, .inr (.inl (0, slo))), (338, .inr (.inl (0, wei)))] h0) := by
  show j_V jP d 158 0 [(0, .ref 0)] [] h _
  obtain ⟨lv, elv, L⟩ : ∃ lv, lv = [(0, .ref 0)] ∧ LK lv [(0, .ref 0)] := ⟨_, rfl, LK.rf⟩
  rw [← elv]
  clear elv
  refine j_V.ldL pca_M pca_0 rfl (i := 0) (kd := 2) (v := .ref 0) (pcJ := 1) rfl L rfl rfl rfl ?_
  refine j_V.getK pca_M pca_1 (ci := 9) (j := 5) rfl K rfl rfl ?_
  refine j_V.ldL pca_M pca_4 rfl (i := 0) (kd := 2) (v := .ref 0) (pcJ := 5) rfl L rfl rfl rfl ?_
  refine j_V.getK pca_M pca_5 (ci := 9) (j := 6) rfl K rfl rfl ?_
  refine j_V.ldL pca_M pca_8 rfl (i := 0) (kd := 2) (v := .ref 0) (pcJ := 9) rfl L rfl rfl rfl ?_
  refine j_V.getK pca_M pca_9 (ci := 9) (j := 2) rfl K rfl rfl ?_
  refine j_V.cl pca_M pca_12 rfl (md := 3) (mj := 51) rfl (by decide) xyvA_M (As := [.ref 325, .ref 327, .ref 4]) (rest := []) (jk_spl3 (K.at rfl) rfl rfl rfl (Nat.le_of_ble_eq_true rfl) (Nat.le_of_ble_eq_true rfl)) (fun d => xyvA_ok h5 h7 hk hb (K.fi [4, 6, 325, 326, 327, 328, 329, 330, 331, 332, 333, 334, 335, 337, 338] rfl rfl)) ?_
  rintro r h9 ⟨rfl, b9, H, K9⟩
  have K : KN h9 [(0, .inl (9, [.ref 1, .ref 3, .ref 4, .ref 29, .ref 281, .ref 325, .ref 327, .ref 343, .int sst])), (4, .inl (7, [.ref 327, (u 1), (u 2), (u 3), (u 4), .ref 6, (u 6), (u 7), (u 8), (u 9), (u 10), (u 11), (u 12), (u 13), (u 14), (u 15), (u 16), (u 17), (u 18)])), (6, .inr (.inl (0, sta))), (325, .inl (6, [.ref 326, .int (nI (txW S n sn tn run tra len siz frm tto slo wei sta).length)])), (326, .inr (.inl (1, b9))), (327, .inl (2, [.int (nI S), .ref 328, .ref 329, .ref 330, .ref 331, .int (nI n), .ref 332, .ref 333, .ref 334, .ref 335, .ref 336, .ref 337, .ref 338, .int cel, .ref 339, .ref 340, .ref 341, .ref 342])), (328, .inr (.inr (.inl sn))), (329, .inr (.inl (0, run))), (330, .inr (.inl (0, tra))), (331, .inr (.inl (0, len))), (332, .inr (.inr (.inl tn))), (333, .inr (.inl (0, siz))), (334, .inr (.inl (0, frm))), (335, .inr (.inl (0, tto))), (337, .inr (.inl (0, slo))), (338, .inr (.inl (0, wei)))] h0 := K.mg K9 rfl rfl
  clear K9
  show j_V jP _ 158 15 lv [] h9 _
  refine j_V.ldL pca_M pca_15 rfl (i := 0) (kd := 2) (v := .ref 0) (pcJ := 16) rfl L rfl rfl rfl ?_
  refine j_V.ldL pca_M pca_16 rfl (i := 0) (kd := 2) (v := .ref 0) (pcJ := 17) rfl L rfl rfl rfl ?_
  refine j_V.getK pca_M pca_17 (ci := 9) (j := 5) rfl K rfl rfl ?_
  refine j_V.getK pca_M pca_20 (ci := 6) (j := 1) rfl K rfl rfl ?_
  refine j_V.cl pca_M pca_23 rfl (md := 3) (mj := 159) rfl (by decide) pcaa_M (As := [.ref 0, .int (nI (txW S n sn tn run tra len siz frm tto slo wei sta).length)]) (rest := []) (jk_spl3 (K.at rfl) rfl rfl rfl (Nat.le_of_ble_eq_true rfl) (Nat.le_of_ble_eq_true rfl)) (fun d => xa49_ok (K.fi [0] rfl rfl)) ?_
  rintro r h8 ⟨rfl, K9⟩
  have K : KN h8 [(0, .inl (9, [.ref 1, .ref 3, .ref 4, .ref 29, .ref 281, .ref 325, .ref 327, .ref 343, .int 0])), (4, .inl (7, [.ref 327, (u 1), (u 2), (u 3), (u 4), .ref 6, (u 6), (u 7), (u 8), (u 9), (u 10), (u 11), (u 12), (u 13), (u 14), (u 15), (u 16), (u 17), (u 18)])), (6, .inr (.inl (0, sta))), (325, .inl (6, [.ref 326, .int (nI (txW S n sn tn run tra len siz frm tto slo wei sta).length)])), (326, .inr (.inl (1, b9))), (327, .inl (2, [.int (nI S), .ref 328, .ref 329, .ref 330, .ref 331, .int (nI n), .ref 332, .ref 333, .ref 334, .ref 335, .ref 336, .ref 337, .ref 338, .int cel, .ref 339, .ref 340, .ref 341, .ref 342])), (328, .inr (.inr (.inl sn))), (329, .inr (.inl (0, run))), (330, .inr (.inl (0, tra))), (331, .inr (.inl (0, len))), (332, .inr (.inr (.inl tn))), (333, .inr (.inl (0, siz))), (334, .inr (.inl (0, frm))), (335, .inr (.inl (0, tto))), (337, .inr (.inl (0, slo))), (338, .inr (.inl (0, wei)))] h0 := K.mg K9 rfl rfl
  show j_V jP _ 158 26 lv [.int (nI (txW S n sn tn run tra len siz frm tto slo wei sta).length)] h8 _
  exact j_V.ret pca_M pca_26 rfl rfl ⟨rfl, _, H, K⟩
set_option maxRecDepth 100000 in
theorem xyqB_M : j_meth jP 54 = some (yX6_putStationName, cX6_putStationName, 3, none, 2, false, 6) := rfl
set_option maxRecDepth 100000 in
theorem xyqB_0 : j_code jP 54 0 = some (.iload_n 2) := rfl
set_option maxRecDepth 100000 in
theorem xyqB_1 : j_code jP 54 1 = some (.ifCond .lt 27) := rfl
set_option maxRecDepth 100000 in
theorem xyqB_4 : j_code jP 54 4 = some (.iload_n 2) := rfl
set_option maxRecDepth 100000 in
theorem xyqB_5 : j_code jP 54 5 = some (.aload_n 1) := rfl
set_option maxRecDepth 100000 in
theorem xyqB_6 : j_code jP 54 6 = some (.getfield 19) := rfl
set_option maxRecDepth 100000 in
theorem xyqB_9 : j_code jP 54 9 = some (.if_icmp .ge 19) := rfl
set_option maxRecDepth 100000 in
theorem xyqB_12 : j_code jP 54 12 = some (.aload_n 0) := rfl
set_option maxRecDepth 100000 in
theorem xyqB_13 : j_code jP 54 13 = some (.bipush 32) := rfl
set_option maxRecDepth 100000 in
theorem xyqB_15 : j_code jP 54 15 = some (.invokevirtual 49) := rfl
set_option maxRecDepth 100000 in
theorem xyqB_18 : j_code jP 54 18 = some (.aload_n 0) := rfl
set_option maxRecDepth 100000 in
theorem xyqB_19 : j_code jP 54 19 = some (.aload_n 1) := rfl
set_option maxRecDepth 100000 in
theorem xyqB_20 : j_code jP 54 20 = some (.getfield 53) := rfl
set_option maxRecDepth 100000 in
theorem xyqB_23 : j_code jP 54 23 = some (.iload_n 2) := rfl
set_option maxRecDepth 100000 in
theorem xyqB_24 : j_code jP 54 24 = some (.laload) := rfl
set_option maxRecDepth 100000 in
theorem xyqB_25 : j_code jP 54 25 = some (.invokevirtual 45) := rfl
set_option maxRecDepth 100000 in
theorem xyqB_28 : j_code jP 54 28 = some (.return_) := rfl
theorem xyqB_ok {d : Nat} {h h0 : J_H} {T b : List Int32} {sn : List Int64} {ns nt cel x2 : Int32} (H : tT 700 T b) (hl : T.length + 9 ≤ 700) (K : KN h [(325, .inl (6, [.ref 326, .int (nI T.length)])), (326, .inr (.inl (1, b))), (343, .inl (2, [.int ns, .ref 344, .ref 345, .ref 346, .ref 347, .int nt, .ref 348, .ref 349, .ref 350, .ref 351, .ref 352, .ref 353, .ref 354, .int cel, .ref 355, .ref 356, .ref 357, .ref 358])), (344, .inr (.inr (.inl sn)))] h0) : j_V jP d 54 0 (lv_args 0 [.ref 325, .ref 343, .int x2]) [] h (fun rv h' => rv = none ∧ ∃ b', tT 700 (txN ns sn x2 T) b' ∧ KN h' [(325, .inl (6, [.ref 326, .int (nI (txN ns sn x2 T).length)])), (326, .inr (.inl (1, b'))), (343, .inl (2, [.int ns, .ref 344, .ref 345, .ref 346, .ref 347, .int nt, .ref 348, .ref 349, .ref 350, .ref 351, .ref 352, .ref 353, .ref 354, .int cel, .ref 355, .ref 356, .ref 357, .ref 358])), (344, .inr (.inr (.inl sn)))] h0) := by
  show j_V jP d 54 0 [(0, .ref 325), (1, .ref 343), (2, .int x2)] [] h _
  obtain ⟨lv, elv, L⟩ : ∃ lv, lv = [(0, .ref 325), (1, .ref 343), (2, .int x2)] ∧ LK lv [(0, .ref 325), (1, .ref 343), (2, .int x2)] := ⟨_, rfl, LK.rf⟩
  rw [← elv]
  clear elv
  refine j_V.ldL xyqB_M xyqB_0 rfl (i := 2) (kd := 0) (v := .int x2) (pcJ := 1) rfl L rfl rfl rfl ?_
  refine j_V.ifc xyqB_M xyqB_1 (t := 28) rfl (fun c1_0 => ?_) (fun c1_0 => ?_)
  · replace c1_0 : x2 < 0 := jd_lt c1_0
    rw [show txN ns sn x2 T = T from by unfold txN; rw [if_pos c1_0]]
    exact j_V.ret xyqB_M xyqB_28 rfl rfl ⟨rfl, _, H, K⟩
  · replace c1_0 : ¬ (x2 < 0) := jd_ltn c1_0
    refine j_V.ldL xyqB_M xyqB_4 rfl (i := 2) (kd := 0) (v := .int x2) (pcJ := 5) rfl L rfl rfl rfl ?_
    refine j_V.ldL xyqB_M xyqB_5 rfl (i := 1) (kd := 2) (v := .ref 343) (pcJ := 6) rfl L rfl rfl rfl ?_
    refine j_V.getK xyqB_M xyqB_6 (ci := 2) (j := 0) rfl K rfl rfl ?_
    refine j_V.icmp xyqB_M xyqB_9 (t := 28) rfl (fun c9_1 => ?_) (fun c9_1 => ?_)
    · replace c9_1 : ¬ (x2 < ns) := jd_ge c9_1
      rw [show txN ns sn x2 T = T from by unfold txN; rw [if_neg c1_0, if_neg c9_1]]
      exact j_V.ret xyqB_M xyqB_28 rfl rfl ⟨rfl, _, H, K⟩
    · replace c9_1 : x2 < ns := jd_gen c9_1
      refine j_V.ldL xyqB_M xyqB_12 rfl (i := 0) (kd := 2) (v := .ref 325) (pcJ := 13) rfl L rfl rfl rfl ?_
      refine j_V.one xyqB_M xyqB_13 (by decide) (pcJ := 15) (stJ := [.int 32, .ref 325]) rfl ?_
      refine j_V.cl xyqB_M xyqB_15 rfl (md := 3) (mj := 57) rfl (by decide) xyp_M (As := [.ref 325, .int 32]) (rest := []) (jk_spl3 (K.at rfl) rfl rfl rfl (Nat.le_of_ble_eq_true rfl) (Nat.le_of_ble_eq_true rfl)) (fun d => xyp_ok H (by omega) (K.fi [325, 326] rfl rfl)) ?_
      rintro r h9 ⟨rfl, b1, H, K9⟩
      have K : KN h9 [(325, .inl (6, [.ref 326, .int (nI (tpA 32 T).length)])), (326, .inr (.inl (1, b1))), (343, .inl (2, [.int ns, .ref 344, .ref 345, .ref 346, .ref 347, .int nt, .ref 348, .ref 349, .ref 350, .ref 351, .ref 352, .ref 353, .ref 354, .int cel, .ref 355, .ref 356, .ref 357, .ref 358])), (344, .inr (.inr (.inl sn)))] h0 := K.mg K9 rfl rfl
      clear K9
      show j_V jP _ 54 18 lv [] h9 _
      have q25 : (tpA 32 T).length ≤ T.length + 1 := Nat.le_trans (Nat.le_of_eq tpA_len) (by omega)
      refine j_V.ldL xyqB_M xyqB_18 rfl (i := 0) (kd := 2) (v := .ref 325) (pcJ := 19) rfl L rfl rfl rfl ?_
      refine j_V.ldL xyqB_M xyqB_19 rfl (i := 1) (kd := 2) (v := .ref 343) (pcJ := 20) rfl L rfl rfl rfl ?_
      refine j_V.getK xyqB_M xyqB_20 (ci := 2) (j := 1) rfl K rfl rfl ?_
      refine j_V.ldL xyqB_M xyqB_23 rfl (i := 2) (kd := 0) (v := .int x2) (pcJ := 24) rfl L rfl rfl rfl ?_
      refine j_V.laA xyqB_M xyqB_24 K rfl ?_
      refine j_V.cl xyqB_M xyqB_25 rfl (md := 3) (mj := 55) rfl (by decide) xyw_M (As := [.ref 325, .long (gL sn x2)]) (rest := []) (jk_spl3 (K.at rfl) rfl rfl rfl (Nat.le_of_ble_eq_true rfl) (Nat.le_of_ble_eq_true rfl)) (fun d => xyw_ok H (by omega) (K.fi [325, 326] rfl rfl)) ?_
      rintro r h9 ⟨rfl, b2, H, K9⟩
      have K : KN h9 [(325, .inl (6, [.ref 326, .int (nI (twA (gL sn x2) 8 (tpA 32 T)).length)])), (326, .inr (.inl (1, b2))), (343, .inl (2, [.int ns, .ref 344, .ref 345, .ref 346, .ref 347, .int nt, .ref 348, .ref 349, .ref 350, .ref 351, .ref 352, .ref 353, .ref 354, .int cel, .ref 355, .ref 356, .ref 357, .ref 358])), (344, .inr (.inr (.inl sn)))] h0 := K.mg K9 rfl rfl
      clear K9
      show j_V jP _ 54 28 lv [] h9 _
      have q26 : (twA (gL sn x2) 8 (tpA 32 T)).length ≤ T.length + 9 := Nat.le_trans (twA_len) (by omega)
      rw [show txN ns sn x2 T = (twA (gL sn x2) 8 (tpA 32 T)) from by unfold txN; rw [if_neg c1_0, if_pos c9_1]]
      exact j_V.ret xyqB_M xyqB_28 rfl rfl ⟨rfl, _, H, K⟩
set_option maxRecDepth 100000 in
theorem xysB_M : j_meth jP 52 = some (yX6_writeStation, cX6_writeStation, 4, none, 2, false, 6) := rfl
set_option maxRecDepth 100000 in
theorem xysB_0 : j_code jP 52 0 = some (.aload_n 0) := rfl
set_option maxRecDepth 100000 in
theorem xysB_1 : j_code jP 52 1 = some (.ldc2_w 43) := rfl
set_option maxRecDepth 100000 in
theorem xysB_4 : j_code jP 52 4 = some (.invokevirtual 45) := rfl
set_option maxRecDepth 100000 in
theorem xysB_7 : j_code jP 52 7 = some (.aload_n 0) := rfl
set_option maxRecDepth 100000 in
theorem xysB_8 : j_code jP 52 8 = some (.bipush 32) := rfl
set_option maxRecDepth 100000 in
theorem xysB_10 : j_code jP 52 10 = some (.invokevirtual 49) := rfl
set_option maxRecDepth 100000 in
theorem xysB_13 : j_code jP 52 13 = some (.aload_n 0) := rfl
set_option maxRecDepth 100000 in
theorem xysB_14 : j_code jP 52 14 = some (.aload_n 1) := rfl
set_option maxRecDepth 100000 in
theorem xysB_15 : j_code jP 52 15 = some (.getfield 53) := rfl
set_option maxRecDepth 100000 in
theorem xysB_18 : j_code jP 52 18 = some (.iload_n 2) := rfl
set_option maxRecDepth 100000 in
theorem xysB_19 : j_code jP 52 19 = some (.laload) := rfl
set_option maxRecDepth 100000 in
theorem xysB_20 : j_code jP 52 20 = some (.invokevirtual 45) := rfl
set_option maxRecDepth 100000 in
theorem xysB_23 : j_code jP 52 23 = some (.aload_n 0) := rfl
set_option maxRecDepth 100000 in
theorem xysB_24 : j_code jP 52 24 = some (.aload_n 1) := rfl
set_option maxRecDepth 100000 in
theorem xysB_25 : j_code jP 52 25 = some (.getfield 57) := rfl
set_option maxRecDepth 100000 in
theorem xysB_28 : j_code jP 52 28 = some (.iload_n 2) := rfl
set_option maxRecDepth 100000 in
theorem xysB_29 : j_code jP 52 29 = some (.iaload) := rfl
set_option maxRecDepth 100000 in
theorem xysB_30 : j_code jP 52 30 = some (.invokevirtual 60) := rfl
set_option maxRecDepth 100000 in
theorem xysB_33 : j_code jP 52 33 = some (.iconst 0) := rfl
set_option maxRecDepth 100000 in
theorem xysB_34 : j_code jP 52 34 = some (.istore_n 3) := rfl
set_option maxRecDepth 100000 in
theorem xysB_35 : j_code jP 52 35 = some (.iload_n 3) := rfl
set_option maxRecDepth 100000 in
theorem xysB_36 : j_code jP 52 36 = some (.aload_n 1) := rfl
set_option maxRecDepth 100000 in
theorem xysB_37 : j_code jP 52 37 = some (.getfield 63) := rfl
set_option maxRecDepth 100000 in
theorem xysB_40 : j_code jP 52 40 = some (.iload_n 2) := rfl
set_option maxRecDepth 100000 in
theorem xysB_41 : j_code jP 52 41 = some (.iaload) := rfl
set_option maxRecDepth 100000 in
theorem xysB_42 : j_code jP 52 42 = some (.if_icmp .ge 23) := rfl
set_option maxRecDepth 100000 in
theorem xysB_45 : j_code jP 52 45 = some (.aload_n 0) := rfl
set_option maxRecDepth 100000 in
theorem xysB_46 : j_code jP 52 46 = some (.aload_n 1) := rfl
set_option maxRecDepth 100000 in
theorem xysB_47 : j_code jP 52 47 = some (.getfield 66) := rfl
set_option maxRecDepth 100000 in
theorem xysB_50 : j_code jP 52 50 = some (.iload_n 2) := rfl
set_option maxRecDepth 100000 in
theorem xysB_51 : j_code jP 52 51 = some (.iconst 3) := rfl
set_option maxRecDepth 100000 in
theorem xysB_52 : j_code jP 52 52 = some (.imul) := rfl
set_option maxRecDepth 100000 in
theorem xysB_53 : j_code jP 52 53 = some (.iload_n 3) := rfl
set_option maxRecDepth 100000 in
theorem xysB_54 : j_code jP 52 54 = some (.iadd) := rfl
set_option maxRecDepth 100000 in
theorem xysB_55 : j_code jP 52 55 = some (.iaload) := rfl
set_option maxRecDepth 100000 in
theorem xysB_56 : j_code jP 52 56 = some (.invokevirtual 60) := rfl
set_option maxRecDepth 100000 in
theorem xysB_59 : j_code jP 52 59 = some (.iinc 3 1) := rfl
set_option maxRecDepth 100000 in
theorem xysB_62 : j_code jP 52 62 = some (.goto (-27)) := rfl
set_option maxRecDepth 100000 in
theorem xysB_65 : j_code jP 52 65 = some (.aload_n 0) := rfl
set_option maxRecDepth 100000 in
theorem xysB_66 : j_code jP 52 66 = some (.bipush 59) := rfl
set_option maxRecDepth 100000 in
theorem xysB_68 : j_code jP 52 68 = some (.invokevirtual 49) := rfl
set_option maxRecDepth 100000 in
theorem xysB_71 : j_code jP 52 71 = some (.return_) := rfl
theorem xysB_k {d : Nat} {sn : List Int64} {run tra len : List Int32} {ns nt cel x2 : Int32} : ∀ (f : Nat) (v3 : Int32) (T b : List Int32) (lv : J_L) (h h0 : J_H), lpN (gA tra x2) v3 = f → tT 700 T b → T.length + 4 * f + 1 ≤ 700 → LK lv [(0, .ref 325), (1, .ref 343), (2, .int x2), (3, .int v3)] → KN h [(325, .inl (6, [.ref 326, .int (nI T.length)])), (326, .inr (.inl (1, b))), (343, .inl (2, [.int ns, .ref 344, .ref 345, .ref 346, .ref 347, .int nt, .ref 348, .ref 349, .ref 350, .ref 351, .ref 352, .ref 353, .ref 354, .int cel, .ref 355, .ref 356, .ref 357, .ref 358])), (344, .inr (.inr (.inl sn))), (345, .inr (.inl (0, run))), (346, .inr (.inl (0, tra))), (347, .inr (.inl (0, len)))] h0 → j_V jP d 52 35 lv [] h (fun rv h' => rv = none ∧ ∃ b', tT 700 (tpA 59 (tlA (txK len x2) f v3 T)) b' ∧ KN h' [(325, .inl (6, [.ref 326, .int (nI (tpA 59 (tlA (txK len x2) f v3 T)).length)])), (326, .inr (.inl (1, b'))), (343, .inl (2, [.int ns, .ref 344, .ref 345, .ref 346, .ref 347, .int nt, .ref 348, .ref 349, .ref 350, .ref 351, .ref 352, .ref 353, .ref 354, .int cel, .ref 355, .ref 356, .ref 357, .ref 358])), (344, .inr (.inr (.inl sn))), (345, .inr (.inl (0, run))), (346, .inr (.inl (0, tra))), (347, .inr (.inl (0, len)))] h0) := by
  intro f
  induction f with
  | zero =>
    intro v3 T b lv h h0 e H hl L K
    refine j_V.ldL xysB_M xysB_35 rfl (i := 3) (kd := 0) (v := .int v3) (pcJ := 36) rfl L rfl rfl rfl ?_
    refine j_V.ldL xysB_M xysB_36 rfl (i := 1) (kd := 2) (v := .ref 343) (pcJ := 37) rfl L rfl rfl rfl ?_
    refine j_V.getK xysB_M xysB_37 (ci := 2) (j := 3) rfl K rfl rfl ?_
    refine j_V.ldL xysB_M xysB_40 rfl (i := 2) (kd := 0) (v := .int x2) (pcJ := 41) rfl L rfl rfl rfl ?_
    refine j_V.iaA xysB_M xysB_41 K rfl ?_
    refine j_V.icmp xysB_M xysB_42 (t := 65) rfl (fun c42_0 => ?_) (fun c42_0 => ?_)
    · replace c42_0 : ¬ (v3 < (gA tra x2)) := jd_ge c42_0
      refine j_V.ldL xysB_M xysB_65 rfl (i := 0) (kd := 2) (v := .ref 325) (pcJ := 66) rfl L rfl rfl rfl ?_
      refine j_V.one xysB_M xysB_66 (by decide) (pcJ := 68) (stJ := [.int 59, .ref 325]) rfl ?_
      refine j_V.cl xysB_M xysB_68 rfl (md := 3) (mj := 57) rfl (by decide) xyp_M (As := [.ref 325, .int 59]) (rest := []) (jk_spl3 (K.at rfl) rfl rfl rfl (Nat.le_of_ble_eq_true rfl) (Nat.le_of_ble_eq_true rfl)) (fun d => xyp_ok H (by omega) (K.fi [325, 326] rfl rfl)) ?_
      rintro r h9 ⟨rfl, b1, H, K9⟩
      have K : KN h9 [(325, .inl (6, [.ref 326, .int (nI (tpA 59 T).length)])), (326, .inr (.inl (1, b1))), (343, .inl (2, [.int ns, .ref 344, .ref 345, .ref 346, .ref 347, .int nt, .ref 348, .ref 349, .ref 350, .ref 351, .ref 352, .ref 353, .ref 354, .int cel, .ref 355, .ref 356, .ref 357, .ref 358])), (344, .inr (.inr (.inl sn))), (345, .inr (.inl (0, run))), (346, .inr (.inl (0, tra))), (347, .inr (.inl (0, len)))] h0 := K.mg K9 rfl rfl
      clear K9
      show j_V jP _ 52 71 lv [] h9 _
      have q27 : (tpA 59 T).length ≤ T.length + 1 := Nat.le_trans (Nat.le_of_eq tpA_len) (by omega)
      exact j_V.ret xysB_M xysB_71 rfl rfl ⟨rfl, _, H, K⟩
    · replace c42_0 : v3 < (gA tra x2) := jd_gen c42_0
      exact absurd c42_0 (lpN_z e)
  | succ f ih =>
    intro v3 T b lv h h0 e H hl L K
    refine j_V.ldL xysB_M xysB_35 rfl (i := 3) (kd := 0) (v := .int v3) (pcJ := 36) rfl L rfl rfl rfl ?_
    refine j_V.ldL xysB_M xysB_36 rfl (i := 1) (kd := 2) (v := .ref 343) (pcJ := 37) rfl L rfl rfl rfl ?_
    refine j_V.getK xysB_M xysB_37 (ci := 2) (j := 3) rfl K rfl rfl ?_
    refine j_V.ldL xysB_M xysB_40 rfl (i := 2) (kd := 0) (v := .int x2) (pcJ := 41) rfl L rfl rfl rfl ?_
    refine j_V.iaA xysB_M xysB_41 K rfl ?_
    refine j_V.icmp xysB_M xysB_42 (t := 65) rfl (fun c42_0 => ?_) (fun c42_0 => ?_)
    · replace c42_0 : ¬ (v3 < (gA tra x2)) := jd_ge c42_0
      exact absurd (lpN_s e) c42_0
    · replace c42_0 : v3 < (gA tra x2) := jd_gen c42_0
      refine j_V.ldL xysB_M xysB_45 rfl (i := 0) (kd := 2) (v := .ref 325) (pcJ := 46) rfl L rfl rfl rfl ?_
      refine j_V.ldL xysB_M xysB_46 rfl (i := 1) (kd := 2) (v := .ref 343) (pcJ := 47) rfl L rfl rfl rfl ?_
      refine j_V.getK xysB_M xysB_47 (ci := 2) (j := 4) rfl K rfl rfl ?_
      refine j_V.ldL xysB_M xysB_50 rfl (i := 2) (kd := 0) (v := .int x2) (pcJ := 51) rfl L rfl rfl rfl ?_
      refine j_V.one xysB_M xysB_51 (by decide) (pcJ := 52) (stJ := [.int 3, .int x2, .ref 347, .ref 325]) rfl ?_
      refine j_V.one xysB_M xysB_52 (by decide) (pcJ := 53) (stJ := [.int (x2 * 3), .ref 347, .ref 325]) rfl ?_
      refine j_V.ldL xysB_M xysB_53 rfl (i := 3) (kd := 0) (v := .int v3) (pcJ := 54) rfl L rfl rfl rfl ?_
      refine j_V.one xysB_M xysB_54 (by decide) (pcJ := 55) (stJ := [.int ((x2 * 3) + v3), .ref 347, .ref 325]) rfl ?_
      refine j_V.iaA xysB_M xysB_55 K rfl ?_
      refine j_V.cl xysB_M xysB_56 rfl (md := 3) (mj := 56) rfl (by decide) xyn_M (As := [.ref 325, .int (gA len ((x2 * 3) + v3))]) (rest := []) (jk_spl3 (K.at rfl) rfl rfl rfl (Nat.le_of_ble_eq_true rfl) (Nat.le_of_ble_eq_true rfl)) (fun d => xyn_ok H (by omega) (K.fi [325, 326] rfl rfl)) ?_
      rintro r h9 ⟨rfl, b1, H, K9⟩
      have K : KN h9 [(325, .inl (6, [.ref 326, .int (nI (tnA (gA len ((x2 * 3) + v3)) T).length)])), (326, .inr (.inl (1, b1))), (343, .inl (2, [.int ns, .ref 344, .ref 345, .ref 346, .ref 347, .int nt, .ref 348, .ref 349, .ref 350, .ref 351, .ref 352, .ref 353, .ref 354, .int cel, .ref 355, .ref 356, .ref 357, .ref 358])), (344, .inr (.inr (.inl sn))), (345, .inr (.inl (0, run))), (346, .inr (.inl (0, tra))), (347, .inr (.inl (0, len)))] h0 := K.mg K9 rfl rfl
      clear K9
      show j_V jP _ 52 59 lv [] h9 _
      have q28 : (tnA (gA len ((x2 * 3) + v3)) T).length ≤ T.length + 4 := Nat.le_trans (tnA_len) (by omega)
      refine j_V.inL2 xysB_M xysB_59 (i := 3) (kl' := [(0, .ref 325), (1, .ref 343), (2, .int x2), (3, .int (v3 + 1))]) (pcJ := 62) L rfl rfl rfl rfl (fun lv L => ?_)
      refine j_V.gto xysB_M xysB_62 (t := 35) rfl ?_
      rw [tlA_s]
      exact ih _ _ _ _ _ _ (lpN_n e) H (by have : (txK len x2 v3 T).length ≤ _ := txK_len; show (txK len x2 v3 T).length + _ + 1 ≤ 700; omega) L K
theorem xysB_ok {d : Nat} {h h0 : J_H} {T b : List Int32} {sn : List Int64} {run tra len : List Int32} {ns nt cel x2 : Int32} (H : tT 700 T b) (hl : T.length + 22 + 4 * lpN (gA tra x2) 0 ≤ 700) (K : KN h [(325, .inl (6, [.ref 326, .int (nI T.length)])), (326, .inr (.inl (1, b))), (343, .inl (2, [.int ns, .ref 344, .ref 345, .ref 346, .ref 347, .int nt, .ref 348, .ref 349, .ref 350, .ref 351, .ref 352, .ref 353, .ref 354, .int cel, .ref 355, .ref 356, .ref 357, .ref 358])), (344, .inr (.inr (.inl sn))), (345, .inr (.inl (0, run))), (346, .inr (.inl (0, tra))), (347, .inr (.inl (0, len)))] h0) : j_V jP d 52 0 (lv_args 0 [.ref 325, .ref 343, .int x2]) [] h (fun rv h' => rv = none ∧ ∃ b', tT 700 (txS sn run tra len x2 T) b' ∧ KN h' [(325, .inl (6, [.ref 326, .int (nI (txS sn run tra len x2 T).length)])), (326, .inr (.inl (1, b'))), (343, .inl (2, [.int ns, .ref 344, .ref 345, .ref 346, .ref 347, .int nt, .ref 348, .ref 349, .ref 350, .ref 351, .ref 352, .ref 353, .ref 354, .int cel, .ref 355, .ref 356, .ref 357, .ref 358])), (344, .inr (.inr (.inl sn))), (345, .inr (.inl (0, run))), (346, .inr (.inl (0, tra))), (347, .inr (.inl (0, len)))] h0) := by
  show j_V jP d 52 0 [(0, .ref 325), (1, .ref 343), (2, .int x2)] [] h _
  obtain ⟨lv, elv, L⟩ : ∃ lv, lv = [(0, .ref 325), (1, .ref 343), (2, .int x2)] ∧ LK lv [(0, .ref 325), (1, .ref 343), (2, .int x2)] := ⟨_, rfl, LK.rf⟩
  rw [← elv]
  clear elv
  refine j_V.ldL xysB_M xysB_0 rfl (i := 0) (kd := 2) (v := .ref 325) (pcJ := 1) rfl L rfl rfl rfl ?_
  refine j_V.one xysB_M xysB_1 (by decide) (pcJ := 4) (stJ := [.long (32497584235442030 : Int64), .ref 325]) rfl ?_
  refine j_V.cl xysB_M xysB_4 rfl (md := 3) (mj := 55) rfl (by decide) xyw_M (As := [.ref 325, .long (32497584235442030 : Int64)]) (rest := []) (jk_spl3 (K.at rfl) rfl rfl rfl (Nat.le_of_ble_eq_true rfl) (Nat.le_of_ble_eq_true rfl)) (fun d => xyw_ok H (by omega) (K.fi [325, 326] rfl rfl)) ?_
  rintro r h9 ⟨rfl, b1, H, K9⟩
  have K : KN h9 [(325, .inl (6, [.ref 326, .int (nI (twA (32497584235442030 : Int64) 8 T).length)])), (326, .inr (.inl (1, b1))), (343, .inl (2, [.int ns, .ref 344, .ref 345, .ref 346, .ref 347, .int nt, .ref 348, .ref 349, .ref 350, .ref 351, .ref 352, .ref 353, .ref 354, .int cel, .ref 355, .ref 356, .ref 357, .ref 358])), (344, .inr (.inr (.inl sn))), (345, .inr (.inl (0, run))), (346, .inr (.inl (0, tra))), (347, .inr (.inl (0, len)))] h0 := K.mg K9 rfl rfl
  clear K9
  show j_V jP _ 52 7 lv [] h9 _
  have q29 : (twA (32497584235442030 : Int64) 8 T).length ≤ T.length + 8 := Nat.le_trans (twA_len) (by omega)
  refine j_V.ldL xysB_M xysB_7 rfl (i := 0) (kd := 2) (v := .ref 325) (pcJ := 8) rfl L rfl rfl rfl ?_
  refine j_V.one xysB_M xysB_8 (by decide) (pcJ := 10) (stJ := [.int 32, .ref 325]) rfl ?_
  refine j_V.cl xysB_M xysB_10 rfl (md := 3) (mj := 57) rfl (by decide) xyp_M (As := [.ref 325, .int 32]) (rest := []) (jk_spl3 (K.at rfl) rfl rfl rfl (Nat.le_of_ble_eq_true rfl) (Nat.le_of_ble_eq_true rfl)) (fun d => xyp_ok H (by omega) (K.fi [325, 326] rfl rfl)) ?_
  rintro r h9 ⟨rfl, b2, H, K9⟩
  have K : KN h9 [(325, .inl (6, [.ref 326, .int (nI (tpA 32 (twA (32497584235442030 : Int64) 8 T)).length)])), (326, .inr (.inl (1, b2))), (343, .inl (2, [.int ns, .ref 344, .ref 345, .ref 346, .ref 347, .int nt, .ref 348, .ref 349, .ref 350, .ref 351, .ref 352, .ref 353, .ref 354, .int cel, .ref 355, .ref 356, .ref 357, .ref 358])), (344, .inr (.inr (.inl sn))), (345, .inr (.inl (0, run))), (346, .inr (.inl (0, tra))), (347, .inr (.inl (0, len)))] h0 := K.mg K9 rfl rfl
  clear K9
  show j_V jP _ 52 13 lv [] h9 _
  have q30 : (tpA 32 (twA (32497584235442030 : Int64) 8 T)).length ≤ T.length + 9 := Nat.le_trans (Nat.le_of_eq tpA_len) (by omega)
  refine j_V.ldL xysB_M xysB_13 rfl (i := 0) (kd := 2) (v := .ref 325) (pcJ := 14) rfl L rfl rfl rfl ?_
  refine j_V.ldL xysB_M xysB_14 rfl (i := 1) (kd := 2) (v := .ref 343) (pcJ := 15) rfl L rfl rfl rfl ?_
  refine j_V.getK xysB_M xysB_15 (ci := 2) (j := 1) rfl K rfl rfl ?_
  refine j_V.ldL xysB_M xysB_18 rfl (i := 2) (kd := 0) (v := .int x2) (pcJ := 19) rfl L rfl rfl rfl ?_
  refine j_V.laA xysB_M xysB_19 K rfl ?_
  refine j_V.cl xysB_M xysB_20 rfl (md := 3) (mj := 55) rfl (by decide) xyw_M (As := [.ref 325, .long (gL sn x2)]) (rest := []) (jk_spl3 (K.at rfl) rfl rfl rfl (Nat.le_of_ble_eq_true rfl) (Nat.le_of_ble_eq_true rfl)) (fun d => xyw_ok H (by omega) (K.fi [325, 326] rfl rfl)) ?_
  rintro r h9 ⟨rfl, b3, H, K9⟩
  have K : KN h9 [(325, .inl (6, [.ref 326, .int (nI (twA (gL sn x2) 8 (tpA 32 (twA (32497584235442030 : Int64) 8 T))).length)])), (326, .inr (.inl (1, b3))), (343, .inl (2, [.int ns, .ref 344, .ref 345, .ref 346, .ref 347, .int nt, .ref 348, .ref 349, .ref 350, .ref 351, .ref 352, .ref 353, .ref 354, .int cel, .ref 355, .ref 356, .ref 357, .ref 358])), (344, .inr (.inr (.inl sn))), (345, .inr (.inl (0, run))), (346, .inr (.inl (0, tra))), (347, .inr (.inl (0, len)))] h0 := K.mg K9 rfl rfl
  clear K9
  show j_V jP _ 52 23 lv [] h9 _
  have q31 : (twA (gL sn x2) 8 (tpA 32 (twA (32497584235442030 : Int64) 8 T))).length ≤ T.length + 17 := Nat.le_trans (twA_len) (by omega)
  refine j_V.ldL xysB_M xysB_23 rfl (i := 0) (kd := 2) (v := .ref 325) (pcJ := 24) rfl L rfl rfl rfl ?_
  refine j_V.ldL xysB_M xysB_24 rfl (i := 1) (kd := 2) (v := .ref 343) (pcJ := 25) rfl L rfl rfl rfl ?_
  refine j_V.getK xysB_M xysB_25 (ci := 2) (j := 2) rfl K rfl rfl ?_
  refine j_V.ldL xysB_M xysB_28 rfl (i := 2) (kd := 0) (v := .int x2) (pcJ := 29) rfl L rfl rfl rfl ?_
  refine j_V.iaA xysB_M xysB_29 K rfl ?_
  refine j_V.cl xysB_M xysB_30 rfl (md := 3) (mj := 56) rfl (by decide) xyn_M (As := [.ref 325, .int (gA run x2)]) (rest := []) (jk_spl3 (K.at rfl) rfl rfl rfl (Nat.le_of_ble_eq_true rfl) (Nat.le_of_ble_eq_true rfl)) (fun d => xyn_ok H (by omega) (K.fi [325, 326] rfl rfl)) ?_
  rintro r h9 ⟨rfl, b4, H, K9⟩
  have K : KN h9 [(325, .inl (6, [.ref 326, .int (nI (tnA (gA run x2) (twA (gL sn x2) 8 (tpA 32 (twA (32497584235442030 : Int64) 8 T)))).length)])), (326, .inr (.inl (1, b4))), (343, .inl (2, [.int ns, .ref 344, .ref 345, .ref 346, .ref 347, .int nt, .ref 348, .ref 349, .ref 350, .ref 351, .ref 352, .ref 353, .ref 354, .int cel, .ref 355, .ref 356, .ref 357, .ref 358])), (344, .inr (.inr (.inl sn))), (345, .inr (.inl (0, run))), (346, .inr (.inl (0, tra))), (347, .inr (.inl (0, len)))] h0 := K.mg K9 rfl rfl
  clear K9
  show j_V jP _ 52 33 lv [] h9 _
  have q32 : (tnA (gA run x2) (twA (gL sn x2) 8 (tpA 32 (twA (32497584235442030 : Int64) 8 T)))).length ≤ T.length + 21 := Nat.le_trans (tnA_len) (by omega)
  refine j_V.one xysB_M xysB_33 (by decide) (pcJ := 34) (stJ := [.int 0]) rfl ?_
  refine j_V.stL2 xysB_M xysB_34 rfl (i := 3) (kd := 0) (kl' := [(0, .ref 325), (1, .ref 343), (2, .int x2), (3, .int 0)]) (pcJ := 35) rfl L rfl (by decide) rfl rfl rfl (fun lv L => ?_)
  exact xysB_k _ _ _ _ _ _ _ rfl H (by omega) L K
set_option maxRecDepth 100000 in
theorem xyrB_M : j_meth jP 53 = some (yX6_writeTrain, cX6_writeTrain, 4, none, 3, false, 6) := rfl
set_option maxRecDepth 100000 in
theorem xyrB_0 : j_code jP 53 0 = some (.aload_n 0) := rfl
set_option maxRecDepth 100000 in
theorem xyrB_1 : j_code jP 53 1 = some (.ldc2_w 68) := rfl
set_option maxRecDepth 100000 in
theorem xyrB_4 : j_code jP 53 4 = some (.invokevirtual 45) := rfl
set_option maxRecDepth 100000 in
theorem xyrB_7 : j_code jP 53 7 = some (.aload_n 0) := rfl
set_option maxRecDepth 100000 in
theorem xyrB_8 : j_code jP 53 8 = some (.bipush 32) := rfl
set_option maxRecDepth 100000 in
theorem xyrB_10 : j_code jP 53 10 = some (.invokevirtual 49) := rfl
set_option maxRecDepth 100000 in
theorem xyrB_13 : j_code jP 53 13 = some (.aload_n 0) := rfl
set_option maxRecDepth 100000 in
theorem xyrB_14 : j_code jP 53 14 = some (.aload_n 1) := rfl
set_option maxRecDepth 100000 in
theorem xyrB_15 : j_code jP 53 15 = some (.getfield 70) := rfl
set_option maxRecDepth 100000 in
theorem xyrB_18 : j_code jP 53 18 = some (.iload_n 2) := rfl
set_option maxRecDepth 100000 in
theorem xyrB_19 : j_code jP 53 19 = some (.laload) := rfl
set_option maxRecDepth 100000 in
theorem xyrB_20 : j_code jP 53 20 = some (.invokevirtual 45) := rfl
set_option maxRecDepth 100000 in
theorem xyrB_23 : j_code jP 53 23 = some (.aload_n 0) := rfl
set_option maxRecDepth 100000 in
theorem xyrB_24 : j_code jP 53 24 = some (.aload_n 1) := rfl
set_option maxRecDepth 100000 in
theorem xyrB_25 : j_code jP 53 25 = some (.getfield 73) := rfl
set_option maxRecDepth 100000 in
theorem xyrB_28 : j_code jP 53 28 = some (.iload_n 2) := rfl
set_option maxRecDepth 100000 in
theorem xyrB_29 : j_code jP 53 29 = some (.iaload) := rfl
set_option maxRecDepth 100000 in
theorem xyrB_30 : j_code jP 53 30 = some (.invokevirtual 60) := rfl
set_option maxRecDepth 100000 in
theorem xyrB_33 : j_code jP 53 33 = some (.aload_n 0) := rfl
set_option maxRecDepth 100000 in
theorem xyrB_34 : j_code jP 53 34 = some (.aload_n 1) := rfl
set_option maxRecDepth 100000 in
theorem xyrB_35 : j_code jP 53 35 = some (.aload_n 1) := rfl
set_option maxRecDepth 100000 in
theorem xyrB_36 : j_code jP 53 36 = some (.getfield 76) := rfl
set_option maxRecDepth 100000 in
theorem xyrB_39 : j_code jP 53 39 = some (.iload_n 2) := rfl
set_option maxRecDepth 100000 in
theorem xyrB_40 : j_code jP 53 40 = some (.iaload) := rfl
set_option maxRecDepth 100000 in
theorem xyrB_41 : j_code jP 53 41 = some (.invokevirtual 79) := rfl
set_option maxRecDepth 100000 in
theorem xyrB_44 : j_code jP 53 44 = some (.aload_n 0) := rfl
set_option maxRecDepth 100000 in
theorem xyrB_45 : j_code jP 53 45 = some (.aload_n 1) := rfl
set_option maxRecDepth 100000 in
theorem xyrB_46 : j_code jP 53 46 = some (.aload_n 1) := rfl
set_option maxRecDepth 100000 in
theorem xyrB_47 : j_code jP 53 47 = some (.getfield 82) := rfl
set_option maxRecDepth 100000 in
theorem xyrB_50 : j_code jP 53 50 = some (.iload_n 2) := rfl
set_option maxRecDepth 100000 in
theorem xyrB_51 : j_code jP 53 51 = some (.iaload) := rfl
set_option maxRecDepth 100000 in
theorem xyrB_52 : j_code jP 53 52 = some (.invokevirtual 79) := rfl
set_option maxRecDepth 100000 in
theorem xyrB_55 : j_code jP 53 55 = some (.aload_n 0) := rfl
set_option maxRecDepth 100000 in
theorem xyrB_56 : j_code jP 53 56 = some (.iload_n 3) := rfl
set_option maxRecDepth 100000 in
theorem xyrB_57 : j_code jP 53 57 = some (.invokevirtual 60) := rfl
set_option maxRecDepth 100000 in
theorem xyrB_60 : j_code jP 53 60 = some (.aload_n 0) := rfl
set_option maxRecDepth 100000 in
theorem xyrB_61 : j_code jP 53 61 = some (.bipush 32) := rfl
set_option maxRecDepth 100000 in
theorem xyrB_63 : j_code jP 53 63 = some (.invokevirtual 49) := rfl
set_option maxRecDepth 100000 in
theorem xyrB_66 : j_code jP 53 66 = some (.aload_n 0) := rfl
set_option maxRecDepth 100000 in
theorem xyrB_67 : j_code jP 53 67 = some (.ldc2_w 85) := rfl
set_option maxRecDepth 100000 in
theorem xyrB_70 : j_code jP 53 70 = some (.invokevirtual 45) := rfl
set_option maxRecDepth 100000 in
theorem xyrB_73 : j_code jP 53 73 = some (.aload_n 0) := rfl
set_option maxRecDepth 100000 in
theorem xyrB_74 : j_code jP 53 74 = some (.aload_n 1) := rfl
set_option maxRecDepth 100000 in
theorem xyrB_75 : j_code jP 53 75 = some (.getfield 87) := rfl
set_option maxRecDepth 100000 in
theorem xyrB_78 : j_code jP 53 78 = some (.iload_n 2) := rfl
set_option maxRecDepth 100000 in
theorem xyrB_79 : j_code jP 53 79 = some (.iaload) := rfl
set_option maxRecDepth 100000 in
theorem xyrB_80 : j_code jP 53 80 = some (.invokevirtual 60) := rfl
set_option maxRecDepth 100000 in
theorem xyrB_83 : j_code jP 53 83 = some (.aload_n 0) := rfl
set_option maxRecDepth 100000 in
theorem xyrB_84 : j_code jP 53 84 = some (.bipush 32) := rfl
set_option maxRecDepth 100000 in
theorem xyrB_86 : j_code jP 53 86 = some (.invokevirtual 49) := rfl
set_option maxRecDepth 100000 in
theorem xyrB_89 : j_code jP 53 89 = some (.aload_n 0) := rfl
set_option maxRecDepth 100000 in
theorem xyrB_90 : j_code jP 53 90 = some (.ldc2_w 90) := rfl
set_option maxRecDepth 100000 in
theorem xyrB_93 : j_code jP 53 93 = some (.invokevirtual 45) := rfl
set_option maxRecDepth 100000 in
theorem xyrB_96 : j_code jP 53 96 = some (.aload_n 0) := rfl
set_option maxRecDepth 100000 in
theorem xyrB_97 : j_code jP 53 97 = some (.aload_n 1) := rfl
set_option maxRecDepth 100000 in
theorem xyrB_98 : j_code jP 53 98 = some (.getfield 92) := rfl
set_option maxRecDepth 100000 in
theorem xyrB_101 : j_code jP 53 101 = some (.iload_n 2) := rfl
set_option maxRecDepth 100000 in
theorem xyrB_102 : j_code jP 53 102 = some (.iaload) := rfl
set_option maxRecDepth 100000 in
theorem xyrB_103 : j_code jP 53 103 = some (.invokevirtual 60) := rfl
set_option maxRecDepth 100000 in
theorem xyrB_106 : j_code jP 53 106 = some (.aload_n 0) := rfl
set_option maxRecDepth 100000 in
theorem xyrB_107 : j_code jP 53 107 = some (.bipush 59) := rfl
set_option maxRecDepth 100000 in
theorem xyrB_109 : j_code jP 53 109 = some (.invokevirtual 49) := rfl
set_option maxRecDepth 100000 in
theorem xyrB_112 : j_code jP 53 112 = some (.return_) := rfl
theorem xyrB_ok {d : Nat} {h h0 : J_H} {T b : List Int32} {sn tn : List Int64} {siz frm tto slo wei : List Int32} {ns nt cel x2 x3 : Int32} (H : tT 700 T b) (hl : T.length + 70 ≤ 700) (K : KN h [(325, .inl (6, [.ref 326, .int (nI T.length)])), (326, .inr (.inl (1, b))), (343, .inl (2, [.int ns, .ref 344, .ref 345, .ref 346, .ref 347, .int nt, .ref 348, .ref 349, .ref 350, .ref 351, .ref 352, .ref 353, .ref 354, .int cel, .ref 355, .ref 356, .ref 357, .ref 358])), (344, .inr (.inr (.inl sn))), (348, .inr (.inr (.inl tn))), (349, .inr (.inl (0, siz))), (350, .inr (.inl (0, frm))), (351, .inr (.inl (0, tto))), (353, .inr (.inl (0, slo))), (354, .inr (.inl (0, wei)))] h0) : j_V jP d 53 0 (lv_args 0 [.ref 325, .ref 343, .int x2, .int x3]) [] h (fun rv h' => rv = none ∧ ∃ b', tT 700 (txR ns sn tn siz frm tto slo wei x2 x3 T) b' ∧ KN h' [(325, .inl (6, [.ref 326, .int (nI (txR ns sn tn siz frm tto slo wei x2 x3 T).length)])), (326, .inr (.inl (1, b'))), (343, .inl (2, [.int ns, .ref 344, .ref 345, .ref 346, .ref 347, .int nt, .ref 348, .ref 349, .ref 350, .ref 351, .ref 352, .ref 353, .ref 354, .int cel, .ref 355, .ref 356, .ref 357, .ref 358])), (344, .inr (.inr (.inl sn))), (348, .inr (.inr (.inl tn))), (349, .inr (.inl (0, siz))), (350, .inr (.inl (0, frm))), (351, .inr (.inl (0, tto))), (353, .inr (.inl (0, slo))), (354, .inr (.inl (0, wei)))] h0) := by
  show j_V jP d 53 0 [(0, .ref 325), (1, .ref 343), (2, .int x2), (3, .int x3)] [] h _
  obtain ⟨lv, elv, L⟩ : ∃ lv, lv = [(0, .ref 325), (1, .ref 343), (2, .int x2), (3, .int x3)] ∧ LK lv [(0, .ref 325), (1, .ref 343), (2, .int x2), (3, .int x3)] := ⟨_, rfl, LK.rf⟩
  rw [← elv]
  clear elv
  refine j_V.ldL xyrB_M xyrB_0 rfl (i := 0) (kd := 2) (v := .ref 325) (pcJ := 1) rfl L rfl rfl rfl ?_
  refine j_V.one xyrB_M xyrB_1 (by decide) (pcJ := 4) (stJ := [.long (500135192942 : Int64), .ref 325]) rfl ?_
  refine j_V.cl xyrB_M xyrB_4 rfl (md := 3) (mj := 55) rfl (by decide) xyw_M (As := [.ref 325, .long (500135192942 : Int64)]) (rest := []) (jk_spl3 (K.at rfl) rfl rfl rfl (Nat.le_of_ble_eq_true rfl) (Nat.le_of_ble_eq_true rfl)) (fun d => xyw_ok H (by omega) (K.fi [325, 326] rfl rfl)) ?_
  rintro r h9 ⟨rfl, b1, H, K9⟩
  have K : KN h9 [(325, .inl (6, [.ref 326, .int (nI (twA (500135192942 : Int64) 8 T).length)])), (326, .inr (.inl (1, b1))), (343, .inl (2, [.int ns, .ref 344, .ref 345, .ref 346, .ref 347, .int nt, .ref 348, .ref 349, .ref 350, .ref 351, .ref 352, .ref 353, .ref 354, .int cel, .ref 355, .ref 356, .ref 357, .ref 358])), (344, .inr (.inr (.inl sn))), (348, .inr (.inr (.inl tn))), (349, .inr (.inl (0, siz))), (350, .inr (.inl (0, frm))), (351, .inr (.inl (0, tto))), (353, .inr (.inl (0, slo))), (354, .inr (.inl (0, wei)))] h0 := K.mg K9 rfl rfl
  clear K9
  show j_V jP _ 53 7 lv [] h9 _
  have q33 : (twA (500135192942 : Int64) 8 T).length ≤ T.length + 8 := Nat.le_trans (twA_len) (by omega)
  refine j_V.ldL xyrB_M xyrB_7 rfl (i := 0) (kd := 2) (v := .ref 325) (pcJ := 8) rfl L rfl rfl rfl ?_
  refine j_V.one xyrB_M xyrB_8 (by decide) (pcJ := 10) (stJ := [.int 32, .ref 325]) rfl ?_
  refine j_V.cl xyrB_M xyrB_10 rfl (md := 3) (mj := 57) rfl (by decide) xyp_M (As := [.ref 325, .int 32]) (rest := []) (jk_spl3 (K.at rfl) rfl rfl rfl (Nat.le_of_ble_eq_true rfl) (Nat.le_of_ble_eq_true rfl)) (fun d => xyp_ok H (by omega) (K.fi [325, 326] rfl rfl)) ?_
  rintro r h9 ⟨rfl, b2, H, K9⟩
  have K : KN h9 [(325, .inl (6, [.ref 326, .int (nI (tpA 32 (twA (500135192942 : Int64) 8 T)).length)])), (326, .inr (.inl (1, b2))), (343, .inl (2, [.int ns, .ref 344, .ref 345, .ref 346, .ref 347, .int nt, .ref 348, .ref 349, .ref 350, .ref 351, .ref 352, .ref 353, .ref 354, .int cel, .ref 355, .ref 356, .ref 357, .ref 358])), (344, .inr (.inr (.inl sn))), (348, .inr (.inr (.inl tn))), (349, .inr (.inl (0, siz))), (350, .inr (.inl (0, frm))), (351, .inr (.inl (0, tto))), (353, .inr (.inl (0, slo))), (354, .inr (.inl (0, wei)))] h0 := K.mg K9 rfl rfl
  clear K9
  show j_V jP _ 53 13 lv [] h9 _
  have q34 : (tpA 32 (twA (500135192942 : Int64) 8 T)).length ≤ T.length + 9 := Nat.le_trans (Nat.le_of_eq tpA_len) (by omega)
  refine j_V.ldL xyrB_M xyrB_13 rfl (i := 0) (kd := 2) (v := .ref 325) (pcJ := 14) rfl L rfl rfl rfl ?_
  refine j_V.ldL xyrB_M xyrB_14 rfl (i := 1) (kd := 2) (v := .ref 343) (pcJ := 15) rfl L rfl rfl rfl ?_
  refine j_V.getK xyrB_M xyrB_15 (ci := 2) (j := 6) rfl K rfl rfl ?_
  refine j_V.ldL xyrB_M xyrB_18 rfl (i := 2) (kd := 0) (v := .int x2) (pcJ := 19) rfl L rfl rfl rfl ?_
  refine j_V.laA xyrB_M xyrB_19 K rfl ?_
  refine j_V.cl xyrB_M xyrB_20 rfl (md := 3) (mj := 55) rfl (by decide) xyw_M (As := [.ref 325, .long (gL tn x2)]) (rest := []) (jk_spl3 (K.at rfl) rfl rfl rfl (Nat.le_of_ble_eq_true rfl) (Nat.le_of_ble_eq_true rfl)) (fun d => xyw_ok H (by omega) (K.fi [325, 326] rfl rfl)) ?_
  rintro r h9 ⟨rfl, b3, H, K9⟩
  have K : KN h9 [(325, .inl (6, [.ref 326, .int (nI (twA (gL tn x2) 8 (tpA 32 (twA (500135192942 : Int64) 8 T))).length)])), (326, .inr (.inl (1, b3))), (343, .inl (2, [.int ns, .ref 344, .ref 345, .ref 346, .ref 347, .int nt, .ref 348, .ref 349, .ref 350, .ref 351, .ref 352, .ref 353, .ref 354, .int cel, .ref 355, .ref 356, .ref 357, .ref 358])), (344, .inr (.inr (.inl sn))), (348, .inr (.inr (.inl tn))), (349, .inr (.inl (0, siz))), (350, .inr (.inl (0, frm))), (351, .inr (.inl (0, tto))), (353, .inr (.inl (0, slo))), (354, .inr (.inl (0, wei)))] h0 := K.mg K9 rfl rfl
  clear K9
  show j_V jP _ 53 23 lv [] h9 _
  have q35 : (twA (gL tn x2) 8 (tpA 32 (twA (500135192942 : Int64) 8 T))).length ≤ T.length + 17 := Nat.le_trans (twA_len) (by omega)
  refine j_V.ldL xyrB_M xyrB_23 rfl (i := 0) (kd := 2) (v := .ref 325) (pcJ := 24) rfl L rfl rfl rfl ?_
  refine j_V.ldL xyrB_M xyrB_24 rfl (i := 1) (kd := 2) (v := .ref 343) (pcJ := 25) rfl L rfl rfl rfl ?_
  refine j_V.getK xyrB_M xyrB_25 (ci := 2) (j := 7) rfl K rfl rfl ?_
  refine j_V.ldL xyrB_M xyrB_28 rfl (i := 2) (kd := 0) (v := .int x2) (pcJ := 29) rfl L rfl rfl rfl ?_
  refine j_V.iaA xyrB_M xyrB_29 K rfl ?_
  refine j_V.cl xyrB_M xyrB_30 rfl (md := 3) (mj := 56) rfl (by decide) xyn_M (As := [.ref 325, .int (gA siz x2)]) (rest := []) (jk_spl3 (K.at rfl) rfl rfl rfl (Nat.le_of_ble_eq_true rfl) (Nat.le_of_ble_eq_true rfl)) (fun d => xyn_ok H (by omega) (K.fi [325, 326] rfl rfl)) ?_
  rintro r h9 ⟨rfl, b4, H, K9⟩
  have K : KN h9 [(325, .inl (6, [.ref 326, .int (nI (tnA (gA siz x2) (twA (gL tn x2) 8 (tpA 32 (twA (500135192942 : Int64) 8 T)))).length)])), (326, .inr (.inl (1, b4))), (343, .inl (2, [.int ns, .ref 344, .ref 345, .ref 346, .ref 347, .int nt, .ref 348, .ref 349, .ref 350, .ref 351, .ref 352, .ref 353, .ref 354, .int cel, .ref 355, .ref 356, .ref 357, .ref 358])), (344, .inr (.inr (.inl sn))), (348, .inr (.inr (.inl tn))), (349, .inr (.inl (0, siz))), (350, .inr (.inl (0, frm))), (351, .inr (.inl (0, tto))), (353, .inr (.inl (0, slo))), (354, .inr (.inl (0, wei)))] h0 := K.mg K9 rfl rfl
  clear K9
  show j_V jP _ 53 33 lv [] h9 _
  have q36 : (tnA (gA siz x2) (twA (gL tn x2) 8 (tpA 32 (twA (500135192942 : Int64) 8 T)))).length ≤ T.length + 21 := Nat.le_trans (tnA_len) (by omega)
  refine j_V.ldL xyrB_M xyrB_33 rfl (i := 0) (kd := 2) (v := .ref 325) (pcJ := 34) rfl L rfl rfl rfl ?_
  refine j_V.ldL xyrB_M xyrB_34 rfl (i := 1) (kd := 2) (v := .ref 343) (pcJ := 35) rfl L rfl rfl rfl ?_
  refine j_V.ldL xyrB_M xyrB_35 rfl (i := 1) (kd := 2) (v := .ref 343) (pcJ := 36) rfl L rfl rfl rfl ?_
  refine j_V.getK xyrB_M xyrB_36 (ci := 2) (j := 8) rfl K rfl rfl ?_
  refine j_V.ldL xyrB_M xyrB_39 rfl (i := 2) (kd := 0) (v := .int x2) (pcJ := 40) rfl L rfl rfl rfl ?_
  refine j_V.iaA xyrB_M xyrB_40 K rfl ?_
  refine j_V.cl xyrB_M xyrB_41 rfl (md := 3) (mj := 54) rfl (by decide) xyqB_M (As := [.ref 325, .ref 343, .int (gA frm x2)]) (rest := []) (jk_spl3 (K.at rfl) rfl rfl rfl (Nat.le_of_ble_eq_true rfl) (Nat.le_of_ble_eq_true rfl)) (fun d => xyqB_ok H (by omega) (K.fi [325, 326, 343, 344] rfl rfl)) ?_
  rintro r h9 ⟨rfl, b5, H, K9⟩
  have K : KN h9 [(325, .inl (6, [.ref 326, .int (nI (txN ns sn (gA frm x2) (tnA (gA siz x2) (twA (gL tn x2) 8 (tpA 32 (twA (500135192942 : Int64) 8 T))))).length)])), (326, .inr (.inl (1, b5))), (343, .inl (2, [.int ns, .ref 344, .ref 345, .ref 346, .ref 347, .int nt, .ref 348, .ref 349, .ref 350, .ref 351, .ref 352, .ref 353, .ref 354, .int cel, .ref 355, .ref 356, .ref 357, .ref 358])), (344, .inr (.inr (.inl sn))), (348, .inr (.inr (.inl tn))), (349, .inr (.inl (0, siz))), (350, .inr (.inl (0, frm))), (351, .inr (.inl (0, tto))), (353, .inr (.inl (0, slo))), (354, .inr (.inl (0, wei)))] h0 := K.mg K9 rfl rfl
  clear K9
  show j_V jP _ 53 44 lv [] h9 _
  have q37 : (txN ns sn (gA frm x2) (tnA (gA siz x2) (twA (gL tn x2) 8 (tpA 32 (twA (500135192942 : Int64) 8 T))))).length ≤ T.length + 30 := Nat.le_trans (txN_len) (by omega)
  refine j_V.ldL xyrB_M xyrB_44 rfl (i := 0) (kd := 2) (v := .ref 325) (pcJ := 45) rfl L rfl rfl rfl ?_
  refine j_V.ldL xyrB_M xyrB_45 rfl (i := 1) (kd := 2) (v := .ref 343) (pcJ := 46) rfl L rfl rfl rfl ?_
  refine j_V.ldL xyrB_M xyrB_46 rfl (i := 1) (kd := 2) (v := .ref 343) (pcJ := 47) rfl L rfl rfl rfl ?_
  refine j_V.getK xyrB_M xyrB_47 (ci := 2) (j := 9) rfl K rfl rfl ?_
  refine j_V.ldL xyrB_M xyrB_50 rfl (i := 2) (kd := 0) (v := .int x2) (pcJ := 51) rfl L rfl rfl rfl ?_
  refine j_V.iaA xyrB_M xyrB_51 K rfl ?_
  refine j_V.cl xyrB_M xyrB_52 rfl (md := 3) (mj := 54) rfl (by decide) xyqB_M (As := [.ref 325, .ref 343, .int (gA tto x2)]) (rest := []) (jk_spl3 (K.at rfl) rfl rfl rfl (Nat.le_of_ble_eq_true rfl) (Nat.le_of_ble_eq_true rfl)) (fun d => xyqB_ok H (by omega) (K.fi [325, 326, 343, 344] rfl rfl)) ?_
  rintro r h9 ⟨rfl, b6, H, K9⟩
  have K : KN h9 [(325, .inl (6, [.ref 326, .int (nI (txN ns sn (gA tto x2) (txN ns sn (gA frm x2) (tnA (gA siz x2) (twA (gL tn x2) 8 (tpA 32 (twA (500135192942 : Int64) 8 T)))))).length)])), (326, .inr (.inl (1, b6))), (343, .inl (2, [.int ns, .ref 344, .ref 345, .ref 346, .ref 347, .int nt, .ref 348, .ref 349, .ref 350, .ref 351, .ref 352, .ref 353, .ref 354, .int cel, .ref 355, .ref 356, .ref 357, .ref 358])), (344, .inr (.inr (.inl sn))), (348, .inr (.inr (.inl tn))), (349, .inr (.inl (0, siz))), (350, .inr (.inl (0, frm))), (351, .inr (.inl (0, tto))), (353, .inr (.inl (0, slo))), (354, .inr (.inl (0, wei)))] h0 := K.mg K9 rfl rfl
  clear K9
  show j_V jP _ 53 55 lv [] h9 _
  have q38 : (txN ns sn (gA tto x2) (txN ns sn (gA frm x2) (tnA (gA siz x2) (twA (gL tn x2) 8 (tpA 32 (twA (500135192942 : Int64) 8 T)))))).length ≤ T.length + 39 := Nat.le_trans (txN_len) (by omega)
  refine j_V.ldL xyrB_M xyrB_55 rfl (i := 0) (kd := 2) (v := .ref 325) (pcJ := 56) rfl L rfl rfl rfl ?_
  refine j_V.ldL xyrB_M xyrB_56 rfl (i := 3) (kd := 0) (v := .int x3) (pcJ := 57) rfl L rfl rfl rfl ?_
  refine j_V.cl xyrB_M xyrB_57 rfl (md := 3) (mj := 56) rfl (by decide) xyn_M (As := [.ref 325, .int x3]) (rest := []) (jk_spl3 (K.at rfl) rfl rfl rfl (Nat.le_of_ble_eq_true rfl) (Nat.le_of_ble_eq_true rfl)) (fun d => xyn_ok H (by omega) (K.fi [325, 326] rfl rfl)) ?_
  rintro r h9 ⟨rfl, b7, H, K9⟩
  have K : KN h9 [(325, .inl (6, [.ref 326, .int (nI (tnA x3 (txN ns sn (gA tto x2) (txN ns sn (gA frm x2) (tnA (gA siz x2) (twA (gL tn x2) 8 (tpA 32 (twA (500135192942 : Int64) 8 T))))))).length)])), (326, .inr (.inl (1, b7))), (343, .inl (2, [.int ns, .ref 344, .ref 345, .ref 346, .ref 347, .int nt, .ref 348, .ref 349, .ref 350, .ref 351, .ref 352, .ref 353, .ref 354, .int cel, .ref 355, .ref 356, .ref 357, .ref 358])), (344, .inr (.inr (.inl sn))), (348, .inr (.inr (.inl tn))), (349, .inr (.inl (0, siz))), (350, .inr (.inl (0, frm))), (351, .inr (.inl (0, tto))), (353, .inr (.inl (0, slo))), (354, .inr (.inl (0, wei)))] h0 := K.mg K9 rfl rfl
  clear K9
  show j_V jP _ 53 60 lv [] h9 _
  have q39 : (tnA x3 (txN ns sn (gA tto x2) (txN ns sn (gA frm x2) (tnA (gA siz x2) (twA (gL tn x2) 8 (tpA 32 (twA (500135192942 : Int64) 8 T))))))).length ≤ T.length + 43 := Nat.le_trans (tnA_len) (by omega)
  refine j_V.ldL xyrB_M xyrB_60 rfl (i := 0) (kd := 2) (v := .ref 325) (pcJ := 61) rfl L rfl rfl rfl ?_
  refine j_V.one xyrB_M xyrB_61 (by decide) (pcJ := 63) (stJ := [.int 32, .ref 325]) rfl ?_
  refine j_V.cl xyrB_M xyrB_63 rfl (md := 3) (mj := 57) rfl (by decide) xyp_M (As := [.ref 325, .int 32]) (rest := []) (jk_spl3 (K.at rfl) rfl rfl rfl (Nat.le_of_ble_eq_true rfl) (Nat.le_of_ble_eq_true rfl)) (fun d => xyp_ok H (by omega) (K.fi [325, 326] rfl rfl)) ?_
  rintro r h9 ⟨rfl, b8, H, K9⟩
  have K : KN h9 [(325, .inl (6, [.ref 326, .int (nI (tpA 32 (tnA x3 (txN ns sn (gA tto x2) (txN ns sn (gA frm x2) (tnA (gA siz x2) (twA (gL tn x2) 8 (tpA 32 (twA (500135192942 : Int64) 8 T)))))))).length)])), (326, .inr (.inl (1, b8))), (343, .inl (2, [.int ns, .ref 344, .ref 345, .ref 346, .ref 347, .int nt, .ref 348, .ref 349, .ref 350, .ref 351, .ref 352, .ref 353, .ref 354, .int cel, .ref 355, .ref 356, .ref 357, .ref 358])), (344, .inr (.inr (.inl sn))), (348, .inr (.inr (.inl tn))), (349, .inr (.inl (0, siz))), (350, .inr (.inl (0, frm))), (351, .inr (.inl (0, tto))), (353, .inr (.inl (0, slo))), (354, .inr (.inl (0, wei)))] h0 := K.mg K9 rfl rfl
  clear K9
  show j_V jP _ 53 66 lv [] h9 _
  have q40 : (tpA 32 (tnA x3 (txN ns sn (gA tto x2) (txN ns sn (gA frm x2) (tnA (gA siz x2) (twA (gL tn x2) 8 (tpA 32 (twA (500135192942 : Int64) 8 T)))))))).length ≤ T.length + 44 := Nat.le_trans (Nat.le_of_eq tpA_len) (by omega)
  refine j_V.ldL xyrB_M xyrB_66 rfl (i := 0) (kd := 2) (v := .ref 325) (pcJ := 67) rfl L rfl rfl rfl ?_
  refine j_V.one xyrB_M xyrB_67 (by decide) (pcJ := 70) (stJ := [.long (1936486263 : Int64), .ref 325]) rfl ?_
  refine j_V.cl xyrB_M xyrB_70 rfl (md := 3) (mj := 55) rfl (by decide) xyw_M (As := [.ref 325, .long (1936486263 : Int64)]) (rest := []) (jk_spl3 (K.at rfl) rfl rfl rfl (Nat.le_of_ble_eq_true rfl) (Nat.le_of_ble_eq_true rfl)) (fun d => xyw_ok H (by omega) (K.fi [325, 326] rfl rfl)) ?_
  rintro r h9 ⟨rfl, b9, H, K9⟩
  have K : KN h9 [(325, .inl (6, [.ref 326, .int (nI (twA (1936486263 : Int64) 8 (tpA 32 (tnA x3 (txN ns sn (gA tto x2) (txN ns sn (gA frm x2) (tnA (gA siz x2) (twA (gL tn x2) 8 (tpA 32 (twA (500135192942 : Int64) 8 T))))))))).length)])), (326, .inr (.inl (1, b9))), (343, .inl (2, [.int ns, .ref 344, .ref 345, .ref 346, .ref 347, .int nt, .ref 348, .ref 349, .ref 350, .ref 351, .ref 352, .ref 353, .ref 354, .int cel, .ref 355, .ref 356, .ref 357, .ref 358])), (344, .inr (.inr (.inl sn))), (348, .inr (.inr (.inl tn))), (349, .inr (.inl (0, siz))), (350, .inr (.inl (0, frm))), (351, .inr (.inl (0, tto))), (353, .inr (.inl (0, slo))), (354, .inr (.inl (0, wei)))] h0 := K.mg K9 rfl rfl
  clear K9
  show j_V jP _ 53 73 lv [] h9 _
  have q41 : (twA (1936486263 : Int64) 8 (tpA 32 (tnA x3 (txN ns sn (gA tto x2) (txN ns sn (gA frm x2) (tnA (gA siz x2) (twA (gL tn x2) 8 (tpA 32 (twA (500135192942 : Int64) 8 T))))))))).length ≤ T.length + 52 := Nat.le_trans (twA_len) (by omega)
  refine j_V.ldL xyrB_M xyrB_73 rfl (i := 0) (kd := 2) (v := .ref 325) (pcJ := 74) rfl L rfl rfl rfl ?_
  refine j_V.ldL xyrB_M xyrB_74 rfl (i := 1) (kd := 2) (v := .ref 343) (pcJ := 75) rfl L rfl rfl rfl ?_
  refine j_V.getK xyrB_M xyrB_75 (ci := 2) (j := 11) rfl K rfl rfl ?_
  refine j_V.ldL xyrB_M xyrB_78 rfl (i := 2) (kd := 0) (v := .int x2) (pcJ := 79) rfl L rfl rfl rfl ?_
  refine j_V.iaA xyrB_M xyrB_79 K rfl ?_
  refine j_V.cl xyrB_M xyrB_80 rfl (md := 3) (mj := 56) rfl (by decide) xyn_M (As := [.ref 325, .int (gA slo x2)]) (rest := []) (jk_spl3 (K.at rfl) rfl rfl rfl (Nat.le_of_ble_eq_true rfl) (Nat.le_of_ble_eq_true rfl)) (fun d => xyn_ok H (by omega) (K.fi [325, 326] rfl rfl)) ?_
  rintro r h9 ⟨rfl, b10, H, K9⟩
  have K : KN h9 [(325, .inl (6, [.ref 326, .int (nI (tnA (gA slo x2) (twA (1936486263 : Int64) 8 (tpA 32 (tnA x3 (txN ns sn (gA tto x2) (txN ns sn (gA frm x2) (tnA (gA siz x2) (twA (gL tn x2) 8 (tpA 32 (twA (500135192942 : Int64) 8 T)))))))))).length)])), (326, .inr (.inl (1, b10))), (343, .inl (2, [.int ns, .ref 344, .ref 345, .ref 346, .ref 347, .int nt, .ref 348, .ref 349, .ref 350, .ref 351, .ref 352, .ref 353, .ref 354, .int cel, .ref 355, .ref 356, .ref 357, .ref 358])), (344, .inr (.inr (.inl sn))), (348, .inr (.inr (.inl tn))), (349, .inr (.inl (0, siz))), (350, .inr (.inl (0, frm))), (351, .inr (.inl (0, tto))), (353, .inr (.inl (0, slo))), (354, .inr (.inl (0, wei)))] h0 := K.mg K9 rfl rfl
  clear K9
  show j_V jP _ 53 83 lv [] h9 _
  have q42 : (tnA (gA slo x2) (twA (1936486263 : Int64) 8 (tpA 32 (tnA x3 (txN ns sn (gA tto x2) (txN ns sn (gA frm x2) (tnA (gA siz x2) (twA (gL tn x2) 8 (tpA 32 (twA (500135192942 : Int64) 8 T)))))))))).length ≤ T.length + 56 := Nat.le_trans (tnA_len) (by omega)
  refine j_V.ldL xyrB_M xyrB_83 rfl (i := 0) (kd := 2) (v := .ref 325) (pcJ := 84) rfl L rfl rfl rfl ?_
  refine j_V.one xyrB_M xyrB_84 (by decide) (pcJ := 86) (stJ := [.int 32, .ref 325]) rfl ?_
  refine j_V.cl xyrB_M xyrB_86 rfl (md := 3) (mj := 57) rfl (by decide) xyp_M (As := [.ref 325, .int 32]) (rest := []) (jk_spl3 (K.at rfl) rfl rfl rfl (Nat.le_of_ble_eq_true rfl) (Nat.le_of_ble_eq_true rfl)) (fun d => xyp_ok H (by omega) (K.fi [325, 326] rfl rfl)) ?_
  rintro r h9 ⟨rfl, b11, H, K9⟩
  have K : KN h9 [(325, .inl (6, [.ref 326, .int (nI (tpA 32 (tnA (gA slo x2) (twA (1936486263 : Int64) 8 (tpA 32 (tnA x3 (txN ns sn (gA tto x2) (txN ns sn (gA frm x2) (tnA (gA siz x2) (twA (gL tn x2) 8 (tpA 32 (twA (500135192942 : Int64) 8 T))))))))))).length)])), (326, .inr (.inl (1, b11))), (343, .inl (2, [.int ns, .ref 344, .ref 345, .ref 346, .ref 347, .int nt, .ref 348, .ref 349, .ref 350, .ref 351, .ref 352, .ref 353, .ref 354, .int cel, .ref 355, .ref 356, .ref 357, .ref 358])), (344, .inr (.inr (.inl sn))), (348, .inr (.inr (.inl tn))), (349, .inr (.inl (0, siz))), (350, .inr (.inl (0, frm))), (351, .inr (.inl (0, tto))), (353, .inr (.inl (0, slo))), (354, .inr (.inl (0, wei)))] h0 := K.mg K9 rfl rfl
  clear K9
  show j_V jP _ 53 89 lv [] h9 _
  have q43 : (tpA 32 (tnA (gA slo x2) (twA (1936486263 : Int64) 8 (tpA 32 (tnA x3 (txN ns sn (gA tto x2) (txN ns sn (gA frm x2) (tnA (gA siz x2) (twA (gL tn x2) 8 (tpA 32 (twA (500135192942 : Int64) 8 T))))))))))).length ≤ T.length + 57 := Nat.le_trans (Nat.le_of_eq tpA_len) (by omega)
  refine j_V.ldL xyrB_M xyrB_89 rfl (i := 0) (kd := 2) (v := .ref 325) (pcJ := 90) rfl L rfl rfl rfl ?_
  refine j_V.one xyrB_M xyrB_90 (by decide) (pcJ := 93) (stJ := [.long (131277443786868 : Int64), .ref 325]) rfl ?_
  refine j_V.cl xyrB_M xyrB_93 rfl (md := 3) (mj := 55) rfl (by decide) xyw_M (As := [.ref 325, .long (131277443786868 : Int64)]) (rest := []) (jk_spl3 (K.at rfl) rfl rfl rfl (Nat.le_of_ble_eq_true rfl) (Nat.le_of_ble_eq_true rfl)) (fun d => xyw_ok H (by omega) (K.fi [325, 326] rfl rfl)) ?_
  rintro r h9 ⟨rfl, b12, H, K9⟩
  have K : KN h9 [(325, .inl (6, [.ref 326, .int (nI (twA (131277443786868 : Int64) 8 (tpA 32 (tnA (gA slo x2) (twA (1936486263 : Int64) 8 (tpA 32 (tnA x3 (txN ns sn (gA tto x2) (txN ns sn (gA frm x2) (tnA (gA siz x2) (twA (gL tn x2) 8 (tpA 32 (twA (500135192942 : Int64) 8 T)))))))))))).length)])), (326, .inr (.inl (1, b12))), (343, .inl (2, [.int ns, .ref 344, .ref 345, .ref 346, .ref 347, .int nt, .ref 348, .ref 349, .ref 350, .ref 351, .ref 352, .ref 353, .ref 354, .int cel, .ref 355, .ref 356, .ref 357, .ref 358])), (344, .inr (.inr (.inl sn))), (348, .inr (.inr (.inl tn))), (349, .inr (.inl (0, siz))), (350, .inr (.inl (0, frm))), (351, .inr (.inl (0, tto))), (353, .inr (.inl (0, slo))), (354, .inr (.inl (0, wei)))] h0 := K.mg K9 rfl rfl
  clear K9
  show j_V jP _ 53 96 lv [] h9 _
  have q44 : (twA (131277443786868 : Int64) 8 (tpA 32 (tnA (gA slo x2) (twA (1936486263 : Int64) 8 (tpA 32 (tnA x3 (txN ns sn (gA tto x2) (txN ns sn (gA frm x2) (tnA (gA siz x2) (twA (gL tn x2) 8 (tpA 32 (twA (500135192942 : Int64) 8 T)))))))))))).length ≤ T.length + 65 := Nat.le_trans (twA_len) (by omega)
  refine j_V.ldL xyrB_M xyrB_96 rfl (i := 0) (kd := 2) (v := .ref 325) (pcJ := 97) rfl L rfl rfl rfl ?_
  refine j_V.ldL xyrB_M xyrB_97 rfl (i := 1) (kd := 2) (v := .ref 343) (pcJ := 98) rfl L rfl rfl rfl ?_
  refine j_V.getK xyrB_M xyrB_98 (ci := 2) (j := 12) rfl K rfl rfl ?_
  refine j_V.ldL xyrB_M xyrB_101 rfl (i := 2) (kd := 0) (v := .int x2) (pcJ := 102) rfl L rfl rfl rfl ?_
  refine j_V.iaA xyrB_M xyrB_102 K rfl ?_
  refine j_V.cl xyrB_M xyrB_103 rfl (md := 3) (mj := 56) rfl (by decide) xyn_M (As := [.ref 325, .int (gA wei x2)]) (rest := []) (jk_spl3 (K.at rfl) rfl rfl rfl (Nat.le_of_ble_eq_true rfl) (Nat.le_of_ble_eq_true rfl)) (fun d => xyn_ok H (by omega) (K.fi [325, 326] rfl rfl)) ?_
  rintro r h9 ⟨rfl, b13, H, K9⟩
  have K : KN h9 [(325, .inl (6, [.ref 326, .int (nI (tnA (gA wei x2) (twA (131277443786868 : Int64) 8 (tpA 32 (tnA (gA slo x2) (twA (1936486263 : Int64) 8 (tpA 32 (tnA x3 (txN ns sn (gA tto x2) (txN ns sn (gA frm x2) (tnA (gA siz x2) (twA (gL tn x2) 8 (tpA 32 (twA (500135192942 : Int64) 8 T))))))))))))).length)])), (326, .inr (.inl (1, b13))), (343, .inl (2, [.int ns, .ref 344, .ref 345, .ref 346, .ref 347, .int nt, .ref 348, .ref 349, .ref 350, .ref 351, .ref 352, .ref 353, .ref 354, .int cel, .ref 355, .ref 356, .ref 357, .ref 358])), (344, .inr (.inr (.inl sn))), (348, .inr (.inr (.inl tn))), (349, .inr (.inl (0, siz))), (350, .inr (.inl (0, frm))), (351, .inr (.inl (0, tto))), (353, .inr (.inl (0, slo))), (354, .inr (.inl (0, wei)))] h0 := K.mg K9 rfl rfl
  clear K9
  show j_V jP _ 53 106 lv [] h9 _
  have q45 : (tnA (gA wei x2) (twA (131277443786868 : Int64) 8 (tpA 32 (tnA (gA slo x2) (twA (1936486263 : Int64) 8 (tpA 32 (tnA x3 (txN ns sn (gA tto x2) (txN ns sn (gA frm x2) (tnA (gA siz x2) (twA (gL tn x2) 8 (tpA 32 (twA (500135192942 : Int64) 8 T))))))))))))).length ≤ T.length + 69 := Nat.le_trans (tnA_len) (by omega)
  refine j_V.ldL xyrB_M xyrB_106 rfl (i := 0) (kd := 2) (v := .ref 325) (pcJ := 107) rfl L rfl rfl rfl ?_
  refine j_V.one xyrB_M xyrB_107 (by decide) (pcJ := 109) (stJ := [.int 59, .ref 325]) rfl ?_
  refine j_V.cl xyrB_M xyrB_109 rfl (md := 3) (mj := 57) rfl (by decide) xyp_M (As := [.ref 325, .int 59]) (rest := []) (jk_spl3 (K.at rfl) rfl rfl rfl (Nat.le_of_ble_eq_true rfl) (Nat.le_of_ble_eq_true rfl)) (fun d => xyp_ok H (by omega) (K.fi [325, 326] rfl rfl)) ?_
  rintro r h9 ⟨rfl, b14, H, K9⟩
  have K : KN h9 [(325, .inl (6, [.ref 326, .int (nI (tpA 59 (tnA (gA wei x2) (twA (131277443786868 : Int64) 8 (tpA 32 (tnA (gA slo x2) (twA (1936486263 : Int64) 8 (tpA 32 (tnA x3 (txN ns sn (gA tto x2) (txN ns sn (gA frm x2) (tnA (gA siz x2) (twA (gL tn x2) 8 (tpA 32 (twA (500135192942 : Int64) 8 T)))))))))))))).length)])), (326, .inr (.inl (1, b14))), (343, .inl (2, [.int ns, .ref 344, .ref 345, .ref 346, .ref 347, .int nt, .ref 348, .ref 349, .ref 350, .ref 351, .ref 352, .ref 353, .ref 354, .int cel, .ref 355, .ref 356, .ref 357, .ref 358])), (344, .inr (.inr (.inl sn))), (348, .inr (.inr (.inl tn))), (349, .inr (.inl (0, siz))), (350, .inr (.inl (0, frm))), (351, .inr (.inl (0, tto))), (353, .inr (.inl (0, slo))), (354, .inr (.inl (0, wei)))] h0 := K.mg K9 rfl rfl
  clear K9
  show j_V jP _ 53 112 lv [] h9 _
  have q46 : (tpA 59 (tnA (gA wei x2) (twA (131277443786868 : Int64) 8 (tpA 32 (tnA (gA slo x2) (twA (1936486263 : Int64) 8 (tpA 32 (tnA x3 (txN ns sn (gA tto x2) (txN ns sn (gA frm x2) (tnA (gA siz x2) (twA (gL tn x2) 8 (tpA 32 (twA (500135192942 : Int64) 8 T)))))))))))))).length ≤ T.length + 70 := Nat.le_trans (Nat.le_of_eq tpA_len) (by omega)
  exact j_V.ret xyrB_M xyrB_112 rfl rfl ⟨rfl, _, H, K⟩
set_option maxRecDepth 100000 in
theorem xyvB_M : j_meth jP 51 = some (yX6_write, cX6_write, 4, none, 2, false, 6) := rfl
set_option maxRecDepth 100000 in
theorem xyvB_0 : j_code jP 51 0 = some (.aload_n 0) := rfl
set_option maxRecDepth 100000 in
theorem xyvB_1 : j_code jP 51 1 = some (.iconst 0) := rfl
set_option maxRecDepth 100000 in
theorem xyvB_2 : j_code jP 51 2 = some (.putfield 15) := rfl
set_option maxRecDepth 100000 in
theorem xyvB_5 : j_code jP 51 5 = some (.iconst 0) := rfl
set_option maxRecDepth 100000 in
theorem xyvB_6 : j_code jP 51 6 = some (.istore_n 3) := rfl
set_option maxRecDepth 100000 in
theorem xyvB_7 : j_code jP 51 7 = some (.iload_n 3) := rfl
set_option maxRecDepth 100000 in
theorem xyvB_8 : j_code jP 51 8 = some (.aload_n 1) := rfl
set_option maxRecDepth 100000 in
theorem xyvB_9 : j_code jP 51 9 = some (.getfield 19) := rfl
set_option maxRecDepth 100000 in
theorem xyvB_12 : j_code jP 51 12 = some (.if_icmp .ge 15) := rfl
set_option maxRecDepth 100000 in
theorem xyvB_15 : j_code jP 51 15 = some (.aload_n 0) := rfl
set_option maxRecDepth 100000 in
theorem xyvB_16 : j_code jP 51 16 = some (.aload_n 1) := rfl
set_option maxRecDepth 100000 in
theorem xyvB_17 : j_code jP 51 17 = some (.iload_n 3) := rfl
set_option maxRecDepth 100000 in
theorem xyvB_18 : j_code jP 51 18 = some (.invokevirtual 24) := rfl
set_option maxRecDepth 100000 in
theorem xyvB_21 : j_code jP 51 21 = some (.iinc 3 1) := rfl
set_option maxRecDepth 100000 in
theorem xyvB_24 : j_code jP 51 24 = some (.goto (-17)) := rfl
set_option maxRecDepth 100000 in
theorem xyvB_27 : j_code jP 51 27 = some (.iconst 0) := rfl
set_option maxRecDepth 100000 in
theorem xyvB_28 : j_code jP 51 28 = some (.istore_n 3) := rfl
set_option maxRecDepth 100000 in
theorem xyvB_29 : j_code jP 51 29 = some (.iload_n 3) := rfl
set_option maxRecDepth 100000 in
theorem xyvB_30 : j_code jP 51 30 = some (.aload_n 1) := rfl
set_option maxRecDepth 100000 in
theorem xyvB_31 : j_code jP 51 31 = some (.getfield 28) := rfl
set_option maxRecDepth 100000 in
theorem xyvB_34 : j_code jP 51 34 = some (.if_icmp .ge 21) := rfl
set_option maxRecDepth 100000 in
theorem xyvB_37 : j_code jP 51 37 = some (.aload_n 0) := rfl
set_option maxRecDepth 100000 in
theorem xyvB_38 : j_code jP 51 38 = some (.aload_n 1) := rfl
set_option maxRecDepth 100000 in
theorem xyvB_39 : j_code jP 51 39 = some (.iload_n 3) := rfl
set_option maxRecDepth 100000 in
theorem xyvB_40 : j_code jP 51 40 = some (.aload_n 2) := rfl
set_option maxRecDepth 100000 in
theorem xyvB_41 : j_code jP 51 41 = some (.getfield 31) := rfl
set_option maxRecDepth 100000 in
theorem xyvB_44 : j_code jP 51 44 = some (.iload_n 3) := rfl
set_option maxRecDepth 100000 in
theorem xyvB_45 : j_code jP 51 45 = some (.iaload) := rfl
set_option maxRecDepth 100000 in
theorem xyvB_46 : j_code jP 51 46 = some (.invokevirtual 37) := rfl
set_option maxRecDepth 100000 in
theorem xyvB_49 : j_code jP 51 49 = some (.iinc 3 1) := rfl
set_option maxRecDepth 100000 in
theorem xyvB_52 : j_code jP 51 52 = some (.goto (-23)) := rfl
set_option maxRecDepth 100000 in
theorem xyvB_55 : j_code jP 51 55 = some (.return_) := rfl
theorem xyvB_t {d S n : Nat} {u : Nat → Value} {sn tn : List Int64} {run tra len siz frm tto slo wei sta : List Int32} {cel : Int32} : ∀ (f j : Nat) (T b : List Int32) (lv : J_L) (h h0 : J_H), j + f = n → n ≤ 5 → tT 700 T b → T.length + 70 * f ≤ 700 → LK lv [(0, .ref 325), (1, .ref 343), (2, .ref 4), (3, .int (nI j))] → KN h [(4, .inl (7, [.ref 343, (u 1), (u 2), (u 3), (u 4), .ref 6, (u 6), (u 7), (u 8), (u 9), (u 10), (u 11), (u 12), (u 13), (u 14), (u 15), (u 16), (u 17), (u 18)])), (6, .inr (.inl (0, sta))), (325, .inl (6, [.ref 326, .int (nI T.length)])), (326, .inr (.inl (1, b))), (343, .inl (2, [.int (nI S), .ref 344, .ref 345, .ref 346, .ref 347, .int (nI n), .ref 348, .ref 349, .ref 350, .ref 351, .ref 352, .ref 353, .ref 354, .int cel, .ref 355, .ref 356, .ref 357, .ref 358])), (344, .inr (.inr (.inl sn))), (345, .inr (.inl (0, run))), (346, .inr (.inl (0, tra))), (347, .inr (.inl (0, len))), (348, .inr (.inr (.inl tn))), (349, .inr (.inl (0, siz))), (350, .inr (.inl (0, frm))), (351, .inr (.inl (0, tto))), (353, .inr (.inl (0, slo))), (354, .inr (.inl (0, wei)))] h0 → j_V jP d 51 29 lv [] h (fun rv h' => rv = none ∧ ∃ b', tT 700 (tlA (txT (nI S) sn tn siz frm tto slo wei sta) f (nI j) T) b' ∧ KN h' [(4, .inl (7, [.ref 343, (u 1), (u 2), (u 3), (u 4), .ref 6, (u 6), (u 7), (u 8), (u 9), (u 10), (u 11), (u 12), (u 13), (u 14), (u 15), (u 16), (u 17), (u 18)])), (6, .inr (.inl (0, sta))), (325, .inl (6, [.ref 326, .int (nI (tlA (txT (nI S) sn tn siz frm tto slo wei sta) f (nI j) T).length)])), (326, .inr (.inl (1, b'))), (343, .inl (2, [.int (nI S), .ref 344, .ref 345, .ref 346, .ref 347, .int (nI n), .ref 348, .ref 349, .ref 350, .ref 351, .ref 352, .ref 353, .ref 354, .int cel, .ref 355, .ref 356, .ref 357, .ref 358])), (344, .inr (.inr (.inl sn))), (345, .inr (.inl (0, run))), (346, .inr (.inl (0, tra))), (347, .inr (.inl (0, len))), (348, .inr (.inr (.inl tn))), (349, .inr (.inl (0, siz))), (350, .inr (.inl (0, frm))), (351, .inr (.inl (0, tto))), (353, .inr (.inl (0, slo))), (354, .inr (.inl (0, wei)))] h0) := by
  intro f
  induction f with
  | zero =>
    intro j T b lv h h0 e h5 H hl L K
    refine j_V.ldL xyvB_M xyvB_29 rfl (i := 3) (kd := 0) (v := .int (nI j)) (pcJ := 30) rfl L rfl rfl rfl ?_
    refine j_V.ldL xyvB_M xyvB_30 rfl (i := 1) (kd := 2) (v := .ref 343) (pcJ := 31) rfl L rfl rfl rfl ?_
    refine j_V.getK xyvB_M xyvB_31 (ci := 2) (j := 5) rfl K rfl rfl ?_
    refine j_V.icmp xyvB_M xyvB_34 (t := 55) rfl (fun c34_0 => ?_) (fun c34_0 => ?_)
    · replace c34_0 : ¬ ((nI j) < (nI n)) := jd_ge c34_0
      exact j_V.ret xyvB_M xyvB_55 rfl rfl ⟨rfl, _, H, K⟩
    · replace c34_0 : (nI j) < (nI n) := jd_gen c34_0
      exact absurd c34_0 (by rw [show j = n by omega]; exact Int32.lt_irrefl)
  | succ f ih =>
    intro j T b lv h h0 e h5 H hl L K
    refine j_V.ldL xyvB_M xyvB_29 rfl (i := 3) (kd := 0) (v := .int (nI j)) (pcJ := 30) rfl L rfl rfl rfl ?_
    refine j_V.ldL xyvB_M xyvB_30 rfl (i := 1) (kd := 2) (v := .ref 343) (pcJ := 31) rfl L rfl rfl rfl ?_
    refine j_V.getK xyvB_M xyvB_31 (ci := 2) (j := 5) rfl K rfl rfl ?_
    refine j_V.icmp xyvB_M xyvB_34 (t := 55) rfl (fun c34_0 => ?_) (fun c34_0 => ?_)
    · replace c34_0 : ¬ ((nI j) < (nI n)) := jd_ge c34_0
      exact absurd (nI_lt (by omega) (by omega)) c34_0
    · replace c34_0 : (nI j) < (nI n) := jd_gen c34_0
      refine j_V.ldL xyvB_M xyvB_37 rfl (i := 0) (kd := 2) (v := .ref 325) (pcJ := 38) rfl L rfl rfl rfl ?_
      refine j_V.ldL xyvB_M xyvB_38 rfl (i := 1) (kd := 2) (v := .ref 343) (pcJ := 39) rfl L rfl rfl rfl ?_
      refine j_V.ldL xyvB_M xyvB_39 rfl (i := 3) (kd := 0) (v := .int (nI j)) (pcJ := 40) rfl L rfl rfl rfl ?_
      refine j_V.ldL xyvB_M xyvB_40 rfl (i := 2) (kd := 2) (v := .ref 4) (pcJ := 41) rfl L rfl rfl rfl ?_
      refine j_V.getK xyvB_M xyvB_41 (ci := 7) (j := 5) rfl K rfl rfl ?_
      refine j_V.ldL xyvB_M xyvB_44 rfl (i := 3) (kd := 0) (v := .int (nI j)) (pcJ := 45) rfl L rfl rfl rfl ?_
      refine j_V.iaA xyvB_M xyvB_45 K rfl ?_
      refine j_V.cl xyvB_M xyvB_46 rfl (md := 3) (mj := 53) rfl (by decide) xyrB_M (As := [.ref 325, .ref 343, .int (nI j), .int (gA sta (nI j))]) (rest := []) (jk_spl3 (K.at rfl) rfl rfl rfl (Nat.le_of_ble_eq_true rfl) (Nat.le_of_ble_eq_true rfl)) (fun d => xyrB_ok H (by omega) (K.fi [325, 326, 343, 344, 348, 349, 350, 351, 353, 354] rfl rfl)) ?_
      rintro r h9 ⟨rfl, b1, H, K9⟩
      have K : KN h9 [(4, .inl (7, [.ref 343, (u 1), (u 2), (u 3), (u 4), .ref 6, (u 6), (u 7), (u 8), (u 9), (u 10), (u 11), (u 12), (u 13), (u 14), (u 15), (u 16), (u 17), (u 18)])), (6, .inr (.inl (0, sta))), (325, .inl (6, [.ref 326, .int (nI (txR (nI S) sn tn siz frm tto slo wei (nI j) (gA sta (nI j)) T).length)])), (326, .inr (.inl (1, b1))), (343, .inl (2, [.int (nI S), .ref 344, .ref 345, .ref 346, .ref 347, .int (nI n), .ref 348, .ref 349, .ref 350, .ref 351, .ref 352, .ref 353, .ref 354, .int cel, .ref 355, .ref 356, .ref 357, .ref 358])), (344, .inr (.inr (.inl sn))), (345, .inr (.inl (0, run))), (346, .inr (.inl (0, tra))), (347, .inr (.inl (0, len))), (348, .inr (.inr (.inl tn))), (349, .inr (.inl (0, siz))), (350, .inr (.inl (0, frm))), (351, .inr (.inl (0, tto))), (353, .inr (.inl (0, slo))), (354, .inr (.inl (0, wei)))] h0 := K.mg K9 rfl rfl
      clear K9
      show j_V jP _ 51 49 lv [] h9 _
      have q47 : (txR (nI S) sn tn siz frm tto slo wei (nI j) (gA sta (nI j)) T).length ≤ T.length + 70 := Nat.le_trans (txR_len) (by omega)
      refine j_V.inL2 xyvB_M xyvB_49 (i := 3) (kl' := [(0, .ref 325), (1, .ref 343), (2, .ref 4), (3, .int ((nI j) + 1))]) (pcJ := 52) L rfl rfl rfl rfl (fun lv L => ?_)
      refine j_V.gto xyvB_M xyvB_52 (t := 29) rfl ?_
      rw [nI_s] at L
      rw [tlA_s, nI_s]
      have hq : (txT (nI S) sn tn siz frm tto slo wei sta (nI j) T).length ≤ T.length + 70 := txR_len
      exact ih _ _ _ _ _ _ (by omega) h5 H (by omega) L K
theorem xyvB_s {d S n : Nat} {u : Nat → Value} {sn tn : List Int64} {run tra len siz frm tto slo wei sta : List Int32} {cel : Int32} : ∀ (f j : Nat) (T b : List Int32) (lv : J_L) (h h0 : J_H), j + f = S → n ≤ 5 → S ≤ 7 → (∀ j, j < S → lpN (gA tra (nI j)) 0 ≤ 3) → tT 700 T b → T.length + 34 * f + 70 * n ≤ 700 → LK lv [(0, .ref 325), (1, .ref 343), (2, .ref 4), (3, .int (nI j))] → KN h [(4, .inl (7, [.ref 343, (u 1), (u 2), (u 3), (u 4), .ref 6, (u 6), (u 7), (u 8), (u 9), (u 10), (u 11), (u 12), (u 13), (u 14), (u 15), (u 16), (u 17), (u 18)])), (6, .inr (.inl (0, sta))), (325, .inl (6, [.ref 326, .int (nI T.length)])), (326, .inr (.inl (1, b))), (343, .inl (2, [.int (nI S), .ref 344, .ref 345, .ref 346, .ref 347, .int (nI n), .ref 348, .ref 349, .ref 350, .ref 351, .ref 352, .ref 353, .ref 354, .int cel, .ref 355, .ref 356, .ref 357, .ref 358])), (344, .inr (.inr (.inl sn))), (345, .inr (.inl (0, run))), (346, .inr (.inl (0, tra))), (347, .inr (.inl (0, len))), (348, .inr (.inr (.inl tn))), (349, .inr (.inl (0, siz))), (350, .inr (.inl (0, frm))), (351, .inr (.inl (0, tto))), (353, .inr (.inl (0, slo))), (354, .inr (.inl (0, wei)))] h0 → j_V jP d 51 7 lv [] h (fun rv h' => rv = none ∧ ∃ b', tT 700 (tlA (txT (nI S) sn tn siz frm tto slo wei sta) n (nI 0) (tlA (txS sn run tra len) f (nI j) T)) b' ∧ KN h' [(4, .inl (7, [.ref 343, (u 1), (u 2), (u 3), (u 4), .ref 6, (u 6), (u 7), (u 8), (u 9), (u 10), (u 11), (u 12), (u 13), (u 14), (u 15), (u 16), (u 17), (u 18)])), (6, .inr (.inl (0, sta))), (325, .inl (6, [.ref 326, .int (nI (tlA (txT (nI S) sn tn siz frm tto slo wei sta) n (nI 0) (tlA (txS sn run tra len) f (nI j) T)).length)])), (326, .inr (.inl (1, b'))), (343, .inl (2, [.int (nI S), .ref 344, .ref 345, .ref 346, .ref 347, .int (nI n), .ref 348, .ref 349, .ref 350, .ref 351, .ref 352, .ref 353, .ref 354, .int cel, .ref 355, .ref 356, .ref 357, .ref 358])), (344, .inr (.inr (.inl sn))), (345, .inr (.inl (0, run))), (346, .inr (.inl (0, tra))), (347, .inr (.inl (0, len))), (348, .inr (.inr (.inl tn))), (349, .inr (.inl (0, siz))), (350, .inr (.inl (0, frm))), (351, .inr (.inl (0, tto))), (353, .inr (.inl (0, slo))), (354, .inr (.inl (0, wei)))] h0) := by
  intro f
  induction f with
  | zero =>
    intro j T b lv h h0 e h5 h7 hk H hl L K
    refine j_V.ldL xyvB_M xyvB_7 rfl (i := 3) (kd := 0) (v := .int (nI j)) (pcJ := 8) rfl L rfl rfl rfl ?_
    refine j_V.ldL xyvB_M xyvB_8 rfl (i := 1) (kd := 2) (v := .ref 343) (pcJ := 9) rfl L rfl rfl rfl ?_
    refine j_V.getK xyvB_M xyvB_9 (ci := 2) (j := 0) rfl K rfl rfl ?_
    refine j_V.icmp xyvB_M xyvB_12 (t := 27) rfl (fun c12_0 => ?_) (fun c12_0 => ?_)
    · replace c12_0 : ¬ ((nI j) < (nI S)) := jd_ge c12_0
      refine j_V.one xyvB_M xyvB_27 (by decide) (pcJ := 28) (stJ := [.int 0]) rfl ?_
      refine j_V.stL2 xyvB_M xyvB_28 rfl (i := 3) (kd := 0) (kl' := [(0, .ref 325), (1, .ref 343), (2, .ref 4), (3, .int 0)]) (pcJ := 29) rfl L rfl (by decide) rfl rfl rfl (fun lv L => ?_)
      exact xyvB_t n 0 T _ _ _ _ (by omega) h5 H (by omega) L K
    · replace c12_0 : (nI j) < (nI S) := jd_gen c12_0
      exact absurd c12_0 (by rw [show j = S by omega]; exact Int32.lt_irrefl)
  | succ f ih =>
    intro j T b lv h h0 e h5 h7 hk H hl L K
    refine j_V.ldL xyvB_M xyvB_7 rfl (i := 3) (kd := 0) (v := .int (nI j)) (pcJ := 8) rfl L rfl rfl rfl ?_
    refine j_V.ldL xyvB_M xyvB_8 rfl (i := 1) (kd := 2) (v := .ref 343) (pcJ := 9) rfl L rfl rfl rfl ?_
    refine j_V.getK xyvB_M xyvB_9 (ci := 2) (j := 0) rfl K rfl rfl ?_
    refine j_V.icmp xyvB_M xyvB_12 (t := 27) rfl (fun c12_0 => ?_) (fun c12_0 => ?_)
    · replace c12_0 : ¬ ((nI j) < (nI S)) := jd_ge c12_0
      exact absurd (nI_lt (by omega) (by omega)) c12_0
    · replace c12_0 : (nI j) < (nI S) := jd_gen c12_0
      refine j_V.ldL xyvB_M xyvB_15 rfl (i := 0) (kd := 2) (v := .ref 325) (pcJ := 16) rfl L rfl rfl rfl ?_
      refine j_V.ldL xyvB_M xyvB_16 rfl (i := 1) (kd := 2) (v := .ref 343) (pcJ := 17) rfl L rfl rfl rfl ?_
      refine j_V.ldL xyvB_M xyvB_17 rfl (i := 3) (kd := 0) (v := .int (nI j)) (pcJ := 18) rfl L rfl rfl rfl ?_
      refine j_V.cl xyvB_M xyvB_18 rfl (md := 3) (mj := 52) rfl (by decide) xysB_M (As := [.ref 325, .ref 343, .int (nI j)]) (rest := []) (jk_spl3 (K.at rfl) rfl rfl rfl (Nat.le_of_ble_eq_true rfl) (Nat.le_of_ble_eq_true rfl)) (fun d => xysB_ok H (by have := hk j (by omega); omega) (K.fi [325, 326, 343, 344, 345, 346, 347] rfl rfl)) ?_
      rintro r h9 ⟨rfl, b1, H, K9⟩
      have K : KN h9 [(4, .inl (7, [.ref 343, (u 1), (u 2), (u 3), (u 4), .ref 6, (u 6), (u 7), (u 8), (u 9), (u 10), (u 11), (u 12), (u 13), (u 14), (u 15), (u 16), (u 17), (u 18)])), (6, .inr (.inl (0, sta))), (325, .inl (6, [.ref 326, .int (nI (txS sn run tra len (nI j) T).length)])), (326, .inr (.inl (1, b1))), (343, .inl (2, [.int (nI S), .ref 344, .ref 345, .ref 346, .ref 347, .int (nI n), .ref 348, .ref 349, .ref 350, .ref 351, .ref 352, .ref 353, .ref 354, .int cel, .ref 355, .ref 356, .ref 357, .ref 358])), (344, .inr (.inr (.inl sn))), (345, .inr (.inl (0, run))), (346, .inr (.inl (0, tra))), (347, .inr (.inl (0, len))), (348, .inr (.inr (.inl tn))), (349, .inr (.inl (0, siz))), (350, .inr (.inl (0, frm))), (351, .inr (.inl (0, tto))), (353, .inr (.inl (0, slo))), (354, .inr (.inl (0, wei)))] h0 := K.mg K9 rfl rfl
      clear K9
      show j_V jP _ 51 21 lv [] h9 _
      have q48 : (txS sn run tra len (nI j) T).length ≤ T.length + 34 := Nat.le_trans (txS_len) (by have := hk j (by omega); omega)
      refine j_V.inL2 xyvB_M xyvB_21 (i := 3) (kl' := [(0, .ref 325), (1, .ref 343), (2, .ref 4), (3, .int ((nI j) + 1))]) (pcJ := 24) L rfl rfl rfl rfl (fun lv L => ?_)
      refine j_V.gto xyvB_M xyvB_24 (t := 7) rfl ?_
      rw [nI_s] at L
      rw [tlA_s, nI_s]
      have hk0 := hk j (by omega)
      have hq : (txS sn run tra len (nI j) T).length ≤ _ := txS_len
      exact ih _ _ _ _ _ _ (by omega) h5 h7 hk H (by omega) L K
theorem xyvB_ok {h h0 : J_H} {d S n : Nat} {u : Nat → Value} {sn tn : List Int64} {run tra len siz frm tto slo wei sta : List Int32} {cel : Int32} {ln : Int32} {b : List Int32} (h5 : n ≤ 5) (h7 : S ≤ 7) (hk : ∀ j, j < S → lpN (gA tra (nI j)) 0 ≤ 3) (hb : b.length = 700) (K : KN h [(4, .inl (7, [.ref 343, (u 1), (u 2), (u 3), (u 4), .ref 6, (u 6), (u 7), (u 8), (u 9), (u 10), (u 11), (u 12), (u 13), (u 14), (u 15), (u 16), (u 17), (u 18)])), (6, .inr (.inl (0, sta))), (325, .inl (6, [.ref 326, .int ln])), (326, .inr (.inl (1, b))), (343, .inl (2, [.int (nI S), .ref 344, .ref 345, .ref 346, .ref 347, .int (nI n), .ref 348, .ref 349, .ref 350, .ref 351, .ref 352, .ref 353, .ref 354, .int cel, .ref 355, .ref 356, .ref 357, .ref 358])), (344, .inr (.inr (.inl sn))), (345, .inr (.inl (0, run))), (346, .inr (.inl (0, tra))), (347, .inr (.inl (0, len))), (348, .inr (.inr (.inl tn))), (349, .inr (.inl (0, siz))), (350, .inr (.inl (0, frm))), (351, .inr (.inl (0, tto))), (353, .inr (.inl (0, slo))), (354, .inr (.inl (0, wei)))] h0) : j_V jP d 51 0 (lv_args 0 [.ref 325, .ref 343, .ref 4]) [] h (fun rv h' => rv = none ∧ ∃ b', tT 700 (txW S n sn tn run tra len siz frm tto slo wei sta) b' ∧ KN h' [(4, .inl (7, [.ref 343, (u 1), (u 2), (u 3), (u 4), .ref 6, (u 6), (u 7), (u 8), (u 9), (u 10), (u 11), (u 12), (u 13), (u 14), (u 15), (u 16), (u 17), (u 18)])), (6, .inr (.inl (0, sta))), (325, .inl (6, [.ref 326, .int (nI (txW S n sn tn run tra len siz frm tto slo wei sta).length)])), (326, .inr (.inl (1, b'))), (343, .inl (2, [.int (nI S), .ref 344, .ref 345, .ref 346, .ref 347, .int (nI n), .ref 348, .ref 349, .ref 350, .ref 351, .ref 352, .ref 353, .ref 354, .int cel, .ref 355, .ref 356, .ref 357, .ref 358])), (344, .inr (.inr (.inl sn))), (345, .inr (.inl (0, run))), (346, .inr (.inl (0, tra))), (347, .inr (.inl (0, len))), (348, .inr (.inr (.inl tn))), (349, .inr (.inl (0, siz))), (350, .inr (.inl (0, frm))), (351, .inr (.inl (0, tto))), (353, .inr (.inl (0, slo))), (354, .inr (.inl (0, wei)))] h0) := by
  show j_V jP d 51 0 [(0, .ref 325), (1, .ref 343), (2, .ref 4)] [] h _
  obtain ⟨lv, elv, L⟩ : ∃ lv, lv = [(0, .ref 325), (1, .ref 343), (2, .ref 4)] ∧ LK lv [(0, .ref 325), (1, .ref 343), (2, .ref 4)] := ⟨_, rfl, LK.rf⟩
  rw [← elv]
  clear elv
  refine j_V.ldL xyvB_M xyvB_0 rfl (i := 0) (kd := 2) (v := .ref 325) (pcJ := 1) rfl L rfl rfl rfl ?_
  refine j_V.one xyvB_M xyvB_1 (by decide) (pcJ := 2) (stJ := [.int 0, .ref 325]) rfl ?_
  refine j_V.putK xyvB_M xyvB_2 (ci := 6) (j := 1) (k' := [(4, .inl (7, [.ref 343, (u 1), (u 2), (u 3), (u 4), .ref 6, (u 6), (u 7), (u 8), (u 9), (u 10), (u 11), (u 12), (u 13), (u 14), (u 15), (u 16), (u 17), (u 18)])), (6, .inr (.inl (0, sta))), (325, .inl (6, [.ref 326, .int 0])), (326, .inr (.inl (1, b))), (343, .inl (2, [.int (nI S), .ref 344, .ref 345, .ref 346, .ref 347, .int (nI n), .ref 348, .ref 349, .ref 350, .ref 351, .ref 352, .ref 353, .ref 354, .int cel, .ref 355, .ref 356, .ref 357, .ref 358])), (344, .inr (.inr (.inl sn))), (345, .inr (.inl (0, run))), (346, .inr (.inl (0, tra))), (347, .inr (.inl (0, len))), (348, .inr (.inr (.inl tn))), (349, .inr (.inl (0, siz))), (350, .inr (.inl (0, frm))), (351, .inr (.inl (0, tto))), (353, .inr (.inl (0, slo))), (354, .inr (.inl (0, wei)))]) rfl K rfl (Nat.le_of_ble_eq_true rfl) rfl (Or.inl rfl) rfl rfl (fun h K => ?_)
  refine j_V.one xyvB_M xyvB_5 (by decide) (pcJ := 6) (stJ := [.int 0]) rfl ?_
  refine j_V.stL2 xyvB_M xyvB_6 rfl (i := 3) (kd := 0) (kl' := [(0, .ref 325), (1, .ref 343), (2, .ref 4), (3, .int 0)]) (pcJ := 7) rfl L rfl (by decide) rfl rfl rfl (fun lv L => ?_)
  exact xyvB_s S 0 [] _ _ _ _ (by omega) h5 h7 hk ⟨hb, fun i hi => absurd hi (Nat.not_lt_zero i)⟩ (show 0 + 34 * S + 70 * n ≤ 700 by omega) L K
theorem xytB_ok {h h0 : J_H} {d S n : Nat} {u : Nat → Value} {sn tn : List Int64} {run tra len siz frm tto slo wei sta : List Int32} {cel : Int32} {ln sst : Int32} {b : List Int32} (h5 : n ≤ 5) (h7 : S ≤ 7) (hk : ∀ j, j < S → lpN (gA tra (nI j)) 0 ≤ 3) (hb : b.length = 700) (K : KN h [(0, .inl (9, [.ref 1, .ref 3, .ref 4, .ref 29, .ref 281, .ref 325, .ref 343, .ref 327, .int sst])), (4, .inl (7, [.ref 343, (u 1), (u 2), (u 3), (u 4), .ref 6, (u 6), (u 7), (u 8), (u 9), (u 10), (u 11), (u 12), (u 13), (u 14), (u 15), (u 16), (u 17), (u 18)])), (6, .inr (.inl (0, sta))), (325, .inl (6, [.ref 326, .int ln])), (326, .inr (.inl (1, b))), (343, .inl (2, [.int (nI S), .ref 344, .ref 345, .ref 346, .ref 347, .int (nI n), .ref 348, .ref 349, .ref 350, .ref 351, .ref 352, .ref 353, .ref 354, .int cel, .ref 355, .ref 356, .ref 357, .ref 358])), (344, .inr (.inr (.inl sn))), (345, .inr (.inl (0, run))), (346, .inr (.inl (0, tra))), (347, .inr (.inl (0, len))), (348, .inr (.inr (.inl tn))), (349, .inr (.inl (0, siz))), (350, .inr (.inl (0, frm))), (351, .inr (.inl (0, tto))), (353, .inr (.inl (0, slo))), (354, .inr (.inl (0, wei)))] h0) : j_V jP d 158 0 (lv_args 0 [.ref 0]) [] h (fun rv h' => rv = some (.int (nI (txW S n sn tn run tra len siz frm tto slo wei sta).length)) ∧ ∃ b', tT 700 (txW S n sn tn run tra len siz frm tto slo wei sta) b' ∧ KN h' [(0, .inl (9, [.ref 1, .ref 3, .ref 4, .ref 29, .ref 281, .ref 325, .ref 343, .ref 327, .int 0])), (4, .inl (7, [.ref 343, (u 1), (u 2), (u 3), (u 4), .ref 6, (u 6), (u 7), (u 8), (u 9), (u 10), (u 11), (u 12), (u 13), (u 14), (u 15), (u 16), (u 17), (u 18)])), (6, .inr (.inl (0, sta))), (325, .inl (6, [.ref 326, .int (nI (txW S n sn tn run tra len siz frm tto slo wei sta).length)])), (326, .inr (.inl (1, b'))), (343, .inl (2, [.int (nI S), .ref 344, .ref 345, .ref 346, .ref 347, .int (nI n), .ref 348, .ref 349, .ref 350, .ref 351, .ref 352, .ref 353, .ref 354, .int cel, .ref 355, .ref 356, .ref 357, .ref 358])), (344, .inr (.inr (.inl sn))), (345, .inr (.inl (0, run))), (346, .inr (.inl (0, tra))), (347, .inr (.inl (0, len))), (348, .inr (.inr (.inl tn))), (349, .inr (.inl (0, siz))), (350, .inr (.inl (0, frm))), (351, .inr (.inl (0, tto))), (353, .inr (.inl (0, slo))), (354, .inr (.inl (0, wei)))] h0) := by
  show j_V jP d 158 0 [(0, .ref 0)] [] h _
  obtain ⟨lv, elv, L⟩ : ∃ lv, lv = [(0, .ref 0)] ∧ LK lv [(0, .ref 0)] := ⟨_, rfl, LK.rf⟩
  rw [← elv]
  clear elv
  refine j_V.ldL pcb_M pcb_0 rfl (i := 0) (kd := 2) (v := .ref 0) (pcJ := 1) rfl L rfl rfl rfl ?_
  refine j_V.getK pcb_M pcb_1 (ci := 9) (j := 5) rfl K rfl rfl ?_
  refine j_V.ldL pcb_M pcb_4 rfl (i := 0) (kd := 2) (v := .ref 0) (pcJ := 5) rfl L rfl rfl rfl ?_
  refine j_V.getK pcb_M pcb_5 (ci := 9) (j := 6) rfl K rfl rfl ?_
  refine j_V.ldL pcb_M pcb_8 rfl (i := 0) (kd := 2) (v := .ref 0) (pcJ := 9) rfl L rfl rfl rfl ?_
  refine j_V.getK pcb_M pcb_9 (ci := 9) (j := 2) rfl K rfl rfl ?_
  refine j_V.cl pcb_M pcb_12 rfl (md := 3) (mj := 51) rfl (by decide) xyvB_M (As := [.ref 325, .ref 343, .ref 4]) (rest := []) (jk_spl3 (K.at rfl) rfl rfl rfl (Nat.le_of_ble_eq_true rfl) (Nat.le_of_ble_eq_true rfl)) (fun d => xyvB_ok h5 h7 hk hb (K.fi [4, 6, 325, 326, 343, 344, 345, 346, 347, 348, 349, 350, 351, 353, 354] rfl rfl)) ?_
  rintro r h9 ⟨rfl, b9, H, K9⟩
  have K : KN h9 [(0, .inl (9, [.ref 1, .ref 3, .ref 4, .ref 29, .ref 281, .ref 325, .ref 343, .ref 327, .int sst])), (4, .inl (7, [.ref 343, (u 1), (u 2), (u 3), (u 4), .ref 6, (u 6), (u 7), (u 8), (u 9), (u 10), (u 11), (u 12), (u 13), (u 14), (u 15), (u 16), (u 17), (u 18)])), (6, .inr (.inl (0, sta))), (325, .inl (6, [.ref 326, .int (nI (txW S n sn tn run tra len siz frm tto slo wei sta).length)])), (326, .inr (.inl (1, b9))), (343, .inl (2, [.int (nI S), .ref 344, .ref 345, .ref 346, .ref 347, .int (nI n), .ref 348, .ref 349, .ref 350, .ref 351, .ref 352, .ref 353, .ref 354, .int cel, .ref 355, .ref 356, .ref 357, .ref 358])), (344, .inr (.inr (.inl sn))), (345, .inr (.inl (0, run))), (346, .inr (.inl (0, tra))), (347, .inr (.inl (0, len))), (348, .inr (.inr (.inl tn))), (349, .inr (.inl (0, siz))), (350, .inr (.inl (0, frm))), (351, .inr (.inl (0, tto))), (353, .inr (.inl (0, slo))), (354, .inr (.inl (0, wei)))] h0 := K.mg K9 rfl rfl
  clear K9
  show j_V jP _ 158 15 lv [] h9 _
  refine j_V.ldL pcb_M pcb_15 rfl (i := 0) (kd := 2) (v := .ref 0) (pcJ := 16) rfl L rfl rfl rfl ?_
  refine j_V.ldL pcb_M pcb_16 rfl (i := 0) (kd := 2) (v := .ref 0) (pcJ := 17) rfl L rfl rfl rfl ?_
  refine j_V.getK pcb_M pcb_17 (ci := 9) (j := 5) rfl K rfl rfl ?_
  refine j_V.getK pcb_M pcb_20 (ci := 6) (j := 1) rfl K rfl rfl ?_
  refine j_V.cl pcb_M pcb_23 rfl (md := 3) (mj := 159) rfl (by decide) pcab_M (As := [.ref 0, .int (nI (txW S n sn tn run tra len siz frm tto slo wei sta).length)]) (rest := []) (jk_spl3 (K.at rfl) rfl rfl rfl (Nat.le_of_ble_eq_true rfl) (Nat.le_of_ble_eq_true rfl)) (fun d => xb49_ok (K.fi [0] rfl rfl)) ?_
  rintro r h8 ⟨rfl, K9⟩
  have K : KN h8 [(0, .inl (9, [.ref 1, .ref 3, .ref 4, .ref 29, .ref 281, .ref 325, .ref 343, .ref 327, .int 0])), (4, .inl (7, [.ref 343, (u 1), (u 2), (u 3), (u 4), .ref 6, (u 6), (u 7), (u 8), (u 9), (u 10), (u 11), (u 12), (u 13), (u 14), (u 15), (u 16), (u 17), (u 18)])), (6, .inr (.inl (0, sta))), (325, .inl (6, [.ref 326, .int (nI (txW S n sn tn run tra len siz frm tto slo wei sta).length)])), (326, .inr (.inl (1, b9))), (343, .inl (2, [.int (nI S), .ref 344, .ref 345, .ref 346, .ref 347, .int (nI n), .ref 348, .ref 349, .ref 350, .ref 351, .ref 352, .ref 353, .ref 354, .int cel, .ref 355, .ref 356, .ref 357, .ref 358])), (344, .inr (.inr (.inl sn))), (345, .inr (.inl (0, run))), (346, .inr (.inl (0, tra))), (347, .inr (.inl (0, len))), (348, .inr (.inr (.inl tn))), (349, .inr (.inl (0, siz))), (350, .inr (.inl (0, frm))), (351, .inr (.inl (0, tto))), (353, .inr (.inl (0, slo))), (354, .inr (.inl (0, wei)))] h0 := K.mg K9 rfl rfl
  show j_V jP _ 158 26 lv [.int (nI (txW S n sn tn run tra len siz frm tto slo wei sta).length)] h8 _
  exact j_V.ret pcb_M pcb_26 rfl rfl ⟨rfl, _, H, K⟩

/-! the reference's weak, band, go, passes, ring, by wip/px/gen_m11.py -/
set_option maxRecDepth 100000 in
theorem mu0_M : j_meth jP 250 = some (yX10_weak, cX10_weak, 4, (some .int), 1, false, 10) := rfl
set_option maxRecDepth 100000 in
theorem mu0_0 : j_code jP 250 0 = some (.aload_n 0) := rfl
set_option maxRecDepth 100000 in
theorem mu0_1 : j_code jP 250 1 = some (.iload_n 1) := rfl
set_option maxRecDepth 100000 in
theorem mu0_2 : j_code jP 250 2 = some (.invokevirtual 65) := rfl
set_option maxRecDepth 100000 in
theorem mu0_5 : j_code jP 250 5 = some (.ifCond .ne 9) := rfl
set_option maxRecDepth 100000 in
theorem mu0_8 : j_code jP 250 8 = some (.aload_n 0) := rfl
set_option maxRecDepth 100000 in
theorem mu0_9 : j_code jP 250 9 = some (.iconst 2) := rfl
set_option maxRecDepth 100000 in
theorem mu0_10 : j_code jP 250 10 = some (.invokevirtual 179) := rfl
set_option maxRecDepth 100000 in
theorem mu0_13 : j_code jP 250 13 = some (.ireturn) := rfl
set_option maxRecDepth 100000 in
theorem mu0_14 : j_code jP 250 14 = some (.aload_n 0) := rfl
set_option maxRecDepth 100000 in
theorem mu0_15 : j_code jP 250 15 = some (.invokevirtual 256) := rfl
set_option maxRecDepth 100000 in
theorem mu0_18 : j_code jP 250 18 = some (.ifCond .ne 9) := rfl
set_option maxRecDepth 100000 in
theorem mu0_21 : j_code jP 250 21 = some (.aload_n 0) := rfl
set_option maxRecDepth 100000 in
theorem mu0_22 : j_code jP 250 22 = some (.iconst 5) := rfl
set_option maxRecDepth 100000 in
theorem mu0_23 : j_code jP 250 23 = some (.invokevirtual 179) := rfl
set_option maxRecDepth 100000 in
theorem mu0_26 : j_code jP 250 26 = some (.ireturn) := rfl
set_option maxRecDepth 100000 in
theorem mu0_27 : j_code jP 250 27 = some (.iconst 0) := rfl
set_option maxRecDepth 100000 in
theorem mu0_28 : j_code jP 250 28 = some (.istore_n 2) := rfl
set_option maxRecDepth 100000 in
theorem mu0_29 : j_code jP 250 29 = some (.iconst 0) := rfl
set_option maxRecDepth 100000 in
theorem mu0_30 : j_code jP 250 30 = some (.istore_n 3) := rfl
set_option maxRecDepth 100000 in
theorem mu0_31 : j_code jP 250 31 = some (.iload_n 3) := rfl
set_option maxRecDepth 100000 in
theorem mu0_32 : j_code jP 250 32 = some (.aload_n 0) := rfl
set_option maxRecDepth 100000 in
theorem mu0_33 : j_code jP 250 33 = some (.iload_n 1) := rfl
set_option maxRecDepth 100000 in
theorem mu0_34 : j_code jP 250 34 = some (.iconst 1) := rfl
set_option maxRecDepth 100000 in
theorem mu0_35 : j_code jP 250 35 = some (.invokevirtual 69) := rfl
set_option maxRecDepth 100000 in
theorem mu0_38 : j_code jP 250 38 = some (.if_icmp .ge 69) := rfl
set_option maxRecDepth 100000 in
theorem mu0_41 : j_code jP 250 41 = some (.aload_n 0) := rfl
set_option maxRecDepth 100000 in
theorem mu0_42 : j_code jP 250 42 = some (.iload_n 1) := rfl
set_option maxRecDepth 100000 in
theorem mu0_43 : j_code jP 250 43 = some (.iconst 5) := rfl
set_option maxRecDepth 100000 in
theorem mu0_44 : j_code jP 250 44 = some (.iload_n 3) := rfl
set_option maxRecDepth 100000 in
theorem mu0_45 : j_code jP 250 45 = some (.iadd) := rfl
set_option maxRecDepth 100000 in
theorem mu0_46 : j_code jP 250 46 = some (.invokevirtual 69) := rfl
set_option maxRecDepth 100000 in
theorem mu0_49 : j_code jP 250 49 = some (.iconst 1) := rfl
set_option maxRecDepth 100000 in
theorem mu0_50 : j_code jP 250 50 = some (.if_icmp .ne 6) := rfl
set_option maxRecDepth 100000 in
theorem mu0_53 : j_code jP 250 53 = some (.goto 48) := rfl
set_option maxRecDepth 100000 in
theorem mu0_56 : j_code jP 250 56 = some (.aload_n 0) := rfl
set_option maxRecDepth 100000 in
theorem mu0_57 : j_code jP 250 57 = some (.getfield 7) := rfl
set_option maxRecDepth 100000 in
theorem mu0_60 : j_code jP 250 60 = some (.bipush 8) := rfl
set_option maxRecDepth 100000 in
theorem mu0_62 : j_code jP 250 62 = some (.iload_n 1) := rfl
set_option maxRecDepth 100000 in
theorem mu0_63 : j_code jP 250 63 = some (.imul) := rfl
set_option maxRecDepth 100000 in
theorem mu0_64 : j_code jP 250 64 = some (.iconst 5) := rfl
set_option maxRecDepth 100000 in
theorem mu0_65 : j_code jP 250 65 = some (.iadd) := rfl
set_option maxRecDepth 100000 in
theorem mu0_66 : j_code jP 250 66 = some (.iload_n 3) := rfl
set_option maxRecDepth 100000 in
theorem mu0_67 : j_code jP 250 67 = some (.iadd) := rfl
set_option maxRecDepth 100000 in
theorem mu0_68 : j_code jP 250 68 = some (.iconst 1) := rfl
set_option maxRecDepth 100000 in
theorem mu0_69 : j_code jP 250 69 = some (.iastore) := rfl
set_option maxRecDepth 100000 in
theorem mu0_70 : j_code jP 250 70 = some (.iload_n 2) := rfl
set_option maxRecDepth 100000 in
theorem mu0_71 : j_code jP 250 71 = some (.aload_n 0) := rfl
set_option maxRecDepth 100000 in
theorem mu0_72 : j_code jP 250 72 = some (.invokevirtual 256) := rfl
set_option maxRecDepth 100000 in
theorem mu0_75 : j_code jP 250 75 = some (.ifCond .eq 7) := rfl
set_option maxRecDepth 100000 in
theorem mu0_78 : j_code jP 250 78 = some (.iconst 0) := rfl
set_option maxRecDepth 100000 in
theorem mu0_79 : j_code jP 250 79 = some (.goto 6) := rfl
set_option maxRecDepth 100000 in
theorem mu0_82 : j_code jP 250 82 = some (.iconst 1) := rfl
set_option maxRecDepth 100000 in
theorem mu0_83 : j_code jP 250 83 = some (.iload_n 3) := rfl
set_option maxRecDepth 100000 in
theorem mu0_84 : j_code jP 250 84 = some (.ishl) := rfl
set_option maxRecDepth 100000 in
theorem mu0_85 : j_code jP 250 85 = some (.ior) := rfl
set_option maxRecDepth 100000 in
theorem mu0_86 : j_code jP 250 86 = some (.istore_n 2) := rfl
set_option maxRecDepth 100000 in
theorem mu0_87 : j_code jP 250 87 = some (.aload_n 0) := rfl
set_option maxRecDepth 100000 in
theorem mu0_88 : j_code jP 250 88 = some (.getfield 7) := rfl
set_option maxRecDepth 100000 in
theorem mu0_91 : j_code jP 250 91 = some (.bipush 8) := rfl
set_option maxRecDepth 100000 in
theorem mu0_93 : j_code jP 250 93 = some (.iload_n 1) := rfl
set_option maxRecDepth 100000 in
theorem mu0_94 : j_code jP 250 94 = some (.imul) := rfl
set_option maxRecDepth 100000 in
theorem mu0_95 : j_code jP 250 95 = some (.iconst 5) := rfl
set_option maxRecDepth 100000 in
theorem mu0_96 : j_code jP 250 96 = some (.iadd) := rfl
set_option maxRecDepth 100000 in
theorem mu0_97 : j_code jP 250 97 = some (.iload_n 3) := rfl
set_option maxRecDepth 100000 in
theorem mu0_98 : j_code jP 250 98 = some (.iadd) := rfl
set_option maxRecDepth 100000 in
theorem mu0_99 : j_code jP 250 99 = some (.iconst 0) := rfl
set_option maxRecDepth 100000 in
theorem mu0_100 : j_code jP 250 100 = some (.iastore) := rfl
set_option maxRecDepth 100000 in
theorem mu0_101 : j_code jP 250 101 = some (.iinc 3 1) := rfl
set_option maxRecDepth 100000 in
theorem mu0_104 : j_code jP 250 104 = some (.goto (-73)) := rfl
set_option maxRecDepth 100000 in
theorem mu0_107 : j_code jP 250 107 = some (.aload_n 0) := rfl
set_option maxRecDepth 100000 in
theorem mu0_108 : j_code jP 250 108 = some (.iload_n 2) := rfl
set_option maxRecDepth 100000 in
theorem mu0_109 : j_code jP 250 109 = some (.invokevirtual 195) := rfl
set_option maxRecDepth 100000 in
theorem mu0_112 : j_code jP 250 112 = some (.ireturn) := rfl
def m_qweak_l31 (n : Nat) (th : Int32) (sst : Int32) (w : List Int32) (x1 : Int32) : Nat → Nat → Int32 → Int32 × Int32 × Int32
  | 0, i, v2 => (((m_gives th sst v2).1), ((m_gives th sst v2).2.1), ((m_gives th sst v2).2.2))
  | f + 1, i, v2 => (if (m_st w x1 (5 + (nI i))) = 1 then (m_qweak_l31 n th sst w x1 f (i + 1) v2) else (if (m_isSafe (sA w (((8 * x1) + 5) + (nI i)) 1) n) = 0 then (m_qweak_l31 n th sst w x1 f (i + 1) (v2 ||| (1 <<< ((nI i) &&& 31)))) else (m_qweak_l31 n th sst w x1 f (i + 1) (v2 ||| 0))))
set_option maxRecDepth 1000000 in
theorem mu0_ok_l31 {u : Nat → Value} {n d : Nat} {h0 : J_H} {th sst acs x1 : Int32} {w kp od be : List Int32}  {I J : List Int32 → Prop} (H : m_Inv n I J) (H2 : m_Iv2 n I) (hI : I w) (hs : ¬ m_isStation w x1 = 0) : ∀ (f i : Nat) (v2 : Int32) {sd ot tk : List Int32} {tm : Int32} {lv : J_L} {h : J_H}, (lpN (m_st w x1 1) (nI i) = f ∧ i + f < 2147483648) → sd.length = 602 → ot.length = 602 → LK lv [(0, .ref 359), (1, .int x1), (2, .int v2), (3, .int (nI i))] → KN h [(359, .inl (10, [.int th, .ref 360, .ref 361, .ref 362, .ref 363, .ref 364, .ref 365, .ref 366, .ref 367, (u 9), .int sst, (u 11), (u 12), .int acs, (u 14), (u 15), (u 16), (u 17), (u 18), (u 19), (u 20), (u 21), .ref 368, .int tm, .ref 369, .ref 370, .ref 371, (u 27)])), (360, .inr (.inl (0, w))), (362, .inr (.inl (0, sd))), (363, .inr (.inl (0, ot))), (364, .inr (.inl (0, kp))), (368, .inr (.inl (0, tk))), (369, .inr (.inl (0, od))), (370, .inr (.inl (0, be)))] h0 → j_V jP d 250 31 lv [] h (fun rv h' => rv = some (.int (m_qweak_l31 n th sst w x1 f i v2).1) ∧ ∃ (sd' ot' tk' : List Int32) (tm' : Int32), sd'.length = 602 ∧ ot'.length = 602 ∧ KN h' [(359, .inl (10, [.int (m_qweak_l31 n th sst w x1 f i v2).2.1, .ref 360, .ref 361, .ref 362, .ref 363, .ref 364, .ref 365, .ref 366, .ref 367, (u 9), .int (m_qweak_l31 n th sst w x1 f i v2).2.2, (u 11), (u 12), .int acs, (u 14), (u 15), (u 16), (u 17), (u 18), (u 19), (u 20), (u 21), .ref 368, .int tm', .ref 369, .ref 370, .ref 371, (u 27)])), (360, .inr (.inl (0, w))), (362, .inr (.inl (0, sd'))), (363, .inr (.inl (0, ot'))), (364, .inr (.inl (0, kp))), (368, .inr (.inl (0, tk'))), (369, .inr (.inl (0, od))), (370, .inr (.inl (0, be)))] h0) := by
  have hn5 := H.n5
  intro f
  induction f with
  | zero =>
    intro i v2 sd ot tk tm lv h e hsd hot L K
    refine j_V.ldL mu0_M mu0_31 rfl (i := 3) (kd := 0) (v := .int (nI i)) (pcJ := 32) rfl L rfl rfl rfl ?_
    refine j_V.ldL mu0_M mu0_32 rfl (i := 0) (kd := 2) (v := .ref 359) (pcJ := 33) rfl L rfl rfl rfl ?_
    refine j_V.ldL mu0_M mu0_33 rfl (i := 1) (kd := 0) (v := .int x1) (pcJ := 34) rfl L rfl rfl rfl ?_
    refine j_V.one mu0_M mu0_34 (by decide) (pcJ := 35) (stJ := [.int 1, .int x1, .ref 359, .int (nI i)]) rfl ?_
    refine j_V.cl mu0_M mu0_35 rfl (md := 3) (mj := 176) rfl (by decide) ma1_M (As := [.ref 359, .int x1, .int 1]) (rest := [.int (nI i)]) (jk_spl3 (K.at rfl) rfl rfl rfl (Nat.le_of_ble_eq_true rfl) (Nat.le_of_ble_eq_true rfl)) (fun d => ma1_ok (u := fun j => [.int th, .ref 360, .ref 361, .ref 362, .ref 363, .ref 364, .ref 365, .ref 366, .ref 367, (u 9), .int sst, (u 11), (u 12), .int acs, (u 14), (u 15), (u 16), (u 17), (u 18), (u 19), (u 20), (u 21), .ref 368, .int tm, .ref 369, .ref 370, .ref 371, (u 27)].getD j .null) (K.fi [359, 360] rfl rfl)) ?_
    rintro r hz ⟨rfl, ez⟩
    rw [ez]
    clear ez
    show j_V jP _ 250 38 lv [.int (m_st w x1 1), .int (nI i)] h _
    refine j_V.icmp mu0_M mu0_38 (t := 107) rfl (fun c38_0 => ?_) (fun c38_0 => ?_)
    · replace c38_0 : ¬ ((nI i) < (m_st w x1 1)) := jd_ge c38_0
      refine j_V.ldL mu0_M mu0_107 rfl (i := 0) (kd := 2) (v := .ref 359) (pcJ := 108) rfl L rfl rfl rfl ?_
      refine j_V.ldL mu0_M mu0_108 rfl (i := 2) (kd := 0) (v := .int v2) (pcJ := 109) rfl L rfl rfl rfl ?_
      refine j_V.cl mu0_M mu0_109 rfl (md := 3) (mj := 170) rfl (by decide) mo1_M (As := [.ref 359, .int v2]) (rest := []) (jk_spl3 (K.at rfl) rfl rfl rfl (Nat.le_of_ble_eq_true rfl) (Nat.le_of_ble_eq_true rfl)) (fun d => mo1_ok (u := fun j => [.int th, .ref 360, .ref 361, .ref 362, .ref 363, .ref 364, .ref 365, .ref 366, .ref 367, (u 9), .int sst, (u 11), (u 12), .int acs, (u 14), (u 15), (u 16), (u 17), (u 18), (u 19), (u 20), (u 21), .ref 368, .int tm, .ref 369, .ref 370, .ref 371, (u 27)].getD j .null) (K.fi [359] rfl rfl)) ?_
      rintro r h9 ⟨rfl, K9⟩
      have K : KN h9 [(359, .inl (10, [.int ((m_gives th sst v2).2.1), .ref 360, .ref 361, .ref 362, .ref 363, .ref 364, .ref 365, .ref 366, .ref 367, (u 9), .int ((m_gives th sst v2).2.2), (u 11), (u 12), .int acs, (u 14), (u 15), (u 16), (u 17), (u 18), (u 19), (u 20), (u 21), .ref 368, .int tm, .ref 369, .ref 370, .ref 371, (u 27)])), (360, .inr (.inl (0, w))), (362, .inr (.inl (0, sd))), (363, .inr (.inl (0, ot))), (364, .inr (.inl (0, kp))), (368, .inr (.inl (0, tk))), (369, .inr (.inl (0, od))), (370, .inr (.inl (0, be)))] h0 := K.mg K9 rfl rfl
      clear K9
      show j_V jP _ 250 112 lv [.int ((m_gives th sst v2).1)] h9 _
      refine j_V.ri mu0_M mu0_112 ?_
      rw [show (m_qweak_l31 n th sst w x1 0 i v2) = _ from (rfl)]
      exact ⟨rfl, sd, ot, tk, tm, hsd, hot, K⟩
    · replace c38_0 : (nI i) < (m_st w x1 1) := jd_gen c38_0
      exact absurd c38_0 (lpN_z e.1)
  | succ f ih =>
    intro i v2 sd ot tk tm lv h e hsd hot L K
    refine j_V.ldL mu0_M mu0_31 rfl (i := 3) (kd := 0) (v := .int (nI i)) (pcJ := 32) rfl L rfl rfl rfl ?_
    refine j_V.ldL mu0_M mu0_32 rfl (i := 0) (kd := 2) (v := .ref 359) (pcJ := 33) rfl L rfl rfl rfl ?_
    refine j_V.ldL mu0_M mu0_33 rfl (i := 1) (kd := 0) (v := .int x1) (pcJ := 34) rfl L rfl rfl rfl ?_
    refine j_V.one mu0_M mu0_34 (by decide) (pcJ := 35) (stJ := [.int 1, .int x1, .ref 359, .int (nI i)]) rfl ?_
    refine j_V.cl mu0_M mu0_35 rfl (md := 3) (mj := 176) rfl (by decide) ma1_M (As := [.ref 359, .int x1, .int 1]) (rest := [.int (nI i)]) (jk_spl3 (K.at rfl) rfl rfl rfl (Nat.le_of_ble_eq_true rfl) (Nat.le_of_ble_eq_true rfl)) (fun d => ma1_ok (u := fun j => [.int th, .ref 360, .ref 361, .ref 362, .ref 363, .ref 364, .ref 365, .ref 366, .ref 367, (u 9), .int sst, (u 11), (u 12), .int acs, (u 14), (u 15), (u 16), (u 17), (u 18), (u 19), (u 20), (u 21), .ref 368, .int tm, .ref 369, .ref 370, .ref 371, (u 27)].getD j .null) (K.fi [359, 360] rfl rfl)) ?_
    rintro r hz ⟨rfl, ez⟩
    rw [ez]
    clear ez
    show j_V jP _ 250 38 lv [.int (m_st w x1 1), .int (nI i)] h _
    refine j_V.icmp mu0_M mu0_38 (t := 107) rfl (fun c38_0 => ?_) (fun c38_0 => ?_)
    · replace c38_0 : ¬ ((nI i) < (m_st w x1 1)) := jd_ge c38_0
      exact absurd (lpN_s e.1) c38_0
    · replace c38_0 : (nI i) < (m_st w x1 1) := jd_gen c38_0
      refine j_V.ldL mu0_M mu0_41 rfl (i := 0) (kd := 2) (v := .ref 359) (pcJ := 42) rfl L rfl rfl rfl ?_
      refine j_V.ldL mu0_M mu0_42 rfl (i := 1) (kd := 0) (v := .int x1) (pcJ := 43) rfl L rfl rfl rfl ?_
      refine j_V.one mu0_M mu0_43 (by decide) (pcJ := 44) (stJ := [.int 5, .int x1, .ref 359]) rfl ?_
      refine j_V.ldL mu0_M mu0_44 rfl (i := 3) (kd := 0) (v := .int (nI i)) (pcJ := 45) rfl L rfl rfl rfl ?_
      refine j_V.one mu0_M mu0_45 (by decide) (pcJ := 46) (stJ := [.int (5 + (nI i)), .int x1, .ref 359]) rfl ?_
      refine j_V.cl mu0_M mu0_46 rfl (md := 3) (mj := 176) rfl (by decide) ma1_M (As := [.ref 359, .int x1, .int (5 + (nI i))]) (rest := []) (jk_spl3 (K.at rfl) rfl rfl rfl (Nat.le_of_ble_eq_true rfl) (Nat.le_of_ble_eq_true rfl)) (fun d => ma1_ok (u := fun j => [.int th, .ref 360, .ref 361, .ref 362, .ref 363, .ref 364, .ref 365, .ref 366, .ref 367, (u 9), .int sst, (u 11), (u 12), .int acs, (u 14), (u 15), (u 16), (u 17), (u 18), (u 19), (u 20), (u 21), .ref 368, .int tm, .ref 369, .ref 370, .ref 371, (u 27)].getD j .null) (K.fi [359, 360] rfl rfl)) ?_
      rintro r hz ⟨rfl, ez⟩
      rw [ez]
      clear ez
      show j_V jP _ 250 49 lv [.int (m_st w x1 (5 + (nI i)))] h _
      refine j_V.one mu0_M mu0_49 (by decide) (pcJ := 50) (stJ := [.int 1, .int (m_st w x1 (5 + (nI i)))]) rfl ?_
      refine j_V.icmp mu0_M mu0_50 (t := 56) rfl (fun c50_0 => ?_) (fun c50_0 => ?_)
      · replace c50_0 : ¬ ((m_st w x1 (5 + (nI i))) = 1) := jd_ne c50_0
        refine j_V.ldL mu0_M mu0_56 rfl (i := 0) (kd := 2) (v := .ref 359) (pcJ := 57) rfl L rfl rfl rfl ?_
        refine j_V.getK mu0_M mu0_57 (ci := 10) (j := 1) rfl K rfl rfl ?_
        refine j_V.one mu0_M mu0_60 (by decide) (pcJ := 62) (stJ := [.int 8, .ref 360]) rfl ?_
        refine j_V.ldL mu0_M mu0_62 rfl (i := 1) (kd := 0) (v := .int x1) (pcJ := 63) rfl L rfl rfl rfl ?_
        refine j_V.one mu0_M mu0_63 (by decide) (pcJ := 64) (stJ := [.int (8 * x1), .ref 360]) rfl ?_
        refine j_V.one mu0_M mu0_64 (by decide) (pcJ := 65) (stJ := [.int 5, .int (8 * x1), .ref 360]) rfl ?_
        refine j_V.one mu0_M mu0_65 (by decide) (pcJ := 66) (stJ := [.int ((8 * x1) + 5), .ref 360]) rfl ?_
        refine j_V.ldL mu0_M mu0_66 rfl (i := 3) (kd := 0) (v := .int (nI i)) (pcJ := 67) rfl L rfl rfl rfl ?_
        refine j_V.one mu0_M mu0_67 (by decide) (pcJ := 68) (stJ := [.int (((8 * x1) + 5) + (nI i)), .ref 360]) rfl ?_
        refine j_V.one mu0_M mu0_68 (by decide) (pcJ := 69) (stJ := [.int 1, .int (((8 * x1) + 5) + (nI i)), .ref 360]) rfl ?_
        refine j_V.isA mu0_M mu0_69 (k' := [(359, .inl (10, [.int th, .ref 360, .ref 361, .ref 362, .ref 363, .ref 364, .ref 365, .ref 366, .ref 367, (u 9), .int sst, (u 11), (u 12), .int acs, (u 14), (u 15), (u 16), (u 17), (u 18), (u 19), (u 20), (u 21), .ref 368, .int tm, .ref 369, .ref 370, .ref 371, (u 27)])), (360, .inr (.inl (0, (sA w (((8 * x1) + 5) + (nI i)) 1)))), (362, .inr (.inl (0, sd))), (363, .inr (.inl (0, ot))), (364, .inr (.inl (0, kp))), (368, .inr (.inl (0, tk))), (369, .inr (.inl (0, od))), (370, .inr (.inl (0, be)))]) K rfl rfl (fun h K => ?_)
        refine j_V.ldL mu0_M mu0_70 rfl (i := 2) (kd := 0) (v := .int v2) (pcJ := 71) rfl L rfl rfl rfl ?_
        refine j_V.ldL mu0_M mu0_71 rfl (i := 0) (kd := 2) (v := .ref 359) (pcJ := 72) rfl L rfl rfl rfl ?_
        refine j_V.cl mu0_M mu0_72 rfl (md := 3) (mj := 219) rfl (by decide) mh1_M (As := [.ref 359]) (rest := [.int v2]) (jk_spl3 (K.at rfl) rfl rfl rfl (Nat.le_of_ble_eq_true rfl) (Nat.le_of_ble_eq_true rfl)) (fun d => mh1_ok (u := fun j => [.int th, .ref 360, .ref 361, .ref 362, .ref 363, .ref 364, .ref 365, .ref 366, .ref 367, (u 9), .int sst, (u 11), (u 12), .int acs, (u 14), (u 15), (u 16), (u 17), (u 18), (u 19), (u 20), (u 21), .ref 368, .int tm, .ref 369, .ref 370, .ref 371, (u 27)].getD j .null) (H2.C _ _ i hI hs (by omega) (lpN_s e.1)) (K.fi [359, 360, 368] rfl rfl)) ?_
        rintro r h9 ⟨rfl, K9⟩
        have K : KN h9 [(359, .inl (10, [.int th, .ref 360, .ref 361, .ref 362, .ref 363, .ref 364, .ref 365, .ref 366, .ref 367, (u 9), .int sst, (u 11), (u 12), .int acs, (u 14), (u 15), (u 16), (u 17), (u 18), (u 19), (u 20), (u 21), .ref 368, .int (m_sf (sA w (((8 * x1) + 5) + (nI i)) 1) n tk).2.2, .ref 369, .ref 370, .ref 371, (u 27)])), (360, .inr (.inl (0, (sA w (((8 * x1) + 5) + (nI i)) 1)))), (362, .inr (.inl (0, sd))), (363, .inr (.inl (0, ot))), (364, .inr (.inl (0, kp))), (368, .inr (.inl (0, (m_sf (sA w (((8 * x1) + 5) + (nI i)) 1) n tk).2.1))), (369, .inr (.inl (0, od))), (370, .inr (.inl (0, be)))] h0 := K.mg K9 rfl rfl
        clear K9
        show j_V jP _ 250 75 lv [.int (m_isSafe (sA w (((8 * x1) + 5) + (nI i)) 1) n), .int v2] h9 _
        refine j_V.ifc mu0_M mu0_75 (t := 82) rfl (fun c75_1 => ?_) (fun c75_1 => ?_)
        · replace c75_1 : (m_isSafe (sA w (((8 * x1) + 5) + (nI i)) 1) n) = 0 := jd_eq c75_1
          refine j_V.one mu0_M mu0_82 (by decide) (pcJ := 83) (stJ := [.int 1, .int v2]) rfl ?_
          refine j_V.ldL mu0_M mu0_83 rfl (i := 3) (kd := 0) (v := .int (nI i)) (pcJ := 84) rfl L rfl rfl rfl ?_
          refine j_V.one mu0_M mu0_84 (by decide) (pcJ := 85) (stJ := [.int (1 <<< ((nI i) &&& 31)), .int v2]) rfl ?_
          refine j_V.one mu0_M mu0_85 (by decide) (pcJ := 86) (stJ := [.int (v2 ||| (1 <<< ((nI i) &&& 31)))]) rfl ?_
          refine j_V.stL mu0_M mu0_86 rfl (i := 2) (kd := 0) (kl' := [(0, .ref 359), (1, .int x1), (2, .int (v2 ||| (1 <<< ((nI i) &&& 31)))), (3, .int (nI i))]) (pcJ := 87) rfl L rfl (by decide) rfl rfl rfl (fun lv L => ?_)
          refine j_V.ldL mu0_M mu0_87 rfl (i := 0) (kd := 2) (v := .ref 359) (pcJ := 88) rfl L rfl rfl rfl ?_
          refine j_V.getK mu0_M mu0_88 (ci := 10) (j := 1) rfl K rfl rfl ?_
          refine j_V.one mu0_M mu0_91 (by decide) (pcJ := 93) (stJ := [.int 8, .ref 360]) rfl ?_
          refine j_V.ldL mu0_M mu0_93 rfl (i := 1) (kd := 0) (v := .int x1) (pcJ := 94) rfl L rfl rfl rfl ?_
          refine j_V.one mu0_M mu0_94 (by decide) (pcJ := 95) (stJ := [.int (8 * x1), .ref 360]) rfl ?_
          refine j_V.one mu0_M mu0_95 (by decide) (pcJ := 96) (stJ := [.int 5, .int (8 * x1), .ref 360]) rfl ?_
          refine j_V.one mu0_M mu0_96 (by decide) (pcJ := 97) (stJ := [.int ((8 * x1) + 5), .ref 360]) rfl ?_
          refine j_V.ldL mu0_M mu0_97 rfl (i := 3) (kd := 0) (v := .int (nI i)) (pcJ := 98) rfl L rfl rfl rfl ?_
          refine j_V.one mu0_M mu0_98 (by decide) (pcJ := 99) (stJ := [.int (((8 * x1) + 5) + (nI i)), .ref 360]) rfl ?_
          refine j_V.one mu0_M mu0_99 (by decide) (pcJ := 100) (stJ := [.int 0, .int (((8 * x1) + 5) + (nI i)), .ref 360]) rfl ?_
          refine j_V.isA mu0_M mu0_100 (k' := [(359, .inl (10, [.int th, .ref 360, .ref 361, .ref 362, .ref 363, .ref 364, .ref 365, .ref 366, .ref 367, (u 9), .int sst, (u 11), (u 12), .int acs, (u 14), (u 15), (u 16), (u 17), (u 18), (u 19), (u 20), (u 21), .ref 368, .int (m_sf (sA w (((8 * x1) + 5) + (nI i)) 1) n tk).2.2, .ref 369, .ref 370, .ref 371, (u 27)])), (360, .inr (.inl (0, (sA (sA w (((8 * x1) + 5) + (nI i)) 1) (((8 * x1) + 5) + (nI i)) 0)))), (362, .inr (.inl (0, sd))), (363, .inr (.inl (0, ot))), (364, .inr (.inl (0, kp))), (368, .inr (.inl (0, (m_sf (sA w (((8 * x1) + 5) + (nI i)) 1) n tk).2.1))), (369, .inr (.inl (0, od))), (370, .inr (.inl (0, be)))]) K rfl rfl (fun h K => ?_)
          rw [H2.Z _ _ i hI hs (by omega) (lpN_s e.1) c50_0] at K
          refine j_V.inL mu0_M mu0_101 (i := 3) (kl' := [(0, .ref 359), (1, .int x1), (2, .int (v2 ||| (1 <<< ((nI i) &&& 31)))), (3, .int ((nI i) + 1))]) (pcJ := 104) L rfl rfl rfl rfl (fun lv L => ?_)
          refine j_V.gto mu0_M mu0_104 (t := 31) rfl ?_
          rw [nI_one] at L
          rw [show (m_qweak_l31 n th sst w x1 (f + 1) i v2) = _ from ((if_neg c50_0).trans ((if_pos c75_1).trans (rfl)))]
          exact ih (i + 1) _ ⟨by rw [← nI_one]; exact lpN_n e.1, by omega⟩ hsd hot L K
        · replace c75_1 : ¬ ((m_isSafe (sA w (((8 * x1) + 5) + (nI i)) 1) n) = 0) := jd_eqn c75_1
          refine j_V.one mu0_M mu0_78 (by decide) (pcJ := 79) (stJ := [.int 0, .int v2]) rfl ?_
          refine j_V.gto mu0_M mu0_79 (t := 85) rfl ?_
          refine j_V.one mu0_M mu0_85 (by decide) (pcJ := 86) (stJ := [.int (v2 ||| 0)]) rfl ?_
          refine j_V.stL mu0_M mu0_86 rfl (i := 2) (kd := 0) (kl' := [(0, .ref 359), (1, .int x1), (2, .int (v2 ||| 0)), (3, .int (nI i))]) (pcJ := 87) rfl L rfl (by decide) rfl rfl rfl (fun lv L => ?_)
          refine j_V.ldL mu0_M mu0_87 rfl (i := 0) (kd := 2) (v := .ref 359) (pcJ := 88) rfl L rfl rfl rfl ?_
          refine j_V.getK mu0_M mu0_88 (ci := 10) (j := 1) rfl K rfl rfl ?_
          refine j_V.one mu0_M mu0_91 (by decide) (pcJ := 93) (stJ := [.int 8, .ref 360]) rfl ?_
          refine j_V.ldL mu0_M mu0_93 rfl (i := 1) (kd := 0) (v := .int x1) (pcJ := 94) rfl L rfl rfl rfl ?_
          refine j_V.one mu0_M mu0_94 (by decide) (pcJ := 95) (stJ := [.int (8 * x1), .ref 360]) rfl ?_
          refine j_V.one mu0_M mu0_95 (by decide) (pcJ := 96) (stJ := [.int 5, .int (8 * x1), .ref 360]) rfl ?_
          refine j_V.one mu0_M mu0_96 (by decide) (pcJ := 97) (stJ := [.int ((8 * x1) + 5), .ref 360]) rfl ?_
          refine j_V.ldL mu0_M mu0_97 rfl (i := 3) (kd := 0) (v := .int (nI i)) (pcJ := 98) rfl L rfl rfl rfl ?_
          refine j_V.one mu0_M mu0_98 (by decide) (pcJ := 99) (stJ := [.int (((8 * x1) + 5) + (nI i)), .ref 360]) rfl ?_
          refine j_V.one mu0_M mu0_99 (by decide) (pcJ := 100) (stJ := [.int 0, .int (((8 * x1) + 5) + (nI i)), .ref 360]) rfl ?_
          refine j_V.isA mu0_M mu0_100 (k' := [(359, .inl (10, [.int th, .ref 360, .ref 361, .ref 362, .ref 363, .ref 364, .ref 365, .ref 366, .ref 367, (u 9), .int sst, (u 11), (u 12), .int acs, (u 14), (u 15), (u 16), (u 17), (u 18), (u 19), (u 20), (u 21), .ref 368, .int (m_sf (sA w (((8 * x1) + 5) + (nI i)) 1) n tk).2.2, .ref 369, .ref 370, .ref 371, (u 27)])), (360, .inr (.inl (0, (sA (sA w (((8 * x1) + 5) + (nI i)) 1) (((8 * x1) + 5) + (nI i)) 0)))), (362, .inr (.inl (0, sd))), (363, .inr (.inl (0, ot))), (364, .inr (.inl (0, kp))), (368, .inr (.inl (0, (m_sf (sA w (((8 * x1) + 5) + (nI i)) 1) n tk).2.1))), (369, .inr (.inl (0, od))), (370, .inr (.inl (0, be)))]) K rfl rfl (fun h K => ?_)
          rw [H2.Z _ _ i hI hs (by omega) (lpN_s e.1) c50_0] at K
          refine j_V.inL mu0_M mu0_101 (i := 3) (kl' := [(0, .ref 359), (1, .int x1), (2, .int (v2 ||| 0)), (3, .int ((nI i) + 1))]) (pcJ := 104) L rfl rfl rfl rfl (fun lv L => ?_)
          refine j_V.gto mu0_M mu0_104 (t := 31) rfl ?_
          rw [nI_one] at L
          rw [show (m_qweak_l31 n th sst w x1 (f + 1) i v2) = _ from ((if_neg c50_0).trans ((if_neg c75_1).trans (rfl)))]
          exact ih (i + 1) _ ⟨by rw [← nI_one]; exact lpN_n e.1, by omega⟩ hsd hot L K
      · replace c50_0 : (m_st w x1 (5 + (nI i))) = 1 := jd_nen c50_0
        refine j_V.gto mu0_M mu0_53 (t := 101) rfl ?_
        refine j_V.inL mu0_M mu0_101 (i := 3) (kl' := [(0, .ref 359), (1, .int x1), (2, .int v2), (3, .int ((nI i) + 1))]) (pcJ := 104) L rfl rfl rfl rfl (fun lv L => ?_)
        refine j_V.gto mu0_M mu0_104 (t := 31) rfl ?_
        rw [nI_one] at L
        rw [show (m_qweak_l31 n th sst w x1 (f + 1) i v2) = _ from ((if_pos c50_0).trans (rfl))]
        exact ih (i + 1) _ ⟨by rw [← nI_one]; exact lpN_n e.1, by omega⟩ hsd hot L K
def m_qweak (n : Nat) (th : Int32) (sst : Int32) (w : List Int32) (x1 : Int32) : Int32 × Int32 × Int32 := (if (m_isStation w x1) = 0 then (((m_refuse th sst 2).1), ((m_refuse th sst 2).2.1), ((m_refuse th sst 2).2.2)) else (if (m_isSafe w n) = 0 then (((m_refuse th sst 5).1), ((m_refuse th sst 5).2.1), ((m_refuse th sst 5).2.2)) else (m_qweak_l31 n th sst w x1 (lpN (m_st w x1 1) (nI 0)) 0 0)))
set_option maxRecDepth 1000000 in
theorem mu0_ok {u : Nat → Value} {n d : Nat} {h h0 : J_H} {th sst acs tm x1 : Int32} {w sd ot kp tk od be : List Int32} {I J : List Int32 → Prop} (H : m_Inv n I J) (H2 : m_Iv2 n I) (hI : I w) (hsd : sd.length = 602) (hot : ot.length = 602) (K : KN h [(359, .inl (10, [.int th, .ref 360, .ref 361, .ref 362, .ref 363, .ref 364, .ref 365, .ref 366, .ref 367, (u 9), .int sst, (u 11), (u 12), .int acs, (u 14), (u 15), (u 16), (u 17), (u 18), (u 19), (u 20), (u 21), .ref 368, .int tm, .ref 369, .ref 370, .ref 371, (u 27)])), (360, .inr (.inl (0, w))), (362, .inr (.inl (0, sd))), (363, .inr (.inl (0, ot))), (364, .inr (.inl (0, kp))), (368, .inr (.inl (0, tk))), (369, .inr (.inl (0, od))), (370, .inr (.inl (0, be)))] h0) : j_V jP d 250 0 (lv_args 0 [.ref 359, .int x1]) [] h (fun rv h' => rv = some (.int (m_qweak n th sst w x1).1) ∧ ∃ (sd' ot' tk' : List Int32) (tm' : Int32), sd'.length = 602 ∧ ot'.length = 602 ∧ KN h' [(359, .inl (10, [.int (m_qweak n th sst w x1).2.1, .ref 360, .ref 361, .ref 362, .ref 363, .ref 364, .ref 365, .ref 366, .ref 367, (u 9), .int (m_qweak n th sst w x1).2.2, (u 11), (u 12), .int acs, (u 14), (u 15), (u 16), (u 17), (u 18), (u 19), (u 20), (u 21), .ref 368, .int tm', .ref 369, .ref 370, .ref 371, (u 27)])), (360, .inr (.inl (0, w))), (362, .inr (.inl (0, sd'))), (363, .inr (.inl (0, ot'))), (364, .inr (.inl (0, kp))), (368, .inr (.inl (0, tk'))), (369, .inr (.inl (0, od))), (370, .inr (.inl (0, be)))] h0) := by
  show j_V jP d 250 0 [(0, .ref 359), (1, .int x1)] [] h _
  obtain ⟨lv, elv, L⟩ : ∃ lv, lv = [(0, .ref 359), (1, .int x1)] ∧ LK lv [(0, .ref 359), (1, .int x1)] := ⟨_, rfl, LK.rf⟩
  rw [← elv]
  clear elv
  refine j_V.ldL mu0_M mu0_0 rfl (i := 0) (kd := 2) (v := .ref 359) (pcJ := 1) rfl L rfl rfl rfl ?_
  refine j_V.ldL mu0_M mu0_1 rfl (i := 1) (kd := 0) (v := .int x1) (pcJ := 2) rfl L rfl rfl rfl ?_
  refine j_V.cl mu0_M mu0_2 rfl (md := 3) (mj := 172) rfl (by decide) mc9_M (As := [.ref 359, .int x1]) (rest := []) (jk_spl3 (K.at rfl) rfl rfl rfl (Nat.le_of_ble_eq_true rfl) (Nat.le_of_ble_eq_true rfl)) (fun d => mc9_ok (u := fun j => [.int th, .ref 360, .ref 361, .ref 362, .ref 363, .ref 364, .ref 365, .ref 366, .ref 367, (u 9), .int sst, (u 11), (u 12), .int acs, (u 14), (u 15), (u 16), (u 17), (u 18), (u 19), (u 20), (u 21), .ref 368, .int tm, .ref 369, .ref 370, .ref 371, (u 27)].getD j .null) (K.fi [359, 360] rfl rfl)) ?_
  rintro r hz ⟨rfl, ez⟩
  rw [ez]
  clear ez
  show j_V jP _ 250 5 lv [.int (m_isStation w x1)] h _
  refine j_V.ifc mu0_M mu0_5 (t := 14) rfl (fun c5_0 => ?_) (fun c5_0 => ?_)
  · replace c5_0 : ¬ ((m_isStation w x1) = 0) := jd_ne c5_0
    refine j_V.ldL mu0_M mu0_14 rfl (i := 0) (kd := 2) (v := .ref 359) (pcJ := 15) rfl L rfl rfl rfl ?_
    refine j_V.cl mu0_M mu0_15 rfl (md := 3) (mj := 219) rfl (by decide) mh1_M (As := [.ref 359]) (rest := []) (jk_spl3 (K.at rfl) rfl rfl rfl (Nat.le_of_ble_eq_true rfl) (Nat.le_of_ble_eq_true rfl)) (fun d => mh1_ok (u := fun j => [.int th, .ref 360, .ref 361, .ref 362, .ref 363, .ref 364, .ref 365, .ref 366, .ref 367, (u 9), .int sst, (u 11), (u 12), .int acs, (u 14), (u 15), (u 16), (u 17), (u 18), (u 19), (u 20), (u 21), .ref 368, .int tm, .ref 369, .ref 370, .ref 371, (u 27)].getD j .null) (H.F _ hI) (K.fi [359, 360, 368] rfl rfl)) ?_
    rintro r h9 ⟨rfl, K9⟩
    have K : KN h9 [(359, .inl (10, [.int th, .ref 360, .ref 361, .ref 362, .ref 363, .ref 364, .ref 365, .ref 366, .ref 367, (u 9), .int sst, (u 11), (u 12), .int acs, (u 14), (u 15), (u 16), (u 17), (u 18), (u 19), (u 20), (u 21), .ref 368, .int (m_sf w n tk).2.2, .ref 369, .ref 370, .ref 371, (u 27)])), (360, .inr (.inl (0, w))), (362, .inr (.inl (0, sd))), (363, .inr (.inl (0, ot))), (364, .inr (.inl (0, kp))), (368, .inr (.inl (0, (m_sf w n tk).2.1))), (369, .inr (.inl (0, od))), (370, .inr (.inl (0, be)))] h0 := K.mg K9 rfl rfl
    clear K9
    show j_V jP _ 250 18 lv [.int (m_isSafe w n)] h9 _
    refine j_V.ifc mu0_M mu0_18 (t := 27) rfl (fun c18_1 => ?_) (fun c18_1 => ?_)
    · replace c18_1 : ¬ ((m_isSafe w n) = 0) := jd_ne c18_1
      refine j_V.one mu0_M mu0_27 (by decide) (pcJ := 28) (stJ := [.int 0]) rfl ?_
      refine j_V.stL mu0_M mu0_28 rfl (i := 2) (kd := 0) (kl' := [(0, .ref 359), (1, .int x1), (2, .int 0)]) (pcJ := 29) rfl L rfl (by decide) rfl rfl rfl (fun lv L => ?_)
      refine j_V.one mu0_M mu0_29 (by decide) (pcJ := 30) (stJ := [.int 0]) rfl ?_
      refine j_V.stL mu0_M mu0_30 rfl (i := 3) (kd := 0) (kl' := [(0, .ref 359), (1, .int x1), (2, .int 0), (3, .int 0)]) (pcJ := 31) rfl L rfl (by decide) rfl rfl rfl (fun lv L => ?_)
      have L : LK lv [(0, .ref 359), (1, .int x1), (2, .int 0), (3, .int (nI 0))] := L
      rw [show (m_qweak n th sst w x1) = (m_qweak_l31 n th sst w x1 (lpN (m_st w x1 1) (nI 0)) 0 0) from ((if_neg c5_0).trans ((if_neg c18_1).trans (rfl)))]
      exact mu0_ok_l31 H H2 hI c5_0 (lpN (m_st w x1 1) (nI 0)) 0 0 ⟨rfl, lpN_lt⟩ hsd hot L K
    · replace c18_1 : (m_isSafe w n) = 0 := jd_nen c18_1
      refine j_V.ldL mu0_M mu0_21 rfl (i := 0) (kd := 2) (v := .ref 359) (pcJ := 22) rfl L rfl rfl rfl ?_
      refine j_V.one mu0_M mu0_22 (by decide) (pcJ := 23) (stJ := [.int 5, .ref 359]) rfl ?_
      refine j_V.cl mu0_M mu0_23 rfl (md := 3) (mj := 169) rfl (by decide) mo0_M (As := [.ref 359, .int 5]) (rest := []) (jk_spl3 (K.at rfl) rfl rfl rfl (Nat.le_of_ble_eq_true rfl) (Nat.le_of_ble_eq_true rfl)) (fun d => mo0_ok (u := fun j => [.int th, .ref 360, .ref 361, .ref 362, .ref 363, .ref 364, .ref 365, .ref 366, .ref 367, (u 9), .int sst, (u 11), (u 12), .int acs, (u 14), (u 15), (u 16), (u 17), (u 18), (u 19), (u 20), (u 21), .ref 368, .int (m_sf w n tk).2.2, .ref 369, .ref 370, .ref 371, (u 27)].getD j .null) (K.fi [359] rfl rfl)) ?_
      rintro r h9 ⟨rfl, K9⟩
      have K : KN h9 [(359, .inl (10, [.int ((m_refuse th sst 5).2.1), .ref 360, .ref 361, .ref 362, .ref 363, .ref 364, .ref 365, .ref 366, .ref 367, (u 9), .int ((m_refuse th sst 5).2.2), (u 11), (u 12), .int acs, (u 14), (u 15), (u 16), (u 17), (u 18), (u 19), (u 20), (u 21), .ref 368, .int (m_sf w n tk).2.2, .ref 369, .ref 370, .ref 371, (u 27)])), (360, .inr (.inl (0, w))), (362, .inr (.inl (0, sd))), (363, .inr (.inl (0, ot))), (364, .inr (.inl (0, kp))), (368, .inr (.inl (0, (m_sf w n tk).2.1))), (369, .inr (.inl (0, od))), (370, .inr (.inl (0, be)))] h0 := K.mg K9 rfl rfl
      clear K9
      show j_V jP _ 250 26 lv [.int ((m_refuse th sst 5).1)] h9 _
      refine j_V.ri mu0_M mu0_26 ?_
      rw [show (m_qweak n th sst w x1) = _ from ((if_neg c5_0).trans ((if_pos c18_1).trans (rfl)))]
      exact ⟨rfl, sd, ot, (m_sf w n tk).2.1, (m_sf w n tk).2.2, hsd, hot, K⟩
  · replace c5_0 : (m_isStation w x1) = 0 := jd_nen c5_0
    refine j_V.ldL mu0_M mu0_8 rfl (i := 0) (kd := 2) (v := .ref 359) (pcJ := 9) rfl L rfl rfl rfl ?_
    refine j_V.one mu0_M mu0_9 (by decide) (pcJ := 10) (stJ := [.int 2, .ref 359]) rfl ?_
    refine j_V.cl mu0_M mu0_10 rfl (md := 3) (mj := 169) rfl (by decide) mo0_M (As := [.ref 359, .int 2]) (rest := []) (jk_spl3 (K.at rfl) rfl rfl rfl (Nat.le_of_ble_eq_true rfl) (Nat.le_of_ble_eq_true rfl)) (fun d => mo0_ok (u := fun j => [.int th, .ref 360, .ref 361, .ref 362, .ref 363, .ref 364, .ref 365, .ref 366, .ref 367, (u 9), .int sst, (u 11), (u 12), .int acs, (u 14), (u 15), (u 16), (u 17), (u 18), (u 19), (u 20), (u 21), .ref 368, .int tm, .ref 369, .ref 370, .ref 371, (u 27)].getD j .null) (K.fi [359] rfl rfl)) ?_
    rintro r h9 ⟨rfl, K9⟩
    have K : KN h9 [(359, .inl (10, [.int ((m_refuse th sst 2).2.1), .ref 360, .ref 361, .ref 362, .ref 363, .ref 364, .ref 365, .ref 366, .ref 367, (u 9), .int ((m_refuse th sst 2).2.2), (u 11), (u 12), .int acs, (u 14), (u 15), (u 16), (u 17), (u 18), (u 19), (u 20), (u 21), .ref 368, .int tm, .ref 369, .ref 370, .ref 371, (u 27)])), (360, .inr (.inl (0, w))), (362, .inr (.inl (0, sd))), (363, .inr (.inl (0, ot))), (364, .inr (.inl (0, kp))), (368, .inr (.inl (0, tk))), (369, .inr (.inl (0, od))), (370, .inr (.inl (0, be)))] h0 := K.mg K9 rfl rfl
    clear K9
    show j_V jP _ 250 13 lv [.int ((m_refuse th sst 2).1)] h9 _
    refine j_V.ri mu0_M mu0_13 ?_
    rw [show (m_qweak n th sst w x1) = _ from ((if_pos c5_0).trans (rfl))]
    exact ⟨rfl, sd, ot, tk, tm, hsd, hot, K⟩
set_option maxRecDepth 100000 in
theorem mu1_M : j_meth jP 277 = some (yX10_band, cX10_band, 7, (some .int), 2, false, 10) := rfl
set_option maxRecDepth 100000 in
theorem mu1_0 : j_code jP 277 0 = some (.aload_n 0) := rfl
set_option maxRecDepth 100000 in
theorem mu1_1 : j_code jP 277 1 = some (.iload_n 1) := rfl
set_option maxRecDepth 100000 in
theorem mu1_2 : j_code jP 277 2 = some (.invokevirtual 310) := rfl
set_option maxRecDepth 100000 in
theorem mu1_5 : j_code jP 277 5 = some (.ifCond .ne 9) := rfl
set_option maxRecDepth 100000 in
theorem mu1_8 : j_code jP 277 8 = some (.aload_n 0) := rfl
set_option maxRecDepth 100000 in
theorem mu1_9 : j_code jP 277 9 = some (.iconst 2) := rfl
set_option maxRecDepth 100000 in
theorem mu1_10 : j_code jP 277 10 = some (.invokevirtual 179) := rfl
set_option maxRecDepth 100000 in
theorem mu1_13 : j_code jP 277 13 = some (.ireturn) := rfl
set_option maxRecDepth 100000 in
theorem mu1_14 : j_code jP 277 14 = some (.aload_n 0) := rfl
set_option maxRecDepth 100000 in
theorem mu1_15 : j_code jP 277 15 = some (.iload_n 1) := rfl
set_option maxRecDepth 100000 in
theorem mu1_16 : j_code jP 277 16 = some (.bipush 6) := rfl
set_option maxRecDepth 100000 in
theorem mu1_18 : j_code jP 277 18 = some (.invokevirtual 198) := rfl
set_option maxRecDepth 100000 in
theorem mu1_21 : j_code jP 277 21 = some (.ifCond .eq 9) := rfl
set_option maxRecDepth 100000 in
theorem mu1_24 : j_code jP 277 24 = some (.aload_n 0) := rfl
set_option maxRecDepth 100000 in
theorem mu1_25 : j_code jP 277 25 = some (.iconst 5) := rfl
set_option maxRecDepth 100000 in
theorem mu1_26 : j_code jP 277 26 = some (.invokevirtual 179) := rfl
set_option maxRecDepth 100000 in
theorem mu1_29 : j_code jP 277 29 = some (.ireturn) := rfl
set_option maxRecDepth 100000 in
theorem mu1_30 : j_code jP 277 30 = some (.iconst (-1)) := rfl
set_option maxRecDepth 100000 in
theorem mu1_31 : j_code jP 277 31 = some (.istore_n 3) := rfl
set_option maxRecDepth 100000 in
theorem mu1_32 : j_code jP 277 32 = some (.ldc_w 340) := rfl
set_option maxRecDepth 100000 in
theorem mu1_35 : j_code jP 277 35 = some (.istore 4) := rfl
set_option maxRecDepth 100000 in
theorem mu1_37 : j_code jP 277 37 = some (.aload_n 0) := rfl
set_option maxRecDepth 100000 in
theorem mu1_38 : j_code jP 277 38 = some (.getfield 7) := rfl
set_option maxRecDepth 100000 in
theorem mu1_41 : j_code jP 277 41 = some (.aload_n 0) := rfl
set_option maxRecDepth 100000 in
theorem mu1_42 : j_code jP 277 42 = some (.getfield 16) := rfl
set_option maxRecDepth 100000 in
theorem mu1_45 : j_code jP 277 45 = some (.invokestatic 188) := rfl
set_option maxRecDepth 100000 in
theorem mu1_48 : j_code jP 277 48 = some (.iconst 0) := rfl
set_option maxRecDepth 100000 in
theorem mu1_49 : j_code jP 277 49 = some (.istore 5) := rfl
set_option maxRecDepth 100000 in
theorem mu1_51 : j_code jP 277 51 = some (.iload 5) := rfl
set_option maxRecDepth 100000 in
theorem mu1_53 : j_code jP 277 53 = some (.bipush 60) := rfl
set_option maxRecDepth 100000 in
theorem mu1_55 : j_code jP 277 55 = some (.if_icmp .gt 57) := rfl
set_option maxRecDepth 100000 in
theorem mu1_58 : j_code jP 277 58 = some (.aload_n 0) := rfl
set_option maxRecDepth 100000 in
theorem mu1_59 : j_code jP 277 59 = some (.getfield 16) := rfl
set_option maxRecDepth 100000 in
theorem mu1_62 : j_code jP 277 62 = some (.aload_n 0) := rfl
set_option maxRecDepth 100000 in
theorem mu1_63 : j_code jP 277 63 = some (.getfield 7) := rfl
set_option maxRecDepth 100000 in
theorem mu1_66 : j_code jP 277 66 = some (.invokestatic 188) := rfl
set_option maxRecDepth 100000 in
theorem mu1_69 : j_code jP 277 69 = some (.aload_n 0) := rfl
set_option maxRecDepth 100000 in
theorem mu1_70 : j_code jP 277 70 = some (.iload_n 1) := rfl
set_option maxRecDepth 100000 in
theorem mu1_71 : j_code jP 277 71 = some (.iconst 3) := rfl
set_option maxRecDepth 100000 in
theorem mu1_72 : j_code jP 277 72 = some (.iload 5) := rfl
set_option maxRecDepth 100000 in
theorem mu1_74 : j_code jP 277 74 = some (.invokevirtual 238) := rfl
set_option maxRecDepth 100000 in
theorem mu1_77 : j_code jP 277 77 = some (.aload_n 0) := rfl
set_option maxRecDepth 100000 in
theorem mu1_78 : j_code jP 277 78 = some (.invokevirtual 341) := rfl
set_option maxRecDepth 100000 in
theorem mu1_81 : j_code jP 277 81 = some (.istore 6) := rfl
set_option maxRecDepth 100000 in
theorem mu1_83 : j_code jP 277 83 = some (.iload 6) := rfl
set_option maxRecDepth 100000 in
theorem mu1_85 : j_code jP 277 85 = some (.iload 4) := rfl
set_option maxRecDepth 100000 in
theorem mu1_87 : j_code jP 277 87 = some (.if_icmp .ge 8) := rfl
set_option maxRecDepth 100000 in
theorem mu1_90 : j_code jP 277 90 = some (.iload 5) := rfl
set_option maxRecDepth 100000 in
theorem mu1_92 : j_code jP 277 92 = some (.goto 4) := rfl
set_option maxRecDepth 100000 in
theorem mu1_95 : j_code jP 277 95 = some (.iload_n 3) := rfl
set_option maxRecDepth 100000 in
theorem mu1_96 : j_code jP 277 96 = some (.istore_n 3) := rfl
set_option maxRecDepth 100000 in
theorem mu1_97 : j_code jP 277 97 = some (.iload 4) := rfl
set_option maxRecDepth 100000 in
theorem mu1_99 : j_code jP 277 99 = some (.iload 6) := rfl
set_option maxRecDepth 100000 in
theorem mu1_101 : j_code jP 277 101 = some (.invokestatic 161) := rfl
set_option maxRecDepth 100000 in
theorem mu1_104 : j_code jP 277 104 = some (.istore 4) := rfl
set_option maxRecDepth 100000 in
theorem mu1_106 : j_code jP 277 106 = some (.iinc 5 1) := rfl
set_option maxRecDepth 100000 in
theorem mu1_109 : j_code jP 277 109 = some (.goto (-58)) := rfl
set_option maxRecDepth 100000 in
theorem mu1_112 : j_code jP 277 112 = some (.aload_n 0) := rfl
set_option maxRecDepth 100000 in
theorem mu1_113 : j_code jP 277 113 = some (.iload_n 2) := rfl
set_option maxRecDepth 100000 in
theorem mu1_114 : j_code jP 277 114 = some (.ifCond .eq 8) := rfl
set_option maxRecDepth 100000 in
theorem mu1_117 : j_code jP 277 117 = some (.iload 4) := rfl
set_option maxRecDepth 100000 in
theorem mu1_119 : j_code jP 277 119 = some (.goto 4) := rfl
set_option maxRecDepth 100000 in
theorem mu1_122 : j_code jP 277 122 = some (.iload_n 3) := rfl
set_option maxRecDepth 100000 in
theorem mu1_123 : j_code jP 277 123 = some (.invokevirtual 329) := rfl
set_option maxRecDepth 100000 in
theorem mu1_126 : j_code jP 277 126 = some (.ireturn) := rfl
def m_qband_l51 (n : Nat) (th : Int32) (sst : Int32) (w : List Int32) (x1 : Int32) (x2 : Int32) : Nat → Nat → Int32 → Int32 → Int32 × Int32 × Int32
  | 0, i, v3, v4 => (if x2 = 0 then (((m_gives th sst v3).1), ((m_gives th sst v3).2.1), ((m_gives th sst v3).2.2)) else (((m_gives th sst v4).1), ((m_gives th sst v4).2.1), ((m_gives th sst v4).2.2)))
  | f + 1, i, v3, v4 => (if (m_price (m_toTheEnd n (m_puts w x1 3 (nI i)) 1)) < v4 then (m_qband_l51 n th sst w x1 x2 f (i + 1) (nI i) (iMn v4 (m_price (m_toTheEnd n (m_puts w x1 3 (nI i)) 1)))) else (m_qband_l51 n th sst w x1 x2 f (i + 1) v3 (iMn v4 (m_price (m_toTheEnd n (m_puts w x1 3 (nI i)) 1)))))
set_option maxRecDepth 1000000 in
theorem mu1_ok_l51 {u : Nat → Value} {n d : Nat} {h0 : J_H} {th sst acs x1 x2 : Int32} {w kp od be : List Int32}  {I J : List Int32 → Prop} (H : m_Inv n I J) (H2 : m_Iv2 n I) (hI : I w) (ht : ¬ m_isTrain w x1 = 0) (h0t : (m_of w x1 6) = 0) : ∀ (f i : Nat) (v3 v4 : Int32) {wn ot tk : List Int32} {tm : Int32} {lv : J_L} {h : J_H}, i + f = 61 → wn.length = 602 → ot.length = 602 → LK lv [(0, .ref 359), (1, .int x1), (2, .int x2), (3, .int v3), (4, .int v4), (5, .int (nI i))] → KN h [(359, .inl (10, [.int th, .ref 360, .ref 361, .ref 362, .ref 363, .ref 364, .ref 365, .ref 366, .ref 367, (u 9), .int sst, (u 11), (u 12), .int acs, (u 14), (u 15), (u 16), (u 17), (u 18), (u 19), (u 20), (u 21), .ref 368, .int tm, .ref 369, .ref 370, .ref 371, (u 27)])), (360, .inr (.inl (0, wn))), (362, .inr (.inl (0, w))), (363, .inr (.inl (0, ot))), (364, .inr (.inl (0, kp))), (368, .inr (.inl (0, tk))), (369, .inr (.inl (0, od))), (370, .inr (.inl (0, be)))] h0 → j_V jP d 277 51 lv [] h (fun rv h' => rv = some (.int (m_qband_l51 n th sst w x1 x2 f i v3 v4).1) ∧ ∃ (sd' ot' tk' : List Int32) (tm' : Int32), sd'.length = 602 ∧ ot'.length = 602 ∧ KN h' [(359, .inl (10, [.int (m_qband_l51 n th sst w x1 x2 f i v3 v4).2.1, .ref 360, .ref 361, .ref 362, .ref 363, .ref 364, .ref 365, .ref 366, .ref 367, (u 9), .int (m_qband_l51 n th sst w x1 x2 f i v3 v4).2.2, (u 11), (u 12), .int acs, (u 14), (u 15), (u 16), (u 17), (u 18), (u 19), (u 20), (u 21), .ref 368, .int tm', .ref 369, .ref 370, .ref 371, (u 27)])), (360, .inr (.inl (0, w))), (362, .inr (.inl (0, sd'))), (363, .inr (.inl (0, ot'))), (364, .inr (.inl (0, kp))), (368, .inr (.inl (0, tk'))), (369, .inr (.inl (0, od))), (370, .inr (.inl (0, be)))] h0) := by
  have hn5 := H.n5
  intro f
  induction f with
  | zero =>
    intro i v3 v4 wn ot tk tm lv h e hwn hot L K
    refine j_V.ldL mu1_M mu1_51 rfl (i := 5) (kd := 0) (v := .int (nI i)) (pcJ := 53) rfl L rfl rfl rfl ?_
    refine j_V.one mu1_M mu1_53 (by decide) (pcJ := 55) (stJ := [.int 60, .int (nI i)]) rfl ?_
    refine j_V.icmp mu1_M mu1_55 (t := 112) rfl (fun c55_0 => ?_) (fun c55_0 => ?_)
    · replace c55_0 : 60 < (nI i) := jd_gt c55_0
      refine j_V.ldL mu1_M mu1_112 rfl (i := 0) (kd := 2) (v := .ref 359) (pcJ := 113) rfl L rfl rfl rfl ?_
      refine j_V.ldL mu1_M mu1_113 rfl (i := 2) (kd := 0) (v := .int x2) (pcJ := 114) rfl L rfl rfl rfl ?_
      refine j_V.ifc mu1_M mu1_114 (t := 122) rfl (fun c114_0 => ?_) (fun c114_0 => ?_)
      · replace c114_0 : x2 = 0 := jd_eq c114_0
        refine j_V.ldL mu1_M mu1_122 rfl (i := 3) (kd := 0) (v := .int v3) (pcJ := 123) rfl L rfl rfl rfl ?_
        refine j_V.cl mu1_M mu1_123 rfl (md := 3) (mj := 261) rfl (by decide) ms2_M (As := [.ref 359, .int v3]) (rest := []) (jk_spl3 (K.at rfl) rfl rfl rfl (Nat.le_of_ble_eq_true rfl) (Nat.le_of_ble_eq_true rfl)) (fun d => ms2_ok (u := fun j => [.int th, .ref 360, .ref 361, .ref 362, .ref 363, .ref 364, .ref 365, .ref 366, .ref 367, (u 9), .int sst, (u 11), (u 12), .int acs, (u 14), (u 15), (u 16), (u 17), (u 18), (u 19), (u 20), (u 21), .ref 368, .int tm, .ref 369, .ref 370, .ref 371, (u 27)].getD j .null) hwn (H.I1 _ hI).1 (K.fi [359, 360, 362] rfl rfl)) ?_
        rintro r h9 ⟨rfl, K9⟩
        have K : KN h9 [(359, .inl (10, [.int ((m_gives th sst v3).2.1), .ref 360, .ref 361, .ref 362, .ref 363, .ref 364, .ref 365, .ref 366, .ref 367, (u 9), .int ((m_gives th sst v3).2.2), (u 11), (u 12), .int acs, (u 14), (u 15), (u 16), (u 17), (u 18), (u 19), (u 20), (u 21), .ref 368, .int tm, .ref 369, .ref 370, .ref 371, (u 27)])), (360, .inr (.inl (0, w))), (362, .inr (.inl (0, w))), (363, .inr (.inl (0, ot))), (364, .inr (.inl (0, kp))), (368, .inr (.inl (0, tk))), (369, .inr (.inl (0, od))), (370, .inr (.inl (0, be)))] h0 := K.mg K9 rfl rfl
        clear K9
        show j_V jP _ 277 126 lv [.int ((m_gives th sst v3).1)] h9 _
        refine j_V.ri mu1_M mu1_126 ?_
        rw [show (m_qband_l51 n th sst w x1 x2 0 i v3 v4) = _ from ((if_pos c114_0).trans (rfl))]
        exact ⟨rfl, w, ot, tk, tm, (H.I1 _ hI).1, hot, K⟩
      · replace c114_0 : ¬ (x2 = 0) := jd_eqn c114_0
        refine j_V.ldL mu1_M mu1_117 rfl (i := 4) (kd := 0) (v := .int v4) (pcJ := 119) rfl L rfl rfl rfl ?_
        refine j_V.gto mu1_M mu1_119 (t := 123) rfl ?_
        refine j_V.cl mu1_M mu1_123 rfl (md := 3) (mj := 261) rfl (by decide) ms2_M (As := [.ref 359, .int v4]) (rest := []) (jk_spl3 (K.at rfl) rfl rfl rfl (Nat.le_of_ble_eq_true rfl) (Nat.le_of_ble_eq_true rfl)) (fun d => ms2_ok (u := fun j => [.int th, .ref 360, .ref 361, .ref 362, .ref 363, .ref 364, .ref 365, .ref 366, .ref 367, (u 9), .int sst, (u 11), (u 12), .int acs, (u 14), (u 15), (u 16), (u 17), (u 18), (u 19), (u 20), (u 21), .ref 368, .int tm, .ref 369, .ref 370, .ref 371, (u 27)].getD j .null) hwn (H.I1 _ hI).1 (K.fi [359, 360, 362] rfl rfl)) ?_
        rintro r h9 ⟨rfl, K9⟩
        have K : KN h9 [(359, .inl (10, [.int ((m_gives th sst v4).2.1), .ref 360, .ref 361, .ref 362, .ref 363, .ref 364, .ref 365, .ref 366, .ref 367, (u 9), .int ((m_gives th sst v4).2.2), (u 11), (u 12), .int acs, (u 14), (u 15), (u 16), (u 17), (u 18), (u 19), (u 20), (u 21), .ref 368, .int tm, .ref 369, .ref 370, .ref 371, (u 27)])), (360, .inr (.inl (0, w))), (362, .inr (.inl (0, w))), (363, .inr (.inl (0, ot))), (364, .inr (.inl (0, kp))), (368, .inr (.inl (0, tk))), (369, .inr (.inl (0, od))), (370, .inr (.inl (0, be)))] h0 := K.mg K9 rfl rfl
        clear K9
        show j_V jP _ 277 126 lv [.int ((m_gives th sst v4).1)] h9 _
        refine j_V.ri mu1_M mu1_126 ?_
        rw [show (m_qband_l51 n th sst w x1 x2 0 i v3 v4) = _ from ((if_neg c114_0).trans (rfl))]
        exact ⟨rfl, w, ot, tk, tm, (H.I1 _ hI).1, hot, K⟩
    · replace c55_0 : ¬ (60 < (nI i)) := jd_gtn c55_0
      exact absurd (show (60 : Int32) < nI i by rw [show i = 61 by omega]; decide) c55_0
  | succ f ih =>
    intro i v3 v4 wn ot tk tm lv h e hwn hot L K
    refine j_V.ldL mu1_M mu1_51 rfl (i := 5) (kd := 0) (v := .int (nI i)) (pcJ := 53) rfl L rfl rfl rfl ?_
    refine j_V.one mu1_M mu1_53 (by decide) (pcJ := 55) (stJ := [.int 60, .int (nI i)]) rfl ?_
    refine j_V.icmp mu1_M mu1_55 (t := 112) rfl (fun c55_0 => ?_) (fun c55_0 => ?_)
    · replace c55_0 : 60 < (nI i) := jd_gt c55_0
      exact absurd c55_0 (by rw [show (60 : Int32) = nI 60 from rfl, nI_lt9 (by omega) (by omega)]; omega)
    · replace c55_0 : ¬ (60 < (nI i)) := jd_gtn c55_0
      refine j_V.ldL mu1_M mu1_58 rfl (i := 0) (kd := 2) (v := .ref 359) (pcJ := 59) rfl L rfl rfl rfl ?_
      refine j_V.getK mu1_M mu1_59 (ci := 10) (j := 3) rfl K rfl rfl ?_
      refine j_V.ldL mu1_M mu1_62 rfl (i := 0) (kd := 2) (v := .ref 359) (pcJ := 63) rfl L rfl rfl rfl ?_
      refine j_V.getK mu1_M mu1_63 (ci := 10) (j := 1) rfl K rfl rfl ?_
      refine j_V.cl mu1_M mu1_66 rfl (md := 2) (mj := 201) rfl (by decide) mi3_M (As := [.ref 362, .ref 360]) (rest := []) (jk_spl2 rfl rfl (Nat.le_of_ble_eq_true rfl) (Nat.le_of_ble_eq_true rfl)) (fun d => mi3_ok (K.fi [360, 362] rfl rfl)) ?_
      rintro r h9 ⟨rfl, K9⟩
      have K : KN h9 [(359, .inl (10, [.int th, .ref 360, .ref 361, .ref 362, .ref 363, .ref 364, .ref 365, .ref 366, .ref 367, (u 9), .int sst, (u 11), (u 12), .int acs, (u 14), (u 15), (u 16), (u 17), (u 18), (u 19), (u 20), (u 21), .ref 368, .int tm, .ref 369, .ref 370, .ref 371, (u 27)])), (360, .inr (.inl (0, ((m_copies w wn))))), (362, .inr (.inl (0, w))), (363, .inr (.inl (0, ot))), (364, .inr (.inl (0, kp))), (368, .inr (.inl (0, tk))), (369, .inr (.inl (0, od))), (370, .inr (.inl (0, be)))] h0 := K.mg K9 rfl rfl
      clear K9
      show j_V jP _ 277 69 lv [] h9 _
      rw [m_cp (H.I1 _ hI).1 hwn] at K
      refine j_V.ldL mu1_M mu1_69 rfl (i := 0) (kd := 2) (v := .ref 359) (pcJ := 70) rfl L rfl rfl rfl ?_
      refine j_V.ldL mu1_M mu1_70 rfl (i := 1) (kd := 0) (v := .int x1) (pcJ := 71) rfl L rfl rfl rfl ?_
      refine j_V.one mu1_M mu1_71 (by decide) (pcJ := 72) (stJ := [.int 3, .int x1, .ref 359]) rfl ?_
      refine j_V.ldL mu1_M mu1_72 rfl (i := 5) (kd := 0) (v := .int (nI i)) (pcJ := 74) rfl L rfl rfl rfl ?_
      refine j_V.cl mu1_M mu1_74 rfl (md := 3) (mj := 179) rfl (by decide) me0_M (As := [.ref 359, .int x1, .int 3, .int (nI i)]) (rest := []) (jk_spl3 (K.at rfl) rfl rfl rfl (Nat.le_of_ble_eq_true rfl) (Nat.le_of_ble_eq_true rfl)) (fun d => me0_ok (u := fun j => [.int th, .ref 360, .ref 361, .ref 362, .ref 363, .ref 364, .ref 365, .ref 366, .ref 367, (u 9), .int sst, (u 11), (u 12), .int acs, (u 14), (u 15), (u 16), (u 17), (u 18), (u 19), (u 20), (u 21), .ref 368, .int tm, .ref 369, .ref 370, .ref 371, (u 27)].getD j .null) (K.fi [359, 360] rfl rfl)) ?_
      rintro r h9 ⟨rfl, K9⟩
      have K : KN h9 [(359, .inl (10, [.int th, .ref 360, .ref 361, .ref 362, .ref 363, .ref 364, .ref 365, .ref 366, .ref 367, (u 9), .int sst, (u 11), (u 12), .int acs, (u 14), (u 15), (u 16), (u 17), (u 18), (u 19), (u 20), (u 21), .ref 368, .int tm, .ref 369, .ref 370, .ref 371, (u 27)])), (360, .inr (.inl (0, (m_puts w x1 3 (nI i))))), (362, .inr (.inl (0, w))), (363, .inr (.inl (0, ot))), (364, .inr (.inl (0, kp))), (368, .inr (.inl (0, tk))), (369, .inr (.inl (0, od))), (370, .inr (.inl (0, be)))] h0 := K.mg K9 rfl rfl
      clear K9
      show j_V jP _ 277 77 lv [] h9 _
      refine j_V.ldL mu1_M mu1_77 rfl (i := 0) (kd := 2) (v := .ref 359) (pcJ := 78) rfl L rfl rfl rfl ?_
      refine j_V.cl mu1_M mu1_78 rfl (md := 3) (mj := 232) rfl (by decide) ms1_M (As := [.ref 359]) (rest := []) (jk_spl3 (K.at rfl) rfl rfl rfl (Nat.le_of_ble_eq_true rfl) (Nat.le_of_ble_eq_true rfl)) (fun d => ms19_ok (u := fun j => [.int th, .ref 360, .ref 361, .ref 362, .ref 363, .ref 364, .ref 365, .ref 366, .ref 367, (u 9), .int sst, (u 11), (u 12), .int acs, (u 14), (u 15), (u 16), (u 17), (u 18), (u 19), (u 20), (u 21), .ref 368, .int tm, .ref 369, .ref 370, .ref 371, (u 27)].getD j .null) H (H2.B _ _ i hI ht h0t (by omega)) hot (K.fi [359, 360, 363, 368] rfl rfl)) ?_
      rintro r h9 ⟨rfl, hI18, ot18, tk18, tm18, ho18, K9⟩
      have K : KN h9 [(359, .inl (10, [.int th, .ref 360, .ref 361, .ref 362, .ref 363, .ref 364, .ref 365, .ref 366, .ref 367, (u 9), .int sst, (u 11), (u 12), .int acs, (u 14), (u 15), (u 16), (u 17), (u 18), (u 19), (u 20), (u 21), .ref 368, .int tm18, .ref 369, .ref 370, .ref 371, (u 27)])), (360, .inr (.inl (0, (m_toTheEnd n (m_puts w x1 3 (nI i)) 1)))), (362, .inr (.inl (0, w))), (363, .inr (.inl (0, ot18))), (364, .inr (.inl (0, kp))), (368, .inr (.inl (0, tk18))), (369, .inr (.inl (0, od))), (370, .inr (.inl (0, be)))] h0 := K.mg K9 rfl rfl
      clear K9
      show j_V jP _ 277 81 lv [.int (m_price (m_toTheEnd n (m_puts w x1 3 (nI i)) 1))] h9 _
      refine j_V.stL mu1_M mu1_81 rfl (i := 6) (kd := 0) (kl' := [(0, .ref 359), (1, .int x1), (2, .int x2), (3, .int v3), (4, .int v4), (5, .int (nI i)), (6, .int (m_price (m_toTheEnd n (m_puts w x1 3 (nI i)) 1)))]) (pcJ := 83) rfl L rfl (by decide) rfl rfl rfl (fun lv L => ?_)
      refine j_V.ldL mu1_M mu1_83 rfl (i := 6) (kd := 0) (v := .int (m_price (m_toTheEnd n (m_puts w x1 3 (nI i)) 1))) (pcJ := 85) rfl L rfl rfl rfl ?_
      refine j_V.ldL mu1_M mu1_85 rfl (i := 4) (kd := 0) (v := .int v4) (pcJ := 87) rfl L rfl rfl rfl ?_
      refine j_V.icmp mu1_M mu1_87 (t := 95) rfl (fun c87_0 => ?_) (fun c87_0 => ?_)
      · replace c87_0 : ¬ ((m_price (m_toTheEnd n (m_puts w x1 3 (nI i)) 1)) < v4) := jd_ge c87_0
        refine j_V.ldL mu1_M mu1_95 rfl (i := 3) (kd := 0) (v := .int v3) (pcJ := 96) rfl L rfl rfl rfl ?_
        refine j_V.stL mu1_M mu1_96 rfl (i := 3) (kd := 0) (kl' := [(0, .ref 359), (1, .int x1), (2, .int x2), (3, .int v3), (4, .int v4), (5, .int (nI i)), (6, .int (m_price (m_toTheEnd n (m_puts w x1 3 (nI i)) 1)))]) (pcJ := 97) rfl L rfl (by decide) rfl rfl rfl (fun lv L => ?_)
        refine j_V.ldL mu1_M mu1_97 rfl (i := 4) (kd := 0) (v := .int v4) (pcJ := 99) rfl L rfl rfl rfl ?_
        refine j_V.ldL mu1_M mu1_99 rfl (i := 6) (kd := 0) (v := .int (m_price (m_toTheEnd n (m_puts w x1 3 (nI i)) 1))) (pcJ := 101) rfl L rfl rfl rfl ?_
        refine j_V.mn mu1_M mu1_101 rfl rfl (Nat.le_of_ble_eq_true rfl) ?_
        refine j_V.stL mu1_M mu1_104 rfl (i := 4) (kd := 0) (kl' := [(0, .ref 359), (1, .int x1), (2, .int x2), (3, .int v3), (4, .int (iMn v4 (m_price (m_toTheEnd n (m_puts w x1 3 (nI i)) 1)))), (5, .int (nI i)), (6, .int (m_price (m_toTheEnd n (m_puts w x1 3 (nI i)) 1)))]) (pcJ := 106) rfl L rfl (by decide) rfl rfl rfl (fun lv L => ?_)
        refine j_V.inL mu1_M mu1_106 (i := 5) (kl' := [(0, .ref 359), (1, .int x1), (2, .int x2), (3, .int v3), (4, .int (iMn v4 (m_price (m_toTheEnd n (m_puts w x1 3 (nI i)) 1)))), (5, .int ((nI i) + 1)), (6, .int (m_price (m_toTheEnd n (m_puts w x1 3 (nI i)) 1)))]) (pcJ := 109) L rfl rfl rfl rfl (fun lv L => ?_)
        refine j_V.gto mu1_M mu1_109 (t := 51) rfl ?_
        rw [nI_one] at L
        rw [show (m_qband_l51 n th sst w x1 x2 (f + 1) i v3 v4) = _ from ((if_neg c87_0).trans (rfl))]
        exact ih (i + 1) _ _ (by omega) (H.I1 _ hI18).1 ho18 (L.sub ⟨rfl, rfl, rfl, rfl, rfl, rfl, trivial⟩) K
      · replace c87_0 : (m_price (m_toTheEnd n (m_puts w x1 3 (nI i)) 1)) < v4 := jd_gen c87_0
        refine j_V.ldL mu1_M mu1_90 rfl (i := 5) (kd := 0) (v := .int (nI i)) (pcJ := 92) rfl L rfl rfl rfl ?_
        refine j_V.gto mu1_M mu1_92 (t := 96) rfl ?_
        refine j_V.stL mu1_M mu1_96 rfl (i := 3) (kd := 0) (kl' := [(0, .ref 359), (1, .int x1), (2, .int x2), (3, .int (nI i)), (4, .int v4), (5, .int (nI i)), (6, .int (m_price (m_toTheEnd n (m_puts w x1 3 (nI i)) 1)))]) (pcJ := 97) rfl L rfl (by decide) rfl rfl rfl (fun lv L => ?_)
        refine j_V.ldL mu1_M mu1_97 rfl (i := 4) (kd := 0) (v := .int v4) (pcJ := 99) rfl L rfl rfl rfl ?_
        refine j_V.ldL mu1_M mu1_99 rfl (i := 6) (kd := 0) (v := .int (m_price (m_toTheEnd n (m_puts w x1 3 (nI i)) 1))) (pcJ := 101) rfl L rfl rfl rfl ?_
        refine j_V.mn mu1_M mu1_101 rfl rfl (Nat.le_of_ble_eq_true rfl) ?_
        refine j_V.stL mu1_M mu1_104 rfl (i := 4) (kd := 0) (kl' := [(0, .ref 359), (1, .int x1), (2, .int x2), (3, .int (nI i)), (4, .int (iMn v4 (m_price (m_toTheEnd n (m_puts w x1 3 (nI i)) 1)))), (5, .int (nI i)), (6, .int (m_price (m_toTheEnd n (m_puts w x1 3 (nI i)) 1)))]) (pcJ := 106) rfl L rfl (by decide) rfl rfl rfl (fun lv L => ?_)
        refine j_V.inL mu1_M mu1_106 (i := 5) (kl' := [(0, .ref 359), (1, .int x1), (2, .int x2), (3, .int (nI i)), (4, .int (iMn v4 (m_price (m_toTheEnd n (m_puts w x1 3 (nI i)) 1)))), (5, .int ((nI i) + 1)), (6, .int (m_price (m_toTheEnd n (m_puts w x1 3 (nI i)) 1)))]) (pcJ := 109) L rfl rfl rfl rfl (fun lv L => ?_)
        refine j_V.gto mu1_M mu1_109 (t := 51) rfl ?_
        rw [nI_one] at L
        rw [show (m_qband_l51 n th sst w x1 x2 (f + 1) i v3 v4) = _ from ((if_pos c87_0).trans (rfl))]
        exact ih (i + 1) _ _ (by omega) (H.I1 _ hI18).1 ho18 (L.sub ⟨rfl, rfl, rfl, rfl, rfl, rfl, trivial⟩) K
def m_qband (n : Nat) (th : Int32) (sst : Int32) (w : List Int32) (x1 : Int32) (x2 : Int32) : Int32 × Int32 × Int32 := (if (m_isTrain w x1) = 0 then (((m_refuse th sst 2).1), ((m_refuse th sst 2).2.1), ((m_refuse th sst 2).2.2)) else (if (m_of w x1 6) = 0 then (m_qband_l51 n th sst w x1 x2 61 0 (-1) (2147483647 : Int32)) else (((m_refuse th sst 5).1), ((m_refuse th sst 5).2.1), ((m_refuse th sst 5).2.2))))
set_option maxRecDepth 1000000 in
theorem mu1_ok {u : Nat → Value} {n d : Nat} {h h0 : J_H} {th sst acs tm x1 x2 : Int32} {w sd ot kp tk od be : List Int32} {I J : List Int32 → Prop} (H : m_Inv n I J) (H2 : m_Iv2 n I) (hI : I w) (hsd : sd.length = 602) (hot : ot.length = 602) (K : KN h [(359, .inl (10, [.int th, .ref 360, .ref 361, .ref 362, .ref 363, .ref 364, .ref 365, .ref 366, .ref 367, (u 9), .int sst, (u 11), (u 12), .int acs, (u 14), (u 15), (u 16), (u 17), (u 18), (u 19), (u 20), (u 21), .ref 368, .int tm, .ref 369, .ref 370, .ref 371, (u 27)])), (360, .inr (.inl (0, w))), (362, .inr (.inl (0, sd))), (363, .inr (.inl (0, ot))), (364, .inr (.inl (0, kp))), (368, .inr (.inl (0, tk))), (369, .inr (.inl (0, od))), (370, .inr (.inl (0, be)))] h0) : j_V jP d 277 0 (lv_args 0 [.ref 359, .int x1, .int x2]) [] h (fun rv h' => rv = some (.int (m_qband n th sst w x1 x2).1) ∧ ∃ (sd' ot' tk' : List Int32) (tm' : Int32), sd'.length = 602 ∧ ot'.length = 602 ∧ KN h' [(359, .inl (10, [.int (m_qband n th sst w x1 x2).2.1, .ref 360, .ref 361, .ref 362, .ref 363, .ref 364, .ref 365, .ref 366, .ref 367, (u 9), .int (m_qband n th sst w x1 x2).2.2, (u 11), (u 12), .int acs, (u 14), (u 15), (u 16), (u 17), (u 18), (u 19), (u 20), (u 21), .ref 368, .int tm', .ref 369, .ref 370, .ref 371, (u 27)])), (360, .inr (.inl (0, w))), (362, .inr (.inl (0, sd'))), (363, .inr (.inl (0, ot'))), (364, .inr (.inl (0, kp))), (368, .inr (.inl (0, tk'))), (369, .inr (.inl (0, od))), (370, .inr (.inl (0, be)))] h0) := by
  show j_V jP d 277 0 [(0, .ref 359), (1, .int x1), (2, .int x2)] [] h _
  obtain ⟨lv, elv, L⟩ : ∃ lv, lv = [(0, .ref 359), (1, .int x1), (2, .int x2)] ∧ LK lv [(0, .ref 359), (1, .int x1), (2, .int x2)] := ⟨_, rfl, LK.rf⟩
  rw [← elv]
  clear elv
  refine j_V.ldL mu1_M mu1_0 rfl (i := 0) (kd := 2) (v := .ref 359) (pcJ := 1) rfl L rfl rfl rfl ?_
  refine j_V.ldL mu1_M mu1_1 rfl (i := 1) (kd := 0) (v := .int x1) (pcJ := 2) rfl L rfl rfl rfl ?_
  refine j_V.cl mu1_M mu1_2 rfl (md := 3) (mj := 173) rfl (by decide) md0_M (As := [.ref 359, .int x1]) (rest := []) (jk_spl3 (K.at rfl) rfl rfl rfl (Nat.le_of_ble_eq_true rfl) (Nat.le_of_ble_eq_true rfl)) (fun d => md0_ok (u := fun j => [.int th, .ref 360, .ref 361, .ref 362, .ref 363, .ref 364, .ref 365, .ref 366, .ref 367, (u 9), .int sst, (u 11), (u 12), .int acs, (u 14), (u 15), (u 16), (u 17), (u 18), (u 19), (u 20), (u 21), .ref 368, .int tm, .ref 369, .ref 370, .ref 371, (u 27)].getD j .null) (K.fi [359, 360] rfl rfl)) ?_
  rintro r hz ⟨rfl, ez⟩
  rw [ez]
  clear ez
  show j_V jP _ 277 5 lv [.int (m_isTrain w x1)] h _
  refine j_V.ifc mu1_M mu1_5 (t := 14) rfl (fun c5_0 => ?_) (fun c5_0 => ?_)
  · replace c5_0 : ¬ ((m_isTrain w x1) = 0) := jd_ne c5_0
    refine j_V.ldL mu1_M mu1_14 rfl (i := 0) (kd := 2) (v := .ref 359) (pcJ := 15) rfl L rfl rfl rfl ?_
    refine j_V.ldL mu1_M mu1_15 rfl (i := 1) (kd := 0) (v := .int x1) (pcJ := 16) rfl L rfl rfl rfl ?_
    refine j_V.one mu1_M mu1_16 (by decide) (pcJ := 18) (stJ := [.int 6, .int x1, .ref 359]) rfl ?_
    refine j_V.cl mu1_M mu1_18 rfl (md := 3) (mj := 178) rfl (by decide) ma3_M (As := [.ref 359, .int x1, .int 6]) (rest := []) (jk_spl3 (K.at rfl) rfl rfl rfl (Nat.le_of_ble_eq_true rfl) (Nat.le_of_ble_eq_true rfl)) (fun d => ma3_ok (u := fun j => [.int th, .ref 360, .ref 361, .ref 362, .ref 363, .ref 364, .ref 365, .ref 366, .ref 367, (u 9), .int sst, (u 11), (u 12), .int acs, (u 14), (u 15), (u 16), (u 17), (u 18), (u 19), (u 20), (u 21), .ref 368, .int tm, .ref 369, .ref 370, .ref 371, (u 27)].getD j .null) (K.fi [359, 360] rfl rfl)) ?_
    rintro r hz ⟨rfl, ez⟩
    rw [ez]
    clear ez
    show j_V jP _ 277 21 lv [.int (m_of w x1 6)] h _
    refine j_V.ifc mu1_M mu1_21 (t := 30) rfl (fun c21_1 => ?_) (fun c21_1 => ?_)
    · replace c21_1 : (m_of w x1 6) = 0 := jd_eq c21_1
      refine j_V.one mu1_M mu1_30 (by decide) (pcJ := 31) (stJ := [.int (-1)]) rfl ?_
      refine j_V.stL mu1_M mu1_31 rfl (i := 3) (kd := 0) (kl' := [(0, .ref 359), (1, .int x1), (2, .int x2), (3, .int (-1))]) (pcJ := 32) rfl L rfl (by decide) rfl rfl rfl (fun lv L => ?_)
      refine j_V.one mu1_M mu1_32 (by decide) (pcJ := 35) (stJ := [.int (2147483647 : Int32)]) rfl ?_
      refine j_V.stL mu1_M mu1_35 rfl (i := 4) (kd := 0) (kl' := [(0, .ref 359), (1, .int x1), (2, .int x2), (3, .int (-1)), (4, .int (2147483647 : Int32))]) (pcJ := 37) rfl L rfl (by decide) rfl rfl rfl (fun lv L => ?_)
      refine j_V.ldL mu1_M mu1_37 rfl (i := 0) (kd := 2) (v := .ref 359) (pcJ := 38) rfl L rfl rfl rfl ?_
      refine j_V.getK mu1_M mu1_38 (ci := 10) (j := 1) rfl K rfl rfl ?_
      refine j_V.ldL mu1_M mu1_41 rfl (i := 0) (kd := 2) (v := .ref 359) (pcJ := 42) rfl L rfl rfl rfl ?_
      refine j_V.getK mu1_M mu1_42 (ci := 10) (j := 3) rfl K rfl rfl ?_
      refine j_V.cl mu1_M mu1_45 rfl (md := 2) (mj := 201) rfl (by decide) mi2_M (As := [.ref 360, .ref 362]) (rest := []) (jk_spl2 rfl rfl (Nat.le_of_ble_eq_true rfl) (Nat.le_of_ble_eq_true rfl)) (fun d => mi2_ok (K.fi [360, 362] rfl rfl)) ?_
      rintro r h9 ⟨rfl, K9⟩
      have K : KN h9 [(359, .inl (10, [.int th, .ref 360, .ref 361, .ref 362, .ref 363, .ref 364, .ref 365, .ref 366, .ref 367, (u 9), .int sst, (u 11), (u 12), .int acs, (u 14), (u 15), (u 16), (u 17), (u 18), (u 19), (u 20), (u 21), .ref 368, .int tm, .ref 369, .ref 370, .ref 371, (u 27)])), (360, .inr (.inl (0, w))), (362, .inr (.inl (0, ((m_copies w sd))))), (363, .inr (.inl (0, ot))), (364, .inr (.inl (0, kp))), (368, .inr (.inl (0, tk))), (369, .inr (.inl (0, od))), (370, .inr (.inl (0, be)))] h0 := K.mg K9 rfl rfl
      clear K9
      show j_V jP _ 277 48 lv [] h9 _
      rw [m_cp (H.I1 _ hI).1 hsd] at K
      refine j_V.one mu1_M mu1_48 (by decide) (pcJ := 49) (stJ := [.int 0]) rfl ?_
      refine j_V.stL mu1_M mu1_49 rfl (i := 5) (kd := 0) (kl' := [(0, .ref 359), (1, .int x1), (2, .int x2), (3, .int (-1)), (4, .int (2147483647 : Int32)), (5, .int 0)]) (pcJ := 51) rfl L rfl (by decide) rfl rfl rfl (fun lv L => ?_)
      have L : LK lv [(0, .ref 359), (1, .int x1), (2, .int x2), (3, .int (-1)), (4, .int (2147483647 : Int32)), (5, .int (nI 0))] := L
      rw [show (m_qband n th sst w x1 x2) = (m_qband_l51 n th sst w x1 x2 61 0 (-1) (2147483647 : Int32)) from ((if_neg c5_0).trans ((if_pos c21_1).trans (rfl)))]
      exact mu1_ok_l51 H H2 hI c5_0 c21_1 61 0 (-1) (2147483647 : Int32) rfl (H.I1 _ hI).1 hot L K
    · replace c21_1 : ¬ ((m_of w x1 6) = 0) := jd_eqn c21_1
      refine j_V.ldL mu1_M mu1_24 rfl (i := 0) (kd := 2) (v := .ref 359) (pcJ := 25) rfl L rfl rfl rfl ?_
      refine j_V.one mu1_M mu1_25 (by decide) (pcJ := 26) (stJ := [.int 5, .ref 359]) rfl ?_
      refine j_V.cl mu1_M mu1_26 rfl (md := 3) (mj := 169) rfl (by decide) mo0_M (As := [.ref 359, .int 5]) (rest := []) (jk_spl3 (K.at rfl) rfl rfl rfl (Nat.le_of_ble_eq_true rfl) (Nat.le_of_ble_eq_true rfl)) (fun d => mo0_ok (u := fun j => [.int th, .ref 360, .ref 361, .ref 362, .ref 363, .ref 364, .ref 365, .ref 366, .ref 367, (u 9), .int sst, (u 11), (u 12), .int acs, (u 14), (u 15), (u 16), (u 17), (u 18), (u 19), (u 20), (u 21), .ref 368, .int tm, .ref 369, .ref 370, .ref 371, (u 27)].getD j .null) (K.fi [359] rfl rfl)) ?_
      rintro r h9 ⟨rfl, K9⟩
      have K : KN h9 [(359, .inl (10, [.int ((m_refuse th sst 5).2.1), .ref 360, .ref 361, .ref 362, .ref 363, .ref 364, .ref 365, .ref 366, .ref 367, (u 9), .int ((m_refuse th sst 5).2.2), (u 11), (u 12), .int acs, (u 14), (u 15), (u 16), (u 17), (u 18), (u 19), (u 20), (u 21), .ref 368, .int tm, .ref 369, .ref 370, .ref 371, (u 27)])), (360, .inr (.inl (0, w))), (362, .inr (.inl (0, sd))), (363, .inr (.inl (0, ot))), (364, .inr (.inl (0, kp))), (368, .inr (.inl (0, tk))), (369, .inr (.inl (0, od))), (370, .inr (.inl (0, be)))] h0 := K.mg K9 rfl rfl
      clear K9
      show j_V jP _ 277 29 lv [.int ((m_refuse th sst 5).1)] h9 _
      refine j_V.ri mu1_M mu1_29 ?_
      rw [show (m_qband n th sst w x1 x2) = _ from ((if_neg c5_0).trans ((if_neg c21_1).trans (rfl)))]
      exact ⟨rfl, sd, ot, tk, tm, hsd, hot, K⟩
  · replace c5_0 : (m_isTrain w x1) = 0 := jd_nen c5_0
    refine j_V.ldL mu1_M mu1_8 rfl (i := 0) (kd := 2) (v := .ref 359) (pcJ := 9) rfl L rfl rfl rfl ?_
    refine j_V.one mu1_M mu1_9 (by decide) (pcJ := 10) (stJ := [.int 2, .ref 359]) rfl ?_
    refine j_V.cl mu1_M mu1_10 rfl (md := 3) (mj := 169) rfl (by decide) mo0_M (As := [.ref 359, .int 2]) (rest := []) (jk_spl3 (K.at rfl) rfl rfl rfl (Nat.le_of_ble_eq_true rfl) (Nat.le_of_ble_eq_true rfl)) (fun d => mo0_ok (u := fun j => [.int th, .ref 360, .ref 361, .ref 362, .ref 363, .ref 364, .ref 365, .ref 366, .ref 367, (u 9), .int sst, (u 11), (u 12), .int acs, (u 14), (u 15), (u 16), (u 17), (u 18), (u 19), (u 20), (u 21), .ref 368, .int tm, .ref 369, .ref 370, .ref 371, (u 27)].getD j .null) (K.fi [359] rfl rfl)) ?_
    rintro r h9 ⟨rfl, K9⟩
    have K : KN h9 [(359, .inl (10, [.int ((m_refuse th sst 2).2.1), .ref 360, .ref 361, .ref 362, .ref 363, .ref 364, .ref 365, .ref 366, .ref 367, (u 9), .int ((m_refuse th sst 2).2.2), (u 11), (u 12), .int acs, (u 14), (u 15), (u 16), (u 17), (u 18), (u 19), (u 20), (u 21), .ref 368, .int tm, .ref 369, .ref 370, .ref 371, (u 27)])), (360, .inr (.inl (0, w))), (362, .inr (.inl (0, sd))), (363, .inr (.inl (0, ot))), (364, .inr (.inl (0, kp))), (368, .inr (.inl (0, tk))), (369, .inr (.inl (0, od))), (370, .inr (.inl (0, be)))] h0 := K.mg K9 rfl rfl
    clear K9
    show j_V jP _ 277 13 lv [.int ((m_refuse th sst 2).1)] h9 _
    refine j_V.ri mu1_M mu1_13 ?_
    rw [show (m_qband n th sst w x1 x2) = _ from ((if_pos c5_0).trans (rfl))]
    exact ⟨rfl, sd, ot, tk, tm, hsd, hot, K⟩
set_option maxRecDepth 100000 in
theorem mu2_M : j_meth jP 283 = some (yX10_go_, cX10_go_, 4, (some .int), 2, false, 10) := rfl
set_option maxRecDepth 100000 in
theorem mu2_0 : j_code jP 283 0 = some (.iload_n 1) := rfl
set_option maxRecDepth 100000 in
theorem mu2_1 : j_code jP 283 1 = some (.iconst 1) := rfl
set_option maxRecDepth 100000 in
theorem mu2_2 : j_code jP 283 2 = some (.bipush 99) := rfl
set_option maxRecDepth 100000 in
theorem mu2_4 : j_code jP 283 4 = some (.invokestatic 61) := rfl
set_option maxRecDepth 100000 in
theorem mu2_7 : j_code jP 283 7 = some (.ifCond .ne 9) := rfl
set_option maxRecDepth 100000 in
theorem mu2_10 : j_code jP 283 10 = some (.aload_n 0) := rfl
set_option maxRecDepth 100000 in
theorem mu2_11 : j_code jP 283 11 = some (.iconst 1) := rfl
set_option maxRecDepth 100000 in
theorem mu2_12 : j_code jP 283 12 = some (.invokevirtual 179) := rfl
set_option maxRecDepth 100000 in
theorem mu2_15 : j_code jP 283 15 = some (.ireturn) := rfl
set_option maxRecDepth 100000 in
theorem mu2_16 : j_code jP 283 16 = some (.aload_n 0) := rfl
set_option maxRecDepth 100000 in
theorem mu2_17 : j_code jP 283 17 = some (.getfield 7) := rfl
set_option maxRecDepth 100000 in
theorem mu2_20 : j_code jP 283 20 = some (.sipush 201) := rfl
set_option maxRecDepth 100000 in
theorem mu2_23 : j_code jP 283 23 = some (.iaload) := rfl
set_option maxRecDepth 100000 in
theorem mu2_24 : j_code jP 283 24 = some (.iload_n 1) := rfl
set_option maxRecDepth 100000 in
theorem mu2_25 : j_code jP 283 25 = some (.iadd) := rfl
set_option maxRecDepth 100000 in
theorem mu2_26 : j_code jP 283 26 = some (.sipush 999) := rfl
set_option maxRecDepth 100000 in
theorem mu2_29 : j_code jP 283 29 = some (.if_icmp .le 9) := rfl
set_option maxRecDepth 100000 in
theorem mu2_32 : j_code jP 283 32 = some (.aload_n 0) := rfl
set_option maxRecDepth 100000 in
theorem mu2_33 : j_code jP 283 33 = some (.iconst 3) := rfl
set_option maxRecDepth 100000 in
theorem mu2_34 : j_code jP 283 34 = some (.invokevirtual 179) := rfl
set_option maxRecDepth 100000 in
theorem mu2_37 : j_code jP 283 37 = some (.ireturn) := rfl
set_option maxRecDepth 100000 in
theorem mu2_38 : j_code jP 283 38 = some (.aload_n 0) := rfl
set_option maxRecDepth 100000 in
theorem mu2_39 : j_code jP 283 39 = some (.invokevirtual 362) := rfl
set_option maxRecDepth 100000 in
theorem mu2_42 : j_code jP 283 42 = some (.iconst 0) := rfl
set_option maxRecDepth 100000 in
theorem mu2_43 : j_code jP 283 43 = some (.istore_n 3) := rfl
set_option maxRecDepth 100000 in
theorem mu2_44 : j_code jP 283 44 = some (.iload_n 3) := rfl
set_option maxRecDepth 100000 in
theorem mu2_45 : j_code jP 283 45 = some (.iload_n 1) := rfl
set_option maxRecDepth 100000 in
theorem mu2_46 : j_code jP 283 46 = some (.if_icmp .ge 14) := rfl
set_option maxRecDepth 100000 in
theorem mu2_49 : j_code jP 283 49 = some (.aload_n 0) := rfl
set_option maxRecDepth 100000 in
theorem mu2_50 : j_code jP 283 50 = some (.iload_n 2) := rfl
set_option maxRecDepth 100000 in
theorem mu2_51 : j_code jP 283 51 = some (.invokevirtual 291) := rfl
set_option maxRecDepth 100000 in
theorem mu2_54 : j_code jP 283 54 = some (.iinc 3 1) := rfl
set_option maxRecDepth 100000 in
theorem mu2_57 : j_code jP 283 57 = some (.goto (-13)) := rfl
set_option maxRecDepth 100000 in
theorem mu2_60 : j_code jP 283 60 = some (.aload_n 0) := rfl
set_option maxRecDepth 100000 in
theorem mu2_61 : j_code jP 283 61 = some (.aload_n 0) := rfl
set_option maxRecDepth 100000 in
theorem mu2_62 : j_code jP 283 62 = some (.getfield 7) := rfl
set_option maxRecDepth 100000 in
theorem mu2_65 : j_code jP 283 65 = some (.sipush 201) := rfl
set_option maxRecDepth 100000 in
theorem mu2_68 : j_code jP 283 68 = some (.iaload) := rfl
set_option maxRecDepth 100000 in
theorem mu2_69 : j_code jP 283 69 = some (.invokevirtual 195) := rfl
set_option maxRecDepth 100000 in
theorem mu2_72 : j_code jP 283 72 = some (.ireturn) := rfl
set_option maxRecDepth 1000000 in
theorem mu2_ok_l44 {u : Nat → Value} {n d : Nat} {h0 : J_H} {th sst acs x1 x2 : Int32} {sd kp od be : List Int32}  {I J : List Int32 → Prop} (H : m_Inv n I J) (H2 : m_Iv2 n I) {Q : Option Value → J_H → Prop} : ∀ (f i : Nat) (w : List Int32) {ot tk : List Int32} {tm : Int32} {lv : J_L} {h : J_H}, lpN x1 (nI i) = f → I w → ot.length = 602 → LK lv [(0, .ref 359), (1, .int x1), (2, .int x2), (3, .int (nI i))] → KN h [(359, .inl (10, [.int th, .ref 360, .ref 361, .ref 362, .ref 363, .ref 364, .ref 365, .ref 366, .ref 367, (u 9), .int sst, (u 11), (u 12), .int acs, (u 14), (u 15), (u 16), (u 17), (u 18), (u 19), (u 20), (u 21), .ref 368, .int tm, .ref 369, .ref 370, .ref 371, (u 27)])), (360, .inr (.inl (0, w))), (362, .inr (.inl (0, sd))), (363, .inr (.inl (0, ot))), (364, .inr (.inl (0, kp))), (368, .inr (.inl (0, tk))), (369, .inr (.inl (0, od))), (370, .inr (.inl (0, be)))] h0 → (∀ lv h (ot tk : List Int32) (tm : Int32) (w' : List Int32), ot.length = 602 → w' = m_mins n x2 f w → I w' → LK lv [(0, .ref 359), (1, .int x1), (2, .int x2)] → KN h [(359, .inl (10, [.int th, .ref 360, .ref 361, .ref 362, .ref 363, .ref 364, .ref 365, .ref 366, .ref 367, (u 9), .int sst, (u 11), (u 12), .int acs, (u 14), (u 15), (u 16), (u 17), (u 18), (u 19), (u 20), (u 21), .ref 368, .int tm, .ref 369, .ref 370, .ref 371, (u 27)])), (360, .inr (.inl (0, w'))), (362, .inr (.inl (0, sd))), (363, .inr (.inl (0, ot))), (364, .inr (.inl (0, kp))), (368, .inr (.inl (0, tk))), (369, .inr (.inl (0, od))), (370, .inr (.inl (0, be)))] h0 → j_V jP d 283 60 lv [] h Q) → j_V jP d 283 44 lv [] h Q := by
  intro f
  induction f with
  | zero =>
    intro i w ot tk tm lv h e hI hot L K kk
    refine j_V.ldL mu2_M mu2_44 rfl (i := 3) (kd := 0) (v := .int (nI i)) (pcJ := 45) rfl L rfl rfl rfl ?_
    refine j_V.ldL mu2_M mu2_45 rfl (i := 1) (kd := 0) (v := .int x1) (pcJ := 46) rfl L rfl rfl rfl ?_
    refine j_V.icmp mu2_M mu2_46 (t := 60) rfl (fun c46_0 => ?_) (fun c46_0 => ?_)
    · replace c46_0 : ¬ ((nI i) < x1) := jd_ge c46_0
      exact kk _ _ _ _ _ _ hot rfl hI (L.sub ⟨rfl, rfl, rfl, trivial⟩) K
    · replace c46_0 : (nI i) < x1 := jd_gen c46_0
      exact absurd c46_0 (lpN_z e)
  | succ f ih =>
    intro i w ot tk tm lv h e hI hot L K kk
    refine j_V.ldL mu2_M mu2_44 rfl (i := 3) (kd := 0) (v := .int (nI i)) (pcJ := 45) rfl L rfl rfl rfl ?_
    refine j_V.ldL mu2_M mu2_45 rfl (i := 1) (kd := 0) (v := .int x1) (pcJ := 46) rfl L rfl rfl rfl ?_
    refine j_V.icmp mu2_M mu2_46 (t := 60) rfl (fun c46_0 => ?_) (fun c46_0 => ?_)
    · replace c46_0 : ¬ ((nI i) < x1) := jd_ge c46_0
      exact absurd (lpN_s e) c46_0
    · replace c46_0 : (nI i) < x1 := jd_gen c46_0
      refine j_V.ldL mu2_M mu2_49 rfl (i := 0) (kd := 2) (v := .ref 359) (pcJ := 50) rfl L rfl rfl rfl ?_
      refine j_V.ldL mu2_M mu2_50 rfl (i := 2) (kd := 0) (v := .int x2) (pcJ := 51) rfl L rfl rfl rfl ?_
      refine j_V.cl mu2_M mu2_51 rfl (md := 3) (mj := 227) rfl (by decide) mj0_M (As := [.ref 359, .int x2]) (rest := []) (jk_spl3 (K.at rfl) rfl rfl rfl (Nat.le_of_ble_eq_true rfl) (Nat.le_of_ble_eq_true rfl)) (fun d => mj09_ok (u := fun j => [.int th, .ref 360, .ref 361, .ref 362, .ref 363, .ref 364, .ref 365, .ref 366, .ref 367, (u 9), .int sst, (u 11), (u 12), .int acs, (u 14), (u 15), (u 16), (u 17), (u 18), (u 19), (u 20), (u 21), .ref 368, .int tm, .ref 369, .ref 370, .ref 371, (u 27)].getD j .null) H hI hot (K.fi [359, 360, 363, 368] rfl rfl)) ?_
      rintro r h9 ⟨rfl, hI19, ot19, tk19, tm19, ho19, K9⟩
      have K : KN h9 [(359, .inl (10, [.int th, .ref 360, .ref 361, .ref 362, .ref 363, .ref 364, .ref 365, .ref 366, .ref 367, (u 9), .int sst, (u 11), (u 12), .int acs, (u 14), (u 15), (u 16), (u 17), (u 18), (u 19), (u 20), (u 21), .ref 368, .int tm19, .ref 369, .ref 370, .ref 371, (u 27)])), (360, .inr (.inl (0, (m_minute n w x2)))), (362, .inr (.inl (0, sd))), (363, .inr (.inl (0, ot19))), (364, .inr (.inl (0, kp))), (368, .inr (.inl (0, tk19))), (369, .inr (.inl (0, od))), (370, .inr (.inl (0, be)))] h0 := K.mg K9 rfl rfl
      clear K9
      show j_V jP _ 283 54 lv [] h9 _
      refine j_V.inL mu2_M mu2_54 (i := 3) (kl' := [(0, .ref 359), (1, .int x1), (2, .int x2), (3, .int ((nI i) + 1))]) (pcJ := 57) L rfl rfl rfl rfl (fun lv L => ?_)
      refine j_V.gto mu2_M mu2_57 (t := 44) rfl ?_
      rw [nI_one] at L
      exact ih (i + 1) _ (by rw [← nI_one]; exact lpN_n e) hI19 ho19 L K kk
def m_go (n : Nat) (th sst acs : Int32) (w kp : List Int32) (x1 x2 : Int32) : Int32 × Int32 × Int32 × Int32 × List Int32 × List Int32 := (if (m_isFrom x1 1 99) = 0 then (((m_refuse th sst 1).1), ((m_refuse th sst 1).2.1), ((m_refuse th sst 1).2.2), acs, w, kp) else (if 999 < ((gA w 201) + x1) then (((m_refuse th sst 3).1), ((m_refuse th sst 3).2.1), ((m_refuse th sst 3).2.2), acs, w, kp) else (((m_gives th sst (gA (m_mins n x2 (lpN x1 (nI 0)) w) 201)).1), ((m_gives th sst (gA (m_mins n x2 (lpN x1 (nI 0)) w) 201)).2.1), ((m_gives th sst (gA (m_mins n x2 (lpN x1 (nI 0)) w) 201)).2.2), ((m_keeps acs w kp).2), (m_mins n x2 (lpN x1 (nI 0)) w), ((m_keeps acs w kp).1))))
set_option maxRecDepth 1000000 in
theorem mu2_ok {u : Nat → Value} {n d : Nat} {h h0 : J_H} {th sst acs tm x1 x2 : Int32} {w sd ot kp tk od be : List Int32} {I J : List Int32 → Prop} (H : m_Inv n I J) (H2 : m_Iv2 n I) (hI : I w) (hsd : sd.length = 602) (hot : ot.length = 602) (K : KN h [(359, .inl (10, [.int th, .ref 360, .ref 361, .ref 362, .ref 363, .ref 364, .ref 365, .ref 366, .ref 367, (u 9), .int sst, (u 11), (u 12), .int acs, (u 14), (u 15), (u 16), (u 17), (u 18), (u 19), (u 20), (u 21), .ref 368, .int tm, .ref 369, .ref 370, .ref 371, (u 27)])), (360, .inr (.inl (0, w))), (362, .inr (.inl (0, sd))), (363, .inr (.inl (0, ot))), (364, .inr (.inl (0, kp))), (368, .inr (.inl (0, tk))), (369, .inr (.inl (0, od))), (370, .inr (.inl (0, be)))] h0) : j_V jP d 283 0 (lv_args 0 [.ref 359, .int x1, .int x2]) [] h (fun rv h' => rv = some (.int (m_go n th sst acs w kp x1 x2).1) ∧ ∃ (ot' tk' : List Int32) (tm' : Int32), ot'.length = 602 ∧ KN h' [(359, .inl (10, [.int (m_go n th sst acs w kp x1 x2).2.1, .ref 360, .ref 361, .ref 362, .ref 363, .ref 364, .ref 365, .ref 366, .ref 367, (u 9), .int (m_go n th sst acs w kp x1 x2).2.2.1, (u 11), (u 12), .int (m_go n th sst acs w kp x1 x2).2.2.2.1, (u 14), (u 15), (u 16), (u 17), (u 18), (u 19), (u 20), (u 21), .ref 368, .int tm', .ref 369, .ref 370, .ref 371, (u 27)])), (360, .inr (.inl (0, (m_go n th sst acs w kp x1 x2).2.2.2.2.1))), (362, .inr (.inl (0, sd))), (363, .inr (.inl (0, ot'))), (364, .inr (.inl (0, (m_go n th sst acs w kp x1 x2).2.2.2.2.2))), (368, .inr (.inl (0, tk'))), (369, .inr (.inl (0, od))), (370, .inr (.inl (0, be)))] h0) := by
  show j_V jP d 283 0 [(0, .ref 359), (1, .int x1), (2, .int x2)] [] h _
  obtain ⟨lv, elv, L⟩ : ∃ lv, lv = [(0, .ref 359), (1, .int x1), (2, .int x2)] ∧ LK lv [(0, .ref 359), (1, .int x1), (2, .int x2)] := ⟨_, rfl, LK.rf⟩
  rw [← elv]
  clear elv
  refine j_V.ldL mu2_M mu2_0 rfl (i := 1) (kd := 0) (v := .int x1) (pcJ := 1) rfl L rfl rfl rfl ?_
  refine j_V.one mu2_M mu2_1 (by decide) (pcJ := 2) (stJ := [.int 1, .int x1]) rfl ?_
  refine j_V.one mu2_M mu2_2 (by decide) (pcJ := 4) (stJ := [.int 99, .int 1, .int x1]) rfl ?_
  refine j_V.cl mu2_M mu2_4 rfl (md := 2) (mj := 171) rfl (by decide) ma0_M (As := [.int x1, .int 1, .int 99]) (rest := []) (jk_spl2 rfl rfl (Nat.le_of_ble_eq_true rfl) (Nat.le_of_ble_eq_true rfl)) (fun d => ma0_ok (K.fi [] rfl rfl)) ?_
  rintro r hz ⟨rfl, ez⟩
  rw [ez]
  clear ez
  show j_V jP _ 283 7 lv [.int (m_isFrom x1 1 99)] h _
  refine j_V.ifc mu2_M mu2_7 (t := 16) rfl (fun c7_0 => ?_) (fun c7_0 => ?_)
  · replace c7_0 : ¬ ((m_isFrom x1 1 99) = 0) := jd_ne c7_0
    refine j_V.ldL mu2_M mu2_16 rfl (i := 0) (kd := 2) (v := .ref 359) (pcJ := 17) rfl L rfl rfl rfl ?_
    refine j_V.getK mu2_M mu2_17 (ci := 10) (j := 1) rfl K rfl rfl ?_
    refine j_V.one mu2_M mu2_20 (by decide) (pcJ := 23) (stJ := [.int 201, .ref 360]) rfl ?_
    refine j_V.iaA mu2_M mu2_23 K rfl ?_
    refine j_V.ldL mu2_M mu2_24 rfl (i := 1) (kd := 0) (v := .int x1) (pcJ := 25) rfl L rfl rfl rfl ?_
    refine j_V.one mu2_M mu2_25 (by decide) (pcJ := 26) (stJ := [.int ((gA w 201) + x1)]) rfl ?_
    refine j_V.one mu2_M mu2_26 (by decide) (pcJ := 29) (stJ := [.int 999, .int ((gA w 201) + x1)]) rfl ?_
    refine j_V.icmp mu2_M mu2_29 (t := 38) rfl (fun c29_1 => ?_) (fun c29_1 => ?_)
    · replace c29_1 : ¬ (999 < ((gA w 201) + x1)) := jd_le c29_1
      refine j_V.ldL mu2_M mu2_38 rfl (i := 0) (kd := 2) (v := .ref 359) (pcJ := 39) rfl L rfl rfl rfl ?_
      refine j_V.cl mu2_M mu2_39 rfl (md := 3) (mj := 281) rfl (by decide) mo2_M (As := [.ref 359]) (rest := []) (jk_spl3 (K.at rfl) rfl rfl rfl (Nat.le_of_ble_eq_true rfl) (Nat.le_of_ble_eq_true rfl)) (fun d => mo2_ok (u := fun j => [.int th, .ref 360, .ref 361, .ref 362, .ref 363, .ref 364, .ref 365, .ref 366, .ref 367, (u 9), .int sst, (u 11), (u 12), .int acs, (u 14), (u 15), (u 16), (u 17), (u 18), (u 19), (u 20), (u 21), .ref 368, .int tm, .ref 369, .ref 370, .ref 371, (u 27)].getD j .null) (K.fi [359, 360, 364] rfl rfl)) ?_
      rintro r h9 ⟨rfl, K9⟩
      have K : KN h9 [(359, .inl (10, [.int th, .ref 360, .ref 361, .ref 362, .ref 363, .ref 364, .ref 365, .ref 366, .ref 367, (u 9), .int sst, (u 11), (u 12), .int ((m_keeps acs w kp).2), (u 14), (u 15), (u 16), (u 17), (u 18), (u 19), (u 20), (u 21), .ref 368, .int tm, .ref 369, .ref 370, .ref 371, (u 27)])), (360, .inr (.inl (0, w))), (362, .inr (.inl (0, sd))), (363, .inr (.inl (0, ot))), (364, .inr (.inl (0, ((m_keeps acs w kp).1)))), (368, .inr (.inl (0, tk))), (369, .inr (.inl (0, od))), (370, .inr (.inl (0, be)))] h0 := K.mg K9 rfl rfl
      clear K9
      show j_V jP _ 283 42 lv [] h9 _
      refine j_V.one mu2_M mu2_42 (by decide) (pcJ := 43) (stJ := [.int 0]) rfl ?_
      refine j_V.stL mu2_M mu2_43 rfl (i := 3) (kd := 0) (kl' := [(0, .ref 359), (1, .int x1), (2, .int x2), (3, .int 0)]) (pcJ := 44) rfl L rfl (by decide) rfl rfl rfl (fun lv L => ?_)
      have L : LK lv [(0, .ref 359), (1, .int x1), (2, .int x2), (3, .int (nI 0))] := L
      refine mu2_ok_l44 H H2 (lpN x1 (nI 0)) 0 w rfl hI hot L K (fun lv h ot1 tk1 tm1 w1 hot1 e1 hI1 L K => ?_)
      obtain rfl := e1
      refine j_V.ldL mu2_M mu2_60 rfl (i := 0) (kd := 2) (v := .ref 359) (pcJ := 61) rfl L rfl rfl rfl ?_
      refine j_V.ldL mu2_M mu2_61 rfl (i := 0) (kd := 2) (v := .ref 359) (pcJ := 62) rfl L rfl rfl rfl ?_
      refine j_V.getK mu2_M mu2_62 (ci := 10) (j := 1) rfl K rfl rfl ?_
      refine j_V.one mu2_M mu2_65 (by decide) (pcJ := 68) (stJ := [.int 201, .ref 360, .ref 359]) rfl ?_
      refine j_V.iaA mu2_M mu2_68 K rfl ?_
      refine j_V.cl mu2_M mu2_69 rfl (md := 3) (mj := 170) rfl (by decide) mo1_M (As := [.ref 359, .int (gA (m_mins n x2 (lpN x1 (nI 0)) w) 201)]) (rest := []) (jk_spl3 (K.at rfl) rfl rfl rfl (Nat.le_of_ble_eq_true rfl) (Nat.le_of_ble_eq_true rfl)) (fun d => mo1_ok (u := fun j => [.int th, .ref 360, .ref 361, .ref 362, .ref 363, .ref 364, .ref 365, .ref 366, .ref 367, (u 9), .int sst, (u 11), (u 12), .int ((m_keeps acs w kp).2), (u 14), (u 15), (u 16), (u 17), (u 18), (u 19), (u 20), (u 21), .ref 368, .int tm1, .ref 369, .ref 370, .ref 371, (u 27)].getD j .null) (K.fi [359] rfl rfl)) ?_
      rintro r h9 ⟨rfl, K9⟩
      have K : KN h9 [(359, .inl (10, [.int ((m_gives th sst (gA (m_mins n x2 (lpN x1 (nI 0)) w) 201)).2.1), .ref 360, .ref 361, .ref 362, .ref 363, .ref 364, .ref 365, .ref 366, .ref 367, (u 9), .int ((m_gives th sst (gA (m_mins n x2 (lpN x1 (nI 0)) w) 201)).2.2), (u 11), (u 12), .int ((m_keeps acs w kp).2), (u 14), (u 15), (u 16), (u 17), (u 18), (u 19), (u 20), (u 21), .ref 368, .int tm1, .ref 369, .ref 370, .ref 371, (u 27)])), (360, .inr (.inl (0, (m_mins n x2 (lpN x1 (nI 0)) w)))), (362, .inr (.inl (0, sd))), (363, .inr (.inl (0, ot1))), (364, .inr (.inl (0, ((m_keeps acs w kp).1)))), (368, .inr (.inl (0, tk1))), (369, .inr (.inl (0, od))), (370, .inr (.inl (0, be)))] h0 := K.mg K9 rfl rfl
      clear K9
      show j_V jP _ 283 72 lv [.int ((m_gives th sst (gA (m_mins n x2 (lpN x1 (nI 0)) w) 201)).1)] h9 _
      refine j_V.ri mu2_M mu2_72 ?_
      rw [show (m_go n th sst acs w kp x1 x2) = _ from ((if_neg c7_0).trans ((if_neg c29_1).trans (rfl)))]
      exact ⟨rfl, ot1, tk1, tm1, hot1, K⟩
    · replace c29_1 : 999 < ((gA w 201) + x1) := jd_len c29_1
      refine j_V.ldL mu2_M mu2_32 rfl (i := 0) (kd := 2) (v := .ref 359) (pcJ := 33) rfl L rfl rfl rfl ?_
      refine j_V.one mu2_M mu2_33 (by decide) (pcJ := 34) (stJ := [.int 3, .ref 359]) rfl ?_
      refine j_V.cl mu2_M mu2_34 rfl (md := 3) (mj := 169) rfl (by decide) mo0_M (As := [.ref 359, .int 3]) (rest := []) (jk_spl3 (K.at rfl) rfl rfl rfl (Nat.le_of_ble_eq_true rfl) (Nat.le_of_ble_eq_true rfl)) (fun d => mo0_ok (u := fun j => [.int th, .ref 360, .ref 361, .ref 362, .ref 363, .ref 364, .ref 365, .ref 366, .ref 367, (u 9), .int sst, (u 11), (u 12), .int acs, (u 14), (u 15), (u 16), (u 17), (u 18), (u 19), (u 20), (u 21), .ref 368, .int tm, .ref 369, .ref 370, .ref 371, (u 27)].getD j .null) (K.fi [359] rfl rfl)) ?_
      rintro r h9 ⟨rfl, K9⟩
      have K : KN h9 [(359, .inl (10, [.int ((m_refuse th sst 3).2.1), .ref 360, .ref 361, .ref 362, .ref 363, .ref 364, .ref 365, .ref 366, .ref 367, (u 9), .int ((m_refuse th sst 3).2.2), (u 11), (u 12), .int acs, (u 14), (u 15), (u 16), (u 17), (u 18), (u 19), (u 20), (u 21), .ref 368, .int tm, .ref 369, .ref 370, .ref 371, (u 27)])), (360, .inr (.inl (0, w))), (362, .inr (.inl (0, sd))), (363, .inr (.inl (0, ot))), (364, .inr (.inl (0, kp))), (368, .inr (.inl (0, tk))), (369, .inr (.inl (0, od))), (370, .inr (.inl (0, be)))] h0 := K.mg K9 rfl rfl
      clear K9
      show j_V jP _ 283 37 lv [.int ((m_refuse th sst 3).1)] h9 _
      refine j_V.ri mu2_M mu2_37 ?_
      rw [show (m_go n th sst acs w kp x1 x2) = _ from ((if_neg c7_0).trans ((if_pos c29_1).trans (rfl)))]
      exact ⟨rfl, ot, tk, tm, hot, K⟩
  · replace c7_0 : (m_isFrom x1 1 99) = 0 := jd_nen c7_0
    refine j_V.ldL mu2_M mu2_10 rfl (i := 0) (kd := 2) (v := .ref 359) (pcJ := 11) rfl L rfl rfl rfl ?_
    refine j_V.one mu2_M mu2_11 (by decide) (pcJ := 12) (stJ := [.int 1, .ref 359]) rfl ?_
    refine j_V.cl mu2_M mu2_12 rfl (md := 3) (mj := 169) rfl (by decide) mo0_M (As := [.ref 359, .int 1]) (rest := []) (jk_spl3 (K.at rfl) rfl rfl rfl (Nat.le_of_ble_eq_true rfl) (Nat.le_of_ble_eq_true rfl)) (fun d => mo0_ok (u := fun j => [.int th, .ref 360, .ref 361, .ref 362, .ref 363, .ref 364, .ref 365, .ref 366, .ref 367, (u 9), .int sst, (u 11), (u 12), .int acs, (u 14), (u 15), (u 16), (u 17), (u 18), (u 19), (u 20), (u 21), .ref 368, .int tm, .ref 369, .ref 370, .ref 371, (u 27)].getD j .null) (K.fi [359] rfl rfl)) ?_
    rintro r h9 ⟨rfl, K9⟩
    have K : KN h9 [(359, .inl (10, [.int ((m_refuse th sst 1).2.1), .ref 360, .ref 361, .ref 362, .ref 363, .ref 364, .ref 365, .ref 366, .ref 367, (u 9), .int ((m_refuse th sst 1).2.2), (u 11), (u 12), .int acs, (u 14), (u 15), (u 16), (u 17), (u 18), (u 19), (u 20), (u 21), .ref 368, .int tm, .ref 369, .ref 370, .ref 371, (u 27)])), (360, .inr (.inl (0, w))), (362, .inr (.inl (0, sd))), (363, .inr (.inl (0, ot))), (364, .inr (.inl (0, kp))), (368, .inr (.inl (0, tk))), (369, .inr (.inl (0, od))), (370, .inr (.inl (0, be)))] h0 := K.mg K9 rfl rfl
    clear K9
    show j_V jP _ 283 15 lv [.int ((m_refuse th sst 1).1)] h9 _
    refine j_V.ri mu2_M mu2_15 ?_
    rw [show (m_go n th sst acs w kp x1 x2) = _ from ((if_pos c7_0).trans (rfl))]
    exact ⟨rfl, ot, tk, tm, hot, K⟩
set_option maxRecDepth 100000 in
theorem mu3_M : j_meth jP 254 = some (yX10_passes, cX10_passes, 5, (some .int), 2, false, 10) := rfl
set_option maxRecDepth 100000 in
theorem mu3_0 : j_code jP 254 0 = some (.aload_n 0) := rfl
set_option maxRecDepth 100000 in
theorem mu3_1 : j_code jP 254 1 = some (.iload_n 1) := rfl
set_option maxRecDepth 100000 in
theorem mu3_2 : j_code jP 254 2 = some (.invokevirtual 310) := rfl
set_option maxRecDepth 100000 in
theorem mu3_5 : j_code jP 254 5 = some (.ifCond .eq 11) := rfl
set_option maxRecDepth 100000 in
theorem mu3_8 : j_code jP 254 8 = some (.aload_n 0) := rfl
set_option maxRecDepth 100000 in
theorem mu3_9 : j_code jP 254 9 = some (.iload_n 2) := rfl
set_option maxRecDepth 100000 in
theorem mu3_10 : j_code jP 254 10 = some (.invokevirtual 310) := rfl
set_option maxRecDepth 100000 in
theorem mu3_13 : j_code jP 254 13 = some (.ifCond .ne 9) := rfl
set_option maxRecDepth 100000 in
theorem mu3_16 : j_code jP 254 16 = some (.aload_n 0) := rfl
set_option maxRecDepth 100000 in
theorem mu3_17 : j_code jP 254 17 = some (.iconst 2) := rfl
set_option maxRecDepth 100000 in
theorem mu3_18 : j_code jP 254 18 = some (.invokevirtual 179) := rfl
set_option maxRecDepth 100000 in
theorem mu3_21 : j_code jP 254 21 = some (.ireturn) := rfl
set_option maxRecDepth 100000 in
theorem mu3_22 : j_code jP 254 22 = some (.iload_n 1) := rfl
set_option maxRecDepth 100000 in
theorem mu3_23 : j_code jP 254 23 = some (.iload_n 2) := rfl
set_option maxRecDepth 100000 in
theorem mu3_24 : j_code jP 254 24 = some (.if_icmp .ne 9) := rfl
set_option maxRecDepth 100000 in
theorem mu3_27 : j_code jP 254 27 = some (.aload_n 0) := rfl
set_option maxRecDepth 100000 in
theorem mu3_28 : j_code jP 254 28 = some (.iconst 4) := rfl
set_option maxRecDepth 100000 in
theorem mu3_29 : j_code jP 254 29 = some (.invokevirtual 179) := rfl
set_option maxRecDepth 100000 in
theorem mu3_32 : j_code jP 254 32 = some (.ireturn) := rfl
set_option maxRecDepth 100000 in
theorem mu3_33 : j_code jP 254 33 = some (.iconst 0) := rfl
set_option maxRecDepth 100000 in
theorem mu3_34 : j_code jP 254 34 = some (.istore_n 3) := rfl
set_option maxRecDepth 100000 in
theorem mu3_35 : j_code jP 254 35 = some (.aload_n 0) := rfl
set_option maxRecDepth 100000 in
theorem mu3_36 : j_code jP 254 36 = some (.getfield 7) := rfl
set_option maxRecDepth 100000 in
theorem mu3_39 : j_code jP 254 39 = some (.sipush 570) := rfl
set_option maxRecDepth 100000 in
theorem mu3_42 : j_code jP 254 42 = some (.iconst 5) := rfl
set_option maxRecDepth 100000 in
theorem mu3_43 : j_code jP 254 43 = some (.iload_n 1) := rfl
set_option maxRecDepth 100000 in
theorem mu3_44 : j_code jP 254 44 = some (.imul) := rfl
set_option maxRecDepth 100000 in
theorem mu3_45 : j_code jP 254 45 = some (.iadd) := rfl
set_option maxRecDepth 100000 in
theorem mu3_46 : j_code jP 254 46 = some (.iload_n 2) := rfl
set_option maxRecDepth 100000 in
theorem mu3_47 : j_code jP 254 47 = some (.iadd) := rfl
set_option maxRecDepth 100000 in
theorem mu3_48 : j_code jP 254 48 = some (.iaload) := rfl
set_option maxRecDepth 100000 in
theorem mu3_49 : j_code jP 254 49 = some (.istore 4) := rfl
set_option maxRecDepth 100000 in
theorem mu3_51 : j_code jP 254 51 = some (.iload 4) := rfl
set_option maxRecDepth 100000 in
theorem mu3_53 : j_code jP 254 53 = some (.ifCond .eq 18) := rfl
set_option maxRecDepth 100000 in
theorem mu3_56 : j_code jP 254 56 = some (.iinc 3 1) := rfl
set_option maxRecDepth 100000 in
theorem mu3_59 : j_code jP 254 59 = some (.iload 4) := rfl
set_option maxRecDepth 100000 in
theorem mu3_61 : j_code jP 254 61 = some (.iload 4) := rfl
set_option maxRecDepth 100000 in
theorem mu3_63 : j_code jP 254 63 = some (.iconst 1) := rfl
set_option maxRecDepth 100000 in
theorem mu3_64 : j_code jP 254 64 = some (.isub) := rfl
set_option maxRecDepth 100000 in
theorem mu3_65 : j_code jP 254 65 = some (.iand) := rfl
set_option maxRecDepth 100000 in
theorem mu3_66 : j_code jP 254 66 = some (.istore 4) := rfl
set_option maxRecDepth 100000 in
theorem mu3_68 : j_code jP 254 68 = some (.goto (-17)) := rfl
set_option maxRecDepth 100000 in
theorem mu3_71 : j_code jP 254 71 = some (.aload_n 0) := rfl
set_option maxRecDepth 100000 in
theorem mu3_72 : j_code jP 254 72 = some (.iload_n 3) := rfl
set_option maxRecDepth 100000 in
theorem mu3_73 : j_code jP 254 73 = some (.invokevirtual 195) := rfl
set_option maxRecDepth 100000 in
theorem mu3_76 : j_code jP 254 76 = some (.ireturn) := rfl
/-- a number of bits, told by taking the lowest away -/
def m_pz : Nat → Int32 → Prop
  | 0, v => v = 0
  | f + 1, v => v = 0 ∨ m_pz f (v &&& (v - 1))
def m_pk : Nat → Int32 → Int32 → Int32
  | 0, v3, v4 => v3
  | f + 1, v3, v4 => if v4 = 0 then v3 else m_pk f (v3 + 1) (v4 &&& (v4 - 1))
set_option maxRecDepth 1000000 in
theorem mu3_ok_l51 {u : Nat → Value} {d : Nat} {h h0 : J_H} {th sst acs tm x1 x2 : Int32} {w sd ot kp tk od be : List Int32} {Q : Option Value → J_H → Prop} (K : KN h [(359, .inl (10, [.int th, .ref 360, .ref 361, .ref 362, .ref 363, .ref 364, .ref 365, .ref 366, .ref 367, (u 9), .int sst, (u 11), (u 12), .int acs, (u 14), (u 15), (u 16), (u 17), (u 18), (u 19), (u 20), (u 21), .ref 368, .int tm, .ref 369, .ref 370, .ref 371, (u 27)])), (360, .inr (.inl (0, w))), (362, .inr (.inl (0, sd))), (363, .inr (.inl (0, ot))), (364, .inr (.inl (0, kp))), (368, .inr (.inl (0, tk))), (369, .inr (.inl (0, od))), (370, .inr (.inl (0, be)))] h0) : ∀ (f : Nat) (v3 v4 : Int32) {lv : J_L}, m_pz f v4 → LK lv [(0, .ref 359), (1, .int x1), (2, .int x2), (3, .int v3), (4, .int v4)] → (∀ lv, LK lv [(0, .ref 359), (3, .int (m_pk f v3 v4))] → j_V jP d 254 71 lv [] h Q) → j_V jP d 254 51 lv [] h Q := by
  intro f
  induction f with
  | zero =>
    intro v3 v4 lv e L kk
    refine j_V.ldL mu3_M mu3_51 rfl (i := 4) (kd := 0) (v := .int v4) (pcJ := 53) rfl L rfl rfl rfl ?_
    refine j_V.ifc mu3_M mu3_53 (t := 71) rfl (fun c53_0 => ?_) (fun c53_0 => ?_)
    · replace c53_0 : v4 = 0 := jd_eq c53_0
      exact kk _ (L.sub ⟨rfl, rfl, trivial⟩)
    · replace c53_0 : ¬ (v4 = 0) := jd_eqn c53_0
      exact absurd e c53_0
  | succ f ih =>
    intro v3 v4 lv e L kk
    refine j_V.ldL mu3_M mu3_51 rfl (i := 4) (kd := 0) (v := .int v4) (pcJ := 53) rfl L rfl rfl rfl ?_
    refine j_V.ifc mu3_M mu3_53 (t := 71) rfl (fun c53_0 => ?_) (fun c53_0 => ?_)
    · replace c53_0 : v4 = 0 := jd_eq c53_0
      rw [show m_pk (f + 1) v3 v4 = v3 from (if_pos c53_0).trans (rfl)] at kk
      exact kk _ (L.sub ⟨rfl, rfl, trivial⟩)
    · replace c53_0 : ¬ (v4 = 0) := jd_eqn c53_0
      refine j_V.inL mu3_M mu3_56 (i := 3) (kl' := [(0, .ref 359), (1, .int x1), (2, .int x2), (3, .int (v3 + 1)), (4, .int v4)]) (pcJ := 59) L rfl rfl rfl rfl (fun lv L => ?_)
      refine j_V.ldL mu3_M mu3_59 rfl (i := 4) (kd := 0) (v := .int v4) (pcJ := 61) rfl L rfl rfl rfl ?_
      refine j_V.ldL mu3_M mu3_61 rfl (i := 4) (kd := 0) (v := .int v4) (pcJ := 63) rfl L rfl rfl rfl ?_
      refine j_V.one mu3_M mu3_63 (by decide) (pcJ := 64) (stJ := [.int 1, .int v4, .int v4]) rfl ?_
      refine j_V.one mu3_M mu3_64 (by decide) (pcJ := 65) (stJ := [.int (v4 - 1), .int v4]) rfl ?_
      refine j_V.one mu3_M mu3_65 (by decide) (pcJ := 66) (stJ := [.int (v4 &&& (v4 - 1))]) rfl ?_
      refine j_V.stL mu3_M mu3_66 rfl (i := 4) (kd := 0) (kl' := [(0, .ref 359), (1, .int x1), (2, .int x2), (3, .int (v3 + 1)), (4, .int (v4 &&& (v4 - 1)))]) (pcJ := 68) rfl L rfl (by decide) rfl rfl rfl (fun lv L => ?_)
      refine j_V.gto mu3_M mu3_68 (t := 51) rfl ?_
      rw [show m_pk (f + 1) v3 v4 = m_pk f (v3 + 1) (v4 &&& (v4 - 1)) from (if_neg c53_0).trans (rfl)] at kk
      exact ih _ _ (e.resolve_left c53_0) L kk
def m_qpasses (th : Int32) (sst : Int32) (w : List Int32) (x1 : Int32) (x2 : Int32) : Int32 × Int32 × Int32 := (if (m_isTrain w x1) = 0 then (((m_refuse th sst 2).1), ((m_refuse th sst 2).2.1), ((m_refuse th sst 2).2.2)) else (if (m_isTrain w x2) = 0 then (((m_refuse th sst 2).1), ((m_refuse th sst 2).2.1), ((m_refuse th sst 2).2.2)) else (if x1 = x2 then (((m_refuse th sst 4).1), ((m_refuse th sst 4).2.1), ((m_refuse th sst 4).2.2)) else (((m_gives th sst (m_pk 32 0 (gA w ((570 + (5 * x1)) + x2)))).1), ((m_gives th sst (m_pk 32 0 (gA w ((570 + (5 * x1)) + x2)))).2.1), ((m_gives th sst (m_pk 32 0 (gA w ((570 + (5 * x1)) + x2)))).2.2)))))
set_option maxRecDepth 1000000 in
theorem mu3_ok {u : Nat → Value} {n d : Nat} {h h0 : J_H} {th sst acs tm x1 x2 : Int32} {w sd ot kp tk od be : List Int32} {I J : List Int32 → Prop} (H : m_Inv n I J) (H2 : m_Iv2 n I) (hI : I w) (hsd : sd.length = 602) (hot : ot.length = 602) (he : m_pz 32 (gA w ((570 + (5 * x1)) + x2))) (K : KN h [(359, .inl (10, [.int th, .ref 360, .ref 361, .ref 362, .ref 363, .ref 364, .ref 365, .ref 366, .ref 367, (u 9), .int sst, (u 11), (u 12), .int acs, (u 14), (u 15), (u 16), (u 17), (u 18), (u 19), (u 20), (u 21), .ref 368, .int tm, .ref 369, .ref 370, .ref 371, (u 27)])), (360, .inr (.inl (0, w))), (362, .inr (.inl (0, sd))), (363, .inr (.inl (0, ot))), (364, .inr (.inl (0, kp))), (368, .inr (.inl (0, tk))), (369, .inr (.inl (0, od))), (370, .inr (.inl (0, be)))] h0) : j_V jP d 254 0 (lv_args 0 [.ref 359, .int x1, .int x2]) [] h (fun rv h' => rv = some (.int (m_qpasses th sst w x1 x2).1) ∧ ∃ (sd' ot' tk' : List Int32) (tm' : Int32), sd'.length = 602 ∧ ot'.length = 602 ∧ KN h' [(359, .inl (10, [.int (m_qpasses th sst w x1 x2).2.1, .ref 360, .ref 361, .ref 362, .ref 363, .ref 364, .ref 365, .ref 366, .ref 367, (u 9), .int (m_qpasses th sst w x1 x2).2.2, (u 11), (u 12), .int acs, (u 14), (u 15), (u 16), (u 17), (u 18), (u 19), (u 20), (u 21), .ref 368, .int tm', .ref 369, .ref 370, .ref 371, (u 27)])), (360, .inr (.inl (0, w))), (362, .inr (.inl (0, sd'))), (363, .inr (.inl (0, ot'))), (364, .inr (.inl (0, kp))), (368, .inr (.inl (0, tk'))), (369, .inr (.inl (0, od))), (370, .inr (.inl (0, be)))] h0) := by
  show j_V jP d 254 0 [(0, .ref 359), (1, .int x1), (2, .int x2)] [] h _
  obtain ⟨lv, elv, L⟩ : ∃ lv, lv = [(0, .ref 359), (1, .int x1), (2, .int x2)] ∧ LK lv [(0, .ref 359), (1, .int x1), (2, .int x2)] := ⟨_, rfl, LK.rf⟩
  rw [← elv]
  clear elv
  refine j_V.ldL mu3_M mu3_0 rfl (i := 0) (kd := 2) (v := .ref 359) (pcJ := 1) rfl L rfl rfl rfl ?_
  refine j_V.ldL mu3_M mu3_1 rfl (i := 1) (kd := 0) (v := .int x1) (pcJ := 2) rfl L rfl rfl rfl ?_
  refine j_V.cl mu3_M mu3_2 rfl (md := 3) (mj := 173) rfl (by decide) md0_M (As := [.ref 359, .int x1]) (rest := []) (jk_spl3 (K.at rfl) rfl rfl rfl (Nat.le_of_ble_eq_true rfl) (Nat.le_of_ble_eq_true rfl)) (fun d => md0_ok (u := fun j => [.int th, .ref 360, .ref 361, .ref 362, .ref 363, .ref 364, .ref 365, .ref 366, .ref 367, (u 9), .int sst, (u 11), (u 12), .int acs, (u 14), (u 15), (u 16), (u 17), (u 18), (u 19), (u 20), (u 21), .ref 368, .int tm, .ref 369, .ref 370, .ref 371, (u 27)].getD j .null) (K.fi [359, 360] rfl rfl)) ?_
  rintro r hz ⟨rfl, ez⟩
  rw [ez]
  clear ez
  show j_V jP _ 254 5 lv [.int (m_isTrain w x1)] h _
  refine j_V.ifc mu3_M mu3_5 (t := 16) rfl (fun c5_0 => ?_) (fun c5_0 => ?_)
  · replace c5_0 : (m_isTrain w x1) = 0 := jd_eq c5_0
    refine j_V.ldL mu3_M mu3_16 rfl (i := 0) (kd := 2) (v := .ref 359) (pcJ := 17) rfl L rfl rfl rfl ?_
    refine j_V.one mu3_M mu3_17 (by decide) (pcJ := 18) (stJ := [.int 2, .ref 359]) rfl ?_
    refine j_V.cl mu3_M mu3_18 rfl (md := 3) (mj := 169) rfl (by decide) mo0_M (As := [.ref 359, .int 2]) (rest := []) (jk_spl3 (K.at rfl) rfl rfl rfl (Nat.le_of_ble_eq_true rfl) (Nat.le_of_ble_eq_true rfl)) (fun d => mo0_ok (u := fun j => [.int th, .ref 360, .ref 361, .ref 362, .ref 363, .ref 364, .ref 365, .ref 366, .ref 367, (u 9), .int sst, (u 11), (u 12), .int acs, (u 14), (u 15), (u 16), (u 17), (u 18), (u 19), (u 20), (u 21), .ref 368, .int tm, .ref 369, .ref 370, .ref 371, (u 27)].getD j .null) (K.fi [359] rfl rfl)) ?_
    rintro r h9 ⟨rfl, K9⟩
    have K : KN h9 [(359, .inl (10, [.int ((m_refuse th sst 2).2.1), .ref 360, .ref 361, .ref 362, .ref 363, .ref 364, .ref 365, .ref 366, .ref 367, (u 9), .int ((m_refuse th sst 2).2.2), (u 11), (u 12), .int acs, (u 14), (u 15), (u 16), (u 17), (u 18), (u 19), (u 20), (u 21), .ref 368, .int tm, .ref 369, .ref 370, .ref 371, (u 27)])), (360, .inr (.inl (0, w))), (362, .inr (.inl (0, sd))), (363, .inr (.inl (0, ot))), (364, .inr (.inl (0, kp))), (368, .inr (.inl (0, tk))), (369, .inr (.inl (0, od))), (370, .inr (.inl (0, be)))] h0 := K.mg K9 rfl rfl
    clear K9
    show j_V jP _ 254 21 lv [.int ((m_refuse th sst 2).1)] h9 _
    refine j_V.ri mu3_M mu3_21 ?_
    rw [show (m_qpasses th sst w x1 x2) = _ from ((if_pos c5_0).trans (rfl))]
    exact ⟨rfl, sd, ot, tk, tm, hsd, hot, K⟩
  · replace c5_0 : ¬ ((m_isTrain w x1) = 0) := jd_eqn c5_0
    refine j_V.ldL mu3_M mu3_8 rfl (i := 0) (kd := 2) (v := .ref 359) (pcJ := 9) rfl L rfl rfl rfl ?_
    refine j_V.ldL mu3_M mu3_9 rfl (i := 2) (kd := 0) (v := .int x2) (pcJ := 10) rfl L rfl rfl rfl ?_
    refine j_V.cl mu3_M mu3_10 rfl (md := 3) (mj := 173) rfl (by decide) md0_M (As := [.ref 359, .int x2]) (rest := []) (jk_spl3 (K.at rfl) rfl rfl rfl (Nat.le_of_ble_eq_true rfl) (Nat.le_of_ble_eq_true rfl)) (fun d => md0_ok (u := fun j => [.int th, .ref 360, .ref 361, .ref 362, .ref 363, .ref 364, .ref 365, .ref 366, .ref 367, (u 9), .int sst, (u 11), (u 12), .int acs, (u 14), (u 15), (u 16), (u 17), (u 18), (u 19), (u 20), (u 21), .ref 368, .int tm, .ref 369, .ref 370, .ref 371, (u 27)].getD j .null) (K.fi [359, 360] rfl rfl)) ?_
    rintro r hz ⟨rfl, ez⟩
    rw [ez]
    clear ez
    show j_V jP _ 254 13 lv [.int (m_isTrain w x2)] h _
    refine j_V.ifc mu3_M mu3_13 (t := 22) rfl (fun c13_1 => ?_) (fun c13_1 => ?_)
    · replace c13_1 : ¬ ((m_isTrain w x2) = 0) := jd_ne c13_1
      refine j_V.ldL mu3_M mu3_22 rfl (i := 1) (kd := 0) (v := .int x1) (pcJ := 23) rfl L rfl rfl rfl ?_
      refine j_V.ldL mu3_M mu3_23 rfl (i := 2) (kd := 0) (v := .int x2) (pcJ := 24) rfl L rfl rfl rfl ?_
      refine j_V.icmp mu3_M mu3_24 (t := 33) rfl (fun c24_2 => ?_) (fun c24_2 => ?_)
      · replace c24_2 : ¬ (x1 = x2) := jd_ne c24_2
        refine j_V.one mu3_M mu3_33 (by decide) (pcJ := 34) (stJ := [.int 0]) rfl ?_
        refine j_V.stL mu3_M mu3_34 rfl (i := 3) (kd := 0) (kl' := [(0, .ref 359), (1, .int x1), (2, .int x2), (3, .int 0)]) (pcJ := 35) rfl L rfl (by decide) rfl rfl rfl (fun lv L => ?_)
        refine j_V.ldL mu3_M mu3_35 rfl (i := 0) (kd := 2) (v := .ref 359) (pcJ := 36) rfl L rfl rfl rfl ?_
        refine j_V.getK mu3_M mu3_36 (ci := 10) (j := 1) rfl K rfl rfl ?_
        refine j_V.one mu3_M mu3_39 (by decide) (pcJ := 42) (stJ := [.int 570, .ref 360]) rfl ?_
        refine j_V.one mu3_M mu3_42 (by decide) (pcJ := 43) (stJ := [.int 5, .int 570, .ref 360]) rfl ?_
        refine j_V.ldL mu3_M mu3_43 rfl (i := 1) (kd := 0) (v := .int x1) (pcJ := 44) rfl L rfl rfl rfl ?_
        refine j_V.one mu3_M mu3_44 (by decide) (pcJ := 45) (stJ := [.int (5 * x1), .int 570, .ref 360]) rfl ?_
        refine j_V.one mu3_M mu3_45 (by decide) (pcJ := 46) (stJ := [.int (570 + (5 * x1)), .ref 360]) rfl ?_
        refine j_V.ldL mu3_M mu3_46 rfl (i := 2) (kd := 0) (v := .int x2) (pcJ := 47) rfl L rfl rfl rfl ?_
        refine j_V.one mu3_M mu3_47 (by decide) (pcJ := 48) (stJ := [.int ((570 + (5 * x1)) + x2), .ref 360]) rfl ?_
        refine j_V.iaA mu3_M mu3_48 K rfl ?_
        refine j_V.stL mu3_M mu3_49 rfl (i := 4) (kd := 0) (kl' := [(0, .ref 359), (1, .int x1), (2, .int x2), (3, .int 0), (4, .int (gA w ((570 + (5 * x1)) + x2)))]) (pcJ := 51) rfl L rfl (by decide) rfl rfl rfl (fun lv L => ?_)
        have L : LK lv [(0, .ref 359), (1, .int x1), (2, .int x2), (3, .int 0), (4, .int (gA w ((570 + (5 * x1)) + x2)))] := L
        refine mu3_ok_l51 K 32 0 _ he L (fun lv L => ?_)
        refine j_V.ldL mu3_M mu3_71 rfl (i := 0) (kd := 2) (v := .ref 359) (pcJ := 72) rfl L rfl rfl rfl ?_
        refine j_V.ldL mu3_M mu3_72 rfl (i := 3) (kd := 0) (v := .int (m_pk 32 0 (gA w ((570 + (5 * x1)) + x2)))) (pcJ := 73) rfl L rfl rfl rfl ?_
        refine j_V.cl mu3_M mu3_73 rfl (md := 3) (mj := 170) rfl (by decide) mo1_M (As := [.ref 359, .int (m_pk 32 0 (gA w ((570 + (5 * x1)) + x2)))]) (rest := []) (jk_spl3 (K.at rfl) rfl rfl rfl (Nat.le_of_ble_eq_true rfl) (Nat.le_of_ble_eq_true rfl)) (fun d => mo1_ok (u := fun j => [.int th, .ref 360, .ref 361, .ref 362, .ref 363, .ref 364, .ref 365, .ref 366, .ref 367, (u 9), .int sst, (u 11), (u 12), .int acs, (u 14), (u 15), (u 16), (u 17), (u 18), (u 19), (u 20), (u 21), .ref 368, .int tm, .ref 369, .ref 370, .ref 371, (u 27)].getD j .null) (K.fi [359] rfl rfl)) ?_
        rintro r h9 ⟨rfl, K9⟩
        have K : KN h9 [(359, .inl (10, [.int ((m_gives th sst (m_pk 32 0 (gA w ((570 + (5 * x1)) + x2)))).2.1), .ref 360, .ref 361, .ref 362, .ref 363, .ref 364, .ref 365, .ref 366, .ref 367, (u 9), .int ((m_gives th sst (m_pk 32 0 (gA w ((570 + (5 * x1)) + x2)))).2.2), (u 11), (u 12), .int acs, (u 14), (u 15), (u 16), (u 17), (u 18), (u 19), (u 20), (u 21), .ref 368, .int tm, .ref 369, .ref 370, .ref 371, (u 27)])), (360, .inr (.inl (0, w))), (362, .inr (.inl (0, sd))), (363, .inr (.inl (0, ot))), (364, .inr (.inl (0, kp))), (368, .inr (.inl (0, tk))), (369, .inr (.inl (0, od))), (370, .inr (.inl (0, be)))] h0 := K.mg K9 rfl rfl
        clear K9
        show j_V jP _ 254 76 lv [.int ((m_gives th sst (m_pk 32 0 (gA w ((570 + (5 * x1)) + x2)))).1)] h9 _
        refine j_V.ri mu3_M mu3_76 ?_
        rw [show (m_qpasses th sst w x1 x2) = _ from ((if_neg c5_0).trans ((if_neg c13_1).trans ((if_neg c24_2).trans (rfl))))]
        exact ⟨rfl, sd, ot, tk, tm, hsd, hot, K⟩
      · replace c24_2 : x1 = x2 := jd_nen c24_2
        refine j_V.ldL mu3_M mu3_27 rfl (i := 0) (kd := 2) (v := .ref 359) (pcJ := 28) rfl L rfl rfl rfl ?_
        refine j_V.one mu3_M mu3_28 (by decide) (pcJ := 29) (stJ := [.int 4, .ref 359]) rfl ?_
        refine j_V.cl mu3_M mu3_29 rfl (md := 3) (mj := 169) rfl (by decide) mo0_M (As := [.ref 359, .int 4]) (rest := []) (jk_spl3 (K.at rfl) rfl rfl rfl (Nat.le_of_ble_eq_true rfl) (Nat.le_of_ble_eq_true rfl)) (fun d => mo0_ok (u := fun j => [.int th, .ref 360, .ref 361, .ref 362, .ref 363, .ref 364, .ref 365, .ref 366, .ref 367, (u 9), .int sst, (u 11), (u 12), .int acs, (u 14), (u 15), (u 16), (u 17), (u 18), (u 19), (u 20), (u 21), .ref 368, .int tm, .ref 369, .ref 370, .ref 371, (u 27)].getD j .null) (K.fi [359] rfl rfl)) ?_
        rintro r h9 ⟨rfl, K9⟩
        have K : KN h9 [(359, .inl (10, [.int ((m_refuse th sst 4).2.1), .ref 360, .ref 361, .ref 362, .ref 363, .ref 364, .ref 365, .ref 366, .ref 367, (u 9), .int ((m_refuse th sst 4).2.2), (u 11), (u 12), .int acs, (u 14), (u 15), (u 16), (u 17), (u 18), (u 19), (u 20), (u 21), .ref 368, .int tm, .ref 369, .ref 370, .ref 371, (u 27)])), (360, .inr (.inl (0, w))), (362, .inr (.inl (0, sd))), (363, .inr (.inl (0, ot))), (364, .inr (.inl (0, kp))), (368, .inr (.inl (0, tk))), (369, .inr (.inl (0, od))), (370, .inr (.inl (0, be)))] h0 := K.mg K9 rfl rfl
        clear K9
        show j_V jP _ 254 32 lv [.int ((m_refuse th sst 4).1)] h9 _
        refine j_V.ri mu3_M mu3_32 ?_
        rw [show (m_qpasses th sst w x1 x2) = _ from ((if_neg c5_0).trans ((if_neg c13_1).trans ((if_pos c24_2).trans (rfl))))]
        exact ⟨rfl, sd, ot, tk, tm, hsd, hot, K⟩
    · replace c13_1 : (m_isTrain w x2) = 0 := jd_nen c13_1
      refine j_V.ldL mu3_M mu3_16 rfl (i := 0) (kd := 2) (v := .ref 359) (pcJ := 17) rfl L rfl rfl rfl ?_
      refine j_V.one mu3_M mu3_17 (by decide) (pcJ := 18) (stJ := [.int 2, .ref 359]) rfl ?_
      refine j_V.cl mu3_M mu3_18 rfl (md := 3) (mj := 169) rfl (by decide) mo0_M (As := [.ref 359, .int 2]) (rest := []) (jk_spl3 (K.at rfl) rfl rfl rfl (Nat.le_of_ble_eq_true rfl) (Nat.le_of_ble_eq_true rfl)) (fun d => mo0_ok (u := fun j => [.int th, .ref 360, .ref 361, .ref 362, .ref 363, .ref 364, .ref 365, .ref 366, .ref 367, (u 9), .int sst, (u 11), (u 12), .int acs, (u 14), (u 15), (u 16), (u 17), (u 18), (u 19), (u 20), (u 21), .ref 368, .int tm, .ref 369, .ref 370, .ref 371, (u 27)].getD j .null) (K.fi [359] rfl rfl)) ?_
      rintro r h9 ⟨rfl, K9⟩
      have K : KN h9 [(359, .inl (10, [.int ((m_refuse th sst 2).2.1), .ref 360, .ref 361, .ref 362, .ref 363, .ref 364, .ref 365, .ref 366, .ref 367, (u 9), .int ((m_refuse th sst 2).2.2), (u 11), (u 12), .int acs, (u 14), (u 15), (u 16), (u 17), (u 18), (u 19), (u 20), (u 21), .ref 368, .int tm, .ref 369, .ref 370, .ref 371, (u 27)])), (360, .inr (.inl (0, w))), (362, .inr (.inl (0, sd))), (363, .inr (.inl (0, ot))), (364, .inr (.inl (0, kp))), (368, .inr (.inl (0, tk))), (369, .inr (.inl (0, od))), (370, .inr (.inl (0, be)))] h0 := K.mg K9 rfl rfl
      clear K9
      show j_V jP _ 254 21 lv [.int ((m_refuse th sst 2).1)] h9 _
      refine j_V.ri mu3_M mu3_21 ?_
      rw [show (m_qpasses th sst w x1 x2) = _ from ((if_neg c5_0).trans ((if_pos c13_1).trans (rfl)))]
      exact ⟨rfl, sd, ot, tk, tm, hsd, hot, K⟩
set_option maxRecDepth 100000 in
theorem mu4_M : j_meth jP 246 = some (yX10_ring, cX10_ring, 6, (some .int), 0, false, 10) := rfl
set_option maxRecDepth 100000 in
theorem mu4_0 : j_code jP 246 0 = some (.iconst 0) := rfl
set_option maxRecDepth 100000 in
theorem mu4_1 : j_code jP 246 1 = some (.istore_n 1) := rfl
set_option maxRecDepth 100000 in
theorem mu4_2 : j_code jP 246 2 = some (.iconst 0) := rfl
set_option maxRecDepth 100000 in
theorem mu4_3 : j_code jP 246 3 = some (.istore_n 2) := rfl
set_option maxRecDepth 100000 in
theorem mu4_4 : j_code jP 246 4 = some (.iload_n 2) := rfl
set_option maxRecDepth 100000 in
theorem mu4_5 : j_code jP 246 5 = some (.aload_n 0) := rfl
set_option maxRecDepth 100000 in
theorem mu4_6 : j_code jP 246 6 = some (.getfield 7) := rfl
set_option maxRecDepth 100000 in
theorem mu4_9 : j_code jP 246 9 = some (.sipush 203) := rfl
set_option maxRecDepth 100000 in
theorem mu4_12 : j_code jP 246 12 = some (.iaload) := rfl
set_option maxRecDepth 100000 in
theorem mu4_13 : j_code jP 246 13 = some (.if_icmp .ge 85) := rfl
set_option maxRecDepth 100000 in
theorem mu4_16 : j_code jP 246 16 = some (.aload_n 0) := rfl
set_option maxRecDepth 100000 in
theorem mu4_17 : j_code jP 246 17 = some (.iload_n 2) := rfl
set_option maxRecDepth 100000 in
theorem mu4_18 : j_code jP 246 18 = some (.invokevirtual 323) := rfl
set_option maxRecDepth 100000 in
theorem mu4_21 : j_code jP 246 21 = some (.istore_n 3) := rfl
set_option maxRecDepth 100000 in
theorem mu4_22 : j_code jP 246 22 = some (.iconst 0) := rfl
set_option maxRecDepth 100000 in
theorem mu4_23 : j_code jP 246 23 = some (.istore 4) := rfl
set_option maxRecDepth 100000 in
theorem mu4_25 : j_code jP 246 25 = some (.iload 4) := rfl
set_option maxRecDepth 100000 in
theorem mu4_27 : j_code jP 246 27 = some (.iconst 5) := rfl
set_option maxRecDepth 100000 in
theorem mu4_28 : j_code jP 246 28 = some (.if_icmp .ge 54) := rfl
set_option maxRecDepth 100000 in
theorem mu4_31 : j_code jP 246 31 = some (.iconst 0) := rfl
set_option maxRecDepth 100000 in
theorem mu4_32 : j_code jP 246 32 = some (.istore 5) := rfl
set_option maxRecDepth 100000 in
theorem mu4_34 : j_code jP 246 34 = some (.iload 5) := rfl
set_option maxRecDepth 100000 in
theorem mu4_36 : j_code jP 246 36 = some (.aload_n 0) := rfl
set_option maxRecDepth 100000 in
theorem mu4_37 : j_code jP 246 37 = some (.getfield 7) := rfl
set_option maxRecDepth 100000 in
theorem mu4_40 : j_code jP 246 40 = some (.sipush 203) := rfl
set_option maxRecDepth 100000 in
theorem mu4_43 : j_code jP 246 43 = some (.iaload) := rfl
set_option maxRecDepth 100000 in
theorem mu4_44 : j_code jP 246 44 = some (.if_icmp .ge 32) := rfl
set_option maxRecDepth 100000 in
theorem mu4_47 : j_code jP 246 47 = some (.iload_n 3) := rfl
set_option maxRecDepth 100000 in
theorem mu4_48 : j_code jP 246 48 = some (.iload_n 3) := rfl
set_option maxRecDepth 100000 in
theorem mu4_49 : j_code jP 246 49 = some (.iload 5) := rfl
set_option maxRecDepth 100000 in
theorem mu4_51 : j_code jP 246 51 = some (.ishr) := rfl
set_option maxRecDepth 100000 in
theorem mu4_52 : j_code jP 246 52 = some (.iconst 1) := rfl
set_option maxRecDepth 100000 in
theorem mu4_53 : j_code jP 246 53 = some (.iand) := rfl
set_option maxRecDepth 100000 in
theorem mu4_54 : j_code jP 246 54 = some (.iconst 1) := rfl
set_option maxRecDepth 100000 in
theorem mu4_55 : j_code jP 246 55 = some (.if_icmp .ne 12) := rfl
set_option maxRecDepth 100000 in
theorem mu4_58 : j_code jP 246 58 = some (.aload_n 0) := rfl
set_option maxRecDepth 100000 in
theorem mu4_59 : j_code jP 246 59 = some (.iload 5) := rfl
set_option maxRecDepth 100000 in
theorem mu4_61 : j_code jP 246 61 = some (.invokevirtual 323) := rfl
set_option maxRecDepth 100000 in
theorem mu4_64 : j_code jP 246 64 = some (.goto 4) := rfl
set_option maxRecDepth 100000 in
theorem mu4_67 : j_code jP 246 67 = some (.iconst 0) := rfl
set_option maxRecDepth 100000 in
theorem mu4_68 : j_code jP 246 68 = some (.ior) := rfl
set_option maxRecDepth 100000 in
theorem mu4_69 : j_code jP 246 69 = some (.istore_n 3) := rfl
set_option maxRecDepth 100000 in
theorem mu4_70 : j_code jP 246 70 = some (.iinc 5 1) := rfl
set_option maxRecDepth 100000 in
theorem mu4_73 : j_code jP 246 73 = some (.goto (-39)) := rfl
set_option maxRecDepth 100000 in
theorem mu4_76 : j_code jP 246 76 = some (.iinc 4 1) := rfl
set_option maxRecDepth 100000 in
theorem mu4_79 : j_code jP 246 79 = some (.goto (-54)) := rfl
set_option maxRecDepth 100000 in
theorem mu4_82 : j_code jP 246 82 = some (.iload_n 1) := rfl
set_option maxRecDepth 100000 in
theorem mu4_83 : j_code jP 246 83 = some (.iload_n 3) := rfl
set_option maxRecDepth 100000 in
theorem mu4_84 : j_code jP 246 84 = some (.iload_n 2) := rfl
set_option maxRecDepth 100000 in
theorem mu4_85 : j_code jP 246 85 = some (.ishr) := rfl
set_option maxRecDepth 100000 in
theorem mu4_86 : j_code jP 246 86 = some (.iconst 1) := rfl
set_option maxRecDepth 100000 in
theorem mu4_87 : j_code jP 246 87 = some (.iand) := rfl
set_option maxRecDepth 100000 in
theorem mu4_88 : j_code jP 246 88 = some (.iload_n 2) := rfl
set_option maxRecDepth 100000 in
theorem mu4_89 : j_code jP 246 89 = some (.ishl) := rfl
set_option maxRecDepth 100000 in
theorem mu4_90 : j_code jP 246 90 = some (.ior) := rfl
set_option maxRecDepth 100000 in
theorem mu4_91 : j_code jP 246 91 = some (.istore_n 1) := rfl
set_option maxRecDepth 100000 in
theorem mu4_92 : j_code jP 246 92 = some (.iinc 2 1) := rfl
set_option maxRecDepth 100000 in
theorem mu4_95 : j_code jP 246 95 = some (.goto (-91)) := rfl
set_option maxRecDepth 100000 in
theorem mu4_98 : j_code jP 246 98 = some (.aload_n 0) := rfl
set_option maxRecDepth 100000 in
theorem mu4_99 : j_code jP 246 99 = some (.iload_n 1) := rfl
set_option maxRecDepth 100000 in
theorem mu4_100 : j_code jP 246 100 = some (.invokevirtual 195) := rfl
set_option maxRecDepth 100000 in
theorem mu4_103 : j_code jP 246 103 = some (.ireturn) := rfl
def m_ring_l34 (w : List Int32) : Nat → Nat → Int32 → Int32
  | 0, i, v3 => v3
  | f + 1, i, v3 => (if ((v3 >>> ((nI i) &&& 31)) &&& 1) = 1 then (m_ring_l34 w f (i + 1) (v3 ||| (m_waitsFor w (nI i)))) else (m_ring_l34 w f (i + 1) (v3 ||| 0)))
set_option maxRecDepth 1000000 in
theorem mu4_ok_l34 {u : Nat → Value} {n d : Nat} {h h0 : J_H} {th sst acs tm v1 : Int32} {t j : Nat} {w sd ot kp tk od be : List Int32} {I J : List Int32 → Prop} {Q : Option Value → J_H → Prop} (H : m_Inv n I J) (hI : I w) (K : KN h [(359, .inl (10, [.int th, .ref 360, .ref 361, .ref 362, .ref 363, .ref 364, .ref 365, .ref 366, .ref 367, (u 9), .int sst, (u 11), (u 12), .int acs, (u 14), (u 15), (u 16), (u 17), (u 18), (u 19), (u 20), (u 21), .ref 368, .int tm, .ref 369, .ref 370, .ref 371, (u 27)])), (360, .inr (.inl (0, w))), (362, .inr (.inl (0, sd))), (363, .inr (.inl (0, ot))), (364, .inr (.inl (0, kp))), (368, .inr (.inl (0, tk))), (369, .inr (.inl (0, od))), (370, .inr (.inl (0, be)))] h0) : ∀ (f i : Nat) (v3 : Int32) {lv : J_L}, i + f = n → LK lv [(0, .ref 359), (1, .int v1), (2, .int (nI t)), (3, .int v3), (4, .int (nI j)), (5, .int (nI i))] → (∀ lv, LK lv [(0, .ref 359), (1, .int v1), (2, .int (nI t)), (3, .int (m_ring_l34 w f i v3)), (4, .int (nI j))] → j_V jP d 246 76 lv [] h Q) → j_V jP d 246 34 lv [] h Q := by
  have hn5 := H.n5
  intro f
  induction f with
  | zero =>
    intro i v3 lv e L kk
    refine j_V.ldL mu4_M mu4_34 rfl (i := 5) (kd := 0) (v := .int (nI i)) (pcJ := 36) rfl L rfl rfl rfl ?_
    refine j_V.ldL mu4_M mu4_36 rfl (i := 0) (kd := 2) (v := .ref 359) (pcJ := 37) rfl L rfl rfl rfl ?_
    refine j_V.getK mu4_M mu4_37 (ci := 10) (j := 1) rfl K rfl rfl ?_
    refine j_V.one mu4_M mu4_40 (by decide) (pcJ := 43) (stJ := [.int 203, .ref 360, .int (nI i)]) rfl ?_
    refine j_V.iaA mu4_M mu4_43 K rfl ?_
    refine j_V.icmp mu4_M mu4_44 (t := 76) rfl (fun c44_0 => ?_) (fun c44_0 => ?_)
    · replace c44_0 : ¬ ((nI i) < (gA w 203)) := jd_ge c44_0
      exact kk _ (L.sub ⟨rfl, rfl, rfl, rfl, rfl, trivial⟩)
    · replace c44_0 : (nI i) < (gA w 203) := jd_gen c44_0
      exact absurd c44_0 (by rw [(H.I1 _ hI).2, nI_lt9 (by omega) (by omega)]; omega)
  | succ f ih =>
    intro i v3 lv e L kk
    refine j_V.ldL mu4_M mu4_34 rfl (i := 5) (kd := 0) (v := .int (nI i)) (pcJ := 36) rfl L rfl rfl rfl ?_
    refine j_V.ldL mu4_M mu4_36 rfl (i := 0) (kd := 2) (v := .ref 359) (pcJ := 37) rfl L rfl rfl rfl ?_
    refine j_V.getK mu4_M mu4_37 (ci := 10) (j := 1) rfl K rfl rfl ?_
    refine j_V.one mu4_M mu4_40 (by decide) (pcJ := 43) (stJ := [.int 203, .ref 360, .int (nI i)]) rfl ?_
    refine j_V.iaA mu4_M mu4_43 K rfl ?_
    refine j_V.icmp mu4_M mu4_44 (t := 76) rfl (fun c44_0 => ?_) (fun c44_0 => ?_)
    · replace c44_0 : ¬ ((nI i) < (gA w 203)) := jd_ge c44_0
      exact absurd (show nI i < gA w 203 by rw [(H.I1 _ hI).2, nI_lt9 (by omega) (by omega)]; omega) c44_0
    · replace c44_0 : (nI i) < (gA w 203) := jd_gen c44_0
      refine j_V.ldL mu4_M mu4_47 rfl (i := 3) (kd := 0) (v := .int v3) (pcJ := 48) rfl L rfl rfl rfl ?_
      refine j_V.ldL mu4_M mu4_48 rfl (i := 3) (kd := 0) (v := .int v3) (pcJ := 49) rfl L rfl rfl rfl ?_
      refine j_V.ldL mu4_M mu4_49 rfl (i := 5) (kd := 0) (v := .int (nI i)) (pcJ := 51) rfl L rfl rfl rfl ?_
      refine j_V.one mu4_M mu4_51 (by decide) (pcJ := 52) (stJ := [.int (v3 >>> ((nI i) &&& 31)), .int v3]) rfl ?_
      refine j_V.one mu4_M mu4_52 (by decide) (pcJ := 53) (stJ := [.int 1, .int (v3 >>> ((nI i) &&& 31)), .int v3]) rfl ?_
      refine j_V.one mu4_M mu4_53 (by decide) (pcJ := 54) (stJ := [.int ((v3 >>> ((nI i) &&& 31)) &&& 1), .int v3]) rfl ?_
      refine j_V.one mu4_M mu4_54 (by decide) (pcJ := 55) (stJ := [.int 1, .int ((v3 >>> ((nI i) &&& 31)) &&& 1), .int v3]) rfl ?_
      refine j_V.icmp mu4_M mu4_55 (t := 67) rfl (fun c55_0 => ?_) (fun c55_0 => ?_)
      · replace c55_0 : ¬ (((v3 >>> ((nI i) &&& 31)) &&& 1) = 1) := jd_ne c55_0
        refine j_V.one mu4_M mu4_67 (by decide) (pcJ := 68) (stJ := [.int 0, .int v3]) rfl ?_
        refine j_V.one mu4_M mu4_68 (by decide) (pcJ := 69) (stJ := [.int (v3 ||| 0)]) rfl ?_
        refine j_V.stL mu4_M mu4_69 rfl (i := 3) (kd := 0) (kl' := [(0, .ref 359), (1, .int v1), (2, .int (nI t)), (3, .int (v3 ||| 0)), (4, .int (nI j)), (5, .int (nI i))]) (pcJ := 70) rfl L rfl (by decide) rfl rfl rfl (fun lv L => ?_)
        refine j_V.inL mu4_M mu4_70 (i := 5) (kl' := [(0, .ref 359), (1, .int v1), (2, .int (nI t)), (3, .int (v3 ||| 0)), (4, .int (nI j)), (5, .int ((nI i) + 1))]) (pcJ := 73) L rfl rfl rfl rfl (fun lv L => ?_)
        refine j_V.gto mu4_M mu4_73 (t := 34) rfl ?_
        rw [nI_one] at L
        rw [show (m_ring_l34 w (f + 1) i v3) = _ from ((if_neg c55_0).trans (rfl))] at kk
        exact ih (i + 1) _ (by omega) L kk
      · replace c55_0 : ((v3 >>> ((nI i) &&& 31)) &&& 1) = 1 := jd_nen c55_0
        refine j_V.ldL mu4_M mu4_58 rfl (i := 0) (kd := 2) (v := .ref 359) (pcJ := 59) rfl L rfl rfl rfl ?_
        refine j_V.ldL mu4_M mu4_59 rfl (i := 5) (kd := 0) (v := .int (nI i)) (pcJ := 61) rfl L rfl rfl rfl ?_
        refine j_V.cl mu4_M mu4_61 rfl (md := 3) (mj := 244) rfl (by decide) mc7_M (As := [.ref 359, .int (nI i)]) (rest := [.int v3]) (jk_spl3 (K.at rfl) rfl rfl rfl (Nat.le_of_ble_eq_true rfl) (Nat.le_of_ble_eq_true rfl)) (fun d => mc7_ok (u := fun j => [.int th, .ref 360, .ref 361, .ref 362, .ref 363, .ref 364, .ref 365, .ref 366, .ref 367, (u 9), .int sst, (u 11), (u 12), .int acs, (u 14), (u 15), (u 16), (u 17), (u 18), (u 19), (u 20), (u 21), .ref 368, .int tm, .ref 369, .ref 370, .ref 371, (u 27)].getD j .null) (K.fi [359, 360] rfl rfl)) ?_
        rintro r hz ⟨rfl, ez⟩
        rw [ez]
        clear ez
        show j_V jP _ 246 64 lv [.int (m_waitsFor w (nI i)), .int v3] h _
        refine j_V.gto mu4_M mu4_64 (t := 68) rfl ?_
        refine j_V.one mu4_M mu4_68 (by decide) (pcJ := 69) (stJ := [.int (v3 ||| (m_waitsFor w (nI i)))]) rfl ?_
        refine j_V.stL mu4_M mu4_69 rfl (i := 3) (kd := 0) (kl' := [(0, .ref 359), (1, .int v1), (2, .int (nI t)), (3, .int (v3 ||| (m_waitsFor w (nI i)))), (4, .int (nI j)), (5, .int (nI i))]) (pcJ := 70) rfl L rfl (by decide) rfl rfl rfl (fun lv L => ?_)
        refine j_V.inL mu4_M mu4_70 (i := 5) (kl' := [(0, .ref 359), (1, .int v1), (2, .int (nI t)), (3, .int (v3 ||| (m_waitsFor w (nI i)))), (4, .int (nI j)), (5, .int ((nI i) + 1))]) (pcJ := 73) L rfl rfl rfl rfl (fun lv L => ?_)
        refine j_V.gto mu4_M mu4_73 (t := 34) rfl ?_
        rw [nI_one] at L
        rw [show (m_ring_l34 w (f + 1) i v3) = _ from ((if_pos c55_0).trans (rfl))] at kk
        exact ih (i + 1) _ (by omega) L kk
def m_ring_l25 (n : Nat) (w : List Int32) : Nat → Nat → Int32 → Int32
  | 0, j, v3 => v3
  | f + 1, j, v3 => (m_ring_l25 n w f (j + 1) (m_ring_l34 w n 0 v3))
set_option maxRecDepth 1000000 in
theorem mu4_ok_l25 {u : Nat → Value} {n d : Nat} {h h0 : J_H} {th sst acs tm v1 : Int32} {t : Nat} {w sd ot kp tk od be : List Int32} {I J : List Int32 → Prop} {Q : Option Value → J_H → Prop} (H : m_Inv n I J) (hI : I w) (K : KN h [(359, .inl (10, [.int th, .ref 360, .ref 361, .ref 362, .ref 363, .ref 364, .ref 365, .ref 366, .ref 367, (u 9), .int sst, (u 11), (u 12), .int acs, (u 14), (u 15), (u 16), (u 17), (u 18), (u 19), (u 20), (u 21), .ref 368, .int tm, .ref 369, .ref 370, .ref 371, (u 27)])), (360, .inr (.inl (0, w))), (362, .inr (.inl (0, sd))), (363, .inr (.inl (0, ot))), (364, .inr (.inl (0, kp))), (368, .inr (.inl (0, tk))), (369, .inr (.inl (0, od))), (370, .inr (.inl (0, be)))] h0) : ∀ (f j : Nat) (v3 : Int32) {lv : J_L}, j + f = 5 → LK lv [(0, .ref 359), (1, .int v1), (2, .int (nI t)), (3, .int v3), (4, .int (nI j))] → (∀ lv, LK lv [(0, .ref 359), (1, .int v1), (2, .int (nI t)), (3, .int (m_ring_l25 n w f j v3))] → j_V jP d 246 82 lv [] h Q) → j_V jP d 246 25 lv [] h Q := by
  have hn5 := H.n5
  intro f
  induction f with
  | zero =>
    intro j v3 lv e L kk
    refine j_V.ldL mu4_M mu4_25 rfl (i := 4) (kd := 0) (v := .int (nI j)) (pcJ := 27) rfl L rfl rfl rfl ?_
    refine j_V.one mu4_M mu4_27 (by decide) (pcJ := 28) (stJ := [.int 5, .int (nI j)]) rfl ?_
    refine j_V.icmp mu4_M mu4_28 (t := 82) rfl (fun c28_0 => ?_) (fun c28_0 => ?_)
    · replace c28_0 : ¬ ((nI j) < 5) := jd_ge c28_0
      exact kk _ (L.sub ⟨rfl, rfl, rfl, rfl, trivial⟩)
    · replace c28_0 : (nI j) < 5 := jd_gen c28_0
      exact absurd c28_0 (by rw [show j = 5 by omega]; decide)
  | succ f ih =>
    intro j v3 lv e L kk
    refine j_V.ldL mu4_M mu4_25 rfl (i := 4) (kd := 0) (v := .int (nI j)) (pcJ := 27) rfl L rfl rfl rfl ?_
    refine j_V.one mu4_M mu4_27 (by decide) (pcJ := 28) (stJ := [.int 5, .int (nI j)]) rfl ?_
    refine j_V.icmp mu4_M mu4_28 (t := 82) rfl (fun c28_0 => ?_) (fun c28_0 => ?_)
    · replace c28_0 : ¬ ((nI j) < 5) := jd_ge c28_0
      exact absurd (show nI j < 5 by rw [show (5 : Int32) = nI 5 from rfl, nI_lt9 (by omega) (by omega)]; omega) c28_0
    · replace c28_0 : (nI j) < 5 := jd_gen c28_0
      refine j_V.one mu4_M mu4_31 (by decide) (pcJ := 32) (stJ := [.int 0]) rfl ?_
      refine j_V.stL mu4_M mu4_32 rfl (i := 5) (kd := 0) (kl' := [(0, .ref 359), (1, .int v1), (2, .int (nI t)), (3, .int v3), (4, .int (nI j)), (5, .int 0)]) (pcJ := 34) rfl L rfl (by decide) rfl rfl rfl (fun lv L => ?_)
      have L : LK lv [(0, .ref 359), (1, .int v1), (2, .int (nI t)), (3, .int v3), (4, .int (nI j)), (5, .int (nI 0))] := L
      refine mu4_ok_l34 H hI K n 0 v3 (Nat.zero_add n) L (fun lv L => ?_)
      refine j_V.inL mu4_M mu4_76 (i := 4) (kl' := [(0, .ref 359), (1, .int v1), (2, .int (nI t)), (3, .int (m_ring_l34 w n 0 v3)), (4, .int ((nI j) + 1))]) (pcJ := 79) L rfl rfl rfl rfl (fun lv L => ?_)
      refine j_V.gto mu4_M mu4_79 (t := 25) rfl ?_
      rw [nI_one] at L
      rw [show (m_ring_l25 n w (f + 1) j v3) = _ from (rfl)] at kk
      exact ih (j + 1) _ (by omega) L kk
def m_qring_l4 (n : Nat) (th : Int32) (sst : Int32) (w : List Int32) : Nat → Nat → Int32 → Int32 × Int32 × Int32
  | 0, i, v1 => (((m_gives th sst v1).1), ((m_gives th sst v1).2.1), ((m_gives th sst v1).2.2))
  | f + 1, i, v1 => (m_qring_l4 n th sst w f (i + 1) (v1 ||| ((((m_ring_l25 n w 5 0 (m_waitsFor w (nI i))) >>> ((nI i) &&& 31)) &&& 1) <<< ((nI i) &&& 31))))
set_option maxRecDepth 1000000 in
theorem mu4_ok_l4 {u : Nat → Value} {n d : Nat} {h0 : J_H} {th sst acs  : Int32} {w kp od be : List Int32}  {I J : List Int32 → Prop} (H : m_Inv n I J) (H2 : m_Iv2 n I) (hI : I w)  : ∀ (f i : Nat) (v1 : Int32) {sd ot tk : List Int32} {tm : Int32} {lv : J_L} {h : J_H}, i + f = n → sd.length = 602 → ot.length = 602 → LK lv [(0, .ref 359), (1, .int v1), (2, .int (nI i))] → KN h [(359, .inl (10, [.int th, .ref 360, .ref 361, .ref 362, .ref 363, .ref 364, .ref 365, .ref 366, .ref 367, (u 9), .int sst, (u 11), (u 12), .int acs, (u 14), (u 15), (u 16), (u 17), (u 18), (u 19), (u 20), (u 21), .ref 368, .int tm, .ref 369, .ref 370, .ref 371, (u 27)])), (360, .inr (.inl (0, w))), (362, .inr (.inl (0, sd))), (363, .inr (.inl (0, ot))), (364, .inr (.inl (0, kp))), (368, .inr (.inl (0, tk))), (369, .inr (.inl (0, od))), (370, .inr (.inl (0, be)))] h0 → j_V jP d 246 4 lv [] h (fun rv h' => rv = some (.int (m_qring_l4 n th sst w f i v1).1) ∧ ∃ (sd' ot' tk' : List Int32) (tm' : Int32), sd'.length = 602 ∧ ot'.length = 602 ∧ KN h' [(359, .inl (10, [.int (m_qring_l4 n th sst w f i v1).2.1, .ref 360, .ref 361, .ref 362, .ref 363, .ref 364, .ref 365, .ref 366, .ref 367, (u 9), .int (m_qring_l4 n th sst w f i v1).2.2, (u 11), (u 12), .int acs, (u 14), (u 15), (u 16), (u 17), (u 18), (u 19), (u 20), (u 21), .ref 368, .int tm', .ref 369, .ref 370, .ref 371, (u 27)])), (360, .inr (.inl (0, w))), (362, .inr (.inl (0, sd'))), (363, .inr (.inl (0, ot'))), (364, .inr (.inl (0, kp))), (368, .inr (.inl (0, tk'))), (369, .inr (.inl (0, od))), (370, .inr (.inl (0, be)))] h0) := by
  have hn5 := H.n5
  intro f
  induction f with
  | zero =>
    intro i v1 sd ot tk tm lv h e hsd hot L K
    refine j_V.ldL mu4_M mu4_4 rfl (i := 2) (kd := 0) (v := .int (nI i)) (pcJ := 5) rfl L rfl rfl rfl ?_
    refine j_V.ldL mu4_M mu4_5 rfl (i := 0) (kd := 2) (v := .ref 359) (pcJ := 6) rfl L rfl rfl rfl ?_
    refine j_V.getK mu4_M mu4_6 (ci := 10) (j := 1) rfl K rfl rfl ?_
    refine j_V.one mu4_M mu4_9 (by decide) (pcJ := 12) (stJ := [.int 203, .ref 360, .int (nI i)]) rfl ?_
    refine j_V.iaA mu4_M mu4_12 K rfl ?_
    refine j_V.icmp mu4_M mu4_13 (t := 98) rfl (fun c13_0 => ?_) (fun c13_0 => ?_)
    · replace c13_0 : ¬ ((nI i) < (gA w 203)) := jd_ge c13_0
      refine j_V.ldL mu4_M mu4_98 rfl (i := 0) (kd := 2) (v := .ref 359) (pcJ := 99) rfl L rfl rfl rfl ?_
      refine j_V.ldL mu4_M mu4_99 rfl (i := 1) (kd := 0) (v := .int v1) (pcJ := 100) rfl L rfl rfl rfl ?_
      refine j_V.cl mu4_M mu4_100 rfl (md := 3) (mj := 170) rfl (by decide) mo1_M (As := [.ref 359, .int v1]) (rest := []) (jk_spl3 (K.at rfl) rfl rfl rfl (Nat.le_of_ble_eq_true rfl) (Nat.le_of_ble_eq_true rfl)) (fun d => mo1_ok (u := fun j => [.int th, .ref 360, .ref 361, .ref 362, .ref 363, .ref 364, .ref 365, .ref 366, .ref 367, (u 9), .int sst, (u 11), (u 12), .int acs, (u 14), (u 15), (u 16), (u 17), (u 18), (u 19), (u 20), (u 21), .ref 368, .int tm, .ref 369, .ref 370, .ref 371, (u 27)].getD j .null) (K.fi [359] rfl rfl)) ?_
      rintro r h9 ⟨rfl, K9⟩
      have K : KN h9 [(359, .inl (10, [.int ((m_gives th sst v1).2.1), .ref 360, .ref 361, .ref 362, .ref 363, .ref 364, .ref 365, .ref 366, .ref 367, (u 9), .int ((m_gives th sst v1).2.2), (u 11), (u 12), .int acs, (u 14), (u 15), (u 16), (u 17), (u 18), (u 19), (u 20), (u 21), .ref 368, .int tm, .ref 369, .ref 370, .ref 371, (u 27)])), (360, .inr (.inl (0, w))), (362, .inr (.inl (0, sd))), (363, .inr (.inl (0, ot))), (364, .inr (.inl (0, kp))), (368, .inr (.inl (0, tk))), (369, .inr (.inl (0, od))), (370, .inr (.inl (0, be)))] h0 := K.mg K9 rfl rfl
      clear K9
      show j_V jP _ 246 103 lv [.int ((m_gives th sst v1).1)] h9 _
      refine j_V.ri mu4_M mu4_103 ?_
      rw [show (m_qring_l4 n th sst w 0 i v1) = _ from (rfl)]
      exact ⟨rfl, sd, ot, tk, tm, hsd, hot, K⟩
    · replace c13_0 : (nI i) < (gA w 203) := jd_gen c13_0
      exact absurd c13_0 (by rw [(H.I1 _ hI).2, nI_lt9 (by omega) (by omega)]; omega)
  | succ f ih =>
    intro i v1 sd ot tk tm lv h e hsd hot L K
    refine j_V.ldL mu4_M mu4_4 rfl (i := 2) (kd := 0) (v := .int (nI i)) (pcJ := 5) rfl L rfl rfl rfl ?_
    refine j_V.ldL mu4_M mu4_5 rfl (i := 0) (kd := 2) (v := .ref 359) (pcJ := 6) rfl L rfl rfl rfl ?_
    refine j_V.getK mu4_M mu4_6 (ci := 10) (j := 1) rfl K rfl rfl ?_
    refine j_V.one mu4_M mu4_9 (by decide) (pcJ := 12) (stJ := [.int 203, .ref 360, .int (nI i)]) rfl ?_
    refine j_V.iaA mu4_M mu4_12 K rfl ?_
    refine j_V.icmp mu4_M mu4_13 (t := 98) rfl (fun c13_0 => ?_) (fun c13_0 => ?_)
    · replace c13_0 : ¬ ((nI i) < (gA w 203)) := jd_ge c13_0
      exact absurd (show nI i < gA w 203 by rw [(H.I1 _ hI).2, nI_lt9 (by omega) (by omega)]; omega) c13_0
    · replace c13_0 : (nI i) < (gA w 203) := jd_gen c13_0
      refine j_V.ldL mu4_M mu4_16 rfl (i := 0) (kd := 2) (v := .ref 359) (pcJ := 17) rfl L rfl rfl rfl ?_
      refine j_V.ldL mu4_M mu4_17 rfl (i := 2) (kd := 0) (v := .int (nI i)) (pcJ := 18) rfl L rfl rfl rfl ?_
      refine j_V.cl mu4_M mu4_18 rfl (md := 3) (mj := 244) rfl (by decide) mc7_M (As := [.ref 359, .int (nI i)]) (rest := []) (jk_spl3 (K.at rfl) rfl rfl rfl (Nat.le_of_ble_eq_true rfl) (Nat.le_of_ble_eq_true rfl)) (fun d => mc7_ok (u := fun j => [.int th, .ref 360, .ref 361, .ref 362, .ref 363, .ref 364, .ref 365, .ref 366, .ref 367, (u 9), .int sst, (u 11), (u 12), .int acs, (u 14), (u 15), (u 16), (u 17), (u 18), (u 19), (u 20), (u 21), .ref 368, .int tm, .ref 369, .ref 370, .ref 371, (u 27)].getD j .null) (K.fi [359, 360] rfl rfl)) ?_
      rintro r hz ⟨rfl, ez⟩
      rw [ez]
      clear ez
      show j_V jP _ 246 21 lv [.int (m_waitsFor w (nI i))] h _
      refine j_V.stL mu4_M mu4_21 rfl (i := 3) (kd := 0) (kl' := [(0, .ref 359), (1, .int v1), (2, .int (nI i)), (3, .int (m_waitsFor w (nI i)))]) (pcJ := 22) rfl L rfl (by decide) rfl rfl rfl (fun lv L => ?_)
      refine j_V.one mu4_M mu4_22 (by decide) (pcJ := 23) (stJ := [.int 0]) rfl ?_
      refine j_V.stL mu4_M mu4_23 rfl (i := 4) (kd := 0) (kl' := [(0, .ref 359), (1, .int v1), (2, .int (nI i)), (3, .int (m_waitsFor w (nI i))), (4, .int 0)]) (pcJ := 25) rfl L rfl (by decide) rfl rfl rfl (fun lv L => ?_)
      have L : LK lv [(0, .ref 359), (1, .int v1), (2, .int (nI i)), (3, .int (m_waitsFor w (nI i))), (4, .int (nI 0))] := L
      refine mu4_ok_l25 H hI K 5 0 (m_waitsFor w (nI i)) rfl L (fun lv L => ?_)
      refine j_V.ldL mu4_M mu4_82 rfl (i := 1) (kd := 0) (v := .int v1) (pcJ := 83) rfl L rfl rfl rfl ?_
      refine j_V.ldL mu4_M mu4_83 rfl (i := 3) (kd := 0) (v := .int (m_ring_l25 n w 5 0 (m_waitsFor w (nI i)))) (pcJ := 84) rfl L rfl rfl rfl ?_
      refine j_V.ldL mu4_M mu4_84 rfl (i := 2) (kd := 0) (v := .int (nI i)) (pcJ := 85) rfl L rfl rfl rfl ?_
      refine j_V.one mu4_M mu4_85 (by decide) (pcJ := 86) (stJ := [.int ((m_ring_l25 n w 5 0 (m_waitsFor w (nI i))) >>> ((nI i) &&& 31)), .int v1]) rfl ?_
      refine j_V.one mu4_M mu4_86 (by decide) (pcJ := 87) (stJ := [.int 1, .int ((m_ring_l25 n w 5 0 (m_waitsFor w (nI i))) >>> ((nI i) &&& 31)), .int v1]) rfl ?_
      refine j_V.one mu4_M mu4_87 (by decide) (pcJ := 88) (stJ := [.int (((m_ring_l25 n w 5 0 (m_waitsFor w (nI i))) >>> ((nI i) &&& 31)) &&& 1), .int v1]) rfl ?_
      refine j_V.ldL mu4_M mu4_88 rfl (i := 2) (kd := 0) (v := .int (nI i)) (pcJ := 89) rfl L rfl rfl rfl ?_
      refine j_V.one mu4_M mu4_89 (by decide) (pcJ := 90) (stJ := [.int ((((m_ring_l25 n w 5 0 (m_waitsFor w (nI i))) >>> ((nI i) &&& 31)) &&& 1) <<< ((nI i) &&& 31)), .int v1]) rfl ?_
      refine j_V.one mu4_M mu4_90 (by decide) (pcJ := 91) (stJ := [.int (v1 ||| ((((m_ring_l25 n w 5 0 (m_waitsFor w (nI i))) >>> ((nI i) &&& 31)) &&& 1) <<< ((nI i) &&& 31)))]) rfl ?_
      refine j_V.stL mu4_M mu4_91 rfl (i := 1) (kd := 0) (kl' := [(0, .ref 359), (1, .int (v1 ||| ((((m_ring_l25 n w 5 0 (m_waitsFor w (nI i))) >>> ((nI i) &&& 31)) &&& 1) <<< ((nI i) &&& 31)))), (2, .int (nI i)), (3, .int (m_ring_l25 n w 5 0 (m_waitsFor w (nI i))))]) (pcJ := 92) rfl L rfl (by decide) rfl rfl rfl (fun lv L => ?_)
      refine j_V.inL mu4_M mu4_92 (i := 2) (kl' := [(0, .ref 359), (1, .int (v1 ||| ((((m_ring_l25 n w 5 0 (m_waitsFor w (nI i))) >>> ((nI i) &&& 31)) &&& 1) <<< ((nI i) &&& 31)))), (2, .int ((nI i) + 1)), (3, .int (m_ring_l25 n w 5 0 (m_waitsFor w (nI i))))]) (pcJ := 95) L rfl rfl rfl rfl (fun lv L => ?_)
      refine j_V.gto mu4_M mu4_95 (t := 4) rfl ?_
      rw [nI_one] at L
      rw [show (m_qring_l4 n th sst w (f + 1) i v1) = _ from (rfl)]
      exact ih (i + 1) _ (by omega) hsd hot (L.sub ⟨rfl, rfl, rfl, trivial⟩) K
def m_qring (n : Nat) (th : Int32) (sst : Int32) (w : List Int32) : Int32 × Int32 × Int32 := (m_qring_l4 n th sst w n 0 0)
set_option maxRecDepth 1000000 in
theorem mu4_ok {u : Nat → Value} {n d : Nat} {h h0 : J_H} {th sst acs tm  : Int32} {w sd ot kp tk od be : List Int32} {I J : List Int32 → Prop} (H : m_Inv n I J) (H2 : m_Iv2 n I) (hI : I w) (hsd : sd.length = 602) (hot : ot.length = 602) (K : KN h [(359, .inl (10, [.int th, .ref 360, .ref 361, .ref 362, .ref 363, .ref 364, .ref 365, .ref 366, .ref 367, (u 9), .int sst, (u 11), (u 12), .int acs, (u 14), (u 15), (u 16), (u 17), (u 18), (u 19), (u 20), (u 21), .ref 368, .int tm, .ref 369, .ref 370, .ref 371, (u 27)])), (360, .inr (.inl (0, w))), (362, .inr (.inl (0, sd))), (363, .inr (.inl (0, ot))), (364, .inr (.inl (0, kp))), (368, .inr (.inl (0, tk))), (369, .inr (.inl (0, od))), (370, .inr (.inl (0, be)))] h0) : j_V jP d 246 0 (lv_args 0 [.ref 359]) [] h (fun rv h' => rv = some (.int (m_qring n th sst w).1) ∧ ∃ (sd' ot' tk' : List Int32) (tm' : Int32), sd'.length = 602 ∧ ot'.length = 602 ∧ KN h' [(359, .inl (10, [.int (m_qring n th sst w).2.1, .ref 360, .ref 361, .ref 362, .ref 363, .ref 364, .ref 365, .ref 366, .ref 367, (u 9), .int (m_qring n th sst w).2.2, (u 11), (u 12), .int acs, (u 14), (u 15), (u 16), (u 17), (u 18), (u 19), (u 20), (u 21), .ref 368, .int tm', .ref 369, .ref 370, .ref 371, (u 27)])), (360, .inr (.inl (0, w))), (362, .inr (.inl (0, sd'))), (363, .inr (.inl (0, ot'))), (364, .inr (.inl (0, kp))), (368, .inr (.inl (0, tk'))), (369, .inr (.inl (0, od))), (370, .inr (.inl (0, be)))] h0) := by
  show j_V jP d 246 0 [(0, .ref 359)] [] h _
  obtain ⟨lv, elv, L⟩ : ∃ lv, lv = [(0, .ref 359)] ∧ LK lv [(0, .ref 359)] := ⟨_, rfl, LK.rf⟩
  rw [← elv]
  clear elv
  refine j_V.one mu4_M mu4_0 (by decide) (pcJ := 1) (stJ := [.int 0]) rfl ?_
  refine j_V.stL mu4_M mu4_1 rfl (i := 1) (kd := 0) (kl' := [(0, .ref 359), (1, .int 0)]) (pcJ := 2) rfl L rfl (by decide) rfl rfl rfl (fun lv L => ?_)
  refine j_V.one mu4_M mu4_2 (by decide) (pcJ := 3) (stJ := [.int 0]) rfl ?_
  refine j_V.stL mu4_M mu4_3 rfl (i := 2) (kd := 0) (kl' := [(0, .ref 359), (1, .int 0), (2, .int 0)]) (pcJ := 4) rfl L rfl (by decide) rfl rfl rfl (fun lv L => ?_)
  have L : LK lv [(0, .ref 359), (1, .int 0), (2, .int (nI 0))] := L
  rw [show (m_qring n th sst w) = (m_qring_l4 n th sst w n 0 0) from (rfl)]
  exact mu4_ok_l4 H H2 hI  n 0 0 (Nat.zero_add n) hsd hot L K

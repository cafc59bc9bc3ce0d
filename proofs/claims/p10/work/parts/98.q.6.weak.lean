/-! the reference's weak, band, go, passes, ring, by wip/px/gen_m11.py -/
set_option maxRecDepth 100000 in
theorem mu0_M : j_meth jP 250 = some (yX10_weak, cX10_weak, 4, (some .int), 1, false, 10) := rfl
set_option maxRecDepth 100000 in
theorem mu0_0 : j_code jP 250 0 = some (.aload_n 0) := rfl
set_option maxRecDepth 100000 in
theorem mu0_1 : j_code jP 250 1 = some (.iload_n 1) := rfl
set_option maxRecDepth 100000 in
theorem mu0_2 : j_code jP 250 2 = some (.invokevirtual 65) := rfl
set_option maxRecDepth 100000 in
theorem mu0_5 : j_code jP 250 5 = some (.ifCond .ne 9) := rfl
set_option maxRecDepth 100000 in
theorem mu0_8 : j_code jP 250 8 = some (.aload_n 0) := rfl
set_option maxRecDepth 100000 in
theorem mu0_9 : j_code jP 250 9 = some (.iconst 2) := rfl
set_option maxRecDepth 100000 in
theorem mu0_10 : j_code jP 250 10 = some (.invokevirtual 179) := rfl
set_option maxRecDepth 100000 in
theorem mu0_13 : j_code jP 250 13 = some (.ireturn) := rfl
set_option maxRecDepth 100000 in
theorem mu0_14 : j_code jP 250 14 = some (.aload_n 0) := rfl
set_option maxRecDepth 100000 in
theorem mu0_15 : j_code jP 250 15 = some (.invokevirtual 256) := rfl
set_option maxRecDepth 100000 in
theorem mu0_18 : j_code jP 250 18 = some (.ifCond .ne 9) := rfl
set_option maxRecDepth 100000 in
theorem mu0_21 : j_code jP 250 21 = some (.aload_n 0) := rfl
set_option maxRecDepth 100000 in
theorem mu0_22 : j_code jP 250 22 = some (.iconst 5) := rfl
set_option maxRecDepth 100000 in
theorem mu0_23 : j_code jP 250 23 = some (.invokevirtual 179) := rfl
set_option maxRecDepth 100000 in
theorem mu0_26 : j_code jP 250 26 = some (.ireturn) := rfl
set_option maxRecDepth 100000 in
theorem mu0_27 : j_code jP 250 27 = some (.iconst 0) := rfl
set_option maxRecDepth 100000 in
theorem mu0_28 : j_code jP 250 28 = some (.istore_n 2) := rfl
set_option maxRecDepth 100000 in
theorem mu0_29 : j_code jP 250 29 = some (.iconst 0) := rfl
set_option maxRecDepth 100000 in
theorem mu0_30 : j_code jP 250 30 = some (.istore_n 3) := rfl
set_option maxRecDepth 100000 in
theorem mu0_31 : j_code jP 250 31 = some (.iload_n 3) := rfl
set_option maxRecDepth 100000 in
theorem mu0_32 : j_code jP 250 32 = some (.aload_n 0) := rfl
set_option maxRecDepth 100000 in
theorem mu0_33 : j_code jP 250 33 = some (.iload_n 1) := rfl
set_option maxRecDepth 100000 in
theorem mu0_34 : j_code jP 250 34 = some (.iconst 1) := rfl
set_option maxRecDepth 100000 in
theorem mu0_35 : j_code jP 250 35 = some (.invokevirtual 69) := rfl
set_option maxRecDepth 100000 in
theorem mu0_38 : j_code jP 250 38 = some (.if_icmp .ge 69) := rfl
set_option maxRecDepth 100000 in
theorem mu0_41 : j_code jP 250 41 = some (.aload_n 0) := rfl
set_option maxRecDepth 100000 in
theorem mu0_42 : j_code jP 250 42 = some (.iload_n 1) := rfl
set_option maxRecDepth 100000 in
theorem mu0_43 : j_code jP 250 43 = some (.iconst 5) := rfl
set_option maxRecDepth 100000 in
theorem mu0_44 : j_code jP 250 44 = some (.iload_n 3) := rfl
set_option maxRecDepth 100000 in
theorem mu0_45 : j_code jP 250 45 = some (.iadd) := rfl
set_option maxRecDepth 100000 in
theorem mu0_46 : j_code jP 250 46 = some (.invokevirtual 69) := rfl
set_option maxRecDepth 100000 in
theorem mu0_49 : j_code jP 250 49 = some (.iconst 1) := rfl
set_option maxRecDepth 100000 in
theorem mu0_50 : j_code jP 250 50 = some (.if_icmp .ne 6) := rfl
set_option maxRecDepth 100000 in
theorem mu0_53 : j_code jP 250 53 = some (.goto 48) := rfl
set_option maxRecDepth 100000 in
theorem mu0_56 : j_code jP 250 56 = some (.aload_n 0) := rfl
set_option maxRecDepth 100000 in
theorem mu0_57 : j_code jP 250 57 = some (.getfield 7) := rfl
set_option maxRecDepth 100000 in
theorem mu0_60 : j_code jP 250 60 = some (.bipush 8) := rfl
set_option maxRecDepth 100000 in
theorem mu0_62 : j_code jP 250 62 = some (.iload_n 1) := rfl
set_option maxRecDepth 100000 in
theorem mu0_63 : j_code jP 250 63 = some (.imul) := rfl
set_option maxRecDepth 100000 in
theorem mu0_64 : j_code jP 250 64 = some (.iconst 5) := rfl
set_option maxRecDepth 100000 in
theorem mu0_65 : j_code jP 250 65 = some (.iadd) := rfl
set_option maxRecDepth 100000 in
theorem mu0_66 : j_code jP 250 66 = some (.iload_n 3) := rfl
set_option maxRecDepth 100000 in
theorem mu0_67 : j_code jP 250 67 = some (.iadd) := rfl
set_option maxRecDepth 100000 in
theorem mu0_68 : j_code jP 250 68 = some (.iconst 1) := rfl
set_option maxRecDepth 100000 in
theorem mu0_69 : j_code jP 250 69 = some (.iastore) := rfl
set_option maxRecDepth 100000 in
theorem mu0_70 : j_code jP 250 70 = some (.iload_n 2) := rfl
set_option maxRecDepth 100000 in
theorem mu0_71 : j_code jP 250 71 = some (.aload_n 0) := rfl
set_option maxRecDepth 100000 in
theorem mu0_72 : j_code jP 250 72 = some (.invokevirtual 256) := rfl
set_option maxRecDepth 100000 in
theorem mu0_75 : j_code jP 250 75 = some (.ifCond .eq 7) := rfl
set_option maxRecDepth 100000 in
theorem mu0_78 : j_code jP 250 78 = some (.iconst 0) := rfl
set_option maxRecDepth 100000 in
theorem mu0_79 : j_code jP 250 79 = some (.goto 6) := rfl
set_option maxRecDepth 100000 in
theorem mu0_82 : j_code jP 250 82 = some (.iconst 1) := rfl
set_option maxRecDepth 100000 in
theorem mu0_83 : j_code jP 250 83 = some (.iload_n 3) := rfl
set_option maxRecDepth 100000 in
theorem mu0_84 : j_code jP 250 84 = some (.ishl) := rfl
set_option maxRecDepth 100000 in
theorem mu0_85 : j_code jP 250 85 = some (.ior) := rfl
set_option maxRecDepth 100000 in
theorem mu0_86 : j_code jP 250 86 = some (.istore_n 2) := rfl
set_option maxRecDepth 100000 in
theorem mu0_87 : j_code jP 250 87 = some (.aload_n 0) := rfl
set_option maxRecDepth 100000 in
theorem mu0_88 : j_code jP 250 88 = some (.getfield 7) := rfl
set_option maxRecDepth 100000 in
theorem mu0_91 : j_code jP 250 91 = some (.bipush 8) := rfl
set_option maxRecDepth 100000 in
theorem mu0_93 : j_code jP 250 93 = some (.iload_n 1) := rfl
set_option maxRecDepth 100000 in
theorem mu0_94 : j_code jP 250 94 = some (.imul) := rfl
set_option maxRecDepth 100000 in
theorem mu0_95 : j_code jP 250 95 = some (.iconst 5) := rfl
set_option maxRecDepth 100000 in
theorem mu0_96 : j_code jP 250 96 = some (.iadd) := rfl
set_option maxRecDepth 100000 in
theorem mu0_97 : j_code jP 250 97 = some (.iload_n 3) := rfl
set_option maxRecDepth 100000 in
theorem mu0_98 : j_code jP 250 98 = some (.iadd) := rfl
set_option maxRecDepth 100000 in
theorem mu0_99 : j_code jP 250 99 = some (.iconst 0) := rfl
set_option maxRecDepth 100000 in
theorem mu0_100 : j_code jP 250 100 = some (.iastore) := rfl
set_option maxRecDepth 100000 in
theorem mu0_101 : j_code jP 250 101 = some (.iinc 3 1) := rfl
set_option maxRecDepth 100000 in
theorem mu0_104 : j_code jP 250 104 = some (.goto (-73)) := rfl
set_option maxRecDepth 100000 in
theorem mu0_107 : j_code jP 250 107 = some (.aload_n 0) := rfl
set_option maxRecDepth 100000 in
theorem mu0_108 : j_code jP 250 108 = some (.iload_n 2) := rfl
set_option maxRecDepth 100000 in
theorem mu0_109 : j_code jP 250 109 = some (.invokevirtual 195) := rfl
set_option maxRecDepth 100000 in
theorem mu0_112 : j_code jP 250 112 = some (.ireturn) := rfl
def m_qweak_l31 (n : Nat) (th : Int32) (sst : Int32) (w : List Int32) (x1 : Int32) : Nat → Nat → Int32 → Int32 × Int32 × Int32
  | 0, i, v2 => (((m_gives th sst v2).1), ((m_gives th sst v2).2.1), ((m_gives th sst v2).2.2))
  | f + 1, i, v2 => (if (m_st w x1 (5 + (nI i))) = 1 then (m_qweak_l31 n th sst w x1 f (i + 1) v2) else (if (m_isSafe (sA w (((8 * x1) + 5) + (nI i)) 1) n) = 0 then (m_qweak_l31 n th sst w x1 f (i + 1) (v2 ||| (1 <<< ((nI i) &&& 31)))) else (m_qweak_l31 n th sst w x1 f (i + 1) (v2 ||| 0))))
set_option maxRecDepth 1000000 in
theorem mu0_ok_l31 {u : Nat → Value} {n d : Nat} {h0 : J_H} {th sst acs x1 : Int32} {w kp od be : List Int32}  {I J : List Int32 → Prop} (H : m_Inv n I J) (H2 : m_Iv2 n I) (hI : I w) (hs : ¬ m_isStation w x1 = 0) : ∀ (f i : Nat) (v2 : Int32) {sd ot tk : List Int32} {tm : Int32} {lv : J_L} {h : J_H}, lpN (m_st w x1 1) (nI i) = f → sd.length = 602 → ot.length = 602 → LK lv [(0, .ref 359), (1, .int x1), (2, .int v2), (3, .int (nI i))] → KN h [(359, .inl (10, [.int th, .ref 360, .ref 361, .ref 362, .ref 363, .ref 364, .ref 365, .ref 366, .ref 367, (u 9), .int sst, (u 11), (u 12), .int acs, (u 14), (u 15), (u 16), (u 17), (u 18), (u 19), (u 20), (u 21), .ref 368, .int tm, .ref 369, .ref 370, .ref 371, (u 27)])), (360, .inr (.inl (0, w))), (362, .inr (.inl (0, sd))), (363, .inr (.inl (0, ot))), (364, .inr (.inl (0, kp))), (368, .inr (.inl (0, tk))), (369, .inr (.inl (0, od))), (370, .inr (.inl (0, be)))] h0 → j_V jP d 250 31 lv [] h (fun rv h' => rv = some (.int (m_qweak_l31 n th sst w x1 f i v2).1) ∧ ∃ (sd' ot' tk' : List Int32) (tm' : Int32), sd'.length = 602 ∧ ot'.length = 602 ∧ KN h' [(359, .inl (10, [.int (m_qweak_l31 n th sst w x1 f i v2).2.1, .ref 360, .ref 361, .ref 362, .ref 363, .ref 364, .ref 365, .ref 366, .ref 367, (u 9), .int (m_qweak_l31 n th sst w x1 f i v2).2.2, (u 11), (u 12), .int acs, (u 14), (u 15), (u 16), (u 17), (u 18), (u 19), (u 20), (u 21), .ref 368, .int tm', .ref 369, .ref 370, .ref 371, (u 27)])), (360, .inr (.inl (0, w))), (362, .inr (.inl (0, sd'))), (363, .inr (.inl (0, ot'))), (364, .inr (.inl (0, kp))), (368, .inr (.inl (0, tk'))), (369, .inr (.inl (0, od))), (370, .inr (.inl (0, be)))] h0) := by
  have hn5 := H.n5
  intro f
  induction f with
  | zero =>
    intro i v2 sd ot tk tm lv h e hsd hot L K
    refine j_V.ldL mu0_M mu0_31 rfl (i := 3) (kd := 0) (v := .int (nI i)) (pc' := 32) rfl L rfl rfl rfl ?_
    refine j_V.ldL mu0_M mu0_32 rfl (i := 0) (kd := 2) (v := .ref 359) (pc' := 33) rfl L rfl rfl rfl ?_
    refine j_V.ldL mu0_M mu0_33 rfl (i := 1) (kd := 0) (v := .int x1) (pc' := 34) rfl L rfl rfl rfl ?_
    refine j_V.one mu0_M mu0_34 (by decide) (pc' := 35) (st' := [.int 1, .int x1, .ref 359, .int (nI i)]) rfl ?_
    refine j_V.cl mu0_M mu0_35 rfl (md := 3) (mj := 176) rfl (by decide) ma1_M (As := [.ref 359, .int x1, .int 1]) (rest := [.int (nI i)]) (jk_spl3 (K.at rfl) rfl rfl rfl (Nat.le_of_ble_eq_true rfl) (Nat.le_of_ble_eq_true rfl)) (fun d => ma1_ok (u := fun j => [.int th, .ref 360, .ref 361, .ref 362, .ref 363, .ref 364, .ref 365, .ref 366, .ref 367, (u 9), .int sst, (u 11), (u 12), .int acs, (u 14), (u 15), (u 16), (u 17), (u 18), (u 19), (u 20), (u 21), .ref 368, .int tm, .ref 369, .ref 370, .ref 371, (u 27)].getD j .null) (K.fi [359, 360] rfl rfl)) ?_
    rintro r hz ⟨rfl, ez⟩
    rw [ez]
    clear ez
    show j_V jP _ 250 38 lv [.int (m_st w x1 1), .int (nI i)] h _
    refine j_V.icmp mu0_M mu0_38 (t := 107) rfl (fun c38_0 => ?_) (fun c38_0 => ?_)
    · replace c38_0 : ¬ ((nI i) < (m_st w x1 1)) := jd_ge c38_0
      refine j_V.ldL mu0_M mu0_107 rfl (i := 0) (kd := 2) (v := .ref 359) (pc' := 108) rfl L rfl rfl rfl ?_
      refine j_V.ldL mu0_M mu0_108 rfl (i := 2) (kd := 0) (v := .int v2) (pc' := 109) rfl L rfl rfl rfl ?_
      refine j_V.cl mu0_M mu0_109 rfl (md := 3) (mj := 170) rfl (by decide) mo1_M (As := [.ref 359, .int v2]) (rest := []) (jk_spl3 (K.at rfl) rfl rfl rfl (Nat.le_of_ble_eq_true rfl) (Nat.le_of_ble_eq_true rfl)) (fun d => mo1_ok (u := fun j => [.int th, .ref 360, .ref 361, .ref 362, .ref 363, .ref 364, .ref 365, .ref 366, .ref 367, (u 9), .int sst, (u 11), (u 12), .int acs, (u 14), (u 15), (u 16), (u 17), (u 18), (u 19), (u 20), (u 21), .ref 368, .int tm, .ref 369, .ref 370, .ref 371, (u 27)].getD j .null) (K.fi [359] rfl rfl)) ?_
      rintro r h9 ⟨rfl, K9⟩
      have K : KN h9 [(359, .inl (10, [.int ((m_gives th sst v2).2.1), .ref 360, .ref 361, .ref 362, .ref 363, .ref 364, .ref 365, .ref 366, .ref 367, (u 9), .int ((m_gives th sst v2).2.2), (u 11), (u 12), .int acs, (u 14), (u 15), (u 16), (u 17), (u 18), (u 19), (u 20), (u 21), .ref 368, .int tm, .ref 369, .ref 370, .ref 371, (u 27)])), (360, .inr (.inl (0, w))), (362, .inr (.inl (0, sd))), (363, .inr (.inl (0, ot))), (364, .inr (.inl (0, kp))), (368, .inr (.inl (0, tk))), (369, .inr (.inl (0, od))), (370, .inr (.inl (0, be)))] h0 := K.mg K9 rfl rfl
      clear K9
      show j_V jP _ 250 112 lv [.int ((m_gives th sst v2).1)] h9 _
      refine j_V.ri mu0_M mu0_112 ?_
      rw [show (m_qweak_l31 n th sst w x1 0 i v2) = _ from (rfl)]
      exact ⟨rfl, sd, ot, tk, tm, hsd, hot, K⟩
    · replace c38_0 : (nI i) < (m_st w x1 1) := jd_gen c38_0
      exact absurd c38_0 (lpN_z e)
  | succ f ih =>
    intro i v2 sd ot tk tm lv h e hsd hot L K
    refine j_V.ldL mu0_M mu0_31 rfl (i := 3) (kd := 0) (v := .int (nI i)) (pc' := 32) rfl L rfl rfl rfl ?_
    refine j_V.ldL mu0_M mu0_32 rfl (i := 0) (kd := 2) (v := .ref 359) (pc' := 33) rfl L rfl rfl rfl ?_
    refine j_V.ldL mu0_M mu0_33 rfl (i := 1) (kd := 0) (v := .int x1) (pc' := 34) rfl L rfl rfl rfl ?_
    refine j_V.one mu0_M mu0_34 (by decide) (pc' := 35) (st' := [.int 1, .int x1, .ref 359, .int (nI i)]) rfl ?_
    refine j_V.cl mu0_M mu0_35 rfl (md := 3) (mj := 176) rfl (by decide) ma1_M (As := [.ref 359, .int x1, .int 1]) (rest := [.int (nI i)]) (jk_spl3 (K.at rfl) rfl rfl rfl (Nat.le_of_ble_eq_true rfl) (Nat.le_of_ble_eq_true rfl)) (fun d => ma1_ok (u := fun j => [.int th, .ref 360, .ref 361, .ref 362, .ref 363, .ref 364, .ref 365, .ref 366, .ref 367, (u 9), .int sst, (u 11), (u 12), .int acs, (u 14), (u 15), (u 16), (u 17), (u 18), (u 19), (u 20), (u 21), .ref 368, .int tm, .ref 369, .ref 370, .ref 371, (u 27)].getD j .null) (K.fi [359, 360] rfl rfl)) ?_
    rintro r hz ⟨rfl, ez⟩
    rw [ez]
    clear ez
    show j_V jP _ 250 38 lv [.int (m_st w x1 1), .int (nI i)] h _
    refine j_V.icmp mu0_M mu0_38 (t := 107) rfl (fun c38_0 => ?_) (fun c38_0 => ?_)
    · replace c38_0 : ¬ ((nI i) < (m_st w x1 1)) := jd_ge c38_0
      exact absurd (lpN_s e) c38_0
    · replace c38_0 : (nI i) < (m_st w x1 1) := jd_gen c38_0
      refine j_V.ldL mu0_M mu0_41 rfl (i := 0) (kd := 2) (v := .ref 359) (pc' := 42) rfl L rfl rfl rfl ?_
      refine j_V.ldL mu0_M mu0_42 rfl (i := 1) (kd := 0) (v := .int x1) (pc' := 43) rfl L rfl rfl rfl ?_
      refine j_V.one mu0_M mu0_43 (by decide) (pc' := 44) (st' := [.int 5, .int x1, .ref 359]) rfl ?_
      refine j_V.ldL mu0_M mu0_44 rfl (i := 3) (kd := 0) (v := .int (nI i)) (pc' := 45) rfl L rfl rfl rfl ?_
      refine j_V.one mu0_M mu0_45 (by decide) (pc' := 46) (st' := [.int (5 + (nI i)), .int x1, .ref 359]) rfl ?_
      refine j_V.cl mu0_M mu0_46 rfl (md := 3) (mj := 176) rfl (by decide) ma1_M (As := [.ref 359, .int x1, .int (5 + (nI i))]) (rest := []) (jk_spl3 (K.at rfl) rfl rfl rfl (Nat.le_of_ble_eq_true rfl) (Nat.le_of_ble_eq_true rfl)) (fun d => ma1_ok (u := fun j => [.int th, .ref 360, .ref 361, .ref 362, .ref 363, .ref 364, .ref 365, .ref 366, .ref 367, (u 9), .int sst, (u 11), (u 12), .int acs, (u 14), (u 15), (u 16), (u 17), (u 18), (u 19), (u 20), (u 21), .ref 368, .int tm, .ref 369, .ref 370, .ref 371, (u 27)].getD j .null) (K.fi [359, 360] rfl rfl)) ?_
      rintro r hz ⟨rfl, ez⟩
      rw [ez]
      clear ez
      show j_V jP _ 250 49 lv [.int (m_st w x1 (5 + (nI i)))] h _
      refine j_V.one mu0_M mu0_49 (by decide) (pc' := 50) (st' := [.int 1, .int (m_st w x1 (5 + (nI i)))]) rfl ?_
      refine j_V.icmp mu0_M mu0_50 (t := 56) rfl (fun c50_0 => ?_) (fun c50_0 => ?_)
      · replace c50_0 : ¬ ((m_st w x1 (5 + (nI i))) = 1) := jd_ne c50_0
        refine j_V.ldL mu0_M mu0_56 rfl (i := 0) (kd := 2) (v := .ref 359) (pc' := 57) rfl L rfl rfl rfl ?_
        refine j_V.getK mu0_M mu0_57 (ci := 10) (j := 1) rfl K rfl rfl ?_
        refine j_V.one mu0_M mu0_60 (by decide) (pc' := 62) (st' := [.int 8, .ref 360]) rfl ?_
        refine j_V.ldL mu0_M mu0_62 rfl (i := 1) (kd := 0) (v := .int x1) (pc' := 63) rfl L rfl rfl rfl ?_
        refine j_V.one mu0_M mu0_63 (by decide) (pc' := 64) (st' := [.int (8 * x1), .ref 360]) rfl ?_
        refine j_V.one mu0_M mu0_64 (by decide) (pc' := 65) (st' := [.int 5, .int (8 * x1), .ref 360]) rfl ?_
        refine j_V.one mu0_M mu0_65 (by decide) (pc' := 66) (st' := [.int ((8 * x1) + 5), .ref 360]) rfl ?_
        refine j_V.ldL mu0_M mu0_66 rfl (i := 3) (kd := 0) (v := .int (nI i)) (pc' := 67) rfl L rfl rfl rfl ?_
        refine j_V.one mu0_M mu0_67 (by decide) (pc' := 68) (st' := [.int (((8 * x1) + 5) + (nI i)), .ref 360]) rfl ?_
        refine j_V.one mu0_M mu0_68 (by decide) (pc' := 69) (st' := [.int 1, .int (((8 * x1) + 5) + (nI i)), .ref 360]) rfl ?_
        refine j_V.isA mu0_M mu0_69 (k' := [(359, .inl (10, [.int th, .ref 360, .ref 361, .ref 362, .ref 363, .ref 364, .ref 365, .ref 366, .ref 367, (u 9), .int sst, (u 11), (u 12), .int acs, (u 14), (u 15), (u 16), (u 17), (u 18), (u 19), (u 20), (u 21), .ref 368, .int tm, .ref 369, .ref 370, .ref 371, (u 27)])), (360, .inr (.inl (0, (sA w (((8 * x1) + 5) + (nI i)) 1)))), (362, .inr (.inl (0, sd))), (363, .inr (.inl (0, ot))), (364, .inr (.inl (0, kp))), (368, .inr (.inl (0, tk))), (369, .inr (.inl (0, od))), (370, .inr (.inl (0, be)))]) K rfl rfl (fun h K => ?_)
        refine j_V.ldL mu0_M mu0_70 rfl (i := 2) (kd := 0) (v := .int v2) (pc' := 71) rfl L rfl rfl rfl ?_
        refine j_V.ldL mu0_M mu0_71 rfl (i := 0) (kd := 2) (v := .ref 359) (pc' := 72) rfl L rfl rfl rfl ?_
        refine j_V.cl mu0_M mu0_72 rfl (md := 3) (mj := 219) rfl (by decide) mh1_M (As := [.ref 359]) (rest := [.int v2]) (jk_spl3 (K.at rfl) rfl rfl rfl (Nat.le_of_ble_eq_true rfl) (Nat.le_of_ble_eq_true rfl)) (fun d => mh1_ok (u := fun j => [.int th, .ref 360, .ref 361, .ref 362, .ref 363, .ref 364, .ref 365, .ref 366, .ref 367, (u 9), .int sst, (u 11), (u 12), .int acs, (u 14), (u 15), (u 16), (u 17), (u 18), (u 19), (u 20), (u 21), .ref 368, .int tm, .ref 369, .ref 370, .ref 371, (u 27)].getD j .null) (H2.C _ _ i hI hs (lpN_s e)) (K.fi [359, 360, 368] rfl rfl)) ?_
        rintro r h9 ⟨rfl, K9⟩
        have K : KN h9 [(359, .inl (10, [.int th, .ref 360, .ref 361, .ref 362, .ref 363, .ref 364, .ref 365, .ref 366, .ref 367, (u 9), .int sst, (u 11), (u 12), .int acs, (u 14), (u 15), (u 16), (u 17), (u 18), (u 19), (u 20), (u 21), .ref 368, .int (m_sf (sA w (((8 * x1) + 5) + (nI i)) 1) n tk).2.2, .ref 369, .ref 370, .ref 371, (u 27)])), (360, .inr (.inl (0, (sA w (((8 * x1) + 5) + (nI i)) 1)))), (362, .inr (.inl (0, sd))), (363, .inr (.inl (0, ot))), (364, .inr (.inl (0, kp))), (368, .inr (.inl (0, (m_sf (sA w (((8 * x1) + 5) + (nI i)) 1) n tk).2.1))), (369, .inr (.inl (0, od))), (370, .inr (.inl (0, be)))] h0 := K.mg K9 rfl rfl
        clear K9
        show j_V jP _ 250 75 lv [.int (m_isSafe (sA w (((8 * x1) + 5) + (nI i)) 1) n), .int v2] h9 _
        refine j_V.ifc mu0_M mu0_75 (t := 82) rfl (fun c75_1 => ?_) (fun c75_1 => ?_)
        · replace c75_1 : (m_isSafe (sA w (((8 * x1) + 5) + (nI i)) 1) n) = 0 := jd_eq c75_1
          refine j_V.one mu0_M mu0_82 (by decide) (pc' := 83) (st' := [.int 1, .int v2]) rfl ?_
          refine j_V.ldL mu0_M mu0_83 rfl (i := 3) (kd := 0) (v := .int (nI i)) (pc' := 84) rfl L rfl rfl rfl ?_
          refine j_V.one mu0_M mu0_84 (by decide) (pc' := 85) (st' := [.int (1 <<< ((nI i) &&& 31)), .int v2]) rfl ?_
          refine j_V.one mu0_M mu0_85 (by decide) (pc' := 86) (st' := [.int (v2 ||| (1 <<< ((nI i) &&& 31)))]) rfl ?_
          refine j_V.stL mu0_M mu0_86 rfl (i := 2) (kd := 0) (kl' := [(0, .ref 359), (1, .int x1), (2, .int (v2 ||| (1 <<< ((nI i) &&& 31)))), (3, .int (nI i))]) (pc' := 87) rfl L rfl (by decide) rfl rfl rfl (fun lv L => ?_)
          refine j_V.ldL mu0_M mu0_87 rfl (i := 0) (kd := 2) (v := .ref 359) (pc' := 88) rfl L rfl rfl rfl ?_
          refine j_V.getK mu0_M mu0_88 (ci := 10) (j := 1) rfl K rfl rfl ?_
          refine j_V.one mu0_M mu0_91 (by decide) (pc' := 93) (st' := [.int 8, .ref 360]) rfl ?_
          refine j_V.ldL mu0_M mu0_93 rfl (i := 1) (kd := 0) (v := .int x1) (pc' := 94) rfl L rfl rfl rfl ?_
          refine j_V.one mu0_M mu0_94 (by decide) (pc' := 95) (st' := [.int (8 * x1), .ref 360]) rfl ?_
          refine j_V.one mu0_M mu0_95 (by decide) (pc' := 96) (st' := [.int 5, .int (8 * x1), .ref 360]) rfl ?_
          refine j_V.one mu0_M mu0_96 (by decide) (pc' := 97) (st' := [.int ((8 * x1) + 5), .ref 360]) rfl ?_
          refine j_V.ldL mu0_M mu0_97 rfl (i := 3) (kd := 0) (v := .int (nI i)) (pc' := 98) rfl L rfl rfl rfl ?_
          refine j_V.one mu0_M mu0_98 (by decide) (pc' := 99) (st' := [.int (((8 * x1) + 5) + (nI i)), .ref 360]) rfl ?_
          refine j_V.one mu0_M mu0_99 (by decide) (pc' := 100) (st' := [.int 0, .int (((8 * x1) + 5) + (nI i)), .ref 360]) rfl ?_
          refine j_V.isA mu0_M mu0_100 (k' := [(359, .inl (10, [.int th, .ref 360, .ref 361, .ref 362, .ref 363, .ref 364, .ref 365, .ref 366, .ref 367, (u 9), .int sst, (u 11), (u 12), .int acs, (u 14), (u 15), (u 16), (u 17), (u 18), (u 19), (u 20), (u 21), .ref 368, .int (m_sf (sA w (((8 * x1) + 5) + (nI i)) 1) n tk).2.2, .ref 369, .ref 370, .ref 371, (u 27)])), (360, .inr (.inl (0, (sA (sA w (((8 * x1) + 5) + (nI i)) 1) (((8 * x1) + 5) + (nI i)) 0)))), (362, .inr (.inl (0, sd))), (363, .inr (.inl (0, ot))), (364, .inr (.inl (0, kp))), (368, .inr (.inl (0, (m_sf (sA w (((8 * x1) + 5) + (nI i)) 1) n tk).2.1))), (369, .inr (.inl (0, od))), (370, .inr (.inl (0, be)))]) K rfl rfl (fun h K => ?_)
          rw [H2.Z _ _ i hI hs (lpN_s e) c50_0] at K
          refine j_V.inL mu0_M mu0_101 (i := 3) (kl' := [(0, .ref 359), (1, .int x1), (2, .int (v2 ||| (1 <<< ((nI i) &&& 31)))), (3, .int ((nI i) + 1))]) (pc' := 104) L rfl rfl rfl rfl (fun lv L => ?_)
          refine j_V.gto mu0_M mu0_104 (t := 31) rfl ?_
          rw [nI_one] at L
          rw [show (m_qweak_l31 n th sst w x1 (f + 1) i v2) = _ from ((if_neg c50_0).trans ((if_pos c75_1).trans (rfl)))]
          exact ih (i + 1) _ (by rw [← nI_one]; exact lpN_n e) hsd hot L K
        · replace c75_1 : ¬ ((m_isSafe (sA w (((8 * x1) + 5) + (nI i)) 1) n) = 0) := jd_eqn c75_1
          refine j_V.one mu0_M mu0_78 (by decide) (pc' := 79) (st' := [.int 0, .int v2]) rfl ?_
          refine j_V.gto mu0_M mu0_79 (t := 85) rfl ?_
          refine j_V.one mu0_M mu0_85 (by decide) (pc' := 86) (st' := [.int (v2 ||| 0)]) rfl ?_
          refine j_V.stL mu0_M mu0_86 rfl (i := 2) (kd := 0) (kl' := [(0, .ref 359), (1, .int x1), (2, .int (v2 ||| 0)), (3, .int (nI i))]) (pc' := 87) rfl L rfl (by decide) rfl rfl rfl (fun lv L => ?_)
          refine j_V.ldL mu0_M mu0_87 rfl (i := 0) (kd := 2) (v := .ref 359) (pc' := 88) rfl L rfl rfl rfl ?_
          refine j_V.getK mu0_M mu0_88 (ci := 10) (j := 1) rfl K rfl rfl ?_
          refine j_V.one mu0_M mu0_91 (by decide) (pc' := 93) (st' := [.int 8, .ref 360]) rfl ?_
          refine j_V.ldL mu0_M mu0_93 rfl (i := 1) (kd := 0) (v := .int x1) (pc' := 94) rfl L rfl rfl rfl ?_
          refine j_V.one mu0_M mu0_94 (by decide) (pc' := 95) (st' := [.int (8 * x1), .ref 360]) rfl ?_
          refine j_V.one mu0_M mu0_95 (by decide) (pc' := 96) (st' := [.int 5, .int (8 * x1), .ref 360]) rfl ?_
          refine j_V.one mu0_M mu0_96 (by decide) (pc' := 97) (st' := [.int ((8 * x1) + 5), .ref 360]) rfl ?_
          refine j_V.ldL mu0_M mu0_97 rfl (i := 3) (kd := 0) (v := .int (nI i)) (pc' := 98) rfl L rfl rfl rfl ?_
          refine j_V.one mu0_M mu0_98 (by decide) (pc' := 99) (st' := [.int (((8 * x1) + 5) + (nI i)), .ref 360]) rfl ?_
          refine j_V.one mu0_M mu0_99 (by decide) (pc' := 100) (st' := [.int 0, .int (((8 * x1) + 5) + (nI i)), .ref 360]) rfl ?_
          refine j_V.isA mu0_M mu0_100 (k' := [(359, .inl (10, [.int th, .ref 360, .ref 361, .ref 362, .ref 363, .ref 364, .ref 365, .ref 366, .ref 367, (u 9), .int sst, (u 11), (u 12), .int acs, (u 14), (u 15), (u 16), (u 17), (u 18), (u 19), (u 20), (u 21), .ref 368, .int (m_sf (sA w (((8 * x1) + 5) + (nI i)) 1) n tk).2.2, .ref 369, .ref 370, .ref 371, (u 27)])), (360, .inr (.inl (0, (sA (sA w (((8 * x1) + 5) + (nI i)) 1) (((8 * x1) + 5) + (nI i)) 0)))), (362, .inr (.inl (0, sd))), (363, .inr (.inl (0, ot))), (364, .inr (.inl (0, kp))), (368, .inr (.inl (0, (m_sf (sA w (((8 * x1) + 5) + (nI i)) 1) n tk).2.1))), (369, .inr (.inl (0, od))), (370, .inr (.inl (0, be)))]) K rfl rfl (fun h K => ?_)
          rw [H2.Z _ _ i hI hs (lpN_s e) c50_0] at K
          refine j_V.inL mu0_M mu0_101 (i := 3) (kl' := [(0, .ref 359), (1, .int x1), (2, .int (v2 ||| 0)), (3, .int ((nI i) + 1))]) (pc' := 104) L rfl rfl rfl rfl (fun lv L => ?_)
          refine j_V.gto mu0_M mu0_104 (t := 31) rfl ?_
          rw [nI_one] at L
          rw [show (m_qweak_l31 n th sst w x1 (f + 1) i v2) = _ from ((if_neg c50_0).trans ((if_neg c75_1).trans (rfl)))]
          exact ih (i + 1) _ (by rw [← nI_one]; exact lpN_n e) hsd hot L K
      · replace c50_0 : (m_st w x1 (5 + (nI i))) = 1 := jd_nen c50_0
        refine j_V.gto mu0_M mu0_53 (t := 101) rfl ?_
        refine j_V.inL mu0_M mu0_101 (i := 3) (kl' := [(0, .ref 359), (1, .int x1), (2, .int v2), (3, .int ((nI i) + 1))]) (pc' := 104) L rfl rfl rfl rfl (fun lv L => ?_)
        refine j_V.gto mu0_M mu0_104 (t := 31) rfl ?_
        rw [nI_one] at L
        rw [show (m_qweak_l31 n th sst w x1 (f + 1) i v2) = _ from ((if_pos c50_0).trans (rfl))]
        exact ih (i + 1) _ (by rw [← nI_one]; exact lpN_n e) hsd hot L K
def m_qweak (n : Nat) (th : Int32) (sst : Int32) (w : List Int32) (x1 : Int32) : Int32 × Int32 × Int32 := (if (m_isStation w x1) = 0 then (((m_refuse th sst 2).1), ((m_refuse th sst 2).2.1), ((m_refuse th sst 2).2.2)) else (if (m_isSafe w n) = 0 then (((m_refuse th sst 5).1), ((m_refuse th sst 5).2.1), ((m_refuse th sst 5).2.2)) else (m_qweak_l31 n th sst w x1 (lpN (m_st w x1 1) (nI 0)) 0 0)))
set_option maxRecDepth 1000000 in
theorem mu0_ok {u : Nat → Value} {n d : Nat} {h h0 : J_H} {th sst acs tm x1 : Int32} {w sd ot kp tk od be : List Int32} {I J : List Int32 → Prop} (H : m_Inv n I J) (H2 : m_Iv2 n I) (hI : I w) (hsd : sd.length = 602) (hot : ot.length = 602) (K : KN h [(359, .inl (10, [.int th, .ref 360, .ref 361, .ref 362, .ref 363, .ref 364, .ref 365, .ref 366, .ref 367, (u 9), .int sst, (u 11), (u 12), .int acs, (u 14), (u 15), (u 16), (u 17), (u 18), (u 19), (u 20), (u 21), .ref 368, .int tm, .ref 369, .ref 370, .ref 371, (u 27)])), (360, .inr (.inl (0, w))), (362, .inr (.inl (0, sd))), (363, .inr (.inl (0, ot))), (364, .inr (.inl (0, kp))), (368, .inr (.inl (0, tk))), (369, .inr (.inl (0, od))), (370, .inr (.inl (0, be)))] h0) : j_V jP d 250 0 (lv_args 0 [.ref 359, .int x1]) [] h (fun rv h' => rv = some (.int (m_qweak n th sst w x1).1) ∧ ∃ (sd' ot' tk' : List Int32) (tm' : Int32), sd'.length = 602 ∧ ot'.length = 602 ∧ KN h' [(359, .inl (10, [.int (m_qweak n th sst w x1).2.1, .ref 360, .ref 361, .ref 362, .ref 363, .ref 364, .ref 365, .ref 366, .ref 367, (u 9), .int (m_qweak n th sst w x1).2.2, (u 11), (u 12), .int acs, (u 14), (u 15), (u 16), (u 17), (u 18), (u 19), (u 20), (u 21), .ref 368, .int tm', .ref 369, .ref 370, .ref 371, (u 27)])), (360, .inr (.inl (0, w))), (362, .inr (.inl (0, sd'))), (363, .inr (.inl (0, ot'))), (364, .inr (.inl (0, kp))), (368, .inr (.inl (0, tk'))), (369, .inr (.inl (0, od))), (370, .inr (.inl (0, be)))] h0) := by
  show j_V jP d 250 0 [(0, .ref 359), (1, .int x1)] [] h _
  obtain ⟨lv, elv, L⟩ : ∃ lv, lv = [(0, .ref 359), (1, .int x1)] ∧ LK lv [(0, .ref 359), (1, .int x1)] := ⟨_, rfl, LK.rf⟩
  rw [← elv]
  clear elv
  refine j_V.ldL mu0_M mu0_0 rfl (i := 0) (kd := 2) (v := .ref 359) (pc' := 1) rfl L rfl rfl rfl ?_
  refine j_V.ldL mu0_M mu0_1 rfl (i := 1) (kd := 0) (v := .int x1) (pc' := 2) rfl L rfl rfl rfl ?_
  refine j_V.cl mu0_M mu0_2 rfl (md := 3) (mj := 172) rfl (by decide) mc9_M (As := [.ref 359, .int x1]) (rest := []) (jk_spl3 (K.at rfl) rfl rfl rfl (Nat.le_of_ble_eq_true rfl) (Nat.le_of_ble_eq_true rfl)) (fun d => mc9_ok (u := fun j => [.int th, .ref 360, .ref 361, .ref 362, .ref 363, .ref 364, .ref 365, .ref 366, .ref 367, (u 9), .int sst, (u 11), (u 12), .int acs, (u 14), (u 15), (u 16), (u 17), (u 18), (u 19), (u 20), (u 21), .ref 368, .int tm, .ref 369, .ref 370, .ref 371, (u 27)].getD j .null) (K.fi [359, 360] rfl rfl)) ?_
  rintro r hz ⟨rfl, ez⟩
  rw [ez]
  clear ez
  show j_V jP _ 250 5 lv [.int (m_isStation w x1)] h _
  refine j_V.ifc mu0_M mu0_5 (t := 14) rfl (fun c5_0 => ?_) (fun c5_0 => ?_)
  · replace c5_0 : ¬ ((m_isStation w x1) = 0) := jd_ne c5_0
    refine j_V.ldL mu0_M mu0_14 rfl (i := 0) (kd := 2) (v := .ref 359) (pc' := 15) rfl L rfl rfl rfl ?_
    refine j_V.cl mu0_M mu0_15 rfl (md := 3) (mj := 219) rfl (by decide) mh1_M (As := [.ref 359]) (rest := []) (jk_spl3 (K.at rfl) rfl rfl rfl (Nat.le_of_ble_eq_true rfl) (Nat.le_of_ble_eq_true rfl)) (fun d => mh1_ok (u := fun j => [.int th, .ref 360, .ref 361, .ref 362, .ref 363, .ref 364, .ref 365, .ref 366, .ref 367, (u 9), .int sst, (u 11), (u 12), .int acs, (u 14), (u 15), (u 16), (u 17), (u 18), (u 19), (u 20), (u 21), .ref 368, .int tm, .ref 369, .ref 370, .ref 371, (u 27)].getD j .null) (H.F _ hI) (K.fi [359, 360, 368] rfl rfl)) ?_
    rintro r h9 ⟨rfl, K9⟩
    have K : KN h9 [(359, .inl (10, [.int th, .ref 360, .ref 361, .ref 362, .ref 363, .ref 364, .ref 365, .ref 366, .ref 367, (u 9), .int sst, (u 11), (u 12), .int acs, (u 14), (u 15), (u 16), (u 17), (u 18), (u 19), (u 20), (u 21), .ref 368, .int (m_sf w n tk).2.2, .ref 369, .ref 370, .ref 371, (u 27)])), (360, .inr (.inl (0, w))), (362, .inr (.inl (0, sd))), (363, .inr (.inl (0, ot))), (364, .inr (.inl (0, kp))), (368, .inr (.inl (0, (m_sf w n tk).2.1))), (369, .inr (.inl (0, od))), (370, .inr (.inl (0, be)))] h0 := K.mg K9 rfl rfl
    clear K9
    show j_V jP _ 250 18 lv [.int (m_isSafe w n)] h9 _
    refine j_V.ifc mu0_M mu0_18 (t := 27) rfl (fun c18_1 => ?_) (fun c18_1 => ?_)
    · replace c18_1 : ¬ ((m_isSafe w n) = 0) := jd_ne c18_1
      refine j_V.one mu0_M mu0_27 (by decide) (pc' := 28) (st' := [.int 0]) rfl ?_
      refine j_V.stL mu0_M mu0_28 rfl (i := 2) (kd := 0) (kl' := [(0, .ref 359), (1, .int x1), (2, .int 0)]) (pc' := 29) rfl L rfl (by decide) rfl rfl rfl (fun lv L => ?_)
      refine j_V.one mu0_M mu0_29 (by decide) (pc' := 30) (st' := [.int 0]) rfl ?_
      refine j_V.stL mu0_M mu0_30 rfl (i := 3) (kd := 0) (kl' := [(0, .ref 359), (1, .int x1), (2, .int 0), (3, .int 0)]) (pc' := 31) rfl L rfl (by decide) rfl rfl rfl (fun lv L => ?_)
      have L : LK lv [(0, .ref 359), (1, .int x1), (2, .int 0), (3, .int (nI 0))] := L
      rw [show (m_qweak n th sst w x1) = (m_qweak_l31 n th sst w x1 (lpN (m_st w x1 1) (nI 0)) 0 0) from ((if_neg c5_0).trans ((if_neg c18_1).trans (rfl)))]
      exact mu0_ok_l31 H H2 hI c5_0 (lpN (m_st w x1 1) (nI 0)) 0 0 rfl hsd hot L K
    · replace c18_1 : (m_isSafe w n) = 0 := jd_nen c18_1
      refine j_V.ldL mu0_M mu0_21 rfl (i := 0) (kd := 2) (v := .ref 359) (pc' := 22) rfl L rfl rfl rfl ?_
      refine j_V.one mu0_M mu0_22 (by decide) (pc' := 23) (st' := [.int 5, .ref 359]) rfl ?_
      refine j_V.cl mu0_M mu0_23 rfl (md := 3) (mj := 169) rfl (by decide) mo0_M (As := [.ref 359, .int 5]) (rest := []) (jk_spl3 (K.at rfl) rfl rfl rfl (Nat.le_of_ble_eq_true rfl) (Nat.le_of_ble_eq_true rfl)) (fun d => mo0_ok (u := fun j => [.int th, .ref 360, .ref 361, .ref 362, .ref 363, .ref 364, .ref 365, .ref 366, .ref 367, (u 9), .int sst, (u 11), (u 12), .int acs, (u 14), (u 15), (u 16), (u 17), (u 18), (u 19), (u 20), (u 21), .ref 368, .int (m_sf w n tk).2.2, .ref 369, .ref 370, .ref 371, (u 27)].getD j .null) (K.fi [359] rfl rfl)) ?_
      rintro r h9 ⟨rfl, K9⟩
      have K : KN h9 [(359, .inl (10, [.int ((m_refuse th sst 5).2.1), .ref 360, .ref 361, .ref 362, .ref 363, .ref 364, .ref 365, .ref 366, .ref 367, (u 9), .int ((m_refuse th sst 5).2.2), (u 11), (u 12), .int acs, (u 14), (u 15), (u 16), (u 17), (u 18), (u 19), (u 20), (u 21), .ref 368, .int (m_sf w n tk).2.2, .ref 369, .ref 370, .ref 371, (u 27)])), (360, .inr (.inl (0, w))), (362, .inr (.inl (0, sd))), (363, .inr (.inl (0, ot))), (364, .inr (.inl (0, kp))), (368, .inr (.inl (0, (m_sf w n tk).2.1))), (369, .inr (.inl (0, od))), (370, .inr (.inl (0, be)))] h0 := K.mg K9 rfl rfl
      clear K9
      show j_V jP _ 250 26 lv [.int ((m_refuse th sst 5).1)] h9 _
      refine j_V.ri mu0_M mu0_26 ?_
      rw [show (m_qweak n th sst w x1) = _ from ((if_neg c5_0).trans ((if_pos c18_1).trans (rfl)))]
      exact ⟨rfl, sd, ot, (m_sf w n tk).2.1, (m_sf w n tk).2.2, hsd, hot, K⟩
  · replace c5_0 : (m_isStation w x1) = 0 := jd_nen c5_0
    refine j_V.ldL mu0_M mu0_8 rfl (i := 0) (kd := 2) (v := .ref 359) (pc' := 9) rfl L rfl rfl rfl ?_
    refine j_V.one mu0_M mu0_9 (by decide) (pc' := 10) (st' := [.int 2, .ref 359]) rfl ?_
    refine j_V.cl mu0_M mu0_10 rfl (md := 3) (mj := 169) rfl (by decide) mo0_M (As := [.ref 359, .int 2]) (rest := []) (jk_spl3 (K.at rfl) rfl rfl rfl (Nat.le_of_ble_eq_true rfl) (Nat.le_of_ble_eq_true rfl)) (fun d => mo0_ok (u := fun j => [.int th, .ref 360, .ref 361, .ref 362, .ref 363, .ref 364, .ref 365, .ref 366, .ref 367, (u 9), .int sst, (u 11), (u 12), .int acs, (u 14), (u 15), (u 16), (u 17), (u 18), (u 19), (u 20), (u 21), .ref 368, .int tm, .ref 369, .ref 370, .ref 371, (u 27)].getD j .null) (K.fi [359] rfl rfl)) ?_
    rintro r h9 ⟨rfl, K9⟩
    have K : KN h9 [(359, .inl (10, [.int ((m_refuse th sst 2).2.1), .ref 360, .ref 361, .ref 362, .ref 363, .ref 364, .ref 365, .ref 366, .ref 367, (u 9), .int ((m_refuse th sst 2).2.2), (u 11), (u 12), .int acs, (u 14), (u 15), (u 16), (u 17), (u 18), (u 19), (u 20), (u 21), .ref 368, .int tm, .ref 369, .ref 370, .ref 371, (u 27)])), (360, .inr (.inl (0, w))), (362, .inr (.inl (0, sd))), (363, .inr (.inl (0, ot))), (364, .inr (.inl (0, kp))), (368, .inr (.inl (0, tk))), (369, .inr (.inl (0, od))), (370, .inr (.inl (0, be)))] h0 := K.mg K9 rfl rfl
    clear K9
    show j_V jP _ 250 13 lv [.int ((m_refuse th sst 2).1)] h9 _
    refine j_V.ri mu0_M mu0_13 ?_
    rw [show (m_qweak n th sst w x1) = _ from ((if_pos c5_0).trans (rfl))]
    exact ⟨rfl, sd, ot, tk, tm, hsd, hot, K⟩
set_option maxRecDepth 100000 in
theorem mu1_M : j_meth jP 277 = some (yX10_band, cX10_band, 7, (some .int), 2, false, 10) := rfl
set_option maxRecDepth 100000 in
theorem mu1_0 : j_code jP 277 0 = some (.aload_n 0) := rfl
set_option maxRecDepth 100000 in
theorem mu1_1 : j_code jP 277 1 = some (.iload_n 1) := rfl
set_option maxRecDepth 100000 in
theorem mu1_2 : j_code jP 277 2 = some (.invokevirtual 310) := rfl
set_option maxRecDepth 100000 in
theorem mu1_5 : j_code jP 277 5 = some (.ifCond .ne 9) := rfl
set_option maxRecDepth 100000 in
theorem mu1_8 : j_code jP 277 8 = some (.aload_n 0) := rfl
set_option maxRecDepth 100000 in
theorem mu1_9 : j_code jP 277 9 = some (.iconst 2) := rfl
set_option maxRecDepth 100000 in
theorem mu1_10 : j_code jP 277 10 = some (.invokevirtual 179) := rfl
set_option maxRecDepth 100000 in
theorem mu1_13 : j_code jP 277 13 = some (.ireturn) := rfl
set_option maxRecDepth 100000 in
theorem mu1_14 : j_code jP 277 14 = some (.aload_n 0) := rfl
set_option maxRecDepth 100000 in
theorem mu1_15 : j_code jP 277 15 = some (.iload_n 1) := rfl
set_option maxRecDepth 100000 in
theorem mu1_16 : j_code jP 277 16 = some (.bipush 6) := rfl
set_option maxRecDepth 100000 in
theorem mu1_18 : j_code jP 277 18 = some (.invokevirtual 198) := rfl
set_option maxRecDepth 100000 in
theorem mu1_21 : j_code jP 277 21 = some (.ifCond .eq 9) := rfl
set_option maxRecDepth 100000 in
theorem mu1_24 : j_code jP 277 24 = some (.aload_n 0) := rfl
set_option maxRecDepth 100000 in
theorem mu1_25 : j_code jP 277 25 = some (.iconst 5) := rfl
set_option maxRecDepth 100000 in
theorem mu1_26 : j_code jP 277 26 = some (.invokevirtual 179) := rfl
set_option maxRecDepth 100000 in
theorem mu1_29 : j_code jP 277 29 = some (.ireturn) := rfl
set_option maxRecDepth 100000 in
theorem mu1_30 : j_code jP 277 30 = some (.iconst (-1)) := rfl
set_option maxRecDepth 100000 in
theorem mu1_31 : j_code jP 277 31 = some (.istore_n 3) := rfl
set_option maxRecDepth 100000 in
theorem mu1_32 : j_code jP 277 32 = some (.ldc_w 340) := rfl
set_option maxRecDepth 100000 in
theorem mu1_35 : j_code jP 277 35 = some (.istore 4) := rfl
set_option maxRecDepth 100000 in
theorem mu1_37 : j_code jP 277 37 = some (.aload_n 0) := rfl
set_option maxRecDepth 100000 in
theorem mu1_38 : j_code jP 277 38 = some (.getfield 7) := rfl
set_option maxRecDepth 100000 in
theorem mu1_41 : j_code jP 277 41 = some (.aload_n 0) := rfl
set_option maxRecDepth 100000 in
theorem mu1_42 : j_code jP 277 42 = some (.getfield 16) := rfl
set_option maxRecDepth 100000 in
theorem mu1_45 : j_code jP 277 45 = some (.invokestatic 188) := rfl
set_option maxRecDepth 100000 in
theorem mu1_48 : j_code jP 277 48 = some (.iconst 0) := rfl
set_option maxRecDepth 100000 in
theorem mu1_49 : j_code jP 277 49 = some (.istore 5) := rfl
set_option maxRecDepth 100000 in
theorem mu1_51 : j_code jP 277 51 = some (.iload 5) := rfl
set_option maxRecDepth 100000 in
theorem mu1_53 : j_code jP 277 53 = some (.bipush 60) := rfl
set_option maxRecDepth 100000 in
theorem mu1_55 : j_code jP 277 55 = some (.if_icmp .gt 57) := rfl
set_option maxRecDepth 100000 in
theorem mu1_58 : j_code jP 277 58 = some (.aload_n 0) := rfl
set_option maxRecDepth 100000 in
theorem mu1_59 : j_code jP 277 59 = some (.getfield 16) := rfl
set_option maxRecDepth 100000 in
theorem mu1_62 : j_code jP 277 62 = some (.aload_n 0) := rfl
set_option maxRecDepth 100000 in
theorem mu1_63 : j_code jP 277 63 = some (.getfield 7) := rfl
set_option maxRecDepth 100000 in
theorem mu1_66 : j_code jP 277 66 = some (.invokestatic 188) := rfl
set_option maxRecDepth 100000 in
theorem mu1_69 : j_code jP 277 69 = some (.aload_n 0) := rfl
set_option maxRecDepth 100000 in
theorem mu1_70 : j_code jP 277 70 = some (.iload_n 1) := rfl
set_option maxRecDepth 100000 in
theorem mu1_71 : j_code jP 277 71 = some (.iconst 3) := rfl
set_option maxRecDepth 100000 in
theorem mu1_72 : j_code jP 277 72 = some (.iload 5) := rfl
set_option maxRecDepth 100000 in
theorem mu1_74 : j_code jP 277 74 = some (.invokevirtual 238) := rfl
set_option maxRecDepth 100000 in
theorem mu1_77 : j_code jP 277 77 = some (.aload_n 0) := rfl
set_option maxRecDepth 100000 in
theorem mu1_78 : j_code jP 277 78 = some (.invokevirtual 341) := rfl
set_option maxRecDepth 100000 in
theorem mu1_81 : j_code jP 277 81 = some (.istore 6) := rfl
set_option maxRecDepth 100000 in
theorem mu1_83 : j_code jP 277 83 = some (.iload 6) := rfl
set_option maxRecDepth 100000 in
theorem mu1_85 : j_code jP 277 85 = some (.iload 4) := rfl
set_option maxRecDepth 100000 in
theorem mu1_87 : j_code jP 277 87 = some (.if_icmp .ge 8) := rfl
set_option maxRecDepth 100000 in
theorem mu1_90 : j_code jP 277 90 = some (.iload 5) := rfl
set_option maxRecDepth 100000 in
theorem mu1_92 : j_code jP 277 92 = some (.goto 4) := rfl
set_option maxRecDepth 100000 in
theorem mu1_95 : j_code jP 277 95 = some (.iload_n 3) := rfl
set_option maxRecDepth 100000 in
theorem mu1_96 : j_code jP 277 96 = some (.istore_n 3) := rfl
set_option maxRecDepth 100000 in
theorem mu1_97 : j_code jP 277 97 = some (.iload 4) := rfl
set_option maxRecDepth 100000 in
theorem mu1_99 : j_code jP 277 99 = some (.iload 6) := rfl
set_option maxRecDepth 100000 in
theorem mu1_101 : j_code jP 277 101 = some (.invokestatic 161) := rfl
set_option maxRecDepth 100000 in
theorem mu1_104 : j_code jP 277 104 = some (.istore 4) := rfl
set_option maxRecDepth 100000 in
theorem mu1_106 : j_code jP 277 106 = some (.iinc 5 1) := rfl
set_option maxRecDepth 100000 in
theorem mu1_109 : j_code jP 277 109 = some (.goto (-58)) := rfl
set_option maxRecDepth 100000 in
theorem mu1_112 : j_code jP 277 112 = some (.aload_n 0) := rfl
set_option maxRecDepth 100000 in
theorem mu1_113 : j_code jP 277 113 = some (.iload_n 2) := rfl
set_option maxRecDepth 100000 in
theorem mu1_114 : j_code jP 277 114 = some (.ifCond .eq 8) := rfl
set_option maxRecDepth 100000 in
theorem mu1_117 : j_code jP 277 117 = some (.iload 4) := rfl
set_option maxRecDepth 100000 in
theorem mu1_119 : j_code jP 277 119 = some (.goto 4) := rfl
set_option maxRecDepth 100000 in
theorem mu1_122 : j_code jP 277 122 = some (.iload_n 3) := rfl
set_option maxRecDepth 100000 in
theorem mu1_123 : j_code jP 277 123 = some (.invokevirtual 329) := rfl
set_option maxRecDepth 100000 in
theorem mu1_126 : j_code jP 277 126 = some (.ireturn) := rfl
def m_qband_l51 (n : Nat) (th : Int32) (sst : Int32) (w : List Int32) (x1 : Int32) (x2 : Int32) : Nat → Nat → Int32 → Int32 → Int32 × Int32 × Int32
  | 0, i, v3, v4 => (if x2 = 0 then (((m_gives th sst v3).1), ((m_gives th sst v3).2.1), ((m_gives th sst v3).2.2)) else (((m_gives th sst v4).1), ((m_gives th sst v4).2.1), ((m_gives th sst v4).2.2)))
  | f + 1, i, v3, v4 => (if (m_price (m_toTheEnd n (m_puts w x1 3 (nI i)) 1)) < v4 then (m_qband_l51 n th sst w x1 x2 f (i + 1) (nI i) (iMn v4 (m_price (m_toTheEnd n (m_puts w x1 3 (nI i)) 1)))) else (m_qband_l51 n th sst w x1 x2 f (i + 1) v3 (iMn v4 (m_price (m_toTheEnd n (m_puts w x1 3 (nI i)) 1)))))
set_option maxRecDepth 1000000 in
theorem mu1_ok_l51 {u : Nat → Value} {n d : Nat} {h0 : J_H} {th sst acs x1 x2 : Int32} {w kp od be : List Int32}  {I J : List Int32 → Prop} (H : m_Inv n I J) (H2 : m_Iv2 n I) (hI : I w) (ht : ¬ m_isTrain w x1 = 0) (h0t : (m_of w x1 6) = 0) : ∀ (f i : Nat) (v3 v4 : Int32) {wn ot tk : List Int32} {tm : Int32} {lv : J_L} {h : J_H}, i + f = 61 → wn.length = 602 → ot.length = 602 → LK lv [(0, .ref 359), (1, .int x1), (2, .int x2), (3, .int v3), (4, .int v4), (5, .int (nI i))] → KN h [(359, .inl (10, [.int th, .ref 360, .ref 361, .ref 362, .ref 363, .ref 364, .ref 365, .ref 366, .ref 367, (u 9), .int sst, (u 11), (u 12), .int acs, (u 14), (u 15), (u 16), (u 17), (u 18), (u 19), (u 20), (u 21), .ref 368, .int tm, .ref 369, .ref 370, .ref 371, (u 27)])), (360, .inr (.inl (0, wn))), (362, .inr (.inl (0, w))), (363, .inr (.inl (0, ot))), (364, .inr (.inl (0, kp))), (368, .inr (.inl (0, tk))), (369, .inr (.inl (0, od))), (370, .inr (.inl (0, be)))] h0 → j_V jP d 277 51 lv [] h (fun rv h' => rv = some (.int (m_qband_l51 n th sst w x1 x2 f i v3 v4).1) ∧ ∃ (sd' ot' tk' : List Int32) (tm' : Int32), sd'.length = 602 ∧ ot'.length = 602 ∧ KN h' [(359, .inl (10, [.int (m_qband_l51 n th sst w x1 x2 f i v3 v4).2.1, .ref 360, .ref 361, .ref 362, .ref 363, .ref 364, .ref 365, .ref 366, .ref 367, (u 9), .int (m_qband_l51 n th sst w x1 x2 f i v3 v4).2.2, (u 11), (u 12), .int acs, (u 14), (u 15), (u 16), (u 17), (u 18), (u 19), (u 20), (u 21), .ref 368, .int tm', .ref 369, .ref 370, .ref 371, (u 27)])), (360, .inr (.inl (0, w))), (362, .inr (.inl (0, sd'))), (363, .inr (.inl (0, ot'))), (364, .inr (.inl (0, kp))), (368, .inr (.inl (0, tk'))), (369, .inr (.inl (0, od))), (370, .inr (.inl (0, be)))] h0) := by
  have hn5 := H.n5
  intro f
  induction f with
  | zero =>
    intro i v3 v4 wn ot tk tm lv h e hwn hot L K
    refine j_V.ldL mu1_M mu1_51 rfl (i := 5) (kd := 0) (v := .int (nI i)) (pc' := 53) rfl L rfl rfl rfl ?_
    refine j_V.one mu1_M mu1_53 (by decide) (pc' := 55) (st' := [.int 60, .int (nI i)]) rfl ?_
    refine j_V.icmp mu1_M mu1_55 (t := 112) rfl (fun c55_0 => ?_) (fun c55_0 => ?_)
    · replace c55_0 : 60 < (nI i) := jd_gt c55_0
      refine j_V.ldL mu1_M mu1_112 rfl (i := 0) (kd := 2) (v := .ref 359) (pc' := 113) rfl L rfl rfl rfl ?_
      refine j_V.ldL mu1_M mu1_113 rfl (i := 2) (kd := 0) (v := .int x2) (pc' := 114) rfl L rfl rfl rfl ?_
      refine j_V.ifc mu1_M mu1_114 (t := 122) rfl (fun c114_0 => ?_) (fun c114_0 => ?_)
      · replace c114_0 : x2 = 0 := jd_eq c114_0
        refine j_V.ldL mu1_M mu1_122 rfl (i := 3) (kd := 0) (v := .int v3) (pc' := 123) rfl L rfl rfl rfl ?_
        refine j_V.cl mu1_M mu1_123 rfl (md := 3) (mj := 261) rfl (by decide) ms2_M (As := [.ref 359, .int v3]) (rest := []) (jk_spl3 (K.at rfl) rfl rfl rfl (Nat.le_of_ble_eq_true rfl) (Nat.le_of_ble_eq_true rfl)) (fun d => ms2_ok (u := fun j => [.int th, .ref 360, .ref 361, .ref 362, .ref 363, .ref 364, .ref 365, .ref 366, .ref 367, (u 9), .int sst, (u 11), (u 12), .int acs, (u 14), (u 15), (u 16), (u 17), (u 18), (u 19), (u 20), (u 21), .ref 368, .int tm, .ref 369, .ref 370, .ref 371, (u 27)].getD j .null) hwn (H.I1 _ hI).1 (K.fi [359, 360, 362] rfl rfl)) ?_
        rintro r h9 ⟨rfl, K9⟩
        have K : KN h9 [(359, .inl (10, [.int ((m_gives th sst v3).2.1), .ref 360, .ref 361, .ref 362, .ref 363, .ref 364, .ref 365, .ref 366, .ref 367, (u 9), .int ((m_gives th sst v3).2.2), (u 11), (u 12), .int acs, (u 14), (u 15), (u 16), (u 17), (u 18), (u 19), (u 20), (u 21), .ref 368, .int tm, .ref 369, .ref 370, .ref 371, (u 27)])), (360, .inr (.inl (0, w))), (362, .inr (.inl (0, w))), (363, .inr (.inl (0, ot))), (364, .inr (.inl (0, kp))), (368, .inr (.inl (0, tk))), (369, .inr (.inl (0, od))), (370, .inr (.inl (0, be)))] h0 := K.mg K9 rfl rfl
        clear K9
        show j_V jP _ 277 126 lv [.int ((m_gives th sst v3).1)] h9 _
        refine j_V.ri mu1_M mu1_126 ?_
        rw [show (m_qband_l51 n th sst w x1 x2 0 i v3 v4) = _ from ((if_pos c114_0).trans (rfl))]
        exact ⟨rfl, w, ot, tk, tm, (H.I1 _ hI).1, hot, K⟩
      · replace c114_0 : ¬ (x2 = 0) := jd_eqn c114_0
        refine j_V.ldL mu1_M mu1_117 rfl (i := 4) (kd := 0) (v := .int v4) (pc' := 119) rfl L rfl rfl rfl ?_
        refine j_V.gto mu1_M mu1_119 (t := 123) rfl ?_
        refine j_V.cl mu1_M mu1_123 rfl (md := 3) (mj := 261) rfl (by decide) ms2_M (As := [.ref 359, .int v4]) (rest := []) (jk_spl3 (K.at rfl) rfl rfl rfl (Nat.le_of_ble_eq_true rfl) (Nat.le_of_ble_eq_true rfl)) (fun d => ms2_ok (u := fun j => [.int th, .ref 360, .ref 361, .ref 362, .ref 363, .ref 364, .ref 365, .ref 366, .ref 367, (u 9), .int sst, (u 11), (u 12), .int acs, (u 14), (u 15), (u 16), (u 17), (u 18), (u 19), (u 20), (u 21), .ref 368, .int tm, .ref 369, .ref 370, .ref 371, (u 27)].getD j .null) hwn (H.I1 _ hI).1 (K.fi [359, 360, 362] rfl rfl)) ?_
        rintro r h9 ⟨rfl, K9⟩
        have K : KN h9 [(359, .inl (10, [.int ((m_gives th sst v4).2.1), .ref 360, .ref 361, .ref 362, .ref 363, .ref 364, .ref 365, .ref 366, .ref 367, (u 9), .int ((m_gives th sst v4).2.2), (u 11), (u 12), .int acs, (u 14), (u 15), (u 16), (u 17), (u 18), (u 19), (u 20), (u 21), .ref 368, .int tm, .ref 369, .ref 370, .ref 371, (u 27)])), (360, .inr (.inl (0, w))), (362, .inr (.inl (0, w))), (363, .inr (.inl (0, ot))), (364, .inr (.inl (0, kp))), (368, .inr (.inl (0, tk))), (369, .inr (.inl (0, od))), (370, .inr (.inl (0, be)))] h0 := K.mg K9 rfl rfl
        clear K9
        show j_V jP _ 277 126 lv [.int ((m_gives th sst v4).1)] h9 _
        refine j_V.ri mu1_M mu1_126 ?_
        rw [show (m_qband_l51 n th sst w x1 x2 0 i v3 v4) = _ from ((if_neg c114_0).trans (rfl))]
        exact ⟨rfl, w, ot, tk, tm, (H.I1 _ hI).1, hot, K⟩
    · replace c55_0 : ¬ (60 < (nI i)) := jd_gtn c55_0
      exact absurd (show (60 : Int32) < nI i by rw [show i = 61 by omega]; decide) c55_0
  | succ f ih =>
    intro i v3 v4 wn ot tk tm lv h e hwn hot L K
    refine j_V.ldL mu1_M mu1_51 rfl (i := 5) (kd := 0) (v := .int (nI i)) (pc' := 53) rfl L rfl rfl rfl ?_
    refine j_V.one mu1_M mu1_53 (by decide) (pc' := 55) (st' := [.int 60, .int (nI i)]) rfl ?_
    refine j_V.icmp mu1_M mu1_55 (t := 112) rfl (fun c55_0 => ?_) (fun c55_0 => ?_)
    · replace c55_0 : 60 < (nI i) := jd_gt c55_0
      exact absurd c55_0 (by rw [show (60 : Int32) = nI 60 from rfl, nI_lt9 (by omega) (by omega)]; omega)
    · replace c55_0 : ¬ (60 < (nI i)) := jd_gtn c55_0
      refine j_V.ldL mu1_M mu1_58 rfl (i := 0) (kd := 2) (v := .ref 359) (pc' := 59) rfl L rfl rfl rfl ?_
      refine j_V.getK mu1_M mu1_59 (ci := 10) (j := 3) rfl K rfl rfl ?_
      refine j_V.ldL mu1_M mu1_62 rfl (i := 0) (kd := 2) (v := .ref 359) (pc' := 63) rfl L rfl rfl rfl ?_
      refine j_V.getK mu1_M mu1_63 (ci := 10) (j := 1) rfl K rfl rfl ?_
      refine j_V.cl mu1_M mu1_66 rfl (md := 2) (mj := 201) rfl (by decide) mi3_M (As := [.ref 362, .ref 360]) (rest := []) (jk_spl2 rfl rfl (Nat.le_of_ble_eq_true rfl) (Nat.le_of_ble_eq_true rfl)) (fun d => mi3_ok (K.fi [360, 362] rfl rfl)) ?_
      rintro r h9 ⟨rfl, K9⟩
      have K : KN h9 [(359, .inl (10, [.int th, .ref 360, .ref 361, .ref 362, .ref 363, .ref 364, .ref 365, .ref 366, .ref 367, (u 9), .int sst, (u 11), (u 12), .int acs, (u 14), (u 15), (u 16), (u 17), (u 18), (u 19), (u 20), (u 21), .ref 368, .int tm, .ref 369, .ref 370, .ref 371, (u 27)])), (360, .inr (.inl (0, ((m_copies w wn))))), (362, .inr (.inl (0, w))), (363, .inr (.inl (0, ot))), (364, .inr (.inl (0, kp))), (368, .inr (.inl (0, tk))), (369, .inr (.inl (0, od))), (370, .inr (.inl (0, be)))] h0 := K.mg K9 rfl rfl
      clear K9
      show j_V jP _ 277 69 lv [] h9 _
      rw [m_cp (H.I1 _ hI).1 hwn] at K
      refine j_V.ldL mu1_M mu1_69 rfl (i := 0) (kd := 2) (v := .ref 359) (pc' := 70) rfl L rfl rfl rfl ?_
      refine j_V.ldL mu1_M mu1_70 rfl (i := 1) (kd := 0) (v := .int x1) (pc' := 71) rfl L rfl rfl rfl ?_
      refine j_V.one mu1_M mu1_71 (by decide) (pc' := 72) (st' := [.int 3, .int x1, .ref 359]) rfl ?_
      refine j_V.ldL mu1_M mu1_72 rfl (i := 5) (kd := 0) (v := .int (nI i)) (pc' := 74) rfl L rfl rfl rfl ?_
      refine j_V.cl mu1_M mu1_74 rfl (md := 3) (mj := 179) rfl (by decide) me0_M (As := [.ref 359, .int x1, .int 3, .int (nI i)]) (rest := []) (jk_spl3 (K.at rfl) rfl rfl rfl (Nat.le_of_ble_eq_true rfl) (Nat.le_of_ble_eq_true rfl)) (fun d => me0_ok (u := fun j => [.int th, .ref 360, .ref 361, .ref 362, .ref 363, .ref 364, .ref 365, .ref 366, .ref 367, (u 9), .int sst, (u 11), (u 12), .int acs, (u 14), (u 15), (u 16), (u 17), (u 18), (u 19), (u 20), (u 21), .ref 368, .int tm, .ref 369, .ref 370, .ref 371, (u 27)].getD j .null) (K.fi [359, 360] rfl rfl)) ?_
      rintro r h9 ⟨rfl, K9⟩
      have K : KN h9 [(359, .inl (10, [.int th, .ref 360, .ref 361, .ref 362, .ref 363, .ref 364, .ref 365, .ref 366, .ref 367, (u 9), .int sst, (u 11), (u 12), .int acs, (u 14), (u 15), (u 16), (u 17), (u 18), (u 19), (u 20), (u 21), .ref 368, .int tm, .ref 369, .ref 370, .ref 371, (u 27)])), (360, .inr (.inl (0, (m_puts w x1 3 (nI i))))), (362, .inr (.inl (0, w))), (363, .inr (.inl (0, ot))), (364, .inr (.inl (0, kp))), (368, .inr (.inl (0, tk))), (369, .inr (.inl (0, od))), (370, .inr (.inl (0, be)))] h0 := K.mg K9 rfl rfl
      clear K9
      show j_V jP _ 277 77 lv [] h9 _
      refine j_V.ldL mu1_M mu1_77 rfl (i := 0) (kd := 2) (v := .ref 359) (pc' := 78) rfl L rfl rfl rfl ?_
      refine j_V.cl mu1_M mu1_78 rfl (md := 3) (mj := 232) rfl (by decide) ms1_M (As := [.ref 359]) (rest := []) (jk_spl3 (K.at rfl) rfl rfl rfl (Nat.le_of_ble_eq_true rfl) (Nat.le_of_ble_eq_true rfl)) (fun d => ms19_ok (u := fun j => [.int th, .ref 360, .ref 361, .ref 362, .ref 363, .ref 364, .ref 365, .ref 366, .ref 367, (u 9), .int sst, (u 11), (u 12), .int acs, (u 14), (u 15), (u 16), (u 17), (u 18), (u 19), (u 20), (u 21), .ref 368, .int tm, .ref 369, .ref 370, .ref 371, (u 27)].getD j .null) H (H2.B _ _ i hI ht h0t (by omega)) hot (K.fi [359, 360, 363, 368] rfl rfl)) ?_
      rintro r h9 ⟨rfl, hI18, ot18, tk18, tm18, ho18, K9⟩
      have K : KN h9 [(359, .inl (10, [.int th, .ref 360, .ref 361, .ref 362, .ref 363, .ref 364, .ref 365, .ref 366, .ref 367, (u 9), .int sst, (u 11), (u 12), .int acs, (u 14), (u 15), (u 16), (u 17), (u 18), (u 19), (u 20), (u 21), .ref 368, .int tm18, .ref 369, .ref 370, .ref 371, (u 27)])), (360, .inr (.inl (0, (m_toTheEnd n (m_puts w x1 3 (nI i)) 1)))), (362, .inr (.inl (0, w))), (363, .inr (.inl (0, ot18))), (364, .inr (.inl (0, kp))), (368, .inr (.inl (0, tk18))), (369, .inr (.inl (0, od))), (370, .inr (.inl (0, be)))] h0 := K.mg K9 rfl rfl
      clear K9
      show j_V jP _ 277 81 lv [.int (m_price (m_toTheEnd n (m_puts w x1 3 (nI i)) 1))] h9 _
      refine j_V.stL mu1_M mu1_81 rfl (i := 6) (kd := 0) (kl' := [(0, .ref 359), (1, .int x1), (2, .int x2), (3, .int v3), (4, .int v4), (5, .int (nI i)), (6, .int (m_price (m_toTheEnd n (m_puts w x1 3 (nI i)) 1)))]) (pc' := 83) rfl L rfl (by decide) rfl rfl rfl (fun lv L => ?_)
      refine j_V.ldL mu1_M mu1_83 rfl (i := 6) (kd := 0) (v := .int (m_price (m_toTheEnd n (m_puts w x1 3 (nI i)) 1))) (pc' := 85) rfl L rfl rfl rfl ?_
      refine j_V.ldL mu1_M mu1_85 rfl (i := 4) (kd := 0) (v := .int v4) (pc' := 87) rfl L rfl rfl rfl ?_
      refine j_V.icmp mu1_M mu1_87 (t := 95) rfl (fun c87_0 => ?_) (fun c87_0 => ?_)
      · replace c87_0 : ¬ ((m_price (m_toTheEnd n (m_puts w x1 3 (nI i)) 1)) < v4) := jd_ge c87_0
        refine j_V.ldL mu1_M mu1_95 rfl (i := 3) (kd := 0) (v := .int v3) (pc' := 96) rfl L rfl rfl rfl ?_
        refine j_V.stL mu1_M mu1_96 rfl (i := 3) (kd := 0) (kl' := [(0, .ref 359), (1, .int x1), (2, .int x2), (3, .int v3), (4, .int v4), (5, .int (nI i)), (6, .int (m_price (m_toTheEnd n (m_puts w x1 3 (nI i)) 1)))]) (pc' := 97) rfl L rfl (by decide) rfl rfl rfl (fun lv L => ?_)
        refine j_V.ldL mu1_M mu1_97 rfl (i := 4) (kd := 0) (v := .int v4) (pc' := 99) rfl L rfl rfl rfl ?_
        refine j_V.ldL mu1_M mu1_99 rfl (i := 6) (kd := 0) (v := .int (m_price (m_toTheEnd n (m_puts w x1 3 (nI i)) 1))) (pc' := 101) rfl L rfl rfl rfl ?_
        refine j_V.mn mu1_M mu1_101 rfl rfl (Nat.le_of_ble_eq_true rfl) ?_
        refine j_V.stL mu1_M mu1_104 rfl (i := 4) (kd := 0) (kl' := [(0, .ref 359), (1, .int x1), (2, .int x2), (3, .int v3), (4, .int (iMn v4 (m_price (m_toTheEnd n (m_puts w x1 3 (nI i)) 1)))), (5, .int (nI i)), (6, .int (m_price (m_toTheEnd n (m_puts w x1 3 (nI i)) 1)))]) (pc' := 106) rfl L rfl (by decide) rfl rfl rfl (fun lv L => ?_)
        refine j_V.inL mu1_M mu1_106 (i := 5) (kl' := [(0, .ref 359), (1, .int x1), (2, .int x2), (3, .int v3), (4, .int (iMn v4 (m_price (m_toTheEnd n (m_puts w x1 3 (nI i)) 1)))), (5, .int ((nI i) + 1)), (6, .int (m_price (m_toTheEnd n (m_puts w x1 3 (nI i)) 1)))]) (pc' := 109) L rfl rfl rfl rfl (fun lv L => ?_)
        refine j_V.gto mu1_M mu1_109 (t := 51) rfl ?_
        rw [nI_one] at L
        rw [show (m_qband_l51 n th sst w x1 x2 (f + 1) i v3 v4) = _ from ((if_neg c87_0).trans (rfl))]
        exact ih (i + 1) _ _ (by omega) (H.I1 _ hI18).1 ho18 (L.sub ⟨rfl, rfl, rfl, rfl, rfl, rfl, trivial⟩) K
      · replace c87_0 : (m_price (m_toTheEnd n (m_puts w x1 3 (nI i)) 1)) < v4 := jd_gen c87_0
        refine j_V.ldL mu1_M mu1_90 rfl (i := 5) (kd := 0) (v := .int (nI i)) (pc' := 92) rfl L rfl rfl rfl ?_
        refine j_V.gto mu1_M mu1_92 (t := 96) rfl ?_
        refine j_V.stL mu1_M mu1_96 rfl (i := 3) (kd := 0) (kl' := [(0, .ref 359), (1, .int x1), (2, .int x2), (3, .int (nI i)), (4, .int v4), (5, .int (nI i)), (6, .int (m_price (m_toTheEnd n (m_puts w x1 3 (nI i)) 1)))]) (pc' := 97) rfl L rfl (by decide) rfl rfl rfl (fun lv L => ?_)
        refine j_V.ldL mu1_M mu1_97 rfl (i := 4) (kd := 0) (v := .int v4) (pc' := 99) rfl L rfl rfl rfl ?_
        refine j_V.ldL mu1_M mu1_99 rfl (i := 6) (kd := 0) (v := .int (m_price (m_toTheEnd n (m_puts w x1 3 (nI i)) 1))) (pc' := 101) rfl L rfl rfl rfl ?_
        refine j_V.mn mu1_M mu1_101 rfl rfl (Nat.le_of_ble_eq_true rfl) ?_
        refine j_V.stL mu1_M mu1_104 rfl (i := 4) (kd := 0) (kl' := [(0, .ref 359), (1, .int x1), (2, .int x2), (3, .int (nI i)), (4, .int (iMn v4 (m_price (m_toTheEnd n (m_puts w x1 3 (nI i)) 1)))), (5, .int (nI i)), (6, .int (m_price (m_toTheEnd n (m_puts w x1 3 (nI i)) 1)))]) (pc' := 106) rfl L rfl (by decide) rfl rfl rfl (fun lv L => ?_)
        refine j_V.inL mu1_M mu1_106 (i := 5) (kl' := [(0, .ref 359), (1, .int x1), (2, .int x2), (3, .int (nI i)), (4, .int (iMn v4 (m_price (m_toTheEnd n (m_puts w x1 3 (nI i)) 1)))), (5, .int ((nI i) + 1)), (6, .int (m_price (m_toTheEnd n (m_puts w x1 3 (nI i)) 1)))]) (pc' := 109) L rfl rfl rfl rfl (fun lv L => ?_)
        refine j_V.gto mu1_M mu1_109 (t := 51) rfl ?_
        rw [nI_one] at L
        rw [show (m_qband_l51 n th sst w x1 x2 (f + 1) i v3 v4) = _ from ((if_pos c87_0).trans (rfl))]
        exact ih (i + 1) _ _ (by omega) (H.I1 _ hI18).1 ho18 (L.sub ⟨rfl, rfl, rfl, rfl, rfl, rfl, trivial⟩) K
def m_qband (n : Nat) (th : Int32) (sst : Int32) (w : List Int32) (x1 : Int32) (x2 : Int32) : Int32 × Int32 × Int32 := (if (m_isTrain w x1) = 0 then (((m_refuse th sst 2).1), ((m_refuse th sst 2).2.1), ((m_refuse th sst 2).2.2)) else (if (m_of w x1 6) = 0 then (m_qband_l51 n th sst w x1 x2 61 0 (-1) (2147483647 : Int32)) else (((m_refuse th sst 5).1), ((m_refuse th sst 5).2.1), ((m_refuse th sst 5).2.2))))
set_option maxRecDepth 1000000 in
theorem mu1_ok {u : Nat → Value} {n d : Nat} {h h0 : J_H} {th sst acs tm x1 x2 : Int32} {w sd ot kp tk od be : List Int32} {I J : List Int32 → Prop} (H : m_Inv n I J) (H2 : m_Iv2 n I) (hI : I w) (hsd : sd.length = 602) (hot : ot.length = 602) (K : KN h [(359, .inl (10, [.int th, .ref 360, .ref 361, .ref 362, .ref 363, .ref 364, .ref 365, .ref 366, .ref 367, (u 9), .int sst, (u 11), (u 12), .int acs, (u 14), (u 15), (u 16), (u 17), (u 18), (u 19), (u 20), (u 21), .ref 368, .int tm, .ref 369, .ref 370, .ref 371, (u 27)])), (360, .inr (.inl (0, w))), (362, .inr (.inl (0, sd))), (363, .inr (.inl (0, ot))), (364, .inr (.inl (0, kp))), (368, .inr (.inl (0, tk))), (369, .inr (.inl (0, od))), (370, .inr (.inl (0, be)))] h0) : j_V jP d 277 0 (lv_args 0 [.ref 359, .int x1, .int x2]) [] h (fun rv h' => rv = some (.int (m_qband n th sst w x1 x2).1) ∧ ∃ (sd' ot' tk' : List Int32) (tm' : Int32), sd'.length = 602 ∧ ot'.length = 602 ∧ KN h' [(359, .inl (10, [.int (m_qband n th sst w x1 x2).2.1, .ref 360, .ref 361, .ref 362, .ref 363, .ref 364, .ref 365, .ref 366, .ref 367, (u 9), .int (m_qband n th sst w x1 x2).2.2, (u 11), (u 12), .int acs, (u 14), (u 15), (u 16), (u 17), (u 18), (u 19), (u 20), (u 21), .ref 368, .int tm', .ref 369, .ref 370, .ref 371, (u 27)])), (360, .inr (.inl (0, w))), (362, .inr (.inl (0, sd'))), (363, .inr (.inl (0, ot'))), (364, .inr (.inl (0, kp))), (368, .inr (.inl (0, tk'))), (369, .inr (.inl (0, od))), (370, .inr (.inl (0, be)))] h0) := by
  show j_V jP d 277 0 [(0, .ref 359), (1, .int x1), (2, .int x2)] [] h _
  obtain ⟨lv, elv, L⟩ : ∃ lv, lv = [(0, .ref 359), (1, .int x1), (2, .int x2)] ∧ LK lv [(0, .ref 359), (1, .int x1), (2, .int x2)] := ⟨_, rfl, LK.rf⟩
  rw [← elv]
  clear elv
  refine j_V.ldL mu1_M mu1_0 rfl (i := 0) (kd := 2) (v := .ref 359) (pc' := 1) rfl L rfl rfl rfl ?_
  refine j_V.ldL mu1_M mu1_1 rfl (i := 1) (kd := 0) (v := .int x1) (pc' := 2) rfl L rfl rfl rfl ?_
  refine j_V.cl mu1_M mu1_2 rfl (md := 3) (mj := 173) rfl (by decide) md0_M (As := [.ref 359, .int x1]) (rest := []) (jk_spl3 (K.at rfl) rfl rfl rfl (Nat.le_of_ble_eq_true rfl) (Nat.le_of_ble_eq_true rfl)) (fun d => md0_ok (u := fun j => [.int th, .ref 360, .ref 361, .ref 362, .ref 363, .ref 364, .ref 365, .ref 366, .ref 367, (u 9), .int sst, (u 11), (u 12), .int acs, (u 14), (u 15), (u 16), (u 17), (u 18), (u 19), (u 20), (u 21), .ref 368, .int tm, .ref 369, .ref 370, .ref 371, (u 27)].getD j .null) (K.fi [359, 360] rfl rfl)) ?_
  rintro r hz ⟨rfl, ez⟩
  rw [ez]
  clear ez
  show j_V jP _ 277 5 lv [.int (m_isTrain w x1)] h _
  refine j_V.ifc mu1_M mu1_5 (t := 14) rfl (fun c5_0 => ?_) (fun c5_0 => ?_)
  · replace c5_0 : ¬ ((m_isTrain w x1) = 0) := jd_ne c5_0
    refine j_V.ldL mu1_M mu1_14 rfl (i := 0) (kd := 2) (v := .ref 359) (pc' := 15) rfl L rfl rfl rfl ?_
    refine j_V.ldL mu1_M mu1_15 rfl (i := 1) (kd := 0) (v := .int x1) (pc' := 16) rfl L rfl rfl rfl ?_
    refine j_V.one mu1_M mu1_16 (by decide) (pc' := 18) (st' := [.int 6, .int x1, .ref 359]) rfl ?_
    refine j_V.cl mu1_M mu1_18 rfl (md := 3) (mj := 178) rfl (by decide) ma3_M (As := [.ref 359, .int x1, .int 6]) (rest := []) (jk_spl3 (K.at rfl) rfl rfl rfl (Nat.le_of_ble_eq_true rfl) (Nat.le_of_ble_eq_true rfl)) (fun d => ma3_ok (u := fun j => [.int th, .ref 360, .ref 361, .ref 362, .ref 363, .ref 364, .ref 365, .ref 366, .ref 367, (u 9), .int sst, (u 11), (u 12), .int acs, (u 14), (u 15), (u 16), (u 17), (u 18), (u 19), (u 20), (u 21), .ref 368, .int tm, .ref 369, .ref 370, .ref 371, (u 27)].getD j .null) (K.fi [359, 360] rfl rfl)) ?_
    rintro r hz ⟨rfl, ez⟩
    rw [ez]
    clear ez
    show j_V jP _ 277 21 lv [.int (m_of w x1 6)] h _
    refine j_V.ifc mu1_M mu1_21 (t := 30) rfl (fun c21_1 => ?_) (fun c21_1 => ?_)
    · replace c21_1 : (m_of w x1 6) = 0 := jd_eq c21_1
      refine j_V.one mu1_M mu1_30 (by decide) (pc' := 31) (st' := [.int (-1)]) rfl ?_
      refine j_V.stL mu1_M mu1_31 rfl (i := 3) (kd := 0) (kl' := [(0, .ref 359), (1, .int x1), (2, .int x2), (3, .int (-1))]) (pc' := 32) rfl L rfl (by decide) rfl rfl rfl (fun lv L => ?_)
      refine j_V.one mu1_M mu1_32 (by decide) (pc' := 35) (st' := [.int (2147483647 : Int32)]) rfl ?_
      refine j_V.stL mu1_M mu1_35 rfl (i := 4) (kd := 0) (kl' := [(0, .ref 359), (1, .int x1), (2, .int x2), (3, .int (-1)), (4, .int (2147483647 : Int32))]) (pc' := 37) rfl L rfl (by decide) rfl rfl rfl (fun lv L => ?_)
      refine j_V.ldL mu1_M mu1_37 rfl (i := 0) (kd := 2) (v := .ref 359) (pc' := 38) rfl L rfl rfl rfl ?_
      refine j_V.getK mu1_M mu1_38 (ci := 10) (j := 1) rfl K rfl rfl ?_
      refine j_V.ldL mu1_M mu1_41 rfl (i := 0) (kd := 2) (v := .ref 359) (pc' := 42) rfl L rfl rfl rfl ?_
      refine j_V.getK mu1_M mu1_42 (ci := 10) (j := 3) rfl K rfl rfl ?_
      refine j_V.cl mu1_M mu1_45 rfl (md := 2) (mj := 201) rfl (by decide) mi2_M (As := [.ref 360, .ref 362]) (rest := []) (jk_spl2 rfl rfl (Nat.le_of_ble_eq_true rfl) (Nat.le_of_ble_eq_true rfl)) (fun d => mi2_ok (K.fi [360, 362] rfl rfl)) ?_
      rintro r h9 ⟨rfl, K9⟩
      have K : KN h9 [(359, .inl (10, [.int th, .ref 360, .ref 361, .ref 362, .ref 363, .ref 364, .ref 365, .ref 366, .ref 367, (u 9), .int sst, (u 11), (u 12), .int acs, (u 14), (u 15), (u 16), (u 17), (u 18), (u 19), (u 20), (u 21), .ref 368, .int tm, .ref 369, .ref 370, .ref 371, (u 27)])), (360, .inr (.inl (0, w))), (362, .inr (.inl (0, ((m_copies w sd))))), (363, .inr (.inl (0, ot))), (364, .inr (.inl (0, kp))), (368, .inr (.inl (0, tk))), (369, .inr (.inl (0, od))), (370, .inr (.inl (0, be)))] h0 := K.mg K9 rfl rfl
      clear K9
      show j_V jP _ 277 48 lv [] h9 _
      rw [m_cp (H.I1 _ hI).1 hsd] at K
      refine j_V.one mu1_M mu1_48 (by decide) (pc' := 49) (st' := [.int 0]) rfl ?_
      refine j_V.stL mu1_M mu1_49 rfl (i := 5) (kd := 0) (kl' := [(0, .ref 359), (1, .int x1), (2, .int x2), (3, .int (-1)), (4, .int (2147483647 : Int32)), (5, .int 0)]) (pc' := 51) rfl L rfl (by decide) rfl rfl rfl (fun lv L => ?_)
      have L : LK lv [(0, .ref 359), (1, .int x1), (2, .int x2), (3, .int (-1)), (4, .int (2147483647 : Int32)), (5, .int (nI 0))] := L
      rw [show (m_qband n th sst w x1 x2) = (m_qband_l51 n th sst w x1 x2 61 0 (-1) (2147483647 : Int32)) from ((if_neg c5_0).trans ((if_pos c21_1).trans (rfl)))]
      exact mu1_ok_l51 H H2 hI c5_0 c21_1 61 0 (-1) (2147483647 : Int32) rfl (H.I1 _ hI).1 hot L K
    · replace c21_1 : ¬ ((m_of w x1 6) = 0) := jd_eqn c21_1
      refine j_V.ldL mu1_M mu1_24 rfl (i := 0) (kd := 2) (v := .ref 359) (pc' := 25) rfl L rfl rfl rfl ?_
      refine j_V.one mu1_M mu1_25 (by decide) (pc' := 26) (st' := [.int 5, .ref 359]) rfl ?_
      refine j_V.cl mu1_M mu1_26 rfl (md := 3) (mj := 169) rfl (by decide) mo0_M (As := [.ref 359, .int 5]) (rest := []) (jk_spl3 (K.at rfl) rfl rfl rfl (Nat.le_of_ble_eq_true rfl) (Nat.le_of_ble_eq_true rfl)) (fun d => mo0_ok (u := fun j => [.int th, .ref 360, .ref 361, .ref 362, .ref 363, .ref 364, .ref 365, .ref 366, .ref 367, (u 9), .int sst, (u 11), (u 12), .int acs, (u 14), (u 15), (u 16), (u 17), (u 18), (u 19), (u 20), (u 21), .ref 368, .int tm, .ref 369, .ref 370, .ref 371, (u 27)].getD j .null) (K.fi [359] rfl rfl)) ?_
      rintro r h9 ⟨rfl, K9⟩
      have K : KN h9 [(359, .inl (10, [.int ((m_refuse th sst 5).2.1), .ref 360, .ref 361, .ref 362, .ref 363, .ref 364, .ref 365, .ref 366, .ref 367, (u 9), .int ((m_refuse th sst 5).2.2), (u 11), (u 12), .int acs, (u 14), (u 15), (u 16), (u 17), (u 18), (u 19), (u 20), (u 21), .ref 368, .int tm, .ref 369, .ref 370, .ref 371, (u 27)])), (360, .inr (.inl (0, w))), (362, .inr (.inl (0, sd))), (363, .inr (.inl (0, ot))), (364, .inr (.inl (0, kp))), (368, .inr (.inl (0, tk))), (369, .inr (.inl (0, od))), (370, .inr (.inl (0, be)))] h0 := K.mg K9 rfl rfl
      clear K9
      show j_V jP _ 277 29 lv [.int ((m_refuse th sst 5).1)] h9 _
      refine j_V.ri mu1_M mu1_29 ?_
      rw [show (m_qband n th sst w x1 x2) = _ from ((if_neg c5_0).trans ((if_neg c21_1).trans (rfl)))]
      exact ⟨rfl, sd, ot, tk, tm, hsd, hot, K⟩
  · replace c5_0 : (m_isTrain w x1) = 0 := jd_nen c5_0
    refine j_V.ldL mu1_M mu1_8 rfl (i := 0) (kd := 2) (v := .ref 359) (pc' := 9) rfl L rfl rfl rfl ?_
    refine j_V.one mu1_M mu1_9 (by decide) (pc' := 10) (st' := [.int 2, .ref 359]) rfl ?_
    refine j_V.cl mu1_M mu1_10 rfl (md := 3) (mj := 169) rfl (by decide) mo0_M (As := [.ref 359, .int 2]) (rest := []) (jk_spl3 (K.at rfl) rfl rfl rfl (Nat.le_of_ble_eq_true rfl) (Nat.le_of_ble_eq_true rfl)) (fun d => mo0_ok (u := fun j => [.int th, .ref 360, .ref 361, .ref 362, .ref 363, .ref 364, .ref 365, .ref 366, .ref 367, (u 9), .int sst, (u 11), (u 12), .int acs, (u 14), (u 15), (u 16), (u 17), (u 18), (u 19), (u 20), (u 21), .ref 368, .int tm, .ref 369, .ref 370, .ref 371, (u 27)].getD j .null) (K.fi [359] rfl rfl)) ?_
    rintro r h9 ⟨rfl, K9⟩
    have K : KN h9 [(359, .inl (10, [.int ((m_refuse th sst 2).2.1), .ref 360, .ref 361, .ref 362, .ref 363, .ref 364, .ref 365, .ref 366, .ref 367, (u 9), .int ((m_refuse th sst 2).2.2), (u 11), (u 12), .int acs, (u 14), (u 15), (u 16), (u 17), (u 18), (u 19), (u 20), (u 21), .ref 368, .int tm, .ref 369, .ref 370, .ref 371, (u 27)])), (360, .inr (.inl (0, w))), (362, .inr (.inl (0, sd))), (363, .inr (.inl (0, ot))), (364, .inr (.inl (0, kp))), (368, .inr (.inl (0, tk))), (369, .inr (.inl (0, od))), (370, .inr (.inl (0, be)))] h0 := K.mg K9 rfl rfl
    clear K9
    show j_V jP _ 277 13 lv [.int ((m_refuse th sst 2).1)] h9 _
    refine j_V.ri mu1_M mu1_13 ?_
    rw [show (m_qband n th sst w x1 x2) = _ from ((if_pos c5_0).trans (rfl))]
    exact ⟨rfl, sd, ot, tk, tm, hsd, hot, K⟩
set_option maxRecDepth 100000 in
theorem mu2_M : j_meth jP 283 = some (yX10_go_, cX10_go_, 4, (some .int), 2, false, 10) := rfl
set_option maxRecDepth 100000 in
theorem mu2_0 : j_code jP 283 0 = some (.iload_n 1) := rfl
set_option maxRecDepth 100000 in
theorem mu2_1 : j_code jP 283 1 = some (.iconst 1) := rfl
set_option maxRecDepth 100000 in
theorem mu2_2 : j_code jP 283 2 = some (.bipush 99) := rfl
set_option maxRecDepth 100000 in
theorem mu2_4 : j_code jP 283 4 = some (.invokestatic 61) := rfl
set_option maxRecDepth 100000 in
theorem mu2_7 : j_code jP 283 7 = some (.ifCond .ne 9) := rfl
set_option maxRecDepth 100000 in
theorem mu2_10 : j_code jP 283 10 = some (.aload_n 0) := rfl
set_option maxRecDepth 100000 in
theorem mu2_11 : j_code jP 283 11 = some (.iconst 1) := rfl
set_option maxRecDepth 100000 in
theorem mu2_12 : j_code jP 283 12 = some (.invokevirtual 179) := rfl
set_option maxRecDepth 100000 in
theorem mu2_15 : j_code jP 283 15 = some (.ireturn) := rfl
set_option maxRecDepth 100000 in
theorem mu2_16 : j_code jP 283 16 = some (.aload_n 0) := rfl
set_option maxRecDepth 100000 in
theorem mu2_17 : j_code jP 283 17 = some (.getfield 7) := rfl
set_option maxRecDepth 100000 in
theorem mu2_20 : j_code jP 283 20 = some (.sipush 201) := rfl
set_option maxRecDepth 100000 in
theorem mu2_23 : j_code jP 283 23 = some (.iaload) := rfl
set_option maxRecDepth 100000 in
theorem mu2_24 : j_code jP 283 24 = some (.iload_n 1) := rfl
set_option maxRecDepth 100000 in
theorem mu2_25 : j_code jP 283 25 = some (.iadd) := rfl
set_option maxRecDepth 100000 in
theorem mu2_26 : j_code jP 283 26 = some (.sipush 999) := rfl
set_option maxRecDepth 100000 in
theorem mu2_29 : j_code jP 283 29 = some (.if_icmp .le 9) := rfl
set_option maxRecDepth 100000 in
theorem mu2_32 : j_code jP 283 32 = some (.aload_n 0) := rfl
set_option maxRecDepth 100000 in
theorem mu2_33 : j_code jP 283 33 = some (.iconst 3) := rfl
set_option maxRecDepth 100000 in
theorem mu2_34 : j_code jP 283 34 = some (.invokevirtual 179) := rfl
set_option maxRecDepth 100000 in
theorem mu2_37 : j_code jP 283 37 = some (.ireturn) := rfl
set_option maxRecDepth 100000 in
theorem mu2_38 : j_code jP 283 38 = some (.aload_n 0) := rfl
set_option maxRecDepth 100000 in
theorem mu2_39 : j_code jP 283 39 = some (.invokevirtual 362) := rfl
set_option maxRecDepth 100000 in
theorem mu2_42 : j_code jP 283 42 = some (.iconst 0) := rfl
set_option maxRecDepth 100000 in
theorem mu2_43 : j_code jP 283 43 = some (.istore_n 3) := rfl
set_option maxRecDepth 100000 in
theorem mu2_44 : j_code jP 283 44 = some (.iload_n 3) := rfl
set_option maxRecDepth 100000 in
theorem mu2_45 : j_code jP 283 45 = some (.iload_n 1) := rfl
set_option maxRecDepth 100000 in
theorem mu2_46 : j_code jP 283 46 = some (.if_icmp .ge 14) := rfl
set_option maxRecDepth 100000 in
theorem mu2_49 : j_code jP 283 49 = some (.aload_n 0) := rfl
set_option maxRecDepth 100000 in
theorem mu2_50 : j_code jP 283 50 = some (.iload_n 2) := rfl
set_option maxRecDepth 100000 in
theorem mu2_51 : j_code jP 283 51 = some (.invokevirtual 291) := rfl
set_option maxRecDepth 100000 in
theorem mu2_54 : j_code jP 283 54 = some (.iinc 3 1) := rfl
set_option maxRecDepth 100000 in
theorem mu2_57 : j_code jP 283 57 = some (.goto (-13)) := rfl
set_option maxRecDepth 100000 in
theorem mu2_60 : j_code jP 283 60 = some (.aload_n 0) := rfl
set_option maxRecDepth 100000 in
theorem mu2_61 : j_code jP 283 61 = some (.aload_n 0) := rfl
set_option maxRecDepth 100000 in
theorem mu2_62 : j_code jP 283 62 = some (.getfield 7) := rfl
set_option maxRecDepth 100000 in
theorem mu2_65 : j_code jP 283 65 = some (.sipush 201) := rfl
set_option maxRecDepth 100000 in
theorem mu2_68 : j_code jP 283 68 = some (.iaload) := rfl
set_option maxRecDepth 100000 in
theorem mu2_69 : j_code jP 283 69 = some (.invokevirtual 195) := rfl
set_option maxRecDepth 100000 in
theorem mu2_72 : j_code jP 283 72 = some (.ireturn) := rfl
set_option maxRecDepth 1000000 in
theorem mu2_ok_l44 {u : Nat → Value} {n d : Nat} {h0 : J_H} {th sst acs x1 x2 : Int32} {sd kp od be : List Int32}  {I J : List Int32 → Prop} (H : m_Inv n I J) (H2 : m_Iv2 n I) {Q : Option Value → J_H → Prop} : ∀ (f i : Nat) (w : List Int32) {ot tk : List Int32} {tm : Int32} {lv : J_L} {h : J_H}, lpN x1 (nI i) = f → I w → ot.length = 602 → LK lv [(0, .ref 359), (1, .int x1), (2, .int x2), (3, .int (nI i))] → KN h [(359, .inl (10, [.int th, .ref 360, .ref 361, .ref 362, .ref 363, .ref 364, .ref 365, .ref 366, .ref 367, (u 9), .int sst, (u 11), (u 12), .int acs, (u 14), (u 15), (u 16), (u 17), (u 18), (u 19), (u 20), (u 21), .ref 368, .int tm, .ref 369, .ref 370, .ref 371, (u 27)])), (360, .inr (.inl (0, w))), (362, .inr (.inl (0, sd))), (363, .inr (.inl (0, ot))), (364, .inr (.inl (0, kp))), (368, .inr (.inl (0, tk))), (369, .inr (.inl (0, od))), (370, .inr (.inl (0, be)))] h0 → (∀ lv h (ot tk : List Int32) (tm : Int32) (w' : List Int32), ot.length = 602 → w' = m_mins n x2 f w → I w' → LK lv [(0, .ref 359), (1, .int x1), (2, .int x2)] → KN h [(359, .inl (10, [.int th, .ref 360, .ref 361, .ref 362, .ref 363, .ref 364, .ref 365, .ref 366, .ref 367, (u 9), .int sst, (u 11), (u 12), .int acs, (u 14), (u 15), (u 16), (u 17), (u 18), (u 19), (u 20), (u 21), .ref 368, .int tm, .ref 369, .ref 370, .ref 371, (u 27)])), (360, .inr (.inl (0, w'))), (362, .inr (.inl (0, sd))), (363, .inr (.inl (0, ot))), (364, .inr (.inl (0, kp))), (368, .inr (.inl (0, tk))), (369, .inr (.inl (0, od))), (370, .inr (.inl (0, be)))] h0 → j_V jP d 283 60 lv [] h Q) → j_V jP d 283 44 lv [] h Q := by
  intro f
  induction f with
  | zero =>
    intro i w ot tk tm lv h e hI hot L K kk
    refine j_V.ldL mu2_M mu2_44 rfl (i := 3) (kd := 0) (v := .int (nI i)) (pc' := 45) rfl L rfl rfl rfl ?_
    refine j_V.ldL mu2_M mu2_45 rfl (i := 1) (kd := 0) (v := .int x1) (pc' := 46) rfl L rfl rfl rfl ?_
    refine j_V.icmp mu2_M mu2_46 (t := 60) rfl (fun c46_0 => ?_) (fun c46_0 => ?_)
    · replace c46_0 : ¬ ((nI i) < x1) := jd_ge c46_0
      exact kk _ _ _ _ _ _ hot rfl hI (L.sub ⟨rfl, rfl, rfl, trivial⟩) K
    · replace c46_0 : (nI i) < x1 := jd_gen c46_0
      exact absurd c46_0 (lpN_z e)
  | succ f ih =>
    intro i w ot tk tm lv h e hI hot L K kk
    refine j_V.ldL mu2_M mu2_44 rfl (i := 3) (kd := 0) (v := .int (nI i)) (pc' := 45) rfl L rfl rfl rfl ?_
    refine j_V.ldL mu2_M mu2_45 rfl (i := 1) (kd := 0) (v := .int x1) (pc' := 46) rfl L rfl rfl rfl ?_
    refine j_V.icmp mu2_M mu2_46 (t := 60) rfl (fun c46_0 => ?_) (fun c46_0 => ?_)
    · replace c46_0 : ¬ ((nI i) < x1) := jd_ge c46_0
      exact absurd (lpN_s e) c46_0
    · replace c46_0 : (nI i) < x1 := jd_gen c46_0
      refine j_V.ldL mu2_M mu2_49 rfl (i := 0) (kd := 2) (v := .ref 359) (pc' := 50) rfl L rfl rfl rfl ?_
      refine j_V.ldL mu2_M mu2_50 rfl (i := 2) (kd := 0) (v := .int x2) (pc' := 51) rfl L rfl rfl rfl ?_
      refine j_V.cl mu2_M mu2_51 rfl (md := 3) (mj := 227) rfl (by decide) mj0_M (As := [.ref 359, .int x2]) (rest := []) (jk_spl3 (K.at rfl) rfl rfl rfl (Nat.le_of_ble_eq_true rfl) (Nat.le_of_ble_eq_true rfl)) (fun d => mj09_ok (u := fun j => [.int th, .ref 360, .ref 361, .ref 362, .ref 363, .ref 364, .ref 365, .ref 366, .ref 367, (u 9), .int sst, (u 11), (u 12), .int acs, (u 14), (u 15), (u 16), (u 17), (u 18), (u 19), (u 20), (u 21), .ref 368, .int tm, .ref 369, .ref 370, .ref 371, (u 27)].getD j .null) H hI hot (K.fi [359, 360, 363, 368] rfl rfl)) ?_
      rintro r h9 ⟨rfl, hI19, ot19, tk19, tm19, ho19, K9⟩
      have K : KN h9 [(359, .inl (10, [.int th, .ref 360, .ref 361, .ref 362, .ref 363, .ref 364, .ref 365, .ref 366, .ref 367, (u 9), .int sst, (u 11), (u 12), .int acs, (u 14), (u 15), (u 16), (u 17), (u 18), (u 19), (u 20), (u 21), .ref 368, .int tm19, .ref 369, .ref 370, .ref 371, (u 27)])), (360, .inr (.inl (0, (m_minute n w x2)))), (362, .inr (.inl (0, sd))), (363, .inr (.inl (0, ot19))), (364, .inr (.inl (0, kp))), (368, .inr (.inl (0, tk19))), (369, .inr (.inl (0, od))), (370, .inr (.inl (0, be)))] h0 := K.mg K9 rfl rfl
      clear K9
      show j_V jP _ 283 54 lv [] h9 _
      refine j_V.inL mu2_M mu2_54 (i := 3) (kl' := [(0, .ref 359), (1, .int x1), (2, .int x2), (3, .int ((nI i) + 1))]) (pc' := 57) L rfl rfl rfl rfl (fun lv L => ?_)
      refine j_V.gto mu2_M mu2_57 (t := 44) rfl ?_
      rw [nI_one] at L
      exact ih (i + 1) _ (by rw [← nI_one]; exact lpN_n e) hI19 ho19 L K kk
def m_go (n : Nat) (th sst acs : Int32) (w kp : List Int32) (x1 x2 : Int32) : Int32 × Int32 × Int32 × Int32 × List Int32 × List Int32 := (if (m_isFrom x1 1 99) = 0 then (((m_refuse th sst 1).1), ((m_refuse th sst 1).2.1), ((m_refuse th sst 1).2.2), acs, w, kp) else (if 999 < ((gA w 201) + x1) then (((m_refuse th sst 3).1), ((m_refuse th sst 3).2.1), ((m_refuse th sst 3).2.2), acs, w, kp) else (((m_gives th sst (gA (m_mins n x2 (lpN x1 (nI 0)) w) 201)).1), ((m_gives th sst (gA (m_mins n x2 (lpN x1 (nI 0)) w) 201)).2.1), ((m_gives th sst (gA (m_mins n x2 (lpN x1 (nI 0)) w) 201)).2.2), ((m_keeps acs w kp).2), (m_mins n x2 (lpN x1 (nI 0)) w), ((m_keeps acs w kp).1))))
set_option maxRecDepth 1000000 in
theorem mu2_ok {u : Nat → Value} {n d : Nat} {h h0 : J_H} {th sst acs tm x1 x2 : Int32} {w sd ot kp tk od be : List Int32} {I J : List Int32 → Prop} (H : m_Inv n I J) (H2 : m_Iv2 n I) (hI : I w) (hsd : sd.length = 602) (hot : ot.length = 602) (K : KN h [(359, .inl (10, [.int th, .ref 360, .ref 361, .ref 362, .ref 363, .ref 364, .ref 365, .ref 366, .ref 367, (u 9), .int sst, (u 11), (u 12), .int acs, (u 14), (u 15), (u 16), (u 17), (u 18), (u 19), (u 20), (u 21), .ref 368, .int tm, .ref 369, .ref 370, .ref 371, (u 27)])), (360, .inr (.inl (0, w))), (362, .inr (.inl (0, sd))), (363, .inr (.inl (0, ot))), (364, .inr (.inl (0, kp))), (368, .inr (.inl (0, tk))), (369, .inr (.inl (0, od))), (370, .inr (.inl (0, be)))] h0) : j_V jP d 283 0 (lv_args 0 [.ref 359, .int x1, .int x2]) [] h (fun rv h' => rv = some (.int (m_go n th sst acs w kp x1 x2).1) ∧ ∃ (ot' tk' : List Int32) (tm' : Int32), ot'.length = 602 ∧ KN h' [(359, .inl (10, [.int (m_go n th sst acs w kp x1 x2).2.1, .ref 360, .ref 361, .ref 362, .ref 363, .ref 364, .ref 365, .ref 366, .ref 367, (u 9), .int (m_go n th sst acs w kp x1 x2).2.2.1, (u 11), (u 12), .int (m_go n th sst acs w kp x1 x2).2.2.2.1, (u 14), (u 15), (u 16), (u 17), (u 18), (u 19), (u 20), (u 21), .ref 368, .int tm', .ref 369, .ref 370, .ref 371, (u 27)])), (360, .inr (.inl (0, (m_go n th sst acs w kp x1 x2).2.2.2.2.1))), (362, .inr (.inl (0, sd))), (363, .inr (.inl (0, ot'))), (364, .inr (.inl (0, (m_go n th sst acs w kp x1 x2).2.2.2.2.2))), (368, .inr (.inl (0, tk'))), (369, .inr (.inl (0, od))), (370, .inr (.inl (0, be)))] h0) := by
  show j_V jP d 283 0 [(0, .ref 359), (1, .int x1), (2, .int x2)] [] h _
  obtain ⟨lv, elv, L⟩ : ∃ lv, lv = [(0, .ref 359), (1, .int x1), (2, .int x2)] ∧ LK lv [(0, .ref 359), (1, .int x1), (2, .int x2)] := ⟨_, rfl, LK.rf⟩
  rw [← elv]
  clear elv
  refine j_V.ldL mu2_M mu2_0 rfl (i := 1) (kd := 0) (v := .int x1) (pc' := 1) rfl L rfl rfl rfl ?_
  refine j_V.one mu2_M mu2_1 (by decide) (pc' := 2) (st' := [.int 1, .int x1]) rfl ?_
  refine j_V.one mu2_M mu2_2 (by decide) (pc' := 4) (st' := [.int 99, .int 1, .int x1]) rfl ?_
  refine j_V.cl mu2_M mu2_4 rfl (md := 2) (mj := 171) rfl (by decide) ma0_M (As := [.int x1, .int 1, .int 99]) (rest := []) (jk_spl2 rfl rfl (Nat.le_of_ble_eq_true rfl) (Nat.le_of_ble_eq_true rfl)) (fun d => ma0_ok (K.fi [] rfl rfl)) ?_
  rintro r hz ⟨rfl, ez⟩
  rw [ez]
  clear ez
  show j_V jP _ 283 7 lv [.int (m_isFrom x1 1 99)] h _
  refine j_V.ifc mu2_M mu2_7 (t := 16) rfl (fun c7_0 => ?_) (fun c7_0 => ?_)
  · replace c7_0 : ¬ ((m_isFrom x1 1 99) = 0) := jd_ne c7_0
    refine j_V.ldL mu2_M mu2_16 rfl (i := 0) (kd := 2) (v := .ref 359) (pc' := 17) rfl L rfl rfl rfl ?_
    refine j_V.getK mu2_M mu2_17 (ci := 10) (j := 1) rfl K rfl rfl ?_
    refine j_V.one mu2_M mu2_20 (by decide) (pc' := 23) (st' := [.int 201, .ref 360]) rfl ?_
    refine j_V.iaA mu2_M mu2_23 K rfl ?_
    refine j_V.ldL mu2_M mu2_24 rfl (i := 1) (kd := 0) (v := .int x1) (pc' := 25) rfl L rfl rfl rfl ?_
    refine j_V.one mu2_M mu2_25 (by decide) (pc' := 26) (st' := [.int ((gA w 201) + x1)]) rfl ?_
    refine j_V.one mu2_M mu2_26 (by decide) (pc' := 29) (st' := [.int 999, .int ((gA w 201) + x1)]) rfl ?_
    refine j_V.icmp mu2_M mu2_29 (t := 38) rfl (fun c29_1 => ?_) (fun c29_1 => ?_)
    · replace c29_1 : ¬ (999 < ((gA w 201) + x1)) := jd_le c29_1
      refine j_V.ldL mu2_M mu2_38 rfl (i := 0) (kd := 2) (v := .ref 359) (pc' := 39) rfl L rfl rfl rfl ?_
      refine j_V.cl mu2_M mu2_39 rfl (md := 3) (mj := 281) rfl (by decide) mo2_M (As := [.ref 359]) (rest := []) (jk_spl3 (K.at rfl) rfl rfl rfl (Nat.le_of_ble_eq_true rfl) (Nat.le_of_ble_eq_true rfl)) (fun d => mo2_ok (u := fun j => [.int th, .ref 360, .ref 361, .ref 362, .ref 363, .ref 364, .ref 365, .ref 366, .ref 367, (u 9), .int sst, (u 11), (u 12), .int acs, (u 14), (u 15), (u 16), (u 17), (u 18), (u 19), (u 20), (u 21), .ref 368, .int tm, .ref 369, .ref 370, .ref 371, (u 27)].getD j .null) (K.fi [359, 360, 364] rfl rfl)) ?_
      rintro r h9 ⟨rfl, K9⟩
      have K : KN h9 [(359, .inl (10, [.int th, .ref 360, .ref 361, .ref 362, .ref 363, .ref 364, .ref 365, .ref 366, .ref 367, (u 9), .int sst, (u 11), (u 12), .int ((m_keeps acs w kp).2), (u 14), (u 15), (u 16), (u 17), (u 18), (u 19), (u 20), (u 21), .ref 368, .int tm, .ref 369, .ref 370, .ref 371, (u 27)])), (360, .inr (.inl (0, w))), (362, .inr (.inl (0, sd))), (363, .inr (.inl (0, ot))), (364, .inr (.inl (0, ((m_keeps acs w kp).1)))), (368, .inr (.inl (0, tk))), (369, .inr (.inl (0, od))), (370, .inr (.inl (0, be)))] h0 := K.mg K9 rfl rfl
      clear K9
      show j_V jP _ 283 42 lv [] h9 _
      refine j_V.one mu2_M mu2_42 (by decide) (pc' := 43) (st' := [.int 0]) rfl ?_
      refine j_V.stL mu2_M mu2_43 rfl (i := 3) (kd := 0) (kl' := [(0, .ref 359), (1, .int x1), (2, .int x2), (3, .int 0)]) (pc' := 44) rfl L rfl (by decide) rfl rfl rfl (fun lv L => ?_)
      have L : LK lv [(0, .ref 359), (1, .int x1), (2, .int x2), (3, .int (nI 0))] := L
      refine mu2_ok_l44 H H2 (lpN x1 (nI 0)) 0 w rfl hI hot L K (fun lv h ot1 tk1 tm1 w1 hot1 e1 hI1 L K => ?_)
      obtain rfl := e1
      refine j_V.ldL mu2_M mu2_60 rfl (i := 0) (kd := 2) (v := .ref 359) (pc' := 61) rfl L rfl rfl rfl ?_
      refine j_V.ldL mu2_M mu2_61 rfl (i := 0) (kd := 2) (v := .ref 359) (pc' := 62) rfl L rfl rfl rfl ?_
      refine j_V.getK mu2_M mu2_62 (ci := 10) (j := 1) rfl K rfl rfl ?_
      refine j_V.one mu2_M mu2_65 (by decide) (pc' := 68) (st' := [.int 201, .ref 360, .ref 359]) rfl ?_
      refine j_V.iaA mu2_M mu2_68 K rfl ?_
      refine j_V.cl mu2_M mu2_69 rfl (md := 3) (mj := 170) rfl (by decide) mo1_M (As := [.ref 359, .int (gA (m_mins n x2 (lpN x1 (nI 0)) w) 201)]) (rest := []) (jk_spl3 (K.at rfl) rfl rfl rfl (Nat.le_of_ble_eq_true rfl) (Nat.le_of_ble_eq_true rfl)) (fun d => mo1_ok (u := fun j => [.int th, .ref 360, .ref 361, .ref 362, .ref 363, .ref 364, .ref 365, .ref 366, .ref 367, (u 9), .int sst, (u 11), (u 12), .int ((m_keeps acs w kp).2), (u 14), (u 15), (u 16), (u 17), (u 18), (u 19), (u 20), (u 21), .ref 368, .int tm1, .ref 369, .ref 370, .ref 371, (u 27)].getD j .null) (K.fi [359] rfl rfl)) ?_
      rintro r h9 ⟨rfl, K9⟩
      have K : KN h9 [(359, .inl (10, [.int ((m_gives th sst (gA (m_mins n x2 (lpN x1 (nI 0)) w) 201)).2.1), .ref 360, .ref 361, .ref 362, .ref 363, .ref 364, .ref 365, .ref 366, .ref 367, (u 9), .int ((m_gives th sst (gA (m_mins n x2 (lpN x1 (nI 0)) w) 201)).2.2), (u 11), (u 12), .int ((m_keeps acs w kp).2), (u 14), (u 15), (u 16), (u 17), (u 18), (u 19), (u 20), (u 21), .ref 368, .int tm1, .ref 369, .ref 370, .ref 371, (u 27)])), (360, .inr (.inl (0, (m_mins n x2 (lpN x1 (nI 0)) w)))), (362, .inr (.inl (0, sd))), (363, .inr (.inl (0, ot1))), (364, .inr (.inl (0, ((m_keeps acs w kp).1)))), (368, .inr (.inl (0, tk1))), (369, .inr (.inl (0, od))), (370, .inr (.inl (0, be)))] h0 := K.mg K9 rfl rfl
      clear K9
      show j_V jP _ 283 72 lv [.int ((m_gives th sst (gA (m_mins n x2 (lpN x1 (nI 0)) w) 201)).1)] h9 _
      refine j_V.ri mu2_M mu2_72 ?_
      rw [show (m_go n th sst acs w kp x1 x2) = _ from ((if_neg c7_0).trans ((if_neg c29_1).trans (rfl)))]
      exact ⟨rfl, ot1, tk1, tm1, hot1, K⟩
    · replace c29_1 : 999 < ((gA w 201) + x1) := jd_len c29_1
      refine j_V.ldL mu2_M mu2_32 rfl (i := 0) (kd := 2) (v := .ref 359) (pc' := 33) rfl L rfl rfl rfl ?_
      refine j_V.one mu2_M mu2_33 (by decide) (pc' := 34) (st' := [.int 3, .ref 359]) rfl ?_
      refine j_V.cl mu2_M mu2_34 rfl (md := 3) (mj := 169) rfl (by decide) mo0_M (As := [.ref 359, .int 3]) (rest := []) (jk_spl3 (K.at rfl) rfl rfl rfl (Nat.le_of_ble_eq_true rfl) (Nat.le_of_ble_eq_true rfl)) (fun d => mo0_ok (u := fun j => [.int th, .ref 360, .ref 361, .ref 362, .ref 363, .ref 364, .ref 365, .ref 366, .ref 367, (u 9), .int sst, (u 11), (u 12), .int acs, (u 14), (u 15), (u 16), (u 17), (u 18), (u 19), (u 20), (u 21), .ref 368, .int tm, .ref 369, .ref 370, .ref 371, (u 27)].getD j .null) (K.fi [359] rfl rfl)) ?_
      rintro r h9 ⟨rfl, K9⟩
      have K : KN h9 [(359, .inl (10, [.int ((m_refuse th sst 3).2.1), .ref 360, .ref 361, .ref 362, .ref 363, .ref 364, .ref 365, .ref 366, .ref 367, (u 9), .int ((m_refuse th sst 3).2.2), (u 11), (u 12), .int acs, (u 14), (u 15), (u 16), (u 17), (u 18), (u 19), (u 20), (u 21), .ref 368, .int tm, .ref 369, .ref 370, .ref 371, (u 27)])), (360, .inr (.inl (0, w))), (362, .inr (.inl (0, sd))), (363, .inr (.inl (0, ot))), (364, .inr (.inl (0, kp))), (368, .inr (.inl (0, tk))), (369, .inr (.inl (0, od))), (370, .inr (.inl (0, be)))] h0 := K.mg K9 rfl rfl
      clear K9
      show j_V jP _ 283 37 lv [.int ((m_refuse th sst 3).1)] h9 _
      refine j_V.ri mu2_M mu2_37 ?_
      rw [show (m_go n th sst acs w kp x1 x2) = _ from ((if_neg c7_0).trans ((if_pos c29_1).trans (rfl)))]
      exact ⟨rfl, ot, tk, tm, hot, K⟩
  · replace c7_0 : (m_isFrom x1 1 99) = 0 := jd_nen c7_0
    refine j_V.ldL mu2_M mu2_10 rfl (i := 0) (kd := 2) (v := .ref 359) (pc' := 11) rfl L rfl rfl rfl ?_
    refine j_V.one mu2_M mu2_11 (by decide) (pc' := 12) (st' := [.int 1, .ref 359]) rfl ?_
    refine j_V.cl mu2_M mu2_12 rfl (md := 3) (mj := 169) rfl (by decide) mo0_M (As := [.ref 359, .int 1]) (rest := []) (jk_spl3 (K.at rfl) rfl rfl rfl (Nat.le_of_ble_eq_true rfl) (Nat.le_of_ble_eq_true rfl)) (fun d => mo0_ok (u := fun j => [.int th, .ref 360, .ref 361, .ref 362, .ref 363, .ref 364, .ref 365, .ref 366, .ref 367, (u 9), .int sst, (u 11), (u 12), .int acs, (u 14), (u 15), (u 16), (u 17), (u 18), (u 19), (u 20), (u 21), .ref 368, .int tm, .ref 369, .ref 370, .ref 371, (u 27)].getD j .null) (K.fi [359] rfl rfl)) ?_
    rintro r h9 ⟨rfl, K9⟩
    have K : KN h9 [(359, .inl (10, [.int ((m_refuse th sst 1).2.1), .ref 360, .ref 361, .ref 362, .ref 363, .ref 364, .ref 365, .ref 366, .ref 367, (u 9), .int ((m_refuse th sst 1).2.2), (u 11), (u 12), .int acs, (u 14), (u 15), (u 16), (u 17), (u 18), (u 19), (u 20), (u 21), .ref 368, .int tm, .ref 369, .ref 370, .ref 371, (u 27)])), (360, .inr (.inl (0, w))), (362, .inr (.inl (0, sd))), (363, .inr (.inl (0, ot))), (364, .inr (.inl (0, kp))), (368, .inr (.inl (0, tk))), (369, .inr (.inl (0, od))), (370, .inr (.inl (0, be)))] h0 := K.mg K9 rfl rfl
    clear K9
    show j_V jP _ 283 15 lv [.int ((m_refuse th sst 1).1)] h9 _
    refine j_V.ri mu2_M mu2_15 ?_
    rw [show (m_go n th sst acs w kp x1 x2) = _ from ((if_pos c7_0).trans (rfl))]
    exact ⟨rfl, ot, tk, tm, hot, K⟩

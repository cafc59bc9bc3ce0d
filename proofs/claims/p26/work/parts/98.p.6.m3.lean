/-! the reference's couldGo and isSafe, by wip/px/gen_m3.py -/
set_option maxRecDepth 100000 in
theorem mh0_M : j_meth jP 217 = some (yX10_couldGo, cX10_couldGo, 5, (some .boolean), 2, false, 10) := rfl
set_option maxRecDepth 100000 in
theorem mh0_0 : j_code jP 217 0 = some (.aload_n 0) := rfl
set_option maxRecDepth 100000 in
theorem mh0_1 : j_code jP 217 1 = some (.iload_n 1) := rfl
set_option maxRecDepth 100000 in
theorem mh0_2 : j_code jP 217 2 = some (.bipush 6) := rfl
set_option maxRecDepth 100000 in
theorem mh0_4 : j_code jP 217 4 = some (.invokevirtual 198) := rfl
set_option maxRecDepth 100000 in
theorem mh0_7 : j_code jP 217 7 = some (.iconst 2) := rfl
set_option maxRecDepth 100000 in
theorem mh0_8 : j_code jP 217 8 = some (.if_icmp .ne 11) := rfl
set_option maxRecDepth 100000 in
theorem mh0_11 : j_code jP 217 11 = some (.aload_n 0) := rfl
set_option maxRecDepth 100000 in
theorem mh0_12 : j_code jP 217 12 = some (.iload_n 1) := rfl
set_option maxRecDepth 100000 in
theorem mh0_13 : j_code jP 217 13 = some (.invokevirtual 204) := rfl
set_option maxRecDepth 100000 in
theorem mh0_16 : j_code jP 217 16 = some (.goto 10) := rfl
set_option maxRecDepth 100000 in
theorem mh0_19 : j_code jP 217 19 = some (.aload_n 0) := rfl
set_option maxRecDepth 100000 in
theorem mh0_20 : j_code jP 217 20 = some (.iload_n 1) := rfl
set_option maxRecDepth 100000 in
theorem mh0_21 : j_code jP 217 21 = some (.bipush 7) := rfl
set_option maxRecDepth 100000 in
theorem mh0_23 : j_code jP 217 23 = some (.invokevirtual 198) := rfl
set_option maxRecDepth 100000 in
theorem mh0_26 : j_code jP 217 26 = some (.istore_n 3) := rfl
set_option maxRecDepth 100000 in
theorem mh0_27 : j_code jP 217 27 = some (.iload_n 3) := rfl
set_option maxRecDepth 100000 in
theorem mh0_28 : j_code jP 217 28 = some (.aload_n 0) := rfl
set_option maxRecDepth 100000 in
theorem mh0_29 : j_code jP 217 29 = some (.iload_n 1) := rfl
set_option maxRecDepth 100000 in
theorem mh0_30 : j_code jP 217 30 = some (.iconst 2) := rfl
set_option maxRecDepth 100000 in
theorem mh0_31 : j_code jP 217 31 = some (.invokevirtual 198) := rfl
set_option maxRecDepth 100000 in
theorem mh0_34 : j_code jP 217 34 = some (.if_icmp .ne 5) := rfl
set_option maxRecDepth 100000 in
theorem mh0_37 : j_code jP 217 37 = some (.iconst 1) := rfl
set_option maxRecDepth 100000 in
theorem mh0_38 : j_code jP 217 38 = some (.ireturn) := rfl
set_option maxRecDepth 100000 in
theorem mh0_39 : j_code jP 217 39 = some (.iload_n 3) := rfl
set_option maxRecDepth 100000 in
theorem mh0_40 : j_code jP 217 40 = some (.aload_n 0) := rfl
set_option maxRecDepth 100000 in
theorem mh0_41 : j_code jP 217 41 = some (.iload_n 1) := rfl
set_option maxRecDepth 100000 in
theorem mh0_42 : j_code jP 217 42 = some (.invokevirtual 201) := rfl
set_option maxRecDepth 100000 in
theorem mh0_45 : j_code jP 217 45 = some (.iadd) := rfl
set_option maxRecDepth 100000 in
theorem mh0_46 : j_code jP 217 46 = some (.istore 4) := rfl
set_option maxRecDepth 100000 in
theorem mh0_48 : j_code jP 217 48 = some (.iload 4) := rfl
set_option maxRecDepth 100000 in
theorem mh0_50 : j_code jP 217 50 = some (.aload_n 0) := rfl
set_option maxRecDepth 100000 in
theorem mh0_51 : j_code jP 217 51 = some (.iload_n 1) := rfl
set_option maxRecDepth 100000 in
theorem mh0_52 : j_code jP 217 52 = some (.iconst 2) := rfl
set_option maxRecDepth 100000 in
theorem mh0_53 : j_code jP 217 53 = some (.invokevirtual 198) := rfl
set_option maxRecDepth 100000 in
theorem mh0_56 : j_code jP 217 56 = some (.if_icmp .eq 29) := rfl
set_option maxRecDepth 100000 in
theorem mh0_59 : j_code jP 217 59 = some (.aload_n 0) := rfl
set_option maxRecDepth 100000 in
theorem mh0_60 : j_code jP 217 60 = some (.iload_n 1) := rfl
set_option maxRecDepth 100000 in
theorem mh0_61 : j_code jP 217 61 = some (.iload 4) := rfl
set_option maxRecDepth 100000 in
theorem mh0_63 : j_code jP 217 63 = some (.iload_n 2) := rfl
set_option maxRecDepth 100000 in
theorem mh0_64 : j_code jP 217 64 = some (.invokevirtual 241) := rfl
set_option maxRecDepth 100000 in
theorem mh0_67 : j_code jP 217 67 = some (.ifCond .ne 5) := rfl
set_option maxRecDepth 100000 in
theorem mh0_70 : j_code jP 217 70 = some (.iconst 0) := rfl
set_option maxRecDepth 100000 in
theorem mh0_71 : j_code jP 217 71 = some (.ireturn) := rfl
set_option maxRecDepth 100000 in
theorem mh0_72 : j_code jP 217 72 = some (.iload 4) := rfl
set_option maxRecDepth 100000 in
theorem mh0_74 : j_code jP 217 74 = some (.aload_n 0) := rfl
set_option maxRecDepth 100000 in
theorem mh0_75 : j_code jP 217 75 = some (.iload_n 1) := rfl
set_option maxRecDepth 100000 in
theorem mh0_76 : j_code jP 217 76 = some (.invokevirtual 201) := rfl
set_option maxRecDepth 100000 in
theorem mh0_79 : j_code jP 217 79 = some (.iadd) := rfl
set_option maxRecDepth 100000 in
theorem mh0_80 : j_code jP 217 80 = some (.istore 4) := rfl
set_option maxRecDepth 100000 in
theorem mh0_82 : j_code jP 217 82 = some (.goto (-34)) := rfl
set_option maxRecDepth 100000 in
theorem mh0_85 : j_code jP 217 85 = some (.iconst 1) := rfl
set_option maxRecDepth 100000 in
theorem mh0_86 : j_code jP 217 86 = some (.ireturn) := rfl
def m_couldGo_l48 (w : List Int32) (v1 : Int32) (v2 : Int32) : Nat → Int32 → Int32
  | 0, v4 => 1
  | f + 1, v4 => (if (m_hasRoom w v1 v4 v2) = 0 then 0 else (m_couldGo_l48 w v1 v2 f (v4 + (m_step w v1))))
theorem m_step_pm (w : List Int32) (t : Int32) : m_step w t = 1 ∨ m_step w t = -1 := by
  unfold m_step
  split
  · exact Or.inl rfl
  · exact Or.inr rfl
/-- f steps from x on lies TO -/
def m_cg (w : List Int32) (t x : Int32) (f : Nat) : Prop := (m_of w t 2).toInt = x.toInt + (f : Int) * (m_step w t).toInt ∧ -100 ≤ x.toInt ∧ x.toInt ≤ 100 ∧ f ≤ 100 ∧ -100 ≤ (m_of w t 2).toInt ∧ (m_of w t 2).toInt ≤ 100
theorem m_cg_z {w : List Int32} {t x : Int32} (h : m_cg w t x 0) : x = m_of w t 2 := Int32.toInt_inj.mp (by have := h.1; omega)
theorem m_cg_n {w : List Int32} {t x : Int32} {f : Nat} (h : m_cg w t x (f + 1)) : ¬ x = m_of w t 2 := by
  intro e
  obtain ⟨h1, -⟩ := h
  rw [e] at h1
  rcases m_step_pm w t with z | z
  · rw [z, show (1 : Int32).toInt = 1 from rfl] at h1; omega
  · rw [z, show (-1 : Int32).toInt = -1 from rfl] at h1; omega
theorem m_cg_s {w : List Int32} {t x : Int32} {f : Nat} (h : m_cg w t x (f + 1)) : m_cg w t (x + m_step w t) f := by
  obtain ⟨h1, h2, h3, h4, h5, h6⟩ := h
  rcases m_step_pm w t with z | z
  · rw [z, show (1 : Int32).toInt = 1 from rfl] at h1
    have e : (x + 1).toInt = x.toInt + 1 := by rw [Int32.toInt_add, show (1 : Int32).toInt = 1 from rfl, Int.bmod_eq_of_le (by omega) (by omega)]
    unfold m_cg
    rw [z, e, show (1 : Int32).toInt = 1 from rfl]
    omega
  · rw [z, show (-1 : Int32).toInt = -1 from rfl] at h1
    have e : (x + -1).toInt = x.toInt + -1 := by rw [Int32.toInt_add, show (-1 : Int32).toInt = -1 from rfl, Int.bmod_eq_of_le (by omega) (by omega)]
    unfold m_cg
    rw [z, e, show (-1 : Int32).toInt = -1 from rfl]
    omega
set_option maxRecDepth 1000000 in
theorem mh0_ok_l48 {u : Nat → Value} {w : List Int32} {v1 v2 : Int32} {d : Nat} {h h0 : J_H} : ∀ (f : Nat) (v4 : Int32) {lv : J_L}, m_cg w v1 v4 f → LK lv [(0, .ref 359), (1, .int v1), (2, .int v2), (4, .int v4)] → KN h [(359, .inl (10, [(u 0), .ref 360, .ref 361, .ref 362, .ref 363, .ref 364, .ref 365, .ref 366, .ref 367, (u 9), (u 10), (u 11), (u 12), (u 13), (u 14), (u 15), (u 16), (u 17), (u 18), (u 19), (u 20), (u 21), .ref 368, (u 23), .ref 369, .ref 370, .ref 371, (u 27)])), (360, .inr (.inl (0, w)))] h0 → j_V jP d 217 48 lv [] h (fun rv h' => rv = some (.int (m_couldGo_l48 w v1 v2 f v4)) ∧ h' = h) := by
  intro f
  induction f with
  | zero =>
    intro v4 lv e L K
    refine j_V.ldL mh0_M mh0_48 rfl (i := 4) (kd := 0) (v := .int v4) (pcJ := 50) rfl L rfl rfl rfl ?_
    refine j_V.ldL mh0_M mh0_50 rfl (i := 0) (kd := 2) (v := .ref 359) (pcJ := 51) rfl L rfl rfl rfl ?_
    refine j_V.ldL mh0_M mh0_51 rfl (i := 1) (kd := 0) (v := .int v1) (pcJ := 52) rfl L rfl rfl rfl ?_
    refine j_V.one mh0_M mh0_52 (by decide) (pcJ := 53) (stJ := [.int 2, .int v1, .ref 359, .int v4]) rfl ?_
    refine j_V.cl mh0_M mh0_53 rfl (md := 3) (mj := 178) rfl (by decide) ma3_M (As := [.ref 359, .int v1, .int 2]) (rest := [.int v4]) (jk_spl3 (K.at rfl) rfl rfl rfl (Nat.le_of_ble_eq_true rfl) (Nat.le_of_ble_eq_true rfl)) (fun d => ma3_ok (K.fi [359, 360] rfl rfl)) ?_
    rintro r hz ⟨rfl, ez⟩
    rw [ez]
    clear ez
    show j_V jP _ 217 56 lv [.int (m_of w v1 2), .int v4] h _
    refine j_V.icmp mh0_M mh0_56 (t := 85) rfl (fun c56_0 => ?_) (fun c56_0 => ?_)
    · replace c56_0 : v4 = (m_of w v1 2) := jd_eq c56_0
      refine j_V.one mh0_M mh0_85 (by decide) (pcJ := 86) (stJ := [.int 1]) rfl ?_
      exact j_V.ri mh0_M mh0_86 ⟨congrArg (fun z => some (Value.int z)) (Eq.symm (show (m_couldGo_l48 w v1 v2 0 v4) = 1 from rfl)), rfl⟩
    · replace c56_0 : ¬ (v4 = (m_of w v1 2)) := jd_eqn c56_0
      exact absurd (m_cg_z e) c56_0
  | succ f ih =>
    intro v4 lv e L K
    refine j_V.ldL mh0_M mh0_48 rfl (i := 4) (kd := 0) (v := .int v4) (pcJ := 50) rfl L rfl rfl rfl ?_
    refine j_V.ldL mh0_M mh0_50 rfl (i := 0) (kd := 2) (v := .ref 359) (pcJ := 51) rfl L rfl rfl rfl ?_
    refine j_V.ldL mh0_M mh0_51 rfl (i := 1) (kd := 0) (v := .int v1) (pcJ := 52) rfl L rfl rfl rfl ?_
    refine j_V.one mh0_M mh0_52 (by decide) (pcJ := 53) (stJ := [.int 2, .int v1, .ref 359, .int v4]) rfl ?_
    refine j_V.cl mh0_M mh0_53 rfl (md := 3) (mj := 178) rfl (by decide) ma3_M (As := [.ref 359, .int v1, .int 2]) (rest := [.int v4]) (jk_spl3 (K.at rfl) rfl rfl rfl (Nat.le_of_ble_eq_true rfl) (Nat.le_of_ble_eq_true rfl)) (fun d => ma3_ok (K.fi [359, 360] rfl rfl)) ?_
    rintro r hz ⟨rfl, ez⟩
    rw [ez]
    clear ez
    show j_V jP _ 217 56 lv [.int (m_of w v1 2), .int v4] h _
    refine j_V.icmp mh0_M mh0_56 (t := 85) rfl (fun c56_0 => ?_) (fun c56_0 => ?_)
    · replace c56_0 : v4 = (m_of w v1 2) := jd_eq c56_0
      exact absurd c56_0 (m_cg_n e)
    · replace c56_0 : ¬ (v4 = (m_of w v1 2)) := jd_eqn c56_0
      refine j_V.ldL mh0_M mh0_59 rfl (i := 0) (kd := 2) (v := .ref 359) (pcJ := 60) rfl L rfl rfl rfl ?_
      refine j_V.ldL mh0_M mh0_60 rfl (i := 1) (kd := 0) (v := .int v1) (pcJ := 61) rfl L rfl rfl rfl ?_
      refine j_V.ldL mh0_M mh0_61 rfl (i := 4) (kd := 0) (v := .int v4) (pcJ := 63) rfl L rfl rfl rfl ?_
      refine j_V.ldL mh0_M mh0_63 rfl (i := 2) (kd := 0) (v := .int v2) (pcJ := 64) rfl L rfl rfl rfl ?_
      refine j_V.cl mh0_M mh0_64 rfl (md := 3) (mj := 218) rfl (by decide) mb6_M (As := [.ref 359, .int v1, .int v4, .int v2]) (rest := []) (jk_spl3 (K.at rfl) rfl rfl rfl (Nat.le_of_ble_eq_true rfl) (Nat.le_of_ble_eq_true rfl)) (fun d => mb6_ok (K.fi [359, 360] rfl rfl)) ?_
      rintro r hz ⟨rfl, ez⟩
      rw [ez]
      clear ez
      show j_V jP _ 217 67 lv [.int (m_hasRoom w v1 v4 v2)] h _
      refine j_V.ifc mh0_M mh0_67 (t := 72) rfl (fun c67_0 => ?_) (fun c67_0 => ?_)
      · replace c67_0 : ¬ ((m_hasRoom w v1 v4 v2) = 0) := jd_ne c67_0
        refine j_V.ldL mh0_M mh0_72 rfl (i := 4) (kd := 0) (v := .int v4) (pcJ := 74) rfl L rfl rfl rfl ?_
        refine j_V.ldL mh0_M mh0_74 rfl (i := 0) (kd := 2) (v := .ref 359) (pcJ := 75) rfl L rfl rfl rfl ?_
        refine j_V.ldL mh0_M mh0_75 rfl (i := 1) (kd := 0) (v := .int v1) (pcJ := 76) rfl L rfl rfl rfl ?_
        refine j_V.cl mh0_M mh0_76 rfl (md := 3) (mj := 203) rfl (by decide) ma4_M (As := [.ref 359, .int v1]) (rest := [.int v4]) (jk_spl3 (K.at rfl) rfl rfl rfl (Nat.le_of_ble_eq_true rfl) (Nat.le_of_ble_eq_true rfl)) (fun d => ma4_ok (K.fi [359, 360] rfl rfl)) ?_
        rintro r hz ⟨rfl, ez⟩
        rw [ez]
        clear ez
        show j_V jP _ 217 79 lv [.int (m_step w v1), .int v4] h _
        refine j_V.one mh0_M mh0_79 (by decide) (pcJ := 80) (stJ := [.int (v4 + (m_step w v1))]) rfl ?_
        refine j_V.stL mh0_M mh0_80 rfl (i := 4) (kd := 0) (kl' := [(0, .ref 359), (1, .int v1), (2, .int v2), (4, .int (v4 + (m_step w v1)))]) (pcJ := 82) rfl L rfl (by decide) rfl rfl rfl (fun lv L => ?_)
        refine j_V.gto mh0_M mh0_82 (t := 48) rfl ?_
        refine j_V.mono (ih _ (m_cg_s e) L K) ?_
        rintro r hz ⟨rfl, rfl⟩
        exact ⟨congrArg (fun z => some (Value.int z)) (Eq.symm (show (m_couldGo_l48 w v1 v2 (f + 1) v4) = (m_couldGo_l48 w v1 v2 f (v4 + (m_step w v1))) from (if_neg c67_0).trans (rfl))), rfl⟩
      · replace c67_0 : (m_hasRoom w v1 v4 v2) = 0 := jd_nen c67_0
        refine j_V.one mh0_M mh0_70 (by decide) (pcJ := 71) (stJ := [.int 0]) rfl ?_
        exact j_V.ri mh0_M mh0_71 ⟨congrArg (fun z => some (Value.int z)) (Eq.symm (show (m_couldGo_l48 w v1 v2 (f + 1) v4) = 0 from (if_pos c67_0).trans (rfl))), rfl⟩
/-- where a train's way begins; how many stations lie behind it, TO with them -/
def m_cs (w : List Int32) (t : Int32) : Int32 := (if (m_of w t 6) = 2 then (m_next w t) else (m_of w t 7))
def m_couldGo (w : List Int32) (t left : Int32) (f : Nat) : Int32 := (if (m_cs w t) = (m_of w t 2) then 1 else (m_couldGo_l48 w t left (f - 1) ((m_cs w t) + (m_step w t))))
set_option maxRecDepth 1000000 in
theorem mh0_ok {u : Nat → Value} {w : List Int32} {x1 x2 : Int32} {f d : Nat} {h h0 : J_H} (e : m_cg w x1 (m_cs w x1) f) (K : KN h [(359, .inl (10, [(u 0), .ref 360, .ref 361, .ref 362, .ref 363, .ref 364, .ref 365, .ref 366, .ref 367, (u 9), (u 10), (u 11), (u 12), (u 13), (u 14), (u 15), (u 16), (u 17), (u 18), (u 19), (u 20), (u 21), .ref 368, (u 23), .ref 369, .ref 370, .ref 371, (u 27)])), (360, .inr (.inl (0, w)))] h0) : j_V jP d 217 0 (lv_args 0 [.ref 359, .int x1, .int x2]) [] h (fun rv h' => rv = some (.int (m_couldGo w x1 x2 f)) ∧ h' = h) := by
  show j_V jP d 217 0 [(0, .ref 359), (1, .int x1), (2, .int x2)] [] h _
  obtain ⟨lv, elv, L⟩ : ∃ lv, lv = [(0, .ref 359), (1, .int x1), (2, .int x2)] ∧ LK lv [(0, .ref 359), (1, .int x1), (2, .int x2)] := ⟨_, rfl, LK.rf⟩
  rw [← elv]
  clear elv
  refine j_V.ldL mh0_M mh0_0 rfl (i := 0) (kd := 2) (v := .ref 359) (pcJ := 1) rfl L rfl rfl rfl ?_
  refine j_V.ldL mh0_M mh0_1 rfl (i := 1) (kd := 0) (v := .int x1) (pcJ := 2) rfl L rfl rfl rfl ?_
  refine j_V.one mh0_M mh0_2 (by decide) (pcJ := 4) (stJ := [.int 6, .int x1, .ref 359]) rfl ?_
  refine j_V.cl mh0_M mh0_4 rfl (md := 3) (mj := 178) rfl (by decide) ma3_M (As := [.ref 359, .int x1, .int 6]) (rest := []) (jk_spl3 (K.at rfl) rfl rfl rfl (Nat.le_of_ble_eq_true rfl) (Nat.le_of_ble_eq_true rfl)) (fun d => ma3_ok (K.fi [359, 360] rfl rfl)) ?_
  rintro r hz ⟨rfl, ez⟩
  rw [ez]
  clear ez
  show j_V jP _ 217 7 lv [.int (m_of w x1 6)] h _
  refine j_V.one mh0_M mh0_7 (by decide) (pcJ := 8) (stJ := [.int 2, .int (m_of w x1 6)]) rfl ?_
  refine j_V.cut (b := 26) (stJ := [.int ((if (m_of w x1 6) = 2 then (m_next w x1) else (m_of w x1 7)) : Int32)]) (fun v => [(0, .ref 359), (1, .int x1), (2, .int x2)]) ((if (m_of w x1 6) = 2 then (m_next w x1) else (m_of w x1 7)) : Int32) (fun Q kk => ?_) (fun lv L => ?_)
  · refine j_V.icmp mh0_M mh0_8 (t := 19) rfl (fun c8_0 => ?_) (fun c8_0 => ?_)
    · replace c8_0 : ¬ ((m_of w x1 6) = 2) := jd_ne c8_0
      refine j_V.ldL mh0_M mh0_19 rfl (i := 0) (kd := 2) (v := .ref 359) (pcJ := 20) rfl L rfl rfl rfl ?_
      refine j_V.ldL mh0_M mh0_20 rfl (i := 1) (kd := 0) (v := .int x1) (pcJ := 21) rfl L rfl rfl rfl ?_
      refine j_V.one mh0_M mh0_21 (by decide) (pcJ := 23) (stJ := [.int 7, .int x1, .ref 359]) rfl ?_
      refine j_V.cl mh0_M mh0_23 rfl (md := 3) (mj := 178) rfl (by decide) ma3_M (As := [.ref 359, .int x1, .int 7]) (rest := []) (jk_spl3 (K.at rfl) rfl rfl rfl (Nat.le_of_ble_eq_true rfl) (Nat.le_of_ble_eq_true rfl)) (fun d => ma3_ok (K.fi [359, 360] rfl rfl)) ?_
      rintro r hz ⟨rfl, ez⟩
      rw [ez]
      clear ez
      show j_V jP _ 217 26 lv [.int (m_of w x1 7)] h _
      exact Eq.subst (motive := fun z => j_V jP _ 217 26 _ (.int z :: []) h Q) (show ((if (m_of w x1 6) = 2 then (m_next w x1) else (m_of w x1 7)) : Int32) = (m_of w x1 7) from (if_neg c8_0).trans (rfl)) (kk _ L)
    · replace c8_0 : (m_of w x1 6) = 2 := jd_nen c8_0
      refine j_V.ldL mh0_M mh0_11 rfl (i := 0) (kd := 2) (v := .ref 359) (pcJ := 12) rfl L rfl rfl rfl ?_
      refine j_V.ldL mh0_M mh0_12 rfl (i := 1) (kd := 0) (v := .int x1) (pcJ := 13) rfl L rfl rfl rfl ?_
      refine j_V.cl mh0_M mh0_13 rfl (md := 3) (mj := 204) rfl (by decide) ma5_M (As := [.ref 359, .int x1]) (rest := []) (jk_spl3 (K.at rfl) rfl rfl rfl (Nat.le_of_ble_eq_true rfl) (Nat.le_of_ble_eq_true rfl)) (fun d => ma5_ok (K.fi [359, 360] rfl rfl)) ?_
      rintro r hz ⟨rfl, ez⟩
      rw [ez]
      clear ez
      show j_V jP _ 217 16 lv [.int (m_next w x1)] h _
      refine j_V.gto mh0_M mh0_16 (t := 26) rfl ?_
      exact Eq.subst (motive := fun z => j_V jP _ 217 26 _ (.int z :: []) h Q) (show ((if (m_of w x1 6) = 2 then (m_next w x1) else (m_of w x1 7)) : Int32) = (m_next w x1) from (if_pos c8_0).trans (rfl)) (kk _ L)
  refine j_V.stL mh0_M mh0_26 rfl (i := 3) (kd := 0) (kl' := [(0, .ref 359), (1, .int x1), (2, .int x2), (3, .int ((if (m_of w x1 6) = 2 then (m_next w x1) else (m_of w x1 7)) : Int32))]) (pcJ := 27) rfl L rfl (by decide) rfl rfl rfl (fun lv L => ?_)
  refine j_V.ldL mh0_M mh0_27 rfl (i := 3) (kd := 0) (v := .int ((if (m_of w x1 6) = 2 then (m_next w x1) else (m_of w x1 7)) : Int32)) (pcJ := 28) rfl L rfl rfl rfl ?_
  refine j_V.ldL mh0_M mh0_28 rfl (i := 0) (kd := 2) (v := .ref 359) (pcJ := 29) rfl L rfl rfl rfl ?_
  refine j_V.ldL mh0_M mh0_29 rfl (i := 1) (kd := 0) (v := .int x1) (pcJ := 30) rfl L rfl rfl rfl ?_
  refine j_V.one mh0_M mh0_30 (by decide) (pcJ := 31) (stJ := [.int 2, .int x1, .ref 359, .int ((if (m_of w x1 6) = 2 then (m_next w x1) else (m_of w x1 7)) : Int32)]) rfl ?_
  refine j_V.cl mh0_M mh0_31 rfl (md := 3) (mj := 178) rfl (by decide) ma3_M (As := [.ref 359, .int x1, .int 2]) (rest := [.int ((if (m_of w x1 6) = 2 then (m_next w x1) else (m_of w x1 7)) : Int32)]) (jk_spl3 (K.at rfl) rfl rfl rfl (Nat.le_of_ble_eq_true rfl) (Nat.le_of_ble_eq_true rfl)) (fun d => ma3_ok (K.fi [359, 360] rfl rfl)) ?_
  rintro r hz ⟨rfl, ez⟩
  rw [ez]
  clear ez
  show j_V jP _ 217 34 lv [.int (m_of w x1 2), .int ((if (m_of w x1 6) = 2 then (m_next w x1) else (m_of w x1 7)) : Int32)] h _
  refine j_V.icmp mh0_M mh0_34 (t := 39) rfl (fun c34_0 => ?_) (fun c34_0 => ?_)
  · replace c34_0 : ¬ (((if (m_of w x1 6) = 2 then (m_next w x1) else (m_of w x1 7)) : Int32) = (m_of w x1 2)) := jd_ne c34_0
    refine j_V.ldL mh0_M mh0_39 rfl (i := 3) (kd := 0) (v := .int ((if (m_of w x1 6) = 2 then (m_next w x1) else (m_of w x1 7)) : Int32)) (pcJ := 40) rfl L rfl rfl rfl ?_
    refine j_V.ldL mh0_M mh0_40 rfl (i := 0) (kd := 2) (v := .ref 359) (pcJ := 41) rfl L rfl rfl rfl ?_
    refine j_V.ldL mh0_M mh0_41 rfl (i := 1) (kd := 0) (v := .int x1) (pcJ := 42) rfl L rfl rfl rfl ?_
    refine j_V.cl mh0_M mh0_42 rfl (md := 3) (mj := 203) rfl (by decide) ma4_M (As := [.ref 359, .int x1]) (rest := [.int ((if (m_of w x1 6) = 2 then (m_next w x1) else (m_of w x1 7)) : Int32)]) (jk_spl3 (K.at rfl) rfl rfl rfl (Nat.le_of_ble_eq_true rfl) (Nat.le_of_ble_eq_true rfl)) (fun d => ma4_ok (K.fi [359, 360] rfl rfl)) ?_
    rintro r hz ⟨rfl, ez⟩
    rw [ez]
    clear ez
    show j_V jP _ 217 45 lv [.int (m_step w x1), .int ((if (m_of w x1 6) = 2 then (m_next w x1) else (m_of w x1 7)) : Int32)] h _
    refine j_V.one mh0_M mh0_45 (by decide) (pcJ := 46) (stJ := [.int (((if (m_of w x1 6) = 2 then (m_next w x1) else (m_of w x1 7)) : Int32) + (m_step w x1))]) rfl ?_
    refine j_V.stL mh0_M mh0_46 rfl (i := 4) (kd := 0) (kl' := [(0, .ref 359), (1, .int x1), (2, .int x2), (3, .int ((if (m_of w x1 6) = 2 then (m_next w x1) else (m_of w x1 7)) : Int32)), (4, .int (((if (m_of w x1 6) = 2 then (m_next w x1) else (m_of w x1 7)) : Int32) + (m_step w x1)))]) (pcJ := 48) rfl L rfl (by decide) rfl rfl rfl (fun lv L => ?_)
    refine j_V.mono (mh0_ok_l48 (f - 1) _ (?_) (L.sub ⟨rfl, rfl, rfl, rfl, trivial⟩) K) ?_
    · exact m_cg_s (by rw [show f - 1 + 1 = f from Nat.succ_pred_eq_of_pos (Nat.pos_of_ne_zero (fun z => c34_0 (m_cg_z (by rw [← z]; exact e))))]; exact e)
    · rintro r hz ⟨rfl, rfl⟩
      exact ⟨congrArg (fun z => some (Value.int z)) (Eq.symm (show (m_couldGo w x1 x2 f) = (m_couldGo_l48 w x1 x2 (f - 1) ((m_cs w x1) + (m_step w x1))) from (if_neg c34_0).trans (rfl))), rfl⟩
  · replace c34_0 : ((if (m_of w x1 6) = 2 then (m_next w x1) else (m_of w x1 7)) : Int32) = (m_of w x1 2) := jd_nen c34_0
    refine j_V.one mh0_M mh0_37 (by decide) (pcJ := 38) (stJ := [.int 1]) rfl ?_
    exact j_V.ri mh0_M mh0_38 ⟨congrArg (fun z => some (Value.int z)) (Eq.symm (show (m_couldGo w x1 x2 f) = 1 from (if_pos c34_0).trans (rfl))), rfl⟩

/-! the reference's acts, as far as they are of one piece, by wip/px/gen_m7.py -/
set_option maxRecDepth 100000 in
theorem mo0_M : j_meth jP 169 = some (yX10_refuse, cX10_refuse, 2, (some .int), 1, false, 10) := rfl
set_option maxRecDepth 100000 in
theorem mo0_0 : j_code jP 169 0 = some (.aload_n 0) := rfl
set_option maxRecDepth 100000 in
theorem mo0_1 : j_code jP 169 1 = some (.iconst 0) := rfl
set_option maxRecDepth 100000 in
theorem mo0_2 : j_code jP 169 2 = some (.putfield 55) := rfl
set_option maxRecDepth 100000 in
theorem mo0_5 : j_code jP 169 5 = some (.aload_n 0) := rfl
set_option maxRecDepth 100000 in
theorem mo0_6 : j_code jP 169 6 = some (.iload_n 1) := rfl
set_option maxRecDepth 100000 in
theorem mo0_7 : j_code jP 169 7 = some (.putfield 58) := rfl
set_option maxRecDepth 100000 in
theorem mo0_10 : j_code jP 169 10 = some (.iconst (-1)) := rfl
set_option maxRecDepth 100000 in
theorem mo0_11 : j_code jP 169 11 = some (.ireturn) := rfl
def m_refuse (th : Int32) (sst : Int32) (x1 : Int32) : Int32 × Int32 × Int32 := ((-1), 0, x1)
set_option maxRecDepth 1000000 in
theorem mo0_ok {u : Nat → Value} {th : Int32} {sst : Int32} {acs : Int32} {x1 : Int32} {d : Nat} {h h0 : J_H} (K : KN h [(359, .inl (10, [.int th, .ref 360, .ref 361, .ref 362, .ref 363, .ref 364, .ref 365, .ref 366, .ref 367, (u 9), .int sst, (u 11), (u 12), .int acs, (u 14), (u 15), (u 16), (u 17), (u 18), (u 19), (u 20), (u 21), .ref 368, (u 23), .ref 369, .ref 370, .ref 371, (u 27)]))] h0) : j_V jP d 169 0 (lv_args 0 [.ref 359, .int x1]) [] h (fun rv h' => rv = some (.int (m_refuse th sst x1).1) ∧ KN h' [(359, .inl (10, [.int (m_refuse th sst x1).2.1, .ref 360, .ref 361, .ref 362, .ref 363, .ref 364, .ref 365, .ref 366, .ref 367, (u 9), .int (m_refuse th sst x1).2.2, (u 11), (u 12), .int acs, (u 14), (u 15), (u 16), (u 17), (u 18), (u 19), (u 20), (u 21), .ref 368, (u 23), .ref 369, .ref 370, .ref 371, (u 27)]))] h0) := by
  show j_V jP d 169 0 [(0, .ref 359), (1, .int x1)] [] h _
  obtain ⟨lv, elv, L⟩ : ∃ lv, lv = [(0, .ref 359), (1, .int x1)] ∧ LK lv [(0, .ref 359), (1, .int x1)] := ⟨_, rfl, LK.rf⟩
  rw [← elv]
  clear elv
  refine j_V.ldL mo0_M mo0_0 rfl (i := 0) (kd := 2) (v := .ref 359) (pcJ := 1) rfl L rfl rfl rfl ?_
  refine j_V.one mo0_M mo0_1 (by decide) (pcJ := 2) (stJ := [.int 0, .ref 359]) rfl ?_
  refine j_V.putK mo0_M mo0_2 (ci := 10) (j := 0) (k' := [(359, .inl (10, [.int 0, .ref 360, .ref 361, .ref 362, .ref 363, .ref 364, .ref 365, .ref 366, .ref 367, (u 9), .int sst, (u 11), (u 12), .int acs, (u 14), (u 15), (u 16), (u 17), (u 18), (u 19), (u 20), (u 21), .ref 368, (u 23), .ref 369, .ref 370, .ref 371, (u 27)]))]) rfl K rfl (Nat.le_of_ble_eq_true rfl) rfl (Or.inl rfl) rfl rfl (fun h K => ?_)
  refine j_V.ldL mo0_M mo0_5 rfl (i := 0) (kd := 2) (v := .ref 359) (pcJ := 6) rfl L rfl rfl rfl ?_
  refine j_V.ldL mo0_M mo0_6 rfl (i := 1) (kd := 0) (v := .int x1) (pcJ := 7) rfl L rfl rfl rfl ?_
  refine j_V.putK mo0_M mo0_7 (ci := 10) (j := 10) (k' := [(359, .inl (10, [.int 0, .ref 360, .ref 361, .ref 362, .ref 363, .ref 364, .ref 365, .ref 366, .ref 367, (u 9), .int x1, (u 11), (u 12), .int acs, (u 14), (u 15), (u 16), (u 17), (u 18), (u 19), (u 20), (u 21), .ref 368, (u 23), .ref 369, .ref 370, .ref 371, (u 27)]))]) rfl K rfl (Nat.le_of_ble_eq_true rfl) rfl (Or.inl rfl) rfl rfl (fun h K => ?_)
  refine j_V.one mo0_M mo0_10 (by decide) (pcJ := 11) (stJ := [.int (-1)]) rfl ?_
  refine j_V.ri mo0_M mo0_11 ?_
  rw [show (m_refuse th sst x1) = _ from (rfl)]
  exact ⟨rfl, K⟩
set_option maxRecDepth 100000 in
theorem mo1_M : j_meth jP 170 = some (yX10_gives, cX10_gives, 2, (some .int), 1, false, 10) := rfl
set_option maxRecDepth 100000 in
theorem mo1_0 : j_code jP 170 0 = some (.aload_n 0) := rfl
set_option maxRecDepth 100000 in
theorem mo1_1 : j_code jP 170 1 = some (.iconst 0) := rfl
set_option maxRecDepth 100000 in
theorem mo1_2 : j_code jP 170 2 = some (.putfield 55) := rfl
set_option maxRecDepth 100000 in
theorem mo1_5 : j_code jP 170 5 = some (.aload_n 0) := rfl
set_option maxRecDepth 100000 in
theorem mo1_6 : j_code jP 170 6 = some (.iconst 0) := rfl
set_option maxRecDepth 100000 in
theorem mo1_7 : j_code jP 170 7 = some (.putfield 58) := rfl
set_option maxRecDepth 100000 in
theorem mo1_10 : j_code jP 170 10 = some (.iload_n 1) := rfl
set_option maxRecDepth 100000 in
theorem mo1_11 : j_code jP 170 11 = some (.ireturn) := rfl
def m_gives (th : Int32) (sst : Int32) (x1 : Int32) : Int32 × Int32 × Int32 := (x1, 0, 0)
set_option maxRecDepth 1000000 in
theorem mo1_ok {u : Nat → Value} {th : Int32} {sst : Int32} {acs : Int32} {x1 : Int32} {d : Nat} {h h0 : J_H} (K : KN h [(359, .inl (10, [.int th, .ref 360, .ref 361, .ref 362, .ref 363, .ref 364, .ref 365, .ref 366, .ref 367, (u 9), .int sst, (u 11), (u 12), .int acs, (u 14), (u 15), (u 16), (u 17), (u 18), (u 19), (u 20), (u 21), .ref 368, (u 23), .ref 369, .ref 370, .ref 371, (u 27)]))] h0) : j_V jP d 170 0 (lv_args 0 [.ref 359, .int x1]) [] h (fun rv h' => rv = some (.int (m_gives th sst x1).1) ∧ KN h' [(359, .inl (10, [.int (m_gives th sst x1).2.1, .ref 360, .ref 361, .ref 362, .ref 363, .ref 364, .ref 365, .ref 366, .ref 367, (u 9), .int (m_gives th sst x1).2.2, (u 11), (u 12), .int acs, (u 14), (u 15), (u 16), (u 17), (u 18), (u 19), (u 20), (u 21), .ref 368, (u 23), .ref 369, .ref 370, .ref 371, (u 27)]))] h0) := by
  show j_V jP d 170 0 [(0, .ref 359), (1, .int x1)] [] h _
  obtain ⟨lv, elv, L⟩ : ∃ lv, lv = [(0, .ref 359), (1, .int x1)] ∧ LK lv [(0, .ref 359), (1, .int x1)] := ⟨_, rfl, LK.rf⟩
  rw [← elv]
  clear elv
  refine j_V.ldL mo1_M mo1_0 rfl (i := 0) (kd := 2) (v := .ref 359) (pcJ := 1) rfl L rfl rfl rfl ?_
  refine j_V.one mo1_M mo1_1 (by decide) (pcJ := 2) (stJ := [.int 0, .ref 359]) rfl ?_
  refine j_V.putK mo1_M mo1_2 (ci := 10) (j := 0) (k' := [(359, .inl (10, [.int 0, .ref 360, .ref 361, .ref 362, .ref 363, .ref 364, .ref 365, .ref 366, .ref 367, (u 9), .int sst, (u 11), (u 12), .int acs, (u 14), (u 15), (u 16), (u 17), (u 18), (u 19), (u 20), (u 21), .ref 368, (u 23), .ref 369, .ref 370, .ref 371, (u 27)]))]) rfl K rfl (Nat.le_of_ble_eq_true rfl) rfl (Or.inl rfl) rfl rfl (fun h K => ?_)
  refine j_V.ldL mo1_M mo1_5 rfl (i := 0) (kd := 2) (v := .ref 359) (pcJ := 6) rfl L rfl rfl rfl ?_
  refine j_V.one mo1_M mo1_6 (by decide) (pcJ := 7) (stJ := [.int 0, .ref 359]) rfl ?_
  refine j_V.putK mo1_M mo1_7 (ci := 10) (j := 10) (k' := [(359, .inl (10, [.int 0, .ref 360, .ref 361, .ref 362, .ref 363, .ref 364, .ref 365, .ref 366, .ref 367, (u 9), .int 0, (u 11), (u 12), .int acs, (u 14), (u 15), (u 16), (u 17), (u 18), (u 19), (u 20), (u 21), .ref 368, (u 23), .ref 369, .ref 370, .ref 371, (u 27)]))]) rfl K rfl (Nat.le_of_ble_eq_true rfl) rfl (Or.inl rfl) rfl rfl (fun h K => ?_)
  refine j_V.ldL mo1_M mo1_10 rfl (i := 1) (kd := 0) (v := .int x1) (pcJ := 11) rfl L rfl rfl rfl ?_
  refine j_V.ri mo1_M mo1_11 ?_
  rw [show (m_gives th sst x1) = _ from (rfl)]
  exact ⟨rfl, K⟩
set_option maxRecDepth 100000 in
theorem mo2_M : j_meth jP 281 = some (yX10_keeps, cX10_keeps, 2, none, 0, false, 10) := rfl
set_option maxRecDepth 100000 in
theorem mo2_0 : j_code jP 281 0 = some (.aload_n 0) := rfl
set_option maxRecDepth 100000 in
theorem mo2_1 : j_code jP 281 1 = some (.getfield 192) := rfl
set_option maxRecDepth 100000 in
theorem mo2_4 : j_code jP 281 4 = some (.bipush 10) := rfl
set_option maxRecDepth 100000 in
theorem mo2_6 : j_code jP 281 6 = some (.if_icmp .ne 46) := rfl
set_option maxRecDepth 100000 in
theorem mo2_9 : j_code jP 281 9 = some (.sipush 602) := rfl
set_option maxRecDepth 100000 in
theorem mo2_12 : j_code jP 281 12 = some (.istore_n 1) := rfl
set_option maxRecDepth 100000 in
theorem mo2_13 : j_code jP 281 13 = some (.iload_n 1) := rfl
set_option maxRecDepth 100000 in
theorem mo2_14 : j_code jP 281 14 = some (.sipush 6020) := rfl
set_option maxRecDepth 100000 in
theorem mo2_17 : j_code jP 281 17 = some (.if_icmp .ge 25) := rfl
set_option maxRecDepth 100000 in
theorem mo2_20 : j_code jP 281 20 = some (.aload_n 0) := rfl
set_option maxRecDepth 100000 in
theorem mo2_21 : j_code jP 281 21 = some (.getfield 22) := rfl
set_option maxRecDepth 100000 in
theorem mo2_24 : j_code jP 281 24 = some (.iload_n 1) := rfl
set_option maxRecDepth 100000 in
theorem mo2_25 : j_code jP 281 25 = some (.sipush 602) := rfl
set_option maxRecDepth 100000 in
theorem mo2_28 : j_code jP 281 28 = some (.isub) := rfl
set_option maxRecDepth 100000 in
theorem mo2_29 : j_code jP 281 29 = some (.aload_n 0) := rfl
set_option maxRecDepth 100000 in
theorem mo2_30 : j_code jP 281 30 = some (.getfield 22) := rfl
set_option maxRecDepth 100000 in
theorem mo2_33 : j_code jP 281 33 = some (.iload_n 1) := rfl
set_option maxRecDepth 100000 in
theorem mo2_34 : j_code jP 281 34 = some (.iaload) := rfl
set_option maxRecDepth 100000 in
theorem mo2_35 : j_code jP 281 35 = some (.iastore) := rfl
set_option maxRecDepth 100000 in
theorem mo2_36 : j_code jP 281 36 = some (.iinc 1 1) := rfl
set_option maxRecDepth 100000 in
theorem mo2_39 : j_code jP 281 39 = some (.goto (-26)) := rfl
set_option maxRecDepth 100000 in
theorem mo2_42 : j_code jP 281 42 = some (.aload_n 0) := rfl
set_option maxRecDepth 100000 in
theorem mo2_43 : j_code jP 281 43 = some (.dup) := rfl
set_option maxRecDepth 100000 in
theorem mo2_44 : j_code jP 281 44 = some (.getfield 192) := rfl
set_option maxRecDepth 100000 in
theorem mo2_47 : j_code jP 281 47 = some (.iconst 1) := rfl
set_option maxRecDepth 100000 in
theorem mo2_48 : j_code jP 281 48 = some (.isub) := rfl
set_option maxRecDepth 100000 in
theorem mo2_49 : j_code jP 281 49 = some (.putfield 192) := rfl
set_option maxRecDepth 100000 in
theorem mo2_52 : j_code jP 281 52 = some (.iconst 0) := rfl
set_option maxRecDepth 100000 in
theorem mo2_53 : j_code jP 281 53 = some (.istore_n 1) := rfl
set_option maxRecDepth 100000 in
theorem mo2_54 : j_code jP 281 54 = some (.iload_n 1) := rfl
set_option maxRecDepth 100000 in
theorem mo2_55 : j_code jP 281 55 = some (.sipush 602) := rfl
set_option maxRecDepth 100000 in
theorem mo2_58 : j_code jP 281 58 = some (.if_icmp .ge 30) := rfl
set_option maxRecDepth 100000 in
theorem mo2_61 : j_code jP 281 61 = some (.aload_n 0) := rfl
set_option maxRecDepth 100000 in
theorem mo2_62 : j_code jP 281 62 = some (.getfield 22) := rfl
set_option maxRecDepth 100000 in
theorem mo2_65 : j_code jP 281 65 = some (.sipush 602) := rfl
set_option maxRecDepth 100000 in
theorem mo2_68 : j_code jP 281 68 = some (.aload_n 0) := rfl
set_option maxRecDepth 100000 in
theorem mo2_69 : j_code jP 281 69 = some (.getfield 192) := rfl
set_option maxRecDepth 100000 in
theorem mo2_72 : j_code jP 281 72 = some (.imul) := rfl
set_option maxRecDepth 100000 in
theorem mo2_73 : j_code jP 281 73 = some (.iload_n 1) := rfl
set_option maxRecDepth 100000 in
theorem mo2_74 : j_code jP 281 74 = some (.iadd) := rfl
set_option maxRecDepth 100000 in
theorem mo2_75 : j_code jP 281 75 = some (.aload_n 0) := rfl
set_option maxRecDepth 100000 in
theorem mo2_76 : j_code jP 281 76 = some (.getfield 7) := rfl
set_option maxRecDepth 100000 in
theorem mo2_79 : j_code jP 281 79 = some (.iload_n 1) := rfl
set_option maxRecDepth 100000 in
theorem mo2_80 : j_code jP 281 80 = some (.iaload) := rfl
set_option maxRecDepth 100000 in
theorem mo2_81 : j_code jP 281 81 = some (.iastore) := rfl
set_option maxRecDepth 100000 in
theorem mo2_82 : j_code jP 281 82 = some (.iinc 1 1) := rfl
set_option maxRecDepth 100000 in
theorem mo2_85 : j_code jP 281 85 = some (.goto (-31)) := rfl
set_option maxRecDepth 100000 in
theorem mo2_88 : j_code jP 281 88 = some (.aload_n 0) := rfl
set_option maxRecDepth 100000 in
theorem mo2_89 : j_code jP 281 89 = some (.dup) := rfl
set_option maxRecDepth 100000 in
theorem mo2_90 : j_code jP 281 90 = some (.getfield 192) := rfl
set_option maxRecDepth 100000 in
theorem mo2_93 : j_code jP 281 93 = some (.iconst 1) := rfl
set_option maxRecDepth 100000 in
theorem mo2_94 : j_code jP 281 94 = some (.iadd) := rfl
set_option maxRecDepth 100000 in
theorem mo2_95 : j_code jP 281 95 = some (.putfield 192) := rfl
set_option maxRecDepth 100000 in
theorem mo2_98 : j_code jP 281 98 = some (.return_) := rfl
def m_keeps_l54 (w : List Int32) : Nat → Int32 → List Int32 → Int32 → List Int32 × Int32
  | 0, v1, kp, acs => let acs1 := (acs + 1); (kp, acs1)
  | f + 1, v1, kp, acs => let kp1 := (sA kp ((602 * acs) + v1) (gA w v1)); (m_keeps_l54 w f (v1 + 1) kp1 acs)
set_option maxRecDepth 1000000 in
theorem mo2_ok_l54 {u : Nat → Value} {th : Int32} {sst : Int32} {w : List Int32} {d : Nat} {h0 : J_H} : ∀ (f : Nat) (v1 : Int32) (kp : List Int32) (acs : Int32) {lv : J_L} {h : J_H}, lpN 602 v1 = f → LK lv [(0, .ref 359), (1, .int v1)] → KN h [(359, .inl (10, [.int th, .ref 360, .ref 361, .ref 362, .ref 363, .ref 364, .ref 365, .ref 366, .ref 367, (u 9), .int sst, (u 11), (u 12), .int acs, (u 14), (u 15), (u 16), (u 17), (u 18), (u 19), (u 20), (u 21), .ref 368, (u 23), .ref 369, .ref 370, .ref 371, (u 27)])), (360, .inr (.inl (0, w))), (364, .inr (.inl (0, kp)))] h0 → j_V jP d 281 54 lv [] h (fun rv h' => rv = none ∧ KN h' [(359, .inl (10, [.int th, .ref 360, .ref 361, .ref 362, .ref 363, .ref 364, .ref 365, .ref 366, .ref 367, (u 9), .int sst, (u 11), (u 12), .int (m_keeps_l54 w f v1 kp acs).2, (u 14), (u 15), (u 16), (u 17), (u 18), (u 19), (u 20), (u 21), .ref 368, (u 23), .ref 369, .ref 370, .ref 371, (u 27)])), (360, .inr (.inl (0, w))), (364, .inr (.inl (0, (m_keeps_l54 w f v1 kp acs).1)))] h0) := by
  intro f
  induction f with
  | zero =>
    intro v1 kp acs lv h e L K
    refine j_V.ldL mo2_M mo2_54 rfl (i := 1) (kd := 0) (v := .int v1) (pcJ := 55) rfl L rfl rfl rfl ?_
    refine j_V.one mo2_M mo2_55 (by decide) (pcJ := 58) (stJ := [.int 602, .int v1]) rfl ?_
    refine j_V.icmp mo2_M mo2_58 (t := 88) rfl (fun c58_0 => ?_) (fun c58_0 => ?_)
    · replace c58_0 : ¬ (v1 < 602) := jd_ge c58_0
      refine j_V.ldL mo2_M mo2_88 rfl (i := 0) (kd := 2) (v := .ref 359) (pcJ := 89) rfl L rfl rfl rfl ?_
      refine j_V.one mo2_M mo2_89 (by decide) (pcJ := 90) (stJ := [.ref 359, .ref 359]) rfl ?_
      refine j_V.getK mo2_M mo2_90 (ci := 10) (j := 13) rfl K rfl rfl ?_
      refine j_V.one mo2_M mo2_93 (by decide) (pcJ := 94) (stJ := [.int 1, .int acs, .ref 359]) rfl ?_
      refine j_V.one mo2_M mo2_94 (by decide) (pcJ := 95) (stJ := [.int (acs + 1), .ref 359]) rfl ?_
      refine j_V.putK mo2_M mo2_95 (ci := 10) (j := 13) (k' := [(359, .inl (10, [.int th, .ref 360, .ref 361, .ref 362, .ref 363, .ref 364, .ref 365, .ref 366, .ref 367, (u 9), .int sst, (u 11), (u 12), .int (acs + 1), (u 14), (u 15), (u 16), (u 17), (u 18), (u 19), (u 20), (u 21), .ref 368, (u 23), .ref 369, .ref 370, .ref 371, (u 27)])), (360, .inr (.inl (0, w))), (364, .inr (.inl (0, kp)))]) rfl K rfl (Nat.le_of_ble_eq_true rfl) rfl (Or.inl rfl) rfl rfl (fun h K => ?_)
      obtain ⟨acs1, eacs1⟩ : ∃ z, z = (acs + 1) := ⟨_, rfl⟩
      rw [← eacs1] at K
      subst eacs1
      refine j_V.ret mo2_M mo2_98 rfl rfl ?_
      rw [show (m_keeps_l54 w 0 v1 kp acs) = _ from (rfl)]
      exact ⟨rfl, K⟩
    · replace c58_0 : v1 < 602 := jd_gen c58_0
      exact absurd c58_0 (lpN_z e)
  | succ f ih =>
    intro v1 kp acs lv h e L K
    refine j_V.ldL mo2_M mo2_54 rfl (i := 1) (kd := 0) (v := .int v1) (pcJ := 55) rfl L rfl rfl rfl ?_
    refine j_V.one mo2_M mo2_55 (by decide) (pcJ := 58) (stJ := [.int 602, .int v1]) rfl ?_
    refine j_V.icmp mo2_M mo2_58 (t := 88) rfl (fun c58_0 => ?_) (fun c58_0 => ?_)
    · replace c58_0 : ¬ (v1 < 602) := jd_ge c58_0
      exact absurd (lpN_s e) c58_0
    · replace c58_0 : v1 < 602 := jd_gen c58_0
      refine j_V.ldL mo2_M mo2_61 rfl (i := 0) (kd := 2) (v := .ref 359) (pcJ := 62) rfl L rfl rfl rfl ?_
      refine j_V.getK mo2_M mo2_62 (ci := 10) (j := 5) rfl K rfl rfl ?_
      refine j_V.one mo2_M mo2_65 (by decide) (pcJ := 68) (stJ := [.int 602, .ref 364]) rfl ?_
      refine j_V.ldL mo2_M mo2_68 rfl (i := 0) (kd := 2) (v := .ref 359) (pcJ := 69) rfl L rfl rfl rfl ?_
      refine j_V.getK mo2_M mo2_69 (ci := 10) (j := 13) rfl K rfl rfl ?_
      refine j_V.one mo2_M mo2_72 (by decide) (pcJ := 73) (stJ := [.int (602 * acs), .ref 364]) rfl ?_
      refine j_V.ldL mo2_M mo2_73 rfl (i := 1) (kd := 0) (v := .int v1) (pcJ := 74) rfl L rfl rfl rfl ?_
      refine j_V.one mo2_M mo2_74 (by decide) (pcJ := 75) (stJ := [.int ((602 * acs) + v1), .ref 364]) rfl ?_
      refine j_V.ldL mo2_M mo2_75 rfl (i := 0) (kd := 2) (v := .ref 359) (pcJ := 76) rfl L rfl rfl rfl ?_
      refine j_V.getK mo2_M mo2_76 (ci := 10) (j := 1) rfl K rfl rfl ?_
      refine j_V.ldL mo2_M mo2_79 rfl (i := 1) (kd := 0) (v := .int v1) (pcJ := 80) rfl L rfl rfl rfl ?_
      refine j_V.iaA mo2_M mo2_80 K rfl ?_
      refine j_V.isA mo2_M mo2_81 (k' := [(359, .inl (10, [.int th, .ref 360, .ref 361, .ref 362, .ref 363, .ref 364, .ref 365, .ref 366, .ref 367, (u 9), .int sst, (u 11), (u 12), .int acs, (u 14), (u 15), (u 16), (u 17), (u 18), (u 19), (u 20), (u 21), .ref 368, (u 23), .ref 369, .ref 370, .ref 371, (u 27)])), (360, .inr (.inl (0, w))), (364, .inr (.inl (0, (sA kp ((602 * acs) + v1) (gA w v1)))))]) K rfl rfl (fun h K => ?_)
      obtain ⟨kp1, ekp1⟩ : ∃ z, z = (sA kp ((602 * acs) + v1) (gA w v1)) := ⟨_, rfl⟩
      rw [← ekp1] at K
      refine j_V.inL mo2_M mo2_82 (i := 1) (kl' := [(0, .ref 359), (1, .int (v1 + 1))]) (pcJ := 85) L rfl rfl rfl rfl (fun lv L => ?_)
      refine j_V.gto mo2_M mo2_85 (t := 54) rfl ?_
      subst ekp1
      rw [show (m_keeps_l54 w (f + 1) v1 kp acs) = _ from (rfl)]
      exact ih _ _ _ (lpN_n e) L K
def m_keeps_l13 (w : List Int32) : Nat → Int32 → List Int32 → Int32 → List Int32 × Int32
  | 0, v1, kp, acs => let acs2 := (acs - 1); (m_keeps_l54 w (lpN 602 0) 0 kp acs2)
  | f + 1, v1, kp, acs => let kp2 := (sA kp (v1 - 602) (gA kp v1)); (m_keeps_l13 w f (v1 + 1) kp2 acs)
set_option maxRecDepth 1000000 in
theorem mo2_ok_l13 {u : Nat → Value} {th : Int32} {sst : Int32} {w : List Int32} {d : Nat} {h0 : J_H} : ∀ (f : Nat) (v1 : Int32) (kp : List Int32) (acs : Int32) {lv : J_L} {h : J_H}, lpN 6020 v1 = f → LK lv [(0, .ref 359), (1, .int v1)] → KN h [(359, .inl (10, [.int th, .ref 360, .ref 361, .ref 362, .ref 363, .ref 364, .ref 365, .ref 366, .ref 367, (u 9), .int sst, (u 11), (u 12), .int acs, (u 14), (u 15), (u 16), (u 17), (u 18), (u 19), (u 20), (u 21), .ref 368, (u 23), .ref 369, .ref 370, .ref 371, (u 27)])), (360, .inr (.inl (0, w))), (364, .inr (.inl (0, kp)))] h0 → j_V jP d 281 13 lv [] h (fun rv h' => rv = none ∧ KN h' [(359, .inl (10, [.int th, .ref 360, .ref 361, .ref 362, .ref 363, .ref 364, .ref 365, .ref 366, .ref 367, (u 9), .int sst, (u 11), (u 12), .int (m_keeps_l13 w f v1 kp acs).2, (u 14), (u 15), (u 16), (u 17), (u 18), (u 19), (u 20), (u 21), .ref 368, (u 23), .ref 369, .ref 370, .ref 371, (u 27)])), (360, .inr (.inl (0, w))), (364, .inr (.inl (0, (m_keeps_l13 w f v1 kp acs).1)))] h0) := by
  intro f
  induction f with
  | zero =>
    intro v1 kp acs lv h e L K
    refine j_V.ldL mo2_M mo2_13 rfl (i := 1) (kd := 0) (v := .int v1) (pcJ := 14) rfl L rfl rfl rfl ?_
    refine j_V.one mo2_M mo2_14 (by decide) (pcJ := 17) (stJ := [.int 6020, .int v1]) rfl ?_
    refine j_V.icmp mo2_M mo2_17 (t := 42) rfl (fun c17_0 => ?_) (fun c17_0 => ?_)
    · replace c17_0 : ¬ (v1 < 6020) := jd_ge c17_0
      refine j_V.ldL mo2_M mo2_42 rfl (i := 0) (kd := 2) (v := .ref 359) (pcJ := 43) rfl L rfl rfl rfl ?_
      refine j_V.one mo2_M mo2_43 (by decide) (pcJ := 44) (stJ := [.ref 359, .ref 359]) rfl ?_
      refine j_V.getK mo2_M mo2_44 (ci := 10) (j := 13) rfl K rfl rfl ?_
      refine j_V.one mo2_M mo2_47 (by decide) (pcJ := 48) (stJ := [.int 1, .int acs, .ref 359]) rfl ?_
      refine j_V.one mo2_M mo2_48 (by decide) (pcJ := 49) (stJ := [.int (acs - 1), .ref 359]) rfl ?_
      refine j_V.putK mo2_M mo2_49 (ci := 10) (j := 13) (k' := [(359, .inl (10, [.int th, .ref 360, .ref 361, .ref 362, .ref 363, .ref 364, .ref 365, .ref 366, .ref 367, (u 9), .int sst, (u 11), (u 12), .int (acs - 1), (u 14), (u 15), (u 16), (u 17), (u 18), (u 19), (u 20), (u 21), .ref 368, (u 23), .ref 369, .ref 370, .ref 371, (u 27)])), (360, .inr (.inl (0, w))), (364, .inr (.inl (0, kp)))]) rfl K rfl (Nat.le_of_ble_eq_true rfl) rfl (Or.inl rfl) rfl rfl (fun h K => ?_)
      obtain ⟨acs2, eacs2⟩ : ∃ z, z = (acs - 1) := ⟨_, rfl⟩
      rw [← eacs2] at K
      refine j_V.one mo2_M mo2_52 (by decide) (pcJ := 53) (stJ := [.int 0]) rfl ?_
      refine j_V.stL mo2_M mo2_53 rfl (i := 1) (kd := 0) (kl' := [(0, .ref 359), (1, .int 0)]) (pcJ := 54) rfl L rfl (by decide) rfl rfl rfl (fun lv L => ?_)
      subst eacs2
      rw [show (m_keeps_l13 w 0 v1 kp acs) = _ from (rfl)]
      exact mo2_ok_l54 _ _ _ _ rfl L K
    · replace c17_0 : v1 < 6020 := jd_gen c17_0
      exact absurd c17_0 (lpN_z e)
  | succ f ih =>
    intro v1 kp acs lv h e L K
    refine j_V.ldL mo2_M mo2_13 rfl (i := 1) (kd := 0) (v := .int v1) (pcJ := 14) rfl L rfl rfl rfl ?_
    refine j_V.one mo2_M mo2_14 (by decide) (pcJ := 17) (stJ := [.int 6020, .int v1]) rfl ?_
    refine j_V.icmp mo2_M mo2_17 (t := 42) rfl (fun c17_0 => ?_) (fun c17_0 => ?_)
    · replace c17_0 : ¬ (v1 < 6020) := jd_ge c17_0
      exact absurd (lpN_s e) c17_0
    · replace c17_0 : v1 < 6020 := jd_gen c17_0
      refine j_V.ldL mo2_M mo2_20 rfl (i := 0) (kd := 2) (v := .ref 359) (pcJ := 21) rfl L rfl rfl rfl ?_
      refine j_V.getK mo2_M mo2_21 (ci := 10) (j := 5) rfl K rfl rfl ?_
      refine j_V.ldL mo2_M mo2_24 rfl (i := 1) (kd := 0) (v := .int v1) (pcJ := 25) rfl L rfl rfl rfl ?_
      refine j_V.one mo2_M mo2_25 (by decide) (pcJ := 28) (stJ := [.int 602, .int v1, .ref 364]) rfl ?_
      refine j_V.one mo2_M mo2_28 (by decide) (pcJ := 29) (stJ := [.int (v1 - 602), .ref 364]) rfl ?_
      refine j_V.ldL mo2_M mo2_29 rfl (i := 0) (kd := 2) (v := .ref 359) (pcJ := 30) rfl L rfl rfl rfl ?_
      refine j_V.getK mo2_M mo2_30 (ci := 10) (j := 5) rfl K rfl rfl ?_
      refine j_V.ldL mo2_M mo2_33 rfl (i := 1) (kd := 0) (v := .int v1) (pcJ := 34) rfl L rfl rfl rfl ?_
      refine j_V.iaA mo2_M mo2_34 K rfl ?_
      refine j_V.isA mo2_M mo2_35 (k' := [(359, .inl (10, [.int th, .ref 360, .ref 361, .ref 362, .ref 363, .ref 364, .ref 365, .ref 366, .ref 367, (u 9), .int sst, (u 11), (u 12), .int acs, (u 14), (u 15), (u 16), (u 17), (u 18), (u 19), (u 20), (u 21), .ref 368, (u 23), .ref 369, .ref 370, .ref 371, (u 27)])), (360, .inr (.inl (0, w))), (364, .inr (.inl (0, (sA kp (v1 - 602) (gA kp v1)))))]) K rfl rfl (fun h K => ?_)
      obtain ⟨kp2, ekp2⟩ : ∃ z, z = (sA kp (v1 - 602) (gA kp v1)) := ⟨_, rfl⟩
      rw [← ekp2] at K
      refine j_V.inL mo2_M mo2_36 (i := 1) (kl' := [(0, .ref 359), (1, .int (v1 + 1))]) (pcJ := 39) L rfl rfl rfl rfl (fun lv L => ?_)
      refine j_V.gto mo2_M mo2_39 (t := 13) rfl ?_
      subst ekp2
      rw [show (m_keeps_l13 w (f + 1) v1 kp acs) = _ from (rfl)]
      exact ih _ _ _ (lpN_n e) L K
def m_keeps (acs : Int32) (w : List Int32) (kp : List Int32) : List Int32 × Int32 := (if acs = 10 then (m_keeps_l13 w (lpN 6020 602) 602 kp acs) else (m_keeps_l54 w (lpN 602 0) 0 kp acs))
set_option maxRecDepth 1000000 in
theorem mo2_ok {u : Nat → Value} {th : Int32} {sst : Int32} {acs : Int32} {w : List Int32} {kp : List Int32} {d : Nat} {h h0 : J_H} (K : KN h [(359, .inl (10, [.int th, .ref 360, .ref 361, .ref 362, .ref 363, .ref 364, .ref 365, .ref 366, .ref 367, (u 9), .int sst, (u 11), (u 12), .int acs, (u 14), (u 15), (u 16), (u 17), (u 18), (u 19), (u 20), (u 21), .ref 368, (u 23), .ref 369, .ref 370, .ref 371, (u 27)])), (360, .inr (.inl (0, w))), (364, .inr (.inl (0, kp)))] h0) : j_V jP d 281 0 (lv_args 0 [.ref 359]) [] h (fun rv h' => rv = none ∧ KN h' [(359, .inl (10, [.int th, .ref 360, .ref 361, .ref 362, .ref 363, .ref 364, .ref 365, .ref 366, .ref 367, (u 9), .int sst, (u 11), (u 12), .int (m_keeps acs w kp).2, (u 14), (u 15), (u 16), (u 17), (u 18), (u 19), (u 20), (u 21), .ref 368, (u 23), .ref 369, .ref 370, .ref 371, (u 27)])), (360, .inr (.inl (0, w))), (364, .inr (.inl (0, (m_keeps acs w kp).1)))] h0) := by
  show j_V jP d 281 0 [(0, .ref 359)] [] h _
  obtain ⟨lv, elv, L⟩ : ∃ lv, lv = [(0, .ref 359)] ∧ LK lv [(0, .ref 359)] := ⟨_, rfl, LK.rf⟩
  rw [← elv]
  clear elv
  refine j_V.ldL mo2_M mo2_0 rfl (i := 0) (kd := 2) (v := .ref 359) (pcJ := 1) rfl L rfl rfl rfl ?_
  refine j_V.getK mo2_M mo2_1 (ci := 10) (j := 13) rfl K rfl rfl ?_
  refine j_V.one mo2_M mo2_4 (by decide) (pcJ := 6) (stJ := [.int 10, .int acs]) rfl ?_
  refine j_V.icmp mo2_M mo2_6 (t := 52) rfl (fun c6_0 => ?_) (fun c6_0 => ?_)
  · replace c6_0 : ¬ (acs = 10) := jd_ne c6_0
    refine j_V.one mo2_M mo2_52 (by decide) (pcJ := 53) (stJ := [.int 0]) rfl ?_
    refine j_V.stL mo2_M mo2_53 rfl (i := 1) (kd := 0) (kl' := [(0, .ref 359), (1, .int 0)]) (pcJ := 54) rfl L rfl (by decide) rfl rfl rfl (fun lv L => ?_)
    rw [show (m_keeps acs w kp) = _ from ((if_neg c6_0).trans (rfl))]
    exact mo2_ok_l54 _ _ _ _ rfl L K
  · replace c6_0 : acs = 10 := jd_nen c6_0
    refine j_V.one mo2_M mo2_9 (by decide) (pcJ := 12) (stJ := [.int 602]) rfl ?_
    refine j_V.stL mo2_M mo2_12 rfl (i := 1) (kd := 0) (kl' := [(0, .ref 359), (1, .int 602)]) (pcJ := 13) rfl L rfl (by decide) rfl rfl rfl (fun lv L => ?_)
    rw [show (m_keeps acs w kp) = _ from ((if_pos c6_0).trans (rfl))]
    exact mo2_ok_l13 _ _ _ _ rfl L K
set_option maxRecDepth 100000 in
theorem mo3_M : j_meth jP 282 = some (yX10_undo, cX10_undo, 2, (some .int), 0, false, 10) := rfl
set_option maxRecDepth 100000 in
theorem mo3_0 : j_code jP 282 0 = some (.aload_n 0) := rfl
set_option maxRecDepth 100000 in
theorem mo3_1 : j_code jP 282 1 = some (.getfield 192) := rfl
set_option maxRecDepth 100000 in
theorem mo3_4 : j_code jP 282 4 = some (.ifCond .ne 9) := rfl
set_option maxRecDepth 100000 in
theorem mo3_7 : j_code jP 282 7 = some (.aload_n 0) := rfl
set_option maxRecDepth 100000 in
theorem mo3_8 : j_code jP 282 8 = some (.iconst 5) := rfl
set_option maxRecDepth 100000 in
theorem mo3_9 : j_code jP 282 9 = some (.invokevirtual 179) := rfl
set_option maxRecDepth 100000 in
theorem mo3_12 : j_code jP 282 12 = some (.ireturn) := rfl
set_option maxRecDepth 100000 in
theorem mo3_13 : j_code jP 282 13 = some (.aload_n 0) := rfl
set_option maxRecDepth 100000 in
theorem mo3_14 : j_code jP 282 14 = some (.dup) := rfl
set_option maxRecDepth 100000 in
theorem mo3_15 : j_code jP 282 15 = some (.getfield 192) := rfl
set_option maxRecDepth 100000 in
theorem mo3_18 : j_code jP 282 18 = some (.iconst 1) := rfl
set_option maxRecDepth 100000 in
theorem mo3_19 : j_code jP 282 19 = some (.isub) := rfl
set_option maxRecDepth 100000 in
theorem mo3_20 : j_code jP 282 20 = some (.putfield 192) := rfl
set_option maxRecDepth 100000 in
theorem mo3_23 : j_code jP 282 23 = some (.iconst 0) := rfl
set_option maxRecDepth 100000 in
theorem mo3_24 : j_code jP 282 24 = some (.istore_n 1) := rfl
set_option maxRecDepth 100000 in
theorem mo3_25 : j_code jP 282 25 = some (.iload_n 1) := rfl
set_option maxRecDepth 100000 in
theorem mo3_26 : j_code jP 282 26 = some (.sipush 602) := rfl
set_option maxRecDepth 100000 in
theorem mo3_29 : j_code jP 282 29 = some (.if_icmp .ge 30) := rfl
set_option maxRecDepth 100000 in
theorem mo3_32 : j_code jP 282 32 = some (.aload_n 0) := rfl
set_option maxRecDepth 100000 in
theorem mo3_33 : j_code jP 282 33 = some (.getfield 7) := rfl
set_option maxRecDepth 100000 in
theorem mo3_36 : j_code jP 282 36 = some (.iload_n 1) := rfl
set_option maxRecDepth 100000 in
theorem mo3_37 : j_code jP 282 37 = some (.aload_n 0) := rfl
set_option maxRecDepth 100000 in
theorem mo3_38 : j_code jP 282 38 = some (.getfield 22) := rfl
set_option maxRecDepth 100000 in
theorem mo3_41 : j_code jP 282 41 = some (.sipush 602) := rfl
set_option maxRecDepth 100000 in
theorem mo3_44 : j_code jP 282 44 = some (.aload_n 0) := rfl
set_option maxRecDepth 100000 in
theorem mo3_45 : j_code jP 282 45 = some (.getfield 192) := rfl
set_option maxRecDepth 100000 in
theorem mo3_48 : j_code jP 282 48 = some (.imul) := rfl
set_option maxRecDepth 100000 in
theorem mo3_49 : j_code jP 282 49 = some (.iload_n 1) := rfl
set_option maxRecDepth 100000 in
theorem mo3_50 : j_code jP 282 50 = some (.iadd) := rfl
set_option maxRecDepth 100000 in
theorem mo3_51 : j_code jP 282 51 = some (.iaload) := rfl
set_option maxRecDepth 100000 in
theorem mo3_52 : j_code jP 282 52 = some (.iastore) := rfl
set_option maxRecDepth 100000 in
theorem mo3_53 : j_code jP 282 53 = some (.iinc 1 1) := rfl
set_option maxRecDepth 100000 in
theorem mo3_56 : j_code jP 282 56 = some (.goto (-31)) := rfl
set_option maxRecDepth 100000 in
theorem mo3_59 : j_code jP 282 59 = some (.aload_n 0) := rfl
set_option maxRecDepth 100000 in
theorem mo3_60 : j_code jP 282 60 = some (.aload_n 0) := rfl
set_option maxRecDepth 100000 in
theorem mo3_61 : j_code jP 282 61 = some (.getfield 192) := rfl
set_option maxRecDepth 100000 in
theorem mo3_64 : j_code jP 282 64 = some (.invokevirtual 195) := rfl
set_option maxRecDepth 100000 in
theorem mo3_67 : j_code jP 282 67 = some (.ireturn) := rfl
def m_undo_l25 (kp : List Int32) : Nat → Int32 → Int32 → Int32 → Int32 → List Int32 → Int32 × Int32 × Int32 × Int32 × List Int32
  | 0, v1, th, sst, acs, w => let z1 := (m_gives th sst acs); ((z1.1), (z1.2.1), (z1.2.2), acs, w)
  | f + 1, v1, th, sst, acs, w => let w1 := (sA w v1 (gA kp ((602 * acs) + v1))); (m_undo_l25 kp f (v1 + 1) th sst acs w1)
set_option maxRecDepth 1000000 in
theorem mo3_ok_l25 {u : Nat → Value} {kp : List Int32} {d : Nat} {h0 : J_H} : ∀ (f : Nat) (v1 : Int32) (th : Int32) (sst : Int32) (acs : Int32) (w : List Int32) {lv : J_L} {h : J_H}, lpN 602 v1 = f → LK lv [(0, .ref 359), (1, .int v1)] → KN h [(359, .inl (10, [.int th, .ref 360, .ref 361, .ref 362, .ref 363, .ref 364, .ref 365, .ref 366, .ref 367, (u 9), .int sst, (u 11), (u 12), .int acs, (u 14), (u 15), (u 16), (u 17), (u 18), (u 19), (u 20), (u 21), .ref 368, (u 23), .ref 369, .ref 370, .ref 371, (u 27)])), (360, .inr (.inl (0, w))), (364, .inr (.inl (0, kp)))] h0 → j_V jP d 282 25 lv [] h (fun rv h' => rv = some (.int (m_undo_l25 kp f v1 th sst acs w).1) ∧ KN h' [(359, .inl (10, [.int (m_undo_l25 kp f v1 th sst acs w).2.1, .ref 360, .ref 361, .ref 362, .ref 363, .ref 364, .ref 365, .ref 366, .ref 367, (u 9), .int (m_undo_l25 kp f v1 th sst acs w).2.2.1, (u 11), (u 12), .int (m_undo_l25 kp f v1 th sst acs w).2.2.2.1, (u 14), (u 15), (u 16), (u 17), (u 18), (u 19), (u 20), (u 21), .ref 368, (u 23), .ref 369, .ref 370, .ref 371, (u 27)])), (360, .inr (.inl (0, (m_undo_l25 kp f v1 th sst acs w).2.2.2.2))), (364, .inr (.inl (0, kp)))] h0) := by
  intro f
  induction f with
  | zero =>
    intro v1 th sst acs w lv h e L K
    refine j_V.ldL mo3_M mo3_25 rfl (i := 1) (kd := 0) (v := .int v1) (pcJ := 26) rfl L rfl rfl rfl ?_
    refine j_V.one mo3_M mo3_26 (by decide) (pcJ := 29) (stJ := [.int 602, .int v1]) rfl ?_
    refine j_V.icmp mo3_M mo3_29 (t := 59) rfl (fun c29_0 => ?_) (fun c29_0 => ?_)
    · replace c29_0 : ¬ (v1 < 602) := jd_ge c29_0
      refine j_V.ldL mo3_M mo3_59 rfl (i := 0) (kd := 2) (v := .ref 359) (pcJ := 60) rfl L rfl rfl rfl ?_
      refine j_V.ldL mo3_M mo3_60 rfl (i := 0) (kd := 2) (v := .ref 359) (pcJ := 61) rfl L rfl rfl rfl ?_
      refine j_V.getK mo3_M mo3_61 (ci := 10) (j := 13) rfl K rfl rfl ?_
      refine j_V.cl mo3_M mo3_64 rfl (md := 3) (mj := 170) rfl (by decide) mo1_M (As := [.ref 359, .int acs]) (rest := []) (jk_spl3 (K.at rfl) rfl rfl rfl (Nat.le_of_ble_eq_true rfl) (Nat.le_of_ble_eq_true rfl)) (fun d => mo1_ok (K.fi [359] rfl rfl)) ?_
      rintro r h9 ⟨rfl, K9⟩
      generalize ez1 : (m_gives th sst acs) = z1 at K9 ⊢
      have K : KN h9 [(359, .inl (10, [.int (z1.2.1), .ref 360, .ref 361, .ref 362, .ref 363, .ref 364, .ref 365, .ref 366, .ref 367, (u 9), .int (z1.2.2), (u 11), (u 12), .int acs, (u 14), (u 15), (u 16), (u 17), (u 18), (u 19), (u 20), (u 21), .ref 368, (u 23), .ref 369, .ref 370, .ref 371, (u 27)])), (360, .inr (.inl (0, w))), (364, .inr (.inl (0, kp)))] h0 := K.mg K9 rfl rfl
      clear K9
      show j_V jP _ 282 67 lv [.int (z1.1)] h9 _
      subst ez1
      refine j_V.ri mo3_M mo3_67 ?_
      rw [show (m_undo_l25 kp 0 v1 th sst acs w) = _ from (rfl)]
      exact ⟨rfl, K⟩
    · replace c29_0 : v1 < 602 := jd_gen c29_0
      exact absurd c29_0 (lpN_z e)
  | succ f ih =>
    intro v1 th sst acs w lv h e L K
    refine j_V.ldL mo3_M mo3_25 rfl (i := 1) (kd := 0) (v := .int v1) (pcJ := 26) rfl L rfl rfl rfl ?_
    refine j_V.one mo3_M mo3_26 (by decide) (pcJ := 29) (stJ := [.int 602, .int v1]) rfl ?_
    refine j_V.icmp mo3_M mo3_29 (t := 59) rfl (fun c29_0 => ?_) (fun c29_0 => ?_)
    · replace c29_0 : ¬ (v1 < 602) := jd_ge c29_0
      exact absurd (lpN_s e) c29_0
    · replace c29_0 : v1 < 602 := jd_gen c29_0
      refine j_V.ldL mo3_M mo3_32 rfl (i := 0) (kd := 2) (v := .ref 359) (pcJ := 33) rfl L rfl rfl rfl ?_
      refine j_V.getK mo3_M mo3_33 (ci := 10) (j := 1) rfl K rfl rfl ?_
      refine j_V.ldL mo3_M mo3_36 rfl (i := 1) (kd := 0) (v := .int v1) (pcJ := 37) rfl L rfl rfl rfl ?_
      refine j_V.ldL mo3_M mo3_37 rfl (i := 0) (kd := 2) (v := .ref 359) (pcJ := 38) rfl L rfl rfl rfl ?_
      refine j_V.getK mo3_M mo3_38 (ci := 10) (j := 5) rfl K rfl rfl ?_
      refine j_V.one mo3_M mo3_41 (by decide) (pcJ := 44) (stJ := [.int 602, .ref 364, .int v1, .ref 360]) rfl ?_
      refine j_V.ldL mo3_M mo3_44 rfl (i := 0) (kd := 2) (v := .ref 359) (pcJ := 45) rfl L rfl rfl rfl ?_
      refine j_V.getK mo3_M mo3_45 (ci := 10) (j := 13) rfl K rfl rfl ?_
      refine j_V.one mo3_M mo3_48 (by decide) (pcJ := 49) (stJ := [.int (602 * acs), .ref 364, .int v1, .ref 360]) rfl ?_
      refine j_V.ldL mo3_M mo3_49 rfl (i := 1) (kd := 0) (v := .int v1) (pcJ := 50) rfl L rfl rfl rfl ?_
      refine j_V.one mo3_M mo3_50 (by decide) (pcJ := 51) (stJ := [.int ((602 * acs) + v1), .ref 364, .int v1, .ref 360]) rfl ?_
      refine j_V.iaA mo3_M mo3_51 K rfl ?_
      refine j_V.isA mo3_M mo3_52 (k' := [(359, .inl (10, [.int th, .ref 360, .ref 361, .ref 362, .ref 363, .ref 364, .ref 365, .ref 366, .ref 367, (u 9), .int sst, (u 11), (u 12), .int acs, (u 14), (u 15), (u 16), (u 17), (u 18), (u 19), (u 20), (u 21), .ref 368, (u 23), .ref 369, .ref 370, .ref 371, (u 27)])), (360, .inr (.inl (0, (sA w v1 (gA kp ((602 * acs) + v1)))))), (364, .inr (.inl (0, kp)))]) K rfl rfl (fun h K => ?_)
      obtain ⟨w1, ew1⟩ : ∃ z, z = (sA w v1 (gA kp ((602 * acs) + v1))) := ⟨_, rfl⟩
      rw [← ew1] at K
      refine j_V.inL mo3_M mo3_53 (i := 1) (kl' := [(0, .ref 359), (1, .int (v1 + 1))]) (pcJ := 56) L rfl rfl rfl rfl (fun lv L => ?_)
      refine j_V.gto mo3_M mo3_56 (t := 25) rfl ?_
      subst ew1
      rw [show (m_undo_l25 kp (f + 1) v1 th sst acs w) = _ from (rfl)]
      exact ih _ _ _ _ _ (lpN_n e) L K
def m_undo (th : Int32) (sst : Int32) (acs : Int32) (w : List Int32) (kp : List Int32) : Int32 × Int32 × Int32 × Int32 × List Int32 := (if acs = 0 then let z2 := (m_refuse th sst 5); ((z2.1), (z2.2.1), (z2.2.2), acs, w) else let acs1 := (acs - 1); (m_undo_l25 kp (lpN 602 0) 0 th sst acs1 w))
set_option maxRecDepth 1000000 in
theorem mo3_ok {u : Nat → Value} {th : Int32} {sst : Int32} {acs : Int32} {w : List Int32} {kp : List Int32} {d : Nat} {h h0 : J_H} (K : KN h [(359, .inl (10, [.int th, .ref 360, .ref 361, .ref 362, .ref 363, .ref 364, .ref 365, .ref 366, .ref 367, (u 9), .int sst, (u 11), (u 12), .int acs, (u 14), (u 15), (u 16), (u 17), (u 18), (u 19), (u 20), (u 21), .ref 368, (u 23), .ref 369, .ref 370, .ref 371, (u 27)])), (360, .inr (.inl (0, w))), (364, .inr (.inl (0, kp)))] h0) : j_V jP d 282 0 (lv_args 0 [.ref 359]) [] h (fun rv h' => rv = some (.int (m_undo th sst acs w kp).1) ∧ KN h' [(359, .inl (10, [.int (m_undo th sst acs w kp).2.1, .ref 360, .ref 361, .ref 362, .ref 363, .ref 364, .ref 365, .ref 366, .ref 367, (u 9), .int (m_undo th sst acs w kp).2.2.1, (u 11), (u 12), .int (m_undo th sst acs w kp).2.2.2.1, (u 14), (u 15), (u 16), (u 17), (u 18), (u 19), (u 20), (u 21), .ref 368, (u 23), .ref 369, .ref 370, .ref 371, (u 27)])), (360, .inr (.inl (0, (m_undo th sst acs w kp).2.2.2.2))), (364, .inr (.inl (0, kp)))] h0) := by
  show j_V jP d 282 0 [(0, .ref 359)] [] h _
  obtain ⟨lv, elv, L⟩ : ∃ lv, lv = [(0, .ref 359)] ∧ LK lv [(0, .ref 359)] := ⟨_, rfl, LK.rf⟩
  rw [← elv]
  clear elv
  refine j_V.ldL mo3_M mo3_0 rfl (i := 0) (kd := 2) (v := .ref 359) (pcJ := 1) rfl L rfl rfl rfl ?_
  refine j_V.getK mo3_M mo3_1 (ci := 10) (j := 13) rfl K rfl rfl ?_
  refine j_V.ifc mo3_M mo3_4 (t := 13) rfl (fun c4_0 => ?_) (fun c4_0 => ?_)
  · replace c4_0 : ¬ (acs = 0) := jd_ne c4_0
    refine j_V.ldL mo3_M mo3_13 rfl (i := 0) (kd := 2) (v := .ref 359) (pcJ := 14) rfl L rfl rfl rfl ?_
    refine j_V.one mo3_M mo3_14 (by decide) (pcJ := 15) (stJ := [.ref 359, .ref 359]) rfl ?_
    refine j_V.getK mo3_M mo3_15 (ci := 10) (j := 13) rfl K rfl rfl ?_
    refine j_V.one mo3_M mo3_18 (by decide) (pcJ := 19) (stJ := [.int 1, .int acs, .ref 359]) rfl ?_
    refine j_V.one mo3_M mo3_19 (by decide) (pcJ := 20) (stJ := [.int (acs - 1), .ref 359]) rfl ?_
    refine j_V.putK mo3_M mo3_20 (ci := 10) (j := 13) (k' := [(359, .inl (10, [.int th, .ref 360, .ref 361, .ref 362, .ref 363, .ref 364, .ref 365, .ref 366, .ref 367, (u 9), .int sst, (u 11), (u 12), .int (acs - 1), (u 14), (u 15), (u 16), (u 17), (u 18), (u 19), (u 20), (u 21), .ref 368, (u 23), .ref 369, .ref 370, .ref 371, (u 27)])), (360, .inr (.inl (0, w))), (364, .inr (.inl (0, kp)))]) rfl K rfl (Nat.le_of_ble_eq_true rfl) rfl (Or.inl rfl) rfl rfl (fun h K => ?_)
    obtain ⟨acs1, eacs1⟩ : ∃ z, z = (acs - 1) := ⟨_, rfl⟩
    rw [← eacs1] at K
    refine j_V.one mo3_M mo3_23 (by decide) (pcJ := 24) (stJ := [.int 0]) rfl ?_
    refine j_V.stL mo3_M mo3_24 rfl (i := 1) (kd := 0) (kl' := [(0, .ref 359), (1, .int 0)]) (pcJ := 25) rfl L rfl (by decide) rfl rfl rfl (fun lv L => ?_)
    subst eacs1
    rw [show (m_undo th sst acs w kp) = _ from ((if_neg c4_0).trans (rfl))]
    exact mo3_ok_l25 _ _ _ _ _ _ rfl L K
  · replace c4_0 : acs = 0 := jd_nen c4_0
    refine j_V.ldL mo3_M mo3_7 rfl (i := 0) (kd := 2) (v := .ref 359) (pcJ := 8) rfl L rfl rfl rfl ?_
    refine j_V.one mo3_M mo3_8 (by decide) (pcJ := 9) (stJ := [.int 5, .ref 359]) rfl ?_
    refine j_V.cl mo3_M mo3_9 rfl (md := 3) (mj := 169) rfl (by decide) mo0_M (As := [.ref 359, .int 5]) (rest := []) (jk_spl3 (K.at rfl) rfl rfl rfl (Nat.le_of_ble_eq_true rfl) (Nat.le_of_ble_eq_true rfl)) (fun d => mo0_ok (K.fi [359] rfl rfl)) ?_
    rintro r h9 ⟨rfl, K9⟩
    generalize ez2 : (m_refuse th sst 5) = z2 at K9 ⊢
    have K : KN h9 [(359, .inl (10, [.int (z2.2.1), .ref 360, .ref 361, .ref 362, .ref 363, .ref 364, .ref 365, .ref 366, .ref 367, (u 9), .int (z2.2.2), (u 11), (u 12), .int acs, (u 14), (u 15), (u 16), (u 17), (u 18), (u 19), (u 20), (u 21), .ref 368, (u 23), .ref 369, .ref 370, .ref 371, (u 27)])), (360, .inr (.inl (0, w))), (364, .inr (.inl (0, kp)))] h0 := K.mg K9 rfl rfl
    clear K9
    show j_V jP _ 282 12 lv [.int (z2.1)] h9 _
    subst ez2
    refine j_V.ri mo3_M mo3_12 ?_
    rw [show (m_undo th sst acs w kp) = _ from ((if_pos c4_0).trans (rfl))]
    exact ⟨rfl, K⟩
set_option maxRecDepth 100000 in
theorem mo4_M : j_meth jP 284 = some (yX10_hold, cX10_hold, 3, (some .int), 2, false, 10) := rfl
set_option maxRecDepth 100000 in
theorem mo4_0 : j_code jP 284 0 = some (.iload_n 2) := rfl
set_option maxRecDepth 100000 in
theorem mo4_1 : j_code jP 284 1 = some (.iconst 1) := rfl
set_option maxRecDepth 100000 in
theorem mo4_2 : j_code jP 284 2 = some (.bipush 99) := rfl
set_option maxRecDepth 100000 in
theorem mo4_4 : j_code jP 284 4 = some (.invokestatic 61) := rfl
set_option maxRecDepth 100000 in
theorem mo4_7 : j_code jP 284 7 = some (.ifCond .ne 9) := rfl
set_option maxRecDepth 100000 in
theorem mo4_10 : j_code jP 284 10 = some (.aload_n 0) := rfl
set_option maxRecDepth 100000 in
theorem mo4_11 : j_code jP 284 11 = some (.iconst 1) := rfl
set_option maxRecDepth 100000 in
theorem mo4_12 : j_code jP 284 12 = some (.invokevirtual 179) := rfl
set_option maxRecDepth 100000 in
theorem mo4_15 : j_code jP 284 15 = some (.ireturn) := rfl
set_option maxRecDepth 100000 in
theorem mo4_16 : j_code jP 284 16 = some (.aload_n 0) := rfl
set_option maxRecDepth 100000 in
theorem mo4_17 : j_code jP 284 17 = some (.iload_n 1) := rfl
set_option maxRecDepth 100000 in
theorem mo4_18 : j_code jP 284 18 = some (.invokevirtual 310) := rfl
set_option maxRecDepth 100000 in
theorem mo4_21 : j_code jP 284 21 = some (.ifCond .ne 9) := rfl
set_option maxRecDepth 100000 in
theorem mo4_24 : j_code jP 284 24 = some (.aload_n 0) := rfl
set_option maxRecDepth 100000 in
theorem mo4_25 : j_code jP 284 25 = some (.iconst 2) := rfl
set_option maxRecDepth 100000 in
theorem mo4_26 : j_code jP 284 26 = some (.invokevirtual 179) := rfl
set_option maxRecDepth 100000 in
theorem mo4_29 : j_code jP 284 29 = some (.ireturn) := rfl
set_option maxRecDepth 100000 in
theorem mo4_30 : j_code jP 284 30 = some (.aload_n 0) := rfl
set_option maxRecDepth 100000 in
theorem mo4_31 : j_code jP 284 31 = some (.iload_n 1) := rfl
set_option maxRecDepth 100000 in
theorem mo4_32 : j_code jP 284 32 = some (.bipush 6) := rfl
set_option maxRecDepth 100000 in
theorem mo4_34 : j_code jP 284 34 = some (.invokevirtual 198) := rfl
set_option maxRecDepth 100000 in
theorem mo4_37 : j_code jP 284 37 = some (.iconst 3) := rfl
set_option maxRecDepth 100000 in
theorem mo4_38 : j_code jP 284 38 = some (.if_icmp .ne 9) := rfl
set_option maxRecDepth 100000 in
theorem mo4_41 : j_code jP 284 41 = some (.aload_n 0) := rfl
set_option maxRecDepth 100000 in
theorem mo4_42 : j_code jP 284 42 = some (.iconst 4) := rfl
set_option maxRecDepth 100000 in
theorem mo4_43 : j_code jP 284 43 = some (.invokevirtual 179) := rfl
set_option maxRecDepth 100000 in
theorem mo4_46 : j_code jP 284 46 = some (.ireturn) := rfl
set_option maxRecDepth 100000 in
theorem mo4_47 : j_code jP 284 47 = some (.aload_n 0) := rfl
set_option maxRecDepth 100000 in
theorem mo4_48 : j_code jP 284 48 = some (.invokevirtual 362) := rfl
set_option maxRecDepth 100000 in
theorem mo4_51 : j_code jP 284 51 = some (.aload_n 0) := rfl
set_option maxRecDepth 100000 in
theorem mo4_52 : j_code jP 284 52 = some (.iload_n 1) := rfl
set_option maxRecDepth 100000 in
theorem mo4_53 : j_code jP 284 53 = some (.bipush 10) := rfl
set_option maxRecDepth 100000 in
theorem mo4_55 : j_code jP 284 55 = some (.aload_n 0) := rfl
set_option maxRecDepth 100000 in
theorem mo4_56 : j_code jP 284 56 = some (.getfield 7) := rfl
set_option maxRecDepth 100000 in
theorem mo4_59 : j_code jP 284 59 = some (.sipush 201) := rfl
set_option maxRecDepth 100000 in
theorem mo4_62 : j_code jP 284 62 = some (.iaload) := rfl
set_option maxRecDepth 100000 in
theorem mo4_63 : j_code jP 284 63 = some (.iload_n 2) := rfl
set_option maxRecDepth 100000 in
theorem mo4_64 : j_code jP 284 64 = some (.iadd) := rfl
set_option maxRecDepth 100000 in
theorem mo4_65 : j_code jP 284 65 = some (.invokevirtual 238) := rfl
set_option maxRecDepth 100000 in
theorem mo4_68 : j_code jP 284 68 = some (.aload_n 0) := rfl
set_option maxRecDepth 100000 in
theorem mo4_69 : j_code jP 284 69 = some (.aload_n 0) := rfl
set_option maxRecDepth 100000 in
theorem mo4_70 : j_code jP 284 70 = some (.getfield 7) := rfl
set_option maxRecDepth 100000 in
theorem mo4_73 : j_code jP 284 73 = some (.sipush 201) := rfl
set_option maxRecDepth 100000 in
theorem mo4_76 : j_code jP 284 76 = some (.iaload) := rfl
set_option maxRecDepth 100000 in
theorem mo4_77 : j_code jP 284 77 = some (.iload_n 2) := rfl
set_option maxRecDepth 100000 in
theorem mo4_78 : j_code jP 284 78 = some (.iadd) := rfl
set_option maxRecDepth 100000 in
theorem mo4_79 : j_code jP 284 79 = some (.invokevirtual 195) := rfl
set_option maxRecDepth 100000 in
theorem mo4_82 : j_code jP 284 82 = some (.ireturn) := rfl
def m_hold (th : Int32) (sst : Int32) (acs : Int32) (w : List Int32) (kp : List Int32) (x1 : Int32) (x2 : Int32) : Int32 × Int32 × Int32 × Int32 × List Int32 × List Int32 := (if (m_isFrom x2 1 99) = 0 then let z6 := (m_refuse th sst 1); ((z6.1), (z6.2.1), (z6.2.2), acs, kp, w) else (if (m_isTrain w x1) = 0 then let z5 := (m_refuse th sst 2); ((z5.1), (z5.2.1), (z5.2.2), acs, kp, w) else (if (m_of w x1 6) = 3 then let z4 := (m_refuse th sst 4); ((z4.1), (z4.2.1), (z4.2.2), acs, kp, w) else let z1 := (m_keeps acs w kp); let z2 := (m_puts w x1 10 ((gA w 201) + x2)); let z3 := (m_gives th sst ((gA z2 201) + x2)); ((z3.1), (z3.2.1), (z3.2.2), (z1.2), (z1.1), z2))))
set_option maxRecDepth 1000000 in
theorem mo4_ok {u : Nat → Value} {th : Int32} {sst : Int32} {acs : Int32} {w : List Int32} {kp : List Int32} {x1 x2 : Int32} {d : Nat} {h h0 : J_H} (K : KN h [(359, .inl (10, [.int th, .ref 360, .ref 361, .ref 362, .ref 363, .ref 364, .ref 365, .ref 366, .ref 367, (u 9), .int sst, (u 11), (u 12), .int acs, (u 14), (u 15), (u 16), (u 17), (u 18), (u 19), (u 20), (u 21), .ref 368, (u 23), .ref 369, .ref 370, .ref 371, (u 27)])), (360, .inr (.inl (0, w))), (364, .inr (.inl (0, kp)))] h0) : j_V jP d 284 0 (lv_args 0 [.ref 359, .int x1, .int x2]) [] h (fun rv h' => rv = some (.int (m_hold th sst acs w kp x1 x2).1) ∧ KN h' [(359, .inl (10, [.int (m_hold th sst acs w kp x1 x2).2.1, .ref 360, .ref 361, .ref 362, .ref 363, .ref 364, .ref 365, .ref 366, .ref 367, (u 9), .int (m_hold th sst acs w kp x1 x2).2.2.1, (u 11), (u 12), .int (m_hold th sst acs w kp x1 x2).2.2.2.1, (u 14), (u 15), (u 16), (u 17), (u 18), (u 19), (u 20), (u 21), .ref 368, (u 23), .ref 369, .ref 370, .ref 371, (u 27)])), (360, .inr (.inl (0, (m_hold th sst acs w kp x1 x2).2.2.2.2.2))), (364, .inr (.inl (0, (m_hold th sst acs w kp x1 x2).2.2.2.2.1)))] h0) := by
  show j_V jP d 284 0 [(0, .ref 359), (1, .int x1), (2, .int x2)] [] h _
  obtain ⟨lv, elv, L⟩ : ∃ lv, lv = [(0, .ref 359), (1, .int x1), (2, .int x2)] ∧ LK lv [(0, .ref 359), (1, .int x1), (2, .int x2)] := ⟨_, rfl, LK.rf⟩
  rw [← elv]
  clear elv
  refine j_V.ldL mo4_M mo4_0 rfl (i := 2) (kd := 0) (v := .int x2) (pcJ := 1) rfl L rfl rfl rfl ?_
  refine j_V.one mo4_M mo4_1 (by decide) (pcJ := 2) (stJ := [.int 1, .int x2]) rfl ?_
  refine j_V.one mo4_M mo4_2 (by decide) (pcJ := 4) (stJ := [.int 99, .int 1, .int x2]) rfl ?_
  refine j_V.cl mo4_M mo4_4 rfl (md := 2) (mj := 171) rfl (by decide) ma0_M (As := [.int x2, .int 1, .int 99]) (rest := []) (jk_spl2 rfl rfl (Nat.le_of_ble_eq_true rfl) (Nat.le_of_ble_eq_true rfl)) (fun d => ma0_ok (K.fi [] rfl rfl)) ?_
  rintro r hz ⟨rfl, ez⟩
  rw [ez]
  clear ez
  show j_V jP _ 284 7 lv [.int (m_isFrom x2 1 99)] h _
  refine j_V.ifc mo4_M mo4_7 (t := 16) rfl (fun c7_0 => ?_) (fun c7_0 => ?_)
  · replace c7_0 : ¬ ((m_isFrom x2 1 99) = 0) := jd_ne c7_0
    refine j_V.ldL mo4_M mo4_16 rfl (i := 0) (kd := 2) (v := .ref 359) (pcJ := 17) rfl L rfl rfl rfl ?_
    refine j_V.ldL mo4_M mo4_17 rfl (i := 1) (kd := 0) (v := .int x1) (pcJ := 18) rfl L rfl rfl rfl ?_
    refine j_V.cl mo4_M mo4_18 rfl (md := 3) (mj := 173) rfl (by decide) md0_M (As := [.ref 359, .int x1]) (rest := []) (jk_spl3 (K.at rfl) rfl rfl rfl (Nat.le_of_ble_eq_true rfl) (Nat.le_of_ble_eq_true rfl)) (fun d => md0_ok (u := fun j => [.int th, .ref 360, .ref 361, .ref 362, .ref 363, .ref 364, .ref 365, .ref 366, .ref 367, (u 9), .int sst, (u 11), (u 12), .int acs, (u 14), (u 15), (u 16), (u 17), (u 18), (u 19), (u 20), (u 21), .ref 368, (u 23), .ref 369, .ref 370, .ref 371, (u 27)].getD j .null) (K.fi [359, 360] rfl rfl)) ?_
    rintro r hz ⟨rfl, ez⟩
    rw [ez]
    clear ez
    show j_V jP _ 284 21 lv [.int (m_isTrain w x1)] h _
    refine j_V.ifc mo4_M mo4_21 (t := 30) rfl (fun c21_1 => ?_) (fun c21_1 => ?_)
    · replace c21_1 : ¬ ((m_isTrain w x1) = 0) := jd_ne c21_1
      refine j_V.ldL mo4_M mo4_30 rfl (i := 0) (kd := 2) (v := .ref 359) (pcJ := 31) rfl L rfl rfl rfl ?_
      refine j_V.ldL mo4_M mo4_31 rfl (i := 1) (kd := 0) (v := .int x1) (pcJ := 32) rfl L rfl rfl rfl ?_
      refine j_V.one mo4_M mo4_32 (by decide) (pcJ := 34) (stJ := [.int 6, .int x1, .ref 359]) rfl ?_
      refine j_V.cl mo4_M mo4_34 rfl (md := 3) (mj := 178) rfl (by decide) ma3_M (As := [.ref 359, .int x1, .int 6]) (rest := []) (jk_spl3 (K.at rfl) rfl rfl rfl (Nat.le_of_ble_eq_true rfl) (Nat.le_of_ble_eq_true rfl)) (fun d => ma3_ok (u := fun j => [.int th, .ref 360, .ref 361, .ref 362, .ref 363, .ref 364, .ref 365, .ref 366, .ref 367, (u 9), .int sst, (u 11), (u 12), .int acs, (u 14), (u 15), (u 16), (u 17), (u 18), (u 19), (u 20), (u 21), .ref 368, (u 23), .ref 369, .ref 370, .ref 371, (u 27)].getD j .null) (K.fi [359, 360] rfl rfl)) ?_
      rintro r hz ⟨rfl, ez⟩
      rw [ez]
      clear ez
      show j_V jP _ 284 37 lv [.int (m_of w x1 6)] h _
      refine j_V.one mo4_M mo4_37 (by decide) (pcJ := 38) (stJ := [.int 3, .int (m_of w x1 6)]) rfl ?_
      refine j_V.icmp mo4_M mo4_38 (t := 47) rfl (fun c38_2 => ?_) (fun c38_2 => ?_)
      · replace c38_2 : ¬ ((m_of w x1 6) = 3) := jd_ne c38_2
        refine j_V.ldL mo4_M mo4_47 rfl (i := 0) (kd := 2) (v := .ref 359) (pcJ := 48) rfl L rfl rfl rfl ?_
        refine j_V.cl mo4_M mo4_48 rfl (md := 3) (mj := 281) rfl (by decide) mo2_M (As := [.ref 359]) (rest := []) (jk_spl3 (K.at rfl) rfl rfl rfl (Nat.le_of_ble_eq_true rfl) (Nat.le_of_ble_eq_true rfl)) (fun d => mo2_ok (K.fi [359, 360, 364] rfl rfl)) ?_
        rintro r h9 ⟨rfl, K9⟩
        generalize ez1 : (m_keeps acs w kp) = z1 at K9 ⊢
        have K : KN h9 [(359, .inl (10, [.int th, .ref 360, .ref 361, .ref 362, .ref 363, .ref 364, .ref 365, .ref 366, .ref 367, (u 9), .int sst, (u 11), (u 12), .int (z1.2), (u 14), (u 15), (u 16), (u 17), (u 18), (u 19), (u 20), (u 21), .ref 368, (u 23), .ref 369, .ref 370, .ref 371, (u 27)])), (360, .inr (.inl (0, w))), (364, .inr (.inl (0, (z1.1))))] h0 := K.mg K9 rfl rfl
        clear K9
        show j_V jP _ 284 51 lv [] h9 _
        refine j_V.ldL mo4_M mo4_51 rfl (i := 0) (kd := 2) (v := .ref 359) (pcJ := 52) rfl L rfl rfl rfl ?_
        refine j_V.ldL mo4_M mo4_52 rfl (i := 1) (kd := 0) (v := .int x1) (pcJ := 53) rfl L rfl rfl rfl ?_
        refine j_V.one mo4_M mo4_53 (by decide) (pcJ := 55) (stJ := [.int 10, .int x1, .ref 359]) rfl ?_
        refine j_V.ldL mo4_M mo4_55 rfl (i := 0) (kd := 2) (v := .ref 359) (pcJ := 56) rfl L rfl rfl rfl ?_
        refine j_V.getK mo4_M mo4_56 (ci := 10) (j := 1) rfl K rfl rfl ?_
        refine j_V.one mo4_M mo4_59 (by decide) (pcJ := 62) (stJ := [.int 201, .ref 360, .int 10, .int x1, .ref 359]) rfl ?_
        refine j_V.iaA mo4_M mo4_62 K rfl ?_
        refine j_V.ldL mo4_M mo4_63 rfl (i := 2) (kd := 0) (v := .int x2) (pcJ := 64) rfl L rfl rfl rfl ?_
        refine j_V.one mo4_M mo4_64 (by decide) (pcJ := 65) (stJ := [.int ((gA w 201) + x2), .int 10, .int x1, .ref 359]) rfl ?_
        refine j_V.cl mo4_M mo4_65 rfl (md := 3) (mj := 179) rfl (by decide) me0_M (As := [.ref 359, .int x1, .int 10, .int ((gA w 201) + x2)]) (rest := []) (jk_spl3 (K.at rfl) rfl rfl rfl (Nat.le_of_ble_eq_true rfl) (Nat.le_of_ble_eq_true rfl)) (fun d => me0_ok (u := fun j => [.int th, .ref 360, .ref 361, .ref 362, .ref 363, .ref 364, .ref 365, .ref 366, .ref 367, (u 9), .int sst, (u 11), (u 12), .int (z1.2), (u 14), (u 15), (u 16), (u 17), (u 18), (u 19), (u 20), (u 21), .ref 368, (u 23), .ref 369, .ref 370, .ref 371, (u 27)].getD j .null) (K.fi [359, 360] rfl rfl)) ?_
        rintro r h9 ⟨rfl, K9⟩
        generalize ez2 : (m_puts w x1 10 ((gA w 201) + x2)) = z2 at K9 ⊢
        have K : KN h9 [(359, .inl (10, [.int th, .ref 360, .ref 361, .ref 362, .ref 363, .ref 364, .ref 365, .ref 366, .ref 367, (u 9), .int sst, (u 11), (u 12), .int (z1.2), (u 14), (u 15), (u 16), (u 17), (u 18), (u 19), (u 20), (u 21), .ref 368, (u 23), .ref 369, .ref 370, .ref 371, (u 27)])), (360, .inr (.inl (0, z2))), (364, .inr (.inl (0, (z1.1))))] h0 := K.mg K9 rfl rfl
        clear K9
        show j_V jP _ 284 68 lv [] h9 _
        refine j_V.ldL mo4_M mo4_68 rfl (i := 0) (kd := 2) (v := .ref 359) (pcJ := 69) rfl L rfl rfl rfl ?_
        refine j_V.ldL mo4_M mo4_69 rfl (i := 0) (kd := 2) (v := .ref 359) (pcJ := 70) rfl L rfl rfl rfl ?_
        refine j_V.getK mo4_M mo4_70 (ci := 10) (j := 1) rfl K rfl rfl ?_
        refine j_V.one mo4_M mo4_73 (by decide) (pcJ := 76) (stJ := [.int 201, .ref 360, .ref 359]) rfl ?_
        refine j_V.iaA mo4_M mo4_76 K rfl ?_
        refine j_V.ldL mo4_M mo4_77 rfl (i := 2) (kd := 0) (v := .int x2) (pcJ := 78) rfl L rfl rfl rfl ?_
        refine j_V.one mo4_M mo4_78 (by decide) (pcJ := 79) (stJ := [.int ((gA z2 201) + x2), .ref 359]) rfl ?_
        refine j_V.cl mo4_M mo4_79 rfl (md := 3) (mj := 170) rfl (by decide) mo1_M (As := [.ref 359, .int ((gA z2 201) + x2)]) (rest := []) (jk_spl3 (K.at rfl) rfl rfl rfl (Nat.le_of_ble_eq_true rfl) (Nat.le_of_ble_eq_true rfl)) (fun d => mo1_ok (K.fi [359] rfl rfl)) ?_
        rintro r h9 ⟨rfl, K9⟩
        generalize ez3 : (m_gives th sst ((gA z2 201) + x2)) = z3 at K9 ⊢
        have K : KN h9 [(359, .inl (10, [.int (z3.2.1), .ref 360, .ref 361, .ref 362, .ref 363, .ref 364, .ref 365, .ref 366, .ref 367, (u 9), .int (z3.2.2), (u 11), (u 12), .int (z1.2), (u 14), (u 15), (u 16), (u 17), (u 18), (u 19), (u 20), (u 21), .ref 368, (u 23), .ref 369, .ref 370, .ref 371, (u 27)])), (360, .inr (.inl (0, z2))), (364, .inr (.inl (0, (z1.1))))] h0 := K.mg K9 rfl rfl
        clear K9
        show j_V jP _ 284 82 lv [.int (z3.1)] h9 _
        subst ez3
        subst ez2
        subst ez1
        refine j_V.ri mo4_M mo4_82 ?_
        rw [show (m_hold th sst acs w kp x1 x2) = _ from ((if_neg c7_0).trans ((if_neg c21_1).trans ((if_neg c38_2).trans (rfl))))]
        exact ⟨rfl, K⟩
      · replace c38_2 : (m_of w x1 6) = 3 := jd_nen c38_2
        refine j_V.ldL mo4_M mo4_41 rfl (i := 0) (kd := 2) (v := .ref 359) (pcJ := 42) rfl L rfl rfl rfl ?_
        refine j_V.one mo4_M mo4_42 (by decide) (pcJ := 43) (stJ := [.int 4, .ref 359]) rfl ?_
        refine j_V.cl mo4_M mo4_43 rfl (md := 3) (mj := 169) rfl (by decide) mo0_M (As := [.ref 359, .int 4]) (rest := []) (jk_spl3 (K.at rfl) rfl rfl rfl (Nat.le_of_ble_eq_true rfl) (Nat.le_of_ble_eq_true rfl)) (fun d => mo0_ok (K.fi [359] rfl rfl)) ?_
        rintro r h9 ⟨rfl, K9⟩
        generalize ez4 : (m_refuse th sst 4) = z4 at K9 ⊢
        have K : KN h9 [(359, .inl (10, [.int (z4.2.1), .ref 360, .ref 361, .ref 362, .ref 363, .ref 364, .ref 365, .ref 366, .ref 367, (u 9), .int (z4.2.2), (u 11), (u 12), .int acs, (u 14), (u 15), (u 16), (u 17), (u 18), (u 19), (u 20), (u 21), .ref 368, (u 23), .ref 369, .ref 370, .ref 371, (u 27)])), (360, .inr (.inl (0, w))), (364, .inr (.inl (0, kp)))] h0 := K.mg K9 rfl rfl
        clear K9
        show j_V jP _ 284 46 lv [.int (z4.1)] h9 _
        subst ez4
        refine j_V.ri mo4_M mo4_46 ?_
        rw [show (m_hold th sst acs w kp x1 x2) = _ from ((if_neg c7_0).trans ((if_neg c21_1).trans ((if_pos c38_2).trans (rfl))))]
        exact ⟨rfl, K⟩
    · replace c21_1 : (m_isTrain w x1) = 0 := jd_nen c21_1
      refine j_V.ldL mo4_M mo4_24 rfl (i := 0) (kd := 2) (v := .ref 359) (pcJ := 25) rfl L rfl rfl rfl ?_
      refine j_V.one mo4_M mo4_25 (by decide) (pcJ := 26) (stJ := [.int 2, .ref 359]) rfl ?_
      refine j_V.cl mo4_M mo4_26 rfl (md := 3) (mj := 169) rfl (by decide) mo0_M (As := [.ref 359, .int 2]) (rest := []) (jk_spl3 (K.at rfl) rfl rfl rfl (Nat.le_of_ble_eq_true rfl) (Nat.le_of_ble_eq_true rfl)) (fun d => mo0_ok (K.fi [359] rfl rfl)) ?_
      rintro r h9 ⟨rfl, K9⟩
      generalize ez5 : (m_refuse th sst 2) = z5 at K9 ⊢
      have K : KN h9 [(359, .inl (10, [.int (z5.2.1), .ref 360, .ref 361, .ref 362, .ref 363, .ref 364, .ref 365, .ref 366, .ref 367, (u 9), .int (z5.2.2), (u 11), (u 12), .int acs, (u 14), (u 15), (u 16), (u 17), (u 18), (u 19), (u 20), (u 21), .ref 368, (u 23), .ref 369, .ref 370, .ref 371, (u 27)])), (360, .inr (.inl (0, w))), (364, .inr (.inl (0, kp)))] h0 := K.mg K9 rfl rfl
      clear K9
      show j_V jP _ 284 29 lv [.int (z5.1)] h9 _
      subst ez5
      refine j_V.ri mo4_M mo4_29 ?_
      rw [show (m_hold th sst acs w kp x1 x2) = _ from ((if_neg c7_0).trans ((if_pos c21_1).trans (rfl)))]
      exact ⟨rfl, K⟩
  · replace c7_0 : (m_isFrom x2 1 99) = 0 := jd_nen c7_0
    refine j_V.ldL mo4_M mo4_10 rfl (i := 0) (kd := 2) (v := .ref 359) (pcJ := 11) rfl L rfl rfl rfl ?_
    refine j_V.one mo4_M mo4_11 (by decide) (pcJ := 12) (stJ := [.int 1, .ref 359]) rfl ?_
    refine j_V.cl mo4_M mo4_12 rfl (md := 3) (mj := 169) rfl (by decide) mo0_M (As := [.ref 359, .int 1]) (rest := []) (jk_spl3 (K.at rfl) rfl rfl rfl (Nat.le_of_ble_eq_true rfl) (Nat.le_of_ble_eq_true rfl)) (fun d => mo0_ok (K.fi [359] rfl rfl)) ?_
    rintro r h9 ⟨rfl, K9⟩
    generalize ez6 : (m_refuse th sst 1) = z6 at K9 ⊢
    have K : KN h9 [(359, .inl (10, [.int (z6.2.1), .ref 360, .ref 361, .ref 362, .ref 363, .ref 364, .ref 365, .ref 366, .ref 367, (u 9), .int (z6.2.2), (u 11), (u 12), .int acs, (u 14), (u 15), (u 16), (u 17), (u 18), (u 19), (u 20), (u 21), .ref 368, (u 23), .ref 369, .ref 370, .ref 371, (u 27)])), (360, .inr (.inl (0, w))), (364, .inr (.inl (0, kp)))] h0 := K.mg K9 rfl rfl
    clear K9
    show j_V jP _ 284 15 lv [.int (z6.1)] h9 _
    subst ez6
    refine j_V.ri mo4_M mo4_15 ?_
    rw [show (m_hold th sst acs w kp x1 x2) = _ from ((if_pos c7_0).trans (rfl))]
    exact ⟨rfl, K⟩
set_option maxRecDepth 100000 in
theorem mo5_M : j_meth jP 287 = some (yX10_start, cX10_start, 4, (some .int), 2, false, 10) := rfl
set_option maxRecDepth 100000 in
theorem mo5_0 : j_code jP 287 0 = some (.iload_n 2) := rfl
set_option maxRecDepth 100000 in
theorem mo5_1 : j_code jP 287 1 = some (.iconst 0) := rfl
set_option maxRecDepth 100000 in
theorem mo5_2 : j_code jP 287 2 = some (.sipush 199) := rfl
set_option maxRecDepth 100000 in
theorem mo5_5 : j_code jP 287 5 = some (.invokestatic 61) := rfl
set_option maxRecDepth 100000 in
theorem mo5_8 : j_code jP 287 8 = some (.ifCond .ne 9) := rfl
set_option maxRecDepth 100000 in
theorem mo5_11 : j_code jP 287 11 = some (.aload_n 0) := rfl
set_option maxRecDepth 100000 in
theorem mo5_12 : j_code jP 287 12 = some (.iconst 1) := rfl
set_option maxRecDepth 100000 in
theorem mo5_13 : j_code jP 287 13 = some (.invokevirtual 179) := rfl
set_option maxRecDepth 100000 in
theorem mo5_16 : j_code jP 287 16 = some (.ireturn) := rfl
set_option maxRecDepth 100000 in
theorem mo5_17 : j_code jP 287 17 = some (.aload_n 0) := rfl
set_option maxRecDepth 100000 in
theorem mo5_18 : j_code jP 287 18 = some (.iload_n 1) := rfl
set_option maxRecDepth 100000 in
theorem mo5_19 : j_code jP 287 19 = some (.invokevirtual 310) := rfl
set_option maxRecDepth 100000 in
theorem mo5_22 : j_code jP 287 22 = some (.ifCond .ne 9) := rfl
set_option maxRecDepth 100000 in
theorem mo5_25 : j_code jP 287 25 = some (.aload_n 0) := rfl
set_option maxRecDepth 100000 in
theorem mo5_26 : j_code jP 287 26 = some (.iconst 2) := rfl
set_option maxRecDepth 100000 in
theorem mo5_27 : j_code jP 287 27 = some (.invokevirtual 179) := rfl
set_option maxRecDepth 100000 in
theorem mo5_30 : j_code jP 287 30 = some (.ireturn) := rfl
set_option maxRecDepth 100000 in
theorem mo5_31 : j_code jP 287 31 = some (.aload_n 0) := rfl
set_option maxRecDepth 100000 in
theorem mo5_32 : j_code jP 287 32 = some (.iload_n 1) := rfl
set_option maxRecDepth 100000 in
theorem mo5_33 : j_code jP 287 33 = some (.iconst 3) := rfl
set_option maxRecDepth 100000 in
theorem mo5_34 : j_code jP 287 34 = some (.invokevirtual 198) := rfl
set_option maxRecDepth 100000 in
theorem mo5_37 : j_code jP 287 37 = some (.istore_n 3) := rfl
set_option maxRecDepth 100000 in
theorem mo5_38 : j_code jP 287 38 = some (.iload_n 3) := rfl
set_option maxRecDepth 100000 in
theorem mo5_39 : j_code jP 287 39 = some (.iload_n 2) := rfl
set_option maxRecDepth 100000 in
theorem mo5_40 : j_code jP 287 40 = some (.if_icmp .ne 9) := rfl
set_option maxRecDepth 100000 in
theorem mo5_43 : j_code jP 287 43 = some (.aload_n 0) := rfl
set_option maxRecDepth 100000 in
theorem mo5_44 : j_code jP 287 44 = some (.iconst 4) := rfl
set_option maxRecDepth 100000 in
theorem mo5_45 : j_code jP 287 45 = some (.invokevirtual 179) := rfl
set_option maxRecDepth 100000 in
theorem mo5_48 : j_code jP 287 48 = some (.ireturn) := rfl
set_option maxRecDepth 100000 in
theorem mo5_49 : j_code jP 287 49 = some (.aload_n 0) := rfl
set_option maxRecDepth 100000 in
theorem mo5_50 : j_code jP 287 50 = some (.iload_n 1) := rfl
set_option maxRecDepth 100000 in
theorem mo5_51 : j_code jP 287 51 = some (.bipush 6) := rfl
set_option maxRecDepth 100000 in
theorem mo5_53 : j_code jP 287 53 = some (.invokevirtual 198) := rfl
set_option maxRecDepth 100000 in
theorem mo5_56 : j_code jP 287 56 = some (.ifCond .eq 9) := rfl
set_option maxRecDepth 100000 in
theorem mo5_59 : j_code jP 287 59 = some (.aload_n 0) := rfl
set_option maxRecDepth 100000 in
theorem mo5_60 : j_code jP 287 60 = some (.iconst 5) := rfl
set_option maxRecDepth 100000 in
theorem mo5_61 : j_code jP 287 61 = some (.invokevirtual 179) := rfl
set_option maxRecDepth 100000 in
theorem mo5_64 : j_code jP 287 64 = some (.ireturn) := rfl
set_option maxRecDepth 100000 in
theorem mo5_65 : j_code jP 287 65 = some (.aload_n 0) := rfl
set_option maxRecDepth 100000 in
theorem mo5_66 : j_code jP 287 66 = some (.invokevirtual 362) := rfl
set_option maxRecDepth 100000 in
theorem mo5_69 : j_code jP 287 69 = some (.aload_n 0) := rfl
set_option maxRecDepth 100000 in
theorem mo5_70 : j_code jP 287 70 = some (.iload_n 1) := rfl
set_option maxRecDepth 100000 in
theorem mo5_71 : j_code jP 287 71 = some (.iconst 3) := rfl
set_option maxRecDepth 100000 in
theorem mo5_72 : j_code jP 287 72 = some (.iload_n 2) := rfl
set_option maxRecDepth 100000 in
theorem mo5_73 : j_code jP 287 73 = some (.invokevirtual 238) := rfl
set_option maxRecDepth 100000 in
theorem mo5_76 : j_code jP 287 76 = some (.aload_n 0) := rfl
set_option maxRecDepth 100000 in
theorem mo5_77 : j_code jP 287 77 = some (.iload_n 3) := rfl
set_option maxRecDepth 100000 in
theorem mo5_78 : j_code jP 287 78 = some (.invokevirtual 195) := rfl
set_option maxRecDepth 100000 in
theorem mo5_81 : j_code jP 287 81 = some (.ireturn) := rfl
def m_start (th : Int32) (sst : Int32) (acs : Int32) (w : List Int32) (kp : List Int32) (x1 : Int32) (x2 : Int32) : Int32 × Int32 × Int32 × Int32 × List Int32 × List Int32 := (if (m_isFrom x2 0 199) = 0 then let z7 := (m_refuse th sst 1); ((z7.1), (z7.2.1), (z7.2.2), acs, kp, w) else (if (m_isTrain w x1) = 0 then let z6 := (m_refuse th sst 2); ((z6.1), (z6.2.1), (z6.2.2), acs, kp, w) else (if (m_of w x1 3) = x2 then let z5 := (m_refuse th sst 4); ((z5.1), (z5.2.1), (z5.2.2), acs, kp, w) else (if (m_of w x1 6) = 0 then let z1 := (m_keeps acs w kp); let z2 := (m_puts w x1 3 x2); let z3 := (m_gives th sst (m_of w x1 3)); ((z3.1), (z3.2.1), (z3.2.2), (z1.2), (z1.1), z2) else let z4 := (m_refuse th sst 5); ((z4.1), (z4.2.1), (z4.2.2), acs, kp, w)))))
set_option maxRecDepth 1000000 in
theorem mo5_ok {u : Nat → Value} {th : Int32} {sst : Int32} {acs : Int32} {w : List Int32} {kp : List Int32} {x1 x2 : Int32} {d : Nat} {h h0 : J_H} (K : KN h [(359, .inl (10, [.int th, .ref 360, .ref 361, .ref 362, .ref 363, .ref 364, .ref 365, .ref 366, .ref 367, (u 9), .int sst, (u 11), (u 12), .int acs, (u 14), (u 15), (u 16), (u 17), (u 18), (u 19), (u 20), (u 21), .ref 368, (u 23), .ref 369, .ref 370, .ref 371, (u 27)])), (360, .inr (.inl (0, w))), (364, .inr (.inl (0, kp)))] h0) : j_V jP d 287 0 (lv_args 0 [.ref 359, .int x1, .int x2]) [] h (fun rv h' => rv = some (.int (m_start th sst acs w kp x1 x2).1) ∧ KN h' [(359, .inl (10, [.int (m_start th sst acs w kp x1 x2).2.1, .ref 360, .ref 361, .ref 362, .ref 363, .ref 364, .ref 365, .ref 366, .ref 367, (u 9), .int (m_start th sst acs w kp x1 x2).2.2.1, (u 11), (u 12), .int (m_start th sst acs w kp x1 x2).2.2.2.1, (u 14), (u 15), (u 16), (u 17), (u 18), (u 19), (u 20), (u 21), .ref 368, (u 23), .ref 369, .ref 370, .ref 371, (u 27)])), (360, .inr (.inl (0, (m_start th sst acs w kp x1 x2).2.2.2.2.2))), (364, .inr (.inl (0, (m_start th sst acs w kp x1 x2).2.2.2.2.1)))] h0) := by
  show j_V jP d 287 0 [(0, .ref 359), (1, .int x1), (2, .int x2)] [] h _
  obtain ⟨lv, elv, L⟩ : ∃ lv, lv = [(0, .ref 359), (1, .int x1), (2, .int x2)] ∧ LK lv [(0, .ref 359), (1, .int x1), (2, .int x2)] := ⟨_, rfl, LK.rf⟩
  rw [← elv]
  clear elv
  refine j_V.ldL mo5_M mo5_0 rfl (i := 2) (kd := 0) (v := .int x2) (pcJ := 1) rfl L rfl rfl rfl ?_
  refine j_V.one mo5_M mo5_1 (by decide) (pcJ := 2) (stJ := [.int 0, .int x2]) rfl ?_
  refine j_V.one mo5_M mo5_2 (by decide) (pcJ := 5) (stJ := [.int 199, .int 0, .int x2]) rfl ?_
  refine j_V.cl mo5_M mo5_5 rfl (md := 2) (mj := 171) rfl (by decide) ma0_M (As := [.int x2, .int 0, .int 199]) (rest := []) (jk_spl2 rfl rfl (Nat.le_of_ble_eq_true rfl) (Nat.le_of_ble_eq_true rfl)) (fun d => ma0_ok (K.fi [] rfl rfl)) ?_
  rintro r hz ⟨rfl, ez⟩
  rw [ez]
  clear ez
  show j_V jP _ 287 8 lv [.int (m_isFrom x2 0 199)] h _
  refine j_V.ifc mo5_M mo5_8 (t := 17) rfl (fun c8_0 => ?_) (fun c8_0 => ?_)
  · replace c8_0 : ¬ ((m_isFrom x2 0 199) = 0) := jd_ne c8_0
    refine j_V.ldL mo5_M mo5_17 rfl (i := 0) (kd := 2) (v := .ref 359) (pcJ := 18) rfl L rfl rfl rfl ?_
    refine j_V.ldL mo5_M mo5_18 rfl (i := 1) (kd := 0) (v := .int x1) (pcJ := 19) rfl L rfl rfl rfl ?_
    refine j_V.cl mo5_M mo5_19 rfl (md := 3) (mj := 173) rfl (by decide) md0_M (As := [.ref 359, .int x1]) (rest := []) (jk_spl3 (K.at rfl) rfl rfl rfl (Nat.le_of_ble_eq_true rfl) (Nat.le_of_ble_eq_true rfl)) (fun d => md0_ok (u := fun j => [.int th, .ref 360, .ref 361, .ref 362, .ref 363, .ref 364, .ref 365, .ref 366, .ref 367, (u 9), .int sst, (u 11), (u 12), .int acs, (u 14), (u 15), (u 16), (u 17), (u 18), (u 19), (u 20), (u 21), .ref 368, (u 23), .ref 369, .ref 370, .ref 371, (u 27)].getD j .null) (K.fi [359, 360] rfl rfl)) ?_
    rintro r hz ⟨rfl, ez⟩
    rw [ez]
    clear ez
    show j_V jP _ 287 22 lv [.int (m_isTrain w x1)] h _
    refine j_V.ifc mo5_M mo5_22 (t := 31) rfl (fun c22_1 => ?_) (fun c22_1 => ?_)
    · replace c22_1 : ¬ ((m_isTrain w x1) = 0) := jd_ne c22_1
      refine j_V.ldL mo5_M mo5_31 rfl (i := 0) (kd := 2) (v := .ref 359) (pcJ := 32) rfl L rfl rfl rfl ?_
      refine j_V.ldL mo5_M mo5_32 rfl (i := 1) (kd := 0) (v := .int x1) (pcJ := 33) rfl L rfl rfl rfl ?_
      refine j_V.one mo5_M mo5_33 (by decide) (pcJ := 34) (stJ := [.int 3, .int x1, .ref 359]) rfl ?_
      refine j_V.cl mo5_M mo5_34 rfl (md := 3) (mj := 178) rfl (by decide) ma3_M (As := [.ref 359, .int x1, .int 3]) (rest := []) (jk_spl3 (K.at rfl) rfl rfl rfl (Nat.le_of_ble_eq_true rfl) (Nat.le_of_ble_eq_true rfl)) (fun d => ma3_ok (u := fun j => [.int th, .ref 360, .ref 361, .ref 362, .ref 363, .ref 364, .ref 365, .ref 366, .ref 367, (u 9), .int sst, (u 11), (u 12), .int acs, (u 14), (u 15), (u 16), (u 17), (u 18), (u 19), (u 20), (u 21), .ref 368, (u 23), .ref 369, .ref 370, .ref 371, (u 27)].getD j .null) (K.fi [359, 360] rfl rfl)) ?_
      rintro r hz ⟨rfl, ez⟩
      rw [ez]
      clear ez
      show j_V jP _ 287 37 lv [.int (m_of w x1 3)] h _
      refine j_V.stL mo5_M mo5_37 rfl (i := 3) (kd := 0) (kl' := [(0, .ref 359), (1, .int x1), (2, .int x2), (3, .int (m_of w x1 3))]) (pcJ := 38) rfl L rfl (by decide) rfl rfl rfl (fun lv L => ?_)
      refine j_V.ldL mo5_M mo5_38 rfl (i := 3) (kd := 0) (v := .int (m_of w x1 3)) (pcJ := 39) rfl L rfl rfl rfl ?_
      refine j_V.ldL mo5_M mo5_39 rfl (i := 2) (kd := 0) (v := .int x2) (pcJ := 40) rfl L rfl rfl rfl ?_
      refine j_V.icmp mo5_M mo5_40 (t := 49) rfl (fun c40_2 => ?_) (fun c40_2 => ?_)
      · replace c40_2 : ¬ ((m_of w x1 3) = x2) := jd_ne c40_2
        refine j_V.ldL mo5_M mo5_49 rfl (i := 0) (kd := 2) (v := .ref 359) (pcJ := 50) rfl L rfl rfl rfl ?_
        refine j_V.ldL mo5_M mo5_50 rfl (i := 1) (kd := 0) (v := .int x1) (pcJ := 51) rfl L rfl rfl rfl ?_
        refine j_V.one mo5_M mo5_51 (by decide) (pcJ := 53) (stJ := [.int 6, .int x1, .ref 359]) rfl ?_
        refine j_V.cl mo5_M mo5_53 rfl (md := 3) (mj := 178) rfl (by decide) ma3_M (As := [.ref 359, .int x1, .int 6]) (rest := []) (jk_spl3 (K.at rfl) rfl rfl rfl (Nat.le_of_ble_eq_true rfl) (Nat.le_of_ble_eq_true rfl)) (fun d => ma3_ok (u := fun j => [.int th, .ref 360, .ref 361, .ref 362, .ref 363, .ref 364, .ref 365, .ref 366, .ref 367, (u 9), .int sst, (u 11), (u 12), .int acs, (u 14), (u 15), (u 16), (u 17), (u 18), (u 19), (u 20), (u 21), .ref 368, (u 23), .ref 369, .ref 370, .ref 371, (u 27)].getD j .null) (K.fi [359, 360] rfl rfl)) ?_
        rintro r hz ⟨rfl, ez⟩
        rw [ez]
        clear ez
        show j_V jP _ 287 56 lv [.int (m_of w x1 6)] h _
        refine j_V.ifc mo5_M mo5_56 (t := 65) rfl (fun c56_3 => ?_) (fun c56_3 => ?_)
        · replace c56_3 : (m_of w x1 6) = 0 := jd_eq c56_3
          refine j_V.ldL mo5_M mo5_65 rfl (i := 0) (kd := 2) (v := .ref 359) (pcJ := 66) rfl L rfl rfl rfl ?_
          refine j_V.cl mo5_M mo5_66 rfl (md := 3) (mj := 281) rfl (by decide) mo2_M (As := [.ref 359]) (rest := []) (jk_spl3 (K.at rfl) rfl rfl rfl (Nat.le_of_ble_eq_true rfl) (Nat.le_of_ble_eq_true rfl)) (fun d => mo2_ok (K.fi [359, 360, 364] rfl rfl)) ?_
          rintro r h9 ⟨rfl, K9⟩
          generalize ez1 : (m_keeps acs w kp) = z1 at K9 ⊢
          have K : KN h9 [(359, .inl (10, [.int th, .ref 360, .ref 361, .ref 362, .ref 363, .ref 364, .ref 365, .ref 366, .ref 367, (u 9), .int sst, (u 11), (u 12), .int (z1.2), (u 14), (u 15), (u 16), (u 17), (u 18), (u 19), (u 20), (u 21), .ref 368, (u 23), .ref 369, .ref 370, .ref 371, (u 27)])), (360, .inr (.inl (0, w))), (364, .inr (.inl (0, (z1.1))))] h0 := K.mg K9 rfl rfl
          clear K9
          show j_V jP _ 287 69 lv [] h9 _
          refine j_V.ldL mo5_M mo5_69 rfl (i := 0) (kd := 2) (v := .ref 359) (pcJ := 70) rfl L rfl rfl rfl ?_
          refine j_V.ldL mo5_M mo5_70 rfl (i := 1) (kd := 0) (v := .int x1) (pcJ := 71) rfl L rfl rfl rfl ?_
          refine j_V.one mo5_M mo5_71 (by decide) (pcJ := 72) (stJ := [.int 3, .int x1, .ref 359]) rfl ?_
          refine j_V.ldL mo5_M mo5_72 rfl (i := 2) (kd := 0) (v := .int x2) (pcJ := 73) rfl L rfl rfl rfl ?_
          refine j_V.cl mo5_M mo5_73 rfl (md := 3) (mj := 179) rfl (by decide) me0_M (As := [.ref 359, .int x1, .int 3, .int x2]) (rest := []) (jk_spl3 (K.at rfl) rfl rfl rfl (Nat.le_of_ble_eq_true rfl) (Nat.le_of_ble_eq_true rfl)) (fun d => me0_ok (u := fun j => [.int th, .ref 360, .ref 361, .ref 362, .ref 363, .ref 364, .ref 365, .ref 366, .ref 367, (u 9), .int sst, (u 11), (u 12), .int (z1.2), (u 14), (u 15), (u 16), (u 17), (u 18), (u 19), (u 20), (u 21), .ref 368, (u 23), .ref 369, .ref 370, .ref 371, (u 27)].getD j .null) (K.fi [359, 360] rfl rfl)) ?_
          rintro r h9 ⟨rfl, K9⟩
          generalize ez2 : (m_puts w x1 3 x2) = z2 at K9 ⊢
          have K : KN h9 [(359, .inl (10, [.int th, .ref 360, .ref 361, .ref 362, .ref 363, .ref 364, .ref 365, .ref 366, .ref 367, (u 9), .int sst, (u 11), (u 12), .int (z1.2), (u 14), (u 15), (u 16), (u 17), (u 18), (u 19), (u 20), (u 21), .ref 368, (u 23), .ref 369, .ref 370, .ref 371, (u 27)])), (360, .inr (.inl (0, z2))), (364, .inr (.inl (0, (z1.1))))] h0 := K.mg K9 rfl rfl
          clear K9
          show j_V jP _ 287 76 lv [] h9 _
          refine j_V.ldL mo5_M mo5_76 rfl (i := 0) (kd := 2) (v := .ref 359) (pcJ := 77) rfl L rfl rfl rfl ?_
          refine j_V.ldL mo5_M mo5_77 rfl (i := 3) (kd := 0) (v := .int (m_of w x1 3)) (pcJ := 78) rfl L rfl rfl rfl ?_
          refine j_V.cl mo5_M mo5_78 rfl (md := 3) (mj := 170) rfl (by decide) mo1_M (As := [.ref 359, .int (m_of w x1 3)]) (rest := []) (jk_spl3 (K.at rfl) rfl rfl rfl (Nat.le_of_ble_eq_true rfl) (Nat.le_of_ble_eq_true rfl)) (fun d => mo1_ok (K.fi [359] rfl rfl)) ?_
          rintro r h9 ⟨rfl, K9⟩
          generalize ez3 : (m_gives th sst (m_of w x1 3)) = z3 at K9 ⊢
          have K : KN h9 [(359, .inl (10, [.int (z3.2.1), .ref 360, .ref 361, .ref 362, .ref 363, .ref 364, .ref 365, .ref 366, .ref 367, (u 9), .int (z3.2.2), (u 11), (u 12), .int (z1.2), (u 14), (u 15), (u 16), (u 17), (u 18), (u 19), (u 20), (u 21), .ref 368, (u 23), .ref 369, .ref 370, .ref 371, (u 27)])), (360, .inr (.inl (0, z2))), (364, .inr (.inl (0, (z1.1))))] h0 := K.mg K9 rfl rfl
          clear K9
          show j_V jP _ 287 81 lv [.int (z3.1)] h9 _
          subst ez3
          subst ez2
          subst ez1
          refine j_V.ri mo5_M mo5_81 ?_
          rw [show (m_start th sst acs w kp x1 x2) = _ from ((if_neg c8_0).trans ((if_neg c22_1).trans ((if_neg c40_2).trans ((if_pos c56_3).trans (rfl)))))]
          exact ⟨rfl, K⟩
        · replace c56_3 : ¬ ((m_of w x1 6) = 0) := jd_eqn c56_3
          refine j_V.ldL mo5_M mo5_59 rfl (i := 0) (kd := 2) (v := .ref 359) (pcJ := 60) rfl L rfl rfl rfl ?_
          refine j_V.one mo5_M mo5_60 (by decide) (pcJ := 61) (stJ := [.int 5, .ref 359]) rfl ?_
          refine j_V.cl mo5_M mo5_61 rfl (md := 3) (mj := 169) rfl (by decide) mo0_M (As := [.ref 359, .int 5]) (rest := []) (jk_spl3 (K.at rfl) rfl rfl rfl (Nat.le_of_ble_eq_true rfl) (Nat.le_of_ble_eq_true rfl)) (fun d => mo0_ok (K.fi [359] rfl rfl)) ?_
          rintro r h9 ⟨rfl, K9⟩
          generalize ez4 : (m_refuse th sst 5) = z4 at K9 ⊢
          have K : KN h9 [(359, .inl (10, [.int (z4.2.1), .ref 360, .ref 361, .ref 362, .ref 363, .ref 364, .ref 365, .ref 366, .ref 367, (u 9), .int (z4.2.2), (u 11), (u 12), .int acs, (u 14), (u 15), (u 16), (u 17), (u 18), (u 19), (u 20), (u 21), .ref 368, (u 23), .ref 369, .ref 370, .ref 371, (u 27)])), (360, .inr (.inl (0, w))), (364, .inr (.inl (0, kp)))] h0 := K.mg K9 rfl rfl
          clear K9
          show j_V jP _ 287 64 lv [.int (z4.1)] h9 _
          subst ez4
          refine j_V.ri mo5_M mo5_64 ?_
          rw [show (m_start th sst acs w kp x1 x2) = _ from ((if_neg c8_0).trans ((if_neg c22_1).trans ((if_neg c40_2).trans ((if_neg c56_3).trans (rfl)))))]
          exact ⟨rfl, K⟩
      · replace c40_2 : (m_of w x1 3) = x2 := jd_nen c40_2
        refine j_V.ldL mo5_M mo5_43 rfl (i := 0) (kd := 2) (v := .ref 359) (pcJ := 44) rfl L rfl rfl rfl ?_
        refine j_V.one mo5_M mo5_44 (by decide) (pcJ := 45) (stJ := [.int 4, .ref 359]) rfl ?_
        refine j_V.cl mo5_M mo5_45 rfl (md := 3) (mj := 169) rfl (by decide) mo0_M (As := [.ref 359, .int 4]) (rest := []) (jk_spl3 (K.at rfl) rfl rfl rfl (Nat.le_of_ble_eq_true rfl) (Nat.le_of_ble_eq_true rfl)) (fun d => mo0_ok (K.fi [359] rfl rfl)) ?_
        rintro r h9 ⟨rfl, K9⟩
        generalize ez5 : (m_refuse th sst 4) = z5 at K9 ⊢
        have K : KN h9 [(359, .inl (10, [.int (z5.2.1), .ref 360, .ref 361, .ref 362, .ref 363, .ref 364, .ref 365, .ref 366, .ref 367, (u 9), .int (z5.2.2), (u 11), (u 12), .int acs, (u 14), (u 15), (u 16), (u 17), (u 18), (u 19), (u 20), (u 21), .ref 368, (u 23), .ref 369, .ref 370, .ref 371, (u 27)])), (360, .inr (.inl (0, w))), (364, .inr (.inl (0, kp)))] h0 := K.mg K9 rfl rfl
        clear K9
        show j_V jP _ 287 48 lv [.int (z5.1)] h9 _
        subst ez5
        refine j_V.ri mo5_M mo5_48 ?_
        rw [show (m_start th sst acs w kp x1 x2) = _ from ((if_neg c8_0).trans ((if_neg c22_1).trans ((if_pos c40_2).trans (rfl))))]
        exact ⟨rfl, K⟩
    · replace c22_1 : (m_isTrain w x1) = 0 := jd_nen c22_1
      refine j_V.ldL mo5_M mo5_25 rfl (i := 0) (kd := 2) (v := .ref 359) (pcJ := 26) rfl L rfl rfl rfl ?_
      refine j_V.one mo5_M mo5_26 (by decide) (pcJ := 27) (stJ := [.int 2, .ref 359]) rfl ?_
      refine j_V.cl mo5_M mo5_27 rfl (md := 3) (mj := 169) rfl (by decide) mo0_M (As := [.ref 359, .int 2]) (rest := []) (jk_spl3 (K.at rfl) rfl rfl rfl (Nat.le_of_ble_eq_true rfl) (Nat.le_of_ble_eq_true rfl)) (fun d => mo0_ok (K.fi [359] rfl rfl)) ?_
      rintro r h9 ⟨rfl, K9⟩
      generalize ez6 : (m_refuse th sst 2) = z6 at K9 ⊢
      have K : KN h9 [(359, .inl (10, [.int (z6.2.1), .ref 360, .ref 361, .ref 362, .ref 363, .ref 364, .ref 365, .ref 366, .ref 367, (u 9), .int (z6.2.2), (u 11), (u 12), .int acs, (u 14), (u 15), (u 16), (u 17), (u 18), (u 19), (u 20), (u 21), .ref 368, (u 23), .ref 369, .ref 370, .ref 371, (u 27)])), (360, .inr (.inl (0, w))), (364, .inr (.inl (0, kp)))] h0 := K.mg K9 rfl rfl
      clear K9
      show j_V jP _ 287 30 lv [.int (z6.1)] h9 _
      subst ez6
      refine j_V.ri mo5_M mo5_30 ?_
      rw [show (m_start th sst acs w kp x1 x2) = _ from ((if_neg c8_0).trans ((if_pos c22_1).trans (rfl)))]
      exact ⟨rfl, K⟩
  · replace c8_0 : (m_isFrom x2 0 199) = 0 := jd_nen c8_0
    refine j_V.ldL mo5_M mo5_11 rfl (i := 0) (kd := 2) (v := .ref 359) (pcJ := 12) rfl L rfl rfl rfl ?_
    refine j_V.one mo5_M mo5_12 (by decide) (pcJ := 13) (stJ := [.int 1, .ref 359]) rfl ?_
    refine j_V.cl mo5_M mo5_13 rfl (md := 3) (mj := 169) rfl (by decide) mo0_M (As := [.ref 359, .int 1]) (rest := []) (jk_spl3 (K.at rfl) rfl rfl rfl (Nat.le_of_ble_eq_true rfl) (Nat.le_of_ble_eq_true rfl)) (fun d => mo0_ok (K.fi [359] rfl rfl)) ?_
    rintro r h9 ⟨rfl, K9⟩
    generalize ez7 : (m_refuse th sst 1) = z7 at K9 ⊢
    have K : KN h9 [(359, .inl (10, [.int (z7.2.1), .ref 360, .ref 361, .ref 362, .ref 363, .ref 364, .ref 365, .ref 366, .ref 367, (u 9), .int (z7.2.2), (u 11), (u 12), .int acs, (u 14), (u 15), (u 16), (u 17), (u 18), (u 19), (u 20), (u 21), .ref 368, (u 23), .ref 369, .ref 370, .ref 371, (u 27)])), (360, .inr (.inl (0, w))), (364, .inr (.inl (0, kp)))] h0 := K.mg K9 rfl rfl
    clear K9
    show j_V jP _ 287 16 lv [.int (z7.1)] h9 _
    subst ez7
    refine j_V.ri mo5_M mo5_16 ?_
    rw [show (m_start th sst acs w kp x1 x2) = _ from ((if_pos c8_0).trans (rfl))]
    exact ⟨rfl, K⟩
set_option maxRecDepth 100000 in
theorem mo6_M : j_meth jP 288 = some (yX10_stall, cX10_stall, 3, (some .int), 2, false, 10) := rfl
set_option maxRecDepth 100000 in
theorem mo6_0 : j_code jP 288 0 = some (.iload_n 2) := rfl
set_option maxRecDepth 100000 in
theorem mo6_1 : j_code jP 288 1 = some (.iconst 1) := rfl
set_option maxRecDepth 100000 in
theorem mo6_2 : j_code jP 288 2 = some (.bipush 99) := rfl
set_option maxRecDepth 100000 in
theorem mo6_4 : j_code jP 288 4 = some (.invokestatic 61) := rfl
set_option maxRecDepth 100000 in
theorem mo6_7 : j_code jP 288 7 = some (.ifCond .ne 9) := rfl
set_option maxRecDepth 100000 in
theorem mo6_10 : j_code jP 288 10 = some (.aload_n 0) := rfl
set_option maxRecDepth 100000 in
theorem mo6_11 : j_code jP 288 11 = some (.iconst 1) := rfl
set_option maxRecDepth 100000 in
theorem mo6_12 : j_code jP 288 12 = some (.invokevirtual 179) := rfl
set_option maxRecDepth 100000 in
theorem mo6_15 : j_code jP 288 15 = some (.ireturn) := rfl
set_option maxRecDepth 100000 in
theorem mo6_16 : j_code jP 288 16 = some (.aload_n 0) := rfl
set_option maxRecDepth 100000 in
theorem mo6_17 : j_code jP 288 17 = some (.iload_n 1) := rfl
set_option maxRecDepth 100000 in
theorem mo6_18 : j_code jP 288 18 = some (.invokevirtual 310) := rfl
set_option maxRecDepth 100000 in
theorem mo6_21 : j_code jP 288 21 = some (.ifCond .ne 9) := rfl
set_option maxRecDepth 100000 in
theorem mo6_24 : j_code jP 288 24 = some (.aload_n 0) := rfl
set_option maxRecDepth 100000 in
theorem mo6_25 : j_code jP 288 25 = some (.iconst 2) := rfl
set_option maxRecDepth 100000 in
theorem mo6_26 : j_code jP 288 26 = some (.invokevirtual 179) := rfl
set_option maxRecDepth 100000 in
theorem mo6_29 : j_code jP 288 29 = some (.ireturn) := rfl
set_option maxRecDepth 100000 in
theorem mo6_30 : j_code jP 288 30 = some (.aload_n 0) := rfl
set_option maxRecDepth 100000 in
theorem mo6_31 : j_code jP 288 31 = some (.iload_n 1) := rfl
set_option maxRecDepth 100000 in
theorem mo6_32 : j_code jP 288 32 = some (.bipush 6) := rfl
set_option maxRecDepth 100000 in
theorem mo6_34 : j_code jP 288 34 = some (.invokevirtual 198) := rfl
set_option maxRecDepth 100000 in
theorem mo6_37 : j_code jP 288 37 = some (.iconst 2) := rfl
set_option maxRecDepth 100000 in
theorem mo6_38 : j_code jP 288 38 = some (.if_icmp .eq 9) := rfl
set_option maxRecDepth 100000 in
theorem mo6_41 : j_code jP 288 41 = some (.aload_n 0) := rfl
set_option maxRecDepth 100000 in
theorem mo6_42 : j_code jP 288 42 = some (.iconst 5) := rfl
set_option maxRecDepth 100000 in
theorem mo6_43 : j_code jP 288 43 = some (.invokevirtual 179) := rfl
set_option maxRecDepth 100000 in
theorem mo6_46 : j_code jP 288 46 = some (.ireturn) := rfl
set_option maxRecDepth 100000 in
theorem mo6_47 : j_code jP 288 47 = some (.aload_n 0) := rfl
set_option maxRecDepth 100000 in
theorem mo6_48 : j_code jP 288 48 = some (.invokevirtual 362) := rfl
set_option maxRecDepth 100000 in
theorem mo6_51 : j_code jP 288 51 = some (.aload_n 0) := rfl
set_option maxRecDepth 100000 in
theorem mo6_52 : j_code jP 288 52 = some (.iload_n 1) := rfl
set_option maxRecDepth 100000 in
theorem mo6_53 : j_code jP 288 53 = some (.bipush 9) := rfl
set_option maxRecDepth 100000 in
theorem mo6_55 : j_code jP 288 55 = some (.aload_n 0) := rfl
set_option maxRecDepth 100000 in
theorem mo6_56 : j_code jP 288 56 = some (.iload_n 1) := rfl
set_option maxRecDepth 100000 in
theorem mo6_57 : j_code jP 288 57 = some (.bipush 9) := rfl
set_option maxRecDepth 100000 in
theorem mo6_59 : j_code jP 288 59 = some (.invokevirtual 198) := rfl
set_option maxRecDepth 100000 in
theorem mo6_62 : j_code jP 288 62 = some (.iload_n 2) := rfl
set_option maxRecDepth 100000 in
theorem mo6_63 : j_code jP 288 63 = some (.iadd) := rfl
set_option maxRecDepth 100000 in
theorem mo6_64 : j_code jP 288 64 = some (.invokevirtual 238) := rfl
set_option maxRecDepth 100000 in
theorem mo6_67 : j_code jP 288 67 = some (.aload_n 0) := rfl
set_option maxRecDepth 100000 in
theorem mo6_68 : j_code jP 288 68 = some (.aload_n 0) := rfl
set_option maxRecDepth 100000 in
theorem mo6_69 : j_code jP 288 69 = some (.iload_n 1) := rfl
set_option maxRecDepth 100000 in
theorem mo6_70 : j_code jP 288 70 = some (.bipush 9) := rfl
set_option maxRecDepth 100000 in
theorem mo6_72 : j_code jP 288 72 = some (.invokevirtual 198) := rfl
set_option maxRecDepth 100000 in
theorem mo6_75 : j_code jP 288 75 = some (.invokevirtual 195) := rfl
set_option maxRecDepth 100000 in
theorem mo6_78 : j_code jP 288 78 = some (.ireturn) := rfl
def m_stall (th : Int32) (sst : Int32) (acs : Int32) (w : List Int32) (kp : List Int32) (x1 : Int32) (x2 : Int32) : Int32 × Int32 × Int32 × Int32 × List Int32 × List Int32 := (if (m_isFrom x2 1 99) = 0 then let z6 := (m_refuse th sst 1); ((z6.1), (z6.2.1), (z6.2.2), acs, kp, w) else (if (m_isTrain w x1) = 0 then let z5 := (m_refuse th sst 2); ((z5.1), (z5.2.1), (z5.2.2), acs, kp, w) else (if (m_of w x1 6) = 2 then let z1 := (m_keeps acs w kp); let z2 := (m_puts w x1 9 ((m_of w x1 9) + x2)); let z3 := (m_gives th sst (m_of z2 x1 9)); ((z3.1), (z3.2.1), (z3.2.2), (z1.2), (z1.1), z2) else let z4 := (m_refuse th sst 5); ((z4.1), (z4.2.1), (z4.2.2), acs, kp, w))))
set_option maxRecDepth 1000000 in
theorem mo6_ok {u : Nat → Value} {th : Int32} {sst : Int32} {acs : Int32} {w : List Int32} {kp : List Int32} {x1 x2 : Int32} {d : Nat} {h h0 : J_H} (K : KN h [(359, .inl (10, [.int th, .ref 360, .ref 361, .ref 362, .ref 363, .ref 364, .ref 365, .ref 366, .ref 367, (u 9), .int sst, (u 11), (u 12), .int acs, (u 14), (u 15), (u 16), (u 17), (u 18), (u 19), (u 20), (u 21), .ref 368, (u 23), .ref 369, .ref 370, .ref 371, (u 27)])), (360, .inr (.inl (0, w))), (364, .inr (.inl (0, kp)))] h0) : j_V jP d 288 0 (lv_args 0 [.ref 359, .int x1, .int x2]) [] h (fun rv h' => rv = some (.int (m_stall th sst acs w kp x1 x2).1) ∧ KN h' [(359, .inl (10, [.int (m_stall th sst acs w kp x1 x2).2.1, .ref 360, .ref 361, .ref 362, .ref 363, .ref 364, .ref 365, .ref 366, .ref 367, (u 9), .int (m_stall th sst acs w kp x1 x2).2.2.1, (u 11), (u 12), .int (m_stall th sst acs w kp x1 x2).2.2.2.1, (u 14), (u 15), (u 16), (u 17), (u 18), (u 19), (u 20), (u 21), .ref 368, (u 23), .ref 369, .ref 370, .ref 371, (u 27)])), (360, .inr (.inl (0, (m_stall th sst acs w kp x1 x2).2.2.2.2.2))), (364, .inr (.inl (0, (m_stall th sst acs w kp x1 x2).2.2.2.2.1)))] h0) := by
  show j_V jP d 288 0 [(0, .ref 359), (1, .int x1), (2, .int x2)] [] h _
  obtain ⟨lv, elv, L⟩ : ∃ lv, lv = [(0, .ref 359), (1, .int x1), (2, .int x2)] ∧ LK lv [(0, .ref 359), (1, .int x1), (2, .int x2)] := ⟨_, rfl, LK.rf⟩
  rw [← elv]
  clear elv
  refine j_V.ldL mo6_M mo6_0 rfl (i := 2) (kd := 0) (v := .int x2) (pcJ := 1) rfl L rfl rfl rfl ?_
  refine j_V.one mo6_M mo6_1 (by decide) (pcJ := 2) (stJ := [.int 1, .int x2]) rfl ?_
  refine j_V.one mo6_M mo6_2 (by decide) (pcJ := 4) (stJ := [.int 99, .int 1, .int x2]) rfl ?_
  refine j_V.cl mo6_M mo6_4 rfl (md := 2) (mj := 171) rfl (by decide) ma0_M (As := [.int x2, .int 1, .int 99]) (rest := []) (jk_spl2 rfl rfl (Nat.le_of_ble_eq_true rfl) (Nat.le_of_ble_eq_true rfl)) (fun d => ma0_ok (K.fi [] rfl rfl)) ?_
  rintro r hz ⟨rfl, ez⟩
  rw [ez]
  clear ez
  show j_V jP _ 288 7 lv [.int (m_isFrom x2 1 99)] h _
  refine j_V.ifc mo6_M mo6_7 (t := 16) rfl (fun c7_0 => ?_) (fun c7_0 => ?_)
  · replace c7_0 : ¬ ((m_isFrom x2 1 99) = 0) := jd_ne c7_0
    refine j_V.ldL mo6_M mo6_16 rfl (i := 0) (kd := 2) (v := .ref 359) (pcJ := 17) rfl L rfl rfl rfl ?_
    refine j_V.ldL mo6_M mo6_17 rfl (i := 1) (kd := 0) (v := .int x1) (pcJ := 18) rfl L rfl rfl rfl ?_
    refine j_V.cl mo6_M mo6_18 rfl (md := 3) (mj := 173) rfl (by decide) md0_M (As := [.ref 359, .int x1]) (rest := []) (jk_spl3 (K.at rfl) rfl rfl rfl (Nat.le_of_ble_eq_true rfl) (Nat.le_of_ble_eq_true rfl)) (fun d => md0_ok (u := fun j => [.int th, .ref 360, .ref 361, .ref 362, .ref 363, .ref 364, .ref 365, .ref 366, .ref 367, (u 9), .int sst, (u 11), (u 12), .int acs, (u 14), (u 15), (u 16), (u 17), (u 18), (u 19), (u 20), (u 21), .ref 368, (u 23), .ref 369, .ref 370, .ref 371, (u 27)].getD j .null) (K.fi [359, 360] rfl rfl)) ?_
    rintro r hz ⟨rfl, ez⟩
    rw [ez]
    clear ez
    show j_V jP _ 288 21 lv [.int (m_isTrain w x1)] h _
    refine j_V.ifc mo6_M mo6_21 (t := 30) rfl (fun c21_1 => ?_) (fun c21_1 => ?_)
    · replace c21_1 : ¬ ((m_isTrain w x1) = 0) := jd_ne c21_1
      refine j_V.ldL mo6_M mo6_30 rfl (i := 0) (kd := 2) (v := .ref 359) (pcJ := 31) rfl L rfl rfl rfl ?_
      refine j_V.ldL mo6_M mo6_31 rfl (i := 1) (kd := 0) (v := .int x1) (pcJ := 32) rfl L rfl rfl rfl ?_
      refine j_V.one mo6_M mo6_32 (by decide) (pcJ := 34) (stJ := [.int 6, .int x1, .ref 359]) rfl ?_
      refine j_V.cl mo6_M mo6_34 rfl (md := 3) (mj := 178) rfl (by decide) ma3_M (As := [.ref 359, .int x1, .int 6]) (rest := []) (jk_spl3 (K.at rfl) rfl rfl rfl (Nat.le_of_ble_eq_true rfl) (Nat.le_of_ble_eq_true rfl)) (fun d => ma3_ok (u := fun j => [.int th, .ref 360, .ref 361, .ref 362, .ref 363, .ref 364, .ref 365, .ref 366, .ref 367, (u 9), .int sst, (u 11), (u 12), .int acs, (u 14), (u 15), (u 16), (u 17), (u 18), (u 19), (u 20), (u 21), .ref 368, (u 23), .ref 369, .ref 370, .ref 371, (u 27)].getD j .null) (K.fi [359, 360] rfl rfl)) ?_
      rintro r hz ⟨rfl, ez⟩
      rw [ez]
      clear ez
      show j_V jP _ 288 37 lv [.int (m_of w x1 6)] h _
      refine j_V.one mo6_M mo6_37 (by decide) (pcJ := 38) (stJ := [.int 2, .int (m_of w x1 6)]) rfl ?_
      refine j_V.icmp mo6_M mo6_38 (t := 47) rfl (fun c38_2 => ?_) (fun c38_2 => ?_)
      · replace c38_2 : (m_of w x1 6) = 2 := jd_eq c38_2
        refine j_V.ldL mo6_M mo6_47 rfl (i := 0) (kd := 2) (v := .ref 359) (pcJ := 48) rfl L rfl rfl rfl ?_
        refine j_V.cl mo6_M mo6_48 rfl (md := 3) (mj := 281) rfl (by decide) mo2_M (As := [.ref 359]) (rest := []) (jk_spl3 (K.at rfl) rfl rfl rfl (Nat.le_of_ble_eq_true rfl) (Nat.le_of_ble_eq_true rfl)) (fun d => mo2_ok (K.fi [359, 360, 364] rfl rfl)) ?_
        rintro r h9 ⟨rfl, K9⟩
        generalize ez1 : (m_keeps acs w kp) = z1 at K9 ⊢
        have K : KN h9 [(359, .inl (10, [.int th, .ref 360, .ref 361, .ref 362, .ref 363, .ref 364, .ref 365, .ref 366, .ref 367, (u 9), .int sst, (u 11), (u 12), .int (z1.2), (u 14), (u 15), (u 16), (u 17), (u 18), (u 19), (u 20), (u 21), .ref 368, (u 23), .ref 369, .ref 370, .ref 371, (u 27)])), (360, .inr (.inl (0, w))), (364, .inr (.inl (0, (z1.1))))] h0 := K.mg K9 rfl rfl
        clear K9
        show j_V jP _ 288 51 lv [] h9 _
        refine j_V.ldL mo6_M mo6_51 rfl (i := 0) (kd := 2) (v := .ref 359) (pcJ := 52) rfl L rfl rfl rfl ?_
        refine j_V.ldL mo6_M mo6_52 rfl (i := 1) (kd := 0) (v := .int x1) (pcJ := 53) rfl L rfl rfl rfl ?_
        refine j_V.one mo6_M mo6_53 (by decide) (pcJ := 55) (stJ := [.int 9, .int x1, .ref 359]) rfl ?_
        refine j_V.ldL mo6_M mo6_55 rfl (i := 0) (kd := 2) (v := .ref 359) (pcJ := 56) rfl L rfl rfl rfl ?_
        refine j_V.ldL mo6_M mo6_56 rfl (i := 1) (kd := 0) (v := .int x1) (pcJ := 57) rfl L rfl rfl rfl ?_
        refine j_V.one mo6_M mo6_57 (by decide) (pcJ := 59) (stJ := [.int 9, .int x1, .ref 359, .int 9, .int x1, .ref 359]) rfl ?_
        refine j_V.cl mo6_M mo6_59 rfl (md := 3) (mj := 178) rfl (by decide) ma3_M (As := [.ref 359, .int x1, .int 9]) (rest := [.int 9, .int x1, .ref 359]) (jk_spl3 (K.at rfl) rfl rfl rfl (Nat.le_of_ble_eq_true rfl) (Nat.le_of_ble_eq_true rfl)) (fun d => ma3_ok (u := fun j => [.int th, .ref 360, .ref 361, .ref 362, .ref 363, .ref 364, .ref 365, .ref 366, .ref 367, (u 9), .int sst, (u 11), (u 12), .int (z1.2), (u 14), (u 15), (u 16), (u 17), (u 18), (u 19), (u 20), (u 21), .ref 368, (u 23), .ref 369, .ref 370, .ref 371, (u 27)].getD j .null) (K.fi [359, 360] rfl rfl)) ?_
        rintro r hz ⟨rfl, ez⟩
        rw [ez]
        clear ez
        show j_V jP _ 288 62 lv [.int (m_of w x1 9), .int 9, .int x1, .ref 359] h9 _
        refine j_V.ldL mo6_M mo6_62 rfl (i := 2) (kd := 0) (v := .int x2) (pcJ := 63) rfl L rfl rfl rfl ?_
        refine j_V.one mo6_M mo6_63 (by decide) (pcJ := 64) (stJ := [.int ((m_of w x1 9) + x2), .int 9, .int x1, .ref 359]) rfl ?_
        refine j_V.cl mo6_M mo6_64 rfl (md := 3) (mj := 179) rfl (by decide) me0_M (As := [.ref 359, .int x1, .int 9, .int ((m_of w x1 9) + x2)]) (rest := []) (jk_spl3 (K.at rfl) rfl rfl rfl (Nat.le_of_ble_eq_true rfl) (Nat.le_of_ble_eq_true rfl)) (fun d => me0_ok (u := fun j => [.int th, .ref 360, .ref 361, .ref 362, .ref 363, .ref 364, .ref 365, .ref 366, .ref 367, (u 9), .int sst, (u 11), (u 12), .int (z1.2), (u 14), (u 15), (u 16), (u 17), (u 18), (u 19), (u 20), (u 21), .ref 368, (u 23), .ref 369, .ref 370, .ref 371, (u 27)].getD j .null) (K.fi [359, 360] rfl rfl)) ?_
        rintro r h9 ⟨rfl, K9⟩
        generalize ez2 : (m_puts w x1 9 ((m_of w x1 9) + x2)) = z2 at K9 ⊢
        have K : KN h9 [(359, .inl (10, [.int th, .ref 360, .ref 361, .ref 362, .ref 363, .ref 364, .ref 365, .ref 366, .ref 367, (u 9), .int sst, (u 11), (u 12), .int (z1.2), (u 14), (u 15), (u 16), (u 17), (u 18), (u 19), (u 20), (u 21), .ref 368, (u 23), .ref 369, .ref 370, .ref 371, (u 27)])), (360, .inr (.inl (0, z2))), (364, .inr (.inl (0, (z1.1))))] h0 := K.mg K9 rfl rfl
        clear K9
        show j_V jP _ 288 67 lv [] h9 _
        refine j_V.ldL mo6_M mo6_67 rfl (i := 0) (kd := 2) (v := .ref 359) (pcJ := 68) rfl L rfl rfl rfl ?_
        refine j_V.ldL mo6_M mo6_68 rfl (i := 0) (kd := 2) (v := .ref 359) (pcJ := 69) rfl L rfl rfl rfl ?_
        refine j_V.ldL mo6_M mo6_69 rfl (i := 1) (kd := 0) (v := .int x1) (pcJ := 70) rfl L rfl rfl rfl ?_
        refine j_V.one mo6_M mo6_70 (by decide) (pcJ := 72) (stJ := [.int 9, .int x1, .ref 359, .ref 359]) rfl ?_
        refine j_V.cl mo6_M mo6_72 rfl (md := 3) (mj := 178) rfl (by decide) ma3_M (As := [.ref 359, .int x1, .int 9]) (rest := [.ref 359]) (jk_spl3 (K.at rfl) rfl rfl rfl (Nat.le_of_ble_eq_true rfl) (Nat.le_of_ble_eq_true rfl)) (fun d => ma3_ok (u := fun j => [.int th, .ref 360, .ref 361, .ref 362, .ref 363, .ref 364, .ref 365, .ref 366, .ref 367, (u 9), .int sst, (u 11), (u 12), .int (z1.2), (u 14), (u 15), (u 16), (u 17), (u 18), (u 19), (u 20), (u 21), .ref 368, (u 23), .ref 369, .ref 370, .ref 371, (u 27)].getD j .null) (K.fi [359, 360] rfl rfl)) ?_
        rintro r hz ⟨rfl, ez⟩
        rw [ez]
        clear ez
        show j_V jP _ 288 75 lv [.int (m_of z2 x1 9), .ref 359] h9 _
        refine j_V.cl mo6_M mo6_75 rfl (md := 3) (mj := 170) rfl (by decide) mo1_M (As := [.ref 359, .int (m_of z2 x1 9)]) (rest := []) (jk_spl3 (K.at rfl) rfl rfl rfl (Nat.le_of_ble_eq_true rfl) (Nat.le_of_ble_eq_true rfl)) (fun d => mo1_ok (K.fi [359] rfl rfl)) ?_
        rintro r h9 ⟨rfl, K9⟩
        generalize ez3 : (m_gives th sst (m_of z2 x1 9)) = z3 at K9 ⊢
        have K : KN h9 [(359, .inl (10, [.int (z3.2.1), .ref 360, .ref 361, .ref 362, .ref 363, .ref 364, .ref 365, .ref 366, .ref 367, (u 9), .int (z3.2.2), (u 11), (u 12), .int (z1.2), (u 14), (u 15), (u 16), (u 17), (u 18), (u 19), (u 20), (u 21), .ref 368, (u 23), .ref 369, .ref 370, .ref 371, (u 27)])), (360, .inr (.inl (0, z2))), (364, .inr (.inl (0, (z1.1))))] h0 := K.mg K9 rfl rfl
        clear K9
        show j_V jP _ 288 78 lv [.int (z3.1)] h9 _
        subst ez3
        subst ez2
        subst ez1
        refine j_V.ri mo6_M mo6_78 ?_
        rw [show (m_stall th sst acs w kp x1 x2) = _ from ((if_neg c7_0).trans ((if_neg c21_1).trans ((if_pos c38_2).trans (rfl))))]
        exact ⟨rfl, K⟩
      · replace c38_2 : ¬ ((m_of w x1 6) = 2) := jd_eqn c38_2
        refine j_V.ldL mo6_M mo6_41 rfl (i := 0) (kd := 2) (v := .ref 359) (pcJ := 42) rfl L rfl rfl rfl ?_
        refine j_V.one mo6_M mo6_42 (by decide) (pcJ := 43) (stJ := [.int 5, .ref 359]) rfl ?_
        refine j_V.cl mo6_M mo6_43 rfl (md := 3) (mj := 169) rfl (by decide) mo0_M (As := [.ref 359, .int 5]) (rest := []) (jk_spl3 (K.at rfl) rfl rfl rfl (Nat.le_of_ble_eq_true rfl) (Nat.le_of_ble_eq_true rfl)) (fun d => mo0_ok (K.fi [359] rfl rfl)) ?_
        rintro r h9 ⟨rfl, K9⟩
        generalize ez4 : (m_refuse th sst 5) = z4 at K9 ⊢
        have K : KN h9 [(359, .inl (10, [.int (z4.2.1), .ref 360, .ref 361, .ref 362, .ref 363, .ref 364, .ref 365, .ref 366, .ref 367, (u 9), .int (z4.2.2), (u 11), (u 12), .int acs, (u 14), (u 15), (u 16), (u 17), (u 18), (u 19), (u 20), (u 21), .ref 368, (u 23), .ref 369, .ref 370, .ref 371, (u 27)])), (360, .inr (.inl (0, w))), (364, .inr (.inl (0, kp)))] h0 := K.mg K9 rfl rfl
        clear K9
        show j_V jP _ 288 46 lv [.int (z4.1)] h9 _
        subst ez4
        refine j_V.ri mo6_M mo6_46 ?_
        rw [show (m_stall th sst acs w kp x1 x2) = _ from ((if_neg c7_0).trans ((if_neg c21_1).trans ((if_neg c38_2).trans (rfl))))]
        exact ⟨rfl, K⟩
    · replace c21_1 : (m_isTrain w x1) = 0 := jd_nen c21_1
      refine j_V.ldL mo6_M mo6_24 rfl (i := 0) (kd := 2) (v := .ref 359) (pcJ := 25) rfl L rfl rfl rfl ?_
      refine j_V.one mo6_M mo6_25 (by decide) (pcJ := 26) (stJ := [.int 2, .ref 359]) rfl ?_
      refine j_V.cl mo6_M mo6_26 rfl (md := 3) (mj := 169) rfl (by decide) mo0_M (As := [.ref 359, .int 2]) (rest := []) (jk_spl3 (K.at rfl) rfl rfl rfl (Nat.le_of_ble_eq_true rfl) (Nat.le_of_ble_eq_true rfl)) (fun d => mo0_ok (K.fi [359] rfl rfl)) ?_
      rintro r h9 ⟨rfl, K9⟩
      generalize ez5 : (m_refuse th sst 2) = z5 at K9 ⊢
      have K : KN h9 [(359, .inl (10, [.int (z5.2.1), .ref 360, .ref 361, .ref 362, .ref 363, .ref 364, .ref 365, .ref 366, .ref 367, (u 9), .int (z5.2.2), (u 11), (u 12), .int acs, (u 14), (u 15), (u 16), (u 17), (u 18), (u 19), (u 20), (u 21), .ref 368, (u 23), .ref 369, .ref 370, .ref 371, (u 27)])), (360, .inr (.inl (0, w))), (364, .inr (.inl (0, kp)))] h0 := K.mg K9 rfl rfl
      clear K9
      show j_V jP _ 288 29 lv [.int (z5.1)] h9 _
      subst ez5
      refine j_V.ri mo6_M mo6_29 ?_
      rw [show (m_stall th sst acs w kp x1 x2) = _ from ((if_neg c7_0).trans ((if_pos c21_1).trans (rfl)))]
      exact ⟨rfl, K⟩
  · replace c7_0 : (m_isFrom x2 1 99) = 0 := jd_nen c7_0
    refine j_V.ldL mo6_M mo6_10 rfl (i := 0) (kd := 2) (v := .ref 359) (pcJ := 11) rfl L rfl rfl rfl ?_
    refine j_V.one mo6_M mo6_11 (by decide) (pcJ := 12) (stJ := [.int 1, .ref 359]) rfl ?_
    refine j_V.cl mo6_M mo6_12 rfl (md := 3) (mj := 169) rfl (by decide) mo0_M (As := [.ref 359, .int 1]) (rest := []) (jk_spl3 (K.at rfl) rfl rfl rfl (Nat.le_of_ble_eq_true rfl) (Nat.le_of_ble_eq_true rfl)) (fun d => mo0_ok (K.fi [359] rfl rfl)) ?_
    rintro r h9 ⟨rfl, K9⟩
    generalize ez6 : (m_refuse th sst 1) = z6 at K9 ⊢
    have K : KN h9 [(359, .inl (10, [.int (z6.2.1), .ref 360, .ref 361, .ref 362, .ref 363, .ref 364, .ref 365, .ref 366, .ref 367, (u 9), .int (z6.2.2), (u 11), (u 12), .int acs, (u 14), (u 15), (u 16), (u 17), (u 18), (u 19), (u 20), (u 21), .ref 368, (u 23), .ref 369, .ref 370, .ref 371, (u 27)])), (360, .inr (.inl (0, w))), (364, .inr (.inl (0, kp)))] h0 := K.mg K9 rfl rfl
    clear K9
    show j_V jP _ 288 15 lv [.int (z6.1)] h9 _
    subst ez6
    refine j_V.ri mo6_M mo6_15 ?_
    rw [show (m_stall th sst acs w kp x1 x2) = _ from ((if_pos c7_0).trans (rfl))]
    exact ⟨rfl, K⟩
set_option maxRecDepth 100000 in
theorem mo7_M : j_meth jP 285 = some (yX10_shut, cX10_shut, 7, (some .int), 3, false, 10) := rfl
set_option maxRecDepth 100000 in
theorem mo7_0 : j_code jP 285 0 = some (.aload_n 0) := rfl
set_option maxRecDepth 100000 in
theorem mo7_1 : j_code jP 285 1 = some (.iload_n 1) := rfl
set_option maxRecDepth 100000 in
theorem mo7_2 : j_code jP 285 2 = some (.iload_n 2) := rfl
set_option maxRecDepth 100000 in
theorem mo7_3 : j_code jP 285 3 = some (.invokevirtual 307) := rfl
set_option maxRecDepth 100000 in
theorem mo7_6 : j_code jP 285 6 = some (.ifCond .ne 9) := rfl
set_option maxRecDepth 100000 in
theorem mo7_9 : j_code jP 285 9 = some (.aload_n 0) := rfl
set_option maxRecDepth 100000 in
theorem mo7_10 : j_code jP 285 10 = some (.iconst 2) := rfl
set_option maxRecDepth 100000 in
theorem mo7_11 : j_code jP 285 11 = some (.invokevirtual 179) := rfl
set_option maxRecDepth 100000 in
theorem mo7_14 : j_code jP 285 14 = some (.ireturn) := rfl
set_option maxRecDepth 100000 in
theorem mo7_15 : j_code jP 285 15 = some (.iload_n 3) := rfl
set_option maxRecDepth 100000 in
theorem mo7_16 : j_code jP 285 16 = some (.ifCond .eq 7) := rfl
set_option maxRecDepth 100000 in
theorem mo7_19 : j_code jP 285 19 = some (.iconst 1) := rfl
set_option maxRecDepth 100000 in
theorem mo7_20 : j_code jP 285 20 = some (.goto 4) := rfl
set_option maxRecDepth 100000 in
theorem mo7_23 : j_code jP 285 23 = some (.iconst 0) := rfl
set_option maxRecDepth 100000 in
theorem mo7_24 : j_code jP 285 24 = some (.istore 4) := rfl
set_option maxRecDepth 100000 in
theorem mo7_26 : j_code jP 285 26 = some (.aload_n 0) := rfl
set_option maxRecDepth 100000 in
theorem mo7_27 : j_code jP 285 27 = some (.iload_n 1) := rfl
set_option maxRecDepth 100000 in
theorem mo7_28 : j_code jP 285 28 = some (.iconst 5) := rfl
set_option maxRecDepth 100000 in
theorem mo7_29 : j_code jP 285 29 = some (.iload_n 2) := rfl
set_option maxRecDepth 100000 in
theorem mo7_30 : j_code jP 285 30 = some (.iadd) := rfl
set_option maxRecDepth 100000 in
theorem mo7_31 : j_code jP 285 31 = some (.invokevirtual 69) := rfl
set_option maxRecDepth 100000 in
theorem mo7_34 : j_code jP 285 34 = some (.iload 4) := rfl
set_option maxRecDepth 100000 in
theorem mo7_36 : j_code jP 285 36 = some (.if_icmp .ne 9) := rfl
set_option maxRecDepth 100000 in
theorem mo7_39 : j_code jP 285 39 = some (.aload_n 0) := rfl
set_option maxRecDepth 100000 in
theorem mo7_40 : j_code jP 285 40 = some (.iconst 4) := rfl
set_option maxRecDepth 100000 in
theorem mo7_41 : j_code jP 285 41 = some (.invokevirtual 179) := rfl
set_option maxRecDepth 100000 in
theorem mo7_44 : j_code jP 285 44 = some (.ireturn) := rfl
set_option maxRecDepth 100000 in
theorem mo7_45 : j_code jP 285 45 = some (.aload_n 0) := rfl
set_option maxRecDepth 100000 in
theorem mo7_46 : j_code jP 285 46 = some (.invokevirtual 362) := rfl
set_option maxRecDepth 100000 in
theorem mo7_49 : j_code jP 285 49 = some (.aload_n 0) := rfl
set_option maxRecDepth 100000 in
theorem mo7_50 : j_code jP 285 50 = some (.getfield 7) := rfl
set_option maxRecDepth 100000 in
theorem mo7_53 : j_code jP 285 53 = some (.bipush 8) := rfl
set_option maxRecDepth 100000 in
theorem mo7_55 : j_code jP 285 55 = some (.iload_n 1) := rfl
set_option maxRecDepth 100000 in
theorem mo7_56 : j_code jP 285 56 = some (.imul) := rfl
set_option maxRecDepth 100000 in
theorem mo7_57 : j_code jP 285 57 = some (.iconst 5) := rfl
set_option maxRecDepth 100000 in
theorem mo7_58 : j_code jP 285 58 = some (.iadd) := rfl
set_option maxRecDepth 100000 in
theorem mo7_59 : j_code jP 285 59 = some (.iload_n 2) := rfl
set_option maxRecDepth 100000 in
theorem mo7_60 : j_code jP 285 60 = some (.iadd) := rfl
set_option maxRecDepth 100000 in
theorem mo7_61 : j_code jP 285 61 = some (.iload 4) := rfl
set_option maxRecDepth 100000 in
theorem mo7_63 : j_code jP 285 63 = some (.iastore) := rfl
set_option maxRecDepth 100000 in
theorem mo7_64 : j_code jP 285 64 = some (.iconst 0) := rfl
set_option maxRecDepth 100000 in
theorem mo7_65 : j_code jP 285 65 = some (.istore 5) := rfl
set_option maxRecDepth 100000 in
theorem mo7_67 : j_code jP 285 67 = some (.iconst 0) := rfl
set_option maxRecDepth 100000 in
theorem mo7_68 : j_code jP 285 68 = some (.istore 6) := rfl
set_option maxRecDepth 100000 in
theorem mo7_70 : j_code jP 285 70 = some (.iload 6) := rfl
set_option maxRecDepth 100000 in
theorem mo7_72 : j_code jP 285 72 = some (.aload_n 0) := rfl
set_option maxRecDepth 100000 in
theorem mo7_73 : j_code jP 285 73 = some (.getfield 7) := rfl
set_option maxRecDepth 100000 in
theorem mo7_76 : j_code jP 285 76 = some (.sipush 202) := rfl
set_option maxRecDepth 100000 in
theorem mo7_79 : j_code jP 285 79 = some (.iaload) := rfl
set_option maxRecDepth 100000 in
theorem mo7_80 : j_code jP 285 80 = some (.if_icmp .ge 20) := rfl
set_option maxRecDepth 100000 in
theorem mo7_83 : j_code jP 285 83 = some (.iload 5) := rfl
set_option maxRecDepth 100000 in
theorem mo7_85 : j_code jP 285 85 = some (.aload_n 0) := rfl
set_option maxRecDepth 100000 in
theorem mo7_86 : j_code jP 285 86 = some (.iload 6) := rfl
set_option maxRecDepth 100000 in
theorem mo7_88 : j_code jP 285 88 = some (.invokevirtual 304) := rfl
set_option maxRecDepth 100000 in
theorem mo7_91 : j_code jP 285 91 = some (.iadd) := rfl
set_option maxRecDepth 100000 in
theorem mo7_92 : j_code jP 285 92 = some (.istore 5) := rfl
set_option maxRecDepth 100000 in
theorem mo7_94 : j_code jP 285 94 = some (.iinc 6 1) := rfl
set_option maxRecDepth 100000 in
theorem mo7_97 : j_code jP 285 97 = some (.goto (-27)) := rfl
set_option maxRecDepth 100000 in
theorem mo7_100 : j_code jP 285 100 = some (.aload_n 0) := rfl
set_option maxRecDepth 100000 in
theorem mo7_101 : j_code jP 285 101 = some (.iload 5) := rfl
set_option maxRecDepth 100000 in
theorem mo7_103 : j_code jP 285 103 = some (.invokevirtual 195) := rfl
set_option maxRecDepth 100000 in
theorem mo7_106 : j_code jP 285 106 = some (.ireturn) := rfl
def m_shut_l70  (v1 : Int32) (v2 : Int32) (v3 : Int32) (v4 : Int32) : Nat → Int32 → Int32 → Int32 → Int32 → Int32 → List Int32 → List Int32 → Int32 × Int32 × Int32 × Int32 × List Int32 × List Int32
  | 0, v6, v5, th, sst, acs, kp, w => let z1 := (m_gives th sst v5); ((z1.1), (z1.2.1), (z1.2.2), acs, kp, w)
  | f + 1, v6, v5, th, sst, acs, kp, w => (m_shut_l70 v1 v2 v3 v4 f (v6 + 1) (v5 + (m_freeOnes w v6)) th sst acs kp w)
set_option maxRecDepth 1000000 in
theorem mo7_ok_l70 {u : Nat → Value} {v1 v2 v3 v4 : Int32} {d : Nat} {h0 : J_H} : ∀ (f : Nat) (v6 v5 : Int32) (th : Int32) (sst : Int32) (acs : Int32) (kp : List Int32) (w : List Int32) {lv : J_L} {h : J_H}, lpN (gA w 202) v6 = f → LK lv [(0, .ref 359), (1, .int v1), (2, .int v2), (3, .int v3), (4, .int v4), (5, .int v5), (6, .int v6)] → KN h [(359, .inl (10, [.int th, .ref 360, .ref 361, .ref 362, .ref 363, .ref 364, .ref 365, .ref 366, .ref 367, (u 9), .int sst, (u 11), (u 12), .int acs, (u 14), (u 15), (u 16), (u 17), (u 18), (u 19), (u 20), (u 21), .ref 368, (u 23), .ref 369, .ref 370, .ref 371, (u 27)])), (360, .inr (.inl (0, w))), (364, .inr (.inl (0, kp)))] h0 → j_V jP d 285 70 lv [] h (fun rv h' => rv = some (.int (m_shut_l70 v1 v2 v3 v4 f v6 v5 th sst acs kp w).1) ∧ KN h' [(359, .inl (10, [.int (m_shut_l70 v1 v2 v3 v4 f v6 v5 th sst acs kp w).2.1, .ref 360, .ref 361, .ref 362, .ref 363, .ref 364, .ref 365, .ref 366, .ref 367, (u 9), .int (m_shut_l70 v1 v2 v3 v4 f v6 v5 th sst acs kp w).2.2.1, (u 11), (u 12), .int (m_shut_l70 v1 v2 v3 v4 f v6 v5 th sst acs kp w).2.2.2.1, (u 14), (u 15), (u 16), (u 17), (u 18), (u 19), (u 20), (u 21), .ref 368, (u 23), .ref 369, .ref 370, .ref 371, (u 27)])), (360, .inr (.inl (0, (m_shut_l70 v1 v2 v3 v4 f v6 v5 th sst acs kp w).2.2.2.2.2))), (364, .inr (.inl (0, (m_shut_l70 v1 v2 v3 v4 f v6 v5 th sst acs kp w).2.2.2.2.1)))] h0) := by
  intro f
  induction f with
  | zero =>
    intro v6 v5 th sst acs kp w lv h e L K
    refine j_V.ldL mo7_M mo7_70 rfl (i := 6) (kd := 0) (v := .int v6) (pcJ := 72) rfl L rfl rfl rfl ?_
    refine j_V.ldL mo7_M mo7_72 rfl (i := 0) (kd := 2) (v := .ref 359) (pcJ := 73) rfl L rfl rfl rfl ?_
    refine j_V.getK mo7_M mo7_73 (ci := 10) (j := 1) rfl K rfl rfl ?_
    refine j_V.one mo7_M mo7_76 (by decide) (pcJ := 79) (stJ := [.int 202, .ref 360, .int v6]) rfl ?_
    refine j_V.iaA mo7_M mo7_79 K rfl ?_
    refine j_V.icmp mo7_M mo7_80 (t := 100) rfl (fun c80_0 => ?_) (fun c80_0 => ?_)
    · replace c80_0 : ¬ (v6 < (gA w 202)) := jd_ge c80_0
      refine j_V.ldL mo7_M mo7_100 rfl (i := 0) (kd := 2) (v := .ref 359) (pcJ := 101) rfl L rfl rfl rfl ?_
      refine j_V.ldL mo7_M mo7_101 rfl (i := 5) (kd := 0) (v := .int v5) (pcJ := 103) rfl L rfl rfl rfl ?_
      refine j_V.cl mo7_M mo7_103 rfl (md := 3) (mj := 170) rfl (by decide) mo1_M (As := [.ref 359, .int v5]) (rest := []) (jk_spl3 (K.at rfl) rfl rfl rfl (Nat.le_of_ble_eq_true rfl) (Nat.le_of_ble_eq_true rfl)) (fun d => mo1_ok (K.fi [359] rfl rfl)) ?_
      rintro r h9 ⟨rfl, K9⟩
      generalize ez1 : (m_gives th sst v5) = z1 at K9 ⊢
      have K : KN h9 [(359, .inl (10, [.int (z1.2.1), .ref 360, .ref 361, .ref 362, .ref 363, .ref 364, .ref 365, .ref 366, .ref 367, (u 9), .int (z1.2.2), (u 11), (u 12), .int acs, (u 14), (u 15), (u 16), (u 17), (u 18), (u 19), (u 20), (u 21), .ref 368, (u 23), .ref 369, .ref 370, .ref 371, (u 27)])), (360, .inr (.inl (0, w))), (364, .inr (.inl (0, kp)))] h0 := K.mg K9 rfl rfl
      clear K9
      show j_V jP _ 285 106 lv [.int (z1.1)] h9 _
      subst ez1
      refine j_V.ri mo7_M mo7_106 ?_
      rw [show (m_shut_l70 v1 v2 v3 v4 0 v6 v5 th sst acs kp w) = _ from (rfl)]
      exact ⟨rfl, K⟩
    · replace c80_0 : v6 < (gA w 202) := jd_gen c80_0
      exact absurd c80_0 (lpN_z e)
  | succ f ih =>
    intro v6 v5 th sst acs kp w lv h e L K
    refine j_V.ldL mo7_M mo7_70 rfl (i := 6) (kd := 0) (v := .int v6) (pcJ := 72) rfl L rfl rfl rfl ?_
    refine j_V.ldL mo7_M mo7_72 rfl (i := 0) (kd := 2) (v := .ref 359) (pcJ := 73) rfl L rfl rfl rfl ?_
    refine j_V.getK mo7_M mo7_73 (ci := 10) (j := 1) rfl K rfl rfl ?_
    refine j_V.one mo7_M mo7_76 (by decide) (pcJ := 79) (stJ := [.int 202, .ref 360, .int v6]) rfl ?_
    refine j_V.iaA mo7_M mo7_79 K rfl ?_
    refine j_V.icmp mo7_M mo7_80 (t := 100) rfl (fun c80_0 => ?_) (fun c80_0 => ?_)
    · replace c80_0 : ¬ (v6 < (gA w 202)) := jd_ge c80_0
      exact absurd (lpN_s e) c80_0
    · replace c80_0 : v6 < (gA w 202) := jd_gen c80_0
      refine j_V.ldL mo7_M mo7_83 rfl (i := 5) (kd := 0) (v := .int v5) (pcJ := 85) rfl L rfl rfl rfl ?_
      refine j_V.ldL mo7_M mo7_85 rfl (i := 0) (kd := 2) (v := .ref 359) (pcJ := 86) rfl L rfl rfl rfl ?_
      refine j_V.ldL mo7_M mo7_86 rfl (i := 6) (kd := 0) (v := .int v6) (pcJ := 88) rfl L rfl rfl rfl ?_
      refine j_V.cl mo7_M mo7_88 rfl (md := 3) (mj := 235) rfl (by decide) mc5_M (As := [.ref 359, .int v6]) (rest := [.int v5]) (jk_spl3 (K.at rfl) rfl rfl rfl (Nat.le_of_ble_eq_true rfl) (Nat.le_of_ble_eq_true rfl)) (fun d => mc5_ok (u := fun j => [.int th, .ref 360, .ref 361, .ref 362, .ref 363, .ref 364, .ref 365, .ref 366, .ref 367, (u 9), .int sst, (u 11), (u 12), .int acs, (u 14), (u 15), (u 16), (u 17), (u 18), (u 19), (u 20), (u 21), .ref 368, (u 23), .ref 369, .ref 370, .ref 371, (u 27)].getD j .null) (K.fi [359, 360] rfl rfl)) ?_
      rintro r hz ⟨rfl, ez⟩
      rw [ez]
      clear ez
      show j_V jP _ 285 91 lv [.int (m_freeOnes w v6), .int v5] h _
      refine j_V.one mo7_M mo7_91 (by decide) (pcJ := 92) (stJ := [.int (v5 + (m_freeOnes w v6))]) rfl ?_
      refine j_V.stL mo7_M mo7_92 rfl (i := 5) (kd := 0) (kl' := [(0, .ref 359), (1, .int v1), (2, .int v2), (3, .int v3), (4, .int v4), (5, .int (v5 + (m_freeOnes w v6))), (6, .int v6)]) (pcJ := 94) rfl L rfl (by decide) rfl rfl rfl (fun lv L => ?_)
      refine j_V.inL mo7_M mo7_94 (i := 6) (kl' := [(0, .ref 359), (1, .int v1), (2, .int v2), (3, .int v3), (4, .int v4), (5, .int (v5 + (m_freeOnes w v6))), (6, .int (v6 + 1))]) (pcJ := 97) L rfl rfl rfl rfl (fun lv L => ?_)
      refine j_V.gto mo7_M mo7_97 (t := 70) rfl ?_
      rw [show (m_shut_l70 v1 v2 v3 v4 (f + 1) v6 v5 th sst acs kp w) = _ from (rfl)]
      exact ih _ _ _ _ _ _ _ (lpN_n e) L K
def m_shut (th : Int32) (sst : Int32) (acs : Int32) (w : List Int32) (kp : List Int32) (x1 : Int32) (x2 : Int32) (x3 : Int32) : Int32 × Int32 × Int32 × Int32 × List Int32 × List Int32 := (if (m_isTrack w x1 x2) = 0 then let z4 := (m_refuse th sst 2); ((z4.1), (z4.2.1), (z4.2.2), acs, kp, w) else (if (m_st w x1 (5 + x2)) = ((if x3 = 0 then 0 else 1) : Int32) then let z3 := (m_refuse th sst 4); ((z3.1), (z3.2.1), (z3.2.2), acs, kp, w) else let z2 := (m_keeps acs w kp); let w1 := (sA w (((8 * x1) + 5) + x2) ((if x3 = 0 then 0 else 1) : Int32)); (m_shut_l70 x1 x2 x3 ((if x3 = 0 then 0 else 1) : Int32) (lpN (gA w1 202) 0) 0 0 th sst (z2.2) (z2.1) w1)))
set_option maxRecDepth 1000000 in
theorem mo7_ok {u : Nat → Value} {th : Int32} {sst : Int32} {acs : Int32} {w : List Int32} {kp : List Int32} {x1 x2 x3 : Int32} {d : Nat} {h h0 : J_H} (K : KN h [(359, .inl (10, [.int th, .ref 360, .ref 361, .ref 362, .ref 363, .ref 364, .ref 365, .ref 366, .ref 367, (u 9), .int sst, (u 11), (u 12), .int acs, (u 14), (u 15), (u 16), (u 17), (u 18), (u 19), (u 20), (u 21), .ref 368, (u 23), .ref 369, .ref 370, .ref 371, (u 27)])), (360, .inr (.inl (0, w))), (364, .inr (.inl (0, kp)))] h0) : j_V jP d 285 0 (lv_args 0 [.ref 359, .int x1, .int x2, .int x3]) [] h (fun rv h' => rv = some (.int (m_shut th sst acs w kp x1 x2 x3).1) ∧ KN h' [(359, .inl (10, [.int (m_shut th sst acs w kp x1 x2 x3).2.1, .ref 360, .ref 361, .ref 362, .ref 363, .ref 364, .ref 365, .ref 366, .ref 367, (u 9), .int (m_shut th sst acs w kp x1 x2 x3).2.2.1, (u 11), (u 12), .int (m_shut th sst acs w kp x1 x2 x3).2.2.2.1, (u 14), (u 15), (u 16), (u 17), (u 18), (u 19), (u 20), (u 21), .ref 368, (u 23), .ref 369, .ref 370, .ref 371, (u 27)])), (360, .inr (.inl (0, (m_shut th sst acs w kp x1 x2 x3).2.2.2.2.2))), (364, .inr (.inl (0, (m_shut th sst acs w kp x1 x2 x3).2.2.2.2.1)))] h0) := by
  show j_V jP d 285 0 [(0, .ref 359), (1, .int x1), (2, .int x2), (3, .int x3)] [] h _
  obtain ⟨lv, elv, L⟩ : ∃ lv, lv = [(0, .ref 359), (1, .int x1), (2, .int x2), (3, .int x3)] ∧ LK lv [(0, .ref 359), (1, .int x1), (2, .int x2), (3, .int x3)] := ⟨_, rfl, LK.rf⟩
  rw [← elv]
  clear elv
  refine j_V.ldL mo7_M mo7_0 rfl (i := 0) (kd := 2) (v := .ref 359) (pcJ := 1) rfl L rfl rfl rfl ?_
  refine j_V.ldL mo7_M mo7_1 rfl (i := 1) (kd := 0) (v := .int x1) (pcJ := 2) rfl L rfl rfl rfl ?_
  refine j_V.ldL mo7_M mo7_2 rfl (i := 2) (kd := 0) (v := .int x2) (pcJ := 3) rfl L rfl rfl rfl ?_
  refine j_V.cl mo7_M mo7_3 rfl (md := 3) (mj := 175) rfl (by decide) md2_M (As := [.ref 359, .int x1, .int x2]) (rest := []) (jk_spl3 (K.at rfl) rfl rfl rfl (Nat.le_of_ble_eq_true rfl) (Nat.le_of_ble_eq_true rfl)) (fun d => md2_ok (u := fun j => [.int th, .ref 360, .ref 361, .ref 362, .ref 363, .ref 364, .ref 365, .ref 366, .ref 367, (u 9), .int sst, (u 11), (u 12), .int acs, (u 14), (u 15), (u 16), (u 17), (u 18), (u 19), (u 20), (u 21), .ref 368, (u 23), .ref 369, .ref 370, .ref 371, (u 27)].getD j .null) (K.fi [359, 360] rfl rfl)) ?_
  rintro r hz ⟨rfl, ez⟩
  rw [ez]
  clear ez
  show j_V jP _ 285 6 lv [.int (m_isTrack w x1 x2)] h _
  refine j_V.ifc mo7_M mo7_6 (t := 15) rfl (fun c6_0 => ?_) (fun c6_0 => ?_)
  · replace c6_0 : ¬ ((m_isTrack w x1 x2) = 0) := jd_ne c6_0
    refine j_V.ldL mo7_M mo7_15 rfl (i := 3) (kd := 0) (v := .int x3) (pcJ := 16) rfl L rfl rfl rfl ?_
    refine j_V.cut (b := 24) (stJ := [.int ((if x3 = 0 then 0 else 1) : Int32)]) (fun v => [(0, .ref 359), (1, .int x1), (2, .int x2), (3, .int x3)]) ((if x3 = 0 then 0 else 1) : Int32) (fun Q kk => ?_) (fun lv L => ?_)
    · refine j_V.ifc mo7_M mo7_16 (t := 23) rfl (fun c16_0 => ?_) (fun c16_0 => ?_)
      · replace c16_0 : x3 = 0 := jd_eq c16_0
        refine j_V.one mo7_M mo7_23 (by decide) (pcJ := 24) (stJ := [.int 0]) rfl ?_
        exact Eq.subst (motive := fun z => j_V jP _ 285 24 _ (.int z :: []) h Q) (show ((if x3 = 0 then 0 else 1) : Int32) = 0 from (if_pos c16_0).trans (rfl)) (kk _ L)
      · replace c16_0 : ¬ (x3 = 0) := jd_eqn c16_0
        refine j_V.one mo7_M mo7_19 (by decide) (pcJ := 20) (stJ := [.int 1]) rfl ?_
        refine j_V.gto mo7_M mo7_20 (t := 24) rfl ?_
        exact Eq.subst (motive := fun z => j_V jP _ 285 24 _ (.int z :: []) h Q) (show ((if x3 = 0 then 0 else 1) : Int32) = 1 from (if_neg c16_0).trans (rfl)) (kk _ L)
    refine j_V.stL mo7_M mo7_24 rfl (i := 4) (kd := 0) (kl' := [(0, .ref 359), (1, .int x1), (2, .int x2), (3, .int x3), (4, .int ((if x3 = 0 then 0 else 1) : Int32))]) (pcJ := 26) rfl L rfl (by decide) rfl rfl rfl (fun lv L => ?_)
    refine j_V.ldL mo7_M mo7_26 rfl (i := 0) (kd := 2) (v := .ref 359) (pcJ := 27) rfl L rfl rfl rfl ?_
    refine j_V.ldL mo7_M mo7_27 rfl (i := 1) (kd := 0) (v := .int x1) (pcJ := 28) rfl L rfl rfl rfl ?_
    refine j_V.one mo7_M mo7_28 (by decide) (pcJ := 29) (stJ := [.int 5, .int x1, .ref 359]) rfl ?_
    refine j_V.ldL mo7_M mo7_29 rfl (i := 2) (kd := 0) (v := .int x2) (pcJ := 30) rfl L rfl rfl rfl ?_
    refine j_V.one mo7_M mo7_30 (by decide) (pcJ := 31) (stJ := [.int (5 + x2), .int x1, .ref 359]) rfl ?_
    refine j_V.cl mo7_M mo7_31 rfl (md := 3) (mj := 176) rfl (by decide) ma1_M (As := [.ref 359, .int x1, .int (5 + x2)]) (rest := []) (jk_spl3 (K.at rfl) rfl rfl rfl (Nat.le_of_ble_eq_true rfl) (Nat.le_of_ble_eq_true rfl)) (fun d => ma1_ok (u := fun j => [.int th, .ref 360, .ref 361, .ref 362, .ref 363, .ref 364, .ref 365, .ref 366, .ref 367, (u 9), .int sst, (u 11), (u 12), .int acs, (u 14), (u 15), (u 16), (u 17), (u 18), (u 19), (u 20), (u 21), .ref 368, (u 23), .ref 369, .ref 370, .ref 371, (u 27)].getD j .null) (K.fi [359, 360] rfl rfl)) ?_
    rintro r hz ⟨rfl, ez⟩
    rw [ez]
    clear ez
    show j_V jP _ 285 34 lv [.int (m_st w x1 (5 + x2))] h _
    refine j_V.ldL mo7_M mo7_34 rfl (i := 4) (kd := 0) (v := .int ((if x3 = 0 then 0 else 1) : Int32)) (pcJ := 36) rfl L rfl rfl rfl ?_
    refine j_V.icmp mo7_M mo7_36 (t := 45) rfl (fun c36_1 => ?_) (fun c36_1 => ?_)
    · replace c36_1 : ¬ ((m_st w x1 (5 + x2)) = ((if x3 = 0 then 0 else 1) : Int32)) := jd_ne c36_1
      refine j_V.ldL mo7_M mo7_45 rfl (i := 0) (kd := 2) (v := .ref 359) (pcJ := 46) rfl L rfl rfl rfl ?_
      refine j_V.cl mo7_M mo7_46 rfl (md := 3) (mj := 281) rfl (by decide) mo2_M (As := [.ref 359]) (rest := []) (jk_spl3 (K.at rfl) rfl rfl rfl (Nat.le_of_ble_eq_true rfl) (Nat.le_of_ble_eq_true rfl)) (fun d => mo2_ok (K.fi [359, 360, 364] rfl rfl)) ?_
      rintro r h9 ⟨rfl, K9⟩
      generalize ez2 : (m_keeps acs w kp) = z2 at K9 ⊢
      have K : KN h9 [(359, .inl (10, [.int th, .ref 360, .ref 361, .ref 362, .ref 363, .ref 364, .ref 365, .ref 366, .ref 367, (u 9), .int sst, (u 11), (u 12), .int (z2.2), (u 14), (u 15), (u 16), (u 17), (u 18), (u 19), (u 20), (u 21), .ref 368, (u 23), .ref 369, .ref 370, .ref 371, (u 27)])), (360, .inr (.inl (0, w))), (364, .inr (.inl (0, (z2.1))))] h0 := K.mg K9 rfl rfl
      clear K9
      show j_V jP _ 285 49 lv [] h9 _
      refine j_V.ldL mo7_M mo7_49 rfl (i := 0) (kd := 2) (v := .ref 359) (pcJ := 50) rfl L rfl rfl rfl ?_
      refine j_V.getK mo7_M mo7_50 (ci := 10) (j := 1) rfl K rfl rfl ?_
      refine j_V.one mo7_M mo7_53 (by decide) (pcJ := 55) (stJ := [.int 8, .ref 360]) rfl ?_
      refine j_V.ldL mo7_M mo7_55 rfl (i := 1) (kd := 0) (v := .int x1) (pcJ := 56) rfl L rfl rfl rfl ?_
      refine j_V.one mo7_M mo7_56 (by decide) (pcJ := 57) (stJ := [.int (8 * x1), .ref 360]) rfl ?_
      refine j_V.one mo7_M mo7_57 (by decide) (pcJ := 58) (stJ := [.int 5, .int (8 * x1), .ref 360]) rfl ?_
      refine j_V.one mo7_M mo7_58 (by decide) (pcJ := 59) (stJ := [.int ((8 * x1) + 5), .ref 360]) rfl ?_
      refine j_V.ldL mo7_M mo7_59 rfl (i := 2) (kd := 0) (v := .int x2) (pcJ := 60) rfl L rfl rfl rfl ?_
      refine j_V.one mo7_M mo7_60 (by decide) (pcJ := 61) (stJ := [.int (((8 * x1) + 5) + x2), .ref 360]) rfl ?_
      refine j_V.ldL mo7_M mo7_61 rfl (i := 4) (kd := 0) (v := .int ((if x3 = 0 then 0 else 1) : Int32)) (pcJ := 63) rfl L rfl rfl rfl ?_
      refine j_V.isA mo7_M mo7_63 (k' := [(359, .inl (10, [.int th, .ref 360, .ref 361, .ref 362, .ref 363, .ref 364, .ref 365, .ref 366, .ref 367, (u 9), .int sst, (u 11), (u 12), .int (z2.2), (u 14), (u 15), (u 16), (u 17), (u 18), (u 19), (u 20), (u 21), .ref 368, (u 23), .ref 369, .ref 370, .ref 371, (u 27)])), (360, .inr (.inl (0, (sA w (((8 * x1) + 5) + x2) ((if x3 = 0 then 0 else 1) : Int32))))), (364, .inr (.inl (0, (z2.1))))]) K rfl rfl (fun h K => ?_)
      obtain ⟨w1, ew1⟩ : ∃ z, z = (sA w (((8 * x1) + 5) + x2) ((if x3 = 0 then 0 else 1) : Int32)) := ⟨_, rfl⟩
      rw [← ew1] at K
      refine j_V.one mo7_M mo7_64 (by decide) (pcJ := 65) (stJ := [.int 0]) rfl ?_
      refine j_V.stL mo7_M mo7_65 rfl (i := 5) (kd := 0) (kl' := [(0, .ref 359), (1, .int x1), (2, .int x2), (3, .int x3), (4, .int ((if x3 = 0 then 0 else 1) : Int32)), (5, .int 0)]) (pcJ := 67) rfl L rfl (by decide) rfl rfl rfl (fun lv L => ?_)
      refine j_V.one mo7_M mo7_67 (by decide) (pcJ := 68) (stJ := [.int 0]) rfl ?_
      refine j_V.stL mo7_M mo7_68 rfl (i := 6) (kd := 0) (kl' := [(0, .ref 359), (1, .int x1), (2, .int x2), (3, .int x3), (4, .int ((if x3 = 0 then 0 else 1) : Int32)), (5, .int 0), (6, .int 0)]) (pcJ := 70) rfl L rfl (by decide) rfl rfl rfl (fun lv L => ?_)
      subst ew1
      subst ez2
      rw [show (m_shut th sst acs w kp x1 x2 x3) = _ from ((if_neg c6_0).trans ((if_neg c36_1).trans (rfl)))]
      exact mo7_ok_l70 _ _ _ _ _ _ _ _ rfl L K
    · replace c36_1 : (m_st w x1 (5 + x2)) = ((if x3 = 0 then 0 else 1) : Int32) := jd_nen c36_1
      refine j_V.ldL mo7_M mo7_39 rfl (i := 0) (kd := 2) (v := .ref 359) (pcJ := 40) rfl L rfl rfl rfl ?_
      refine j_V.one mo7_M mo7_40 (by decide) (pcJ := 41) (stJ := [.int 4, .ref 359]) rfl ?_
      refine j_V.cl mo7_M mo7_41 rfl (md := 3) (mj := 169) rfl (by decide) mo0_M (As := [.ref 359, .int 4]) (rest := []) (jk_spl3 (K.at rfl) rfl rfl rfl (Nat.le_of_ble_eq_true rfl) (Nat.le_of_ble_eq_true rfl)) (fun d => mo0_ok (K.fi [359] rfl rfl)) ?_
      rintro r h9 ⟨rfl, K9⟩
      generalize ez3 : (m_refuse th sst 4) = z3 at K9 ⊢
      have K : KN h9 [(359, .inl (10, [.int (z3.2.1), .ref 360, .ref 361, .ref 362, .ref 363, .ref 364, .ref 365, .ref 366, .ref 367, (u 9), .int (z3.2.2), (u 11), (u 12), .int acs, (u 14), (u 15), (u 16), (u 17), (u 18), (u 19), (u 20), (u 21), .ref 368, (u 23), .ref 369, .ref 370, .ref 371, (u 27)])), (360, .inr (.inl (0, w))), (364, .inr (.inl (0, kp)))] h0 := K.mg K9 rfl rfl
      clear K9
      show j_V jP _ 285 44 lv [.int (z3.1)] h9 _
      subst ez3
      refine j_V.ri mo7_M mo7_44 ?_
      rw [show (m_shut th sst acs w kp x1 x2 x3) = _ from ((if_neg c6_0).trans ((if_pos c36_1).trans (rfl)))]
      exact ⟨rfl, K⟩
  · replace c6_0 : (m_isTrack w x1 x2) = 0 := jd_nen c6_0
    refine j_V.ldL mo7_M mo7_9 rfl (i := 0) (kd := 2) (v := .ref 359) (pcJ := 10) rfl L rfl rfl rfl ?_
    refine j_V.one mo7_M mo7_10 (by decide) (pcJ := 11) (stJ := [.int 2, .ref 359]) rfl ?_
    refine j_V.cl mo7_M mo7_11 rfl (md := 3) (mj := 169) rfl (by decide) mo0_M (As := [.ref 359, .int 2]) (rest := []) (jk_spl3 (K.at rfl) rfl rfl rfl (Nat.le_of_ble_eq_true rfl) (Nat.le_of_ble_eq_true rfl)) (fun d => mo0_ok (K.fi [359] rfl rfl)) ?_
    rintro r h9 ⟨rfl, K9⟩
    generalize ez4 : (m_refuse th sst 2) = z4 at K9 ⊢
    have K : KN h9 [(359, .inl (10, [.int (z4.2.1), .ref 360, .ref 361, .ref 362, .ref 363, .ref 364, .ref 365, .ref 366, .ref 367, (u 9), .int (z4.2.2), (u 11), (u 12), .int acs, (u 14), (u 15), (u 16), (u 17), (u 18), (u 19), (u 20), (u 21), .ref 368, (u 23), .ref 369, .ref 370, .ref 371, (u 27)])), (360, .inr (.inl (0, w))), (364, .inr (.inl (0, kp)))] h0 := K.mg K9 rfl rfl
    clear K9
    show j_V jP _ 285 14 lv [.int (z4.1)] h9 _
    subst ez4
    refine j_V.ri mo7_M mo7_14 ?_
    rw [show (m_shut th sst acs w kp x1 x2 x3) = _ from ((if_pos c6_0).trans (rfl))]
    exact ⟨rfl, K⟩
set_option maxRecDepth 100000 in
theorem mo8_M : j_meth jP 289 = some (yX10_link, cX10_link, 6, (some .int), 3, false, 10) := rfl
set_option maxRecDepth 100000 in
theorem mo8_0 : j_code jP 289 0 = some (.aload_n 0) := rfl
set_option maxRecDepth 100000 in
theorem mo8_1 : j_code jP 289 1 = some (.iload_n 1) := rfl
set_option maxRecDepth 100000 in
theorem mo8_2 : j_code jP 289 2 = some (.invokevirtual 310) := rfl
set_option maxRecDepth 100000 in
theorem mo8_5 : j_code jP 289 5 = some (.ifCond .eq 19) := rfl
set_option maxRecDepth 100000 in
theorem mo8_8 : j_code jP 289 8 = some (.aload_n 0) := rfl
set_option maxRecDepth 100000 in
theorem mo8_9 : j_code jP 289 9 = some (.iload_n 3) := rfl
set_option maxRecDepth 100000 in
theorem mo8_10 : j_code jP 289 10 = some (.invokevirtual 310) := rfl
set_option maxRecDepth 100000 in
theorem mo8_13 : j_code jP 289 13 = some (.ifCond .eq 11) := rfl
set_option maxRecDepth 100000 in
theorem mo8_16 : j_code jP 289 16 = some (.aload_n 0) := rfl
set_option maxRecDepth 100000 in
theorem mo8_17 : j_code jP 289 17 = some (.iload_n 2) := rfl
set_option maxRecDepth 100000 in
theorem mo8_18 : j_code jP 289 18 = some (.invokevirtual 65) := rfl
set_option maxRecDepth 100000 in
theorem mo8_21 : j_code jP 289 21 = some (.ifCond .ne 9) := rfl
set_option maxRecDepth 100000 in
theorem mo8_24 : j_code jP 289 24 = some (.aload_n 0) := rfl
set_option maxRecDepth 100000 in
theorem mo8_25 : j_code jP 289 25 = some (.iconst 2) := rfl
set_option maxRecDepth 100000 in
theorem mo8_26 : j_code jP 289 26 = some (.invokevirtual 179) := rfl
set_option maxRecDepth 100000 in
theorem mo8_29 : j_code jP 289 29 = some (.ireturn) := rfl
set_option maxRecDepth 100000 in
theorem mo8_30 : j_code jP 289 30 = some (.iload_n 1) := rfl
set_option maxRecDepth 100000 in
theorem mo8_31 : j_code jP 289 31 = some (.iload_n 3) := rfl
set_option maxRecDepth 100000 in
theorem mo8_32 : j_code jP 289 32 = some (.if_icmp .ne 7) := rfl
set_option maxRecDepth 100000 in
theorem mo8_35 : j_code jP 289 35 = some (.iconst 1) := rfl
set_option maxRecDepth 100000 in
theorem mo8_36 : j_code jP 289 36 = some (.goto 4) := rfl
set_option maxRecDepth 100000 in
theorem mo8_39 : j_code jP 289 39 = some (.iconst 0) := rfl
set_option maxRecDepth 100000 in
theorem mo8_40 : j_code jP 289 40 = some (.istore 4) := rfl
set_option maxRecDepth 100000 in
theorem mo8_42 : j_code jP 289 42 = some (.iconst 0) := rfl
set_option maxRecDepth 100000 in
theorem mo8_43 : j_code jP 289 43 = some (.istore 5) := rfl
set_option maxRecDepth 100000 in
theorem mo8_45 : j_code jP 289 45 = some (.iload 5) := rfl
set_option maxRecDepth 100000 in
theorem mo8_47 : j_code jP 289 47 = some (.aload_n 0) := rfl
set_option maxRecDepth 100000 in
theorem mo8_48 : j_code jP 289 48 = some (.getfield 7) := rfl
set_option maxRecDepth 100000 in
theorem mo8_51 : j_code jP 289 51 = some (.sipush 296) := rfl
set_option maxRecDepth 100000 in
theorem mo8_54 : j_code jP 289 54 = some (.iaload) := rfl
set_option maxRecDepth 100000 in
theorem mo8_55 : j_code jP 289 55 = some (.if_icmp .ge 54) := rfl
set_option maxRecDepth 100000 in
theorem mo8_58 : j_code jP 289 58 = some (.iload 4) := rfl
set_option maxRecDepth 100000 in
theorem mo8_60 : j_code jP 289 60 = some (.ifCond .ne 36) := rfl
set_option maxRecDepth 100000 in
theorem mo8_63 : j_code jP 289 63 = some (.aload_n 0) := rfl
set_option maxRecDepth 100000 in
theorem mo8_64 : j_code jP 289 64 = some (.iload 5) := rfl
set_option maxRecDepth 100000 in
theorem mo8_66 : j_code jP 289 66 = some (.iconst 0) := rfl
set_option maxRecDepth 100000 in
theorem mo8_67 : j_code jP 289 67 = some (.invokevirtual 259) := rfl
set_option maxRecDepth 100000 in
theorem mo8_70 : j_code jP 289 70 = some (.iload_n 1) := rfl
set_option maxRecDepth 100000 in
theorem mo8_71 : j_code jP 289 71 = some (.if_icmp .ne 29) := rfl
set_option maxRecDepth 100000 in
theorem mo8_74 : j_code jP 289 74 = some (.aload_n 0) := rfl
set_option maxRecDepth 100000 in
theorem mo8_75 : j_code jP 289 75 = some (.iload 5) := rfl
set_option maxRecDepth 100000 in
theorem mo8_77 : j_code jP 289 77 = some (.iconst 1) := rfl
set_option maxRecDepth 100000 in
theorem mo8_78 : j_code jP 289 78 = some (.invokevirtual 259) := rfl
set_option maxRecDepth 100000 in
theorem mo8_81 : j_code jP 289 81 = some (.iload_n 2) := rfl
set_option maxRecDepth 100000 in
theorem mo8_82 : j_code jP 289 82 = some (.if_icmp .ne 18) := rfl
set_option maxRecDepth 100000 in
theorem mo8_85 : j_code jP 289 85 = some (.aload_n 0) := rfl
set_option maxRecDepth 100000 in
theorem mo8_86 : j_code jP 289 86 = some (.iload 5) := rfl
set_option maxRecDepth 100000 in
theorem mo8_88 : j_code jP 289 88 = some (.iconst 2) := rfl
set_option maxRecDepth 100000 in
theorem mo8_89 : j_code jP 289 89 = some (.invokevirtual 259) := rfl
set_option maxRecDepth 100000 in
theorem mo8_92 : j_code jP 289 92 = some (.iload_n 3) := rfl
set_option maxRecDepth 100000 in
theorem mo8_93 : j_code jP 289 93 = some (.if_icmp .ne 7) := rfl
set_option maxRecDepth 100000 in
theorem mo8_96 : j_code jP 289 96 = some (.iconst 1) := rfl
set_option maxRecDepth 100000 in
theorem mo8_97 : j_code jP 289 97 = some (.goto 4) := rfl
set_option maxRecDepth 100000 in
theorem mo8_100 : j_code jP 289 100 = some (.iconst 0) := rfl
set_option maxRecDepth 100000 in
theorem mo8_101 : j_code jP 289 101 = some (.istore 4) := rfl
set_option maxRecDepth 100000 in
theorem mo8_103 : j_code jP 289 103 = some (.iinc 5 1) := rfl
set_option maxRecDepth 100000 in
theorem mo8_106 : j_code jP 289 106 = some (.goto (-61)) := rfl
set_option maxRecDepth 100000 in
theorem mo8_109 : j_code jP 289 109 = some (.iload 4) := rfl
set_option maxRecDepth 100000 in
theorem mo8_111 : j_code jP 289 111 = some (.ifCond .eq 9) := rfl
set_option maxRecDepth 100000 in
theorem mo8_114 : j_code jP 289 114 = some (.aload_n 0) := rfl
set_option maxRecDepth 100000 in
theorem mo8_115 : j_code jP 289 115 = some (.iconst 4) := rfl
set_option maxRecDepth 100000 in
theorem mo8_116 : j_code jP 289 116 = some (.invokevirtual 179) := rfl
set_option maxRecDepth 100000 in
theorem mo8_119 : j_code jP 289 119 = some (.ireturn) := rfl
set_option maxRecDepth 100000 in
theorem mo8_120 : j_code jP 289 120 = some (.aload_n 0) := rfl
set_option maxRecDepth 100000 in
theorem mo8_121 : j_code jP 289 121 = some (.getfield 7) := rfl
set_option maxRecDepth 100000 in
theorem mo8_124 : j_code jP 289 124 = some (.sipush 296) := rfl
set_option maxRecDepth 100000 in
theorem mo8_127 : j_code jP 289 127 = some (.iaload) := rfl
set_option maxRecDepth 100000 in
theorem mo8_128 : j_code jP 289 128 = some (.iconst 4) := rfl
set_option maxRecDepth 100000 in
theorem mo8_129 : j_code jP 289 129 = some (.if_icmp .ne 9) := rfl
set_option maxRecDepth 100000 in
theorem mo8_132 : j_code jP 289 132 = some (.aload_n 0) := rfl
set_option maxRecDepth 100000 in
theorem mo8_133 : j_code jP 289 133 = some (.iconst 3) := rfl
set_option maxRecDepth 100000 in
theorem mo8_134 : j_code jP 289 134 = some (.invokevirtual 179) := rfl
set_option maxRecDepth 100000 in
theorem mo8_137 : j_code jP 289 137 = some (.ireturn) := rfl
set_option maxRecDepth 100000 in
theorem mo8_138 : j_code jP 289 138 = some (.aload_n 0) := rfl
set_option maxRecDepth 100000 in
theorem mo8_139 : j_code jP 289 139 = some (.invokevirtual 362) := rfl
set_option maxRecDepth 100000 in
theorem mo8_142 : j_code jP 289 142 = some (.sipush 297) := rfl
set_option maxRecDepth 100000 in
theorem mo8_145 : j_code jP 289 145 = some (.iconst 3) := rfl
set_option maxRecDepth 100000 in
theorem mo8_146 : j_code jP 289 146 = some (.aload_n 0) := rfl
set_option maxRecDepth 100000 in
theorem mo8_147 : j_code jP 289 147 = some (.getfield 7) := rfl
set_option maxRecDepth 100000 in
theorem mo8_150 : j_code jP 289 150 = some (.sipush 296) := rfl
set_option maxRecDepth 100000 in
theorem mo8_153 : j_code jP 289 153 = some (.iaload) := rfl
set_option maxRecDepth 100000 in
theorem mo8_154 : j_code jP 289 154 = some (.imul) := rfl
set_option maxRecDepth 100000 in
theorem mo8_155 : j_code jP 289 155 = some (.iadd) := rfl
set_option maxRecDepth 100000 in
theorem mo8_156 : j_code jP 289 156 = some (.istore 5) := rfl
set_option maxRecDepth 100000 in
theorem mo8_158 : j_code jP 289 158 = some (.aload_n 0) := rfl
set_option maxRecDepth 100000 in
theorem mo8_159 : j_code jP 289 159 = some (.getfield 7) := rfl
set_option maxRecDepth 100000 in
theorem mo8_162 : j_code jP 289 162 = some (.iload 5) := rfl
set_option maxRecDepth 100000 in
theorem mo8_164 : j_code jP 289 164 = some (.iload_n 1) := rfl
set_option maxRecDepth 100000 in
theorem mo8_165 : j_code jP 289 165 = some (.iastore) := rfl
set_option maxRecDepth 100000 in
theorem mo8_166 : j_code jP 289 166 = some (.aload_n 0) := rfl
set_option maxRecDepth 100000 in
theorem mo8_167 : j_code jP 289 167 = some (.getfield 7) := rfl
set_option maxRecDepth 100000 in
theorem mo8_170 : j_code jP 289 170 = some (.iload 5) := rfl
set_option maxRecDepth 100000 in
theorem mo8_172 : j_code jP 289 172 = some (.iconst 1) := rfl
set_option maxRecDepth 100000 in
theorem mo8_173 : j_code jP 289 173 = some (.iadd) := rfl
set_option maxRecDepth 100000 in
theorem mo8_174 : j_code jP 289 174 = some (.iload_n 2) := rfl
set_option maxRecDepth 100000 in
theorem mo8_175 : j_code jP 289 175 = some (.iastore) := rfl
set_option maxRecDepth 100000 in
theorem mo8_176 : j_code jP 289 176 = some (.aload_n 0) := rfl
set_option maxRecDepth 100000 in
theorem mo8_177 : j_code jP 289 177 = some (.getfield 7) := rfl
set_option maxRecDepth 100000 in
theorem mo8_180 : j_code jP 289 180 = some (.iload 5) := rfl
set_option maxRecDepth 100000 in
theorem mo8_182 : j_code jP 289 182 = some (.iconst 2) := rfl
set_option maxRecDepth 100000 in
theorem mo8_183 : j_code jP 289 183 = some (.iadd) := rfl
set_option maxRecDepth 100000 in
theorem mo8_184 : j_code jP 289 184 = some (.iload_n 3) := rfl
set_option maxRecDepth 100000 in
theorem mo8_185 : j_code jP 289 185 = some (.iastore) := rfl
set_option maxRecDepth 100000 in
theorem mo8_186 : j_code jP 289 186 = some (.aload_n 0) := rfl
set_option maxRecDepth 100000 in
theorem mo8_187 : j_code jP 289 187 = some (.getfield 7) := rfl
set_option maxRecDepth 100000 in
theorem mo8_190 : j_code jP 289 190 = some (.sipush 296) := rfl
set_option maxRecDepth 100000 in
theorem mo8_193 : j_code jP 289 193 = some (.dup2) := rfl
set_option maxRecDepth 100000 in
theorem mo8_194 : j_code jP 289 194 = some (.iaload) := rfl
set_option maxRecDepth 100000 in
theorem mo8_195 : j_code jP 289 195 = some (.iconst 1) := rfl
set_option maxRecDepth 100000 in
theorem mo8_196 : j_code jP 289 196 = some (.iadd) := rfl
set_option maxRecDepth 100000 in
theorem mo8_197 : j_code jP 289 197 = some (.iastore) := rfl
set_option maxRecDepth 100000 in
theorem mo8_198 : j_code jP 289 198 = some (.aload_n 0) := rfl
set_option maxRecDepth 100000 in
theorem mo8_199 : j_code jP 289 199 = some (.aload_n 0) := rfl
set_option maxRecDepth 100000 in
theorem mo8_200 : j_code jP 289 200 = some (.getfield 7) := rfl
set_option maxRecDepth 100000 in
theorem mo8_203 : j_code jP 289 203 = some (.sipush 296) := rfl
set_option maxRecDepth 100000 in
theorem mo8_206 : j_code jP 289 206 = some (.iaload) := rfl
set_option maxRecDepth 100000 in
theorem mo8_207 : j_code jP 289 207 = some (.iconst 1) := rfl
set_option maxRecDepth 100000 in
theorem mo8_208 : j_code jP 289 208 = some (.isub) := rfl
set_option maxRecDepth 100000 in
theorem mo8_209 : j_code jP 289 209 = some (.invokevirtual 195) := rfl
set_option maxRecDepth 100000 in
theorem mo8_212 : j_code jP 289 212 = some (.ireturn) := rfl
def m_link_l45  (v1 : Int32) (v2 : Int32) (v3 : Int32) : Nat → Int32 → Int32 → Int32 → Int32 → Int32 → List Int32 → List Int32 → Int32 × Int32 × Int32 × Int32 × List Int32 × List Int32
  | 0, v5, v4, th, sst, acs, kp, w => (if v4 = 0 then (if (gA w 296) = 4 then let z3 := (m_refuse th sst 3); ((z3.1), (z3.2.1), (z3.2.2), acs, kp, w) else let z1 := (m_keeps acs w kp); let w1 := (sA w (297 + (3 * (gA w 296))) v1); let w2 := (sA w1 ((297 + (3 * (gA w 296))) + 1) v2); let w3 := (sA w2 ((297 + (3 * (gA w 296))) + 2) v3); let w4 := (sA w3 296 ((gA w3 296) + 1)); let z2 := (m_gives th sst ((gA w4 296) - 1)); ((z2.1), (z2.2.1), (z2.2.2), (z1.2), (z1.1), w4)) else let z4 := (m_refuse th sst 4); ((z4.1), (z4.2.1), (z4.2.2), acs, kp, w))
  | f + 1, v5, v4, th, sst, acs, kp, w => (m_link_l45 v1 v2 v3 f (v5 + 1) ((if v4 = 0 then (if (m_link0 w v5 0) = v1 then (if (m_link0 w v5 1) = v2 then (if (m_link0 w v5 2) = v3 then 1 else 0) else 0) else 0) else 1) : Int32) th sst acs kp w)
set_option maxRecDepth 1000000 in
theorem mo8_ok_l45 {u : Nat → Value} {v1 v2 v3 : Int32} {d : Nat} {h0 : J_H} : ∀ (f : Nat) (v5 v4 : Int32) (th : Int32) (sst : Int32) (acs : Int32) (kp : List Int32) (w : List Int32) {lv : J_L} {h : J_H}, lpN (gA w 296) v5 = f → LK lv [(0, .ref 359), (1, .int v1), (2, .int v2), (3, .int v3), (4, .int v4), (5, .int v5)] → KN h [(359, .inl (10, [.int th, .ref 360, .ref 361, .ref 362, .ref 363, .ref 364, .ref 365, .ref 366, .ref 367, (u 9), .int sst, (u 11), (u 12), .int acs, (u 14), (u 15), (u 16), (u 17), (u 18), (u 19), (u 20), (u 21), .ref 368, (u 23), .ref 369, .ref 370, .ref 371, (u 27)])), (360, .inr (.inl (0, w))), (364, .inr (.inl (0, kp)))] h0 → j_V jP d 289 45 lv [] h (fun rv h' => rv = some (.int (m_link_l45 v1 v2 v3 f v5 v4 th sst acs kp w).1) ∧ KN h' [(359, .inl (10, [.int (m_link_l45 v1 v2 v3 f v5 v4 th sst acs kp w).2.1, .ref 360, .ref 361, .ref 362, .ref 363, .ref 364, .ref 365, .ref 366, .ref 367, (u 9), .int (m_link_l45 v1 v2 v3 f v5 v4 th sst acs kp w).2.2.1, (u 11), (u 12), .int (m_link_l45 v1 v2 v3 f v5 v4 th sst acs kp w).2.2.2.1, (u 14), (u 15), (u 16), (u 17), (u 18), (u 19), (u 20), (u 21), .ref 368, (u 23), .ref 369, .ref 370, .ref 371, (u 27)])), (360, .inr (.inl (0, (m_link_l45 v1 v2 v3 f v5 v4 th sst acs kp w).2.2.2.2.2))), (364, .inr (.inl (0, (m_link_l45 v1 v2 v3 f v5 v4 th sst acs kp w).2.2.2.2.1)))] h0) := by
  intro f
  induction f with
  | zero =>
    intro v5 v4 th sst acs kp w lv h e L K
    refine j_V.ldL mo8_M mo8_45 rfl (i := 5) (kd := 0) (v := .int v5) (pcJ := 47) rfl L rfl rfl rfl ?_
    refine j_V.ldL mo8_M mo8_47 rfl (i := 0) (kd := 2) (v := .ref 359) (pcJ := 48) rfl L rfl rfl rfl ?_
    refine j_V.getK mo8_M mo8_48 (ci := 10) (j := 1) rfl K rfl rfl ?_
    refine j_V.one mo8_M mo8_51 (by decide) (pcJ := 54) (stJ := [.int 296, .ref 360, .int v5]) rfl ?_
    refine j_V.iaA mo8_M mo8_54 K rfl ?_
    refine j_V.icmp mo8_M mo8_55 (t := 109) rfl (fun c55_0 => ?_) (fun c55_0 => ?_)
    · replace c55_0 : ¬ (v5 < (gA w 296)) := jd_ge c55_0
      refine j_V.ldL mo8_M mo8_109 rfl (i := 4) (kd := 0) (v := .int v4) (pcJ := 111) rfl L rfl rfl rfl ?_
      refine j_V.ifc mo8_M mo8_111 (t := 120) rfl (fun c111_0 => ?_) (fun c111_0 => ?_)
      · replace c111_0 : v4 = 0 := jd_eq c111_0
        refine j_V.ldL mo8_M mo8_120 rfl (i := 0) (kd := 2) (v := .ref 359) (pcJ := 121) rfl L rfl rfl rfl ?_
        refine j_V.getK mo8_M mo8_121 (ci := 10) (j := 1) rfl K rfl rfl ?_
        refine j_V.one mo8_M mo8_124 (by decide) (pcJ := 127) (stJ := [.int 296, .ref 360]) rfl ?_
        refine j_V.iaA mo8_M mo8_127 K rfl ?_
        refine j_V.one mo8_M mo8_128 (by decide) (pcJ := 129) (stJ := [.int 4, .int (gA w 296)]) rfl ?_
        refine j_V.icmp mo8_M mo8_129 (t := 138) rfl (fun c129_1 => ?_) (fun c129_1 => ?_)
        · replace c129_1 : ¬ ((gA w 296) = 4) := jd_ne c129_1
          refine j_V.ldL mo8_M mo8_138 rfl (i := 0) (kd := 2) (v := .ref 359) (pcJ := 139) rfl L rfl rfl rfl ?_
          refine j_V.cl mo8_M mo8_139 rfl (md := 3) (mj := 281) rfl (by decide) mo2_M (As := [.ref 359]) (rest := []) (jk_spl3 (K.at rfl) rfl rfl rfl (Nat.le_of_ble_eq_true rfl) (Nat.le_of_ble_eq_true rfl)) (fun d => mo2_ok (K.fi [359, 360, 364] rfl rfl)) ?_
          rintro r h9 ⟨rfl, K9⟩
          generalize ez1 : (m_keeps acs w kp) = z1 at K9 ⊢
          have K : KN h9 [(359, .inl (10, [.int th, .ref 360, .ref 361, .ref 362, .ref 363, .ref 364, .ref 365, .ref 366, .ref 367, (u 9), .int sst, (u 11), (u 12), .int (z1.2), (u 14), (u 15), (u 16), (u 17), (u 18), (u 19), (u 20), (u 21), .ref 368, (u 23), .ref 369, .ref 370, .ref 371, (u 27)])), (360, .inr (.inl (0, w))), (364, .inr (.inl (0, (z1.1))))] h0 := K.mg K9 rfl rfl
          clear K9
          show j_V jP _ 289 142 lv [] h9 _
          refine j_V.one mo8_M mo8_142 (by decide) (pcJ := 145) (stJ := [.int 297]) rfl ?_
          refine j_V.one mo8_M mo8_145 (by decide) (pcJ := 146) (stJ := [.int 3, .int 297]) rfl ?_
          refine j_V.ldL mo8_M mo8_146 rfl (i := 0) (kd := 2) (v := .ref 359) (pcJ := 147) rfl L rfl rfl rfl ?_
          refine j_V.getK mo8_M mo8_147 (ci := 10) (j := 1) rfl K rfl rfl ?_
          refine j_V.one mo8_M mo8_150 (by decide) (pcJ := 153) (stJ := [.int 296, .ref 360, .int 3, .int 297]) rfl ?_
          refine j_V.iaA mo8_M mo8_153 K rfl ?_
          refine j_V.one mo8_M mo8_154 (by decide) (pcJ := 155) (stJ := [.int (3 * (gA w 296)), .int 297]) rfl ?_
          refine j_V.one mo8_M mo8_155 (by decide) (pcJ := 156) (stJ := [.int (297 + (3 * (gA w 296)))]) rfl ?_
          refine j_V.stL mo8_M mo8_156 rfl (i := 5) (kd := 0) (kl' := [(0, .ref 359), (1, .int v1), (2, .int v2), (3, .int v3), (4, .int v4), (5, .int (297 + (3 * (gA w 296))))]) (pcJ := 158) rfl L rfl (by decide) rfl rfl rfl (fun lv L => ?_)
          refine j_V.ldL mo8_M mo8_158 rfl (i := 0) (kd := 2) (v := .ref 359) (pcJ := 159) rfl L rfl rfl rfl ?_
          refine j_V.getK mo8_M mo8_159 (ci := 10) (j := 1) rfl K rfl rfl ?_
          refine j_V.ldL mo8_M mo8_162 rfl (i := 5) (kd := 0) (v := .int (297 + (3 * (gA w 296)))) (pcJ := 164) rfl L rfl rfl rfl ?_
          refine j_V.ldL mo8_M mo8_164 rfl (i := 1) (kd := 0) (v := .int v1) (pcJ := 165) rfl L rfl rfl rfl ?_
          refine j_V.isA mo8_M mo8_165 (k' := [(359, .inl (10, [.int th, .ref 360, .ref 361, .ref 362, .ref 363, .ref 364, .ref 365, .ref 366, .ref 367, (u 9), .int sst, (u 11), (u 12), .int (z1.2), (u 14), (u 15), (u 16), (u 17), (u 18), (u 19), (u 20), (u 21), .ref 368, (u 23), .ref 369, .ref 370, .ref 371, (u 27)])), (360, .inr (.inl (0, (sA w (297 + (3 * (gA w 296))) v1)))), (364, .inr (.inl (0, (z1.1))))]) K rfl rfl (fun h K => ?_)
          obtain ⟨w1, ew1⟩ : ∃ z, z = (sA w (297 + (3 * (gA w 296))) v1) := ⟨_, rfl⟩
          rw [← ew1] at K
          refine j_V.ldL mo8_M mo8_166 rfl (i := 0) (kd := 2) (v := .ref 359) (pcJ := 167) rfl L rfl rfl rfl ?_
          refine j_V.getK mo8_M mo8_167 (ci := 10) (j := 1) rfl K rfl rfl ?_
          refine j_V.ldL mo8_M mo8_170 rfl (i := 5) (kd := 0) (v := .int (297 + (3 * (gA w 296)))) (pcJ := 172) rfl L rfl rfl rfl ?_
          refine j_V.one mo8_M mo8_172 (by decide) (pcJ := 173) (stJ := [.int 1, .int (297 + (3 * (gA w 296))), .ref 360]) rfl ?_
          refine j_V.one mo8_M mo8_173 (by decide) (pcJ := 174) (stJ := [.int ((297 + (3 * (gA w 296))) + 1), .ref 360]) rfl ?_
          refine j_V.ldL mo8_M mo8_174 rfl (i := 2) (kd := 0) (v := .int v2) (pcJ := 175) rfl L rfl rfl rfl ?_
          refine j_V.isA mo8_M mo8_175 (k' := [(359, .inl (10, [.int th, .ref 360, .ref 361, .ref 362, .ref 363, .ref 364, .ref 365, .ref 366, .ref 367, (u 9), .int sst, (u 11), (u 12), .int (z1.2), (u 14), (u 15), (u 16), (u 17), (u 18), (u 19), (u 20), (u 21), .ref 368, (u 23), .ref 369, .ref 370, .ref 371, (u 27)])), (360, .inr (.inl (0, (sA w1 ((297 + (3 * (gA w 296))) + 1) v2)))), (364, .inr (.inl (0, (z1.1))))]) K rfl rfl (fun h K => ?_)
          obtain ⟨w2, ew2⟩ : ∃ z, z = (sA w1 ((297 + (3 * (gA w 296))) + 1) v2) := ⟨_, rfl⟩
          rw [← ew2] at K
          refine j_V.ldL mo8_M mo8_176 rfl (i := 0) (kd := 2) (v := .ref 359) (pcJ := 177) rfl L rfl rfl rfl ?_
          refine j_V.getK mo8_M mo8_177 (ci := 10) (j := 1) rfl K rfl rfl ?_
          refine j_V.ldL mo8_M mo8_180 rfl (i := 5) (kd := 0) (v := .int (297 + (3 * (gA w 296)))) (pcJ := 182) rfl L rfl rfl rfl ?_
          refine j_V.one mo8_M mo8_182 (by decide) (pcJ := 183) (stJ := [.int 2, .int (297 + (3 * (gA w 296))), .ref 360]) rfl ?_
          refine j_V.one mo8_M mo8_183 (by decide) (pcJ := 184) (stJ := [.int ((297 + (3 * (gA w 296))) + 2), .ref 360]) rfl ?_
          refine j_V.ldL mo8_M mo8_184 rfl (i := 3) (kd := 0) (v := .int v3) (pcJ := 185) rfl L rfl rfl rfl ?_
          refine j_V.isA mo8_M mo8_185 (k' := [(359, .inl (10, [.int th, .ref 360, .ref 361, .ref 362, .ref 363, .ref 364, .ref 365, .ref 366, .ref 367, (u 9), .int sst, (u 11), (u 12), .int (z1.2), (u 14), (u 15), (u 16), (u 17), (u 18), (u 19), (u 20), (u 21), .ref 368, (u 23), .ref 369, .ref 370, .ref 371, (u 27)])), (360, .inr (.inl (0, (sA w2 ((297 + (3 * (gA w 296))) + 2) v3)))), (364, .inr (.inl (0, (z1.1))))]) K rfl rfl (fun h K => ?_)
          obtain ⟨w3, ew3⟩ : ∃ z, z = (sA w2 ((297 + (3 * (gA w 296))) + 2) v3) := ⟨_, rfl⟩
          rw [← ew3] at K
          refine j_V.ldL mo8_M mo8_186 rfl (i := 0) (kd := 2) (v := .ref 359) (pcJ := 187) rfl L rfl rfl rfl ?_
          refine j_V.getK mo8_M mo8_187 (ci := 10) (j := 1) rfl K rfl rfl ?_
          refine j_V.one mo8_M mo8_190 (by decide) (pcJ := 193) (stJ := [.int 296, .ref 360]) rfl ?_
          refine j_V.one mo8_M mo8_193 (by decide) (pcJ := 194) (stJ := [.int 296, .ref 360, .int 296, .ref 360]) rfl ?_
          refine j_V.iaA mo8_M mo8_194 K rfl ?_
          refine j_V.one mo8_M mo8_195 (by decide) (pcJ := 196) (stJ := [.int 1, .int (gA w3 296), .int 296, .ref 360]) rfl ?_
          refine j_V.one mo8_M mo8_196 (by decide) (pcJ := 197) (stJ := [.int ((gA w3 296) + 1), .int 296, .ref 360]) rfl ?_
          refine j_V.isA mo8_M mo8_197 (k' := [(359, .inl (10, [.int th, .ref 360, .ref 361, .ref 362, .ref 363, .ref 364, .ref 365, .ref 366, .ref 367, (u 9), .int sst, (u 11), (u 12), .int (z1.2), (u 14), (u 15), (u 16), (u 17), (u 18), (u 19), (u 20), (u 21), .ref 368, (u 23), .ref 369, .ref 370, .ref 371, (u 27)])), (360, .inr (.inl (0, (sA w3 296 ((gA w3 296) + 1))))), (364, .inr (.inl (0, (z1.1))))]) K rfl rfl (fun h K => ?_)
          obtain ⟨w4, ew4⟩ : ∃ z, z = (sA w3 296 ((gA w3 296) + 1)) := ⟨_, rfl⟩
          rw [← ew4] at K
          refine j_V.ldL mo8_M mo8_198 rfl (i := 0) (kd := 2) (v := .ref 359) (pcJ := 199) rfl L rfl rfl rfl ?_
          refine j_V.ldL mo8_M mo8_199 rfl (i := 0) (kd := 2) (v := .ref 359) (pcJ := 200) rfl L rfl rfl rfl ?_
          refine j_V.getK mo8_M mo8_200 (ci := 10) (j := 1) rfl K rfl rfl ?_
          refine j_V.one mo8_M mo8_203 (by decide) (pcJ := 206) (stJ := [.int 296, .ref 360, .ref 359]) rfl ?_
          refine j_V.iaA mo8_M mo8_206 K rfl ?_
          refine j_V.one mo8_M mo8_207 (by decide) (pcJ := 208) (stJ := [.int 1, .int (gA w4 296), .ref 359]) rfl ?_
          refine j_V.one mo8_M mo8_208 (by decide) (pcJ := 209) (stJ := [.int ((gA w4 296) - 1), .ref 359]) rfl ?_
          refine j_V.cl mo8_M mo8_209 rfl (md := 3) (mj := 170) rfl (by decide) mo1_M (As := [.ref 359, .int ((gA w4 296) - 1)]) (rest := []) (jk_spl3 (K.at rfl) rfl rfl rfl (Nat.le_of_ble_eq_true rfl) (Nat.le_of_ble_eq_true rfl)) (fun d => mo1_ok (K.fi [359] rfl rfl)) ?_
          rintro r h9 ⟨rfl, K9⟩
          generalize ez2 : (m_gives th sst ((gA w4 296) - 1)) = z2 at K9 ⊢
          have K : KN h9 [(359, .inl (10, [.int (z2.2.1), .ref 360, .ref 361, .ref 362, .ref 363, .ref 364, .ref 365, .ref 366, .ref 367, (u 9), .int (z2.2.2), (u 11), (u 12), .int (z1.2), (u 14), (u 15), (u 16), (u 17), (u 18), (u 19), (u 20), (u 21), .ref 368, (u 23), .ref 369, .ref 370, .ref 371, (u 27)])), (360, .inr (.inl (0, w4))), (364, .inr (.inl (0, (z1.1))))] h0 := K.mg K9 rfl rfl
          clear K9
          show j_V jP _ 289 212 lv [.int (z2.1)] h9 _
          subst ez2
          subst ew4
          subst ew3
          subst ew2
          subst ew1
          subst ez1
          refine j_V.ri mo8_M mo8_212 ?_
          rw [show (m_link_l45 v1 v2 v3 0 v5 v4 th sst acs kp w) = _ from ((if_pos c111_0).trans ((if_neg c129_1).trans (rfl)))]
          exact ⟨rfl, K⟩
        · replace c129_1 : (gA w 296) = 4 := jd_nen c129_1
          refine j_V.ldL mo8_M mo8_132 rfl (i := 0) (kd := 2) (v := .ref 359) (pcJ := 133) rfl L rfl rfl rfl ?_
          refine j_V.one mo8_M mo8_133 (by decide) (pcJ := 134) (stJ := [.int 3, .ref 359]) rfl ?_
          refine j_V.cl mo8_M mo8_134 rfl (md := 3) (mj := 169) rfl (by decide) mo0_M (As := [.ref 359, .int 3]) (rest := []) (jk_spl3 (K.at rfl) rfl rfl rfl (Nat.le_of_ble_eq_true rfl) (Nat.le_of_ble_eq_true rfl)) (fun d => mo0_ok (K.fi [359] rfl rfl)) ?_
          rintro r h9 ⟨rfl, K9⟩
          generalize ez3 : (m_refuse th sst 3) = z3 at K9 ⊢
          have K : KN h9 [(359, .inl (10, [.int (z3.2.1), .ref 360, .ref 361, .ref 362, .ref 363, .ref 364, .ref 365, .ref 366, .ref 367, (u 9), .int (z3.2.2), (u 11), (u 12), .int acs, (u 14), (u 15), (u 16), (u 17), (u 18), (u 19), (u 20), (u 21), .ref 368, (u 23), .ref 369, .ref 370, .ref 371, (u 27)])), (360, .inr (.inl (0, w))), (364, .inr (.inl (0, kp)))] h0 := K.mg K9 rfl rfl
          clear K9
          show j_V jP _ 289 137 lv [.int (z3.1)] h9 _
          subst ez3
          refine j_V.ri mo8_M mo8_137 ?_
          rw [show (m_link_l45 v1 v2 v3 0 v5 v4 th sst acs kp w) = _ from ((if_pos c111_0).trans ((if_pos c129_1).trans (rfl)))]
          exact ⟨rfl, K⟩
      · replace c111_0 : ¬ (v4 = 0) := jd_eqn c111_0
        refine j_V.ldL mo8_M mo8_114 rfl (i := 0) (kd := 2) (v := .ref 359) (pcJ := 115) rfl L rfl rfl rfl ?_
        refine j_V.one mo8_M mo8_115 (by decide) (pcJ := 116) (stJ := [.int 4, .ref 359]) rfl ?_
        refine j_V.cl mo8_M mo8_116 rfl (md := 3) (mj := 169) rfl (by decide) mo0_M (As := [.ref 359, .int 4]) (rest := []) (jk_spl3 (K.at rfl) rfl rfl rfl (Nat.le_of_ble_eq_true rfl) (Nat.le_of_ble_eq_true rfl)) (fun d => mo0_ok (K.fi [359] rfl rfl)) ?_
        rintro r h9 ⟨rfl, K9⟩
        generalize ez4 : (m_refuse th sst 4) = z4 at K9 ⊢
        have K : KN h9 [(359, .inl (10, [.int (z4.2.1), .ref 360, .ref 361, .ref 362, .ref 363, .ref 364, .ref 365, .ref 366, .ref 367, (u 9), .int (z4.2.2), (u 11), (u 12), .int acs, (u 14), (u 15), (u 16), (u 17), (u 18), (u 19), (u 20), (u 21), .ref 368, (u 23), .ref 369, .ref 370, .ref 371, (u 27)])), (360, .inr (.inl (0, w))), (364, .inr (.inl (0, kp)))] h0 := K.mg K9 rfl rfl
        clear K9
        show j_V jP _ 289 119 lv [.int (z4.1)] h9 _
        subst ez4
        refine j_V.ri mo8_M mo8_119 ?_
        rw [show (m_link_l45 v1 v2 v3 0 v5 v4 th sst acs kp w) = _ from ((if_neg c111_0).trans (rfl))]
        exact ⟨rfl, K⟩
    · replace c55_0 : v5 < (gA w 296) := jd_gen c55_0
      exact absurd c55_0 (lpN_z e)
  | succ f ih =>
    intro v5 v4 th sst acs kp w lv h e L K
    refine j_V.ldL mo8_M mo8_45 rfl (i := 5) (kd := 0) (v := .int v5) (pcJ := 47) rfl L rfl rfl rfl ?_
    refine j_V.ldL mo8_M mo8_47 rfl (i := 0) (kd := 2) (v := .ref 359) (pcJ := 48) rfl L rfl rfl rfl ?_
    refine j_V.getK mo8_M mo8_48 (ci := 10) (j := 1) rfl K rfl rfl ?_
    refine j_V.one mo8_M mo8_51 (by decide) (pcJ := 54) (stJ := [.int 296, .ref 360, .int v5]) rfl ?_
    refine j_V.iaA mo8_M mo8_54 K rfl ?_
    refine j_V.icmp mo8_M mo8_55 (t := 109) rfl (fun c55_0 => ?_) (fun c55_0 => ?_)
    · replace c55_0 : ¬ (v5 < (gA w 296)) := jd_ge c55_0
      exact absurd (lpN_s e) c55_0
    · replace c55_0 : v5 < (gA w 296) := jd_gen c55_0
      refine j_V.ldL mo8_M mo8_58 rfl (i := 4) (kd := 0) (v := .int v4) (pcJ := 60) rfl L rfl rfl rfl ?_
      refine j_V.cut (b := 101) (stJ := [.int ((if v4 = 0 then (if (m_link0 w v5 0) = v1 then (if (m_link0 w v5 1) = v2 then (if (m_link0 w v5 2) = v3 then 1 else 0) else 0) else 0) else 1) : Int32)]) (fun v => [(0, .ref 359), (1, .int v1), (2, .int v2), (3, .int v3), (4, .int v4), (5, .int v5)]) ((if v4 = 0 then (if (m_link0 w v5 0) = v1 then (if (m_link0 w v5 1) = v2 then (if (m_link0 w v5 2) = v3 then 1 else 0) else 0) else 0) else 1) : Int32) (fun Q kk => ?_) (fun lv L => ?_)
      · refine j_V.ifc mo8_M mo8_60 (t := 96) rfl (fun c60_0 => ?_) (fun c60_0 => ?_)
        · replace c60_0 : ¬ (v4 = 0) := jd_ne c60_0
          refine j_V.one mo8_M mo8_96 (by decide) (pcJ := 97) (stJ := [.int 1]) rfl ?_
          refine j_V.gto mo8_M mo8_97 (t := 101) rfl ?_
          exact Eq.subst (motive := fun z => j_V jP _ 289 101 _ (.int z :: []) h Q) (show ((if v4 = 0 then (if (m_link0 w v5 0) = v1 then (if (m_link0 w v5 1) = v2 then (if (m_link0 w v5 2) = v3 then 1 else 0) else 0) else 0) else 1) : Int32) = 1 from (if_neg c60_0).trans (rfl)) (kk _ L)
        · replace c60_0 : v4 = 0 := jd_nen c60_0
          refine j_V.ldL mo8_M mo8_63 rfl (i := 0) (kd := 2) (v := .ref 359) (pcJ := 64) rfl L rfl rfl rfl ?_
          refine j_V.ldL mo8_M mo8_64 rfl (i := 5) (kd := 0) (v := .int v5) (pcJ := 66) rfl L rfl rfl rfl ?_
          refine j_V.one mo8_M mo8_66 (by decide) (pcJ := 67) (stJ := [.int 0, .int v5, .ref 359]) rfl ?_
          refine j_V.cl mo8_M mo8_67 rfl (md := 3) (mj := 224) rfl (by decide) mb9_M (As := [.ref 359, .int v5, .int 0]) (rest := []) (jk_spl3 (K.at rfl) rfl rfl rfl (Nat.le_of_ble_eq_true rfl) (Nat.le_of_ble_eq_true rfl)) (fun d => mb9_ok (u := fun j => [.int th, .ref 360, .ref 361, .ref 362, .ref 363, .ref 364, .ref 365, .ref 366, .ref 367, (u 9), .int sst, (u 11), (u 12), .int acs, (u 14), (u 15), (u 16), (u 17), (u 18), (u 19), (u 20), (u 21), .ref 368, (u 23), .ref 369, .ref 370, .ref 371, (u 27)].getD j .null) (K.fi [359, 360] rfl rfl)) ?_
          rintro r hz ⟨rfl, ez⟩
          rw [ez]
          clear ez
          show j_V jP _ 289 70 lv [.int (m_link0 w v5 0)] h _
          refine j_V.ldL mo8_M mo8_70 rfl (i := 1) (kd := 0) (v := .int v1) (pcJ := 71) rfl L rfl rfl rfl ?_
          refine j_V.icmp mo8_M mo8_71 (t := 100) rfl (fun c71_1 => ?_) (fun c71_1 => ?_)
          · replace c71_1 : ¬ ((m_link0 w v5 0) = v1) := jd_ne c71_1
            refine j_V.one mo8_M mo8_100 (by decide) (pcJ := 101) (stJ := [.int 0]) rfl ?_
            exact Eq.subst (motive := fun z => j_V jP _ 289 101 _ (.int z :: []) h Q) (show ((if v4 = 0 then (if (m_link0 w v5 0) = v1 then (if (m_link0 w v5 1) = v2 then (if (m_link0 w v5 2) = v3 then 1 else 0) else 0) else 0) else 1) : Int32) = 0 from (if_pos c60_0).trans ((if_neg c71_1).trans (rfl))) (kk _ L)
          · replace c71_1 : (m_link0 w v5 0) = v1 := jd_nen c71_1
            refine j_V.ldL mo8_M mo8_74 rfl (i := 0) (kd := 2) (v := .ref 359) (pcJ := 75) rfl L rfl rfl rfl ?_
            refine j_V.ldL mo8_M mo8_75 rfl (i := 5) (kd := 0) (v := .int v5) (pcJ := 77) rfl L rfl rfl rfl ?_
            refine j_V.one mo8_M mo8_77 (by decide) (pcJ := 78) (stJ := [.int 1, .int v5, .ref 359]) rfl ?_
            refine j_V.cl mo8_M mo8_78 rfl (md := 3) (mj := 224) rfl (by decide) mb9_M (As := [.ref 359, .int v5, .int 1]) (rest := []) (jk_spl3 (K.at rfl) rfl rfl rfl (Nat.le_of_ble_eq_true rfl) (Nat.le_of_ble_eq_true rfl)) (fun d => mb9_ok (u := fun j => [.int th, .ref 360, .ref 361, .ref 362, .ref 363, .ref 364, .ref 365, .ref 366, .ref 367, (u 9), .int sst, (u 11), (u 12), .int acs, (u 14), (u 15), (u 16), (u 17), (u 18), (u 19), (u 20), (u 21), .ref 368, (u 23), .ref 369, .ref 370, .ref 371, (u 27)].getD j .null) (K.fi [359, 360] rfl rfl)) ?_
            rintro r hz ⟨rfl, ez⟩
            rw [ez]
            clear ez
            show j_V jP _ 289 81 lv [.int (m_link0 w v5 1)] h _
            refine j_V.ldL mo8_M mo8_81 rfl (i := 2) (kd := 0) (v := .int v2) (pcJ := 82) rfl L rfl rfl rfl ?_
            refine j_V.icmp mo8_M mo8_82 (t := 100) rfl (fun c82_2 => ?_) (fun c82_2 => ?_)
            · replace c82_2 : ¬ ((m_link0 w v5 1) = v2) := jd_ne c82_2
              refine j_V.one mo8_M mo8_100 (by decide) (pcJ := 101) (stJ := [.int 0]) rfl ?_
              exact Eq.subst (motive := fun z => j_V jP _ 289 101 _ (.int z :: []) h Q) (show ((if v4 = 0 then (if (m_link0 w v5 0) = v1 then (if (m_link0 w v5 1) = v2 then (if (m_link0 w v5 2) = v3 then 1 else 0) else 0) else 0) else 1) : Int32) = 0 from (if_pos c60_0).trans ((if_pos c71_1).trans ((if_neg c82_2).trans (rfl)))) (kk _ L)
            · replace c82_2 : (m_link0 w v5 1) = v2 := jd_nen c82_2
              refine j_V.ldL mo8_M mo8_85 rfl (i := 0) (kd := 2) (v := .ref 359) (pcJ := 86) rfl L rfl rfl rfl ?_
              refine j_V.ldL mo8_M mo8_86 rfl (i := 5) (kd := 0) (v := .int v5) (pcJ := 88) rfl L rfl rfl rfl ?_
              refine j_V.one mo8_M mo8_88 (by decide) (pcJ := 89) (stJ := [.int 2, .int v5, .ref 359]) rfl ?_
              refine j_V.cl mo8_M mo8_89 rfl (md := 3) (mj := 224) rfl (by decide) mb9_M (As := [.ref 359, .int v5, .int 2]) (rest := []) (jk_spl3 (K.at rfl) rfl rfl rfl (Nat.le_of_ble_eq_true rfl) (Nat.le_of_ble_eq_true rfl)) (fun d => mb9_ok (u := fun j => [.int th, .ref 360, .ref 361, .ref 362, .ref 363, .ref 364, .ref 365, .ref 366, .ref 367, (u 9), .int sst, (u 11), (u 12), .int acs, (u 14), (u 15), (u 16), (u 17), (u 18), (u 19), (u 20), (u 21), .ref 368, (u 23), .ref 369, .ref 370, .ref 371, (u 27)].getD j .null) (K.fi [359, 360] rfl rfl)) ?_
              rintro r hz ⟨rfl, ez⟩
              rw [ez]
              clear ez
              show j_V jP _ 289 92 lv [.int (m_link0 w v5 2)] h _
              refine j_V.ldL mo8_M mo8_92 rfl (i := 3) (kd := 0) (v := .int v3) (pcJ := 93) rfl L rfl rfl rfl ?_
              refine j_V.icmp mo8_M mo8_93 (t := 100) rfl (fun c93_3 => ?_) (fun c93_3 => ?_)
              · replace c93_3 : ¬ ((m_link0 w v5 2) = v3) := jd_ne c93_3
                refine j_V.one mo8_M mo8_100 (by decide) (pcJ := 101) (stJ := [.int 0]) rfl ?_
                exact Eq.subst (motive := fun z => j_V jP _ 289 101 _ (.int z :: []) h Q) (show ((if v4 = 0 then (if (m_link0 w v5 0) = v1 then (if (m_link0 w v5 1) = v2 then (if (m_link0 w v5 2) = v3 then 1 else 0) else 0) else 0) else 1) : Int32) = 0 from (if_pos c60_0).trans ((if_pos c71_1).trans ((if_pos c82_2).trans ((if_neg c93_3).trans (rfl))))) (kk _ L)
              · replace c93_3 : (m_link0 w v5 2) = v3 := jd_nen c93_3
                refine j_V.one mo8_M mo8_96 (by decide) (pcJ := 97) (stJ := [.int 1]) rfl ?_
                refine j_V.gto mo8_M mo8_97 (t := 101) rfl ?_
                exact Eq.subst (motive := fun z => j_V jP _ 289 101 _ (.int z :: []) h Q) (show ((if v4 = 0 then (if (m_link0 w v5 0) = v1 then (if (m_link0 w v5 1) = v2 then (if (m_link0 w v5 2) = v3 then 1 else 0) else 0) else 0) else 1) : Int32) = 1 from (if_pos c60_0).trans ((if_pos c71_1).trans ((if_pos c82_2).trans ((if_pos c93_3).trans (rfl))))) (kk _ L)
      refine j_V.stL mo8_M mo8_101 rfl (i := 4) (kd := 0) (kl' := [(0, .ref 359), (1, .int v1), (2, .int v2), (3, .int v3), (4, .int ((if v4 = 0 then (if (m_link0 w v5 0) = v1 then (if (m_link0 w v5 1) = v2 then (if (m_link0 w v5 2) = v3 then 1 else 0) else 0) else 0) else 1) : Int32)), (5, .int v5)]) (pcJ := 103) rfl L rfl (by decide) rfl rfl rfl (fun lv L => ?_)
      refine j_V.inL mo8_M mo8_103 (i := 5) (kl' := [(0, .ref 359), (1, .int v1), (2, .int v2), (3, .int v3), (4, .int ((if v4 = 0 then (if (m_link0 w v5 0) = v1 then (if (m_link0 w v5 1) = v2 then (if (m_link0 w v5 2) = v3 then 1 else 0) else 0) else 0) else 1) : Int32)), (5, .int (v5 + 1))]) (pcJ := 106) L rfl rfl rfl rfl (fun lv L => ?_)
      refine j_V.gto mo8_M mo8_106 (t := 45) rfl ?_
      rw [show (m_link_l45 v1 v2 v3 (f + 1) v5 v4 th sst acs kp w) = _ from (rfl)]
      exact ih _ _ _ _ _ _ _ (lpN_n e) L K
def m_link (th : Int32) (sst : Int32) (acs : Int32) (w : List Int32) (kp : List Int32) (x1 : Int32) (x2 : Int32) (x3 : Int32) : Int32 × Int32 × Int32 × Int32 × List Int32 × List Int32 := (if (m_isTrain w x1) = 0 then let z5 := (m_refuse th sst 2); ((z5.1), (z5.2.1), (z5.2.2), acs, kp, w) else (if (m_isTrain w x3) = 0 then let z6 := (m_refuse th sst 2); ((z6.1), (z6.2.1), (z6.2.2), acs, kp, w) else (if (m_isStation w x2) = 0 then let z7 := (m_refuse th sst 2); ((z7.1), (z7.2.1), (z7.2.2), acs, kp, w) else (m_link_l45 x1 x2 x3 (lpN (gA w 296) 0) 0 ((if x1 = x3 then 1 else 0) : Int32) th sst acs kp w))))
set_option maxRecDepth 1000000 in
theorem mo8_ok {u : Nat → Value} {th : Int32} {sst : Int32} {acs : Int32} {w : List Int32} {kp : List Int32} {x1 x2 x3 : Int32} {d : Nat} {h h0 : J_H} (K : KN h [(359, .inl (10, [.int th, .ref 360, .ref 361, .ref 362, .ref 363, .ref 364, .ref 365, .ref 366, .ref 367, (u 9), .int sst, (u 11), (u 12), .int acs, (u 14), (u 15), (u 16), (u 17), (u 18), (u 19), (u 20), (u 21), .ref 368, (u 23), .ref 369, .ref 370, .ref 371, (u 27)])), (360, .inr (.inl (0, w))), (364, .inr (.inl (0, kp)))] h0) : j_V jP d 289 0 (lv_args 0 [.ref 359, .int x1, .int x2, .int x3]) [] h (fun rv h' => rv = some (.int (m_link th sst acs w kp x1 x2 x3).1) ∧ KN h' [(359, .inl (10, [.int (m_link th sst acs w kp x1 x2 x3).2.1, .ref 360, .ref 361, .ref 362, .ref 363, .ref 364, .ref 365, .ref 366, .ref 367, (u 9), .int (m_link th sst acs w kp x1 x2 x3).2.2.1, (u 11), (u 12), .int (m_link th sst acs w kp x1 x2 x3).2.2.2.1, (u 14), (u 15), (u 16), (u 17), (u 18), (u 19), (u 20), (u 21), .ref 368, (u 23), .ref 369, .ref 370, .ref 371, (u 27)])), (360, .inr (.inl (0, (m_link th sst acs w kp x1 x2 x3).2.2.2.2.2))), (364, .inr (.inl (0, (m_link th sst acs w kp x1 x2 x3).2.2.2.2.1)))] h0) := by
  show j_V jP d 289 0 [(0, .ref 359), (1, .int x1), (2, .int x2), (3, .int x3)] [] h _
  obtain ⟨lv, elv, L⟩ : ∃ lv, lv = [(0, .ref 359), (1, .int x1), (2, .int x2), (3, .int x3)] ∧ LK lv [(0, .ref 359), (1, .int x1), (2, .int x2), (3, .int x3)] := ⟨_, rfl, LK.rf⟩
  rw [← elv]
  clear elv
  refine j_V.ldL mo8_M mo8_0 rfl (i := 0) (kd := 2) (v := .ref 359) (pcJ := 1) rfl L rfl rfl rfl ?_
  refine j_V.ldL mo8_M mo8_1 rfl (i := 1) (kd := 0) (v := .int x1) (pcJ := 2) rfl L rfl rfl rfl ?_
  refine j_V.cl mo8_M mo8_2 rfl (md := 3) (mj := 173) rfl (by decide) md0_M (As := [.ref 359, .int x1]) (rest := []) (jk_spl3 (K.at rfl) rfl rfl rfl (Nat.le_of_ble_eq_true rfl) (Nat.le_of_ble_eq_true rfl)) (fun d => md0_ok (u := fun j => [.int th, .ref 360, .ref 361, .ref 362, .ref 363, .ref 364, .ref 365, .ref 366, .ref 367, (u 9), .int sst, (u 11), (u 12), .int acs, (u 14), (u 15), (u 16), (u 17), (u 18), (u 19), (u 20), (u 21), .ref 368, (u 23), .ref 369, .ref 370, .ref 371, (u 27)].getD j .null) (K.fi [359, 360] rfl rfl)) ?_
  rintro r hz ⟨rfl, ez⟩
  rw [ez]
  clear ez
  show j_V jP _ 289 5 lv [.int (m_isTrain w x1)] h _
  refine j_V.ifc mo8_M mo8_5 (t := 24) rfl (fun c5_0 => ?_) (fun c5_0 => ?_)
  · replace c5_0 : (m_isTrain w x1) = 0 := jd_eq c5_0
    refine j_V.ldL mo8_M mo8_24 rfl (i := 0) (kd := 2) (v := .ref 359) (pcJ := 25) rfl L rfl rfl rfl ?_
    refine j_V.one mo8_M mo8_25 (by decide) (pcJ := 26) (stJ := [.int 2, .ref 359]) rfl ?_
    refine j_V.cl mo8_M mo8_26 rfl (md := 3) (mj := 169) rfl (by decide) mo0_M (As := [.ref 359, .int 2]) (rest := []) (jk_spl3 (K.at rfl) rfl rfl rfl (Nat.le_of_ble_eq_true rfl) (Nat.le_of_ble_eq_true rfl)) (fun d => mo0_ok (K.fi [359] rfl rfl)) ?_
    rintro r h9 ⟨rfl, K9⟩
    generalize ez5 : (m_refuse th sst 2) = z5 at K9 ⊢
    have K : KN h9 [(359, .inl (10, [.int (z5.2.1), .ref 360, .ref 361, .ref 362, .ref 363, .ref 364, .ref 365, .ref 366, .ref 367, (u 9), .int (z5.2.2), (u 11), (u 12), .int acs, (u 14), (u 15), (u 16), (u 17), (u 18), (u 19), (u 20), (u 21), .ref 368, (u 23), .ref 369, .ref 370, .ref 371, (u 27)])), (360, .inr (.inl (0, w))), (364, .inr (.inl (0, kp)))] h0 := K.mg K9 rfl rfl
    clear K9
    show j_V jP _ 289 29 lv [.int (z5.1)] h9 _
    subst ez5
    refine j_V.ri mo8_M mo8_29 ?_
    rw [show (m_link th sst acs w kp x1 x2 x3) = _ from ((if_pos c5_0).trans (rfl))]
    exact ⟨rfl, K⟩
  · replace c5_0 : ¬ ((m_isTrain w x1) = 0) := jd_eqn c5_0
    refine j_V.ldL mo8_M mo8_8 rfl (i := 0) (kd := 2) (v := .ref 359) (pcJ := 9) rfl L rfl rfl rfl ?_
    refine j_V.ldL mo8_M mo8_9 rfl (i := 3) (kd := 0) (v := .int x3) (pcJ := 10) rfl L rfl rfl rfl ?_
    refine j_V.cl mo8_M mo8_10 rfl (md := 3) (mj := 173) rfl (by decide) md0_M (As := [.ref 359, .int x3]) (rest := []) (jk_spl3 (K.at rfl) rfl rfl rfl (Nat.le_of_ble_eq_true rfl) (Nat.le_of_ble_eq_true rfl)) (fun d => md0_ok (u := fun j => [.int th, .ref 360, .ref 361, .ref 362, .ref 363, .ref 364, .ref 365, .ref 366, .ref 367, (u 9), .int sst, (u 11), (u 12), .int acs, (u 14), (u 15), (u 16), (u 17), (u 18), (u 19), (u 20), (u 21), .ref 368, (u 23), .ref 369, .ref 370, .ref 371, (u 27)].getD j .null) (K.fi [359, 360] rfl rfl)) ?_
    rintro r hz ⟨rfl, ez⟩
    rw [ez]
    clear ez
    show j_V jP _ 289 13 lv [.int (m_isTrain w x3)] h _
    refine j_V.ifc mo8_M mo8_13 (t := 24) rfl (fun c13_1 => ?_) (fun c13_1 => ?_)
    · replace c13_1 : (m_isTrain w x3) = 0 := jd_eq c13_1
      refine j_V.ldL mo8_M mo8_24 rfl (i := 0) (kd := 2) (v := .ref 359) (pcJ := 25) rfl L rfl rfl rfl ?_
      refine j_V.one mo8_M mo8_25 (by decide) (pcJ := 26) (stJ := [.int 2, .ref 359]) rfl ?_
      refine j_V.cl mo8_M mo8_26 rfl (md := 3) (mj := 169) rfl (by decide) mo0_M (As := [.ref 359, .int 2]) (rest := []) (jk_spl3 (K.at rfl) rfl rfl rfl (Nat.le_of_ble_eq_true rfl) (Nat.le_of_ble_eq_true rfl)) (fun d => mo0_ok (K.fi [359] rfl rfl)) ?_
      rintro r h9 ⟨rfl, K9⟩
      generalize ez6 : (m_refuse th sst 2) = z6 at K9 ⊢
      have K : KN h9 [(359, .inl (10, [.int (z6.2.1), .ref 360, .ref 361, .ref 362, .ref 363, .ref 364, .ref 365, .ref 366, .ref 367, (u 9), .int (z6.2.2), (u 11), (u 12), .int acs, (u 14), (u 15), (u 16), (u 17), (u 18), (u 19), (u 20), (u 21), .ref 368, (u 23), .ref 369, .ref 370, .ref 371, (u 27)])), (360, .inr (.inl (0, w))), (364, .inr (.inl (0, kp)))] h0 := K.mg K9 rfl rfl
      clear K9
      show j_V jP _ 289 29 lv [.int (z6.1)] h9 _
      subst ez6
      refine j_V.ri mo8_M mo8_29 ?_
      rw [show (m_link th sst acs w kp x1 x2 x3) = _ from ((if_neg c5_0).trans ((if_pos c13_1).trans (rfl)))]
      exact ⟨rfl, K⟩
    · replace c13_1 : ¬ ((m_isTrain w x3) = 0) := jd_eqn c13_1
      refine j_V.ldL mo8_M mo8_16 rfl (i := 0) (kd := 2) (v := .ref 359) (pcJ := 17) rfl L rfl rfl rfl ?_
      refine j_V.ldL mo8_M mo8_17 rfl (i := 2) (kd := 0) (v := .int x2) (pcJ := 18) rfl L rfl rfl rfl ?_
      refine j_V.cl mo8_M mo8_18 rfl (md := 3) (mj := 172) rfl (by decide) mc9_M (As := [.ref 359, .int x2]) (rest := []) (jk_spl3 (K.at rfl) rfl rfl rfl (Nat.le_of_ble_eq_true rfl) (Nat.le_of_ble_eq_true rfl)) (fun d => mc9_ok (u := fun j => [.int th, .ref 360, .ref 361, .ref 362, .ref 363, .ref 364, .ref 365, .ref 366, .ref 367, (u 9), .int sst, (u 11), (u 12), .int acs, (u 14), (u 15), (u 16), (u 17), (u 18), (u 19), (u 20), (u 21), .ref 368, (u 23), .ref 369, .ref 370, .ref 371, (u 27)].getD j .null) (K.fi [359, 360] rfl rfl)) ?_
      rintro r hz ⟨rfl, ez⟩
      rw [ez]
      clear ez
      show j_V jP _ 289 21 lv [.int (m_isStation w x2)] h _
      refine j_V.ifc mo8_M mo8_21 (t := 30) rfl (fun c21_2 => ?_) (fun c21_2 => ?_)
      · replace c21_2 : ¬ ((m_isStation w x2) = 0) := jd_ne c21_2
        refine j_V.ldL mo8_M mo8_30 rfl (i := 1) (kd := 0) (v := .int x1) (pcJ := 31) rfl L rfl rfl rfl ?_
        refine j_V.ldL mo8_M mo8_31 rfl (i := 3) (kd := 0) (v := .int x3) (pcJ := 32) rfl L rfl rfl rfl ?_
        refine j_V.cut (b := 40) (stJ := [.int ((if x1 = x3 then 1 else 0) : Int32)]) (fun v => [(0, .ref 359), (1, .int x1), (2, .int x2), (3, .int x3)]) ((if x1 = x3 then 1 else 0) : Int32) (fun Q kk => ?_) (fun lv L => ?_)
        · refine j_V.icmp mo8_M mo8_32 (t := 39) rfl (fun c32_0 => ?_) (fun c32_0 => ?_)
          · replace c32_0 : ¬ (x1 = x3) := jd_ne c32_0
            refine j_V.one mo8_M mo8_39 (by decide) (pcJ := 40) (stJ := [.int 0]) rfl ?_
            exact Eq.subst (motive := fun z => j_V jP _ 289 40 _ (.int z :: []) h Q) (show ((if x1 = x3 then 1 else 0) : Int32) = 0 from (if_neg c32_0).trans (rfl)) (kk _ L)
          · replace c32_0 : x1 = x3 := jd_nen c32_0
            refine j_V.one mo8_M mo8_35 (by decide) (pcJ := 36) (stJ := [.int 1]) rfl ?_
            refine j_V.gto mo8_M mo8_36 (t := 40) rfl ?_
            exact Eq.subst (motive := fun z => j_V jP _ 289 40 _ (.int z :: []) h Q) (show ((if x1 = x3 then 1 else 0) : Int32) = 1 from (if_pos c32_0).trans (rfl)) (kk _ L)
        refine j_V.stL mo8_M mo8_40 rfl (i := 4) (kd := 0) (kl' := [(0, .ref 359), (1, .int x1), (2, .int x2), (3, .int x3), (4, .int ((if x1 = x3 then 1 else 0) : Int32))]) (pcJ := 42) rfl L rfl (by decide) rfl rfl rfl (fun lv L => ?_)
        refine j_V.one mo8_M mo8_42 (by decide) (pcJ := 43) (stJ := [.int 0]) rfl ?_
        refine j_V.stL mo8_M mo8_43 rfl (i := 5) (kd := 0) (kl' := [(0, .ref 359), (1, .int x1), (2, .int x2), (3, .int x3), (4, .int ((if x1 = x3 then 1 else 0) : Int32)), (5, .int 0)]) (pcJ := 45) rfl L rfl (by decide) rfl rfl rfl (fun lv L => ?_)
        rw [show (m_link th sst acs w kp x1 x2 x3) = _ from ((if_neg c5_0).trans ((if_neg c13_1).trans ((if_neg c21_2).trans (rfl))))]
        exact mo8_ok_l45 _ _ _ _ _ _ _ _ rfl L K
      · replace c21_2 : (m_isStation w x2) = 0 := jd_nen c21_2
        refine j_V.ldL mo8_M mo8_24 rfl (i := 0) (kd := 2) (v := .ref 359) (pcJ := 25) rfl L rfl rfl rfl ?_
        refine j_V.one mo8_M mo8_25 (by decide) (pcJ := 26) (stJ := [.int 2, .ref 359]) rfl ?_
        refine j_V.cl mo8_M mo8_26 rfl (md := 3) (mj := 169) rfl (by decide) mo0_M (As := [.ref 359, .int 2]) (rest := []) (jk_spl3 (K.at rfl) rfl rfl rfl (Nat.le_of_ble_eq_true rfl) (Nat.le_of_ble_eq_true rfl)) (fun d => mo0_ok (K.fi [359] rfl rfl)) ?_
        rintro r h9 ⟨rfl, K9⟩
        generalize ez7 : (m_refuse th sst 2) = z7 at K9 ⊢
        have K : KN h9 [(359, .inl (10, [.int (z7.2.1), .ref 360, .ref 361, .ref 362, .ref 363, .ref 364, .ref 365, .ref 366, .ref 367, (u 9), .int (z7.2.2), (u 11), (u 12), .int acs, (u 14), (u 15), (u 16), (u 17), (u 18), (u 19), (u 20), (u 21), .ref 368, (u 23), .ref 369, .ref 370, .ref 371, (u 27)])), (360, .inr (.inl (0, w))), (364, .inr (.inl (0, kp)))] h0 := K.mg K9 rfl rfl
        clear K9
        show j_V jP _ 289 29 lv [.int (z7.1)] h9 _
        subst ez7
        refine j_V.ri mo8_M mo8_29 ?_
        rw [show (m_link th sst acs w kp x1 x2 x3) = _ from ((if_neg c5_0).trans ((if_neg c13_1).trans ((if_pos c21_2).trans (rfl))))]
        exact ⟨rfl, K⟩
set_option maxRecDepth 100000 in
theorem mo9_M : j_meth jP 274 = some (yX10_dropsLink, cX10_dropsLink, 3, none, 1, false, 10) := rfl
set_option maxRecDepth 100000 in
theorem mo9_0 : j_code jP 274 0 = some (.sipush 297) := rfl
set_option maxRecDepth 100000 in
theorem mo9_3 : j_code jP 274 3 = some (.iconst 3) := rfl
set_option maxRecDepth 100000 in
theorem mo9_4 : j_code jP 274 4 = some (.iload_n 1) := rfl
set_option maxRecDepth 100000 in
theorem mo9_5 : j_code jP 274 5 = some (.imul) := rfl
set_option maxRecDepth 100000 in
theorem mo9_6 : j_code jP 274 6 = some (.iadd) := rfl
set_option maxRecDepth 100000 in
theorem mo9_7 : j_code jP 274 7 = some (.istore_n 2) := rfl
set_option maxRecDepth 100000 in
theorem mo9_8 : j_code jP 274 8 = some (.iload_n 2) := rfl
set_option maxRecDepth 100000 in
theorem mo9_9 : j_code jP 274 9 = some (.iconst 3) := rfl
set_option maxRecDepth 100000 in
theorem mo9_10 : j_code jP 274 10 = some (.iadd) := rfl
set_option maxRecDepth 100000 in
theorem mo9_11 : j_code jP 274 11 = some (.sipush 309) := rfl
set_option maxRecDepth 100000 in
theorem mo9_14 : j_code jP 274 14 = some (.if_icmp .ge 23) := rfl
set_option maxRecDepth 100000 in
theorem mo9_17 : j_code jP 274 17 = some (.aload_n 0) := rfl
set_option maxRecDepth 100000 in
theorem mo9_18 : j_code jP 274 18 = some (.getfield 7) := rfl
set_option maxRecDepth 100000 in
theorem mo9_21 : j_code jP 274 21 = some (.iload_n 2) := rfl
set_option maxRecDepth 100000 in
theorem mo9_22 : j_code jP 274 22 = some (.aload_n 0) := rfl
set_option maxRecDepth 100000 in
theorem mo9_23 : j_code jP 274 23 = some (.getfield 7) := rfl
set_option maxRecDepth 100000 in
theorem mo9_26 : j_code jP 274 26 = some (.iload_n 2) := rfl
set_option maxRecDepth 100000 in
theorem mo9_27 : j_code jP 274 27 = some (.iconst 3) := rfl
set_option maxRecDepth 100000 in
theorem mo9_28 : j_code jP 274 28 = some (.iadd) := rfl
set_option maxRecDepth 100000 in
theorem mo9_29 : j_code jP 274 29 = some (.iaload) := rfl
set_option maxRecDepth 100000 in
theorem mo9_30 : j_code jP 274 30 = some (.iastore) := rfl
set_option maxRecDepth 100000 in
theorem mo9_31 : j_code jP 274 31 = some (.iinc 2 1) := rfl
set_option maxRecDepth 100000 in
theorem mo9_34 : j_code jP 274 34 = some (.goto (-26)) := rfl
set_option maxRecDepth 100000 in
theorem mo9_37 : j_code jP 274 37 = some (.aload_n 0) := rfl
set_option maxRecDepth 100000 in
theorem mo9_38 : j_code jP 274 38 = some (.getfield 7) := rfl
set_option maxRecDepth 100000 in
theorem mo9_41 : j_code jP 274 41 = some (.sipush 296) := rfl
set_option maxRecDepth 100000 in
theorem mo9_44 : j_code jP 274 44 = some (.dup2) := rfl
set_option maxRecDepth 100000 in
theorem mo9_45 : j_code jP 274 45 = some (.iaload) := rfl
set_option maxRecDepth 100000 in
theorem mo9_46 : j_code jP 274 46 = some (.iconst 1) := rfl
set_option maxRecDepth 100000 in
theorem mo9_47 : j_code jP 274 47 = some (.isub) := rfl
set_option maxRecDepth 100000 in
theorem mo9_48 : j_code jP 274 48 = some (.iastore) := rfl
set_option maxRecDepth 100000 in
theorem mo9_49 : j_code jP 274 49 = some (.return_) := rfl
def m_dropsLink_l8  (v1 : Int32) : Nat → Int32 → List Int32 → List Int32
  | 0, v2, w => let w1 := (sA w 296 ((gA w 296) - 1)); w1
  | f + 1, v2, w => let w2 := (sA w v2 (gA w (v2 + 3))); (m_dropsLink_l8 v1 f (v2 + 1) w2)
set_option maxRecDepth 1000000 in
theorem mo9_ok_l8 {u : Nat → Value} {th : Int32} {sst : Int32} {acs : Int32} {v1 : Int32} {d : Nat} {h0 : J_H} : ∀ (f : Nat) (v2 : Int32) (w : List Int32) {lv : J_L} {h : J_H}, lpN 309 (v2 + 3) = f → LK lv [(0, .ref 359), (1, .int v1), (2, .int v2)] → KN h [(359, .inl (10, [.int th, .ref 360, .ref 361, .ref 362, .ref 363, .ref 364, .ref 365, .ref 366, .ref 367, (u 9), .int sst, (u 11), (u 12), .int acs, (u 14), (u 15), (u 16), (u 17), (u 18), (u 19), (u 20), (u 21), .ref 368, (u 23), .ref 369, .ref 370, .ref 371, (u 27)])), (360, .inr (.inl (0, w)))] h0 → j_V jP d 274 8 lv [] h (fun rv h' => rv = none ∧ KN h' [(359, .inl (10, [.int th, .ref 360, .ref 361, .ref 362, .ref 363, .ref 364, .ref 365, .ref 366, .ref 367, (u 9), .int sst, (u 11), (u 12), .int acs, (u 14), (u 15), (u 16), (u 17), (u 18), (u 19), (u 20), (u 21), .ref 368, (u 23), .ref 369, .ref 370, .ref 371, (u 27)])), (360, .inr (.inl (0, (m_dropsLink_l8 v1 f v2 w))))] h0) := by
  intro f
  induction f with
  | zero =>
    intro v2 w lv h e L K
    refine j_V.ldL mo9_M mo9_8 rfl (i := 2) (kd := 0) (v := .int v2) (pcJ := 9) rfl L rfl rfl rfl ?_
    refine j_V.one mo9_M mo9_9 (by decide) (pcJ := 10) (stJ := [.int 3, .int v2]) rfl ?_
    refine j_V.one mo9_M mo9_10 (by decide) (pcJ := 11) (stJ := [.int (v2 + 3)]) rfl ?_
    refine j_V.one mo9_M mo9_11 (by decide) (pcJ := 14) (stJ := [.int 309, .int (v2 + 3)]) rfl ?_
    refine j_V.icmp mo9_M mo9_14 (t := 37) rfl (fun c14_0 => ?_) (fun c14_0 => ?_)
    · replace c14_0 : ¬ ((v2 + 3) < 309) := jd_ge c14_0
      refine j_V.ldL mo9_M mo9_37 rfl (i := 0) (kd := 2) (v := .ref 359) (pcJ := 38) rfl L rfl rfl rfl ?_
      refine j_V.getK mo9_M mo9_38 (ci := 10) (j := 1) rfl K rfl rfl ?_
      refine j_V.one mo9_M mo9_41 (by decide) (pcJ := 44) (stJ := [.int 296, .ref 360]) rfl ?_
      refine j_V.one mo9_M mo9_44 (by decide) (pcJ := 45) (stJ := [.int 296, .ref 360, .int 296, .ref 360]) rfl ?_
      refine j_V.iaA mo9_M mo9_45 K rfl ?_
      refine j_V.one mo9_M mo9_46 (by decide) (pcJ := 47) (stJ := [.int 1, .int (gA w 296), .int 296, .ref 360]) rfl ?_
      refine j_V.one mo9_M mo9_47 (by decide) (pcJ := 48) (stJ := [.int ((gA w 296) - 1), .int 296, .ref 360]) rfl ?_
      refine j_V.isA mo9_M mo9_48 (k' := [(359, .inl (10, [.int th, .ref 360, .ref 361, .ref 362, .ref 363, .ref 364, .ref 365, .ref 366, .ref 367, (u 9), .int sst, (u 11), (u 12), .int acs, (u 14), (u 15), (u 16), (u 17), (u 18), (u 19), (u 20), (u 21), .ref 368, (u 23), .ref 369, .ref 370, .ref 371, (u 27)])), (360, .inr (.inl (0, (sA w 296 ((gA w 296) - 1)))))]) K rfl rfl (fun h K => ?_)
      obtain ⟨w1, ew1⟩ : ∃ z, z = (sA w 296 ((gA w 296) - 1)) := ⟨_, rfl⟩
      rw [← ew1] at K
      subst ew1
      refine j_V.ret mo9_M mo9_49 rfl rfl ?_
      rw [show (m_dropsLink_l8 v1 0 v2 w) = _ from (rfl)]
      exact ⟨rfl, K⟩
    · replace c14_0 : (v2 + 3) < 309 := jd_gen c14_0
      exact absurd c14_0 (lpN_z e)
  | succ f ih =>
    intro v2 w lv h e L K
    refine j_V.ldL mo9_M mo9_8 rfl (i := 2) (kd := 0) (v := .int v2) (pcJ := 9) rfl L rfl rfl rfl ?_
    refine j_V.one mo9_M mo9_9 (by decide) (pcJ := 10) (stJ := [.int 3, .int v2]) rfl ?_
    refine j_V.one mo9_M mo9_10 (by decide) (pcJ := 11) (stJ := [.int (v2 + 3)]) rfl ?_
    refine j_V.one mo9_M mo9_11 (by decide) (pcJ := 14) (stJ := [.int 309, .int (v2 + 3)]) rfl ?_
    refine j_V.icmp mo9_M mo9_14 (t := 37) rfl (fun c14_0 => ?_) (fun c14_0 => ?_)
    · replace c14_0 : ¬ ((v2 + 3) < 309) := jd_ge c14_0
      exact absurd (lpN_s e) c14_0
    · replace c14_0 : (v2 + 3) < 309 := jd_gen c14_0
      refine j_V.ldL mo9_M mo9_17 rfl (i := 0) (kd := 2) (v := .ref 359) (pcJ := 18) rfl L rfl rfl rfl ?_
      refine j_V.getK mo9_M mo9_18 (ci := 10) (j := 1) rfl K rfl rfl ?_
      refine j_V.ldL mo9_M mo9_21 rfl (i := 2) (kd := 0) (v := .int v2) (pcJ := 22) rfl L rfl rfl rfl ?_
      refine j_V.ldL mo9_M mo9_22 rfl (i := 0) (kd := 2) (v := .ref 359) (pcJ := 23) rfl L rfl rfl rfl ?_
      refine j_V.getK mo9_M mo9_23 (ci := 10) (j := 1) rfl K rfl rfl ?_
      refine j_V.ldL mo9_M mo9_26 rfl (i := 2) (kd := 0) (v := .int v2) (pcJ := 27) rfl L rfl rfl rfl ?_
      refine j_V.one mo9_M mo9_27 (by decide) (pcJ := 28) (stJ := [.int 3, .int v2, .ref 360, .int v2, .ref 360]) rfl ?_
      refine j_V.one mo9_M mo9_28 (by decide) (pcJ := 29) (stJ := [.int (v2 + 3), .ref 360, .int v2, .ref 360]) rfl ?_
      refine j_V.iaA mo9_M mo9_29 K rfl ?_
      refine j_V.isA mo9_M mo9_30 (k' := [(359, .inl (10, [.int th, .ref 360, .ref 361, .ref 362, .ref 363, .ref 364, .ref 365, .ref 366, .ref 367, (u 9), .int sst, (u 11), (u 12), .int acs, (u 14), (u 15), (u 16), (u 17), (u 18), (u 19), (u 20), (u 21), .ref 368, (u 23), .ref 369, .ref 370, .ref 371, (u 27)])), (360, .inr (.inl (0, (sA w v2 (gA w (v2 + 3))))))]) K rfl rfl (fun h K => ?_)
      obtain ⟨w2, ew2⟩ : ∃ z, z = (sA w v2 (gA w (v2 + 3))) := ⟨_, rfl⟩
      rw [← ew2] at K
      refine j_V.inL mo9_M mo9_31 (i := 2) (kl' := [(0, .ref 359), (1, .int v1), (2, .int (v2 + 1))]) (pcJ := 34) L rfl rfl rfl rfl (fun lv L => ?_)
      refine j_V.gto mo9_M mo9_34 (t := 8) rfl ?_
      subst ew2
      rw [show (m_dropsLink_l8 v1 (f + 1) v2 w) = _ from (rfl)]
      exact ih _ _ (lpN_o e) L K
def m_dropsLink (w : List Int32) (x1 : Int32) : List Int32 := (m_dropsLink_l8 x1 (lpN 309 ((297 + (3 * x1)) + 3)) (297 + (3 * x1)) w)
set_option maxRecDepth 1000000 in
theorem mo9_ok {u : Nat → Value} {th : Int32} {sst : Int32} {acs : Int32} {w : List Int32} {x1 : Int32} {d : Nat} {h h0 : J_H} (K : KN h [(359, .inl (10, [.int th, .ref 360, .ref 361, .ref 362, .ref 363, .ref 364, .ref 365, .ref 366, .ref 367, (u 9), .int sst, (u 11), (u 12), .int acs, (u 14), (u 15), (u 16), (u 17), (u 18), (u 19), (u 20), (u 21), .ref 368, (u 23), .ref 369, .ref 370, .ref 371, (u 27)])), (360, .inr (.inl (0, w)))] h0) : j_V jP d 274 0 (lv_args 0 [.ref 359, .int x1]) [] h (fun rv h' => rv = none ∧ KN h' [(359, .inl (10, [.int th, .ref 360, .ref 361, .ref 362, .ref 363, .ref 364, .ref 365, .ref 366, .ref 367, (u 9), .int sst, (u 11), (u 12), .int acs, (u 14), (u 15), (u 16), (u 17), (u 18), (u 19), (u 20), (u 21), .ref 368, (u 23), .ref 369, .ref 370, .ref 371, (u 27)])), (360, .inr (.inl (0, (m_dropsLink w x1))))] h0) := by
  show j_V jP d 274 0 [(0, .ref 359), (1, .int x1)] [] h _
  obtain ⟨lv, elv, L⟩ : ∃ lv, lv = [(0, .ref 359), (1, .int x1)] ∧ LK lv [(0, .ref 359), (1, .int x1)] := ⟨_, rfl, LK.rf⟩
  rw [← elv]
  clear elv
  refine j_V.one mo9_M mo9_0 (by decide) (pcJ := 3) (stJ := [.int 297]) rfl ?_
  refine j_V.one mo9_M mo9_3 (by decide) (pcJ := 4) (stJ := [.int 3, .int 297]) rfl ?_
  refine j_V.ldL mo9_M mo9_4 rfl (i := 1) (kd := 0) (v := .int x1) (pcJ := 5) rfl L rfl rfl rfl ?_
  refine j_V.one mo9_M mo9_5 (by decide) (pcJ := 6) (stJ := [.int (3 * x1), .int 297]) rfl ?_
  refine j_V.one mo9_M mo9_6 (by decide) (pcJ := 7) (stJ := [.int (297 + (3 * x1))]) rfl ?_
  refine j_V.stL mo9_M mo9_7 rfl (i := 2) (kd := 0) (kl' := [(0, .ref 359), (1, .int x1), (2, .int (297 + (3 * x1)))]) (pcJ := 8) rfl L rfl (by decide) rfl rfl rfl (fun lv L => ?_)
  rw [show (m_dropsLink w x1) = _ from (rfl)]
  exact mo9_ok_l8 _ _ _ rfl L K
set_option maxRecDepth 100000 in
theorem mp0_M : j_meth jP 290 = some (yX10_cut, cX10_cut, 2, (some .int), 1, false, 10) := rfl
set_option maxRecDepth 100000 in
theorem mp0_0 : j_code jP 290 0 = some (.iload_n 1) := rfl
set_option maxRecDepth 100000 in
theorem mp0_1 : j_code jP 290 1 = some (.ifCond .ge 9) := rfl
set_option maxRecDepth 100000 in
theorem mp0_4 : j_code jP 290 4 = some (.aload_n 0) := rfl
set_option maxRecDepth 100000 in
theorem mp0_5 : j_code jP 290 5 = some (.iconst 1) := rfl
set_option maxRecDepth 100000 in
theorem mp0_6 : j_code jP 290 6 = some (.invokevirtual 179) := rfl
set_option maxRecDepth 100000 in
theorem mp0_9 : j_code jP 290 9 = some (.ireturn) := rfl
set_option maxRecDepth 100000 in
theorem mp0_10 : j_code jP 290 10 = some (.iload_n 1) := rfl
set_option maxRecDepth 100000 in
theorem mp0_11 : j_code jP 290 11 = some (.aload_n 0) := rfl
set_option maxRecDepth 100000 in
theorem mp0_12 : j_code jP 290 12 = some (.getfield 7) := rfl
set_option maxRecDepth 100000 in
theorem mp0_15 : j_code jP 290 15 = some (.sipush 296) := rfl
set_option maxRecDepth 100000 in
theorem mp0_18 : j_code jP 290 18 = some (.iaload) := rfl
set_option maxRecDepth 100000 in
theorem mp0_19 : j_code jP 290 19 = some (.if_icmp .lt 9) := rfl
set_option maxRecDepth 100000 in
theorem mp0_22 : j_code jP 290 22 = some (.aload_n 0) := rfl
set_option maxRecDepth 100000 in
theorem mp0_23 : j_code jP 290 23 = some (.iconst 5) := rfl
set_option maxRecDepth 100000 in
theorem mp0_24 : j_code jP 290 24 = some (.invokevirtual 179) := rfl
set_option maxRecDepth 100000 in
theorem mp0_27 : j_code jP 290 27 = some (.ireturn) := rfl
set_option maxRecDepth 100000 in
theorem mp0_28 : j_code jP 290 28 = some (.aload_n 0) := rfl
set_option maxRecDepth 100000 in
theorem mp0_29 : j_code jP 290 29 = some (.invokevirtual 362) := rfl
set_option maxRecDepth 100000 in
theorem mp0_32 : j_code jP 290 32 = some (.aload_n 0) := rfl
set_option maxRecDepth 100000 in
theorem mp0_33 : j_code jP 290 33 = some (.iload_n 1) := rfl
set_option maxRecDepth 100000 in
theorem mp0_34 : j_code jP 290 34 = some (.invokevirtual 353) := rfl
set_option maxRecDepth 100000 in
theorem mp0_37 : j_code jP 290 37 = some (.aload_n 0) := rfl
set_option maxRecDepth 100000 in
theorem mp0_38 : j_code jP 290 38 = some (.aload_n 0) := rfl
set_option maxRecDepth 100000 in
theorem mp0_39 : j_code jP 290 39 = some (.getfield 7) := rfl
set_option maxRecDepth 100000 in
theorem mp0_42 : j_code jP 290 42 = some (.sipush 296) := rfl
set_option maxRecDepth 100000 in
theorem mp0_45 : j_code jP 290 45 = some (.iaload) := rfl
set_option maxRecDepth 100000 in
theorem mp0_46 : j_code jP 290 46 = some (.invokevirtual 195) := rfl
set_option maxRecDepth 100000 in
theorem mp0_49 : j_code jP 290 49 = some (.ireturn) := rfl
def m_cut (th : Int32) (sst : Int32) (acs : Int32) (w : List Int32) (kp : List Int32) (x1 : Int32) : Int32 × Int32 × Int32 × Int32 × List Int32 × List Int32 := (if x1 < 0 then let z5 := (m_refuse th sst 1); ((z5.1), (z5.2.1), (z5.2.2), acs, kp, w) else (if x1 < (gA w 296) then let z1 := (m_keeps acs w kp); let z2 := (m_dropsLink w x1); let z3 := (m_gives th sst (gA (z2) 296)); ((z3.1), (z3.2.1), (z3.2.2), (z1.2), (z1.1), (z2)) else let z4 := (m_refuse th sst 5); ((z4.1), (z4.2.1), (z4.2.2), acs, kp, w)))
set_option maxRecDepth 1000000 in
theorem mp0_ok {u : Nat → Value} {th : Int32} {sst : Int32} {acs : Int32} {w : List Int32} {kp : List Int32} {x1 : Int32} {d : Nat} {h h0 : J_H} (K : KN h [(359, .inl (10, [.int th, .ref 360, .ref 361, .ref 362, .ref 363, .ref 364, .ref 365, .ref 366, .ref 367, (u 9), .int sst, (u 11), (u 12), .int acs, (u 14), (u 15), (u 16), (u 17), (u 18), (u 19), (u 20), (u 21), .ref 368, (u 23), .ref 369, .ref 370, .ref 371, (u 27)])), (360, .inr (.inl (0, w))), (364, .inr (.inl (0, kp)))] h0) : j_V jP d 290 0 (lv_args 0 [.ref 359, .int x1]) [] h (fun rv h' => rv = some (.int (m_cut th sst acs w kp x1).1) ∧ KN h' [(359, .inl (10, [.int (m_cut th sst acs w kp x1).2.1, .ref 360, .ref 361, .ref 362, .ref 363, .ref 364, .ref 365, .ref 366, .ref 367, (u 9), .int (m_cut th sst acs w kp x1).2.2.1, (u 11), (u 12), .int (m_cut th sst acs w kp x1).2.2.2.1, (u 14), (u 15), (u 16), (u 17), (u 18), (u 19), (u 20), (u 21), .ref 368, (u 23), .ref 369, .ref 370, .ref 371, (u 27)])), (360, .inr (.inl (0, (m_cut th sst acs w kp x1).2.2.2.2.2))), (364, .inr (.inl (0, (m_cut th sst acs w kp x1).2.2.2.2.1)))] h0) := by
  show j_V jP d 290 0 [(0, .ref 359), (1, .int x1)] [] h _
  obtain ⟨lv, elv, L⟩ : ∃ lv, lv = [(0, .ref 359), (1, .int x1)] ∧ LK lv [(0, .ref 359), (1, .int x1)] := ⟨_, rfl, LK.rf⟩
  rw [← elv]
  clear elv
  refine j_V.ldL mp0_M mp0_0 rfl (i := 1) (kd := 0) (v := .int x1) (pcJ := 1) rfl L rfl rfl rfl ?_
  refine j_V.ifc mp0_M mp0_1 (t := 10) rfl (fun c1_0 => ?_) (fun c1_0 => ?_)
  · replace c1_0 : ¬ (x1 < 0) := jd_ge c1_0
    refine j_V.ldL mp0_M mp0_10 rfl (i := 1) (kd := 0) (v := .int x1) (pcJ := 11) rfl L rfl rfl rfl ?_
    refine j_V.ldL mp0_M mp0_11 rfl (i := 0) (kd := 2) (v := .ref 359) (pcJ := 12) rfl L rfl rfl rfl ?_
    refine j_V.getK mp0_M mp0_12 (ci := 10) (j := 1) rfl K rfl rfl ?_
    refine j_V.one mp0_M mp0_15 (by decide) (pcJ := 18) (stJ := [.int 296, .ref 360, .int x1]) rfl ?_
    refine j_V.iaA mp0_M mp0_18 K rfl ?_
    refine j_V.icmp mp0_M mp0_19 (t := 28) rfl (fun c19_1 => ?_) (fun c19_1 => ?_)
    · replace c19_1 : x1 < (gA w 296) := jd_lt c19_1
      refine j_V.ldL mp0_M mp0_28 rfl (i := 0) (kd := 2) (v := .ref 359) (pcJ := 29) rfl L rfl rfl rfl ?_
      refine j_V.cl mp0_M mp0_29 rfl (md := 3) (mj := 281) rfl (by decide) mo2_M (As := [.ref 359]) (rest := []) (jk_spl3 (K.at rfl) rfl rfl rfl (Nat.le_of_ble_eq_true rfl) (Nat.le_of_ble_eq_true rfl)) (fun d => mo2_ok (K.fi [359, 360, 364] rfl rfl)) ?_
      rintro r h9 ⟨rfl, K9⟩
      generalize ez1 : (m_keeps acs w kp) = z1 at K9 ⊢
      have K : KN h9 [(359, .inl (10, [.int th, .ref 360, .ref 361, .ref 362, .ref 363, .ref 364, .ref 365, .ref 366, .ref 367, (u 9), .int sst, (u 11), (u 12), .int (z1.2), (u 14), (u 15), (u 16), (u 17), (u 18), (u 19), (u 20), (u 21), .ref 368, (u 23), .ref 369, .ref 370, .ref 371, (u 27)])), (360, .inr (.inl (0, w))), (364, .inr (.inl (0, (z1.1))))] h0 := K.mg K9 rfl rfl
      clear K9
      show j_V jP _ 290 32 lv [] h9 _
      refine j_V.ldL mp0_M mp0_32 rfl (i := 0) (kd := 2) (v := .ref 359) (pcJ := 33) rfl L rfl rfl rfl ?_
      refine j_V.ldL mp0_M mp0_33 rfl (i := 1) (kd := 0) (v := .int x1) (pcJ := 34) rfl L rfl rfl rfl ?_
      refine j_V.cl mp0_M mp0_34 rfl (md := 3) (mj := 274) rfl (by decide) mo9_M (As := [.ref 359, .int x1]) (rest := []) (jk_spl3 (K.at rfl) rfl rfl rfl (Nat.le_of_ble_eq_true rfl) (Nat.le_of_ble_eq_true rfl)) (fun d => mo9_ok (K.fi [359, 360] rfl rfl)) ?_
      rintro r h9 ⟨rfl, K9⟩
      generalize ez2 : (m_dropsLink w x1) = z2 at K9 ⊢
      have K : KN h9 [(359, .inl (10, [.int th, .ref 360, .ref 361, .ref 362, .ref 363, .ref 364, .ref 365, .ref 366, .ref 367, (u 9), .int sst, (u 11), (u 12), .int (z1.2), (u 14), (u 15), (u 16), (u 17), (u 18), (u 19), (u 20), (u 21), .ref 368, (u 23), .ref 369, .ref 370, .ref 371, (u 27)])), (360, .inr (.inl (0, (z2)))), (364, .inr (.inl (0, (z1.1))))] h0 := K.mg K9 rfl rfl
      clear K9
      show j_V jP _ 290 37 lv [] h9 _
      refine j_V.ldL mp0_M mp0_37 rfl (i := 0) (kd := 2) (v := .ref 359) (pcJ := 38) rfl L rfl rfl rfl ?_
      refine j_V.ldL mp0_M mp0_38 rfl (i := 0) (kd := 2) (v := .ref 359) (pcJ := 39) rfl L rfl rfl rfl ?_
      refine j_V.getK mp0_M mp0_39 (ci := 10) (j := 1) rfl K rfl rfl ?_
      refine j_V.one mp0_M mp0_42 (by decide) (pcJ := 45) (stJ := [.int 296, .ref 360, .ref 359]) rfl ?_
      refine j_V.iaA mp0_M mp0_45 K rfl ?_
      refine j_V.cl mp0_M mp0_46 rfl (md := 3) (mj := 170) rfl (by decide) mo1_M (As := [.ref 359, .int (gA (z2) 296)]) (rest := []) (jk_spl3 (K.at rfl) rfl rfl rfl (Nat.le_of_ble_eq_true rfl) (Nat.le_of_ble_eq_true rfl)) (fun d => mo1_ok (K.fi [359] rfl rfl)) ?_
      rintro r h9 ⟨rfl, K9⟩
      generalize ez3 : (m_gives th sst (gA (z2) 296)) = z3 at K9 ⊢
      have K : KN h9 [(359, .inl (10, [.int (z3.2.1), .ref 360, .ref 361, .ref 362, .ref 363, .ref 364, .ref 365, .ref 366, .ref 367, (u 9), .int (z3.2.2), (u 11), (u 12), .int (z1.2), (u 14), (u 15), (u 16), (u 17), (u 18), (u 19), (u 20), (u 21), .ref 368, (u 23), .ref 369, .ref 370, .ref 371, (u 27)])), (360, .inr (.inl (0, (z2)))), (364, .inr (.inl (0, (z1.1))))] h0 := K.mg K9 rfl rfl
      clear K9
      show j_V jP _ 290 49 lv [.int (z3.1)] h9 _
      subst ez3
      subst ez2
      subst ez1
      refine j_V.ri mp0_M mp0_49 ?_
      rw [show (m_cut th sst acs w kp x1) = _ from ((if_neg c1_0).trans ((if_pos c19_1).trans (rfl)))]
      exact ⟨rfl, K⟩
    · replace c19_1 : ¬ (x1 < (gA w 296)) := jd_ltn c19_1
      refine j_V.ldL mp0_M mp0_22 rfl (i := 0) (kd := 2) (v := .ref 359) (pcJ := 23) rfl L rfl rfl rfl ?_
      refine j_V.one mp0_M mp0_23 (by decide) (pcJ := 24) (stJ := [.int 5, .ref 359]) rfl ?_
      refine j_V.cl mp0_M mp0_24 rfl (md := 3) (mj := 169) rfl (by decide) mo0_M (As := [.ref 359, .int 5]) (rest := []) (jk_spl3 (K.at rfl) rfl rfl rfl (Nat.le_of_ble_eq_true rfl) (Nat.le_of_ble_eq_true rfl)) (fun d => mo0_ok (K.fi [359] rfl rfl)) ?_
      rintro r h9 ⟨rfl, K9⟩
      generalize ez4 : (m_refuse th sst 5) = z4 at K9 ⊢
      have K : KN h9 [(359, .inl (10, [.int (z4.2.1), .ref 360, .ref 361, .ref 362, .ref 363, .ref 364, .ref 365, .ref 366, .ref 367, (u 9), .int (z4.2.2), (u 11), (u 12), .int acs, (u 14), (u 15), (u 16), (u 17), (u 18), (u 19), (u 20), (u 21), .ref 368, (u 23), .ref 369, .ref 370, .ref 371, (u 27)])), (360, .inr (.inl (0, w))), (364, .inr (.inl (0, kp)))] h0 := K.mg K9 rfl rfl
      clear K9
      show j_V jP _ 290 27 lv [.int (z4.1)] h9 _
      subst ez4
      refine j_V.ri mp0_M mp0_27 ?_
      rw [show (m_cut th sst acs w kp x1) = _ from ((if_neg c1_0).trans ((if_neg c19_1).trans (rfl)))]
      exact ⟨rfl, K⟩
  · replace c1_0 : x1 < 0 := jd_gen c1_0
    refine j_V.ldL mp0_M mp0_4 rfl (i := 0) (kd := 2) (v := .ref 359) (pcJ := 5) rfl L rfl rfl rfl ?_
    refine j_V.one mp0_M mp0_5 (by decide) (pcJ := 6) (stJ := [.int 1, .ref 359]) rfl ?_
    refine j_V.cl mp0_M mp0_6 rfl (md := 3) (mj := 169) rfl (by decide) mo0_M (As := [.ref 359, .int 1]) (rest := []) (jk_spl3 (K.at rfl) rfl rfl rfl (Nat.le_of_ble_eq_true rfl) (Nat.le_of_ble_eq_true rfl)) (fun d => mo0_ok (K.fi [359] rfl rfl)) ?_
    rintro r h9 ⟨rfl, K9⟩
    generalize ez5 : (m_refuse th sst 1) = z5 at K9 ⊢
    have K : KN h9 [(359, .inl (10, [.int (z5.2.1), .ref 360, .ref 361, .ref 362, .ref 363, .ref 364, .ref 365, .ref 366, .ref 367, (u 9), .int (z5.2.2), (u 11), (u 12), .int acs, (u 14), (u 15), (u 16), (u 17), (u 18), (u 19), (u 20), (u 21), .ref 368, (u 23), .ref 369, .ref 370, .ref 371, (u 27)])), (360, .inr (.inl (0, w))), (364, .inr (.inl (0, kp)))] h0 := K.mg K9 rfl rfl
    clear K9
    show j_V jP _ 290 9 lv [.int (z5.1)] h9 _
    subst ez5
    refine j_V.ri mp0_M mp0_9 ?_
    rw [show (m_cut th sst acs w kp x1) = _ from ((if_pos c1_0).trans (rfl))]
    exact ⟨rfl, K⟩

/-! the reference's queries, as far as they are of one piece, by wip/px/gen_m8.py -/
set_option maxRecDepth 100000 in
theorem mp1_M : j_meth jP 168 = some (yX10_status, cX10_status, 1, (some .int), 0, false, 10) := rfl
set_option maxRecDepth 100000 in
theorem mp1_0 : j_code jP 168 0 = some (.aload_n 0) := rfl
set_option maxRecDepth 100000 in
theorem mp1_1 : j_code jP 168 1 = some (.iconst 0) := rfl
set_option maxRecDepth 100000 in
theorem mp1_2 : j_code jP 168 2 = some (.putfield 55) := rfl
set_option maxRecDepth 100000 in
theorem mp1_5 : j_code jP 168 5 = some (.aload_n 0) := rfl
set_option maxRecDepth 100000 in
theorem mp1_6 : j_code jP 168 6 = some (.getfield 58) := rfl
set_option maxRecDepth 100000 in
theorem mp1_9 : j_code jP 168 9 = some (.ireturn) := rfl
def m_status (sst : Int32) (th : Int32) : Int32 × Int32 := (sst, 0)
set_option maxRecDepth 1000000 in
theorem mp1_ok {u : Nat → Value} {th : Int32} {sst : Int32} {acs : Int32} {d : Nat} {h h0 : J_H} (K : KN h [(359, .inl (10, [.int th, .ref 360, .ref 361, .ref 362, .ref 363, .ref 364, .ref 365, .ref 366, .ref 367, (u 9), .int sst, (u 11), (u 12), .int acs, (u 14), (u 15), (u 16), (u 17), (u 18), (u 19), (u 20), (u 21), .ref 368, (u 23), .ref 369, .ref 370, .ref 371, (u 27)]))] h0) : j_V jP d 168 0 (lv_args 0 [.ref 359]) [] h (fun rv h' => rv = some (.int (m_status sst th).1) ∧ KN h' [(359, .inl (10, [.int (m_status sst th).2, .ref 360, .ref 361, .ref 362, .ref 363, .ref 364, .ref 365, .ref 366, .ref 367, (u 9), .int sst, (u 11), (u 12), .int acs, (u 14), (u 15), (u 16), (u 17), (u 18), (u 19), (u 20), (u 21), .ref 368, (u 23), .ref 369, .ref 370, .ref 371, (u 27)]))] h0) := by
  show j_V jP d 168 0 [(0, .ref 359)] [] h _
  obtain ⟨lv, elv, L⟩ : ∃ lv, lv = [(0, .ref 359)] ∧ LK lv [(0, .ref 359)] := ⟨_, rfl, LK.rf⟩
  rw [← elv]
  clear elv
  refine j_V.ldL mp1_M mp1_0 rfl (i := 0) (kd := 2) (v := .ref 359) (pcJ := 1) rfl L rfl rfl rfl ?_
  refine j_V.one mp1_M mp1_1 (by decide) (pcJ := 2) (stJ := [.int 0, .ref 359]) rfl ?_
  refine j_V.putK mp1_M mp1_2 (ci := 10) (j := 0) (k' := [(359, .inl (10, [.int 0, .ref 360, .ref 361, .ref 362, .ref 363, .ref 364, .ref 365, .ref 366, .ref 367, (u 9), .int sst, (u 11), (u 12), .int acs, (u 14), (u 15), (u 16), (u 17), (u 18), (u 19), (u 20), (u 21), .ref 368, (u 23), .ref 369, .ref 370, .ref 371, (u 27)]))]) rfl K rfl (Nat.le_of_ble_eq_true rfl) rfl (Or.inl rfl) rfl rfl (fun h K => ?_)
  refine j_V.ldL mp1_M mp1_5 rfl (i := 0) (kd := 2) (v := .ref 359) (pcJ := 6) rfl L rfl rfl rfl ?_
  refine j_V.getK mp1_M mp1_6 (ci := 10) (j := 10) rfl K rfl rfl ?_
  refine j_V.ri mp1_M mp1_9 ?_
  rw [show (m_status sst th) = _ from (rfl)]
  exact ⟨rfl, K⟩
set_option maxRecDepth 100000 in
theorem mq0_M : j_meth jP 236 = some (yX10_station, cX10_station, 5, (some .int), 2, false, 10) := rfl
set_option maxRecDepth 100000 in
theorem mq0_0 : j_code jP 236 0 = some (.iload_n 2) := rfl
set_option maxRecDepth 100000 in
theorem mq0_1 : j_code jP 236 1 = some (.iconst 0) := rfl
set_option maxRecDepth 100000 in
theorem mq0_2 : j_code jP 236 2 = some (.iconst 4) := rfl
set_option maxRecDepth 100000 in
theorem mq0_3 : j_code jP 236 3 = some (.invokestatic 61) := rfl
set_option maxRecDepth 100000 in
theorem mq0_6 : j_code jP 236 6 = some (.ifCond .ne 9) := rfl
set_option maxRecDepth 100000 in
theorem mq0_9 : j_code jP 236 9 = some (.aload_n 0) := rfl
set_option maxRecDepth 100000 in
theorem mq0_10 : j_code jP 236 10 = some (.iconst 1) := rfl
set_option maxRecDepth 100000 in
theorem mq0_11 : j_code jP 236 11 = some (.invokevirtual 179) := rfl
set_option maxRecDepth 100000 in
theorem mq0_14 : j_code jP 236 14 = some (.ireturn) := rfl
set_option maxRecDepth 100000 in
theorem mq0_15 : j_code jP 236 15 = some (.aload_n 0) := rfl
set_option maxRecDepth 100000 in
theorem mq0_16 : j_code jP 236 16 = some (.iload_n 1) := rfl
set_option maxRecDepth 100000 in
theorem mq0_17 : j_code jP 236 17 = some (.invokevirtual 65) := rfl
set_option maxRecDepth 100000 in
theorem mq0_20 : j_code jP 236 20 = some (.ifCond .ne 9) := rfl
set_option maxRecDepth 100000 in
theorem mq0_23 : j_code jP 236 23 = some (.aload_n 0) := rfl
set_option maxRecDepth 100000 in
theorem mq0_24 : j_code jP 236 24 = some (.iconst 2) := rfl
set_option maxRecDepth 100000 in
theorem mq0_25 : j_code jP 236 25 = some (.invokevirtual 179) := rfl
set_option maxRecDepth 100000 in
theorem mq0_28 : j_code jP 236 28 = some (.ireturn) := rfl
set_option maxRecDepth 100000 in
theorem mq0_29 : j_code jP 236 29 = some (.iconst 0) := rfl
set_option maxRecDepth 100000 in
theorem mq0_30 : j_code jP 236 30 = some (.istore_n 3) := rfl
set_option maxRecDepth 100000 in
theorem mq0_31 : j_code jP 236 31 = some (.iload_n 2) := rfl
set_option maxRecDepth 100000 in
theorem mq0_32 : j_code jP 236 32 = some (.tableswitch 124 0 3 #[32, 43, 54, 64]) := rfl
set_option maxRecDepth 100000 in
theorem mq0_64 : j_code jP 236 64 = some (.aload_n 0) := rfl
set_option maxRecDepth 100000 in
theorem mq0_65 : j_code jP 236 65 = some (.aload_n 0) := rfl
set_option maxRecDepth 100000 in
theorem mq0_66 : j_code jP 236 66 = some (.iload_n 1) := rfl
set_option maxRecDepth 100000 in
theorem mq0_67 : j_code jP 236 67 = some (.iconst 0) := rfl
set_option maxRecDepth 100000 in
theorem mq0_68 : j_code jP 236 68 = some (.invokevirtual 69) := rfl
set_option maxRecDepth 100000 in
theorem mq0_71 : j_code jP 236 71 = some (.invokevirtual 195) := rfl
set_option maxRecDepth 100000 in
theorem mq0_74 : j_code jP 236 74 = some (.ireturn) := rfl
set_option maxRecDepth 100000 in
theorem mq0_75 : j_code jP 236 75 = some (.aload_n 0) := rfl
set_option maxRecDepth 100000 in
theorem mq0_76 : j_code jP 236 76 = some (.aload_n 0) := rfl
set_option maxRecDepth 100000 in
theorem mq0_77 : j_code jP 236 77 = some (.iload_n 1) := rfl
set_option maxRecDepth 100000 in
theorem mq0_78 : j_code jP 236 78 = some (.iconst 1) := rfl
set_option maxRecDepth 100000 in
theorem mq0_79 : j_code jP 236 79 = some (.invokevirtual 69) := rfl
set_option maxRecDepth 100000 in
theorem mq0_82 : j_code jP 236 82 = some (.invokevirtual 195) := rfl
set_option maxRecDepth 100000 in
theorem mq0_85 : j_code jP 236 85 = some (.ireturn) := rfl
set_option maxRecDepth 100000 in
theorem mq0_86 : j_code jP 236 86 = some (.aload_n 0) := rfl
set_option maxRecDepth 100000 in
theorem mq0_87 : j_code jP 236 87 = some (.aload_n 0) := rfl
set_option maxRecDepth 100000 in
theorem mq0_88 : j_code jP 236 88 = some (.iload_n 1) := rfl
set_option maxRecDepth 100000 in
theorem mq0_89 : j_code jP 236 89 = some (.invokevirtual 304) := rfl
set_option maxRecDepth 100000 in
theorem mq0_92 : j_code jP 236 92 = some (.invokevirtual 195) := rfl
set_option maxRecDepth 100000 in
theorem mq0_95 : j_code jP 236 95 = some (.ireturn) := rfl
set_option maxRecDepth 100000 in
theorem mq0_96 : j_code jP 236 96 = some (.iconst 0) := rfl
set_option maxRecDepth 100000 in
theorem mq0_97 : j_code jP 236 97 = some (.istore 4) := rfl
set_option maxRecDepth 100000 in
theorem mq0_99 : j_code jP 236 99 = some (.iload 4) := rfl
set_option maxRecDepth 100000 in
theorem mq0_101 : j_code jP 236 101 = some (.aload_n 0) := rfl
set_option maxRecDepth 100000 in
theorem mq0_102 : j_code jP 236 102 = some (.getfield 7) := rfl
set_option maxRecDepth 100000 in
theorem mq0_105 : j_code jP 236 105 = some (.sipush 203) := rfl
set_option maxRecDepth 100000 in
theorem mq0_108 : j_code jP 236 108 = some (.iaload) := rfl
set_option maxRecDepth 100000 in
theorem mq0_109 : j_code jP 236 109 = some (.if_icmp .ge 41) := rfl
set_option maxRecDepth 100000 in
theorem mq0_112 : j_code jP 236 112 = some (.iload_n 3) := rfl
set_option maxRecDepth 100000 in
theorem mq0_113 : j_code jP 236 113 = some (.aload_n 0) := rfl
set_option maxRecDepth 100000 in
theorem mq0_114 : j_code jP 236 114 = some (.iload 4) := rfl
set_option maxRecDepth 100000 in
theorem mq0_116 : j_code jP 236 116 = some (.bipush 6) := rfl
set_option maxRecDepth 100000 in
theorem mq0_118 : j_code jP 236 118 = some (.invokevirtual 198) := rfl
set_option maxRecDepth 100000 in
theorem mq0_121 : j_code jP 236 121 = some (.iconst 1) := rfl
set_option maxRecDepth 100000 in
theorem mq0_122 : j_code jP 236 122 = some (.if_icmp .ne 19) := rfl
set_option maxRecDepth 100000 in
theorem mq0_125 : j_code jP 236 125 = some (.aload_n 0) := rfl
set_option maxRecDepth 100000 in
theorem mq0_126 : j_code jP 236 126 = some (.iload 4) := rfl
set_option maxRecDepth 100000 in
theorem mq0_128 : j_code jP 236 128 = some (.bipush 7) := rfl
set_option maxRecDepth 100000 in
theorem mq0_130 : j_code jP 236 130 = some (.invokevirtual 198) := rfl
set_option maxRecDepth 100000 in
theorem mq0_133 : j_code jP 236 133 = some (.iload_n 1) := rfl
set_option maxRecDepth 100000 in
theorem mq0_134 : j_code jP 236 134 = some (.if_icmp .ne 7) := rfl
set_option maxRecDepth 100000 in
theorem mq0_137 : j_code jP 236 137 = some (.iconst 1) := rfl
set_option maxRecDepth 100000 in
theorem mq0_138 : j_code jP 236 138 = some (.goto 4) := rfl
set_option maxRecDepth 100000 in
theorem mq0_141 : j_code jP 236 141 = some (.iconst 0) := rfl
set_option maxRecDepth 100000 in
theorem mq0_142 : j_code jP 236 142 = some (.iadd) := rfl
set_option maxRecDepth 100000 in
theorem mq0_143 : j_code jP 236 143 = some (.istore_n 3) := rfl
set_option maxRecDepth 100000 in
theorem mq0_144 : j_code jP 236 144 = some (.iinc 4 1) := rfl
set_option maxRecDepth 100000 in
theorem mq0_147 : j_code jP 236 147 = some (.goto (-48)) := rfl
set_option maxRecDepth 100000 in
theorem mq0_150 : j_code jP 236 150 = some (.aload_n 0) := rfl
set_option maxRecDepth 100000 in
theorem mq0_151 : j_code jP 236 151 = some (.iload_n 3) := rfl
set_option maxRecDepth 100000 in
theorem mq0_152 : j_code jP 236 152 = some (.invokevirtual 195) := rfl
set_option maxRecDepth 100000 in
theorem mq0_155 : j_code jP 236 155 = some (.ireturn) := rfl
set_option maxRecDepth 100000 in
theorem mq0_156 : j_code jP 236 156 = some (.iconst 0) := rfl
set_option maxRecDepth 100000 in
theorem mq0_157 : j_code jP 236 157 = some (.istore 4) := rfl
set_option maxRecDepth 100000 in
theorem mq0_159 : j_code jP 236 159 = some (.iload 4) := rfl
set_option maxRecDepth 100000 in
theorem mq0_161 : j_code jP 236 161 = some (.aload_n 0) := rfl
set_option maxRecDepth 100000 in
theorem mq0_162 : j_code jP 236 162 = some (.iload_n 1) := rfl
set_option maxRecDepth 100000 in
theorem mq0_163 : j_code jP 236 163 = some (.iconst 1) := rfl
set_option maxRecDepth 100000 in
theorem mq0_164 : j_code jP 236 164 = some (.invokevirtual 69) := rfl
set_option maxRecDepth 100000 in
theorem mq0_167 : j_code jP 236 167 = some (.if_icmp .ge 23) := rfl
set_option maxRecDepth 100000 in
theorem mq0_170 : j_code jP 236 170 = some (.iload_n 3) := rfl
set_option maxRecDepth 100000 in
theorem mq0_171 : j_code jP 236 171 = some (.aload_n 0) := rfl
set_option maxRecDepth 100000 in
theorem mq0_172 : j_code jP 236 172 = some (.iload_n 1) := rfl
set_option maxRecDepth 100000 in
theorem mq0_173 : j_code jP 236 173 = some (.iconst 2) := rfl
set_option maxRecDepth 100000 in
theorem mq0_174 : j_code jP 236 174 = some (.iload 4) := rfl
set_option maxRecDepth 100000 in
theorem mq0_176 : j_code jP 236 176 = some (.iadd) := rfl
set_option maxRecDepth 100000 in
theorem mq0_177 : j_code jP 236 177 = some (.invokevirtual 69) := rfl
set_option maxRecDepth 100000 in
theorem mq0_180 : j_code jP 236 180 = some (.invokestatic 219) := rfl
set_option maxRecDepth 100000 in
theorem mq0_183 : j_code jP 236 183 = some (.istore_n 3) := rfl
set_option maxRecDepth 100000 in
theorem mq0_184 : j_code jP 236 184 = some (.iinc 4 1) := rfl
set_option maxRecDepth 100000 in
theorem mq0_187 : j_code jP 236 187 = some (.goto (-28)) := rfl
set_option maxRecDepth 100000 in
theorem mq0_190 : j_code jP 236 190 = some (.aload_n 0) := rfl
set_option maxRecDepth 100000 in
theorem mq0_191 : j_code jP 236 191 = some (.iload_n 3) := rfl
set_option maxRecDepth 100000 in
theorem mq0_192 : j_code jP 236 192 = some (.invokevirtual 195) := rfl
set_option maxRecDepth 100000 in
theorem mq0_195 : j_code jP 236 195 = some (.ireturn) := rfl
def m_qstation_l159 (w : List Int32) (v1 : Int32) (v2 : Int32) : Nat → Int32 → Int32 → Int32 → Int32 → Int32 × Int32 × Int32
  | 0, v4, v3, th, sst => let z1 := (m_gives th sst v3); ((z1.1), (z1.2.1), (z1.2.2))
  | f + 1, v4, v3, th, sst => (m_qstation_l159 w v1 v2 f (v4 + 1) (iMx v3 (m_st w v1 (2 + v4))) th sst)
set_option maxRecDepth 1000000 in
theorem mq0_ok_l159 {u : Nat → Value} {acs : Int32} {w : List Int32} {v1 v2 : Int32} {d : Nat} {h0 : J_H} : ∀ (f : Nat) (v4 v3 : Int32) (th : Int32) (sst : Int32) {lv : J_L} {h : J_H}, lpN (m_st w v1 1) v4 = f → LK lv [(0, .ref 359), (1, .int v1), (2, .int v2), (3, .int v3), (4, .int v4)] → KN h [(359, .inl (10, [.int th, .ref 360, .ref 361, .ref 362, .ref 363, .ref 364, .ref 365, .ref 366, .ref 367, (u 9), .int sst, (u 11), (u 12), .int acs, (u 14), (u 15), (u 16), (u 17), (u 18), (u 19), (u 20), (u 21), .ref 368, (u 23), .ref 369, .ref 370, .ref 371, (u 27)])), (360, .inr (.inl (0, w)))] h0 → j_V jP d 236 159 lv [] h (fun rv h' => rv = some (.int (m_qstation_l159 w v1 v2 f v4 v3 th sst).1) ∧ KN h' [(359, .inl (10, [.int (m_qstation_l159 w v1 v2 f v4 v3 th sst).2.1, .ref 360, .ref 361, .ref 362, .ref 363, .ref 364, .ref 365, .ref 366, .ref 367, (u 9), .int (m_qstation_l159 w v1 v2 f v4 v3 th sst).2.2, (u 11), (u 12), .int acs, (u 14), (u 15), (u 16), (u 17), (u 18), (u 19), (u 20), (u 21), .ref 368, (u 23), .ref 369, .ref 370, .ref 371, (u 27)])), (360, .inr (.inl (0, w)))] h0) := by
  intro f
  induction f with
  | zero =>
    intro v4 v3 th sst lv h e L K
    refine j_V.ldL mq0_M mq0_159 rfl (i := 4) (kd := 0) (v := .int v4) (pcJ := 161) rfl L rfl rfl rfl ?_
    refine j_V.ldL mq0_M mq0_161 rfl (i := 0) (kd := 2) (v := .ref 359) (pcJ := 162) rfl L rfl rfl rfl ?_
    refine j_V.ldL mq0_M mq0_162 rfl (i := 1) (kd := 0) (v := .int v1) (pcJ := 163) rfl L rfl rfl rfl ?_
    refine j_V.one mq0_M mq0_163 (by decide) (pcJ := 164) (stJ := [.int 1, .int v1, .ref 359, .int v4]) rfl ?_
    refine j_V.cl mq0_M mq0_164 rfl (md := 3) (mj := 176) rfl (by decide) ma1_M (As := [.ref 359, .int v1, .int 1]) (rest := [.int v4]) (jk_spl3 (K.at rfl) rfl rfl rfl (Nat.le_of_ble_eq_true rfl) (Nat.le_of_ble_eq_true rfl)) (fun d => ma1_ok (u := fun j => [.int th, .ref 360, .ref 361, .ref 362, .ref 363, .ref 364, .ref 365, .ref 366, .ref 367, (u 9), .int sst, (u 11), (u 12), .int acs, (u 14), (u 15), (u 16), (u 17), (u 18), (u 19), (u 20), (u 21), .ref 368, (u 23), .ref 369, .ref 370, .ref 371, (u 27)].getD j .null) (K.fi [359, 360] rfl rfl)) ?_
    rintro r hz ⟨rfl, ez⟩
    rw [ez]
    clear ez
    show j_V jP _ 236 167 lv [.int (m_st w v1 1), .int v4] h _
    refine j_V.icmp mq0_M mq0_167 (t := 190) rfl (fun c167_0 => ?_) (fun c167_0 => ?_)
    · replace c167_0 : ¬ (v4 < (m_st w v1 1)) := jd_ge c167_0
      refine j_V.ldL mq0_M mq0_190 rfl (i := 0) (kd := 2) (v := .ref 359) (pcJ := 191) rfl L rfl rfl rfl ?_
      refine j_V.ldL mq0_M mq0_191 rfl (i := 3) (kd := 0) (v := .int v3) (pcJ := 192) rfl L rfl rfl rfl ?_
      refine j_V.cl mq0_M mq0_192 rfl (md := 3) (mj := 170) rfl (by decide) mo1_M (As := [.ref 359, .int v3]) (rest := []) (jk_spl3 (K.at rfl) rfl rfl rfl (Nat.le_of_ble_eq_true rfl) (Nat.le_of_ble_eq_true rfl)) (fun d => mo1_ok (K.fi [359] rfl rfl)) ?_
      rintro r h9 ⟨rfl, K9⟩
      generalize ez1 : (m_gives th sst v3) = z1 at K9 ⊢
      have K : KN h9 [(359, .inl (10, [.int (z1.2.1), .ref 360, .ref 361, .ref 362, .ref 363, .ref 364, .ref 365, .ref 366, .ref 367, (u 9), .int (z1.2.2), (u 11), (u 12), .int acs, (u 14), (u 15), (u 16), (u 17), (u 18), (u 19), (u 20), (u 21), .ref 368, (u 23), .ref 369, .ref 370, .ref 371, (u 27)])), (360, .inr (.inl (0, w)))] h0 := K.mg K9 rfl rfl
      clear K9
      show j_V jP _ 236 195 lv [.int (z1.1)] h9 _
      subst ez1
      refine j_V.ri mq0_M mq0_195 ?_
      rw [show (m_qstation_l159 w v1 v2 0 v4 v3 th sst) = _ from (rfl)]
      exact ⟨rfl, K⟩
    · replace c167_0 : v4 < (m_st w v1 1) := jd_gen c167_0
      exact absurd c167_0 (lpN_z e)
  | succ f ih =>
    intro v4 v3 th sst lv h e L K
    refine j_V.ldL mq0_M mq0_159 rfl (i := 4) (kd := 0) (v := .int v4) (pcJ := 161) rfl L rfl rfl rfl ?_
    refine j_V.ldL mq0_M mq0_161 rfl (i := 0) (kd := 2) (v := .ref 359) (pcJ := 162) rfl L rfl rfl rfl ?_
    refine j_V.ldL mq0_M mq0_162 rfl (i := 1) (kd := 0) (v := .int v1) (pcJ := 163) rfl L rfl rfl rfl ?_
    refine j_V.one mq0_M mq0_163 (by decide) (pcJ := 164) (stJ := [.int 1, .int v1, .ref 359, .int v4]) rfl ?_
    refine j_V.cl mq0_M mq0_164 rfl (md := 3) (mj := 176) rfl (by decide) ma1_M (As := [.ref 359, .int v1, .int 1]) (rest := [.int v4]) (jk_spl3 (K.at rfl) rfl rfl rfl (Nat.le_of_ble_eq_true rfl) (Nat.le_of_ble_eq_true rfl)) (fun d => ma1_ok (u := fun j => [.int th, .ref 360, .ref 361, .ref 362, .ref 363, .ref 364, .ref 365, .ref 366, .ref 367, (u 9), .int sst, (u 11), (u 12), .int acs, (u 14), (u 15), (u 16), (u 17), (u 18), (u 19), (u 20), (u 21), .ref 368, (u 23), .ref 369, .ref 370, .ref 371, (u 27)].getD j .null) (K.fi [359, 360] rfl rfl)) ?_
    rintro r hz ⟨rfl, ez⟩
    rw [ez]
    clear ez
    show j_V jP _ 236 167 lv [.int (m_st w v1 1), .int v4] h _
    refine j_V.icmp mq0_M mq0_167 (t := 190) rfl (fun c167_0 => ?_) (fun c167_0 => ?_)
    · replace c167_0 : ¬ (v4 < (m_st w v1 1)) := jd_ge c167_0
      exact absurd (lpN_s e) c167_0
    · replace c167_0 : v4 < (m_st w v1 1) := jd_gen c167_0
      refine j_V.ldL mq0_M mq0_170 rfl (i := 3) (kd := 0) (v := .int v3) (pcJ := 171) rfl L rfl rfl rfl ?_
      refine j_V.ldL mq0_M mq0_171 rfl (i := 0) (kd := 2) (v := .ref 359) (pcJ := 172) rfl L rfl rfl rfl ?_
      refine j_V.ldL mq0_M mq0_172 rfl (i := 1) (kd := 0) (v := .int v1) (pcJ := 173) rfl L rfl rfl rfl ?_
      refine j_V.one mq0_M mq0_173 (by decide) (pcJ := 174) (stJ := [.int 2, .int v1, .ref 359, .int v3]) rfl ?_
      refine j_V.ldL mq0_M mq0_174 rfl (i := 4) (kd := 0) (v := .int v4) (pcJ := 176) rfl L rfl rfl rfl ?_
      refine j_V.one mq0_M mq0_176 (by decide) (pcJ := 177) (stJ := [.int (2 + v4), .int v1, .ref 359, .int v3]) rfl ?_
      refine j_V.cl mq0_M mq0_177 rfl (md := 3) (mj := 176) rfl (by decide) ma1_M (As := [.ref 359, .int v1, .int (2 + v4)]) (rest := [.int v3]) (jk_spl3 (K.at rfl) rfl rfl rfl (Nat.le_of_ble_eq_true rfl) (Nat.le_of_ble_eq_true rfl)) (fun d => ma1_ok (u := fun j => [.int th, .ref 360, .ref 361, .ref 362, .ref 363, .ref 364, .ref 365, .ref 366, .ref 367, (u 9), .int sst, (u 11), (u 12), .int acs, (u 14), (u 15), (u 16), (u 17), (u 18), (u 19), (u 20), (u 21), .ref 368, (u 23), .ref 369, .ref 370, .ref 371, (u 27)].getD j .null) (K.fi [359, 360] rfl rfl)) ?_
      rintro r hz ⟨rfl, ez⟩
      rw [ez]
      clear ez
      show j_V jP _ 236 180 lv [.int (m_st w v1 (2 + v4)), .int v3] h _
      refine j_V.mx mq0_M mq0_180 rfl rfl (Nat.le_of_ble_eq_true rfl) ?_
      refine j_V.stL mq0_M mq0_183 rfl (i := 3) (kd := 0) (kl' := [(0, .ref 359), (1, .int v1), (2, .int v2), (3, .int (iMx v3 (m_st w v1 (2 + v4)))), (4, .int v4)]) (pcJ := 184) rfl L rfl (by decide) rfl rfl rfl (fun lv L => ?_)
      refine j_V.inL mq0_M mq0_184 (i := 4) (kl' := [(0, .ref 359), (1, .int v1), (2, .int v2), (3, .int (iMx v3 (m_st w v1 (2 + v4)))), (4, .int (v4 + 1))]) (pcJ := 187) L rfl rfl rfl rfl (fun lv L => ?_)
      refine j_V.gto mq0_M mq0_187 (t := 159) rfl ?_
      rw [show (m_qstation_l159 w v1 v2 (f + 1) v4 v3 th sst) = _ from (rfl)]
      exact ih _ _ _ _ (lpN_n e) L K
def m_qstation_l99 (w : List Int32) (v1 : Int32) (v2 : Int32) : Nat → Int32 → Int32 → Int32 → Int32 → Int32 × Int32 × Int32
  | 0, v4, v3, th, sst => let z2 := (m_gives th sst v3); ((z2.1), (z2.2.1), (z2.2.2))
  | f + 1, v4, v3, th, sst => (m_qstation_l99 w v1 v2 f (v4 + 1) (v3 + ((if (m_of w v4 6) = 1 then (if (m_of w v4 7) = v1 then 1 else 0) else 0) : Int32)) th sst)
set_option maxRecDepth 1000000 in
theorem mq0_ok_l99 {u : Nat → Value} {acs : Int32} {w : List Int32} {v1 v2 : Int32} {d : Nat} {h0 : J_H} : ∀ (f : Nat) (v4 v3 : Int32) (th : Int32) (sst : Int32) {lv : J_L} {h : J_H}, lpN (gA w 203) v4 = f → LK lv [(0, .ref 359), (1, .int v1), (2, .int v2), (3, .int v3), (4, .int v4)] → KN h [(359, .inl (10, [.int th, .ref 360, .ref 361, .ref 362, .ref 363, .ref 364, .ref 365, .ref 366, .ref 367, (u 9), .int sst, (u 11), (u 12), .int acs, (u 14), (u 15), (u 16), (u 17), (u 18), (u 19), (u 20), (u 21), .ref 368, (u 23), .ref 369, .ref 370, .ref 371, (u 27)])), (360, .inr (.inl (0, w)))] h0 → j_V jP d 236 99 lv [] h (fun rv h' => rv = some (.int (m_qstation_l99 w v1 v2 f v4 v3 th sst).1) ∧ KN h' [(359, .inl (10, [.int (m_qstation_l99 w v1 v2 f v4 v3 th sst).2.1, .ref 360, .ref 361, .ref 362, .ref 363, .ref 364, .ref 365, .ref 366, .ref 367, (u 9), .int (m_qstation_l99 w v1 v2 f v4 v3 th sst).2.2, (u 11), (u 12), .int acs, (u 14), (u 15), (u 16), (u 17), (u 18), (u 19), (u 20), (u 21), .ref 368, (u 23), .ref 369, .ref 370, .ref 371, (u 27)])), (360, .inr (.inl (0, w)))] h0) := by
  intro f
  induction f with
  | zero =>
    intro v4 v3 th sst lv h e L K
    refine j_V.ldL mq0_M mq0_99 rfl (i := 4) (kd := 0) (v := .int v4) (pcJ := 101) rfl L rfl rfl rfl ?_
    refine j_V.ldL mq0_M mq0_101 rfl (i := 0) (kd := 2) (v := .ref 359) (pcJ := 102) rfl L rfl rfl rfl ?_
    refine j_V.getK mq0_M mq0_102 (ci := 10) (j := 1) rfl K rfl rfl ?_
    refine j_V.one mq0_M mq0_105 (by decide) (pcJ := 108) (stJ := [.int 203, .ref 360, .int v4]) rfl ?_
    refine j_V.iaA mq0_M mq0_108 K rfl ?_
    refine j_V.icmp mq0_M mq0_109 (t := 150) rfl (fun c109_0 => ?_) (fun c109_0 => ?_)
    · replace c109_0 : ¬ (v4 < (gA w 203)) := jd_ge c109_0
      refine j_V.ldL mq0_M mq0_150 rfl (i := 0) (kd := 2) (v := .ref 359) (pcJ := 151) rfl L rfl rfl rfl ?_
      refine j_V.ldL mq0_M mq0_151 rfl (i := 3) (kd := 0) (v := .int v3) (pcJ := 152) rfl L rfl rfl rfl ?_
      refine j_V.cl mq0_M mq0_152 rfl (md := 3) (mj := 170) rfl (by decide) mo1_M (As := [.ref 359, .int v3]) (rest := []) (jk_spl3 (K.at rfl) rfl rfl rfl (Nat.le_of_ble_eq_true rfl) (Nat.le_of_ble_eq_true rfl)) (fun d => mo1_ok (K.fi [359] rfl rfl)) ?_
      rintro r h9 ⟨rfl, K9⟩
      generalize ez2 : (m_gives th sst v3) = z2 at K9 ⊢
      have K : KN h9 [(359, .inl (10, [.int (z2.2.1), .ref 360, .ref 361, .ref 362, .ref 363, .ref 364, .ref 365, .ref 366, .ref 367, (u 9), .int (z2.2.2), (u 11), (u 12), .int acs, (u 14), (u 15), (u 16), (u 17), (u 18), (u 19), (u 20), (u 21), .ref 368, (u 23), .ref 369, .ref 370, .ref 371, (u 27)])), (360, .inr (.inl (0, w)))] h0 := K.mg K9 rfl rfl
      clear K9
      show j_V jP _ 236 155 lv [.int (z2.1)] h9 _
      subst ez2
      refine j_V.ri mq0_M mq0_155 ?_
      rw [show (m_qstation_l99 w v1 v2 0 v4 v3 th sst) = _ from (rfl)]
      exact ⟨rfl, K⟩
    · replace c109_0 : v4 < (gA w 203) := jd_gen c109_0
      exact absurd c109_0 (lpN_z e)
  | succ f ih =>
    intro v4 v3 th sst lv h e L K
    refine j_V.ldL mq0_M mq0_99 rfl (i := 4) (kd := 0) (v := .int v4) (pcJ := 101) rfl L rfl rfl rfl ?_
    refine j_V.ldL mq0_M mq0_101 rfl (i := 0) (kd := 2) (v := .ref 359) (pcJ := 102) rfl L rfl rfl rfl ?_
    refine j_V.getK mq0_M mq0_102 (ci := 10) (j := 1) rfl K rfl rfl ?_
    refine j_V.one mq0_M mq0_105 (by decide) (pcJ := 108) (stJ := [.int 203, .ref 360, .int v4]) rfl ?_
    refine j_V.iaA mq0_M mq0_108 K rfl ?_
    refine j_V.icmp mq0_M mq0_109 (t := 150) rfl (fun c109_0 => ?_) (fun c109_0 => ?_)
    · replace c109_0 : ¬ (v4 < (gA w 203)) := jd_ge c109_0
      exact absurd (lpN_s e) c109_0
    · replace c109_0 : v4 < (gA w 203) := jd_gen c109_0
      refine j_V.ldL mq0_M mq0_112 rfl (i := 3) (kd := 0) (v := .int v3) (pcJ := 113) rfl L rfl rfl rfl ?_
      refine j_V.ldL mq0_M mq0_113 rfl (i := 0) (kd := 2) (v := .ref 359) (pcJ := 114) rfl L rfl rfl rfl ?_
      refine j_V.ldL mq0_M mq0_114 rfl (i := 4) (kd := 0) (v := .int v4) (pcJ := 116) rfl L rfl rfl rfl ?_
      refine j_V.one mq0_M mq0_116 (by decide) (pcJ := 118) (stJ := [.int 6, .int v4, .ref 359, .int v3]) rfl ?_
      refine j_V.cl mq0_M mq0_118 rfl (md := 3) (mj := 178) rfl (by decide) ma3_M (As := [.ref 359, .int v4, .int 6]) (rest := [.int v3]) (jk_spl3 (K.at rfl) rfl rfl rfl (Nat.le_of_ble_eq_true rfl) (Nat.le_of_ble_eq_true rfl)) (fun d => ma3_ok (u := fun j => [.int th, .ref 360, .ref 361, .ref 362, .ref 363, .ref 364, .ref 365, .ref 366, .ref 367, (u 9), .int sst, (u 11), (u 12), .int acs, (u 14), (u 15), (u 16), (u 17), (u 18), (u 19), (u 20), (u 21), .ref 368, (u 23), .ref 369, .ref 370, .ref 371, (u 27)].getD j .null) (K.fi [359, 360] rfl rfl)) ?_
      rintro r hz ⟨rfl, ez⟩
      rw [ez]
      clear ez
      show j_V jP _ 236 121 lv [.int (m_of w v4 6), .int v3] h _
      refine j_V.one mq0_M mq0_121 (by decide) (pcJ := 122) (stJ := [.int 1, .int (m_of w v4 6), .int v3]) rfl ?_
      refine j_V.cut (b := 142) (stJ := [.int ((if (m_of w v4 6) = 1 then (if (m_of w v4 7) = v1 then 1 else 0) else 0) : Int32), .int v3]) (fun v => [(0, .ref 359), (1, .int v1), (2, .int v2), (3, .int v3), (4, .int v4)]) ((if (m_of w v4 6) = 1 then (if (m_of w v4 7) = v1 then 1 else 0) else 0) : Int32) (fun Q kk => ?_) (fun lv L => ?_)
      · refine j_V.icmp mq0_M mq0_122 (t := 141) rfl (fun c122_0 => ?_) (fun c122_0 => ?_)
        · replace c122_0 : ¬ ((m_of w v4 6) = 1) := jd_ne c122_0
          refine j_V.one mq0_M mq0_141 (by decide) (pcJ := 142) (stJ := [.int 0, .int v3]) rfl ?_
          exact Eq.subst (motive := fun z => j_V jP _ 236 142 _ (.int z :: [.int v3]) h Q) (show ((if (m_of w v4 6) = 1 then (if (m_of w v4 7) = v1 then 1 else 0) else 0) : Int32) = 0 from (if_neg c122_0).trans (rfl)) (kk _ L)
        · replace c122_0 : (m_of w v4 6) = 1 := jd_nen c122_0
          refine j_V.ldL mq0_M mq0_125 rfl (i := 0) (kd := 2) (v := .ref 359) (pcJ := 126) rfl L rfl rfl rfl ?_
          refine j_V.ldL mq0_M mq0_126 rfl (i := 4) (kd := 0) (v := .int v4) (pcJ := 128) rfl L rfl rfl rfl ?_
          refine j_V.one mq0_M mq0_128 (by decide) (pcJ := 130) (stJ := [.int 7, .int v4, .ref 359, .int v3]) rfl ?_
          refine j_V.cl mq0_M mq0_130 rfl (md := 3) (mj := 178) rfl (by decide) ma3_M (As := [.ref 359, .int v4, .int 7]) (rest := [.int v3]) (jk_spl3 (K.at rfl) rfl rfl rfl (Nat.le_of_ble_eq_true rfl) (Nat.le_of_ble_eq_true rfl)) (fun d => ma3_ok (u := fun j => [.int th, .ref 360, .ref 361, .ref 362, .ref 363, .ref 364, .ref 365, .ref 366, .ref 367, (u 9), .int sst, (u 11), (u 12), .int acs, (u 14), (u 15), (u 16), (u 17), (u 18), (u 19), (u 20), (u 21), .ref 368, (u 23), .ref 369, .ref 370, .ref 371, (u 27)].getD j .null) (K.fi [359, 360] rfl rfl)) ?_
          rintro r hz ⟨rfl, ez⟩
          rw [ez]
          clear ez
          show j_V jP _ 236 133 lv [.int (m_of w v4 7), .int v3] h _
          refine j_V.ldL mq0_M mq0_133 rfl (i := 1) (kd := 0) (v := .int v1) (pcJ := 134) rfl L rfl rfl rfl ?_
          refine j_V.icmp mq0_M mq0_134 (t := 141) rfl (fun c134_1 => ?_) (fun c134_1 => ?_)
          · replace c134_1 : ¬ ((m_of w v4 7) = v1) := jd_ne c134_1
            refine j_V.one mq0_M mq0_141 (by decide) (pcJ := 142) (stJ := [.int 0, .int v3]) rfl ?_
            exact Eq.subst (motive := fun z => j_V jP _ 236 142 _ (.int z :: [.int v3]) h Q) (show ((if (m_of w v4 6) = 1 then (if (m_of w v4 7) = v1 then 1 else 0) else 0) : Int32) = 0 from (if_pos c122_0).trans ((if_neg c134_1).trans (rfl))) (kk _ L)
          · replace c134_1 : (m_of w v4 7) = v1 := jd_nen c134_1
            refine j_V.one mq0_M mq0_137 (by decide) (pcJ := 138) (stJ := [.int 1, .int v3]) rfl ?_
            refine j_V.gto mq0_M mq0_138 (t := 142) rfl ?_
            exact Eq.subst (motive := fun z => j_V jP _ 236 142 _ (.int z :: [.int v3]) h Q) (show ((if (m_of w v4 6) = 1 then (if (m_of w v4 7) = v1 then 1 else 0) else 0) : Int32) = 1 from (if_pos c122_0).trans ((if_pos c134_1).trans (rfl))) (kk _ L)
      refine j_V.one mq0_M mq0_142 (by decide) (pcJ := 143) (stJ := [.int (v3 + ((if (m_of w v4 6) = 1 then (if (m_of w v4 7) = v1 then 1 else 0) else 0) : Int32))]) rfl ?_
      refine j_V.stL mq0_M mq0_143 rfl (i := 3) (kd := 0) (kl' := [(0, .ref 359), (1, .int v1), (2, .int v2), (3, .int (v3 + ((if (m_of w v4 6) = 1 then (if (m_of w v4 7) = v1 then 1 else 0) else 0) : Int32))), (4, .int v4)]) (pcJ := 144) rfl L rfl (by decide) rfl rfl rfl (fun lv L => ?_)
      refine j_V.inL mq0_M mq0_144 (i := 4) (kl' := [(0, .ref 359), (1, .int v1), (2, .int v2), (3, .int (v3 + ((if (m_of w v4 6) = 1 then (if (m_of w v4 7) = v1 then 1 else 0) else 0) : Int32))), (4, .int (v4 + 1))]) (pcJ := 147) L rfl rfl rfl rfl (fun lv L => ?_)
      refine j_V.gto mq0_M mq0_147 (t := 99) rfl ?_
      rw [show (m_qstation_l99 w v1 v2 (f + 1) v4 v3 th sst) = _ from (rfl)]
      exact ih _ _ _ _ (lpN_n e) L K
def m_qstation (th : Int32) (sst : Int32) (w : List Int32) (x1 : Int32) (x2 : Int32) : Int32 × Int32 × Int32 := (if (m_isFrom x2 0 4) = 0 then let z7 := (m_refuse th sst 1); ((z7.1), (z7.2.1), (z7.2.2)) else (if (m_isStation w x1) = 0 then let z6 := (m_refuse th sst 2); ((z6.1), (z6.2.1), (z6.2.2)) else (if x2 = 0 then let z3 := (m_gives th sst (m_st w x1 0)); ((z3.1), (z3.2.1), (z3.2.2)) else (if x2 = 1 then let z4 := (m_gives th sst (m_st w x1 1)); ((z4.1), (z4.2.1), (z4.2.2)) else (if x2 = 2 then let z5 := (m_gives th sst (m_freeOnes w x1)); ((z5.1), (z5.2.1), (z5.2.2)) else (if x2 = 3 then (m_qstation_l99 w x1 x2 (lpN (gA w 203) 0) 0 0 th sst) else (m_qstation_l159 w x1 x2 (lpN (m_st w x1 1) 0) 0 0 th sst)))))))
set_option maxRecDepth 1000000 in
theorem mq0_ok {u : Nat → Value} {th : Int32} {sst : Int32} {acs : Int32} {w : List Int32} {x1 x2 : Int32} {d : Nat} {h h0 : J_H} (K : KN h [(359, .inl (10, [.int th, .ref 360, .ref 361, .ref 362, .ref 363, .ref 364, .ref 365, .ref 366, .ref 367, (u 9), .int sst, (u 11), (u 12), .int acs, (u 14), (u 15), (u 16), (u 17), (u 18), (u 19), (u 20), (u 21), .ref 368, (u 23), .ref 369, .ref 370, .ref 371, (u 27)])), (360, .inr (.inl (0, w)))] h0) : j_V jP d 236 0 (lv_args 0 [.ref 359, .int x1, .int x2]) [] h (fun rv h' => rv = some (.int (m_qstation th sst w x1 x2).1) ∧ KN h' [(359, .inl (10, [.int (m_qstation th sst w x1 x2).2.1, .ref 360, .ref 361, .ref 362, .ref 363, .ref 364, .ref 365, .ref 366, .ref 367, (u 9), .int (m_qstation th sst w x1 x2).2.2, (u 11), (u 12), .int acs, (u 14), (u 15), (u 16), (u 17), (u 18), (u 19), (u 20), (u 21), .ref 368, (u 23), .ref 369, .ref 370, .ref 371, (u 27)])), (360, .inr (.inl (0, w)))] h0) := by
  show j_V jP d 236 0 [(0, .ref 359), (1, .int x1), (2, .int x2)] [] h _
  obtain ⟨lv, elv, L⟩ : ∃ lv, lv = [(0, .ref 359), (1, .int x1), (2, .int x2)] ∧ LK lv [(0, .ref 359), (1, .int x1), (2, .int x2)] := ⟨_, rfl, LK.rf⟩
  rw [← elv]
  clear elv
  refine j_V.ldL mq0_M mq0_0 rfl (i := 2) (kd := 0) (v := .int x2) (pcJ := 1) rfl L rfl rfl rfl ?_
  refine j_V.one mq0_M mq0_1 (by decide) (pcJ := 2) (stJ := [.int 0, .int x2]) rfl ?_
  refine j_V.one mq0_M mq0_2 (by decide) (pcJ := 3) (stJ := [.int 4, .int 0, .int x2]) rfl ?_
  refine j_V.cl mq0_M mq0_3 rfl (md := 2) (mj := 171) rfl (by decide) ma0_M (As := [.int x2, .int 0, .int 4]) (rest := []) (jk_spl2 rfl rfl (Nat.le_of_ble_eq_true rfl) (Nat.le_of_ble_eq_true rfl)) (fun d => ma0_ok (K.fi [] rfl rfl)) ?_
  rintro r hz ⟨rfl, ez⟩
  rw [ez]
  clear ez
  show j_V jP _ 236 6 lv [.int (m_isFrom x2 0 4)] h _
  refine j_V.ifc mq0_M mq0_6 (t := 15) rfl (fun c6_0 => ?_) (fun c6_0 => ?_)
  · replace c6_0 : ¬ ((m_isFrom x2 0 4) = 0) := jd_ne c6_0
    refine j_V.ldL mq0_M mq0_15 rfl (i := 0) (kd := 2) (v := .ref 359) (pcJ := 16) rfl L rfl rfl rfl ?_
    refine j_V.ldL mq0_M mq0_16 rfl (i := 1) (kd := 0) (v := .int x1) (pcJ := 17) rfl L rfl rfl rfl ?_
    refine j_V.cl mq0_M mq0_17 rfl (md := 3) (mj := 172) rfl (by decide) mc9_M (As := [.ref 359, .int x1]) (rest := []) (jk_spl3 (K.at rfl) rfl rfl rfl (Nat.le_of_ble_eq_true rfl) (Nat.le_of_ble_eq_true rfl)) (fun d => mc9_ok (u := fun j => [.int th, .ref 360, .ref 361, .ref 362, .ref 363, .ref 364, .ref 365, .ref 366, .ref 367, (u 9), .int sst, (u 11), (u 12), .int acs, (u 14), (u 15), (u 16), (u 17), (u 18), (u 19), (u 20), (u 21), .ref 368, (u 23), .ref 369, .ref 370, .ref 371, (u 27)].getD j .null) (K.fi [359, 360] rfl rfl)) ?_
    rintro r hz ⟨rfl, ez⟩
    rw [ez]
    clear ez
    show j_V jP _ 236 20 lv [.int (m_isStation w x1)] h _
    refine j_V.ifc mq0_M mq0_20 (t := 29) rfl (fun c20_1 => ?_) (fun c20_1 => ?_)
    · replace c20_1 : ¬ ((m_isStation w x1) = 0) := jd_ne c20_1
      refine j_V.one mq0_M mq0_29 (by decide) (pcJ := 30) (stJ := [.int 0]) rfl ?_
      refine j_V.stL mq0_M mq0_30 rfl (i := 3) (kd := 0) (kl' := [(0, .ref 359), (1, .int x1), (2, .int x2), (3, .int 0)]) (pcJ := 31) rfl L rfl (by decide) rfl rfl rfl (fun lv L => ?_)
      refine j_V.ldL mq0_M mq0_31 rfl (i := 2) (kd := 0) (v := .int x2) (pcJ := 32) rfl L rfl rfl rfl ?_
      refine j_V.tsw mq0_M mq0_32 (fun t ht hx => ?_) (fun i off t ho ht hx => ?_)
      · obtain rfl : 156 = t := Option.some.inj (show some 156 = some t from ht)
        have s32_0 : ¬ (x2 = 0) := fun z => by rw [z] at hx; revert hx; decide
        have s32_1 : ¬ (x2 = 1) := fun z => by rw [z] at hx; revert hx; decide
        have s32_2 : ¬ (x2 = 2) := fun z => by rw [z] at hx; revert hx; decide
        have s32_3 : ¬ (x2 = 3) := fun z => by rw [z] at hx; revert hx; decide
        refine j_V.one mq0_M mq0_156 (by decide) (pcJ := 157) (stJ := [.int 0]) rfl ?_
        refine j_V.stL mq0_M mq0_157 rfl (i := 4) (kd := 0) (kl' := [(0, .ref 359), (1, .int x1), (2, .int x2), (3, .int 0), (4, .int 0)]) (pcJ := 159) rfl L rfl (by decide) rfl rfl rfl (fun lv L => ?_)
        rw [show (m_qstation th sst w x1 x2) = _ from ((if_neg c6_0).trans ((if_neg c20_1).trans ((if_neg s32_0).trans ((if_neg s32_1).trans ((if_neg s32_2).trans ((if_neg s32_3).trans (rfl)))))))]
        exact mq0_ok_l159 _ _ _ _ _ rfl L K
      · match i, ho, hx with
        | 0, ho, hx =>
          obtain rfl := Option.some.inj (show some (32 : Int) = some off from ho)
          obtain rfl : 64 = t := Option.some.inj (show some 64 = some t from ht)
          have s32_0 : x2 = 0 := Int32.toInt_inj.mp (by rw [hx]; rfl)
          refine j_V.ldL mq0_M mq0_64 rfl (i := 0) (kd := 2) (v := .ref 359) (pcJ := 65) rfl L rfl rfl rfl ?_
          refine j_V.ldL mq0_M mq0_65 rfl (i := 0) (kd := 2) (v := .ref 359) (pcJ := 66) rfl L rfl rfl rfl ?_
          refine j_V.ldL mq0_M mq0_66 rfl (i := 1) (kd := 0) (v := .int x1) (pcJ := 67) rfl L rfl rfl rfl ?_
          refine j_V.one mq0_M mq0_67 (by decide) (pcJ := 68) (stJ := [.int 0, .int x1, .ref 359, .ref 359]) rfl ?_
          refine j_V.cl mq0_M mq0_68 rfl (md := 3) (mj := 176) rfl (by decide) ma1_M (As := [.ref 359, .int x1, .int 0]) (rest := [.ref 359]) (jk_spl3 (K.at rfl) rfl rfl rfl (Nat.le_of_ble_eq_true rfl) (Nat.le_of_ble_eq_true rfl)) (fun d => ma1_ok (u := fun j => [.int th, .ref 360, .ref 361, .ref 362, .ref 363, .ref 364, .ref 365, .ref 366, .ref 367, (u 9), .int sst, (u 11), (u 12), .int acs, (u 14), (u 15), (u 16), (u 17), (u 18), (u 19), (u 20), (u 21), .ref 368, (u 23), .ref 369, .ref 370, .ref 371, (u 27)].getD j .null) (K.fi [359, 360] rfl rfl)) ?_
          rintro r hz ⟨rfl, ez⟩
          rw [ez]
          clear ez
          show j_V jP _ 236 71 lv [.int (m_st w x1 0), .ref 359] h _
          refine j_V.cl mq0_M mq0_71 rfl (md := 3) (mj := 170) rfl (by decide) mo1_M (As := [.ref 359, .int (m_st w x1 0)]) (rest := []) (jk_spl3 (K.at rfl) rfl rfl rfl (Nat.le_of_ble_eq_true rfl) (Nat.le_of_ble_eq_true rfl)) (fun d => mo1_ok (K.fi [359] rfl rfl)) ?_
          rintro r h9 ⟨rfl, K9⟩
          generalize ez3 : (m_gives th sst (m_st w x1 0)) = z3 at K9 ⊢
          have K : KN h9 [(359, .inl (10, [.int (z3.2.1), .ref 360, .ref 361, .ref 362, .ref 363, .ref 364, .ref 365, .ref 366, .ref 367, (u 9), .int (z3.2.2), (u 11), (u 12), .int acs, (u 14), (u 15), (u 16), (u 17), (u 18), (u 19), (u 20), (u 21), .ref 368, (u 23), .ref 369, .ref 370, .ref 371, (u 27)])), (360, .inr (.inl (0, w)))] h0 := K.mg K9 rfl rfl
          clear K9
          show j_V jP _ 236 74 lv [.int (z3.1)] h9 _
          subst ez3
          refine j_V.ri mq0_M mq0_74 ?_
          rw [show (m_qstation th sst w x1 x2) = _ from ((if_neg c6_0).trans ((if_neg c20_1).trans ((if_pos s32_0).trans (rfl))))]
          exact ⟨rfl, K⟩
        | 1, ho, hx =>
          obtain rfl := Option.some.inj (show some (43 : Int) = some off from ho)
          obtain rfl : 75 = t := Option.some.inj (show some 75 = some t from ht)
          have s32_1 : x2 = 1 := Int32.toInt_inj.mp (by rw [hx]; rfl)
          have s32_0 : ¬ (x2 = 0) := fun z => by rw [s32_1] at z; exact absurd z (by decide)
          refine j_V.ldL mq0_M mq0_75 rfl (i := 0) (kd := 2) (v := .ref 359) (pcJ := 76) rfl L rfl rfl rfl ?_
          refine j_V.ldL mq0_M mq0_76 rfl (i := 0) (kd := 2) (v := .ref 359) (pcJ := 77) rfl L rfl rfl rfl ?_
          refine j_V.ldL mq0_M mq0_77 rfl (i := 1) (kd := 0) (v := .int x1) (pcJ := 78) rfl L rfl rfl rfl ?_
          refine j_V.one mq0_M mq0_78 (by decide) (pcJ := 79) (stJ := [.int 1, .int x1, .ref 359, .ref 359]) rfl ?_
          refine j_V.cl mq0_M mq0_79 rfl (md := 3) (mj := 176) rfl (by decide) ma1_M (As := [.ref 359, .int x1, .int 1]) (rest := [.ref 359]) (jk_spl3 (K.at rfl) rfl rfl rfl (Nat.le_of_ble_eq_true rfl) (Nat.le_of_ble_eq_true rfl)) (fun d => ma1_ok (u := fun j => [.int th, .ref 360, .ref 361, .ref 362, .ref 363, .ref 364, .ref 365, .ref 366, .ref 367, (u 9), .int sst, (u 11), (u 12), .int acs, (u 14), (u 15), (u 16), (u 17), (u 18), (u 19), (u 20), (u 21), .ref 368, (u 23), .ref 369, .ref 370, .ref 371, (u 27)].getD j .null) (K.fi [359, 360] rfl rfl)) ?_
          rintro r hz ⟨rfl, ez⟩
          rw [ez]
          clear ez
          show j_V jP _ 236 82 lv [.int (m_st w x1 1), .ref 359] h _
          refine j_V.cl mq0_M mq0_82 rfl (md := 3) (mj := 170) rfl (by decide) mo1_M (As := [.ref 359, .int (m_st w x1 1)]) (rest := []) (jk_spl3 (K.at rfl) rfl rfl rfl (Nat.le_of_ble_eq_true rfl) (Nat.le_of_ble_eq_true rfl)) (fun d => mo1_ok (K.fi [359] rfl rfl)) ?_
          rintro r h9 ⟨rfl, K9⟩
          generalize ez4 : (m_gives th sst (m_st w x1 1)) = z4 at K9 ⊢
          have K : KN h9 [(359, .inl (10, [.int (z4.2.1), .ref 360, .ref 361, .ref 362, .ref 363, .ref 364, .ref 365, .ref 366, .ref 367, (u 9), .int (z4.2.2), (u 11), (u 12), .int acs, (u 14), (u 15), (u 16), (u 17), (u 18), (u 19), (u 20), (u 21), .ref 368, (u 23), .ref 369, .ref 370, .ref 371, (u 27)])), (360, .inr (.inl (0, w)))] h0 := K.mg K9 rfl rfl
          clear K9
          show j_V jP _ 236 85 lv [.int (z4.1)] h9 _
          subst ez4
          refine j_V.ri mq0_M mq0_85 ?_
          rw [show (m_qstation th sst w x1 x2) = _ from ((if_neg c6_0).trans ((if_neg c20_1).trans ((if_neg s32_0).trans ((if_pos s32_1).trans (rfl)))))]
          exact ⟨rfl, K⟩
        | 2, ho, hx =>
          obtain rfl := Option.some.inj (show some (54 : Int) = some off from ho)
          obtain rfl : 86 = t := Option.some.inj (show some 86 = some t from ht)
          have s32_2 : x2 = 2 := Int32.toInt_inj.mp (by rw [hx]; rfl)
          have s32_0 : ¬ (x2 = 0) := fun z => by rw [s32_2] at z; exact absurd z (by decide)
          have s32_1 : ¬ (x2 = 1) := fun z => by rw [s32_2] at z; exact absurd z (by decide)
          refine j_V.ldL mq0_M mq0_86 rfl (i := 0) (kd := 2) (v := .ref 359) (pcJ := 87) rfl L rfl rfl rfl ?_
          refine j_V.ldL mq0_M mq0_87 rfl (i := 0) (kd := 2) (v := .ref 359) (pcJ := 88) rfl L rfl rfl rfl ?_
          refine j_V.ldL mq0_M mq0_88 rfl (i := 1) (kd := 0) (v := .int x1) (pcJ := 89) rfl L rfl rfl rfl ?_
          refine j_V.cl mq0_M mq0_89 rfl (md := 3) (mj := 235) rfl (by decide) mc5_M (As := [.ref 359, .int x1]) (rest := [.ref 359]) (jk_spl3 (K.at rfl) rfl rfl rfl (Nat.le_of_ble_eq_true rfl) (Nat.le_of_ble_eq_true rfl)) (fun d => mc5_ok (u := fun j => [.int th, .ref 360, .ref 361, .ref 362, .ref 363, .ref 364, .ref 365, .ref 366, .ref 367, (u 9), .int sst, (u 11), (u 12), .int acs, (u 14), (u 15), (u 16), (u 17), (u 18), (u 19), (u 20), (u 21), .ref 368, (u 23), .ref 369, .ref 370, .ref 371, (u 27)].getD j .null) (K.fi [359, 360] rfl rfl)) ?_
          rintro r hz ⟨rfl, ez⟩
          rw [ez]
          clear ez
          show j_V jP _ 236 92 lv [.int (m_freeOnes w x1), .ref 359] h _
          refine j_V.cl mq0_M mq0_92 rfl (md := 3) (mj := 170) rfl (by decide) mo1_M (As := [.ref 359, .int (m_freeOnes w x1)]) (rest := []) (jk_spl3 (K.at rfl) rfl rfl rfl (Nat.le_of_ble_eq_true rfl) (Nat.le_of_ble_eq_true rfl)) (fun d => mo1_ok (K.fi [359] rfl rfl)) ?_
          rintro r h9 ⟨rfl, K9⟩
          generalize ez5 : (m_gives th sst (m_freeOnes w x1)) = z5 at K9 ⊢
          have K : KN h9 [(359, .inl (10, [.int (z5.2.1), .ref 360, .ref 361, .ref 362, .ref 363, .ref 364, .ref 365, .ref 366, .ref 367, (u 9), .int (z5.2.2), (u 11), (u 12), .int acs, (u 14), (u 15), (u 16), (u 17), (u 18), (u 19), (u 20), (u 21), .ref 368, (u 23), .ref 369, .ref 370, .ref 371, (u 27)])), (360, .inr (.inl (0, w)))] h0 := K.mg K9 rfl rfl
          clear K9
          show j_V jP _ 236 95 lv [.int (z5.1)] h9 _
          subst ez5
          refine j_V.ri mq0_M mq0_95 ?_
          rw [show (m_qstation th sst w x1 x2) = _ from ((if_neg c6_0).trans ((if_neg c20_1).trans ((if_neg s32_0).trans ((if_neg s32_1).trans ((if_pos s32_2).trans (rfl))))))]
          exact ⟨rfl, K⟩
        | 3, ho, hx =>
          obtain rfl := Option.some.inj (show some (64 : Int) = some off from ho)
          obtain rfl : 96 = t := Option.some.inj (show some 96 = some t from ht)
          have s32_3 : x2 = 3 := Int32.toInt_inj.mp (by rw [hx]; rfl)
          have s32_0 : ¬ (x2 = 0) := fun z => by rw [s32_3] at z; exact absurd z (by decide)
          have s32_1 : ¬ (x2 = 1) := fun z => by rw [s32_3] at z; exact absurd z (by decide)
          have s32_2 : ¬ (x2 = 2) := fun z => by rw [s32_3] at z; exact absurd z (by decide)
          refine j_V.one mq0_M mq0_96 (by decide) (pcJ := 97) (stJ := [.int 0]) rfl ?_
          refine j_V.stL mq0_M mq0_97 rfl (i := 4) (kd := 0) (kl' := [(0, .ref 359), (1, .int x1), (2, .int x2), (3, .int 0), (4, .int 0)]) (pcJ := 99) rfl L rfl (by decide) rfl rfl rfl (fun lv L => ?_)
          rw [show (m_qstation th sst w x1 x2) = _ from ((if_neg c6_0).trans ((if_neg c20_1).trans ((if_neg s32_0).trans ((if_neg s32_1).trans ((if_neg s32_2).trans ((if_pos s32_3).trans (rfl)))))))]
          exact mq0_ok_l99 _ _ _ _ _ rfl L K
        | k + 4, ho, hx => cases ho
    · replace c20_1 : (m_isStation w x1) = 0 := jd_nen c20_1
      refine j_V.ldL mq0_M mq0_23 rfl (i := 0) (kd := 2) (v := .ref 359) (pcJ := 24) rfl L rfl rfl rfl ?_
      refine j_V.one mq0_M mq0_24 (by decide) (pcJ := 25) (stJ := [.int 2, .ref 359]) rfl ?_
      refine j_V.cl mq0_M mq0_25 rfl (md := 3) (mj := 169) rfl (by decide) mo0_M (As := [.ref 359, .int 2]) (rest := []) (jk_spl3 (K.at rfl) rfl rfl rfl (Nat.le_of_ble_eq_true rfl) (Nat.le_of_ble_eq_true rfl)) (fun d => mo0_ok (K.fi [359] rfl rfl)) ?_
      rintro r h9 ⟨rfl, K9⟩
      generalize ez6 : (m_refuse th sst 2) = z6 at K9 ⊢
      have K : KN h9 [(359, .inl (10, [.int (z6.2.1), .ref 360, .ref 361, .ref 362, .ref 363, .ref 364, .ref 365, .ref 366, .ref 367, (u 9), .int (z6.2.2), (u 11), (u 12), .int acs, (u 14), (u 15), (u 16), (u 17), (u 18), (u 19), (u 20), (u 21), .ref 368, (u 23), .ref 369, .ref 370, .ref 371, (u 27)])), (360, .inr (.inl (0, w)))] h0 := K.mg K9 rfl rfl
      clear K9
      show j_V jP _ 236 28 lv [.int (z6.1)] h9 _
      subst ez6
      refine j_V.ri mq0_M mq0_28 ?_
      rw [show (m_qstation th sst w x1 x2) = _ from ((if_neg c6_0).trans ((if_pos c20_1).trans (rfl)))]
      exact ⟨rfl, K⟩
  · replace c6_0 : (m_isFrom x2 0 4) = 0 := jd_nen c6_0
    refine j_V.ldL mq0_M mq0_9 rfl (i := 0) (kd := 2) (v := .ref 359) (pcJ := 10) rfl L rfl rfl rfl ?_
    refine j_V.one mq0_M mq0_10 (by decide) (pcJ := 11) (stJ := [.int 1, .ref 359]) rfl ?_
    refine j_V.cl mq0_M mq0_11 rfl (md := 3) (mj := 169) rfl (by decide) mo0_M (As := [.ref 359, .int 1]) (rest := []) (jk_spl3 (K.at rfl) rfl rfl rfl (Nat.le_of_ble_eq_true rfl) (Nat.le_of_ble_eq_true rfl)) (fun d => mo0_ok (K.fi [359] rfl rfl)) ?_
    rintro r h9 ⟨rfl, K9⟩
    generalize ez7 : (m_refuse th sst 1) = z7 at K9 ⊢
    have K : KN h9 [(359, .inl (10, [.int (z7.2.1), .ref 360, .ref 361, .ref 362, .ref 363, .ref 364, .ref 365, .ref 366, .ref 367, (u 9), .int (z7.2.2), (u 11), (u 12), .int acs, (u 14), (u 15), (u 16), (u 17), (u 18), (u 19), (u 20), (u 21), .ref 368, (u 23), .ref 369, .ref 370, .ref 371, (u 27)])), (360, .inr (.inl (0, w)))] h0 := K.mg K9 rfl rfl
    clear K9
    show j_V jP _ 236 14 lv [.int (z7.1)] h9 _
    subst ez7
    refine j_V.ri mq0_M mq0_14 ?_
    rw [show (m_qstation th sst w x1 x2) = _ from ((if_pos c6_0).trans (rfl))]
    exact ⟨rfl, K⟩
set_option maxRecDepth 100000 in
theorem mq1_M : j_meth jP 237 = some (yX10_track, cX10_track, 5, (some .int), 3, false, 10) := rfl
set_option maxRecDepth 100000 in
theorem mq1_0 : j_code jP 237 0 = some (.iload_n 3) := rfl
set_option maxRecDepth 100000 in
theorem mq1_1 : j_code jP 237 1 = some (.iconst 0) := rfl
set_option maxRecDepth 100000 in
theorem mq1_2 : j_code jP 237 2 = some (.iconst 2) := rfl
set_option maxRecDepth 100000 in
theorem mq1_3 : j_code jP 237 3 = some (.invokestatic 61) := rfl
set_option maxRecDepth 100000 in
theorem mq1_6 : j_code jP 237 6 = some (.ifCond .ne 9) := rfl
set_option maxRecDepth 100000 in
theorem mq1_9 : j_code jP 237 9 = some (.aload_n 0) := rfl
set_option maxRecDepth 100000 in
theorem mq1_10 : j_code jP 237 10 = some (.iconst 1) := rfl
set_option maxRecDepth 100000 in
theorem mq1_11 : j_code jP 237 11 = some (.invokevirtual 179) := rfl
set_option maxRecDepth 100000 in
theorem mq1_14 : j_code jP 237 14 = some (.ireturn) := rfl
set_option maxRecDepth 100000 in
theorem mq1_15 : j_code jP 237 15 = some (.aload_n 0) := rfl
set_option maxRecDepth 100000 in
theorem mq1_16 : j_code jP 237 16 = some (.iload_n 1) := rfl
set_option maxRecDepth 100000 in
theorem mq1_17 : j_code jP 237 17 = some (.iload_n 2) := rfl
set_option maxRecDepth 100000 in
theorem mq1_18 : j_code jP 237 18 = some (.invokevirtual 307) := rfl
set_option maxRecDepth 100000 in
theorem mq1_21 : j_code jP 237 21 = some (.ifCond .ne 9) := rfl
set_option maxRecDepth 100000 in
theorem mq1_24 : j_code jP 237 24 = some (.aload_n 0) := rfl
set_option maxRecDepth 100000 in
theorem mq1_25 : j_code jP 237 25 = some (.iconst 2) := rfl
set_option maxRecDepth 100000 in
theorem mq1_26 : j_code jP 237 26 = some (.invokevirtual 179) := rfl
set_option maxRecDepth 100000 in
theorem mq1_29 : j_code jP 237 29 = some (.ireturn) := rfl
set_option maxRecDepth 100000 in
theorem mq1_30 : j_code jP 237 30 = some (.iload_n 3) := rfl
set_option maxRecDepth 100000 in
theorem mq1_31 : j_code jP 237 31 = some (.iconst 1) := rfl
set_option maxRecDepth 100000 in
theorem mq1_32 : j_code jP 237 32 = some (.if_icmp .eq 26) := rfl
set_option maxRecDepth 100000 in
theorem mq1_35 : j_code jP 237 35 = some (.aload_n 0) := rfl
set_option maxRecDepth 100000 in
theorem mq1_36 : j_code jP 237 36 = some (.aload_n 0) := rfl
set_option maxRecDepth 100000 in
theorem mq1_37 : j_code jP 237 37 = some (.iload_n 1) := rfl
set_option maxRecDepth 100000 in
theorem mq1_38 : j_code jP 237 38 = some (.iload_n 3) := rfl
set_option maxRecDepth 100000 in
theorem mq1_39 : j_code jP 237 39 = some (.ifCond .ne 9) := rfl
set_option maxRecDepth 100000 in
theorem mq1_42 : j_code jP 237 42 = some (.iconst 2) := rfl
set_option maxRecDepth 100000 in
theorem mq1_43 : j_code jP 237 43 = some (.iload_n 2) := rfl
set_option maxRecDepth 100000 in
theorem mq1_44 : j_code jP 237 44 = some (.iadd) := rfl
set_option maxRecDepth 100000 in
theorem mq1_45 : j_code jP 237 45 = some (.goto 6) := rfl
set_option maxRecDepth 100000 in
theorem mq1_48 : j_code jP 237 48 = some (.iconst 5) := rfl
set_option maxRecDepth 100000 in
theorem mq1_49 : j_code jP 237 49 = some (.iload_n 2) := rfl
set_option maxRecDepth 100000 in
theorem mq1_50 : j_code jP 237 50 = some (.iadd) := rfl
set_option maxRecDepth 100000 in
theorem mq1_51 : j_code jP 237 51 = some (.invokevirtual 69) := rfl
set_option maxRecDepth 100000 in
theorem mq1_54 : j_code jP 237 54 = some (.invokevirtual 195) := rfl
set_option maxRecDepth 100000 in
theorem mq1_57 : j_code jP 237 57 = some (.ireturn) := rfl
set_option maxRecDepth 100000 in
theorem mq1_58 : j_code jP 237 58 = some (.aload_n 0) := rfl
set_option maxRecDepth 100000 in
theorem mq1_59 : j_code jP 237 59 = some (.iload_n 1) := rfl
set_option maxRecDepth 100000 in
theorem mq1_60 : j_code jP 237 60 = some (.iload_n 2) := rfl
set_option maxRecDepth 100000 in
theorem mq1_61 : j_code jP 237 61 = some (.invokevirtual 210) := rfl
set_option maxRecDepth 100000 in
theorem mq1_64 : j_code jP 237 64 = some (.istore 4) := rfl
set_option maxRecDepth 100000 in
theorem mq1_66 : j_code jP 237 66 = some (.iload 4) := rfl
set_option maxRecDepth 100000 in
theorem mq1_68 : j_code jP 237 68 = some (.iconst (-1)) := rfl
set_option maxRecDepth 100000 in
theorem mq1_69 : j_code jP 237 69 = some (.if_icmp .ne 11) := rfl
set_option maxRecDepth 100000 in
theorem mq1_72 : j_code jP 237 72 = some (.aload_n 0) := rfl
set_option maxRecDepth 100000 in
theorem mq1_73 : j_code jP 237 73 = some (.iconst 5) := rfl
set_option maxRecDepth 100000 in
theorem mq1_74 : j_code jP 237 74 = some (.invokevirtual 179) := rfl
set_option maxRecDepth 100000 in
theorem mq1_77 : j_code jP 237 77 = some (.goto 9) := rfl
set_option maxRecDepth 100000 in
theorem mq1_80 : j_code jP 237 80 = some (.aload_n 0) := rfl
set_option maxRecDepth 100000 in
theorem mq1_81 : j_code jP 237 81 = some (.iload 4) := rfl
set_option maxRecDepth 100000 in
theorem mq1_83 : j_code jP 237 83 = some (.invokevirtual 195) := rfl
set_option maxRecDepth 100000 in
theorem mq1_86 : j_code jP 237 86 = some (.ireturn) := rfl
def m_qtrack (th : Int32) (sst : Int32) (w : List Int32) (x1 : Int32) (x2 : Int32) (x3 : Int32) : Int32 × Int32 × Int32 := (if (m_isFrom x3 0 2) = 0 then let z7 := (m_refuse th sst 1); ((z7.1), (z7.2.1), (z7.2.2)) else (if (m_isTrack w x1 x2) = 0 then let z6 := (m_refuse th sst 2); ((z6.1), (z6.2.1), (z6.2.2)) else (if x3 = 1 then (if (m_whoAt w x1 x2) = (-1) then let z4 := (m_refuse th sst 5); ((z4.1), (z4.2.1), (z4.2.2)) else let z3 := (m_gives th sst (m_whoAt w x1 x2)); ((z3.1), (z3.2.1), (z3.2.2))) else let z5 := (m_gives th sst (m_st w x1 ((if x3 = 0 then (2 + x2) else (5 + x2)) : Int32))); ((z5.1), (z5.2.1), (z5.2.2)))))
set_option maxRecDepth 1000000 in
theorem mq1_ok {u : Nat → Value} {th : Int32} {sst : Int32} {acs : Int32} {w : List Int32} {x1 x2 x3 : Int32} {d : Nat} {h h0 : J_H} (K : KN h [(359, .inl (10, [.int th, .ref 360, .ref 361, .ref 362, .ref 363, .ref 364, .ref 365, .ref 366, .ref 367, (u 9), .int sst, (u 11), (u 12), .int acs, (u 14), (u 15), (u 16), (u 17), (u 18), (u 19), (u 20), (u 21), .ref 368, (u 23), .ref 369, .ref 370, .ref 371, (u 27)])), (360, .inr (.inl (0, w)))] h0) : j_V jP d 237 0 (lv_args 0 [.ref 359, .int x1, .int x2, .int x3]) [] h (fun rv h' => rv = some (.int (m_qtrack th sst w x1 x2 x3).1) ∧ KN h' [(359, .inl (10, [.int (m_qtrack th sst w x1 x2 x3).2.1, .ref 360, .ref 361, .ref 362, .ref 363, .ref 364, .ref 365, .ref 366, .ref 367, (u 9), .int (m_qtrack th sst w x1 x2 x3).2.2, (u 11), (u 12), .int acs, (u 14), (u 15), (u 16), (u 17), (u 18), (u 19), (u 20), (u 21), .ref 368, (u 23), .ref 369, .ref 370, .ref 371, (u 27)])), (360, .inr (.inl (0, w)))] h0) := by
  show j_V jP d 237 0 [(0, .ref 359), (1, .int x1), (2, .int x2), (3, .int x3)] [] h _
  obtain ⟨lv, elv, L⟩ : ∃ lv, lv = [(0, .ref 359), (1, .int x1), (2, .int x2), (3, .int x3)] ∧ LK lv [(0, .ref 359), (1, .int x1), (2, .int x2), (3, .int x3)] := ⟨_, rfl, LK.rf⟩
  rw [← elv]
  clear elv
  refine j_V.ldL mq1_M mq1_0 rfl (i := 3) (kd := 0) (v := .int x3) (pcJ := 1) rfl L rfl rfl rfl ?_
  refine j_V.one mq1_M mq1_1 (by decide) (pcJ := 2) (stJ := [.int 0, .int x3]) rfl ?_
  refine j_V.one mq1_M mq1_2 (by decide) (pcJ := 3) (stJ := [.int 2, .int 0, .int x3]) rfl ?_
  refine j_V.cl mq1_M mq1_3 rfl (md := 2) (mj := 171) rfl (by decide) ma0_M (As := [.int x3, .int 0, .int 2]) (rest := []) (jk_spl2 rfl rfl (Nat.le_of_ble_eq_true rfl) (Nat.le_of_ble_eq_true rfl)) (fun d => ma0_ok (K.fi [] rfl rfl)) ?_
  rintro r hz ⟨rfl, ez⟩
  rw [ez]
  clear ez
  show j_V jP _ 237 6 lv [.int (m_isFrom x3 0 2)] h _
  refine j_V.ifc mq1_M mq1_6 (t := 15) rfl (fun c6_0 => ?_) (fun c6_0 => ?_)
  · replace c6_0 : ¬ ((m_isFrom x3 0 2) = 0) := jd_ne c6_0
    refine j_V.ldL mq1_M mq1_15 rfl (i := 0) (kd := 2) (v := .ref 359) (pcJ := 16) rfl L rfl rfl rfl ?_
    refine j_V.ldL mq1_M mq1_16 rfl (i := 1) (kd := 0) (v := .int x1) (pcJ := 17) rfl L rfl rfl rfl ?_
    refine j_V.ldL mq1_M mq1_17 rfl (i := 2) (kd := 0) (v := .int x2) (pcJ := 18) rfl L rfl rfl rfl ?_
    refine j_V.cl mq1_M mq1_18 rfl (md := 3) (mj := 175) rfl (by decide) md2_M (As := [.ref 359, .int x1, .int x2]) (rest := []) (jk_spl3 (K.at rfl) rfl rfl rfl (Nat.le_of_ble_eq_true rfl) (Nat.le_of_ble_eq_true rfl)) (fun d => md2_ok (u := fun j => [.int th, .ref 360, .ref 361, .ref 362, .ref 363, .ref 364, .ref 365, .ref 366, .ref 367, (u 9), .int sst, (u 11), (u 12), .int acs, (u 14), (u 15), (u 16), (u 17), (u 18), (u 19), (u 20), (u 21), .ref 368, (u 23), .ref 369, .ref 370, .ref 371, (u 27)].getD j .null) (K.fi [359, 360] rfl rfl)) ?_
    rintro r hz ⟨rfl, ez⟩
    rw [ez]
    clear ez
    show j_V jP _ 237 21 lv [.int (m_isTrack w x1 x2)] h _
    refine j_V.ifc mq1_M mq1_21 (t := 30) rfl (fun c21_1 => ?_) (fun c21_1 => ?_)
    · replace c21_1 : ¬ ((m_isTrack w x1 x2) = 0) := jd_ne c21_1
      refine j_V.ldL mq1_M mq1_30 rfl (i := 3) (kd := 0) (v := .int x3) (pcJ := 31) rfl L rfl rfl rfl ?_
      refine j_V.one mq1_M mq1_31 (by decide) (pcJ := 32) (stJ := [.int 1, .int x3]) rfl ?_
      refine j_V.icmp mq1_M mq1_32 (t := 58) rfl (fun c32_2 => ?_) (fun c32_2 => ?_)
      · replace c32_2 : x3 = 1 := jd_eq c32_2
        refine j_V.ldL mq1_M mq1_58 rfl (i := 0) (kd := 2) (v := .ref 359) (pcJ := 59) rfl L rfl rfl rfl ?_
        refine j_V.ldL mq1_M mq1_59 rfl (i := 1) (kd := 0) (v := .int x1) (pcJ := 60) rfl L rfl rfl rfl ?_
        refine j_V.ldL mq1_M mq1_60 rfl (i := 2) (kd := 0) (v := .int x2) (pcJ := 61) rfl L rfl rfl rfl ?_
        refine j_V.cl mq1_M mq1_61 rfl (md := 3) (mj := 206) rfl (by decide) ma7_M (As := [.ref 359, .int x1, .int x2]) (rest := []) (jk_spl3 (K.at rfl) rfl rfl rfl (Nat.le_of_ble_eq_true rfl) (Nat.le_of_ble_eq_true rfl)) (fun d => ma7_ok (u := fun j => [.int th, .ref 360, .ref 361, .ref 362, .ref 363, .ref 364, .ref 365, .ref 366, .ref 367, (u 9), .int sst, (u 11), (u 12), .int acs, (u 14), (u 15), (u 16), (u 17), (u 18), (u 19), (u 20), (u 21), .ref 368, (u 23), .ref 369, .ref 370, .ref 371, (u 27)].getD j .null) (K.fi [359, 360] rfl rfl)) ?_
        rintro r hz ⟨rfl, ez⟩
        rw [ez]
        clear ez
        show j_V jP _ 237 64 lv [.int (m_whoAt w x1 x2)] h _
        refine j_V.stL mq1_M mq1_64 rfl (i := 4) (kd := 0) (kl' := [(0, .ref 359), (1, .int x1), (2, .int x2), (3, .int x3), (4, .int (m_whoAt w x1 x2))]) (pcJ := 66) rfl L rfl (by decide) rfl rfl rfl (fun lv L => ?_)
        refine j_V.ldL mq1_M mq1_66 rfl (i := 4) (kd := 0) (v := .int (m_whoAt w x1 x2)) (pcJ := 68) rfl L rfl rfl rfl ?_
        refine j_V.one mq1_M mq1_68 (by decide) (pcJ := 69) (stJ := [.int (-1), .int (m_whoAt w x1 x2)]) rfl ?_
        refine j_V.icmp mq1_M mq1_69 (t := 80) rfl (fun c69_3 => ?_) (fun c69_3 => ?_)
        · replace c69_3 : ¬ ((m_whoAt w x1 x2) = (-1)) := jd_ne c69_3
          refine j_V.ldL mq1_M mq1_80 rfl (i := 0) (kd := 2) (v := .ref 359) (pcJ := 81) rfl L rfl rfl rfl ?_
          refine j_V.ldL mq1_M mq1_81 rfl (i := 4) (kd := 0) (v := .int (m_whoAt w x1 x2)) (pcJ := 83) rfl L rfl rfl rfl ?_
          refine j_V.cl mq1_M mq1_83 rfl (md := 3) (mj := 170) rfl (by decide) mo1_M (As := [.ref 359, .int (m_whoAt w x1 x2)]) (rest := []) (jk_spl3 (K.at rfl) rfl rfl rfl (Nat.le_of_ble_eq_true rfl) (Nat.le_of_ble_eq_true rfl)) (fun d => mo1_ok (K.fi [359] rfl rfl)) ?_
          rintro r h9 ⟨rfl, K9⟩
          generalize ez3 : (m_gives th sst (m_whoAt w x1 x2)) = z3 at K9 ⊢
          have K : KN h9 [(359, .inl (10, [.int (z3.2.1), .ref 360, .ref 361, .ref 362, .ref 363, .ref 364, .ref 365, .ref 366, .ref 367, (u 9), .int (z3.2.2), (u 11), (u 12), .int acs, (u 14), (u 15), (u 16), (u 17), (u 18), (u 19), (u 20), (u 21), .ref 368, (u 23), .ref 369, .ref 370, .ref 371, (u 27)])), (360, .inr (.inl (0, w)))] h0 := K.mg K9 rfl rfl
          clear K9
          show j_V jP _ 237 86 lv [.int (z3.1)] h9 _
          subst ez3
          refine j_V.ri mq1_M mq1_86 ?_
          rw [show (m_qtrack th sst w x1 x2 x3) = _ from ((if_neg c6_0).trans ((if_neg c21_1).trans ((if_pos c32_2).trans ((if_neg c69_3).trans (rfl)))))]
          exact ⟨rfl, K⟩
        · replace c69_3 : (m_whoAt w x1 x2) = (-1) := jd_nen c69_3
          refine j_V.ldL mq1_M mq1_72 rfl (i := 0) (kd := 2) (v := .ref 359) (pcJ := 73) rfl L rfl rfl rfl ?_
          refine j_V.one mq1_M mq1_73 (by decide) (pcJ := 74) (stJ := [.int 5, .ref 359]) rfl ?_
          refine j_V.cl mq1_M mq1_74 rfl (md := 3) (mj := 169) rfl (by decide) mo0_M (As := [.ref 359, .int 5]) (rest := []) (jk_spl3 (K.at rfl) rfl rfl rfl (Nat.le_of_ble_eq_true rfl) (Nat.le_of_ble_eq_true rfl)) (fun d => mo0_ok (K.fi [359] rfl rfl)) ?_
          rintro r h9 ⟨rfl, K9⟩
          generalize ez4 : (m_refuse th sst 5) = z4 at K9 ⊢
          have K : KN h9 [(359, .inl (10, [.int (z4.2.1), .ref 360, .ref 361, .ref 362, .ref 363, .ref 364, .ref 365, .ref 366, .ref 367, (u 9), .int (z4.2.2), (u 11), (u 12), .int acs, (u 14), (u 15), (u 16), (u 17), (u 18), (u 19), (u 20), (u 21), .ref 368, (u 23), .ref 369, .ref 370, .ref 371, (u 27)])), (360, .inr (.inl (0, w)))] h0 := K.mg K9 rfl rfl
          clear K9
          show j_V jP _ 237 77 lv [.int (z4.1)] h9 _
          refine j_V.gto mq1_M mq1_77 (t := 86) rfl ?_
          subst ez4
          refine j_V.ri mq1_M mq1_86 ?_
          rw [show (m_qtrack th sst w x1 x2 x3) = _ from ((if_neg c6_0).trans ((if_neg c21_1).trans ((if_pos c32_2).trans ((if_pos c69_3).trans (rfl)))))]
          exact ⟨rfl, K⟩
      · replace c32_2 : ¬ (x3 = 1) := jd_eqn c32_2
        refine j_V.ldL mq1_M mq1_35 rfl (i := 0) (kd := 2) (v := .ref 359) (pcJ := 36) rfl L rfl rfl rfl ?_
        refine j_V.ldL mq1_M mq1_36 rfl (i := 0) (kd := 2) (v := .ref 359) (pcJ := 37) rfl L rfl rfl rfl ?_
        refine j_V.ldL mq1_M mq1_37 rfl (i := 1) (kd := 0) (v := .int x1) (pcJ := 38) rfl L rfl rfl rfl ?_
        refine j_V.ldL mq1_M mq1_38 rfl (i := 3) (kd := 0) (v := .int x3) (pcJ := 39) rfl L rfl rfl rfl ?_
        refine j_V.cut (b := 51) (stJ := [.int ((if x3 = 0 then (2 + x2) else (5 + x2)) : Int32), .int x1, .ref 359, .ref 359]) (fun v => [(0, .ref 359), (1, .int x1), (2, .int x2), (3, .int x3)]) ((if x3 = 0 then (2 + x2) else (5 + x2)) : Int32) (fun Q kk => ?_) (fun lv L => ?_)
        · refine j_V.ifc mq1_M mq1_39 (t := 48) rfl (fun c39_0 => ?_) (fun c39_0 => ?_)
          · replace c39_0 : ¬ (x3 = 0) := jd_ne c39_0
            refine j_V.one mq1_M mq1_48 (by decide) (pcJ := 49) (stJ := [.int 5, .int x1, .ref 359, .ref 359]) rfl ?_
            refine j_V.ldL mq1_M mq1_49 rfl (i := 2) (kd := 0) (v := .int x2) (pcJ := 50) rfl L rfl rfl rfl ?_
            refine j_V.one mq1_M mq1_50 (by decide) (pcJ := 51) (stJ := [.int (5 + x2), .int x1, .ref 359, .ref 359]) rfl ?_
            exact Eq.subst (motive := fun z => j_V jP _ 237 51 _ (.int z :: [.int x1, .ref 359, .ref 359]) h Q) (show ((if x3 = 0 then (2 + x2) else (5 + x2)) : Int32) = (5 + x2) from (if_neg c39_0).trans (rfl)) (kk _ L)
          · replace c39_0 : x3 = 0 := jd_nen c39_0
            refine j_V.one mq1_M mq1_42 (by decide) (pcJ := 43) (stJ := [.int 2, .int x1, .ref 359, .ref 359]) rfl ?_
            refine j_V.ldL mq1_M mq1_43 rfl (i := 2) (kd := 0) (v := .int x2) (pcJ := 44) rfl L rfl rfl rfl ?_
            refine j_V.one mq1_M mq1_44 (by decide) (pcJ := 45) (stJ := [.int (2 + x2), .int x1, .ref 359, .ref 359]) rfl ?_
            refine j_V.gto mq1_M mq1_45 (t := 51) rfl ?_
            exact Eq.subst (motive := fun z => j_V jP _ 237 51 _ (.int z :: [.int x1, .ref 359, .ref 359]) h Q) (show ((if x3 = 0 then (2 + x2) else (5 + x2)) : Int32) = (2 + x2) from (if_pos c39_0).trans (rfl)) (kk _ L)
        refine j_V.cl mq1_M mq1_51 rfl (md := 3) (mj := 176) rfl (by decide) ma1_M (As := [.ref 359, .int x1, .int ((if x3 = 0 then (2 + x2) else (5 + x2)) : Int32)]) (rest := [.ref 359]) (jk_spl3 (K.at rfl) rfl rfl rfl (Nat.le_of_ble_eq_true rfl) (Nat.le_of_ble_eq_true rfl)) (fun d => ma1_ok (u := fun j => [.int th, .ref 360, .ref 361, .ref 362, .ref 363, .ref 364, .ref 365, .ref 366, .ref 367, (u 9), .int sst, (u 11), (u 12), .int acs, (u 14), (u 15), (u 16), (u 17), (u 18), (u 19), (u 20), (u 21), .ref 368, (u 23), .ref 369, .ref 370, .ref 371, (u 27)].getD j .null) (K.fi [359, 360] rfl rfl)) ?_
        rintro r hz ⟨rfl, ez⟩
        rw [ez]
        clear ez
        show j_V jP _ 237 54 lv [.int (m_st w x1 ((if x3 = 0 then (2 + x2) else (5 + x2)) : Int32)), .ref 359] h _
        refine j_V.cl mq1_M mq1_54 rfl (md := 3) (mj := 170) rfl (by decide) mo1_M (As := [.ref 359, .int (m_st w x1 ((if x3 = 0 then (2 + x2) else (5 + x2)) : Int32))]) (rest := []) (jk_spl3 (K.at rfl) rfl rfl rfl (Nat.le_of_ble_eq_true rfl) (Nat.le_of_ble_eq_true rfl)) (fun d => mo1_ok (K.fi [359] rfl rfl)) ?_
        rintro r h9 ⟨rfl, K9⟩
        generalize ez5 : (m_gives th sst (m_st w x1 ((if x3 = 0 then (2 + x2) else (5 + x2)) : Int32))) = z5 at K9 ⊢
        have K : KN h9 [(359, .inl (10, [.int (z5.2.1), .ref 360, .ref 361, .ref 362, .ref 363, .ref 364, .ref 365, .ref 366, .ref 367, (u 9), .int (z5.2.2), (u 11), (u 12), .int acs, (u 14), (u 15), (u 16), (u 17), (u 18), (u 19), (u 20), (u 21), .ref 368, (u 23), .ref 369, .ref 370, .ref 371, (u 27)])), (360, .inr (.inl (0, w)))] h0 := K.mg K9 rfl rfl
        clear K9
        show j_V jP _ 237 57 lv [.int (z5.1)] h9 _
        subst ez5
        refine j_V.ri mq1_M mq1_57 ?_
        rw [show (m_qtrack th sst w x1 x2 x3) = _ from ((if_neg c6_0).trans ((if_neg c21_1).trans ((if_neg c32_2).trans (rfl))))]
        exact ⟨rfl, K⟩
    · replace c21_1 : (m_isTrack w x1 x2) = 0 := jd_nen c21_1
      refine j_V.ldL mq1_M mq1_24 rfl (i := 0) (kd := 2) (v := .ref 359) (pcJ := 25) rfl L rfl rfl rfl ?_
      refine j_V.one mq1_M mq1_25 (by decide) (pcJ := 26) (stJ := [.int 2, .ref 359]) rfl ?_
      refine j_V.cl mq1_M mq1_26 rfl (md := 3) (mj := 169) rfl (by decide) mo0_M (As := [.ref 359, .int 2]) (rest := []) (jk_spl3 (K.at rfl) rfl rfl rfl (Nat.le_of_ble_eq_true rfl) (Nat.le_of_ble_eq_true rfl)) (fun d => mo0_ok (K.fi [359] rfl rfl)) ?_
      rintro r h9 ⟨rfl, K9⟩
      generalize ez6 : (m_refuse th sst 2) = z6 at K9 ⊢
      have K : KN h9 [(359, .inl (10, [.int (z6.2.1), .ref 360, .ref 361, .ref 362, .ref 363, .ref 364, .ref 365, .ref 366, .ref 367, (u 9), .int (z6.2.2), (u 11), (u 12), .int acs, (u 14), (u 15), (u 16), (u 17), (u 18), (u 19), (u 20), (u 21), .ref 368, (u 23), .ref 369, .ref 370, .ref 371, (u 27)])), (360, .inr (.inl (0, w)))] h0 := K.mg K9 rfl rfl
      clear K9
      show j_V jP _ 237 29 lv [.int (z6.1)] h9 _
      subst ez6
      refine j_V.ri mq1_M mq1_29 ?_
      rw [show (m_qtrack th sst w x1 x2 x3) = _ from ((if_neg c6_0).trans ((if_pos c21_1).trans (rfl)))]
      exact ⟨rfl, K⟩
  · replace c6_0 : (m_isFrom x3 0 2) = 0 := jd_nen c6_0
    refine j_V.ldL mq1_M mq1_9 rfl (i := 0) (kd := 2) (v := .ref 359) (pcJ := 10) rfl L rfl rfl rfl ?_
    refine j_V.one mq1_M mq1_10 (by decide) (pcJ := 11) (stJ := [.int 1, .ref 359]) rfl ?_
    refine j_V.cl mq1_M mq1_11 rfl (md := 3) (mj := 169) rfl (by decide) mo0_M (As := [.ref 359, .int 1]) (rest := []) (jk_spl3 (K.at rfl) rfl rfl rfl (Nat.le_of_ble_eq_true rfl) (Nat.le_of_ble_eq_true rfl)) (fun d => mo0_ok (K.fi [359] rfl rfl)) ?_
    rintro r h9 ⟨rfl, K9⟩
    generalize ez7 : (m_refuse th sst 1) = z7 at K9 ⊢
    have K : KN h9 [(359, .inl (10, [.int (z7.2.1), .ref 360, .ref 361, .ref 362, .ref 363, .ref 364, .ref 365, .ref 366, .ref 367, (u 9), .int (z7.2.2), (u 11), (u 12), .int acs, (u 14), (u 15), (u 16), (u 17), (u 18), (u 19), (u 20), (u 21), .ref 368, (u 23), .ref 369, .ref 370, .ref 371, (u 27)])), (360, .inr (.inl (0, w)))] h0 := K.mg K9 rfl rfl
    clear K9
    show j_V jP _ 237 14 lv [.int (z7.1)] h9 _
    subst ez7
    refine j_V.ri mq1_M mq1_14 ?_
    rw [show (m_qtrack th sst w x1 x2 x3) = _ from ((if_pos c6_0).trans (rfl))]
    exact ⟨rfl, K⟩
set_option maxRecDepth 100000 in
theorem mq2_M : j_meth jP 242 = some (yX10_fits, cX10_fits, 4, (some .int), 1, false, 10) := rfl
set_option maxRecDepth 100000 in
theorem mq2_0 : j_code jP 242 0 = some (.aload_n 0) := rfl
set_option maxRecDepth 100000 in
theorem mq2_1 : j_code jP 242 1 = some (.iload_n 1) := rfl
set_option maxRecDepth 100000 in
theorem mq2_2 : j_code jP 242 2 = some (.invokevirtual 310) := rfl
set_option maxRecDepth 100000 in
theorem mq2_5 : j_code jP 242 5 = some (.ifCond .ne 9) := rfl
set_option maxRecDepth 100000 in
theorem mq2_8 : j_code jP 242 8 = some (.aload_n 0) := rfl
set_option maxRecDepth 100000 in
theorem mq2_9 : j_code jP 242 9 = some (.iconst 2) := rfl
set_option maxRecDepth 100000 in
theorem mq2_10 : j_code jP 242 10 = some (.invokevirtual 179) := rfl
set_option maxRecDepth 100000 in
theorem mq2_13 : j_code jP 242 13 = some (.ireturn) := rfl
set_option maxRecDepth 100000 in
theorem mq2_14 : j_code jP 242 14 = some (.iconst 0) := rfl
set_option maxRecDepth 100000 in
theorem mq2_15 : j_code jP 242 15 = some (.istore_n 2) := rfl
set_option maxRecDepth 100000 in
theorem mq2_16 : j_code jP 242 16 = some (.iconst 0) := rfl
set_option maxRecDepth 100000 in
theorem mq2_17 : j_code jP 242 17 = some (.istore_n 3) := rfl
set_option maxRecDepth 100000 in
theorem mq2_18 : j_code jP 242 18 = some (.iload_n 3) := rfl
set_option maxRecDepth 100000 in
theorem mq2_19 : j_code jP 242 19 = some (.aload_n 0) := rfl
set_option maxRecDepth 100000 in
theorem mq2_20 : j_code jP 242 20 = some (.getfield 7) := rfl
set_option maxRecDepth 100000 in
theorem mq2_23 : j_code jP 242 23 = some (.sipush 202) := rfl
set_option maxRecDepth 100000 in
theorem mq2_26 : j_code jP 242 26 = some (.iaload) := rfl
set_option maxRecDepth 100000 in
theorem mq2_27 : j_code jP 242 27 = some (.if_icmp .ge 28) := rfl
set_option maxRecDepth 100000 in
theorem mq2_30 : j_code jP 242 30 = some (.iload_n 2) := rfl
set_option maxRecDepth 100000 in
theorem mq2_31 : j_code jP 242 31 = some (.aload_n 0) := rfl
set_option maxRecDepth 100000 in
theorem mq2_32 : j_code jP 242 32 = some (.iload_n 1) := rfl
set_option maxRecDepth 100000 in
theorem mq2_33 : j_code jP 242 33 = some (.iload_n 3) := rfl
set_option maxRecDepth 100000 in
theorem mq2_34 : j_code jP 242 34 = some (.invokevirtual 320) := rfl
set_option maxRecDepth 100000 in
theorem mq2_37 : j_code jP 242 37 = some (.ifCond .eq 9) := rfl
set_option maxRecDepth 100000 in
theorem mq2_40 : j_code jP 242 40 = some (.iconst 1) := rfl
set_option maxRecDepth 100000 in
theorem mq2_41 : j_code jP 242 41 = some (.iload_n 3) := rfl
set_option maxRecDepth 100000 in
theorem mq2_42 : j_code jP 242 42 = some (.ishl) := rfl
set_option maxRecDepth 100000 in
theorem mq2_43 : j_code jP 242 43 = some (.goto 4) := rfl
set_option maxRecDepth 100000 in
theorem mq2_46 : j_code jP 242 46 = some (.iconst 0) := rfl
set_option maxRecDepth 100000 in
theorem mq2_47 : j_code jP 242 47 = some (.ior) := rfl
set_option maxRecDepth 100000 in
theorem mq2_48 : j_code jP 242 48 = some (.istore_n 2) := rfl
set_option maxRecDepth 100000 in
theorem mq2_49 : j_code jP 242 49 = some (.iinc 3 1) := rfl
set_option maxRecDepth 100000 in
theorem mq2_52 : j_code jP 242 52 = some (.goto (-34)) := rfl
set_option maxRecDepth 100000 in
theorem mq2_55 : j_code jP 242 55 = some (.aload_n 0) := rfl
set_option maxRecDepth 100000 in
theorem mq2_56 : j_code jP 242 56 = some (.iload_n 2) := rfl
set_option maxRecDepth 100000 in
theorem mq2_57 : j_code jP 242 57 = some (.invokevirtual 195) := rfl
set_option maxRecDepth 100000 in
theorem mq2_60 : j_code jP 242 60 = some (.ireturn) := rfl
def m_qfits_l18 (w : List Int32) (v1 : Int32) : Nat → Int32 → Int32 → Int32 → Int32 → Int32 × Int32 × Int32
  | 0, v3, v2, th, sst => let z1 := (m_gives th sst v2); ((z1.1), (z1.2.1), (z1.2.2))
  | f + 1, v3, v2, th, sst => (m_qfits_l18 w v1 f (v3 + 1) (v2 ||| ((if (m_doesFit w v1 v3) = 0 then 0 else (1 <<< (v3 &&& 31))) : Int32)) th sst)
set_option maxRecDepth 1000000 in
theorem mq2_ok_l18 {u : Nat → Value} {acs : Int32} {w : List Int32} {v1 : Int32} {d : Nat} {h0 : J_H} : ∀ (f : Nat) (v3 v2 : Int32) (th : Int32) (sst : Int32) {lv : J_L} {h : J_H}, lpN (gA w 202) v3 = f → LK lv [(0, .ref 359), (1, .int v1), (2, .int v2), (3, .int v3)] → KN h [(359, .inl (10, [.int th, .ref 360, .ref 361, .ref 362, .ref 363, .ref 364, .ref 365, .ref 366, .ref 367, (u 9), .int sst, (u 11), (u 12), .int acs, (u 14), (u 15), (u 16), (u 17), (u 18), (u 19), (u 20), (u 21), .ref 368, (u 23), .ref 369, .ref 370, .ref 371, (u 27)])), (360, .inr (.inl (0, w)))] h0 → j_V jP d 242 18 lv [] h (fun rv h' => rv = some (.int (m_qfits_l18 w v1 f v3 v2 th sst).1) ∧ KN h' [(359, .inl (10, [.int (m_qfits_l18 w v1 f v3 v2 th sst).2.1, .ref 360, .ref 361, .ref 362, .ref 363, .ref 364, .ref 365, .ref 366, .ref 367, (u 9), .int (m_qfits_l18 w v1 f v3 v2 th sst).2.2, (u 11), (u 12), .int acs, (u 14), (u 15), (u 16), (u 17), (u 18), (u 19), (u 20), (u 21), .ref 368, (u 23), .ref 369, .ref 370, .ref 371, (u 27)])), (360, .inr (.inl (0, w)))] h0) := by
  intro f
  induction f with
  | zero =>
    intro v3 v2 th sst lv h e L K
    refine j_V.ldL mq2_M mq2_18 rfl (i := 3) (kd := 0) (v := .int v3) (pcJ := 19) rfl L rfl rfl rfl ?_
    refine j_V.ldL mq2_M mq2_19 rfl (i := 0) (kd := 2) (v := .ref 359) (pcJ := 20) rfl L rfl rfl rfl ?_
    refine j_V.getK mq2_M mq2_20 (ci := 10) (j := 1) rfl K rfl rfl ?_
    refine j_V.one mq2_M mq2_23 (by decide) (pcJ := 26) (stJ := [.int 202, .ref 360, .int v3]) rfl ?_
    refine j_V.iaA mq2_M mq2_26 K rfl ?_
    refine j_V.icmp mq2_M mq2_27 (t := 55) rfl (fun c27_0 => ?_) (fun c27_0 => ?_)
    · replace c27_0 : ¬ (v3 < (gA w 202)) := jd_ge c27_0
      refine j_V.ldL mq2_M mq2_55 rfl (i := 0) (kd := 2) (v := .ref 359) (pcJ := 56) rfl L rfl rfl rfl ?_
      refine j_V.ldL mq2_M mq2_56 rfl (i := 2) (kd := 0) (v := .int v2) (pcJ := 57) rfl L rfl rfl rfl ?_
      refine j_V.cl mq2_M mq2_57 rfl (md := 3) (mj := 170) rfl (by decide) mo1_M (As := [.ref 359, .int v2]) (rest := []) (jk_spl3 (K.at rfl) rfl rfl rfl (Nat.le_of_ble_eq_true rfl) (Nat.le_of_ble_eq_true rfl)) (fun d => mo1_ok (K.fi [359] rfl rfl)) ?_
      rintro r h9 ⟨rfl, K9⟩
      generalize ez1 : (m_gives th sst v2) = z1 at K9 ⊢
      have K : KN h9 [(359, .inl (10, [.int (z1.2.1), .ref 360, .ref 361, .ref 362, .ref 363, .ref 364, .ref 365, .ref 366, .ref 367, (u 9), .int (z1.2.2), (u 11), (u 12), .int acs, (u 14), (u 15), (u 16), (u 17), (u 18), (u 19), (u 20), (u 21), .ref 368, (u 23), .ref 369, .ref 370, .ref 371, (u 27)])), (360, .inr (.inl (0, w)))] h0 := K.mg K9 rfl rfl
      clear K9
      show j_V jP _ 242 60 lv [.int (z1.1)] h9 _
      subst ez1
      refine j_V.ri mq2_M mq2_60 ?_
      rw [show (m_qfits_l18 w v1 0 v3 v2 th sst) = _ from (rfl)]
      exact ⟨rfl, K⟩
    · replace c27_0 : v3 < (gA w 202) := jd_gen c27_0
      exact absurd c27_0 (lpN_z e)
  | succ f ih =>
    intro v3 v2 th sst lv h e L K
    refine j_V.ldL mq2_M mq2_18 rfl (i := 3) (kd := 0) (v := .int v3) (pcJ := 19) rfl L rfl rfl rfl ?_
    refine j_V.ldL mq2_M mq2_19 rfl (i := 0) (kd := 2) (v := .ref 359) (pcJ := 20) rfl L rfl rfl rfl ?_
    refine j_V.getK mq2_M mq2_20 (ci := 10) (j := 1) rfl K rfl rfl ?_
    refine j_V.one mq2_M mq2_23 (by decide) (pcJ := 26) (stJ := [.int 202, .ref 360, .int v3]) rfl ?_
    refine j_V.iaA mq2_M mq2_26 K rfl ?_
    refine j_V.icmp mq2_M mq2_27 (t := 55) rfl (fun c27_0 => ?_) (fun c27_0 => ?_)
    · replace c27_0 : ¬ (v3 < (gA w 202)) := jd_ge c27_0
      exact absurd (lpN_s e) c27_0
    · replace c27_0 : v3 < (gA w 202) := jd_gen c27_0
      refine j_V.ldL mq2_M mq2_30 rfl (i := 2) (kd := 0) (v := .int v2) (pcJ := 31) rfl L rfl rfl rfl ?_
      refine j_V.ldL mq2_M mq2_31 rfl (i := 0) (kd := 2) (v := .ref 359) (pcJ := 32) rfl L rfl rfl rfl ?_
      refine j_V.ldL mq2_M mq2_32 rfl (i := 1) (kd := 0) (v := .int v1) (pcJ := 33) rfl L rfl rfl rfl ?_
      refine j_V.ldL mq2_M mq2_33 rfl (i := 3) (kd := 0) (v := .int v3) (pcJ := 34) rfl L rfl rfl rfl ?_
      refine j_V.cl mq2_M mq2_34 rfl (md := 3) (mj := 241) rfl (by decide) mc6_M (As := [.ref 359, .int v1, .int v3]) (rest := [.int v2]) (jk_spl3 (K.at rfl) rfl rfl rfl (Nat.le_of_ble_eq_true rfl) (Nat.le_of_ble_eq_true rfl)) (fun d => mc6_ok (u := fun j => [.int th, .ref 360, .ref 361, .ref 362, .ref 363, .ref 364, .ref 365, .ref 366, .ref 367, (u 9), .int sst, (u 11), (u 12), .int acs, (u 14), (u 15), (u 16), (u 17), (u 18), (u 19), (u 20), (u 21), .ref 368, (u 23), .ref 369, .ref 370, .ref 371, (u 27)].getD j .null) (K.fi [359, 360] rfl rfl)) ?_
      rintro r hz ⟨rfl, ez⟩
      rw [ez]
      clear ez
      show j_V jP _ 242 37 lv [.int (m_doesFit w v1 v3), .int v2] h _
      refine j_V.cut (b := 47) (stJ := [.int ((if (m_doesFit w v1 v3) = 0 then 0 else (1 <<< (v3 &&& 31))) : Int32), .int v2]) (fun v => [(0, .ref 359), (1, .int v1), (2, .int v2), (3, .int v3)]) ((if (m_doesFit w v1 v3) = 0 then 0 else (1 <<< (v3 &&& 31))) : Int32) (fun Q kk => ?_) (fun lv L => ?_)
      · refine j_V.ifc mq2_M mq2_37 (t := 46) rfl (fun c37_0 => ?_) (fun c37_0 => ?_)
        · replace c37_0 : (m_doesFit w v1 v3) = 0 := jd_eq c37_0
          refine j_V.one mq2_M mq2_46 (by decide) (pcJ := 47) (stJ := [.int 0, .int v2]) rfl ?_
          exact Eq.subst (motive := fun z => j_V jP _ 242 47 _ (.int z :: [.int v2]) h Q) (show ((if (m_doesFit w v1 v3) = 0 then 0 else (1 <<< (v3 &&& 31))) : Int32) = 0 from (if_pos c37_0).trans (rfl)) (kk _ L)
        · replace c37_0 : ¬ ((m_doesFit w v1 v3) = 0) := jd_eqn c37_0
          refine j_V.one mq2_M mq2_40 (by decide) (pcJ := 41) (stJ := [.int 1, .int v2]) rfl ?_
          refine j_V.ldL mq2_M mq2_41 rfl (i := 3) (kd := 0) (v := .int v3) (pcJ := 42) rfl L rfl rfl rfl ?_
          refine j_V.one mq2_M mq2_42 (by decide) (pcJ := 43) (stJ := [.int (1 <<< (v3 &&& 31)), .int v2]) rfl ?_
          refine j_V.gto mq2_M mq2_43 (t := 47) rfl ?_
          exact Eq.subst (motive := fun z => j_V jP _ 242 47 _ (.int z :: [.int v2]) h Q) (show ((if (m_doesFit w v1 v3) = 0 then 0 else (1 <<< (v3 &&& 31))) : Int32) = (1 <<< (v3 &&& 31)) from (if_neg c37_0).trans (rfl)) (kk _ L)
      refine j_V.one mq2_M mq2_47 (by decide) (pcJ := 48) (stJ := [.int (v2 ||| ((if (m_doesFit w v1 v3) = 0 then 0 else (1 <<< (v3 &&& 31))) : Int32))]) rfl ?_
      refine j_V.stL mq2_M mq2_48 rfl (i := 2) (kd := 0) (kl' := [(0, .ref 359), (1, .int v1), (2, .int (v2 ||| ((if (m_doesFit w v1 v3) = 0 then 0 else (1 <<< (v3 &&& 31))) : Int32))), (3, .int v3)]) (pcJ := 49) rfl L rfl (by decide) rfl rfl rfl (fun lv L => ?_)
      refine j_V.inL mq2_M mq2_49 (i := 3) (kl' := [(0, .ref 359), (1, .int v1), (2, .int (v2 ||| ((if (m_doesFit w v1 v3) = 0 then 0 else (1 <<< (v3 &&& 31))) : Int32))), (3, .int (v3 + 1))]) (pcJ := 52) L rfl rfl rfl rfl (fun lv L => ?_)
      refine j_V.gto mq2_M mq2_52 (t := 18) rfl ?_
      rw [show (m_qfits_l18 w v1 (f + 1) v3 v2 th sst) = _ from (rfl)]
      exact ih _ _ _ _ (lpN_n e) L K
def m_qfits (th : Int32) (sst : Int32) (w : List Int32) (x1 : Int32) : Int32 × Int32 × Int32 := (if (m_isTrain w x1) = 0 then let z2 := (m_refuse th sst 2); ((z2.1), (z2.2.1), (z2.2.2)) else (m_qfits_l18 w x1 (lpN (gA w 202) 0) 0 0 th sst))
set_option maxRecDepth 1000000 in
theorem mq2_ok {u : Nat → Value} {th : Int32} {sst : Int32} {acs : Int32} {w : List Int32} {x1 : Int32} {d : Nat} {h h0 : J_H} (K : KN h [(359, .inl (10, [.int th, .ref 360, .ref 361, .ref 362, .ref 363, .ref 364, .ref 365, .ref 366, .ref 367, (u 9), .int sst, (u 11), (u 12), .int acs, (u 14), (u 15), (u 16), (u 17), (u 18), (u 19), (u 20), (u 21), .ref 368, (u 23), .ref 369, .ref 370, .ref 371, (u 27)])), (360, .inr (.inl (0, w)))] h0) : j_V jP d 242 0 (lv_args 0 [.ref 359, .int x1]) [] h (fun rv h' => rv = some (.int (m_qfits th sst w x1).1) ∧ KN h' [(359, .inl (10, [.int (m_qfits th sst w x1).2.1, .ref 360, .ref 361, .ref 362, .ref 363, .ref 364, .ref 365, .ref 366, .ref 367, (u 9), .int (m_qfits th sst w x1).2.2, (u 11), (u 12), .int acs, (u 14), (u 15), (u 16), (u 17), (u 18), (u 19), (u 20), (u 21), .ref 368, (u 23), .ref 369, .ref 370, .ref 371, (u 27)])), (360, .inr (.inl (0, w)))] h0) := by
  show j_V jP d 242 0 [(0, .ref 359), (1, .int x1)] [] h _
  obtain ⟨lv, elv, L⟩ : ∃ lv, lv = [(0, .ref 359), (1, .int x1)] ∧ LK lv [(0, .ref 359), (1, .int x1)] := ⟨_, rfl, LK.rf⟩
  rw [← elv]
  clear elv
  refine j_V.ldL mq2_M mq2_0 rfl (i := 0) (kd := 2) (v := .ref 359) (pcJ := 1) rfl L rfl rfl rfl ?_
  refine j_V.ldL mq2_M mq2_1 rfl (i := 1) (kd := 0) (v := .int x1) (pcJ := 2) rfl L rfl rfl rfl ?_
  refine j_V.cl mq2_M mq2_2 rfl (md := 3) (mj := 173) rfl (by decide) md0_M (As := [.ref 359, .int x1]) (rest := []) (jk_spl3 (K.at rfl) rfl rfl rfl (Nat.le_of_ble_eq_true rfl) (Nat.le_of_ble_eq_true rfl)) (fun d => md0_ok (u := fun j => [.int th, .ref 360, .ref 361, .ref 362, .ref 363, .ref 364, .ref 365, .ref 366, .ref 367, (u 9), .int sst, (u 11), (u 12), .int acs, (u 14), (u 15), (u 16), (u 17), (u 18), (u 19), (u 20), (u 21), .ref 368, (u 23), .ref 369, .ref 370, .ref 371, (u 27)].getD j .null) (K.fi [359, 360] rfl rfl)) ?_
  rintro r hz ⟨rfl, ez⟩
  rw [ez]
  clear ez
  show j_V jP _ 242 5 lv [.int (m_isTrain w x1)] h _
  refine j_V.ifc mq2_M mq2_5 (t := 14) rfl (fun c5_0 => ?_) (fun c5_0 => ?_)
  · replace c5_0 : ¬ ((m_isTrain w x1) = 0) := jd_ne c5_0
    refine j_V.one mq2_M mq2_14 (by decide) (pcJ := 15) (stJ := [.int 0]) rfl ?_
    refine j_V.stL mq2_M mq2_15 rfl (i := 2) (kd := 0) (kl' := [(0, .ref 359), (1, .int x1), (2, .int 0)]) (pcJ := 16) rfl L rfl (by decide) rfl rfl rfl (fun lv L => ?_)
    refine j_V.one mq2_M mq2_16 (by decide) (pcJ := 17) (stJ := [.int 0]) rfl ?_
    refine j_V.stL mq2_M mq2_17 rfl (i := 3) (kd := 0) (kl' := [(0, .ref 359), (1, .int x1), (2, .int 0), (3, .int 0)]) (pcJ := 18) rfl L rfl (by decide) rfl rfl rfl (fun lv L => ?_)
    rw [show (m_qfits th sst w x1) = _ from ((if_neg c5_0).trans (rfl))]
    exact mq2_ok_l18 _ _ _ _ _ rfl L K
  · replace c5_0 : (m_isTrain w x1) = 0 := jd_nen c5_0
    refine j_V.ldL mq2_M mq2_8 rfl (i := 0) (kd := 2) (v := .ref 359) (pcJ := 9) rfl L rfl rfl rfl ?_
    refine j_V.one mq2_M mq2_9 (by decide) (pcJ := 10) (stJ := [.int 2, .ref 359]) rfl ?_
    refine j_V.cl mq2_M mq2_10 rfl (md := 3) (mj := 169) rfl (by decide) mo0_M (As := [.ref 359, .int 2]) (rest := []) (jk_spl3 (K.at rfl) rfl rfl rfl (Nat.le_of_ble_eq_true rfl) (Nat.le_of_ble_eq_true rfl)) (fun d => mo0_ok (K.fi [359] rfl rfl)) ?_
    rintro r h9 ⟨rfl, K9⟩
    generalize ez2 : (m_refuse th sst 2) = z2 at K9 ⊢
    have K : KN h9 [(359, .inl (10, [.int (z2.2.1), .ref 360, .ref 361, .ref 362, .ref 363, .ref 364, .ref 365, .ref 366, .ref 367, (u 9), .int (z2.2.2), (u 11), (u 12), .int acs, (u 14), (u 15), (u 16), (u 17), (u 18), (u 19), (u 20), (u 21), .ref 368, (u 23), .ref 369, .ref 370, .ref 371, (u 27)])), (360, .inr (.inl (0, w)))] h0 := K.mg K9 rfl rfl
    clear K9
    show j_V jP _ 242 13 lv [.int (z2.1)] h9 _
    subst ez2
    refine j_V.ri mq2_M mq2_13 ?_
    rw [show (m_qfits th sst w x1) = _ from ((if_pos c5_0).trans (rfl))]
    exact ⟨rfl, K⟩
set_option maxRecDepth 100000 in
theorem mq3_M : j_meth jP 245 = some (yX10_blocks, cX10_blocks, 2, (some .int), 1, false, 10) := rfl
set_option maxRecDepth 100000 in
theorem mq3_0 : j_code jP 245 0 = some (.aload_n 0) := rfl
set_option maxRecDepth 100000 in
theorem mq3_1 : j_code jP 245 1 = some (.iload_n 1) := rfl
set_option maxRecDepth 100000 in
theorem mq3_2 : j_code jP 245 2 = some (.invokevirtual 310) := rfl
set_option maxRecDepth 100000 in
theorem mq3_5 : j_code jP 245 5 = some (.ifCond .ne 9) := rfl
set_option maxRecDepth 100000 in
theorem mq3_8 : j_code jP 245 8 = some (.aload_n 0) := rfl
set_option maxRecDepth 100000 in
theorem mq3_9 : j_code jP 245 9 = some (.iconst 2) := rfl
set_option maxRecDepth 100000 in
theorem mq3_10 : j_code jP 245 10 = some (.invokevirtual 179) := rfl
set_option maxRecDepth 100000 in
theorem mq3_13 : j_code jP 245 13 = some (.ireturn) := rfl
set_option maxRecDepth 100000 in
theorem mq3_14 : j_code jP 245 14 = some (.aload_n 0) := rfl
set_option maxRecDepth 100000 in
theorem mq3_15 : j_code jP 245 15 = some (.iload_n 1) := rfl
set_option maxRecDepth 100000 in
theorem mq3_16 : j_code jP 245 16 = some (.bipush 6) := rfl
set_option maxRecDepth 100000 in
theorem mq3_18 : j_code jP 245 18 = some (.invokevirtual 198) := rfl
set_option maxRecDepth 100000 in
theorem mq3_21 : j_code jP 245 21 = some (.iconst 1) := rfl
set_option maxRecDepth 100000 in
theorem mq3_22 : j_code jP 245 22 = some (.if_icmp .ne 11) := rfl
set_option maxRecDepth 100000 in
theorem mq3_25 : j_code jP 245 25 = some (.aload_n 0) := rfl
set_option maxRecDepth 100000 in
theorem mq3_26 : j_code jP 245 26 = some (.iload_n 1) := rfl
set_option maxRecDepth 100000 in
theorem mq3_27 : j_code jP 245 27 = some (.invokevirtual 250) := rfl
set_option maxRecDepth 100000 in
theorem mq3_30 : j_code jP 245 30 = some (.ifCond .ne 11) := rfl
set_option maxRecDepth 100000 in
theorem mq3_33 : j_code jP 245 33 = some (.aload_n 0) := rfl
set_option maxRecDepth 100000 in
theorem mq3_34 : j_code jP 245 34 = some (.iconst 5) := rfl
set_option maxRecDepth 100000 in
theorem mq3_35 : j_code jP 245 35 = some (.invokevirtual 179) := rfl
set_option maxRecDepth 100000 in
theorem mq3_38 : j_code jP 245 38 = some (.goto 12) := rfl
set_option maxRecDepth 100000 in
theorem mq3_41 : j_code jP 245 41 = some (.aload_n 0) := rfl
set_option maxRecDepth 100000 in
theorem mq3_42 : j_code jP 245 42 = some (.aload_n 0) := rfl
set_option maxRecDepth 100000 in
theorem mq3_43 : j_code jP 245 43 = some (.iload_n 1) := rfl
set_option maxRecDepth 100000 in
theorem mq3_44 : j_code jP 245 44 = some (.invokevirtual 323) := rfl
set_option maxRecDepth 100000 in
theorem mq3_47 : j_code jP 245 47 = some (.invokevirtual 195) := rfl
set_option maxRecDepth 100000 in
theorem mq3_50 : j_code jP 245 50 = some (.ireturn) := rfl
def m_qblocks (th : Int32) (sst : Int32) (w : List Int32) (x1 : Int32) : Int32 × Int32 × Int32 := (if (m_isTrain w x1) = 0 then let z9 := (m_refuse th sst 2); ((z9.1), (z9.2.1), (z9.2.2)) else (if (m_of w x1 6) = 1 then (if (m_whyNot w x1) = 0 then let z8 := (m_refuse th sst 5); ((z8.1), (z8.2.1), (z8.2.2)) else let z7 := (m_gives th sst (m_waitsFor w x1)); ((z7.1), (z7.2.1), (z7.2.2))) else let z4 := (m_refuse th sst 5); ((z4.1), (z4.2.1), (z4.2.2))))
set_option maxRecDepth 1000000 in
theorem mq3_ok {u : Nat → Value} {th : Int32} {sst : Int32} {acs : Int32} {w : List Int32} {x1 : Int32} {d : Nat} {h h0 : J_H} (K : KN h [(359, .inl (10, [.int th, .ref 360, .ref 361, .ref 362, .ref 363, .ref 364, .ref 365, .ref 366, .ref 367, (u 9), .int sst, (u 11), (u 12), .int acs, (u 14), (u 15), (u 16), (u 17), (u 18), (u 19), (u 20), (u 21), .ref 368, (u 23), .ref 369, .ref 370, .ref 371, (u 27)])), (360, .inr (.inl (0, w)))] h0) : j_V jP d 245 0 (lv_args 0 [.ref 359, .int x1]) [] h (fun rv h' => rv = some (.int (m_qblocks th sst w x1).1) ∧ KN h' [(359, .inl (10, [.int (m_qblocks th sst w x1).2.1, .ref 360, .ref 361, .ref 362, .ref 363, .ref 364, .ref 365, .ref 366, .ref 367, (u 9), .int (m_qblocks th sst w x1).2.2, (u 11), (u 12), .int acs, (u 14), (u 15), (u 16), (u 17), (u 18), (u 19), (u 20), (u 21), .ref 368, (u 23), .ref 369, .ref 370, .ref 371, (u 27)])), (360, .inr (.inl (0, w)))] h0) := by
  show j_V jP d 245 0 [(0, .ref 359), (1, .int x1)] [] h _
  obtain ⟨lv, elv, L⟩ : ∃ lv, lv = [(0, .ref 359), (1, .int x1)] ∧ LK lv [(0, .ref 359), (1, .int x1)] := ⟨_, rfl, LK.rf⟩
  rw [← elv]
  clear elv
  refine j_V.ldL mq3_M mq3_0 rfl (i := 0) (kd := 2) (v := .ref 359) (pcJ := 1) rfl L rfl rfl rfl ?_
  refine j_V.ldL mq3_M mq3_1 rfl (i := 1) (kd := 0) (v := .int x1) (pcJ := 2) rfl L rfl rfl rfl ?_
  refine j_V.cl mq3_M mq3_2 rfl (md := 3) (mj := 173) rfl (by decide) md0_M (As := [.ref 359, .int x1]) (rest := []) (jk_spl3 (K.at rfl) rfl rfl rfl (Nat.le_of_ble_eq_true rfl) (Nat.le_of_ble_eq_true rfl)) (fun d => md0_ok (u := fun j => [.int th, .ref 360, .ref 361, .ref 362, .ref 363, .ref 364, .ref 365, .ref 366, .ref 367, (u 9), .int sst, (u 11), (u 12), .int acs, (u 14), (u 15), (u 16), (u 17), (u 18), (u 19), (u 20), (u 21), .ref 368, (u 23), .ref 369, .ref 370, .ref 371, (u 27)].getD j .null) (K.fi [359, 360] rfl rfl)) ?_
  rintro r hz ⟨rfl, ez⟩
  rw [ez]
  clear ez
  show j_V jP _ 245 5 lv [.int (m_isTrain w x1)] h _
  refine j_V.ifc mq3_M mq3_5 (t := 14) rfl (fun c5_0 => ?_) (fun c5_0 => ?_)
  · replace c5_0 : ¬ ((m_isTrain w x1) = 0) := jd_ne c5_0
    refine j_V.ldL mq3_M mq3_14 rfl (i := 0) (kd := 2) (v := .ref 359) (pcJ := 15) rfl L rfl rfl rfl ?_
    refine j_V.ldL mq3_M mq3_15 rfl (i := 1) (kd := 0) (v := .int x1) (pcJ := 16) rfl L rfl rfl rfl ?_
    refine j_V.one mq3_M mq3_16 (by decide) (pcJ := 18) (stJ := [.int 6, .int x1, .ref 359]) rfl ?_
    refine j_V.cl mq3_M mq3_18 rfl (md := 3) (mj := 178) rfl (by decide) ma3_M (As := [.ref 359, .int x1, .int 6]) (rest := []) (jk_spl3 (K.at rfl) rfl rfl rfl (Nat.le_of_ble_eq_true rfl) (Nat.le_of_ble_eq_true rfl)) (fun d => ma3_ok (u := fun j => [.int th, .ref 360, .ref 361, .ref 362, .ref 363, .ref 364, .ref 365, .ref 366, .ref 367, (u 9), .int sst, (u 11), (u 12), .int acs, (u 14), (u 15), (u 16), (u 17), (u 18), (u 19), (u 20), (u 21), .ref 368, (u 23), .ref 369, .ref 370, .ref 371, (u 27)].getD j .null) (K.fi [359, 360] rfl rfl)) ?_
    rintro r hz ⟨rfl, ez⟩
    rw [ez]
    clear ez
    show j_V jP _ 245 21 lv [.int (m_of w x1 6)] h _
    refine j_V.one mq3_M mq3_21 (by decide) (pcJ := 22) (stJ := [.int 1, .int (m_of w x1 6)]) rfl ?_
    refine j_V.icmp mq3_M mq3_22 (t := 33) rfl (fun c22_1 => ?_) (fun c22_1 => ?_)
    · replace c22_1 : ¬ ((m_of w x1 6) = 1) := jd_ne c22_1
      refine j_V.ldL mq3_M mq3_33 rfl (i := 0) (kd := 2) (v := .ref 359) (pcJ := 34) rfl L rfl rfl rfl ?_
      refine j_V.one mq3_M mq3_34 (by decide) (pcJ := 35) (stJ := [.int 5, .ref 359]) rfl ?_
      refine j_V.cl mq3_M mq3_35 rfl (md := 3) (mj := 169) rfl (by decide) mo0_M (As := [.ref 359, .int 5]) (rest := []) (jk_spl3 (K.at rfl) rfl rfl rfl (Nat.le_of_ble_eq_true rfl) (Nat.le_of_ble_eq_true rfl)) (fun d => mo0_ok (K.fi [359] rfl rfl)) ?_
      rintro r h9 ⟨rfl, K9⟩
      generalize ez4 : (m_refuse th sst 5) = z4 at K9 ⊢
      have K : KN h9 [(359, .inl (10, [.int (z4.2.1), .ref 360, .ref 361, .ref 362, .ref 363, .ref 364, .ref 365, .ref 366, .ref 367, (u 9), .int (z4.2.2), (u 11), (u 12), .int acs, (u 14), (u 15), (u 16), (u 17), (u 18), (u 19), (u 20), (u 21), .ref 368, (u 23), .ref 369, .ref 370, .ref 371, (u 27)])), (360, .inr (.inl (0, w)))] h0 := K.mg K9 rfl rfl
      clear K9
      show j_V jP _ 245 38 lv [.int (z4.1)] h9 _
      refine j_V.gto mq3_M mq3_38 (t := 50) rfl ?_
      subst ez4
      refine j_V.ri mq3_M mq3_50 ?_
      rw [show (m_qblocks th sst w x1) = _ from ((if_neg c5_0).trans ((if_neg c22_1).trans (rfl)))]
      exact ⟨rfl, K⟩
    · replace c22_1 : (m_of w x1 6) = 1 := jd_nen c22_1
      refine j_V.ldL mq3_M mq3_25 rfl (i := 0) (kd := 2) (v := .ref 359) (pcJ := 26) rfl L rfl rfl rfl ?_
      refine j_V.ldL mq3_M mq3_26 rfl (i := 1) (kd := 0) (v := .int x1) (pcJ := 27) rfl L rfl rfl rfl ?_
      refine j_V.cl mq3_M mq3_27 rfl (md := 3) (mj := 214) rfl (by decide) mb5_M (As := [.ref 359, .int x1]) (rest := []) (jk_spl3 (K.at rfl) rfl rfl rfl (Nat.le_of_ble_eq_true rfl) (Nat.le_of_ble_eq_true rfl)) (fun d => mb5_ok (u := fun j => [.int th, .ref 360, .ref 361, .ref 362, .ref 363, .ref 364, .ref 365, .ref 366, .ref 367, (u 9), .int sst, (u 11), (u 12), .int acs, (u 14), (u 15), (u 16), (u 17), (u 18), (u 19), (u 20), (u 21), .ref 368, (u 23), .ref 369, .ref 370, .ref 371, (u 27)].getD j .null) (K.fi [359, 360] rfl rfl)) ?_
      rintro r hz ⟨rfl, ez⟩
      rw [ez]
      clear ez
      show j_V jP _ 245 30 lv [.int (m_whyNot w x1)] h _
      refine j_V.ifc mq3_M mq3_30 (t := 41) rfl (fun c30_2 => ?_) (fun c30_2 => ?_)
      · replace c30_2 : ¬ ((m_whyNot w x1) = 0) := jd_ne c30_2
        refine j_V.ldL mq3_M mq3_41 rfl (i := 0) (kd := 2) (v := .ref 359) (pcJ := 42) rfl L rfl rfl rfl ?_
        refine j_V.ldL mq3_M mq3_42 rfl (i := 0) (kd := 2) (v := .ref 359) (pcJ := 43) rfl L rfl rfl rfl ?_
        refine j_V.ldL mq3_M mq3_43 rfl (i := 1) (kd := 0) (v := .int x1) (pcJ := 44) rfl L rfl rfl rfl ?_
        refine j_V.cl mq3_M mq3_44 rfl (md := 3) (mj := 244) rfl (by decide) mc7_M (As := [.ref 359, .int x1]) (rest := [.ref 359]) (jk_spl3 (K.at rfl) rfl rfl rfl (Nat.le_of_ble_eq_true rfl) (Nat.le_of_ble_eq_true rfl)) (fun d => mc7_ok (u := fun j => [.int th, .ref 360, .ref 361, .ref 362, .ref 363, .ref 364, .ref 365, .ref 366, .ref 367, (u 9), .int sst, (u 11), (u 12), .int acs, (u 14), (u 15), (u 16), (u 17), (u 18), (u 19), (u 20), (u 21), .ref 368, (u 23), .ref 369, .ref 370, .ref 371, (u 27)].getD j .null) (K.fi [359, 360] rfl rfl)) ?_
        rintro r hz ⟨rfl, ez⟩
        rw [ez]
        clear ez
        show j_V jP _ 245 47 lv [.int (m_waitsFor w x1), .ref 359] h _
        refine j_V.cl mq3_M mq3_47 rfl (md := 3) (mj := 170) rfl (by decide) mo1_M (As := [.ref 359, .int (m_waitsFor w x1)]) (rest := []) (jk_spl3 (K.at rfl) rfl rfl rfl (Nat.le_of_ble_eq_true rfl) (Nat.le_of_ble_eq_true rfl)) (fun d => mo1_ok (K.fi [359] rfl rfl)) ?_
        rintro r h9 ⟨rfl, K9⟩
        generalize ez7 : (m_gives th sst (m_waitsFor w x1)) = z7 at K9 ⊢
        have K : KN h9 [(359, .inl (10, [.int (z7.2.1), .ref 360, .ref 361, .ref 362, .ref 363, .ref 364, .ref 365, .ref 366, .ref 367, (u 9), .int (z7.2.2), (u 11), (u 12), .int acs, (u 14), (u 15), (u 16), (u 17), (u 18), (u 19), (u 20), (u 21), .ref 368, (u 23), .ref 369, .ref 370, .ref 371, (u 27)])), (360, .inr (.inl (0, w)))] h0 := K.mg K9 rfl rfl
        clear K9
        show j_V jP _ 245 50 lv [.int (z7.1)] h9 _
        subst ez7
        refine j_V.ri mq3_M mq3_50 ?_
        rw [show (m_qblocks th sst w x1) = _ from ((if_neg c5_0).trans ((if_pos c22_1).trans ((if_neg c30_2).trans (rfl))))]
        exact ⟨rfl, K⟩
      · replace c30_2 : (m_whyNot w x1) = 0 := jd_nen c30_2
        refine j_V.ldL mq3_M mq3_33 rfl (i := 0) (kd := 2) (v := .ref 359) (pcJ := 34) rfl L rfl rfl rfl ?_
        refine j_V.one mq3_M mq3_34 (by decide) (pcJ := 35) (stJ := [.int 5, .ref 359]) rfl ?_
        refine j_V.cl mq3_M mq3_35 rfl (md := 3) (mj := 169) rfl (by decide) mo0_M (As := [.ref 359, .int 5]) (rest := []) (jk_spl3 (K.at rfl) rfl rfl rfl (Nat.le_of_ble_eq_true rfl) (Nat.le_of_ble_eq_true rfl)) (fun d => mo0_ok (K.fi [359] rfl rfl)) ?_
        rintro r h9 ⟨rfl, K9⟩
        generalize ez8 : (m_refuse th sst 5) = z8 at K9 ⊢
        have K : KN h9 [(359, .inl (10, [.int (z8.2.1), .ref 360, .ref 361, .ref 362, .ref 363, .ref 364, .ref 365, .ref 366, .ref 367, (u 9), .int (z8.2.2), (u 11), (u 12), .int acs, (u 14), (u 15), (u 16), (u 17), (u 18), (u 19), (u 20), (u 21), .ref 368, (u 23), .ref 369, .ref 370, .ref 371, (u 27)])), (360, .inr (.inl (0, w)))] h0 := K.mg K9 rfl rfl
        clear K9
        show j_V jP _ 245 38 lv [.int (z8.1)] h9 _
        refine j_V.gto mq3_M mq3_38 (t := 50) rfl ?_
        subst ez8
        refine j_V.ri mq3_M mq3_50 ?_
        rw [show (m_qblocks th sst w x1) = _ from ((if_neg c5_0).trans ((if_pos c22_1).trans ((if_pos c30_2).trans (rfl))))]
        exact ⟨rfl, K⟩
  · replace c5_0 : (m_isTrain w x1) = 0 := jd_nen c5_0
    refine j_V.ldL mq3_M mq3_8 rfl (i := 0) (kd := 2) (v := .ref 359) (pcJ := 9) rfl L rfl rfl rfl ?_
    refine j_V.one mq3_M mq3_9 (by decide) (pcJ := 10) (stJ := [.int 2, .ref 359]) rfl ?_
    refine j_V.cl mq3_M mq3_10 rfl (md := 3) (mj := 169) rfl (by decide) mo0_M (As := [.ref 359, .int 2]) (rest := []) (jk_spl3 (K.at rfl) rfl rfl rfl (Nat.le_of_ble_eq_true rfl) (Nat.le_of_ble_eq_true rfl)) (fun d => mo0_ok (K.fi [359] rfl rfl)) ?_
    rintro r h9 ⟨rfl, K9⟩
    generalize ez9 : (m_refuse th sst 2) = z9 at K9 ⊢
    have K : KN h9 [(359, .inl (10, [.int (z9.2.1), .ref 360, .ref 361, .ref 362, .ref 363, .ref 364, .ref 365, .ref 366, .ref 367, (u 9), .int (z9.2.2), (u 11), (u 12), .int acs, (u 14), (u 15), (u 16), (u 17), (u 18), (u 19), (u 20), (u 21), .ref 368, (u 23), .ref 369, .ref 370, .ref 371, (u 27)])), (360, .inr (.inl (0, w)))] h0 := K.mg K9 rfl rfl
    clear K9
    show j_V jP _ 245 13 lv [.int (z9.1)] h9 _
    subst ez9
    refine j_V.ri mq3_M mq3_13 ?_
    rw [show (m_qblocks th sst w x1) = _ from ((if_pos c5_0).trans (rfl))]
    exact ⟨rfl, K⟩
set_option maxRecDepth 100000 in
theorem mq4_M : j_meth jP 247 = some (yX10_section, cX10_section, 3, (some .int), 1, false, 10) := rfl
set_option maxRecDepth 100000 in
theorem mq4_0 : j_code jP 247 0 = some (.aload_n 0) := rfl
set_option maxRecDepth 100000 in
theorem mq4_1 : j_code jP 247 1 = some (.iload_n 1) := rfl
set_option maxRecDepth 100000 in
theorem mq4_2 : j_code jP 247 2 = some (.invokevirtual 326) := rfl
set_option maxRecDepth 100000 in
theorem mq4_5 : j_code jP 247 5 = some (.ifCond .ne 9) := rfl
set_option maxRecDepth 100000 in
theorem mq4_8 : j_code jP 247 8 = some (.aload_n 0) := rfl
set_option maxRecDepth 100000 in
theorem mq4_9 : j_code jP 247 9 = some (.iconst 2) := rfl
set_option maxRecDepth 100000 in
theorem mq4_10 : j_code jP 247 10 = some (.invokevirtual 179) := rfl
set_option maxRecDepth 100000 in
theorem mq4_13 : j_code jP 247 13 = some (.ireturn) := rfl
set_option maxRecDepth 100000 in
theorem mq4_14 : j_code jP 247 14 = some (.aload_n 0) := rfl
set_option maxRecDepth 100000 in
theorem mq4_15 : j_code jP 247 15 = some (.iload_n 1) := rfl
set_option maxRecDepth 100000 in
theorem mq4_16 : j_code jP 247 16 = some (.invokevirtual 231) := rfl
set_option maxRecDepth 100000 in
theorem mq4_19 : j_code jP 247 19 = some (.istore_n 2) := rfl
set_option maxRecDepth 100000 in
theorem mq4_20 : j_code jP 247 20 = some (.iload_n 2) := rfl
set_option maxRecDepth 100000 in
theorem mq4_21 : j_code jP 247 21 = some (.iconst (-1)) := rfl
set_option maxRecDepth 100000 in
theorem mq4_22 : j_code jP 247 22 = some (.if_icmp .ne 11) := rfl
set_option maxRecDepth 100000 in
theorem mq4_25 : j_code jP 247 25 = some (.aload_n 0) := rfl
set_option maxRecDepth 100000 in
theorem mq4_26 : j_code jP 247 26 = some (.iconst 5) := rfl
set_option maxRecDepth 100000 in
theorem mq4_27 : j_code jP 247 27 = some (.invokevirtual 179) := rfl
set_option maxRecDepth 100000 in
theorem mq4_30 : j_code jP 247 30 = some (.goto 8) := rfl
set_option maxRecDepth 100000 in
theorem mq4_33 : j_code jP 247 33 = some (.aload_n 0) := rfl
set_option maxRecDepth 100000 in
theorem mq4_34 : j_code jP 247 34 = some (.iload_n 2) := rfl
set_option maxRecDepth 100000 in
theorem mq4_35 : j_code jP 247 35 = some (.invokevirtual 195) := rfl
set_option maxRecDepth 100000 in
theorem mq4_38 : j_code jP 247 38 = some (.ireturn) := rfl
def m_qsection (th : Int32) (sst : Int32) (w : List Int32) (x1 : Int32) : Int32 × Int32 × Int32 := (if (m_isSection w x1) = 0 then let z5 := (m_refuse th sst 2); ((z5.1), (z5.2.1), (z5.2.2)) else (if (m_whoOn w x1) = (-1) then let z4 := (m_refuse th sst 5); ((z4.1), (z4.2.1), (z4.2.2)) else let z3 := (m_gives th sst (m_whoOn w x1)); ((z3.1), (z3.2.1), (z3.2.2))))
set_option maxRecDepth 1000000 in
theorem mq4_ok {u : Nat → Value} {th : Int32} {sst : Int32} {acs : Int32} {w : List Int32} {x1 : Int32} {d : Nat} {h h0 : J_H} (K : KN h [(359, .inl (10, [.int th, .ref 360, .ref 361, .ref 362, .ref 363, .ref 364, .ref 365, .ref 366, .ref 367, (u 9), .int sst, (u 11), (u 12), .int acs, (u 14), (u 15), (u 16), (u 17), (u 18), (u 19), (u 20), (u 21), .ref 368, (u 23), .ref 369, .ref 370, .ref 371, (u 27)])), (360, .inr (.inl (0, w)))] h0) : j_V jP d 247 0 (lv_args 0 [.ref 359, .int x1]) [] h (fun rv h' => rv = some (.int (m_qsection th sst w x1).1) ∧ KN h' [(359, .inl (10, [.int (m_qsection th sst w x1).2.1, .ref 360, .ref 361, .ref 362, .ref 363, .ref 364, .ref 365, .ref 366, .ref 367, (u 9), .int (m_qsection th sst w x1).2.2, (u 11), (u 12), .int acs, (u 14), (u 15), (u 16), (u 17), (u 18), (u 19), (u 20), (u 21), .ref 368, (u 23), .ref 369, .ref 370, .ref 371, (u 27)])), (360, .inr (.inl (0, w)))] h0) := by
  show j_V jP d 247 0 [(0, .ref 359), (1, .int x1)] [] h _
  obtain ⟨lv, elv, L⟩ : ∃ lv, lv = [(0, .ref 359), (1, .int x1)] ∧ LK lv [(0, .ref 359), (1, .int x1)] := ⟨_, rfl, LK.rf⟩
  rw [← elv]
  clear elv
  refine j_V.ldL mq4_M mq4_0 rfl (i := 0) (kd := 2) (v := .ref 359) (pcJ := 1) rfl L rfl rfl rfl ?_
  refine j_V.ldL mq4_M mq4_1 rfl (i := 1) (kd := 0) (v := .int x1) (pcJ := 2) rfl L rfl rfl rfl ?_
  refine j_V.cl mq4_M mq4_2 rfl (md := 3) (mj := 174) rfl (by decide) md1_M (As := [.ref 359, .int x1]) (rest := []) (jk_spl3 (K.at rfl) rfl rfl rfl (Nat.le_of_ble_eq_true rfl) (Nat.le_of_ble_eq_true rfl)) (fun d => md1_ok (u := fun j => [.int th, .ref 360, .ref 361, .ref 362, .ref 363, .ref 364, .ref 365, .ref 366, .ref 367, (u 9), .int sst, (u 11), (u 12), .int acs, (u 14), (u 15), (u 16), (u 17), (u 18), (u 19), (u 20), (u 21), .ref 368, (u 23), .ref 369, .ref 370, .ref 371, (u 27)].getD j .null) (K.fi [359, 360] rfl rfl)) ?_
  rintro r hz ⟨rfl, ez⟩
  rw [ez]
  clear ez
  show j_V jP _ 247 5 lv [.int (m_isSection w x1)] h _
  refine j_V.ifc mq4_M mq4_5 (t := 14) rfl (fun c5_0 => ?_) (fun c5_0 => ?_)
  · replace c5_0 : ¬ ((m_isSection w x1) = 0) := jd_ne c5_0
    refine j_V.ldL mq4_M mq4_14 rfl (i := 0) (kd := 2) (v := .ref 359) (pcJ := 15) rfl L rfl rfl rfl ?_
    refine j_V.ldL mq4_M mq4_15 rfl (i := 1) (kd := 0) (v := .int x1) (pcJ := 16) rfl L rfl rfl rfl ?_
    refine j_V.cl mq4_M mq4_16 rfl (md := 3) (mj := 210) rfl (by decide) mb1_M (As := [.ref 359, .int x1]) (rest := []) (jk_spl3 (K.at rfl) rfl rfl rfl (Nat.le_of_ble_eq_true rfl) (Nat.le_of_ble_eq_true rfl)) (fun d => mb1_ok (u := fun j => [.int th, .ref 360, .ref 361, .ref 362, .ref 363, .ref 364, .ref 365, .ref 366, .ref 367, (u 9), .int sst, (u 11), (u 12), .int acs, (u 14), (u 15), (u 16), (u 17), (u 18), (u 19), (u 20), (u 21), .ref 368, (u 23), .ref 369, .ref 370, .ref 371, (u 27)].getD j .null) (K.fi [359, 360] rfl rfl)) ?_
    rintro r hz ⟨rfl, ez⟩
    rw [ez]
    clear ez
    show j_V jP _ 247 19 lv [.int (m_whoOn w x1)] h _
    refine j_V.stL mq4_M mq4_19 rfl (i := 2) (kd := 0) (kl' := [(0, .ref 359), (1, .int x1), (2, .int (m_whoOn w x1))]) (pcJ := 20) rfl L rfl (by decide) rfl rfl rfl (fun lv L => ?_)
    refine j_V.ldL mq4_M mq4_20 rfl (i := 2) (kd := 0) (v := .int (m_whoOn w x1)) (pcJ := 21) rfl L rfl rfl rfl ?_
    refine j_V.one mq4_M mq4_21 (by decide) (pcJ := 22) (stJ := [.int (-1), .int (m_whoOn w x1)]) rfl ?_
    refine j_V.icmp mq4_M mq4_22 (t := 33) rfl (fun c22_1 => ?_) (fun c22_1 => ?_)
    · replace c22_1 : ¬ ((m_whoOn w x1) = (-1)) := jd_ne c22_1
      refine j_V.ldL mq4_M mq4_33 rfl (i := 0) (kd := 2) (v := .ref 359) (pcJ := 34) rfl L rfl rfl rfl ?_
      refine j_V.ldL mq4_M mq4_34 rfl (i := 2) (kd := 0) (v := .int (m_whoOn w x1)) (pcJ := 35) rfl L rfl rfl rfl ?_
      refine j_V.cl mq4_M mq4_35 rfl (md := 3) (mj := 170) rfl (by decide) mo1_M (As := [.ref 359, .int (m_whoOn w x1)]) (rest := []) (jk_spl3 (K.at rfl) rfl rfl rfl (Nat.le_of_ble_eq_true rfl) (Nat.le_of_ble_eq_true rfl)) (fun d => mo1_ok (K.fi [359] rfl rfl)) ?_
      rintro r h9 ⟨rfl, K9⟩
      generalize ez3 : (m_gives th sst (m_whoOn w x1)) = z3 at K9 ⊢
      have K : KN h9 [(359, .inl (10, [.int (z3.2.1), .ref 360, .ref 361, .ref 362, .ref 363, .ref 364, .ref 365, .ref 366, .ref 367, (u 9), .int (z3.2.2), (u 11), (u 12), .int acs, (u 14), (u 15), (u 16), (u 17), (u 18), (u 19), (u 20), (u 21), .ref 368, (u 23), .ref 369, .ref 370, .ref 371, (u 27)])), (360, .inr (.inl (0, w)))] h0 := K.mg K9 rfl rfl
      clear K9
      show j_V jP _ 247 38 lv [.int (z3.1)] h9 _
      subst ez3
      refine j_V.ri mq4_M mq4_38 ?_
      rw [show (m_qsection th sst w x1) = _ from ((if_neg c5_0).trans ((if_neg c22_1).trans (rfl)))]
      exact ⟨rfl, K⟩
    · replace c22_1 : (m_whoOn w x1) = (-1) := jd_nen c22_1
      refine j_V.ldL mq4_M mq4_25 rfl (i := 0) (kd := 2) (v := .ref 359) (pcJ := 26) rfl L rfl rfl rfl ?_
      refine j_V.one mq4_M mq4_26 (by decide) (pcJ := 27) (stJ := [.int 5, .ref 359]) rfl ?_
      refine j_V.cl mq4_M mq4_27 rfl (md := 3) (mj := 169) rfl (by decide) mo0_M (As := [.ref 359, .int 5]) (rest := []) (jk_spl3 (K.at rfl) rfl rfl rfl (Nat.le_of_ble_eq_true rfl) (Nat.le_of_ble_eq_true rfl)) (fun d => mo0_ok (K.fi [359] rfl rfl)) ?_
      rintro r h9 ⟨rfl, K9⟩
      generalize ez4 : (m_refuse th sst 5) = z4 at K9 ⊢
      have K : KN h9 [(359, .inl (10, [.int (z4.2.1), .ref 360, .ref 361, .ref 362, .ref 363, .ref 364, .ref 365, .ref 366, .ref 367, (u 9), .int (z4.2.2), (u 11), (u 12), .int acs, (u 14), (u 15), (u 16), (u 17), (u 18), (u 19), (u 20), (u 21), .ref 368, (u 23), .ref 369, .ref 370, .ref 371, (u 27)])), (360, .inr (.inl (0, w)))] h0 := K.mg K9 rfl rfl
      clear K9
      show j_V jP _ 247 30 lv [.int (z4.1)] h9 _
      refine j_V.gto mq4_M mq4_30 (t := 38) rfl ?_
      subst ez4
      refine j_V.ri mq4_M mq4_38 ?_
      rw [show (m_qsection th sst w x1) = _ from ((if_neg c5_0).trans ((if_pos c22_1).trans (rfl)))]
      exact ⟨rfl, K⟩
  · replace c5_0 : (m_isSection w x1) = 0 := jd_nen c5_0
    refine j_V.ldL mq4_M mq4_8 rfl (i := 0) (kd := 2) (v := .ref 359) (pcJ := 9) rfl L rfl rfl rfl ?_
    refine j_V.one mq4_M mq4_9 (by decide) (pcJ := 10) (stJ := [.int 2, .ref 359]) rfl ?_
    refine j_V.cl mq4_M mq4_10 rfl (md := 3) (mj := 169) rfl (by decide) mo0_M (As := [.ref 359, .int 2]) (rest := []) (jk_spl3 (K.at rfl) rfl rfl rfl (Nat.le_of_ble_eq_true rfl) (Nat.le_of_ble_eq_true rfl)) (fun d => mo0_ok (K.fi [359] rfl rfl)) ?_
    rintro r h9 ⟨rfl, K9⟩
    generalize ez5 : (m_refuse th sst 2) = z5 at K9 ⊢
    have K : KN h9 [(359, .inl (10, [.int (z5.2.1), .ref 360, .ref 361, .ref 362, .ref 363, .ref 364, .ref 365, .ref 366, .ref 367, (u 9), .int (z5.2.2), (u 11), (u 12), .int acs, (u 14), (u 15), (u 16), (u 17), (u 18), (u 19), (u 20), (u 21), .ref 368, (u 23), .ref 369, .ref 370, .ref 371, (u 27)])), (360, .inr (.inl (0, w)))] h0 := K.mg K9 rfl rfl
    clear K9
    show j_V jP _ 247 13 lv [.int (z5.1)] h9 _
    subst ez5
    refine j_V.ri mq4_M mq4_13 ?_
    rw [show (m_qsection th sst w x1) = _ from ((if_pos c5_0).trans (rfl))]
    exact ⟨rfl, K⟩
set_option maxRecDepth 100000 in
theorem mq5_M : j_meth jP 251 = some (yX10_links, cX10_links, 3, (some .int), 2, false, 10) := rfl
set_option maxRecDepth 100000 in
theorem mq5_0 : j_code jP 251 0 = some (.iload_n 1) := rfl
set_option maxRecDepth 100000 in
theorem mq5_1 : j_code jP 251 1 = some (.iconst (-1)) := rfl
set_option maxRecDepth 100000 in
theorem mq5_2 : j_code jP 251 2 = some (.if_icmp .lt 21) := rfl
set_option maxRecDepth 100000 in
theorem mq5_5 : j_code jP 251 5 = some (.iload_n 2) := rfl
set_option maxRecDepth 100000 in
theorem mq5_6 : j_code jP 251 6 = some (.iconst 0) := rfl
set_option maxRecDepth 100000 in
theorem mq5_7 : j_code jP 251 7 = some (.iload_n 1) := rfl
set_option maxRecDepth 100000 in
theorem mq5_8 : j_code jP 251 8 = some (.iconst (-1)) := rfl
set_option maxRecDepth 100000 in
theorem mq5_9 : j_code jP 251 9 = some (.if_icmp .ne 7) := rfl
set_option maxRecDepth 100000 in
theorem mq5_12 : j_code jP 251 12 = some (.iconst 0) := rfl
set_option maxRecDepth 100000 in
theorem mq5_13 : j_code jP 251 13 = some (.goto 4) := rfl
set_option maxRecDepth 100000 in
theorem mq5_16 : j_code jP 251 16 = some (.iconst 3) := rfl
set_option maxRecDepth 100000 in
theorem mq5_17 : j_code jP 251 17 = some (.invokestatic 61) := rfl
set_option maxRecDepth 100000 in
theorem mq5_20 : j_code jP 251 20 = some (.ifCond .ne 9) := rfl
set_option maxRecDepth 100000 in
theorem mq5_23 : j_code jP 251 23 = some (.aload_n 0) := rfl
set_option maxRecDepth 100000 in
theorem mq5_24 : j_code jP 251 24 = some (.iconst 1) := rfl
set_option maxRecDepth 100000 in
theorem mq5_25 : j_code jP 251 25 = some (.invokevirtual 179) := rfl
set_option maxRecDepth 100000 in
theorem mq5_28 : j_code jP 251 28 = some (.ireturn) := rfl
set_option maxRecDepth 100000 in
theorem mq5_29 : j_code jP 251 29 = some (.iload_n 1) := rfl
set_option maxRecDepth 100000 in
theorem mq5_30 : j_code jP 251 30 = some (.iconst (-1)) := rfl
set_option maxRecDepth 100000 in
theorem mq5_31 : j_code jP 251 31 = some (.if_icmp .ne 16) := rfl
set_option maxRecDepth 100000 in
theorem mq5_34 : j_code jP 251 34 = some (.aload_n 0) := rfl
set_option maxRecDepth 100000 in
theorem mq5_35 : j_code jP 251 35 = some (.aload_n 0) := rfl
set_option maxRecDepth 100000 in
theorem mq5_36 : j_code jP 251 36 = some (.getfield 7) := rfl
set_option maxRecDepth 100000 in
theorem mq5_39 : j_code jP 251 39 = some (.sipush 296) := rfl
set_option maxRecDepth 100000 in
theorem mq5_42 : j_code jP 251 42 = some (.iaload) := rfl
set_option maxRecDepth 100000 in
theorem mq5_43 : j_code jP 251 43 = some (.invokevirtual 195) := rfl
set_option maxRecDepth 100000 in
theorem mq5_46 : j_code jP 251 46 = some (.ireturn) := rfl
set_option maxRecDepth 100000 in
theorem mq5_47 : j_code jP 251 47 = some (.iload_n 1) := rfl
set_option maxRecDepth 100000 in
theorem mq5_48 : j_code jP 251 48 = some (.aload_n 0) := rfl
set_option maxRecDepth 100000 in
theorem mq5_49 : j_code jP 251 49 = some (.getfield 7) := rfl
set_option maxRecDepth 100000 in
theorem mq5_52 : j_code jP 251 52 = some (.sipush 296) := rfl
set_option maxRecDepth 100000 in
theorem mq5_55 : j_code jP 251 55 = some (.iaload) := rfl
set_option maxRecDepth 100000 in
theorem mq5_56 : j_code jP 251 56 = some (.if_icmp .lt 9) := rfl
set_option maxRecDepth 100000 in
theorem mq5_59 : j_code jP 251 59 = some (.aload_n 0) := rfl
set_option maxRecDepth 100000 in
theorem mq5_60 : j_code jP 251 60 = some (.iconst 5) := rfl
set_option maxRecDepth 100000 in
theorem mq5_61 : j_code jP 251 61 = some (.invokevirtual 179) := rfl
set_option maxRecDepth 100000 in
theorem mq5_64 : j_code jP 251 64 = some (.ireturn) := rfl
set_option maxRecDepth 100000 in
theorem mq5_65 : j_code jP 251 65 = some (.aload_n 0) := rfl
set_option maxRecDepth 100000 in
theorem mq5_66 : j_code jP 251 66 = some (.iload_n 2) := rfl
set_option maxRecDepth 100000 in
theorem mq5_67 : j_code jP 251 67 = some (.iconst 3) := rfl
set_option maxRecDepth 100000 in
theorem mq5_68 : j_code jP 251 68 = some (.if_icmp .ne 19) := rfl
set_option maxRecDepth 100000 in
theorem mq5_71 : j_code jP 251 71 = some (.aload_n 0) := rfl
set_option maxRecDepth 100000 in
theorem mq5_72 : j_code jP 251 72 = some (.iload_n 1) := rfl
set_option maxRecDepth 100000 in
theorem mq5_73 : j_code jP 251 73 = some (.invokevirtual 262) := rfl
set_option maxRecDepth 100000 in
theorem mq5_76 : j_code jP 251 76 = some (.ifCond .eq 7) := rfl
set_option maxRecDepth 100000 in
theorem mq5_79 : j_code jP 251 79 = some (.iconst 1) := rfl
set_option maxRecDepth 100000 in
theorem mq5_80 : j_code jP 251 80 = some (.goto 13) := rfl
set_option maxRecDepth 100000 in
theorem mq5_83 : j_code jP 251 83 = some (.iconst 0) := rfl
set_option maxRecDepth 100000 in
theorem mq5_84 : j_code jP 251 84 = some (.goto 9) := rfl
set_option maxRecDepth 100000 in
theorem mq5_87 : j_code jP 251 87 = some (.aload_n 0) := rfl
set_option maxRecDepth 100000 in
theorem mq5_88 : j_code jP 251 88 = some (.iload_n 1) := rfl
set_option maxRecDepth 100000 in
theorem mq5_89 : j_code jP 251 89 = some (.iload_n 2) := rfl
set_option maxRecDepth 100000 in
theorem mq5_90 : j_code jP 251 90 = some (.invokevirtual 259) := rfl
set_option maxRecDepth 100000 in
theorem mq5_93 : j_code jP 251 93 = some (.invokevirtual 195) := rfl
set_option maxRecDepth 100000 in
theorem mq5_96 : j_code jP 251 96 = some (.ireturn) := rfl
def m_qlinks (th : Int32) (sst : Int32) (w : List Int32) (x1 : Int32) (x2 : Int32) : Int32 × Int32 × Int32 := (if x1 < (-1) then let z1 := (m_refuse th sst 1); ((z1.1), (z1.2.1), (z1.2.2)) else (if (m_isFrom x2 0 ((if x1 = (-1) then 0 else 3) : Int32)) = 0 then let z5 := (m_refuse th sst 1); ((z5.1), (z5.2.1), (z5.2.2)) else (if x1 = (-1) then let z4 := (m_gives th sst (gA w 296)); ((z4.1), (z4.2.1), (z4.2.2)) else (if x1 < (gA w 296) then let z2 := (m_gives th sst ((if x2 = 3 then (if (m_keepsIt w x1) = 0 then 0 else 1) else (m_link0 w x1 x2)) : Int32)); ((z2.1), (z2.2.1), (z2.2.2)) else let z3 := (m_refuse th sst 5); ((z3.1), (z3.2.1), (z3.2.2))))))
set_option maxRecDepth 1000000 in
theorem mq5_ok {u : Nat → Value} {th : Int32} {sst : Int32} {acs : Int32} {w : List Int32} {x1 x2 : Int32} {d : Nat} {h h0 : J_H} (K : KN h [(359, .inl (10, [.int th, .ref 360, .ref 361, .ref 362, .ref 363, .ref 364, .ref 365, .ref 366, .ref 367, (u 9), .int sst, (u 11), (u 12), .int acs, (u 14), (u 15), (u 16), (u 17), (u 18), (u 19), (u 20), (u 21), .ref 368, (u 23), .ref 369, .ref 370, .ref 371, (u 27)])), (360, .inr (.inl (0, w)))] h0) : j_V jP d 251 0 (lv_args 0 [.ref 359, .int x1, .int x2]) [] h (fun rv h' => rv = some (.int (m_qlinks th sst w x1 x2).1) ∧ KN h' [(359, .inl (10, [.int (m_qlinks th sst w x1 x2).2.1, .ref 360, .ref 361, .ref 362, .ref 363, .ref 364, .ref 365, .ref 366, .ref 367, (u 9), .int (m_qlinks th sst w x1 x2).2.2, (u 11), (u 12), .int acs, (u 14), (u 15), (u 16), (u 17), (u 18), (u 19), (u 20), (u 21), .ref 368, (u 23), .ref 369, .ref 370, .ref 371, (u 27)])), (360, .inr (.inl (0, w)))] h0) := by
  show j_V jP d 251 0 [(0, .ref 359), (1, .int x1), (2, .int x2)] [] h _
  obtain ⟨lv, elv, L⟩ : ∃ lv, lv = [(0, .ref 359), (1, .int x1), (2, .int x2)] ∧ LK lv [(0, .ref 359), (1, .int x1), (2, .int x2)] := ⟨_, rfl, LK.rf⟩
  rw [← elv]
  clear elv
  refine j_V.ldL mq5_M mq5_0 rfl (i := 1) (kd := 0) (v := .int x1) (pcJ := 1) rfl L rfl rfl rfl ?_
  refine j_V.one mq5_M mq5_1 (by decide) (pcJ := 2) (stJ := [.int (-1), .int x1]) rfl ?_
  refine j_V.icmp mq5_M mq5_2 (t := 23) rfl (fun c2_0 => ?_) (fun c2_0 => ?_)
  · replace c2_0 : x1 < (-1) := jd_lt c2_0
    refine j_V.ldL mq5_M mq5_23 rfl (i := 0) (kd := 2) (v := .ref 359) (pcJ := 24) rfl L rfl rfl rfl ?_
    refine j_V.one mq5_M mq5_24 (by decide) (pcJ := 25) (stJ := [.int 1, .ref 359]) rfl ?_
    refine j_V.cl mq5_M mq5_25 rfl (md := 3) (mj := 169) rfl (by decide) mo0_M (As := [.ref 359, .int 1]) (rest := []) (jk_spl3 (K.at rfl) rfl rfl rfl (Nat.le_of_ble_eq_true rfl) (Nat.le_of_ble_eq_true rfl)) (fun d => mo0_ok (K.fi [359] rfl rfl)) ?_
    rintro r h9 ⟨rfl, K9⟩
    generalize ez1 : (m_refuse th sst 1) = z1 at K9 ⊢
    have K : KN h9 [(359, .inl (10, [.int (z1.2.1), .ref 360, .ref 361, .ref 362, .ref 363, .ref 364, .ref 365, .ref 366, .ref 367, (u 9), .int (z1.2.2), (u 11), (u 12), .int acs, (u 14), (u 15), (u 16), (u 17), (u 18), (u 19), (u 20), (u 21), .ref 368, (u 23), .ref 369, .ref 370, .ref 371, (u 27)])), (360, .inr (.inl (0, w)))] h0 := K.mg K9 rfl rfl
    clear K9
    show j_V jP _ 251 28 lv [.int (z1.1)] h9 _
    subst ez1
    refine j_V.ri mq5_M mq5_28 ?_
    rw [show (m_qlinks th sst w x1 x2) = _ from ((if_pos c2_0).trans (rfl))]
    exact ⟨rfl, K⟩
  · replace c2_0 : ¬ (x1 < (-1)) := jd_ltn c2_0
    refine j_V.ldL mq5_M mq5_5 rfl (i := 2) (kd := 0) (v := .int x2) (pcJ := 6) rfl L rfl rfl rfl ?_
    refine j_V.one mq5_M mq5_6 (by decide) (pcJ := 7) (stJ := [.int 0, .int x2]) rfl ?_
    refine j_V.ldL mq5_M mq5_7 rfl (i := 1) (kd := 0) (v := .int x1) (pcJ := 8) rfl L rfl rfl rfl ?_
    refine j_V.one mq5_M mq5_8 (by decide) (pcJ := 9) (stJ := [.int (-1), .int x1, .int 0, .int x2]) rfl ?_
    refine j_V.cut (b := 17) (stJ := [.int ((if x1 = (-1) then 0 else 3) : Int32), .int 0, .int x2]) (fun v => [(0, .ref 359), (1, .int x1), (2, .int x2)]) ((if x1 = (-1) then 0 else 3) : Int32) (fun Q kk => ?_) (fun lv L => ?_)
    · refine j_V.icmp mq5_M mq5_9 (t := 16) rfl (fun c9_0 => ?_) (fun c9_0 => ?_)
      · replace c9_0 : ¬ (x1 = (-1)) := jd_ne c9_0
        refine j_V.one mq5_M mq5_16 (by decide) (pcJ := 17) (stJ := [.int 3, .int 0, .int x2]) rfl ?_
        exact Eq.subst (motive := fun z => j_V jP _ 251 17 _ (.int z :: [.int 0, .int x2]) h Q) (show ((if x1 = (-1) then 0 else 3) : Int32) = 3 from (if_neg c9_0).trans (rfl)) (kk _ L)
      · replace c9_0 : x1 = (-1) := jd_nen c9_0
        refine j_V.one mq5_M mq5_12 (by decide) (pcJ := 13) (stJ := [.int 0, .int 0, .int x2]) rfl ?_
        refine j_V.gto mq5_M mq5_13 (t := 17) rfl ?_
        exact Eq.subst (motive := fun z => j_V jP _ 251 17 _ (.int z :: [.int 0, .int x2]) h Q) (show ((if x1 = (-1) then 0 else 3) : Int32) = 0 from (if_pos c9_0).trans (rfl)) (kk _ L)
    refine j_V.cl mq5_M mq5_17 rfl (md := 2) (mj := 171) rfl (by decide) ma0_M (As := [.int x2, .int 0, .int ((if x1 = (-1) then 0 else 3) : Int32)]) (rest := []) (jk_spl2 rfl rfl (Nat.le_of_ble_eq_true rfl) (Nat.le_of_ble_eq_true rfl)) (fun d => ma0_ok (K.fi [] rfl rfl)) ?_
    rintro r hz ⟨rfl, ez⟩
    rw [ez]
    clear ez
    show j_V jP _ 251 20 lv [.int (m_isFrom x2 0 ((if x1 = (-1) then 0 else 3) : Int32))] h _
    refine j_V.ifc mq5_M mq5_20 (t := 29) rfl (fun c20_1 => ?_) (fun c20_1 => ?_)
    · replace c20_1 : ¬ ((m_isFrom x2 0 ((if x1 = (-1) then 0 else 3) : Int32)) = 0) := jd_ne c20_1
      refine j_V.ldL mq5_M mq5_29 rfl (i := 1) (kd := 0) (v := .int x1) (pcJ := 30) rfl L rfl rfl rfl ?_
      refine j_V.one mq5_M mq5_30 (by decide) (pcJ := 31) (stJ := [.int (-1), .int x1]) rfl ?_
      refine j_V.icmp mq5_M mq5_31 (t := 47) rfl (fun c31_2 => ?_) (fun c31_2 => ?_)
      · replace c31_2 : ¬ (x1 = (-1)) := jd_ne c31_2
        refine j_V.ldL mq5_M mq5_47 rfl (i := 1) (kd := 0) (v := .int x1) (pcJ := 48) rfl L rfl rfl rfl ?_
        refine j_V.ldL mq5_M mq5_48 rfl (i := 0) (kd := 2) (v := .ref 359) (pcJ := 49) rfl L rfl rfl rfl ?_
        refine j_V.getK mq5_M mq5_49 (ci := 10) (j := 1) rfl K rfl rfl ?_
        refine j_V.one mq5_M mq5_52 (by decide) (pcJ := 55) (stJ := [.int 296, .ref 360, .int x1]) rfl ?_
        refine j_V.iaA mq5_M mq5_55 K rfl ?_
        refine j_V.icmp mq5_M mq5_56 (t := 65) rfl (fun c56_3 => ?_) (fun c56_3 => ?_)
        · replace c56_3 : x1 < (gA w 296) := jd_lt c56_3
          refine j_V.ldL mq5_M mq5_65 rfl (i := 0) (kd := 2) (v := .ref 359) (pcJ := 66) rfl L rfl rfl rfl ?_
          refine j_V.ldL mq5_M mq5_66 rfl (i := 2) (kd := 0) (v := .int x2) (pcJ := 67) rfl L rfl rfl rfl ?_
          refine j_V.one mq5_M mq5_67 (by decide) (pcJ := 68) (stJ := [.int 3, .int x2, .ref 359]) rfl ?_
          refine j_V.cut (b := 93) (stJ := [.int ((if x2 = 3 then (if (m_keepsIt w x1) = 0 then 0 else 1) else (m_link0 w x1 x2)) : Int32), .ref 359]) (fun v => [(0, .ref 359), (1, .int x1), (2, .int x2)]) ((if x2 = 3 then (if (m_keepsIt w x1) = 0 then 0 else 1) else (m_link0 w x1 x2)) : Int32) (fun Q kk => ?_) (fun lv L => ?_)
          · refine j_V.icmp mq5_M mq5_68 (t := 87) rfl (fun c68_0 => ?_) (fun c68_0 => ?_)
            · replace c68_0 : ¬ (x2 = 3) := jd_ne c68_0
              refine j_V.ldL mq5_M mq5_87 rfl (i := 0) (kd := 2) (v := .ref 359) (pcJ := 88) rfl L rfl rfl rfl ?_
              refine j_V.ldL mq5_M mq5_88 rfl (i := 1) (kd := 0) (v := .int x1) (pcJ := 89) rfl L rfl rfl rfl ?_
              refine j_V.ldL mq5_M mq5_89 rfl (i := 2) (kd := 0) (v := .int x2) (pcJ := 90) rfl L rfl rfl rfl ?_
              refine j_V.cl mq5_M mq5_90 rfl (md := 3) (mj := 224) rfl (by decide) mb9_M (As := [.ref 359, .int x1, .int x2]) (rest := [.ref 359]) (jk_spl3 (K.at rfl) rfl rfl rfl (Nat.le_of_ble_eq_true rfl) (Nat.le_of_ble_eq_true rfl)) (fun d => mb9_ok (u := fun j => [.int th, .ref 360, .ref 361, .ref 362, .ref 363, .ref 364, .ref 365, .ref 366, .ref 367, (u 9), .int sst, (u 11), (u 12), .int acs, (u 14), (u 15), (u 16), (u 17), (u 18), (u 19), (u 20), (u 21), .ref 368, (u 23), .ref 369, .ref 370, .ref 371, (u 27)].getD j .null) (K.fi [359, 360] rfl rfl)) ?_
              rintro r hz ⟨rfl, ez⟩
              rw [ez]
              clear ez
              show j_V jP _ 251 93 lv [.int (m_link0 w x1 x2), .ref 359] h _
              exact Eq.subst (motive := fun z => j_V jP _ 251 93 _ (.int z :: [.ref 359]) h Q) (show ((if x2 = 3 then (if (m_keepsIt w x1) = 0 then 0 else 1) else (m_link0 w x1 x2)) : Int32) = (m_link0 w x1 x2) from (if_neg c68_0).trans (rfl)) (kk _ L)
            · replace c68_0 : x2 = 3 := jd_nen c68_0
              refine j_V.ldL mq5_M mq5_71 rfl (i := 0) (kd := 2) (v := .ref 359) (pcJ := 72) rfl L rfl rfl rfl ?_
              refine j_V.ldL mq5_M mq5_72 rfl (i := 1) (kd := 0) (v := .int x1) (pcJ := 73) rfl L rfl rfl rfl ?_
              refine j_V.cl mq5_M mq5_73 rfl (md := 3) (mj := 225) rfl (by decide) mc0_M (As := [.ref 359, .int x1]) (rest := [.ref 359]) (jk_spl3 (K.at rfl) rfl rfl rfl (Nat.le_of_ble_eq_true rfl) (Nat.le_of_ble_eq_true rfl)) (fun d => mc0_ok (u := fun j => [.int th, .ref 360, .ref 361, .ref 362, .ref 363, .ref 364, .ref 365, .ref 366, .ref 367, (u 9), .int sst, (u 11), (u 12), .int acs, (u 14), (u 15), (u 16), (u 17), (u 18), (u 19), (u 20), (u 21), .ref 368, (u 23), .ref 369, .ref 370, .ref 371, (u 27)].getD j .null) (K.fi [359, 360] rfl rfl)) ?_
              rintro r hz ⟨rfl, ez⟩
              rw [ez]
              clear ez
              show j_V jP _ 251 76 lv [.int (m_keepsIt w x1), .ref 359] h _
              refine j_V.ifc mq5_M mq5_76 (t := 83) rfl (fun c76_1 => ?_) (fun c76_1 => ?_)
              · replace c76_1 : (m_keepsIt w x1) = 0 := jd_eq c76_1
                refine j_V.one mq5_M mq5_83 (by decide) (pcJ := 84) (stJ := [.int 0, .ref 359]) rfl ?_
                refine j_V.gto mq5_M mq5_84 (t := 93) rfl ?_
                exact Eq.subst (motive := fun z => j_V jP _ 251 93 _ (.int z :: [.ref 359]) h Q) (show ((if x2 = 3 then (if (m_keepsIt w x1) = 0 then 0 else 1) else (m_link0 w x1 x2)) : Int32) = 0 from (if_pos c68_0).trans ((if_pos c76_1).trans (rfl))) (kk _ L)
              · replace c76_1 : ¬ ((m_keepsIt w x1) = 0) := jd_eqn c76_1
                refine j_V.one mq5_M mq5_79 (by decide) (pcJ := 80) (stJ := [.int 1, .ref 359]) rfl ?_
                refine j_V.gto mq5_M mq5_80 (t := 93) rfl ?_
                exact Eq.subst (motive := fun z => j_V jP _ 251 93 _ (.int z :: [.ref 359]) h Q) (show ((if x2 = 3 then (if (m_keepsIt w x1) = 0 then 0 else 1) else (m_link0 w x1 x2)) : Int32) = 1 from (if_pos c68_0).trans ((if_neg c76_1).trans (rfl))) (kk _ L)
          refine j_V.cl mq5_M mq5_93 rfl (md := 3) (mj := 170) rfl (by decide) mo1_M (As := [.ref 359, .int ((if x2 = 3 then (if (m_keepsIt w x1) = 0 then 0 else 1) else (m_link0 w x1 x2)) : Int32)]) (rest := []) (jk_spl3 (K.at rfl) rfl rfl rfl (Nat.le_of_ble_eq_true rfl) (Nat.le_of_ble_eq_true rfl)) (fun d => mo1_ok (K.fi [359] rfl rfl)) ?_
          rintro r h9 ⟨rfl, K9⟩
          generalize ez2 : (m_gives th sst ((if x2 = 3 then (if (m_keepsIt w x1) = 0 then 0 else 1) else (m_link0 w x1 x2)) : Int32)) = z2 at K9 ⊢
          have K : KN h9 [(359, .inl (10, [.int (z2.2.1), .ref 360, .ref 361, .ref 362, .ref 363, .ref 364, .ref 365, .ref 366, .ref 367, (u 9), .int (z2.2.2), (u 11), (u 12), .int acs, (u 14), (u 15), (u 16), (u 17), (u 18), (u 19), (u 20), (u 21), .ref 368, (u 23), .ref 369, .ref 370, .ref 371, (u 27)])), (360, .inr (.inl (0, w)))] h0 := K.mg K9 rfl rfl
          clear K9
          show j_V jP _ 251 96 lv [.int (z2.1)] h9 _
          subst ez2
          refine j_V.ri mq5_M mq5_96 ?_
          rw [show (m_qlinks th sst w x1 x2) = _ from ((if_neg c2_0).trans ((if_neg c20_1).trans ((if_neg c31_2).trans ((if_pos c56_3).trans (rfl)))))]
          exact ⟨rfl, K⟩
        · replace c56_3 : ¬ (x1 < (gA w 296)) := jd_ltn c56_3
          refine j_V.ldL mq5_M mq5_59 rfl (i := 0) (kd := 2) (v := .ref 359) (pcJ := 60) rfl L rfl rfl rfl ?_
          refine j_V.one mq5_M mq5_60 (by decide) (pcJ := 61) (stJ := [.int 5, .ref 359]) rfl ?_
          refine j_V.cl mq5_M mq5_61 rfl (md := 3) (mj := 169) rfl (by decide) mo0_M (As := [.ref 359, .int 5]) (rest := []) (jk_spl3 (K.at rfl) rfl rfl rfl (Nat.le_of_ble_eq_true rfl) (Nat.le_of_ble_eq_true rfl)) (fun d => mo0_ok (K.fi [359] rfl rfl)) ?_
          rintro r h9 ⟨rfl, K9⟩
          generalize ez3 : (m_refuse th sst 5) = z3 at K9 ⊢
          have K : KN h9 [(359, .inl (10, [.int (z3.2.1), .ref 360, .ref 361, .ref 362, .ref 363, .ref 364, .ref 365, .ref 366, .ref 367, (u 9), .int (z3.2.2), (u 11), (u 12), .int acs, (u 14), (u 15), (u 16), (u 17), (u 18), (u 19), (u 20), (u 21), .ref 368, (u 23), .ref 369, .ref 370, .ref 371, (u 27)])), (360, .inr (.inl (0, w)))] h0 := K.mg K9 rfl rfl
          clear K9
          show j_V jP _ 251 64 lv [.int (z3.1)] h9 _
          subst ez3
          refine j_V.ri mq5_M mq5_64 ?_
          rw [show (m_qlinks th sst w x1 x2) = _ from ((if_neg c2_0).trans ((if_neg c20_1).trans ((if_neg c31_2).trans ((if_neg c56_3).trans (rfl)))))]
          exact ⟨rfl, K⟩
      · replace c31_2 : x1 = (-1) := jd_nen c31_2
        refine j_V.ldL mq5_M mq5_34 rfl (i := 0) (kd := 2) (v := .ref 359) (pcJ := 35) rfl L rfl rfl rfl ?_
        refine j_V.ldL mq5_M mq5_35 rfl (i := 0) (kd := 2) (v := .ref 359) (pcJ := 36) rfl L rfl rfl rfl ?_
        refine j_V.getK mq5_M mq5_36 (ci := 10) (j := 1) rfl K rfl rfl ?_
        refine j_V.one mq5_M mq5_39 (by decide) (pcJ := 42) (stJ := [.int 296, .ref 360, .ref 359]) rfl ?_
        refine j_V.iaA mq5_M mq5_42 K rfl ?_
        refine j_V.cl mq5_M mq5_43 rfl (md := 3) (mj := 170) rfl (by decide) mo1_M (As := [.ref 359, .int (gA w 296)]) (rest := []) (jk_spl3 (K.at rfl) rfl rfl rfl (Nat.le_of_ble_eq_true rfl) (Nat.le_of_ble_eq_true rfl)) (fun d => mo1_ok (K.fi [359] rfl rfl)) ?_
        rintro r h9 ⟨rfl, K9⟩
        generalize ez4 : (m_gives th sst (gA w 296)) = z4 at K9 ⊢
        have K : KN h9 [(359, .inl (10, [.int (z4.2.1), .ref 360, .ref 361, .ref 362, .ref 363, .ref 364, .ref 365, .ref 366, .ref 367, (u 9), .int (z4.2.2), (u 11), (u 12), .int acs, (u 14), (u 15), (u 16), (u 17), (u 18), (u 19), (u 20), (u 21), .ref 368, (u 23), .ref 369, .ref 370, .ref 371, (u 27)])), (360, .inr (.inl (0, w)))] h0 := K.mg K9 rfl rfl
        clear K9
        show j_V jP _ 251 46 lv [.int (z4.1)] h9 _
        subst ez4
        refine j_V.ri mq5_M mq5_46 ?_
        rw [show (m_qlinks th sst w x1 x2) = _ from ((if_neg c2_0).trans ((if_neg c20_1).trans ((if_pos c31_2).trans (rfl))))]
        exact ⟨rfl, K⟩
    · replace c20_1 : (m_isFrom x2 0 ((if x1 = (-1) then 0 else 3) : Int32)) = 0 := jd_nen c20_1
      refine j_V.ldL mq5_M mq5_23 rfl (i := 0) (kd := 2) (v := .ref 359) (pcJ := 24) rfl L rfl rfl rfl ?_
      refine j_V.one mq5_M mq5_24 (by decide) (pcJ := 25) (stJ := [.int 1, .ref 359]) rfl ?_
      refine j_V.cl mq5_M mq5_25 rfl (md := 3) (mj := 169) rfl (by decide) mo0_M (As := [.ref 359, .int 1]) (rest := []) (jk_spl3 (K.at rfl) rfl rfl rfl (Nat.le_of_ble_eq_true rfl) (Nat.le_of_ble_eq_true rfl)) (fun d => mo0_ok (K.fi [359] rfl rfl)) ?_
      rintro r h9 ⟨rfl, K9⟩
      generalize ez5 : (m_refuse th sst 1) = z5 at K9 ⊢
      have K : KN h9 [(359, .inl (10, [.int (z5.2.1), .ref 360, .ref 361, .ref 362, .ref 363, .ref 364, .ref 365, .ref 366, .ref 367, (u 9), .int (z5.2.2), (u 11), (u 12), .int acs, (u 14), (u 15), (u 16), (u 17), (u 18), (u 19), (u 20), (u 21), .ref 368, (u 23), .ref 369, .ref 370, .ref 371, (u 27)])), (360, .inr (.inl (0, w)))] h0 := K.mg K9 rfl rfl
      clear K9
      show j_V jP _ 251 28 lv [.int (z5.1)] h9 _
      subst ez5
      refine j_V.ri mq5_M mq5_28 ?_
      rw [show (m_qlinks th sst w x1 x2) = _ from ((if_neg c2_0).trans ((if_pos c20_1).trans (rfl)))]
      exact ⟨rfl, K⟩
set_option maxRecDepth 100000 in
theorem mq6_M : j_meth jP 252 = some (yX10_time, cX10_time, 5, (some .int), 3, false, 10) := rfl
set_option maxRecDepth 100000 in
theorem mq6_0 : j_code jP 252 0 = some (.aload_n 0) := rfl
set_option maxRecDepth 100000 in
theorem mq6_1 : j_code jP 252 1 = some (.iload_n 1) := rfl
set_option maxRecDepth 100000 in
theorem mq6_2 : j_code jP 252 2 = some (.invokevirtual 310) := rfl
set_option maxRecDepth 100000 in
theorem mq6_5 : j_code jP 252 5 = some (.ifCond .eq 11) := rfl
set_option maxRecDepth 100000 in
theorem mq6_8 : j_code jP 252 8 = some (.aload_n 0) := rfl
set_option maxRecDepth 100000 in
theorem mq6_9 : j_code jP 252 9 = some (.iload_n 2) := rfl
set_option maxRecDepth 100000 in
theorem mq6_10 : j_code jP 252 10 = some (.invokevirtual 65) := rfl
set_option maxRecDepth 100000 in
theorem mq6_13 : j_code jP 252 13 = some (.ifCond .ne 9) := rfl
set_option maxRecDepth 100000 in
theorem mq6_16 : j_code jP 252 16 = some (.aload_n 0) := rfl
set_option maxRecDepth 100000 in
theorem mq6_17 : j_code jP 252 17 = some (.iconst 2) := rfl
set_option maxRecDepth 100000 in
theorem mq6_18 : j_code jP 252 18 = some (.invokevirtual 179) := rfl
set_option maxRecDepth 100000 in
theorem mq6_21 : j_code jP 252 21 = some (.ireturn) := rfl
set_option maxRecDepth 100000 in
theorem mq6_22 : j_code jP 252 22 = some (.aload_n 0) := rfl
set_option maxRecDepth 100000 in
theorem mq6_23 : j_code jP 252 23 = some (.iload_n 1) := rfl
set_option maxRecDepth 100000 in
theorem mq6_24 : j_code jP 252 24 = some (.iload_n 3) := rfl
set_option maxRecDepth 100000 in
theorem mq6_25 : j_code jP 252 25 = some (.ifCond .eq 8) := rfl
set_option maxRecDepth 100000 in
theorem mq6_28 : j_code jP 252 28 = some (.bipush 20) := rfl
set_option maxRecDepth 100000 in
theorem mq6_30 : j_code jP 252 30 = some (.goto 5) := rfl
set_option maxRecDepth 100000 in
theorem mq6_33 : j_code jP 252 33 = some (.bipush 13) := rfl
set_option maxRecDepth 100000 in
theorem mq6_35 : j_code jP 252 35 = some (.iload_n 2) := rfl
set_option maxRecDepth 100000 in
theorem mq6_36 : j_code jP 252 36 = some (.iadd) := rfl
set_option maxRecDepth 100000 in
theorem mq6_37 : j_code jP 252 37 = some (.invokevirtual 198) := rfl
set_option maxRecDepth 100000 in
theorem mq6_40 : j_code jP 252 40 = some (.istore 4) := rfl
set_option maxRecDepth 100000 in
theorem mq6_42 : j_code jP 252 42 = some (.iload 4) := rfl
set_option maxRecDepth 100000 in
theorem mq6_44 : j_code jP 252 44 = some (.iconst (-1)) := rfl
set_option maxRecDepth 100000 in
theorem mq6_45 : j_code jP 252 45 = some (.if_icmp .ne 11) := rfl
set_option maxRecDepth 100000 in
theorem mq6_48 : j_code jP 252 48 = some (.aload_n 0) := rfl
set_option maxRecDepth 100000 in
theorem mq6_49 : j_code jP 252 49 = some (.iconst 5) := rfl
set_option maxRecDepth 100000 in
theorem mq6_50 : j_code jP 252 50 = some (.invokevirtual 179) := rfl
set_option maxRecDepth 100000 in
theorem mq6_53 : j_code jP 252 53 = some (.goto 9) := rfl
set_option maxRecDepth 100000 in
theorem mq6_56 : j_code jP 252 56 = some (.aload_n 0) := rfl
set_option maxRecDepth 100000 in
theorem mq6_57 : j_code jP 252 57 = some (.iload 4) := rfl
set_option maxRecDepth 100000 in
theorem mq6_59 : j_code jP 252 59 = some (.invokevirtual 195) := rfl
set_option maxRecDepth 100000 in
theorem mq6_62 : j_code jP 252 62 = some (.ireturn) := rfl
def m_qtime (th : Int32) (sst : Int32) (w : List Int32) (x1 : Int32) (x2 : Int32) (x3 : Int32) : Int32 × Int32 × Int32 := (if (m_isTrain w x1) = 0 then let z1 := (m_refuse th sst 2); ((z1.1), (z1.2.1), (z1.2.2)) else (if (m_isStation w x2) = 0 then let z6 := (m_refuse th sst 2); ((z6.1), (z6.2.1), (z6.2.2)) else (if (m_of w x1 (((if x3 = 0 then 13 else 20) : Int32) + x2)) = (-1) then let z5 := (m_refuse th sst 5); ((z5.1), (z5.2.1), (z5.2.2)) else let z4 := (m_gives th sst (m_of w x1 (((if x3 = 0 then 13 else 20) : Int32) + x2))); ((z4.1), (z4.2.1), (z4.2.2)))))
set_option maxRecDepth 1000000 in
theorem mq6_ok {u : Nat → Value} {th : Int32} {sst : Int32} {acs : Int32} {w : List Int32} {x1 x2 x3 : Int32} {d : Nat} {h h0 : J_H} (K : KN h [(359, .inl (10, [.int th, .ref 360, .ref 361, .ref 362, .ref 363, .ref 364, .ref 365, .ref 366, .ref 367, (u 9), .int sst, (u 11), (u 12), .int acs, (u 14), (u 15), (u 16), (u 17), (u 18), (u 19), (u 20), (u 21), .ref 368, (u 23), .ref 369, .ref 370, .ref 371, (u 27)])), (360, .inr (.inl (0, w)))] h0) : j_V jP d 252 0 (lv_args 0 [.ref 359, .int x1, .int x2, .int x3]) [] h (fun rv h' => rv = some (.int (m_qtime th sst w x1 x2 x3).1) ∧ KN h' [(359, .inl (10, [.int (m_qtime th sst w x1 x2 x3).2.1, .ref 360, .ref 361, .ref 362, .ref 363, .ref 364, .ref 365, .ref 366, .ref 367, (u 9), .int (m_qtime th sst w x1 x2 x3).2.2, (u 11), (u 12), .int acs, (u 14), (u 15), (u 16), (u 17), (u 18), (u 19), (u 20), (u 21), .ref 368, (u 23), .ref 369, .ref 370, .ref 371, (u 27)])), (360, .inr (.inl (0, w)))] h0) := by
  show j_V jP d 252 0 [(0, .ref 359), (1, .int x1), (2, .int x2), (3, .int x3)] [] h _
  obtain ⟨lv, elv, L⟩ : ∃ lv, lv = [(0, .ref 359), (1, .int x1), (2, .int x2), (3, .int x3)] ∧ LK lv [(0, .ref 359), (1, .int x1), (2, .int x2), (3, .int x3)] := ⟨_, rfl, LK.rf⟩
  rw [← elv]
  clear elv
  refine j_V.ldL mq6_M mq6_0 rfl (i := 0) (kd := 2) (v := .ref 359) (pcJ := 1) rfl L rfl rfl rfl ?_
  refine j_V.ldL mq6_M mq6_1 rfl (i := 1) (kd := 0) (v := .int x1) (pcJ := 2) rfl L rfl rfl rfl ?_
  refine j_V.cl mq6_M mq6_2 rfl (md := 3) (mj := 173) rfl (by decide) md0_M (As := [.ref 359, .int x1]) (rest := []) (jk_spl3 (K.at rfl) rfl rfl rfl (Nat.le_of_ble_eq_true rfl) (Nat.le_of_ble_eq_true rfl)) (fun d => md0_ok (u := fun j => [.int th, .ref 360, .ref 361, .ref 362, .ref 363, .ref 364, .ref 365, .ref 366, .ref 367, (u 9), .int sst, (u 11), (u 12), .int acs, (u 14), (u 15), (u 16), (u 17), (u 18), (u 19), (u 20), (u 21), .ref 368, (u 23), .ref 369, .ref 370, .ref 371, (u 27)].getD j .null) (K.fi [359, 360] rfl rfl)) ?_
  rintro r hz ⟨rfl, ez⟩
  rw [ez]
  clear ez
  show j_V jP _ 252 5 lv [.int (m_isTrain w x1)] h _
  refine j_V.ifc mq6_M mq6_5 (t := 16) rfl (fun c5_0 => ?_) (fun c5_0 => ?_)
  · replace c5_0 : (m_isTrain w x1) = 0 := jd_eq c5_0
    refine j_V.ldL mq6_M mq6_16 rfl (i := 0) (kd := 2) (v := .ref 359) (pcJ := 17) rfl L rfl rfl rfl ?_
    refine j_V.one mq6_M mq6_17 (by decide) (pcJ := 18) (stJ := [.int 2, .ref 359]) rfl ?_
    refine j_V.cl mq6_M mq6_18 rfl (md := 3) (mj := 169) rfl (by decide) mo0_M (As := [.ref 359, .int 2]) (rest := []) (jk_spl3 (K.at rfl) rfl rfl rfl (Nat.le_of_ble_eq_true rfl) (Nat.le_of_ble_eq_true rfl)) (fun d => mo0_ok (K.fi [359] rfl rfl)) ?_
    rintro r h9 ⟨rfl, K9⟩
    generalize ez1 : (m_refuse th sst 2) = z1 at K9 ⊢
    have K : KN h9 [(359, .inl (10, [.int (z1.2.1), .ref 360, .ref 361, .ref 362, .ref 363, .ref 364, .ref 365, .ref 366, .ref 367, (u 9), .int (z1.2.2), (u 11), (u 12), .int acs, (u 14), (u 15), (u 16), (u 17), (u 18), (u 19), (u 20), (u 21), .ref 368, (u 23), .ref 369, .ref 370, .ref 371, (u 27)])), (360, .inr (.inl (0, w)))] h0 := K.mg K9 rfl rfl
    clear K9
    show j_V jP _ 252 21 lv [.int (z1.1)] h9 _
    subst ez1
    refine j_V.ri mq6_M mq6_21 ?_
    rw [show (m_qtime th sst w x1 x2 x3) = _ from ((if_pos c5_0).trans (rfl))]
    exact ⟨rfl, K⟩
  · replace c5_0 : ¬ ((m_isTrain w x1) = 0) := jd_eqn c5_0
    refine j_V.ldL mq6_M mq6_8 rfl (i := 0) (kd := 2) (v := .ref 359) (pcJ := 9) rfl L rfl rfl rfl ?_
    refine j_V.ldL mq6_M mq6_9 rfl (i := 2) (kd := 0) (v := .int x2) (pcJ := 10) rfl L rfl rfl rfl ?_
    refine j_V.cl mq6_M mq6_10 rfl (md := 3) (mj := 172) rfl (by decide) mc9_M (As := [.ref 359, .int x2]) (rest := []) (jk_spl3 (K.at rfl) rfl rfl rfl (Nat.le_of_ble_eq_true rfl) (Nat.le_of_ble_eq_true rfl)) (fun d => mc9_ok (u := fun j => [.int th, .ref 360, .ref 361, .ref 362, .ref 363, .ref 364, .ref 365, .ref 366, .ref 367, (u 9), .int sst, (u 11), (u 12), .int acs, (u 14), (u 15), (u 16), (u 17), (u 18), (u 19), (u 20), (u 21), .ref 368, (u 23), .ref 369, .ref 370, .ref 371, (u 27)].getD j .null) (K.fi [359, 360] rfl rfl)) ?_
    rintro r hz ⟨rfl, ez⟩
    rw [ez]
    clear ez
    show j_V jP _ 252 13 lv [.int (m_isStation w x2)] h _
    refine j_V.ifc mq6_M mq6_13 (t := 22) rfl (fun c13_1 => ?_) (fun c13_1 => ?_)
    · replace c13_1 : ¬ ((m_isStation w x2) = 0) := jd_ne c13_1
      refine j_V.ldL mq6_M mq6_22 rfl (i := 0) (kd := 2) (v := .ref 359) (pcJ := 23) rfl L rfl rfl rfl ?_
      refine j_V.ldL mq6_M mq6_23 rfl (i := 1) (kd := 0) (v := .int x1) (pcJ := 24) rfl L rfl rfl rfl ?_
      refine j_V.ldL mq6_M mq6_24 rfl (i := 3) (kd := 0) (v := .int x3) (pcJ := 25) rfl L rfl rfl rfl ?_
      refine j_V.cut (b := 35) (stJ := [.int ((if x3 = 0 then 13 else 20) : Int32), .int x1, .ref 359]) (fun v => [(0, .ref 359), (1, .int x1), (2, .int x2), (3, .int x3)]) ((if x3 = 0 then 13 else 20) : Int32) (fun Q kk => ?_) (fun lv L => ?_)
      · refine j_V.ifc mq6_M mq6_25 (t := 33) rfl (fun c25_0 => ?_) (fun c25_0 => ?_)
        · replace c25_0 : x3 = 0 := jd_eq c25_0
          refine j_V.one mq6_M mq6_33 (by decide) (pcJ := 35) (stJ := [.int 13, .int x1, .ref 359]) rfl ?_
          exact Eq.subst (motive := fun z => j_V jP _ 252 35 _ (.int z :: [.int x1, .ref 359]) h Q) (show ((if x3 = 0 then 13 else 20) : Int32) = 13 from (if_pos c25_0).trans (rfl)) (kk _ L)
        · replace c25_0 : ¬ (x3 = 0) := jd_eqn c25_0
          refine j_V.one mq6_M mq6_28 (by decide) (pcJ := 30) (stJ := [.int 20, .int x1, .ref 359]) rfl ?_
          refine j_V.gto mq6_M mq6_30 (t := 35) rfl ?_
          exact Eq.subst (motive := fun z => j_V jP _ 252 35 _ (.int z :: [.int x1, .ref 359]) h Q) (show ((if x3 = 0 then 13 else 20) : Int32) = 20 from (if_neg c25_0).trans (rfl)) (kk _ L)
      refine j_V.ldL mq6_M mq6_35 rfl (i := 2) (kd := 0) (v := .int x2) (pcJ := 36) rfl L rfl rfl rfl ?_
      refine j_V.one mq6_M mq6_36 (by decide) (pcJ := 37) (stJ := [.int (((if x3 = 0 then 13 else 20) : Int32) + x2), .int x1, .ref 359]) rfl ?_
      refine j_V.cl mq6_M mq6_37 rfl (md := 3) (mj := 178) rfl (by decide) ma3_M (As := [.ref 359, .int x1, .int (((if x3 = 0 then 13 else 20) : Int32) + x2)]) (rest := []) (jk_spl3 (K.at rfl) rfl rfl rfl (Nat.le_of_ble_eq_true rfl) (Nat.le_of_ble_eq_true rfl)) (fun d => ma3_ok (u := fun j => [.int th, .ref 360, .ref 361, .ref 362, .ref 363, .ref 364, .ref 365, .ref 366, .ref 367, (u 9), .int sst, (u 11), (u 12), .int acs, (u 14), (u 15), (u 16), (u 17), (u 18), (u 19), (u 20), (u 21), .ref 368, (u 23), .ref 369, .ref 370, .ref 371, (u 27)].getD j .null) (K.fi [359, 360] rfl rfl)) ?_
      rintro r hz ⟨rfl, ez⟩
      rw [ez]
      clear ez
      show j_V jP _ 252 40 lv [.int (m_of w x1 (((if x3 = 0 then 13 else 20) : Int32) + x2))] h _
      refine j_V.stL mq6_M mq6_40 rfl (i := 4) (kd := 0) (kl' := [(0, .ref 359), (1, .int x1), (2, .int x2), (3, .int x3), (4, .int (m_of w x1 (((if x3 = 0 then 13 else 20) : Int32) + x2)))]) (pcJ := 42) rfl L rfl (by decide) rfl rfl rfl (fun lv L => ?_)
      refine j_V.ldL mq6_M mq6_42 rfl (i := 4) (kd := 0) (v := .int (m_of w x1 (((if x3 = 0 then 13 else 20) : Int32) + x2))) (pcJ := 44) rfl L rfl rfl rfl ?_
      refine j_V.one mq6_M mq6_44 (by decide) (pcJ := 45) (stJ := [.int (-1), .int (m_of w x1 (((if x3 = 0 then 13 else 20) : Int32) + x2))]) rfl ?_
      refine j_V.icmp mq6_M mq6_45 (t := 56) rfl (fun c45_2 => ?_) (fun c45_2 => ?_)
      · replace c45_2 : ¬ ((m_of w x1 (((if x3 = 0 then 13 else 20) : Int32) + x2)) = (-1)) := jd_ne c45_2
        refine j_V.ldL mq6_M mq6_56 rfl (i := 0) (kd := 2) (v := .ref 359) (pcJ := 57) rfl L rfl rfl rfl ?_
        refine j_V.ldL mq6_M mq6_57 rfl (i := 4) (kd := 0) (v := .int (m_of w x1 (((if x3 = 0 then 13 else 20) : Int32) + x2))) (pcJ := 59) rfl L rfl rfl rfl ?_
        refine j_V.cl mq6_M mq6_59 rfl (md := 3) (mj := 170) rfl (by decide) mo1_M (As := [.ref 359, .int (m_of w x1 (((if x3 = 0 then 13 else 20) : Int32) + x2))]) (rest := []) (jk_spl3 (K.at rfl) rfl rfl rfl (Nat.le_of_ble_eq_true rfl) (Nat.le_of_ble_eq_true rfl)) (fun d => mo1_ok (K.fi [359] rfl rfl)) ?_
        rintro r h9 ⟨rfl, K9⟩
        generalize ez4 : (m_gives th sst (m_of w x1 (((if x3 = 0 then 13 else 20) : Int32) + x2))) = z4 at K9 ⊢
        have K : KN h9 [(359, .inl (10, [.int (z4.2.1), .ref 360, .ref 361, .ref 362, .ref 363, .ref 364, .ref 365, .ref 366, .ref 367, (u 9), .int (z4.2.2), (u 11), (u 12), .int acs, (u 14), (u 15), (u 16), (u 17), (u 18), (u 19), (u 20), (u 21), .ref 368, (u 23), .ref 369, .ref 370, .ref 371, (u 27)])), (360, .inr (.inl (0, w)))] h0 := K.mg K9 rfl rfl
        clear K9
        show j_V jP _ 252 62 lv [.int (z4.1)] h9 _
        subst ez4
        refine j_V.ri mq6_M mq6_62 ?_
        rw [show (m_qtime th sst w x1 x2 x3) = _ from ((if_neg c5_0).trans ((if_neg c13_1).trans ((if_neg c45_2).trans (rfl))))]
        exact ⟨rfl, K⟩
      · replace c45_2 : (m_of w x1 (((if x3 = 0 then 13 else 20) : Int32) + x2)) = (-1) := jd_nen c45_2
        refine j_V.ldL mq6_M mq6_48 rfl (i := 0) (kd := 2) (v := .ref 359) (pcJ := 49) rfl L rfl rfl rfl ?_
        refine j_V.one mq6_M mq6_49 (by decide) (pcJ := 50) (stJ := [.int 5, .ref 359]) rfl ?_
        refine j_V.cl mq6_M mq6_50 rfl (md := 3) (mj := 169) rfl (by decide) mo0_M (As := [.ref 359, .int 5]) (rest := []) (jk_spl3 (K.at rfl) rfl rfl rfl (Nat.le_of_ble_eq_true rfl) (Nat.le_of_ble_eq_true rfl)) (fun d => mo0_ok (K.fi [359] rfl rfl)) ?_
        rintro r h9 ⟨rfl, K9⟩
        generalize ez5 : (m_refuse th sst 5) = z5 at K9 ⊢
        have K : KN h9 [(359, .inl (10, [.int (z5.2.1), .ref 360, .ref 361, .ref 362, .ref 363, .ref 364, .ref 365, .ref 366, .ref 367, (u 9), .int (z5.2.2), (u 11), (u 12), .int acs, (u 14), (u 15), (u 16), (u 17), (u 18), (u 19), (u 20), (u 21), .ref 368, (u 23), .ref 369, .ref 370, .ref 371, (u 27)])), (360, .inr (.inl (0, w)))] h0 := K.mg K9 rfl rfl
        clear K9
        show j_V jP _ 252 53 lv [.int (z5.1)] h9 _
        refine j_V.gto mq6_M mq6_53 (t := 62) rfl ?_
        subst ez5
        refine j_V.ri mq6_M mq6_62 ?_
        rw [show (m_qtime th sst w x1 x2 x3) = _ from ((if_neg c5_0).trans ((if_neg c13_1).trans ((if_pos c45_2).trans (rfl))))]
        exact ⟨rfl, K⟩
    · replace c13_1 : (m_isStation w x2) = 0 := jd_nen c13_1
      refine j_V.ldL mq6_M mq6_16 rfl (i := 0) (kd := 2) (v := .ref 359) (pcJ := 17) rfl L rfl rfl rfl ?_
      refine j_V.one mq6_M mq6_17 (by decide) (pcJ := 18) (stJ := [.int 2, .ref 359]) rfl ?_
      refine j_V.cl mq6_M mq6_18 rfl (md := 3) (mj := 169) rfl (by decide) mo0_M (As := [.ref 359, .int 2]) (rest := []) (jk_spl3 (K.at rfl) rfl rfl rfl (Nat.le_of_ble_eq_true rfl) (Nat.le_of_ble_eq_true rfl)) (fun d => mo0_ok (K.fi [359] rfl rfl)) ?_
      rintro r h9 ⟨rfl, K9⟩
      generalize ez6 : (m_refuse th sst 2) = z6 at K9 ⊢
      have K : KN h9 [(359, .inl (10, [.int (z6.2.1), .ref 360, .ref 361, .ref 362, .ref 363, .ref 364, .ref 365, .ref 366, .ref 367, (u 9), .int (z6.2.2), (u 11), (u 12), .int acs, (u 14), (u 15), (u 16), (u 17), (u 18), (u 19), (u 20), (u 21), .ref 368, (u 23), .ref 369, .ref 370, .ref 371, (u 27)])), (360, .inr (.inl (0, w)))] h0 := K.mg K9 rfl rfl
      clear K9
      show j_V jP _ 252 21 lv [.int (z6.1)] h9 _
      subst ez6
      refine j_V.ri mq6_M mq6_21 ?_
      rw [show (m_qtime th sst w x1 x2 x3) = _ from ((if_neg c5_0).trans ((if_pos c13_1).trans (rfl)))]
      exact ⟨rfl, K⟩
set_option maxRecDepth 100000 in
theorem mq7_M : j_meth jP 253 = some (yX10_together, cX10_together, 5, (some .int), 3, false, 10) := rfl
set_option maxRecDepth 100000 in
theorem mq7_0 : j_code jP 253 0 = some (.aload_n 0) := rfl
set_option maxRecDepth 100000 in
theorem mq7_1 : j_code jP 253 1 = some (.iload_n 1) := rfl
set_option maxRecDepth 100000 in
theorem mq7_2 : j_code jP 253 2 = some (.invokevirtual 310) := rfl
set_option maxRecDepth 100000 in
theorem mq7_5 : j_code jP 253 5 = some (.ifCond .eq 11) := rfl
set_option maxRecDepth 100000 in
theorem mq7_8 : j_code jP 253 8 = some (.aload_n 0) := rfl
set_option maxRecDepth 100000 in
theorem mq7_9 : j_code jP 253 9 = some (.iload_n 2) := rfl
set_option maxRecDepth 100000 in
theorem mq7_10 : j_code jP 253 10 = some (.invokevirtual 310) := rfl
set_option maxRecDepth 100000 in
theorem mq7_13 : j_code jP 253 13 = some (.ifCond .ne 9) := rfl
set_option maxRecDepth 100000 in
theorem mq7_16 : j_code jP 253 16 = some (.aload_n 0) := rfl
set_option maxRecDepth 100000 in
theorem mq7_17 : j_code jP 253 17 = some (.iconst 2) := rfl
set_option maxRecDepth 100000 in
theorem mq7_18 : j_code jP 253 18 = some (.invokevirtual 179) := rfl
set_option maxRecDepth 100000 in
theorem mq7_21 : j_code jP 253 21 = some (.ireturn) := rfl
set_option maxRecDepth 100000 in
theorem mq7_22 : j_code jP 253 22 = some (.iload_n 1) := rfl
set_option maxRecDepth 100000 in
theorem mq7_23 : j_code jP 253 23 = some (.iload_n 2) := rfl
set_option maxRecDepth 100000 in
theorem mq7_24 : j_code jP 253 24 = some (.if_icmp .ne 9) := rfl
set_option maxRecDepth 100000 in
theorem mq7_27 : j_code jP 253 27 = some (.aload_n 0) := rfl
set_option maxRecDepth 100000 in
theorem mq7_28 : j_code jP 253 28 = some (.iconst 4) := rfl
set_option maxRecDepth 100000 in
theorem mq7_29 : j_code jP 253 29 = some (.invokevirtual 179) := rfl
set_option maxRecDepth 100000 in
theorem mq7_32 : j_code jP 253 32 = some (.ireturn) := rfl
set_option maxRecDepth 100000 in
theorem mq7_33 : j_code jP 253 33 = some (.iconst 5) := rfl
set_option maxRecDepth 100000 in
theorem mq7_34 : j_code jP 253 34 = some (.iload_n 1) := rfl
set_option maxRecDepth 100000 in
theorem mq7_35 : j_code jP 253 35 = some (.imul) := rfl
set_option maxRecDepth 100000 in
theorem mq7_36 : j_code jP 253 36 = some (.iload_n 2) := rfl
set_option maxRecDepth 100000 in
theorem mq7_37 : j_code jP 253 37 = some (.iadd) := rfl
set_option maxRecDepth 100000 in
theorem mq7_38 : j_code jP 253 38 = some (.istore 4) := rfl
set_option maxRecDepth 100000 in
theorem mq7_40 : j_code jP 253 40 = some (.aload_n 0) := rfl
set_option maxRecDepth 100000 in
theorem mq7_41 : j_code jP 253 41 = some (.getfield 7) := rfl
set_option maxRecDepth 100000 in
theorem mq7_44 : j_code jP 253 44 = some (.sipush 246) := rfl
set_option maxRecDepth 100000 in
theorem mq7_47 : j_code jP 253 47 = some (.iload 4) := rfl
set_option maxRecDepth 100000 in
theorem mq7_49 : j_code jP 253 49 = some (.iadd) := rfl
set_option maxRecDepth 100000 in
theorem mq7_50 : j_code jP 253 50 = some (.iaload) := rfl
set_option maxRecDepth 100000 in
theorem mq7_51 : j_code jP 253 51 = some (.iconst (-1)) := rfl
set_option maxRecDepth 100000 in
theorem mq7_52 : j_code jP 253 52 = some (.if_icmp .ne 11) := rfl
set_option maxRecDepth 100000 in
theorem mq7_55 : j_code jP 253 55 = some (.aload_n 0) := rfl
set_option maxRecDepth 100000 in
theorem mq7_56 : j_code jP 253 56 = some (.iconst 5) := rfl
set_option maxRecDepth 100000 in
theorem mq7_57 : j_code jP 253 57 = some (.invokevirtual 179) := rfl
set_option maxRecDepth 100000 in
theorem mq7_60 : j_code jP 253 60 = some (.goto 28) := rfl
set_option maxRecDepth 100000 in
theorem mq7_63 : j_code jP 253 63 = some (.aload_n 0) := rfl
set_option maxRecDepth 100000 in
theorem mq7_64 : j_code jP 253 64 = some (.aload_n 0) := rfl
set_option maxRecDepth 100000 in
theorem mq7_65 : j_code jP 253 65 = some (.getfield 7) := rfl
set_option maxRecDepth 100000 in
theorem mq7_68 : j_code jP 253 68 = some (.iload_n 3) := rfl
set_option maxRecDepth 100000 in
theorem mq7_69 : j_code jP 253 69 = some (.ifCond .eq 9) := rfl
set_option maxRecDepth 100000 in
theorem mq7_72 : j_code jP 253 72 = some (.sipush 271) := rfl
set_option maxRecDepth 100000 in
theorem mq7_75 : j_code jP 253 75 = some (.goto 6) := rfl
set_option maxRecDepth 100000 in
theorem mq7_78 : j_code jP 253 78 = some (.sipush 246) := rfl
set_option maxRecDepth 100000 in
theorem mq7_81 : j_code jP 253 81 = some (.iload 4) := rfl
set_option maxRecDepth 100000 in
theorem mq7_83 : j_code jP 253 83 = some (.iadd) := rfl
set_option maxRecDepth 100000 in
theorem mq7_84 : j_code jP 253 84 = some (.iaload) := rfl
set_option maxRecDepth 100000 in
theorem mq7_85 : j_code jP 253 85 = some (.invokevirtual 195) := rfl
set_option maxRecDepth 100000 in
theorem mq7_88 : j_code jP 253 88 = some (.ireturn) := rfl
def m_qtogether (th : Int32) (sst : Int32) (w : List Int32) (x1 : Int32) (x2 : Int32) (x3 : Int32) : Int32 × Int32 × Int32 := (if (m_isTrain w x1) = 0 then let z1 := (m_refuse th sst 2); ((z1.1), (z1.2.1), (z1.2.2)) else (if (m_isTrain w x2) = 0 then let z7 := (m_refuse th sst 2); ((z7.1), (z7.2.1), (z7.2.2)) else (if x1 = x2 then let z6 := (m_refuse th sst 4); ((z6.1), (z6.2.1), (z6.2.2)) else (if (gA w (246 + ((5 * x1) + x2))) = (-1) then let z5 := (m_refuse th sst 5); ((z5.1), (z5.2.1), (z5.2.2)) else let z4 := (m_gives th sst (gA w (((if x3 = 0 then 246 else 271) : Int32) + ((5 * x1) + x2)))); ((z4.1), (z4.2.1), (z4.2.2))))))
set_option maxRecDepth 1000000 in
theorem mq7_ok {u : Nat → Value} {th : Int32} {sst : Int32} {acs : Int32} {w : List Int32} {x1 x2 x3 : Int32} {d : Nat} {h h0 : J_H} (K : KN h [(359, .inl (10, [.int th, .ref 360, .ref 361, .ref 362, .ref 363, .ref 364, .ref 365, .ref 366, .ref 367, (u 9), .int sst, (u 11), (u 12), .int acs, (u 14), (u 15), (u 16), (u 17), (u 18), (u 19), (u 20), (u 21), .ref 368, (u 23), .ref 369, .ref 370, .ref 371, (u 27)])), (360, .inr (.inl (0, w)))] h0) : j_V jP d 253 0 (lv_args 0 [.ref 359, .int x1, .int x2, .int x3]) [] h (fun rv h' => rv = some (.int (m_qtogether th sst w x1 x2 x3).1) ∧ KN h' [(359, .inl (10, [.int (m_qtogether th sst w x1 x2 x3).2.1, .ref 360, .ref 361, .ref 362, .ref 363, .ref 364, .ref 365, .ref 366, .ref 367, (u 9), .int (m_qtogether th sst w x1 x2 x3).2.2, (u 11), (u 12), .int acs, (u 14), (u 15), (u 16), (u 17), (u 18), (u 19), (u 20), (u 21), .ref 368, (u 23), .ref 369, .ref 370, .ref 371, (u 27)])), (360, .inr (.inl (0, w)))] h0) := by
  show j_V jP d 253 0 [(0, .ref 359), (1, .int x1), (2, .int x2), (3, .int x3)] [] h _
  obtain ⟨lv, elv, L⟩ : ∃ lv, lv = [(0, .ref 359), (1, .int x1), (2, .int x2), (3, .int x3)] ∧ LK lv [(0, .ref 359), (1, .int x1), (2, .int x2), (3, .int x3)] := ⟨_, rfl, LK.rf⟩
  rw [← elv]
  clear elv
  refine j_V.ldL mq7_M mq7_0 rfl (i := 0) (kd := 2) (v := .ref 359) (pcJ := 1) rfl L rfl rfl rfl ?_
  refine j_V.ldL mq7_M mq7_1 rfl (i := 1) (kd := 0) (v := .int x1) (pcJ := 2) rfl L rfl rfl rfl ?_
  refine j_V.cl mq7_M mq7_2 rfl (md := 3) (mj := 173) rfl (by decide) md0_M (As := [.ref 359, .int x1]) (rest := []) (jk_spl3 (K.at rfl) rfl rfl rfl (Nat.le_of_ble_eq_true rfl) (Nat.le_of_ble_eq_true rfl)) (fun d => md0_ok (u := fun j => [.int th, .ref 360, .ref 361, .ref 362, .ref 363, .ref 364, .ref 365, .ref 366, .ref 367, (u 9), .int sst, (u 11), (u 12), .int acs, (u 14), (u 15), (u 16), (u 17), (u 18), (u 19), (u 20), (u 21), .ref 368, (u 23), .ref 369, .ref 370, .ref 371, (u 27)].getD j .null) (K.fi [359, 360] rfl rfl)) ?_
  rintro r hz ⟨rfl, ez⟩
  rw [ez]
  clear ez
  show j_V jP _ 253 5 lv [.int (m_isTrain w x1)] h _
  refine j_V.ifc mq7_M mq7_5 (t := 16) rfl (fun c5_0 => ?_) (fun c5_0 => ?_)
  · replace c5_0 : (m_isTrain w x1) = 0 := jd_eq c5_0
    refine j_V.ldL mq7_M mq7_16 rfl (i := 0) (kd := 2) (v := .ref 359) (pcJ := 17) rfl L rfl rfl rfl ?_
    refine j_V.one mq7_M mq7_17 (by decide) (pcJ := 18) (stJ := [.int 2, .ref 359]) rfl ?_
    refine j_V.cl mq7_M mq7_18 rfl (md := 3) (mj := 169) rfl (by decide) mo0_M (As := [.ref 359, .int 2]) (rest := []) (jk_spl3 (K.at rfl) rfl rfl rfl (Nat.le_of_ble_eq_true rfl) (Nat.le_of_ble_eq_true rfl)) (fun d => mo0_ok (K.fi [359] rfl rfl)) ?_
    rintro r h9 ⟨rfl, K9⟩
    generalize ez1 : (m_refuse th sst 2) = z1 at K9 ⊢
    have K : KN h9 [(359, .inl (10, [.int (z1.2.1), .ref 360, .ref 361, .ref 362, .ref 363, .ref 364, .ref 365, .ref 366, .ref 367, (u 9), .int (z1.2.2), (u 11), (u 12), .int acs, (u 14), (u 15), (u 16), (u 17), (u 18), (u 19), (u 20), (u 21), .ref 368, (u 23), .ref 369, .ref 370, .ref 371, (u 27)])), (360, .inr (.inl (0, w)))] h0 := K.mg K9 rfl rfl
    clear K9
    show j_V jP _ 253 21 lv [.int (z1.1)] h9 _
    subst ez1
    refine j_V.ri mq7_M mq7_21 ?_
    rw [show (m_qtogether th sst w x1 x2 x3) = _ from ((if_pos c5_0).trans (rfl))]
    exact ⟨rfl, K⟩
  · replace c5_0 : ¬ ((m_isTrain w x1) = 0) := jd_eqn c5_0
    refine j_V.ldL mq7_M mq7_8 rfl (i := 0) (kd := 2) (v := .ref 359) (pcJ := 9) rfl L rfl rfl rfl ?_
    refine j_V.ldL mq7_M mq7_9 rfl (i := 2) (kd := 0) (v := .int x2) (pcJ := 10) rfl L rfl rfl rfl ?_
    refine j_V.cl mq7_M mq7_10 rfl (md := 3) (mj := 173) rfl (by decide) md0_M (As := [.ref 359, .int x2]) (rest := []) (jk_spl3 (K.at rfl) rfl rfl rfl (Nat.le_of_ble_eq_true rfl) (Nat.le_of_ble_eq_true rfl)) (fun d => md0_ok (u := fun j => [.int th, .ref 360, .ref 361, .ref 362, .ref 363, .ref 364, .ref 365, .ref 366, .ref 367, (u 9), .int sst, (u 11), (u 12), .int acs, (u 14), (u 15), (u 16), (u 17), (u 18), (u 19), (u 20), (u 21), .ref 368, (u 23), .ref 369, .ref 370, .ref 371, (u 27)].getD j .null) (K.fi [359, 360] rfl rfl)) ?_
    rintro r hz ⟨rfl, ez⟩
    rw [ez]
    clear ez
    show j_V jP _ 253 13 lv [.int (m_isTrain w x2)] h _
    refine j_V.ifc mq7_M mq7_13 (t := 22) rfl (fun c13_1 => ?_) (fun c13_1 => ?_)
    · replace c13_1 : ¬ ((m_isTrain w x2) = 0) := jd_ne c13_1
      refine j_V.ldL mq7_M mq7_22 rfl (i := 1) (kd := 0) (v := .int x1) (pcJ := 23) rfl L rfl rfl rfl ?_
      refine j_V.ldL mq7_M mq7_23 rfl (i := 2) (kd := 0) (v := .int x2) (pcJ := 24) rfl L rfl rfl rfl ?_
      refine j_V.icmp mq7_M mq7_24 (t := 33) rfl (fun c24_2 => ?_) (fun c24_2 => ?_)
      · replace c24_2 : ¬ (x1 = x2) := jd_ne c24_2
        refine j_V.one mq7_M mq7_33 (by decide) (pcJ := 34) (stJ := [.int 5]) rfl ?_
        refine j_V.ldL mq7_M mq7_34 rfl (i := 1) (kd := 0) (v := .int x1) (pcJ := 35) rfl L rfl rfl rfl ?_
        refine j_V.one mq7_M mq7_35 (by decide) (pcJ := 36) (stJ := [.int (5 * x1)]) rfl ?_
        refine j_V.ldL mq7_M mq7_36 rfl (i := 2) (kd := 0) (v := .int x2) (pcJ := 37) rfl L rfl rfl rfl ?_
        refine j_V.one mq7_M mq7_37 (by decide) (pcJ := 38) (stJ := [.int ((5 * x1) + x2)]) rfl ?_
        refine j_V.stL mq7_M mq7_38 rfl (i := 4) (kd := 0) (kl' := [(0, .ref 359), (1, .int x1), (2, .int x2), (3, .int x3), (4, .int ((5 * x1) + x2))]) (pcJ := 40) rfl L rfl (by decide) rfl rfl rfl (fun lv L => ?_)
        refine j_V.ldL mq7_M mq7_40 rfl (i := 0) (kd := 2) (v := .ref 359) (pcJ := 41) rfl L rfl rfl rfl ?_
        refine j_V.getK mq7_M mq7_41 (ci := 10) (j := 1) rfl K rfl rfl ?_
        refine j_V.one mq7_M mq7_44 (by decide) (pcJ := 47) (stJ := [.int 246, .ref 360]) rfl ?_
        refine j_V.ldL mq7_M mq7_47 rfl (i := 4) (kd := 0) (v := .int ((5 * x1) + x2)) (pcJ := 49) rfl L rfl rfl rfl ?_
        refine j_V.one mq7_M mq7_49 (by decide) (pcJ := 50) (stJ := [.int (246 + ((5 * x1) + x2)), .ref 360]) rfl ?_
        refine j_V.iaA mq7_M mq7_50 K rfl ?_
        refine j_V.one mq7_M mq7_51 (by decide) (pcJ := 52) (stJ := [.int (-1), .int (gA w (246 + ((5 * x1) + x2)))]) rfl ?_
        refine j_V.icmp mq7_M mq7_52 (t := 63) rfl (fun c52_3 => ?_) (fun c52_3 => ?_)
        · replace c52_3 : ¬ ((gA w (246 + ((5 * x1) + x2))) = (-1)) := jd_ne c52_3
          refine j_V.ldL mq7_M mq7_63 rfl (i := 0) (kd := 2) (v := .ref 359) (pcJ := 64) rfl L rfl rfl rfl ?_
          refine j_V.ldL mq7_M mq7_64 rfl (i := 0) (kd := 2) (v := .ref 359) (pcJ := 65) rfl L rfl rfl rfl ?_
          refine j_V.getK mq7_M mq7_65 (ci := 10) (j := 1) rfl K rfl rfl ?_
          refine j_V.ldL mq7_M mq7_68 rfl (i := 3) (kd := 0) (v := .int x3) (pcJ := 69) rfl L rfl rfl rfl ?_
          refine j_V.cut (b := 81) (stJ := [.int ((if x3 = 0 then 246 else 271) : Int32), .ref 360, .ref 359]) (fun v => [(0, .ref 359), (1, .int x1), (2, .int x2), (3, .int x3), (4, .int ((5 * x1) + x2))]) ((if x3 = 0 then 246 else 271) : Int32) (fun Q kk => ?_) (fun lv L => ?_)
          · refine j_V.ifc mq7_M mq7_69 (t := 78) rfl (fun c69_0 => ?_) (fun c69_0 => ?_)
            · replace c69_0 : x3 = 0 := jd_eq c69_0
              refine j_V.one mq7_M mq7_78 (by decide) (pcJ := 81) (stJ := [.int 246, .ref 360, .ref 359]) rfl ?_
              exact Eq.subst (motive := fun z => j_V jP _ 253 81 _ (.int z :: [.ref 360, .ref 359]) h Q) (show ((if x3 = 0 then 246 else 271) : Int32) = 246 from (if_pos c69_0).trans (rfl)) (kk _ L)
            · replace c69_0 : ¬ (x3 = 0) := jd_eqn c69_0
              refine j_V.one mq7_M mq7_72 (by decide) (pcJ := 75) (stJ := [.int 271, .ref 360, .ref 359]) rfl ?_
              refine j_V.gto mq7_M mq7_75 (t := 81) rfl ?_
              exact Eq.subst (motive := fun z => j_V jP _ 253 81 _ (.int z :: [.ref 360, .ref 359]) h Q) (show ((if x3 = 0 then 246 else 271) : Int32) = 271 from (if_neg c69_0).trans (rfl)) (kk _ L)
          refine j_V.ldL mq7_M mq7_81 rfl (i := 4) (kd := 0) (v := .int ((5 * x1) + x2)) (pcJ := 83) rfl L rfl rfl rfl ?_
          refine j_V.one mq7_M mq7_83 (by decide) (pcJ := 84) (stJ := [.int (((if x3 = 0 then 246 else 271) : Int32) + ((5 * x1) + x2)), .ref 360, .ref 359]) rfl ?_
          refine j_V.iaA mq7_M mq7_84 K rfl ?_
          refine j_V.cl mq7_M mq7_85 rfl (md := 3) (mj := 170) rfl (by decide) mo1_M (As := [.ref 359, .int (gA w (((if x3 = 0 then 246 else 271) : Int32) + ((5 * x1) + x2)))]) (rest := []) (jk_spl3 (K.at rfl) rfl rfl rfl (Nat.le_of_ble_eq_true rfl) (Nat.le_of_ble_eq_true rfl)) (fun d => mo1_ok (K.fi [359] rfl rfl)) ?_
          rintro r h9 ⟨rfl, K9⟩
          generalize ez4 : (m_gives th sst (gA w (((if x3 = 0 then 246 else 271) : Int32) + ((5 * x1) + x2)))) = z4 at K9 ⊢
          have K : KN h9 [(359, .inl (10, [.int (z4.2.1), .ref 360, .ref 361, .ref 362, .ref 363, .ref 364, .ref 365, .ref 366, .ref 367, (u 9), .int (z4.2.2), (u 11), (u 12), .int acs, (u 14), (u 15), (u 16), (u 17), (u 18), (u 19), (u 20), (u 21), .ref 368, (u 23), .ref 369, .ref 370, .ref 371, (u 27)])), (360, .inr (.inl (0, w)))] h0 := K.mg K9 rfl rfl
          clear K9
          show j_V jP _ 253 88 lv [.int (z4.1)] h9 _
          subst ez4
          refine j_V.ri mq7_M mq7_88 ?_
          rw [show (m_qtogether th sst w x1 x2 x3) = _ from ((if_neg c5_0).trans ((if_neg c13_1).trans ((if_neg c24_2).trans ((if_neg c52_3).trans (rfl)))))]
          exact ⟨rfl, K⟩
        · replace c52_3 : (gA w (246 + ((5 * x1) + x2))) = (-1) := jd_nen c52_3
          refine j_V.ldL mq7_M mq7_55 rfl (i := 0) (kd := 2) (v := .ref 359) (pcJ := 56) rfl L rfl rfl rfl ?_
          refine j_V.one mq7_M mq7_56 (by decide) (pcJ := 57) (stJ := [.int 5, .ref 359]) rfl ?_
          refine j_V.cl mq7_M mq7_57 rfl (md := 3) (mj := 169) rfl (by decide) mo0_M (As := [.ref 359, .int 5]) (rest := []) (jk_spl3 (K.at rfl) rfl rfl rfl (Nat.le_of_ble_eq_true rfl) (Nat.le_of_ble_eq_true rfl)) (fun d => mo0_ok (K.fi [359] rfl rfl)) ?_
          rintro r h9 ⟨rfl, K9⟩
          generalize ez5 : (m_refuse th sst 5) = z5 at K9 ⊢
          have K : KN h9 [(359, .inl (10, [.int (z5.2.1), .ref 360, .ref 361, .ref 362, .ref 363, .ref 364, .ref 365, .ref 366, .ref 367, (u 9), .int (z5.2.2), (u 11), (u 12), .int acs, (u 14), (u 15), (u 16), (u 17), (u 18), (u 19), (u 20), (u 21), .ref 368, (u 23), .ref 369, .ref 370, .ref 371, (u 27)])), (360, .inr (.inl (0, w)))] h0 := K.mg K9 rfl rfl
          clear K9
          show j_V jP _ 253 60 lv [.int (z5.1)] h9 _
          refine j_V.gto mq7_M mq7_60 (t := 88) rfl ?_
          subst ez5
          refine j_V.ri mq7_M mq7_88 ?_
          rw [show (m_qtogether th sst w x1 x2 x3) = _ from ((if_neg c5_0).trans ((if_neg c13_1).trans ((if_neg c24_2).trans ((if_pos c52_3).trans (rfl)))))]
          exact ⟨rfl, K⟩
      · replace c24_2 : x1 = x2 := jd_nen c24_2
        refine j_V.ldL mq7_M mq7_27 rfl (i := 0) (kd := 2) (v := .ref 359) (pcJ := 28) rfl L rfl rfl rfl ?_
        refine j_V.one mq7_M mq7_28 (by decide) (pcJ := 29) (stJ := [.int 4, .ref 359]) rfl ?_
        refine j_V.cl mq7_M mq7_29 rfl (md := 3) (mj := 169) rfl (by decide) mo0_M (As := [.ref 359, .int 4]) (rest := []) (jk_spl3 (K.at rfl) rfl rfl rfl (Nat.le_of_ble_eq_true rfl) (Nat.le_of_ble_eq_true rfl)) (fun d => mo0_ok (K.fi [359] rfl rfl)) ?_
        rintro r h9 ⟨rfl, K9⟩
        generalize ez6 : (m_refuse th sst 4) = z6 at K9 ⊢
        have K : KN h9 [(359, .inl (10, [.int (z6.2.1), .ref 360, .ref 361, .ref 362, .ref 363, .ref 364, .ref 365, .ref 366, .ref 367, (u 9), .int (z6.2.2), (u 11), (u 12), .int acs, (u 14), (u 15), (u 16), (u 17), (u 18), (u 19), (u 20), (u 21), .ref 368, (u 23), .ref 369, .ref 370, .ref 371, (u 27)])), (360, .inr (.inl (0, w)))] h0 := K.mg K9 rfl rfl
        clear K9
        show j_V jP _ 253 32 lv [.int (z6.1)] h9 _
        subst ez6
        refine j_V.ri mq7_M mq7_32 ?_
        rw [show (m_qtogether th sst w x1 x2 x3) = _ from ((if_neg c5_0).trans ((if_neg c13_1).trans ((if_pos c24_2).trans (rfl))))]
        exact ⟨rfl, K⟩
    · replace c13_1 : (m_isTrain w x2) = 0 := jd_nen c13_1
      refine j_V.ldL mq7_M mq7_16 rfl (i := 0) (kd := 2) (v := .ref 359) (pcJ := 17) rfl L rfl rfl rfl ?_
      refine j_V.one mq7_M mq7_17 (by decide) (pcJ := 18) (stJ := [.int 2, .ref 359]) rfl ?_
      refine j_V.cl mq7_M mq7_18 rfl (md := 3) (mj := 169) rfl (by decide) mo0_M (As := [.ref 359, .int 2]) (rest := []) (jk_spl3 (K.at rfl) rfl rfl rfl (Nat.le_of_ble_eq_true rfl) (Nat.le_of_ble_eq_true rfl)) (fun d => mo0_ok (K.fi [359] rfl rfl)) ?_
      rintro r h9 ⟨rfl, K9⟩
      generalize ez7 : (m_refuse th sst 2) = z7 at K9 ⊢
      have K : KN h9 [(359, .inl (10, [.int (z7.2.1), .ref 360, .ref 361, .ref 362, .ref 363, .ref 364, .ref 365, .ref 366, .ref 367, (u 9), .int (z7.2.2), (u 11), (u 12), .int acs, (u 14), (u 15), (u 16), (u 17), (u 18), (u 19), (u 20), (u 21), .ref 368, (u 23), .ref 369, .ref 370, .ref 371, (u 27)])), (360, .inr (.inl (0, w)))] h0 := K.mg K9 rfl rfl
      clear K9
      show j_V jP _ 253 21 lv [.int (z7.1)] h9 _
      subst ez7
      refine j_V.ri mq7_M mq7_21 ?_
      rw [show (m_qtogether th sst w x1 x2 x3) = _ from ((if_neg c5_0).trans ((if_pos c13_1).trans (rfl)))]
      exact ⟨rfl, K⟩
set_option maxRecDepth 100000 in
theorem mq8_M : j_meth jP 255 = some (yX10_stood, cX10_stood, 2, (some .int), 1, false, 10) := rfl
set_option maxRecDepth 100000 in
theorem mq8_0 : j_code jP 255 0 = some (.aload_n 0) := rfl
set_option maxRecDepth 100000 in
theorem mq8_1 : j_code jP 255 1 = some (.iload_n 1) := rfl
set_option maxRecDepth 100000 in
theorem mq8_2 : j_code jP 255 2 = some (.invokevirtual 65) := rfl
set_option maxRecDepth 100000 in
theorem mq8_5 : j_code jP 255 5 = some (.ifCond .eq 20) := rfl
set_option maxRecDepth 100000 in
theorem mq8_8 : j_code jP 255 8 = some (.aload_n 0) := rfl
set_option maxRecDepth 100000 in
theorem mq8_9 : j_code jP 255 9 = some (.aload_n 0) := rfl
set_option maxRecDepth 100000 in
theorem mq8_10 : j_code jP 255 10 = some (.getfield 7) := rfl
set_option maxRecDepth 100000 in
theorem mq8_13 : j_code jP 255 13 = some (.sipush 595) := rfl
set_option maxRecDepth 100000 in
theorem mq8_16 : j_code jP 255 16 = some (.iload_n 1) := rfl
set_option maxRecDepth 100000 in
theorem mq8_17 : j_code jP 255 17 = some (.iadd) := rfl
set_option maxRecDepth 100000 in
theorem mq8_18 : j_code jP 255 18 = some (.iaload) := rfl
set_option maxRecDepth 100000 in
theorem mq8_19 : j_code jP 255 19 = some (.invokevirtual 195) := rfl
set_option maxRecDepth 100000 in
theorem mq8_22 : j_code jP 255 22 = some (.goto 8) := rfl
set_option maxRecDepth 100000 in
theorem mq8_25 : j_code jP 255 25 = some (.aload_n 0) := rfl
set_option maxRecDepth 100000 in
theorem mq8_26 : j_code jP 255 26 = some (.iconst 2) := rfl
set_option maxRecDepth 100000 in
theorem mq8_27 : j_code jP 255 27 = some (.invokevirtual 179) := rfl
set_option maxRecDepth 100000 in
theorem mq8_30 : j_code jP 255 30 = some (.ireturn) := rfl
def m_qstood (th : Int32) (sst : Int32) (w : List Int32) (x1 : Int32) : Int32 × Int32 × Int32 := (if (m_isStation w x1) = 0 then let z3 := (m_refuse th sst 2); ((z3.1), (z3.2.1), (z3.2.2)) else let z4 := (m_gives th sst (gA w (595 + x1))); ((z4.1), (z4.2.1), (z4.2.2)))
set_option maxRecDepth 1000000 in
theorem mq8_ok {u : Nat → Value} {th : Int32} {sst : Int32} {acs : Int32} {w : List Int32} {x1 : Int32} {d : Nat} {h h0 : J_H} (K : KN h [(359, .inl (10, [.int th, .ref 360, .ref 361, .ref 362, .ref 363, .ref 364, .ref 365, .ref 366, .ref 367, (u 9), .int sst, (u 11), (u 12), .int acs, (u 14), (u 15), (u 16), (u 17), (u 18), (u 19), (u 20), (u 21), .ref 368, (u 23), .ref 369, .ref 370, .ref 371, (u 27)])), (360, .inr (.inl (0, w)))] h0) : j_V jP d 255 0 (lv_args 0 [.ref 359, .int x1]) [] h (fun rv h' => rv = some (.int (m_qstood th sst w x1).1) ∧ KN h' [(359, .inl (10, [.int (m_qstood th sst w x1).2.1, .ref 360, .ref 361, .ref 362, .ref 363, .ref 364, .ref 365, .ref 366, .ref 367, (u 9), .int (m_qstood th sst w x1).2.2, (u 11), (u 12), .int acs, (u 14), (u 15), (u 16), (u 17), (u 18), (u 19), (u 20), (u 21), .ref 368, (u 23), .ref 369, .ref 370, .ref 371, (u 27)])), (360, .inr (.inl (0, w)))] h0) := by
  show j_V jP d 255 0 [(0, .ref 359), (1, .int x1)] [] h _
  obtain ⟨lv, elv, L⟩ : ∃ lv, lv = [(0, .ref 359), (1, .int x1)] ∧ LK lv [(0, .ref 359), (1, .int x1)] := ⟨_, rfl, LK.rf⟩
  rw [← elv]
  clear elv
  refine j_V.ldL mq8_M mq8_0 rfl (i := 0) (kd := 2) (v := .ref 359) (pcJ := 1) rfl L rfl rfl rfl ?_
  refine j_V.ldL mq8_M mq8_1 rfl (i := 1) (kd := 0) (v := .int x1) (pcJ := 2) rfl L rfl rfl rfl ?_
  refine j_V.cl mq8_M mq8_2 rfl (md := 3) (mj := 172) rfl (by decide) mc9_M (As := [.ref 359, .int x1]) (rest := []) (jk_spl3 (K.at rfl) rfl rfl rfl (Nat.le_of_ble_eq_true rfl) (Nat.le_of_ble_eq_true rfl)) (fun d => mc9_ok (u := fun j => [.int th, .ref 360, .ref 361, .ref 362, .ref 363, .ref 364, .ref 365, .ref 366, .ref 367, (u 9), .int sst, (u 11), (u 12), .int acs, (u 14), (u 15), (u 16), (u 17), (u 18), (u 19), (u 20), (u 21), .ref 368, (u 23), .ref 369, .ref 370, .ref 371, (u 27)].getD j .null) (K.fi [359, 360] rfl rfl)) ?_
  rintro r hz ⟨rfl, ez⟩
  rw [ez]
  clear ez
  show j_V jP _ 255 5 lv [.int (m_isStation w x1)] h _
  refine j_V.ifc mq8_M mq8_5 (t := 25) rfl (fun c5_0 => ?_) (fun c5_0 => ?_)
  · replace c5_0 : (m_isStation w x1) = 0 := jd_eq c5_0
    refine j_V.ldL mq8_M mq8_25 rfl (i := 0) (kd := 2) (v := .ref 359) (pcJ := 26) rfl L rfl rfl rfl ?_
    refine j_V.one mq8_M mq8_26 (by decide) (pcJ := 27) (stJ := [.int 2, .ref 359]) rfl ?_
    refine j_V.cl mq8_M mq8_27 rfl (md := 3) (mj := 169) rfl (by decide) mo0_M (As := [.ref 359, .int 2]) (rest := []) (jk_spl3 (K.at rfl) rfl rfl rfl (Nat.le_of_ble_eq_true rfl) (Nat.le_of_ble_eq_true rfl)) (fun d => mo0_ok (K.fi [359] rfl rfl)) ?_
    rintro r h9 ⟨rfl, K9⟩
    generalize ez3 : (m_refuse th sst 2) = z3 at K9 ⊢
    have K : KN h9 [(359, .inl (10, [.int (z3.2.1), .ref 360, .ref 361, .ref 362, .ref 363, .ref 364, .ref 365, .ref 366, .ref 367, (u 9), .int (z3.2.2), (u 11), (u 12), .int acs, (u 14), (u 15), (u 16), (u 17), (u 18), (u 19), (u 20), (u 21), .ref 368, (u 23), .ref 369, .ref 370, .ref 371, (u 27)])), (360, .inr (.inl (0, w)))] h0 := K.mg K9 rfl rfl
    clear K9
    show j_V jP _ 255 30 lv [.int (z3.1)] h9 _
    subst ez3
    refine j_V.ri mq8_M mq8_30 ?_
    rw [show (m_qstood th sst w x1) = _ from ((if_pos c5_0).trans (rfl))]
    exact ⟨rfl, K⟩
  · replace c5_0 : ¬ ((m_isStation w x1) = 0) := jd_eqn c5_0
    refine j_V.ldL mq8_M mq8_8 rfl (i := 0) (kd := 2) (v := .ref 359) (pcJ := 9) rfl L rfl rfl rfl ?_
    refine j_V.ldL mq8_M mq8_9 rfl (i := 0) (kd := 2) (v := .ref 359) (pcJ := 10) rfl L rfl rfl rfl ?_
    refine j_V.getK mq8_M mq8_10 (ci := 10) (j := 1) rfl K rfl rfl ?_
    refine j_V.one mq8_M mq8_13 (by decide) (pcJ := 16) (stJ := [.int 595, .ref 360, .ref 359]) rfl ?_
    refine j_V.ldL mq8_M mq8_16 rfl (i := 1) (kd := 0) (v := .int x1) (pcJ := 17) rfl L rfl rfl rfl ?_
    refine j_V.one mq8_M mq8_17 (by decide) (pcJ := 18) (stJ := [.int (595 + x1), .ref 360, .ref 359]) rfl ?_
    refine j_V.iaA mq8_M mq8_18 K rfl ?_
    refine j_V.cl mq8_M mq8_19 rfl (md := 3) (mj := 170) rfl (by decide) mo1_M (As := [.ref 359, .int (gA w (595 + x1))]) (rest := []) (jk_spl3 (K.at rfl) rfl rfl rfl (Nat.le_of_ble_eq_true rfl) (Nat.le_of_ble_eq_true rfl)) (fun d => mo1_ok (K.fi [359] rfl rfl)) ?_
    rintro r h9 ⟨rfl, K9⟩
    generalize ez4 : (m_gives th sst (gA w (595 + x1))) = z4 at K9 ⊢
    have K : KN h9 [(359, .inl (10, [.int (z4.2.1), .ref 360, .ref 361, .ref 362, .ref 363, .ref 364, .ref 365, .ref 366, .ref 367, (u 9), .int (z4.2.2), (u 11), (u 12), .int acs, (u 14), (u 15), (u 16), (u 17), (u 18), (u 19), (u 20), (u 21), .ref 368, (u 23), .ref 369, .ref 370, .ref 371, (u 27)])), (360, .inr (.inl (0, w)))] h0 := K.mg K9 rfl rfl
    clear K9
    show j_V jP _ 255 22 lv [.int (z4.1)] h9 _
    refine j_V.gto mq8_M mq8_22 (t := 30) rfl ?_
    subst ez4
    refine j_V.ri mq8_M mq8_30 ?_
    rw [show (m_qstood th sst w x1) = _ from ((if_neg c5_0).trans (rfl))]
    exact ⟨rfl, K⟩
set_option maxRecDepth 100000 in
theorem mq9_M : j_meth jP 256 = some (yX10_late, cX10_late, 6, (some .int), 2, false, 10) := rfl
set_option maxRecDepth 100000 in
theorem mq9_0 : j_code jP 256 0 = some (.aload_n 0) := rfl
set_option maxRecDepth 100000 in
theorem mq9_1 : j_code jP 256 1 = some (.iload_n 1) := rfl
set_option maxRecDepth 100000 in
theorem mq9_2 : j_code jP 256 2 = some (.invokevirtual 310) := rfl
set_option maxRecDepth 100000 in
theorem mq9_5 : j_code jP 256 5 = some (.ifCond .eq 11) := rfl
set_option maxRecDepth 100000 in
theorem mq9_8 : j_code jP 256 8 = some (.aload_n 0) := rfl
set_option maxRecDepth 100000 in
theorem mq9_9 : j_code jP 256 9 = some (.iload_n 2) := rfl
set_option maxRecDepth 100000 in
theorem mq9_10 : j_code jP 256 10 = some (.invokevirtual 65) := rfl
set_option maxRecDepth 100000 in
theorem mq9_13 : j_code jP 256 13 = some (.ifCond .ne 9) := rfl
set_option maxRecDepth 100000 in
theorem mq9_16 : j_code jP 256 16 = some (.aload_n 0) := rfl
set_option maxRecDepth 100000 in
theorem mq9_17 : j_code jP 256 17 = some (.iconst 2) := rfl
set_option maxRecDepth 100000 in
theorem mq9_18 : j_code jP 256 18 = some (.invokevirtual 179) := rfl
set_option maxRecDepth 100000 in
theorem mq9_21 : j_code jP 256 21 = some (.ireturn) := rfl
set_option maxRecDepth 100000 in
theorem mq9_22 : j_code jP 256 22 = some (.aload_n 0) := rfl
set_option maxRecDepth 100000 in
theorem mq9_23 : j_code jP 256 23 = some (.iload_n 1) := rfl
set_option maxRecDepth 100000 in
theorem mq9_24 : j_code jP 256 24 = some (.bipush 13) := rfl
set_option maxRecDepth 100000 in
theorem mq9_26 : j_code jP 256 26 = some (.iload_n 2) := rfl
set_option maxRecDepth 100000 in
theorem mq9_27 : j_code jP 256 27 = some (.iadd) := rfl
set_option maxRecDepth 100000 in
theorem mq9_28 : j_code jP 256 28 = some (.invokevirtual 198) := rfl
set_option maxRecDepth 100000 in
theorem mq9_31 : j_code jP 256 31 = some (.istore_n 3) := rfl
set_option maxRecDepth 100000 in
theorem mq9_32 : j_code jP 256 32 = some (.iload_n 3) := rfl
set_option maxRecDepth 100000 in
theorem mq9_33 : j_code jP 256 33 = some (.iconst (-1)) := rfl
set_option maxRecDepth 100000 in
theorem mq9_34 : j_code jP 256 34 = some (.if_icmp .ne 9) := rfl
set_option maxRecDepth 100000 in
theorem mq9_37 : j_code jP 256 37 = some (.aload_n 0) := rfl
set_option maxRecDepth 100000 in
theorem mq9_38 : j_code jP 256 38 = some (.iconst 5) := rfl
set_option maxRecDepth 100000 in
theorem mq9_39 : j_code jP 256 39 = some (.invokevirtual 179) := rfl
set_option maxRecDepth 100000 in
theorem mq9_42 : j_code jP 256 42 = some (.ireturn) := rfl
set_option maxRecDepth 100000 in
theorem mq9_43 : j_code jP 256 43 = some (.aload_n 0) := rfl
set_option maxRecDepth 100000 in
theorem mq9_44 : j_code jP 256 44 = some (.iload_n 1) := rfl
set_option maxRecDepth 100000 in
theorem mq9_45 : j_code jP 256 45 = some (.iconst 3) := rfl
set_option maxRecDepth 100000 in
theorem mq9_46 : j_code jP 256 46 = some (.invokevirtual 198) := rfl
set_option maxRecDepth 100000 in
theorem mq9_49 : j_code jP 256 49 = some (.iload_n 2) := rfl
set_option maxRecDepth 100000 in
theorem mq9_50 : j_code jP 256 50 = some (.aload_n 0) := rfl
set_option maxRecDepth 100000 in
theorem mq9_51 : j_code jP 256 51 = some (.iload_n 1) := rfl
set_option maxRecDepth 100000 in
theorem mq9_52 : j_code jP 256 52 = some (.iconst 1) := rfl
set_option maxRecDepth 100000 in
theorem mq9_53 : j_code jP 256 53 = some (.invokevirtual 198) := rfl
set_option maxRecDepth 100000 in
theorem mq9_56 : j_code jP 256 56 = some (.if_icmp .ne 7) := rfl
set_option maxRecDepth 100000 in
theorem mq9_59 : j_code jP 256 59 = some (.iconst 0) := rfl
set_option maxRecDepth 100000 in
theorem mq9_60 : j_code jP 256 60 = some (.goto 4) := rfl
set_option maxRecDepth 100000 in
theorem mq9_63 : j_code jP 256 63 = some (.iconst 1) := rfl
set_option maxRecDepth 100000 in
theorem mq9_64 : j_code jP 256 64 = some (.iadd) := rfl
set_option maxRecDepth 100000 in
theorem mq9_65 : j_code jP 256 65 = some (.istore 4) := rfl
set_option maxRecDepth 100000 in
theorem mq9_67 : j_code jP 256 67 = some (.aload_n 0) := rfl
set_option maxRecDepth 100000 in
theorem mq9_68 : j_code jP 256 68 = some (.iload_n 1) := rfl
set_option maxRecDepth 100000 in
theorem mq9_69 : j_code jP 256 69 = some (.iconst 1) := rfl
set_option maxRecDepth 100000 in
theorem mq9_70 : j_code jP 256 70 = some (.invokevirtual 198) := rfl
set_option maxRecDepth 100000 in
theorem mq9_73 : j_code jP 256 73 = some (.iload_n 2) := rfl
set_option maxRecDepth 100000 in
theorem mq9_74 : j_code jP 256 74 = some (.invokestatic 161) := rfl
set_option maxRecDepth 100000 in
theorem mq9_77 : j_code jP 256 77 = some (.istore 5) := rfl
set_option maxRecDepth 100000 in
theorem mq9_79 : j_code jP 256 79 = some (.iload 5) := rfl
set_option maxRecDepth 100000 in
theorem mq9_81 : j_code jP 256 81 = some (.aload_n 0) := rfl
set_option maxRecDepth 100000 in
theorem mq9_82 : j_code jP 256 82 = some (.iload_n 1) := rfl
set_option maxRecDepth 100000 in
theorem mq9_83 : j_code jP 256 83 = some (.iconst 1) := rfl
set_option maxRecDepth 100000 in
theorem mq9_84 : j_code jP 256 84 = some (.invokevirtual 198) := rfl
set_option maxRecDepth 100000 in
theorem mq9_87 : j_code jP 256 87 = some (.iload_n 2) := rfl
set_option maxRecDepth 100000 in
theorem mq9_88 : j_code jP 256 88 = some (.invokestatic 219) := rfl
set_option maxRecDepth 100000 in
theorem mq9_91 : j_code jP 256 91 = some (.if_icmp .ge 21) := rfl
set_option maxRecDepth 100000 in
theorem mq9_94 : j_code jP 256 94 = some (.iload 4) := rfl
set_option maxRecDepth 100000 in
theorem mq9_96 : j_code jP 256 96 = some (.aload_n 0) := rfl
set_option maxRecDepth 100000 in
theorem mq9_97 : j_code jP 256 97 = some (.iload_n 1) := rfl
set_option maxRecDepth 100000 in
theorem mq9_98 : j_code jP 256 98 = some (.iload 5) := rfl
set_option maxRecDepth 100000 in
theorem mq9_100 : j_code jP 256 100 = some (.invokevirtual 222) := rfl
set_option maxRecDepth 100000 in
theorem mq9_103 : j_code jP 256 103 = some (.iadd) := rfl
set_option maxRecDepth 100000 in
theorem mq9_104 : j_code jP 256 104 = some (.istore 4) := rfl
set_option maxRecDepth 100000 in
theorem mq9_106 : j_code jP 256 106 = some (.iinc 5 1) := rfl
set_option maxRecDepth 100000 in
theorem mq9_109 : j_code jP 256 109 = some (.goto (-30)) := rfl
set_option maxRecDepth 100000 in
theorem mq9_112 : j_code jP 256 112 = some (.aload_n 0) := rfl
set_option maxRecDepth 100000 in
theorem mq9_113 : j_code jP 256 113 = some (.iload_n 3) := rfl
set_option maxRecDepth 100000 in
theorem mq9_114 : j_code jP 256 114 = some (.iload 4) := rfl
set_option maxRecDepth 100000 in
theorem mq9_116 : j_code jP 256 116 = some (.isub) := rfl
set_option maxRecDepth 100000 in
theorem mq9_117 : j_code jP 256 117 = some (.invokevirtual 195) := rfl
set_option maxRecDepth 100000 in
theorem mq9_120 : j_code jP 256 120 = some (.ireturn) := rfl
def m_qlate_l79 (w : List Int32) (v1 : Int32) (v2 : Int32) (v3 : Int32) : Nat → Int32 → Int32 → Int32 → Int32 → Int32 × Int32 × Int32
  | 0, v5, v4, th, sst => let z1 := (m_gives th sst (v3 - v4)); ((z1.1), (z1.2.1), (z1.2.2))
  | f + 1, v5, v4, th, sst => (m_qlate_l79 w v1 v2 v3 f (v5 + 1) (v4 + (m_runOf w v1 v5)) th sst)
set_option maxRecDepth 1000000 in
theorem mq9_ok_l79 {u : Nat → Value} {acs : Int32} {w : List Int32} {v1 v2 v3 : Int32} {d : Nat} {h0 : J_H} : ∀ (f : Nat) (v5 v4 : Int32) (th : Int32) (sst : Int32) {lv : J_L} {h : J_H}, lpN (iMx (m_of w v1 1) v2) v5 = f → LK lv [(0, .ref 359), (1, .int v1), (2, .int v2), (3, .int v3), (4, .int v4), (5, .int v5)] → KN h [(359, .inl (10, [.int th, .ref 360, .ref 361, .ref 362, .ref 363, .ref 364, .ref 365, .ref 366, .ref 367, (u 9), .int sst, (u 11), (u 12), .int acs, (u 14), (u 15), (u 16), (u 17), (u 18), (u 19), (u 20), (u 21), .ref 368, (u 23), .ref 369, .ref 370, .ref 371, (u 27)])), (360, .inr (.inl (0, w)))] h0 → j_V jP d 256 79 lv [] h (fun rv h' => rv = some (.int (m_qlate_l79 w v1 v2 v3 f v5 v4 th sst).1) ∧ KN h' [(359, .inl (10, [.int (m_qlate_l79 w v1 v2 v3 f v5 v4 th sst).2.1, .ref 360, .ref 361, .ref 362, .ref 363, .ref 364, .ref 365, .ref 366, .ref 367, (u 9), .int (m_qlate_l79 w v1 v2 v3 f v5 v4 th sst).2.2, (u 11), (u 12), .int acs, (u 14), (u 15), (u 16), (u 17), (u 18), (u 19), (u 20), (u 21), .ref 368, (u 23), .ref 369, .ref 370, .ref 371, (u 27)])), (360, .inr (.inl (0, w)))] h0) := by
  intro f
  induction f with
  | zero =>
    intro v5 v4 th sst lv h e L K
    refine j_V.ldL mq9_M mq9_79 rfl (i := 5) (kd := 0) (v := .int v5) (pcJ := 81) rfl L rfl rfl rfl ?_
    refine j_V.ldL mq9_M mq9_81 rfl (i := 0) (kd := 2) (v := .ref 359) (pcJ := 82) rfl L rfl rfl rfl ?_
    refine j_V.ldL mq9_M mq9_82 rfl (i := 1) (kd := 0) (v := .int v1) (pcJ := 83) rfl L rfl rfl rfl ?_
    refine j_V.one mq9_M mq9_83 (by decide) (pcJ := 84) (stJ := [.int 1, .int v1, .ref 359, .int v5]) rfl ?_
    refine j_V.cl mq9_M mq9_84 rfl (md := 3) (mj := 178) rfl (by decide) ma3_M (As := [.ref 359, .int v1, .int 1]) (rest := [.int v5]) (jk_spl3 (K.at rfl) rfl rfl rfl (Nat.le_of_ble_eq_true rfl) (Nat.le_of_ble_eq_true rfl)) (fun d => ma3_ok (u := fun j => [.int th, .ref 360, .ref 361, .ref 362, .ref 363, .ref 364, .ref 365, .ref 366, .ref 367, (u 9), .int sst, (u 11), (u 12), .int acs, (u 14), (u 15), (u 16), (u 17), (u 18), (u 19), (u 20), (u 21), .ref 368, (u 23), .ref 369, .ref 370, .ref 371, (u 27)].getD j .null) (K.fi [359, 360] rfl rfl)) ?_
    rintro r hz ⟨rfl, ez⟩
    rw [ez]
    clear ez
    show j_V jP _ 256 87 lv [.int (m_of w v1 1), .int v5] h _
    refine j_V.ldL mq9_M mq9_87 rfl (i := 2) (kd := 0) (v := .int v2) (pcJ := 88) rfl L rfl rfl rfl ?_
    refine j_V.mx mq9_M mq9_88 rfl rfl (Nat.le_of_ble_eq_true rfl) ?_
    refine j_V.icmp mq9_M mq9_91 (t := 112) rfl (fun c91_0 => ?_) (fun c91_0 => ?_)
    · replace c91_0 : ¬ (v5 < (iMx (m_of w v1 1) v2)) := jd_ge c91_0
      refine j_V.ldL mq9_M mq9_112 rfl (i := 0) (kd := 2) (v := .ref 359) (pcJ := 113) rfl L rfl rfl rfl ?_
      refine j_V.ldL mq9_M mq9_113 rfl (i := 3) (kd := 0) (v := .int v3) (pcJ := 114) rfl L rfl rfl rfl ?_
      refine j_V.ldL mq9_M mq9_114 rfl (i := 4) (kd := 0) (v := .int v4) (pcJ := 116) rfl L rfl rfl rfl ?_
      refine j_V.one mq9_M mq9_116 (by decide) (pcJ := 117) (stJ := [.int (v3 - v4), .ref 359]) rfl ?_
      refine j_V.cl mq9_M mq9_117 rfl (md := 3) (mj := 170) rfl (by decide) mo1_M (As := [.ref 359, .int (v3 - v4)]) (rest := []) (jk_spl3 (K.at rfl) rfl rfl rfl (Nat.le_of_ble_eq_true rfl) (Nat.le_of_ble_eq_true rfl)) (fun d => mo1_ok (K.fi [359] rfl rfl)) ?_
      rintro r h9 ⟨rfl, K9⟩
      generalize ez1 : (m_gives th sst (v3 - v4)) = z1 at K9 ⊢
      have K : KN h9 [(359, .inl (10, [.int (z1.2.1), .ref 360, .ref 361, .ref 362, .ref 363, .ref 364, .ref 365, .ref 366, .ref 367, (u 9), .int (z1.2.2), (u 11), (u 12), .int acs, (u 14), (u 15), (u 16), (u 17), (u 18), (u 19), (u 20), (u 21), .ref 368, (u 23), .ref 369, .ref 370, .ref 371, (u 27)])), (360, .inr (.inl (0, w)))] h0 := K.mg K9 rfl rfl
      clear K9
      show j_V jP _ 256 120 lv [.int (z1.1)] h9 _
      subst ez1
      refine j_V.ri mq9_M mq9_120 ?_
      rw [show (m_qlate_l79 w v1 v2 v3 0 v5 v4 th sst) = _ from (rfl)]
      exact ⟨rfl, K⟩
    · replace c91_0 : v5 < (iMx (m_of w v1 1) v2) := jd_gen c91_0
      exact absurd c91_0 (lpN_z e)
  | succ f ih =>
    intro v5 v4 th sst lv h e L K
    refine j_V.ldL mq9_M mq9_79 rfl (i := 5) (kd := 0) (v := .int v5) (pcJ := 81) rfl L rfl rfl rfl ?_
    refine j_V.ldL mq9_M mq9_81 rfl (i := 0) (kd := 2) (v := .ref 359) (pcJ := 82) rfl L rfl rfl rfl ?_
    refine j_V.ldL mq9_M mq9_82 rfl (i := 1) (kd := 0) (v := .int v1) (pcJ := 83) rfl L rfl rfl rfl ?_
    refine j_V.one mq9_M mq9_83 (by decide) (pcJ := 84) (stJ := [.int 1, .int v1, .ref 359, .int v5]) rfl ?_
    refine j_V.cl mq9_M mq9_84 rfl (md := 3) (mj := 178) rfl (by decide) ma3_M (As := [.ref 359, .int v1, .int 1]) (rest := [.int v5]) (jk_spl3 (K.at rfl) rfl rfl rfl (Nat.le_of_ble_eq_true rfl) (Nat.le_of_ble_eq_true rfl)) (fun d => ma3_ok (u := fun j => [.int th, .ref 360, .ref 361, .ref 362, .ref 363, .ref 364, .ref 365, .ref 366, .ref 367, (u 9), .int sst, (u 11), (u 12), .int acs, (u 14), (u 15), (u 16), (u 17), (u 18), (u 19), (u 20), (u 21), .ref 368, (u 23), .ref 369, .ref 370, .ref 371, (u 27)].getD j .null) (K.fi [359, 360] rfl rfl)) ?_
    rintro r hz ⟨rfl, ez⟩
    rw [ez]
    clear ez
    show j_V jP _ 256 87 lv [.int (m_of w v1 1), .int v5] h _
    refine j_V.ldL mq9_M mq9_87 rfl (i := 2) (kd := 0) (v := .int v2) (pcJ := 88) rfl L rfl rfl rfl ?_
    refine j_V.mx mq9_M mq9_88 rfl rfl (Nat.le_of_ble_eq_true rfl) ?_
    refine j_V.icmp mq9_M mq9_91 (t := 112) rfl (fun c91_0 => ?_) (fun c91_0 => ?_)
    · replace c91_0 : ¬ (v5 < (iMx (m_of w v1 1) v2)) := jd_ge c91_0
      exact absurd (lpN_s e) c91_0
    · replace c91_0 : v5 < (iMx (m_of w v1 1) v2) := jd_gen c91_0
      refine j_V.ldL mq9_M mq9_94 rfl (i := 4) (kd := 0) (v := .int v4) (pcJ := 96) rfl L rfl rfl rfl ?_
      refine j_V.ldL mq9_M mq9_96 rfl (i := 0) (kd := 2) (v := .ref 359) (pcJ := 97) rfl L rfl rfl rfl ?_
      refine j_V.ldL mq9_M mq9_97 rfl (i := 1) (kd := 0) (v := .int v1) (pcJ := 98) rfl L rfl rfl rfl ?_
      refine j_V.ldL mq9_M mq9_98 rfl (i := 5) (kd := 0) (v := .int v5) (pcJ := 100) rfl L rfl rfl rfl ?_
      refine j_V.cl mq9_M mq9_100 rfl (md := 3) (mj := 211) rfl (by decide) mb2_M (As := [.ref 359, .int v1, .int v5]) (rest := [.int v4]) (jk_spl3 (K.at rfl) rfl rfl rfl (Nat.le_of_ble_eq_true rfl) (Nat.le_of_ble_eq_true rfl)) (fun d => mb2_ok (u := fun j => [.int th, .ref 360, .ref 361, .ref 362, .ref 363, .ref 364, .ref 365, .ref 366, .ref 367, (u 9), .int sst, (u 11), (u 12), .int acs, (u 14), (u 15), (u 16), (u 17), (u 18), (u 19), (u 20), (u 21), .ref 368, (u 23), .ref 369, .ref 370, .ref 371, (u 27)].getD j .null) (K.fi [359, 360] rfl rfl)) ?_
      rintro r hz ⟨rfl, ez⟩
      rw [ez]
      clear ez
      show j_V jP _ 256 103 lv [.int (m_runOf w v1 v5), .int v4] h _
      refine j_V.one mq9_M mq9_103 (by decide) (pcJ := 104) (stJ := [.int (v4 + (m_runOf w v1 v5))]) rfl ?_
      refine j_V.stL mq9_M mq9_104 rfl (i := 4) (kd := 0) (kl' := [(0, .ref 359), (1, .int v1), (2, .int v2), (3, .int v3), (4, .int (v4 + (m_runOf w v1 v5))), (5, .int v5)]) (pcJ := 106) rfl L rfl (by decide) rfl rfl rfl (fun lv L => ?_)
      refine j_V.inL mq9_M mq9_106 (i := 5) (kl' := [(0, .ref 359), (1, .int v1), (2, .int v2), (3, .int v3), (4, .int (v4 + (m_runOf w v1 v5))), (5, .int (v5 + 1))]) (pcJ := 109) L rfl rfl rfl rfl (fun lv L => ?_)
      refine j_V.gto mq9_M mq9_109 (t := 79) rfl ?_
      rw [show (m_qlate_l79 w v1 v2 v3 (f + 1) v5 v4 th sst) = _ from (rfl)]
      exact ih _ _ _ _ (lpN_n e) L K
def m_qlate (th : Int32) (sst : Int32) (w : List Int32) (x1 : Int32) (x2 : Int32) : Int32 × Int32 × Int32 := (if (m_isTrain w x1) = 0 then let z2 := (m_refuse th sst 2); ((z2.1), (z2.2.1), (z2.2.2)) else (if (m_isStation w x2) = 0 then let z4 := (m_refuse th sst 2); ((z4.1), (z4.2.1), (z4.2.2)) else (if (m_of w x1 (13 + x2)) = (-1) then let z3 := (m_refuse th sst 5); ((z3.1), (z3.2.1), (z3.2.2)) else (m_qlate_l79 w x1 x2 (m_of w x1 (13 + x2)) (lpN (iMx (m_of w x1 1) x2) (iMn (m_of w x1 1) x2)) (iMn (m_of w x1 1) x2) ((m_of w x1 3) + ((if x2 = (m_of w x1 1) then 0 else 1) : Int32)) th sst))))
set_option maxRecDepth 1000000 in
theorem mq9_ok {u : Nat → Value} {th : Int32} {sst : Int32} {acs : Int32} {w : List Int32} {x1 x2 : Int32} {d : Nat} {h h0 : J_H} (K : KN h [(359, .inl (10, [.int th, .ref 360, .ref 361, .ref 362, .ref 363, .ref 364, .ref 365, .ref 366, .ref 367, (u 9), .int sst, (u 11), (u 12), .int acs, (u 14), (u 15), (u 16), (u 17), (u 18), (u 19), (u 20), (u 21), .ref 368, (u 23), .ref 369, .ref 370, .ref 371, (u 27)])), (360, .inr (.inl (0, w)))] h0) : j_V jP d 256 0 (lv_args 0 [.ref 359, .int x1, .int x2]) [] h (fun rv h' => rv = some (.int (m_qlate th sst w x1 x2).1) ∧ KN h' [(359, .inl (10, [.int (m_qlate th sst w x1 x2).2.1, .ref 360, .ref 361, .ref 362, .ref 363, .ref 364, .ref 365, .ref 366, .ref 367, (u 9), .int (m_qlate th sst w x1 x2).2.2, (u 11), (u 12), .int acs, (u 14), (u 15), (u 16), (u 17), (u 18), (u 19), (u 20), (u 21), .ref 368, (u 23), .ref 369, .ref 370, .ref 371, (u 27)])), (360, .inr (.inl (0, w)))] h0) := by
  show j_V jP d 256 0 [(0, .ref 359), (1, .int x1), (2, .int x2)] [] h _
  obtain ⟨lv, elv, L⟩ : ∃ lv, lv = [(0, .ref 359), (1, .int x1), (2, .int x2)] ∧ LK lv [(0, .ref 359), (1, .int x1), (2, .int x2)] := ⟨_, rfl, LK.rf⟩
  rw [← elv]
  clear elv
  refine j_V.ldL mq9_M mq9_0 rfl (i := 0) (kd := 2) (v := .ref 359) (pcJ := 1) rfl L rfl rfl rfl ?_
  refine j_V.ldL mq9_M mq9_1 rfl (i := 1) (kd := 0) (v := .int x1) (pcJ := 2) rfl L rfl rfl rfl ?_
  refine j_V.cl mq9_M mq9_2 rfl (md := 3) (mj := 173) rfl (by decide) md0_M (As := [.ref 359, .int x1]) (rest := []) (jk_spl3 (K.at rfl) rfl rfl rfl (Nat.le_of_ble_eq_true rfl) (Nat.le_of_ble_eq_true rfl)) (fun d => md0_ok (u := fun j => [.int th, .ref 360, .ref 361, .ref 362, .ref 363, .ref 364, .ref 365, .ref 366, .ref 367, (u 9), .int sst, (u 11), (u 12), .int acs, (u 14), (u 15), (u 16), (u 17), (u 18), (u 19), (u 20), (u 21), .ref 368, (u 23), .ref 369, .ref 370, .ref 371, (u 27)].getD j .null) (K.fi [359, 360] rfl rfl)) ?_
  rintro r hz ⟨rfl, ez⟩
  rw [ez]
  clear ez
  show j_V jP _ 256 5 lv [.int (m_isTrain w x1)] h _
  refine j_V.ifc mq9_M mq9_5 (t := 16) rfl (fun c5_0 => ?_) (fun c5_0 => ?_)
  · replace c5_0 : (m_isTrain w x1) = 0 := jd_eq c5_0
    refine j_V.ldL mq9_M mq9_16 rfl (i := 0) (kd := 2) (v := .ref 359) (pcJ := 17) rfl L rfl rfl rfl ?_
    refine j_V.one mq9_M mq9_17 (by decide) (pcJ := 18) (stJ := [.int 2, .ref 359]) rfl ?_
    refine j_V.cl mq9_M mq9_18 rfl (md := 3) (mj := 169) rfl (by decide) mo0_M (As := [.ref 359, .int 2]) (rest := []) (jk_spl3 (K.at rfl) rfl rfl rfl (Nat.le_of_ble_eq_true rfl) (Nat.le_of_ble_eq_true rfl)) (fun d => mo0_ok (K.fi [359] rfl rfl)) ?_
    rintro r h9 ⟨rfl, K9⟩
    generalize ez2 : (m_refuse th sst 2) = z2 at K9 ⊢
    have K : KN h9 [(359, .inl (10, [.int (z2.2.1), .ref 360, .ref 361, .ref 362, .ref 363, .ref 364, .ref 365, .ref 366, .ref 367, (u 9), .int (z2.2.2), (u 11), (u 12), .int acs, (u 14), (u 15), (u 16), (u 17), (u 18), (u 19), (u 20), (u 21), .ref 368, (u 23), .ref 369, .ref 370, .ref 371, (u 27)])), (360, .inr (.inl (0, w)))] h0 := K.mg K9 rfl rfl
    clear K9
    show j_V jP _ 256 21 lv [.int (z2.1)] h9 _
    subst ez2
    refine j_V.ri mq9_M mq9_21 ?_
    rw [show (m_qlate th sst w x1 x2) = _ from ((if_pos c5_0).trans (rfl))]
    exact ⟨rfl, K⟩
  · replace c5_0 : ¬ ((m_isTrain w x1) = 0) := jd_eqn c5_0
    refine j_V.ldL mq9_M mq9_8 rfl (i := 0) (kd := 2) (v := .ref 359) (pcJ := 9) rfl L rfl rfl rfl ?_
    refine j_V.ldL mq9_M mq9_9 rfl (i := 2) (kd := 0) (v := .int x2) (pcJ := 10) rfl L rfl rfl rfl ?_
    refine j_V.cl mq9_M mq9_10 rfl (md := 3) (mj := 172) rfl (by decide) mc9_M (As := [.ref 359, .int x2]) (rest := []) (jk_spl3 (K.at rfl) rfl rfl rfl (Nat.le_of_ble_eq_true rfl) (Nat.le_of_ble_eq_true rfl)) (fun d => mc9_ok (u := fun j => [.int th, .ref 360, .ref 361, .ref 362, .ref 363, .ref 364, .ref 365, .ref 366, .ref 367, (u 9), .int sst, (u 11), (u 12), .int acs, (u 14), (u 15), (u 16), (u 17), (u 18), (u 19), (u 20), (u 21), .ref 368, (u 23), .ref 369, .ref 370, .ref 371, (u 27)].getD j .null) (K.fi [359, 360] rfl rfl)) ?_
    rintro r hz ⟨rfl, ez⟩
    rw [ez]
    clear ez
    show j_V jP _ 256 13 lv [.int (m_isStation w x2)] h _
    refine j_V.ifc mq9_M mq9_13 (t := 22) rfl (fun c13_1 => ?_) (fun c13_1 => ?_)
    · replace c13_1 : ¬ ((m_isStation w x2) = 0) := jd_ne c13_1
      refine j_V.ldL mq9_M mq9_22 rfl (i := 0) (kd := 2) (v := .ref 359) (pcJ := 23) rfl L rfl rfl rfl ?_
      refine j_V.ldL mq9_M mq9_23 rfl (i := 1) (kd := 0) (v := .int x1) (pcJ := 24) rfl L rfl rfl rfl ?_
      refine j_V.one mq9_M mq9_24 (by decide) (pcJ := 26) (stJ := [.int 13, .int x1, .ref 359]) rfl ?_
      refine j_V.ldL mq9_M mq9_26 rfl (i := 2) (kd := 0) (v := .int x2) (pcJ := 27) rfl L rfl rfl rfl ?_
      refine j_V.one mq9_M mq9_27 (by decide) (pcJ := 28) (stJ := [.int (13 + x2), .int x1, .ref 359]) rfl ?_
      refine j_V.cl mq9_M mq9_28 rfl (md := 3) (mj := 178) rfl (by decide) ma3_M (As := [.ref 359, .int x1, .int (13 + x2)]) (rest := []) (jk_spl3 (K.at rfl) rfl rfl rfl (Nat.le_of_ble_eq_true rfl) (Nat.le_of_ble_eq_true rfl)) (fun d => ma3_ok (u := fun j => [.int th, .ref 360, .ref 361, .ref 362, .ref 363, .ref 364, .ref 365, .ref 366, .ref 367, (u 9), .int sst, (u 11), (u 12), .int acs, (u 14), (u 15), (u 16), (u 17), (u 18), (u 19), (u 20), (u 21), .ref 368, (u 23), .ref 369, .ref 370, .ref 371, (u 27)].getD j .null) (K.fi [359, 360] rfl rfl)) ?_
      rintro r hz ⟨rfl, ez⟩
      rw [ez]
      clear ez
      show j_V jP _ 256 31 lv [.int (m_of w x1 (13 + x2))] h _
      refine j_V.stL mq9_M mq9_31 rfl (i := 3) (kd := 0) (kl' := [(0, .ref 359), (1, .int x1), (2, .int x2), (3, .int (m_of w x1 (13 + x2)))]) (pcJ := 32) rfl L rfl (by decide) rfl rfl rfl (fun lv L => ?_)
      refine j_V.ldL mq9_M mq9_32 rfl (i := 3) (kd := 0) (v := .int (m_of w x1 (13 + x2))) (pcJ := 33) rfl L rfl rfl rfl ?_
      refine j_V.one mq9_M mq9_33 (by decide) (pcJ := 34) (stJ := [.int (-1), .int (m_of w x1 (13 + x2))]) rfl ?_
      refine j_V.icmp mq9_M mq9_34 (t := 43) rfl (fun c34_2 => ?_) (fun c34_2 => ?_)
      · replace c34_2 : ¬ ((m_of w x1 (13 + x2)) = (-1)) := jd_ne c34_2
        refine j_V.ldL mq9_M mq9_43 rfl (i := 0) (kd := 2) (v := .ref 359) (pcJ := 44) rfl L rfl rfl rfl ?_
        refine j_V.ldL mq9_M mq9_44 rfl (i := 1) (kd := 0) (v := .int x1) (pcJ := 45) rfl L rfl rfl rfl ?_
        refine j_V.one mq9_M mq9_45 (by decide) (pcJ := 46) (stJ := [.int 3, .int x1, .ref 359]) rfl ?_
        refine j_V.cl mq9_M mq9_46 rfl (md := 3) (mj := 178) rfl (by decide) ma3_M (As := [.ref 359, .int x1, .int 3]) (rest := []) (jk_spl3 (K.at rfl) rfl rfl rfl (Nat.le_of_ble_eq_true rfl) (Nat.le_of_ble_eq_true rfl)) (fun d => ma3_ok (u := fun j => [.int th, .ref 360, .ref 361, .ref 362, .ref 363, .ref 364, .ref 365, .ref 366, .ref 367, (u 9), .int sst, (u 11), (u 12), .int acs, (u 14), (u 15), (u 16), (u 17), (u 18), (u 19), (u 20), (u 21), .ref 368, (u 23), .ref 369, .ref 370, .ref 371, (u 27)].getD j .null) (K.fi [359, 360] rfl rfl)) ?_
        rintro r hz ⟨rfl, ez⟩
        rw [ez]
        clear ez
        show j_V jP _ 256 49 lv [.int (m_of w x1 3)] h _
        refine j_V.ldL mq9_M mq9_49 rfl (i := 2) (kd := 0) (v := .int x2) (pcJ := 50) rfl L rfl rfl rfl ?_
        refine j_V.ldL mq9_M mq9_50 rfl (i := 0) (kd := 2) (v := .ref 359) (pcJ := 51) rfl L rfl rfl rfl ?_
        refine j_V.ldL mq9_M mq9_51 rfl (i := 1) (kd := 0) (v := .int x1) (pcJ := 52) rfl L rfl rfl rfl ?_
        refine j_V.one mq9_M mq9_52 (by decide) (pcJ := 53) (stJ := [.int 1, .int x1, .ref 359, .int x2, .int (m_of w x1 3)]) rfl ?_
        refine j_V.cl mq9_M mq9_53 rfl (md := 3) (mj := 178) rfl (by decide) ma3_M (As := [.ref 359, .int x1, .int 1]) (rest := [.int x2, .int (m_of w x1 3)]) (jk_spl3 (K.at rfl) rfl rfl rfl (Nat.le_of_ble_eq_true rfl) (Nat.le_of_ble_eq_true rfl)) (fun d => ma3_ok (u := fun j => [.int th, .ref 360, .ref 361, .ref 362, .ref 363, .ref 364, .ref 365, .ref 366, .ref 367, (u 9), .int sst, (u 11), (u 12), .int acs, (u 14), (u 15), (u 16), (u 17), (u 18), (u 19), (u 20), (u 21), .ref 368, (u 23), .ref 369, .ref 370, .ref 371, (u 27)].getD j .null) (K.fi [359, 360] rfl rfl)) ?_
        rintro r hz ⟨rfl, ez⟩
        rw [ez]
        clear ez
        show j_V jP _ 256 56 lv [.int (m_of w x1 1), .int x2, .int (m_of w x1 3)] h _
        refine j_V.cut (b := 64) (stJ := [.int ((if x2 = (m_of w x1 1) then 0 else 1) : Int32), .int (m_of w x1 3)]) (fun v => [(0, .ref 359), (1, .int x1), (2, .int x2), (3, .int (m_of w x1 (13 + x2)))]) ((if x2 = (m_of w x1 1) then 0 else 1) : Int32) (fun Q kk => ?_) (fun lv L => ?_)
        · refine j_V.icmp mq9_M mq9_56 (t := 63) rfl (fun c56_0 => ?_) (fun c56_0 => ?_)
          · replace c56_0 : ¬ (x2 = (m_of w x1 1)) := jd_ne c56_0
            refine j_V.one mq9_M mq9_63 (by decide) (pcJ := 64) (stJ := [.int 1, .int (m_of w x1 3)]) rfl ?_
            exact Eq.subst (motive := fun z => j_V jP _ 256 64 _ (.int z :: [.int (m_of w x1 3)]) h Q) (show ((if x2 = (m_of w x1 1) then 0 else 1) : Int32) = 1 from (if_neg c56_0).trans (rfl)) (kk _ L)
          · replace c56_0 : x2 = (m_of w x1 1) := jd_nen c56_0
            refine j_V.one mq9_M mq9_59 (by decide) (pcJ := 60) (stJ := [.int 0, .int (m_of w x1 3)]) rfl ?_
            refine j_V.gto mq9_M mq9_60 (t := 64) rfl ?_
            exact Eq.subst (motive := fun z => j_V jP _ 256 64 _ (.int z :: [.int (m_of w x1 3)]) h Q) (show ((if x2 = (m_of w x1 1) then 0 else 1) : Int32) = 0 from (if_pos c56_0).trans (rfl)) (kk _ L)
        refine j_V.one mq9_M mq9_64 (by decide) (pcJ := 65) (stJ := [.int ((m_of w x1 3) + ((if x2 = (m_of w x1 1) then 0 else 1) : Int32))]) rfl ?_
        refine j_V.stL mq9_M mq9_65 rfl (i := 4) (kd := 0) (kl' := [(0, .ref 359), (1, .int x1), (2, .int x2), (3, .int (m_of w x1 (13 + x2))), (4, .int ((m_of w x1 3) + ((if x2 = (m_of w x1 1) then 0 else 1) : Int32)))]) (pcJ := 67) rfl L rfl (by decide) rfl rfl rfl (fun lv L => ?_)
        refine j_V.ldL mq9_M mq9_67 rfl (i := 0) (kd := 2) (v := .ref 359) (pcJ := 68) rfl L rfl rfl rfl ?_
        refine j_V.ldL mq9_M mq9_68 rfl (i := 1) (kd := 0) (v := .int x1) (pcJ := 69) rfl L rfl rfl rfl ?_
        refine j_V.one mq9_M mq9_69 (by decide) (pcJ := 70) (stJ := [.int 1, .int x1, .ref 359]) rfl ?_
        refine j_V.cl mq9_M mq9_70 rfl (md := 3) (mj := 178) rfl (by decide) ma3_M (As := [.ref 359, .int x1, .int 1]) (rest := []) (jk_spl3 (K.at rfl) rfl rfl rfl (Nat.le_of_ble_eq_true rfl) (Nat.le_of_ble_eq_true rfl)) (fun d => ma3_ok (u := fun j => [.int th, .ref 360, .ref 361, .ref 362, .ref 363, .ref 364, .ref 365, .ref 366, .ref 367, (u 9), .int sst, (u 11), (u 12), .int acs, (u 14), (u 15), (u 16), (u 17), (u 18), (u 19), (u 20), (u 21), .ref 368, (u 23), .ref 369, .ref 370, .ref 371, (u 27)].getD j .null) (K.fi [359, 360] rfl rfl)) ?_
        rintro r hz ⟨rfl, ez⟩
        rw [ez]
        clear ez
        show j_V jP _ 256 73 lv [.int (m_of w x1 1)] h _
        refine j_V.ldL mq9_M mq9_73 rfl (i := 2) (kd := 0) (v := .int x2) (pcJ := 74) rfl L rfl rfl rfl ?_
        refine j_V.mn mq9_M mq9_74 rfl rfl (Nat.le_of_ble_eq_true rfl) ?_
        refine j_V.stL mq9_M mq9_77 rfl (i := 5) (kd := 0) (kl' := [(0, .ref 359), (1, .int x1), (2, .int x2), (3, .int (m_of w x1 (13 + x2))), (4, .int ((m_of w x1 3) + ((if x2 = (m_of w x1 1) then 0 else 1) : Int32))), (5, .int (iMn (m_of w x1 1) x2))]) (pcJ := 79) rfl L rfl (by decide) rfl rfl rfl (fun lv L => ?_)
        rw [show (m_qlate th sst w x1 x2) = _ from ((if_neg c5_0).trans ((if_neg c13_1).trans ((if_neg c34_2).trans (rfl))))]
        exact mq9_ok_l79 _ _ _ _ _ rfl L K
      · replace c34_2 : (m_of w x1 (13 + x2)) = (-1) := jd_nen c34_2
        refine j_V.ldL mq9_M mq9_37 rfl (i := 0) (kd := 2) (v := .ref 359) (pcJ := 38) rfl L rfl rfl rfl ?_
        refine j_V.one mq9_M mq9_38 (by decide) (pcJ := 39) (stJ := [.int 5, .ref 359]) rfl ?_
        refine j_V.cl mq9_M mq9_39 rfl (md := 3) (mj := 169) rfl (by decide) mo0_M (As := [.ref 359, .int 5]) (rest := []) (jk_spl3 (K.at rfl) rfl rfl rfl (Nat.le_of_ble_eq_true rfl) (Nat.le_of_ble_eq_true rfl)) (fun d => mo0_ok (K.fi [359] rfl rfl)) ?_
        rintro r h9 ⟨rfl, K9⟩
        generalize ez3 : (m_refuse th sst 5) = z3 at K9 ⊢
        have K : KN h9 [(359, .inl (10, [.int (z3.2.1), .ref 360, .ref 361, .ref 362, .ref 363, .ref 364, .ref 365, .ref 366, .ref 367, (u 9), .int (z3.2.2), (u 11), (u 12), .int acs, (u 14), (u 15), (u 16), (u 17), (u 18), (u 19), (u 20), (u 21), .ref 368, (u 23), .ref 369, .ref 370, .ref 371, (u 27)])), (360, .inr (.inl (0, w)))] h0 := K.mg K9 rfl rfl
        clear K9
        show j_V jP _ 256 42 lv [.int (z3.1)] h9 _
        subst ez3
        refine j_V.ri mq9_M mq9_42 ?_
        rw [show (m_qlate th sst w x1 x2) = _ from ((if_neg c5_0).trans ((if_neg c13_1).trans ((if_pos c34_2).trans (rfl))))]
        exact ⟨rfl, K⟩
    · replace c13_1 : (m_isStation w x2) = 0 := jd_nen c13_1
      refine j_V.ldL mq9_M mq9_16 rfl (i := 0) (kd := 2) (v := .ref 359) (pcJ := 17) rfl L rfl rfl rfl ?_
      refine j_V.one mq9_M mq9_17 (by decide) (pcJ := 18) (stJ := [.int 2, .ref 359]) rfl ?_
      refine j_V.cl mq9_M mq9_18 rfl (md := 3) (mj := 169) rfl (by decide) mo0_M (As := [.ref 359, .int 2]) (rest := []) (jk_spl3 (K.at rfl) rfl rfl rfl (Nat.le_of_ble_eq_true rfl) (Nat.le_of_ble_eq_true rfl)) (fun d => mo0_ok (K.fi [359] rfl rfl)) ?_
      rintro r h9 ⟨rfl, K9⟩
      generalize ez4 : (m_refuse th sst 2) = z4 at K9 ⊢
      have K : KN h9 [(359, .inl (10, [.int (z4.2.1), .ref 360, .ref 361, .ref 362, .ref 363, .ref 364, .ref 365, .ref 366, .ref 367, (u 9), .int (z4.2.2), (u 11), (u 12), .int acs, (u 14), (u 15), (u 16), (u 17), (u 18), (u 19), (u 20), (u 21), .ref 368, (u 23), .ref 369, .ref 370, .ref 371, (u 27)])), (360, .inr (.inl (0, w)))] h0 := K.mg K9 rfl rfl
      clear K9
      show j_V jP _ 256 21 lv [.int (z4.1)] h9 _
      subst ez4
      refine j_V.ri mq9_M mq9_21 ?_
      rw [show (m_qlate th sst w x1 x2) = _ from ((if_neg c5_0).trans ((if_pos c13_1).trans (rfl)))]
      exact ⟨rfl, K⟩
set_option maxRecDepth 100000 in
theorem mr0_M : j_meth jP 257 = some (yX10_event_, cX10_event_, 3, (some .int), 2, false, 10) := rfl
set_option maxRecDepth 100000 in
theorem mr0_0 : j_code jP 257 0 = some (.iload_n 1) := rfl
set_option maxRecDepth 100000 in
theorem mr0_1 : j_code jP 257 1 = some (.iconst (-1)) := rfl
set_option maxRecDepth 100000 in
theorem mr0_2 : j_code jP 257 2 = some (.if_icmp .lt 21) := rfl
set_option maxRecDepth 100000 in
theorem mr0_5 : j_code jP 257 5 = some (.iload_n 2) := rfl
set_option maxRecDepth 100000 in
theorem mr0_6 : j_code jP 257 6 = some (.iconst 0) := rfl
set_option maxRecDepth 100000 in
theorem mr0_7 : j_code jP 257 7 = some (.iload_n 1) := rfl
set_option maxRecDepth 100000 in
theorem mr0_8 : j_code jP 257 8 = some (.iconst (-1)) := rfl
set_option maxRecDepth 100000 in
theorem mr0_9 : j_code jP 257 9 = some (.if_icmp .ne 7) := rfl
set_option maxRecDepth 100000 in
theorem mr0_12 : j_code jP 257 12 = some (.iconst 0) := rfl
set_option maxRecDepth 100000 in
theorem mr0_13 : j_code jP 257 13 = some (.goto 4) := rfl
set_option maxRecDepth 100000 in
theorem mr0_16 : j_code jP 257 16 = some (.iconst 3) := rfl
set_option maxRecDepth 100000 in
theorem mr0_17 : j_code jP 257 17 = some (.invokestatic 61) := rfl
set_option maxRecDepth 100000 in
theorem mr0_20 : j_code jP 257 20 = some (.ifCond .ne 9) := rfl
set_option maxRecDepth 100000 in
theorem mr0_23 : j_code jP 257 23 = some (.aload_n 0) := rfl
set_option maxRecDepth 100000 in
theorem mr0_24 : j_code jP 257 24 = some (.iconst 1) := rfl
set_option maxRecDepth 100000 in
theorem mr0_25 : j_code jP 257 25 = some (.invokevirtual 179) := rfl
set_option maxRecDepth 100000 in
theorem mr0_28 : j_code jP 257 28 = some (.ireturn) := rfl
set_option maxRecDepth 100000 in
theorem mr0_29 : j_code jP 257 29 = some (.iload_n 1) := rfl
set_option maxRecDepth 100000 in
theorem mr0_30 : j_code jP 257 30 = some (.iconst (-1)) := rfl
set_option maxRecDepth 100000 in
theorem mr0_31 : j_code jP 257 31 = some (.if_icmp .ne 16) := rfl
set_option maxRecDepth 100000 in
theorem mr0_34 : j_code jP 257 34 = some (.aload_n 0) := rfl
set_option maxRecDepth 100000 in
theorem mr0_35 : j_code jP 257 35 = some (.aload_n 0) := rfl
set_option maxRecDepth 100000 in
theorem mr0_36 : j_code jP 257 36 = some (.getfield 7) := rfl
set_option maxRecDepth 100000 in
theorem mr0_39 : j_code jP 257 39 = some (.sipush 309) := rfl
set_option maxRecDepth 100000 in
theorem mr0_42 : j_code jP 257 42 = some (.iaload) := rfl
set_option maxRecDepth 100000 in
theorem mr0_43 : j_code jP 257 43 = some (.invokevirtual 195) := rfl
set_option maxRecDepth 100000 in
theorem mr0_46 : j_code jP 257 46 = some (.ireturn) := rfl
set_option maxRecDepth 100000 in
theorem mr0_47 : j_code jP 257 47 = some (.iload_n 1) := rfl
set_option maxRecDepth 100000 in
theorem mr0_48 : j_code jP 257 48 = some (.aload_n 0) := rfl
set_option maxRecDepth 100000 in
theorem mr0_49 : j_code jP 257 49 = some (.getfield 7) := rfl
set_option maxRecDepth 100000 in
theorem mr0_52 : j_code jP 257 52 = some (.sipush 309) := rfl
set_option maxRecDepth 100000 in
theorem mr0_55 : j_code jP 257 55 = some (.iaload) := rfl
set_option maxRecDepth 100000 in
theorem mr0_56 : j_code jP 257 56 = some (.if_icmp .ge 24) := rfl
set_option maxRecDepth 100000 in
theorem mr0_59 : j_code jP 257 59 = some (.aload_n 0) := rfl
set_option maxRecDepth 100000 in
theorem mr0_60 : j_code jP 257 60 = some (.aload_n 0) := rfl
set_option maxRecDepth 100000 in
theorem mr0_61 : j_code jP 257 61 = some (.getfield 7) := rfl
set_option maxRecDepth 100000 in
theorem mr0_64 : j_code jP 257 64 = some (.sipush 310) := rfl
set_option maxRecDepth 100000 in
theorem mr0_67 : j_code jP 257 67 = some (.iconst 4) := rfl
set_option maxRecDepth 100000 in
theorem mr0_68 : j_code jP 257 68 = some (.iload_n 1) := rfl
set_option maxRecDepth 100000 in
theorem mr0_69 : j_code jP 257 69 = some (.imul) := rfl
set_option maxRecDepth 100000 in
theorem mr0_70 : j_code jP 257 70 = some (.iadd) := rfl
set_option maxRecDepth 100000 in
theorem mr0_71 : j_code jP 257 71 = some (.iload_n 2) := rfl
set_option maxRecDepth 100000 in
theorem mr0_72 : j_code jP 257 72 = some (.iadd) := rfl
set_option maxRecDepth 100000 in
theorem mr0_73 : j_code jP 257 73 = some (.iaload) := rfl
set_option maxRecDepth 100000 in
theorem mr0_74 : j_code jP 257 74 = some (.invokevirtual 195) := rfl
set_option maxRecDepth 100000 in
theorem mr0_77 : j_code jP 257 77 = some (.goto 8) := rfl
set_option maxRecDepth 100000 in
theorem mr0_80 : j_code jP 257 80 = some (.aload_n 0) := rfl
set_option maxRecDepth 100000 in
theorem mr0_81 : j_code jP 257 81 = some (.iconst 5) := rfl
set_option maxRecDepth 100000 in
theorem mr0_82 : j_code jP 257 82 = some (.invokevirtual 179) := rfl
set_option maxRecDepth 100000 in
theorem mr0_85 : j_code jP 257 85 = some (.ireturn) := rfl
def m_qevent_ (th : Int32) (sst : Int32) (w : List Int32) (x1 : Int32) (x2 : Int32) : Int32 × Int32 × Int32 := (if x1 < (-1) then let z1 := (m_refuse th sst 1); ((z1.1), (z1.2.1), (z1.2.2)) else (if (m_isFrom x2 0 ((if x1 = (-1) then 0 else 3) : Int32)) = 0 then let z7 := (m_refuse th sst 1); ((z7.1), (z7.2.1), (z7.2.2)) else (if x1 = (-1) then let z6 := (m_gives th sst (gA w 309)); ((z6.1), (z6.2.1), (z6.2.2)) else (if x1 < (gA w 309) then let z5 := (m_gives th sst (gA w ((310 + (4 * x1)) + x2))); ((z5.1), (z5.2.1), (z5.2.2)) else let z4 := (m_refuse th sst 5); ((z4.1), (z4.2.1), (z4.2.2))))))
set_option maxRecDepth 1000000 in
theorem mr0_ok {u : Nat → Value} {th : Int32} {sst : Int32} {acs : Int32} {w : List Int32} {x1 x2 : Int32} {d : Nat} {h h0 : J_H} (K : KN h [(359, .inl (10, [.int th, .ref 360, .ref 361, .ref 362, .ref 363, .ref 364, .ref 365, .ref 366, .ref 367, (u 9), .int sst, (u 11), (u 12), .int acs, (u 14), (u 15), (u 16), (u 17), (u 18), (u 19), (u 20), (u 21), .ref 368, (u 23), .ref 369, .ref 370, .ref 371, (u 27)])), (360, .inr (.inl (0, w)))] h0) : j_V jP d 257 0 (lv_args 0 [.ref 359, .int x1, .int x2]) [] h (fun rv h' => rv = some (.int (m_qevent_ th sst w x1 x2).1) ∧ KN h' [(359, .inl (10, [.int (m_qevent_ th sst w x1 x2).2.1, .ref 360, .ref 361, .ref 362, .ref 363, .ref 364, .ref 365, .ref 366, .ref 367, (u 9), .int (m_qevent_ th sst w x1 x2).2.2, (u 11), (u 12), .int acs, (u 14), (u 15), (u 16), (u 17), (u 18), (u 19), (u 20), (u 21), .ref 368, (u 23), .ref 369, .ref 370, .ref 371, (u 27)])), (360, .inr (.inl (0, w)))] h0) := by
  show j_V jP d 257 0 [(0, .ref 359), (1, .int x1), (2, .int x2)] [] h _
  obtain ⟨lv, elv, L⟩ : ∃ lv, lv = [(0, .ref 359), (1, .int x1), (2, .int x2)] ∧ LK lv [(0, .ref 359), (1, .int x1), (2, .int x2)] := ⟨_, rfl, LK.rf⟩
  rw [← elv]
  clear elv
  refine j_V.ldL mr0_M mr0_0 rfl (i := 1) (kd := 0) (v := .int x1) (pcJ := 1) rfl L rfl rfl rfl ?_
  refine j_V.one mr0_M mr0_1 (by decide) (pcJ := 2) (stJ := [.int (-1), .int x1]) rfl ?_
  refine j_V.icmp mr0_M mr0_2 (t := 23) rfl (fun c2_0 => ?_) (fun c2_0 => ?_)
  · replace c2_0 : x1 < (-1) := jd_lt c2_0
    refine j_V.ldL mr0_M mr0_23 rfl (i := 0) (kd := 2) (v := .ref 359) (pcJ := 24) rfl L rfl rfl rfl ?_
    refine j_V.one mr0_M mr0_24 (by decide) (pcJ := 25) (stJ := [.int 1, .ref 359]) rfl ?_
    refine j_V.cl mr0_M mr0_25 rfl (md := 3) (mj := 169) rfl (by decide) mo0_M (As := [.ref 359, .int 1]) (rest := []) (jk_spl3 (K.at rfl) rfl rfl rfl (Nat.le_of_ble_eq_true rfl) (Nat.le_of_ble_eq_true rfl)) (fun d => mo0_ok (K.fi [359] rfl rfl)) ?_
    rintro r h9 ⟨rfl, K9⟩
    generalize ez1 : (m_refuse th sst 1) = z1 at K9 ⊢
    have K : KN h9 [(359, .inl (10, [.int (z1.2.1), .ref 360, .ref 361, .ref 362, .ref 363, .ref 364, .ref 365, .ref 366, .ref 367, (u 9), .int (z1.2.2), (u 11), (u 12), .int acs, (u 14), (u 15), (u 16), (u 17), (u 18), (u 19), (u 20), (u 21), .ref 368, (u 23), .ref 369, .ref 370, .ref 371, (u 27)])), (360, .inr (.inl (0, w)))] h0 := K.mg K9 rfl rfl
    clear K9
    show j_V jP _ 257 28 lv [.int (z1.1)] h9 _
    subst ez1
    refine j_V.ri mr0_M mr0_28 ?_
    rw [show (m_qevent_ th sst w x1 x2) = _ from ((if_pos c2_0).trans (rfl))]
    exact ⟨rfl, K⟩
  · replace c2_0 : ¬ (x1 < (-1)) := jd_ltn c2_0
    refine j_V.ldL mr0_M mr0_5 rfl (i := 2) (kd := 0) (v := .int x2) (pcJ := 6) rfl L rfl rfl rfl ?_
    refine j_V.one mr0_M mr0_6 (by decide) (pcJ := 7) (stJ := [.int 0, .int x2]) rfl ?_
    refine j_V.ldL mr0_M mr0_7 rfl (i := 1) (kd := 0) (v := .int x1) (pcJ := 8) rfl L rfl rfl rfl ?_
    refine j_V.one mr0_M mr0_8 (by decide) (pcJ := 9) (stJ := [.int (-1), .int x1, .int 0, .int x2]) rfl ?_
    refine j_V.cut (b := 17) (stJ := [.int ((if x1 = (-1) then 0 else 3) : Int32), .int 0, .int x2]) (fun v => [(0, .ref 359), (1, .int x1), (2, .int x2)]) ((if x1 = (-1) then 0 else 3) : Int32) (fun Q kk => ?_) (fun lv L => ?_)
    · refine j_V.icmp mr0_M mr0_9 (t := 16) rfl (fun c9_0 => ?_) (fun c9_0 => ?_)
      · replace c9_0 : ¬ (x1 = (-1)) := jd_ne c9_0
        refine j_V.one mr0_M mr0_16 (by decide) (pcJ := 17) (stJ := [.int 3, .int 0, .int x2]) rfl ?_
        exact Eq.subst (motive := fun z => j_V jP _ 257 17 _ (.int z :: [.int 0, .int x2]) h Q) (show ((if x1 = (-1) then 0 else 3) : Int32) = 3 from (if_neg c9_0).trans (rfl)) (kk _ L)
      · replace c9_0 : x1 = (-1) := jd_nen c9_0
        refine j_V.one mr0_M mr0_12 (by decide) (pcJ := 13) (stJ := [.int 0, .int 0, .int x2]) rfl ?_
        refine j_V.gto mr0_M mr0_13 (t := 17) rfl ?_
        exact Eq.subst (motive := fun z => j_V jP _ 257 17 _ (.int z :: [.int 0, .int x2]) h Q) (show ((if x1 = (-1) then 0 else 3) : Int32) = 0 from (if_pos c9_0).trans (rfl)) (kk _ L)
    refine j_V.cl mr0_M mr0_17 rfl (md := 2) (mj := 171) rfl (by decide) ma0_M (As := [.int x2, .int 0, .int ((if x1 = (-1) then 0 else 3) : Int32)]) (rest := []) (jk_spl2 rfl rfl (Nat.le_of_ble_eq_true rfl) (Nat.le_of_ble_eq_true rfl)) (fun d => ma0_ok (K.fi [] rfl rfl)) ?_
    rintro r hz ⟨rfl, ez⟩
    rw [ez]
    clear ez
    show j_V jP _ 257 20 lv [.int (m_isFrom x2 0 ((if x1 = (-1) then 0 else 3) : Int32))] h _
    refine j_V.ifc mr0_M mr0_20 (t := 29) rfl (fun c20_1 => ?_) (fun c20_1 => ?_)
    · replace c20_1 : ¬ ((m_isFrom x2 0 ((if x1 = (-1) then 0 else 3) : Int32)) = 0) := jd_ne c20_1
      refine j_V.ldL mr0_M mr0_29 rfl (i := 1) (kd := 0) (v := .int x1) (pcJ := 30) rfl L rfl rfl rfl ?_
      refine j_V.one mr0_M mr0_30 (by decide) (pcJ := 31) (stJ := [.int (-1), .int x1]) rfl ?_
      refine j_V.icmp mr0_M mr0_31 (t := 47) rfl (fun c31_2 => ?_) (fun c31_2 => ?_)
      · replace c31_2 : ¬ (x1 = (-1)) := jd_ne c31_2
        refine j_V.ldL mr0_M mr0_47 rfl (i := 1) (kd := 0) (v := .int x1) (pcJ := 48) rfl L rfl rfl rfl ?_
        refine j_V.ldL mr0_M mr0_48 rfl (i := 0) (kd := 2) (v := .ref 359) (pcJ := 49) rfl L rfl rfl rfl ?_
        refine j_V.getK mr0_M mr0_49 (ci := 10) (j := 1) rfl K rfl rfl ?_
        refine j_V.one mr0_M mr0_52 (by decide) (pcJ := 55) (stJ := [.int 309, .ref 360, .int x1]) rfl ?_
        refine j_V.iaA mr0_M mr0_55 K rfl ?_
        refine j_V.icmp mr0_M mr0_56 (t := 80) rfl (fun c56_3 => ?_) (fun c56_3 => ?_)
        · replace c56_3 : ¬ (x1 < (gA w 309)) := jd_ge c56_3
          refine j_V.ldL mr0_M mr0_80 rfl (i := 0) (kd := 2) (v := .ref 359) (pcJ := 81) rfl L rfl rfl rfl ?_
          refine j_V.one mr0_M mr0_81 (by decide) (pcJ := 82) (stJ := [.int 5, .ref 359]) rfl ?_
          refine j_V.cl mr0_M mr0_82 rfl (md := 3) (mj := 169) rfl (by decide) mo0_M (As := [.ref 359, .int 5]) (rest := []) (jk_spl3 (K.at rfl) rfl rfl rfl (Nat.le_of_ble_eq_true rfl) (Nat.le_of_ble_eq_true rfl)) (fun d => mo0_ok (K.fi [359] rfl rfl)) ?_
          rintro r h9 ⟨rfl, K9⟩
          generalize ez4 : (m_refuse th sst 5) = z4 at K9 ⊢
          have K : KN h9 [(359, .inl (10, [.int (z4.2.1), .ref 360, .ref 361, .ref 362, .ref 363, .ref 364, .ref 365, .ref 366, .ref 367, (u 9), .int (z4.2.2), (u 11), (u 12), .int acs, (u 14), (u 15), (u 16), (u 17), (u 18), (u 19), (u 20), (u 21), .ref 368, (u 23), .ref 369, .ref 370, .ref 371, (u 27)])), (360, .inr (.inl (0, w)))] h0 := K.mg K9 rfl rfl
          clear K9
          show j_V jP _ 257 85 lv [.int (z4.1)] h9 _
          subst ez4
          refine j_V.ri mr0_M mr0_85 ?_
          rw [show (m_qevent_ th sst w x1 x2) = _ from ((if_neg c2_0).trans ((if_neg c20_1).trans ((if_neg c31_2).trans ((if_neg c56_3).trans (rfl)))))]
          exact ⟨rfl, K⟩
        · replace c56_3 : x1 < (gA w 309) := jd_gen c56_3
          refine j_V.ldL mr0_M mr0_59 rfl (i := 0) (kd := 2) (v := .ref 359) (pcJ := 60) rfl L rfl rfl rfl ?_
          refine j_V.ldL mr0_M mr0_60 rfl (i := 0) (kd := 2) (v := .ref 359) (pcJ := 61) rfl L rfl rfl rfl ?_
          refine j_V.getK mr0_M mr0_61 (ci := 10) (j := 1) rfl K rfl rfl ?_
          refine j_V.one mr0_M mr0_64 (by decide) (pcJ := 67) (stJ := [.int 310, .ref 360, .ref 359]) rfl ?_
          refine j_V.one mr0_M mr0_67 (by decide) (pcJ := 68) (stJ := [.int 4, .int 310, .ref 360, .ref 359]) rfl ?_
          refine j_V.ldL mr0_M mr0_68 rfl (i := 1) (kd := 0) (v := .int x1) (pcJ := 69) rfl L rfl rfl rfl ?_
          refine j_V.one mr0_M mr0_69 (by decide) (pcJ := 70) (stJ := [.int (4 * x1), .int 310, .ref 360, .ref 359]) rfl ?_
          refine j_V.one mr0_M mr0_70 (by decide) (pcJ := 71) (stJ := [.int (310 + (4 * x1)), .ref 360, .ref 359]) rfl ?_
          refine j_V.ldL mr0_M mr0_71 rfl (i := 2) (kd := 0) (v := .int x2) (pcJ := 72) rfl L rfl rfl rfl ?_
          refine j_V.one mr0_M mr0_72 (by decide) (pcJ := 73) (stJ := [.int ((310 + (4 * x1)) + x2), .ref 360, .ref 359]) rfl ?_
          refine j_V.iaA mr0_M mr0_73 K rfl ?_
          refine j_V.cl mr0_M mr0_74 rfl (md := 3) (mj := 170) rfl (by decide) mo1_M (As := [.ref 359, .int (gA w ((310 + (4 * x1)) + x2))]) (rest := []) (jk_spl3 (K.at rfl) rfl rfl rfl (Nat.le_of_ble_eq_true rfl) (Nat.le_of_ble_eq_true rfl)) (fun d => mo1_ok (K.fi [359] rfl rfl)) ?_
          rintro r h9 ⟨rfl, K9⟩
          generalize ez5 : (m_gives th sst (gA w ((310 + (4 * x1)) + x2))) = z5 at K9 ⊢
          have K : KN h9 [(359, .inl (10, [.int (z5.2.1), .ref 360, .ref 361, .ref 362, .ref 363, .ref 364, .ref 365, .ref 366, .ref 367, (u 9), .int (z5.2.2), (u 11), (u 12), .int acs, (u 14), (u 15), (u 16), (u 17), (u 18), (u 19), (u 20), (u 21), .ref 368, (u 23), .ref 369, .ref 370, .ref 371, (u 27)])), (360, .inr (.inl (0, w)))] h0 := K.mg K9 rfl rfl
          clear K9
          show j_V jP _ 257 77 lv [.int (z5.1)] h9 _
          refine j_V.gto mr0_M mr0_77 (t := 85) rfl ?_
          subst ez5
          refine j_V.ri mr0_M mr0_85 ?_
          rw [show (m_qevent_ th sst w x1 x2) = _ from ((if_neg c2_0).trans ((if_neg c20_1).trans ((if_neg c31_2).trans ((if_pos c56_3).trans (rfl)))))]
          exact ⟨rfl, K⟩
      · replace c31_2 : x1 = (-1) := jd_nen c31_2
        refine j_V.ldL mr0_M mr0_34 rfl (i := 0) (kd := 2) (v := .ref 359) (pcJ := 35) rfl L rfl rfl rfl ?_
        refine j_V.ldL mr0_M mr0_35 rfl (i := 0) (kd := 2) (v := .ref 359) (pcJ := 36) rfl L rfl rfl rfl ?_
        refine j_V.getK mr0_M mr0_36 (ci := 10) (j := 1) rfl K rfl rfl ?_
        refine j_V.one mr0_M mr0_39 (by decide) (pcJ := 42) (stJ := [.int 309, .ref 360, .ref 359]) rfl ?_
        refine j_V.iaA mr0_M mr0_42 K rfl ?_
        refine j_V.cl mr0_M mr0_43 rfl (md := 3) (mj := 170) rfl (by decide) mo1_M (As := [.ref 359, .int (gA w 309)]) (rest := []) (jk_spl3 (K.at rfl) rfl rfl rfl (Nat.le_of_ble_eq_true rfl) (Nat.le_of_ble_eq_true rfl)) (fun d => mo1_ok (K.fi [359] rfl rfl)) ?_
        rintro r h9 ⟨rfl, K9⟩
        generalize ez6 : (m_gives th sst (gA w 309)) = z6 at K9 ⊢
        have K : KN h9 [(359, .inl (10, [.int (z6.2.1), .ref 360, .ref 361, .ref 362, .ref 363, .ref 364, .ref 365, .ref 366, .ref 367, (u 9), .int (z6.2.2), (u 11), (u 12), .int acs, (u 14), (u 15), (u 16), (u 17), (u 18), (u 19), (u 20), (u 21), .ref 368, (u 23), .ref 369, .ref 370, .ref 371, (u 27)])), (360, .inr (.inl (0, w)))] h0 := K.mg K9 rfl rfl
        clear K9
        show j_V jP _ 257 46 lv [.int (z6.1)] h9 _
        subst ez6
        refine j_V.ri mr0_M mr0_46 ?_
        rw [show (m_qevent_ th sst w x1 x2) = _ from ((if_neg c2_0).trans ((if_neg c20_1).trans ((if_pos c31_2).trans (rfl))))]
        exact ⟨rfl, K⟩
    · replace c20_1 : (m_isFrom x2 0 ((if x1 = (-1) then 0 else 3) : Int32)) = 0 := jd_nen c20_1
      refine j_V.ldL mr0_M mr0_23 rfl (i := 0) (kd := 2) (v := .ref 359) (pcJ := 24) rfl L rfl rfl rfl ?_
      refine j_V.one mr0_M mr0_24 (by decide) (pcJ := 25) (stJ := [.int 1, .ref 359]) rfl ?_
      refine j_V.cl mr0_M mr0_25 rfl (md := 3) (mj := 169) rfl (by decide) mo0_M (As := [.ref 359, .int 1]) (rest := []) (jk_spl3 (K.at rfl) rfl rfl rfl (Nat.le_of_ble_eq_true rfl) (Nat.le_of_ble_eq_true rfl)) (fun d => mo0_ok (K.fi [359] rfl rfl)) ?_
      rintro r h9 ⟨rfl, K9⟩
      generalize ez7 : (m_refuse th sst 1) = z7 at K9 ⊢
      have K : KN h9 [(359, .inl (10, [.int (z7.2.1), .ref 360, .ref 361, .ref 362, .ref 363, .ref 364, .ref 365, .ref 366, .ref 367, (u 9), .int (z7.2.2), (u 11), (u 12), .int acs, (u 14), (u 15), (u 16), (u 17), (u 18), (u 19), (u 20), (u 21), .ref 368, (u 23), .ref 369, .ref 370, .ref 371, (u 27)])), (360, .inr (.inl (0, w)))] h0 := K.mg K9 rfl rfl
      clear K9
      show j_V jP _ 257 28 lv [.int (z7.1)] h9 _
      subst ez7
      refine j_V.ri mr0_M mr0_28 ?_
      rw [show (m_qevent_ th sst w x1 x2) = _ from ((if_neg c2_0).trans ((if_pos c20_1).trans (rfl)))]
      exact ⟨rfl, K⟩
set_option maxRecDepth 100000 in
theorem mr1_M : j_meth jP 258 = some (yX10_use, cX10_use, 2, (some .int), 1, false, 10) := rfl
set_option maxRecDepth 100000 in
theorem mr1_0 : j_code jP 258 0 = some (.aload_n 0) := rfl
set_option maxRecDepth 100000 in
theorem mr1_1 : j_code jP 258 1 = some (.iload_n 1) := rfl
set_option maxRecDepth 100000 in
theorem mr1_2 : j_code jP 258 2 = some (.invokevirtual 326) := rfl
set_option maxRecDepth 100000 in
theorem mr1_5 : j_code jP 258 5 = some (.ifCond .eq 20) := rfl
set_option maxRecDepth 100000 in
theorem mr1_8 : j_code jP 258 8 = some (.aload_n 0) := rfl
set_option maxRecDepth 100000 in
theorem mr1_9 : j_code jP 258 9 = some (.aload_n 0) := rfl
set_option maxRecDepth 100000 in
theorem mr1_10 : j_code jP 258 10 = some (.getfield 7) := rfl
set_option maxRecDepth 100000 in
theorem mr1_13 : j_code jP 258 13 = some (.sipush 204) := rfl
set_option maxRecDepth 100000 in
theorem mr1_16 : j_code jP 258 16 = some (.iload_n 1) := rfl
set_option maxRecDepth 100000 in
theorem mr1_17 : j_code jP 258 17 = some (.iadd) := rfl
set_option maxRecDepth 100000 in
theorem mr1_18 : j_code jP 258 18 = some (.iaload) := rfl
set_option maxRecDepth 100000 in
theorem mr1_19 : j_code jP 258 19 = some (.invokevirtual 195) := rfl
set_option maxRecDepth 100000 in
theorem mr1_22 : j_code jP 258 22 = some (.goto 8) := rfl
set_option maxRecDepth 100000 in
theorem mr1_25 : j_code jP 258 25 = some (.aload_n 0) := rfl
set_option maxRecDepth 100000 in
theorem mr1_26 : j_code jP 258 26 = some (.iconst 2) := rfl
set_option maxRecDepth 100000 in
theorem mr1_27 : j_code jP 258 27 = some (.invokevirtual 179) := rfl
set_option maxRecDepth 100000 in
theorem mr1_30 : j_code jP 258 30 = some (.ireturn) := rfl
def m_quse (th : Int32) (sst : Int32) (w : List Int32) (x1 : Int32) : Int32 × Int32 × Int32 := (if (m_isSection w x1) = 0 then let z3 := (m_refuse th sst 2); ((z3.1), (z3.2.1), (z3.2.2)) else let z4 := (m_gives th sst (gA w (204 + x1))); ((z4.1), (z4.2.1), (z4.2.2)))
set_option maxRecDepth 1000000 in
theorem mr1_ok {u : Nat → Value} {th : Int32} {sst : Int32} {acs : Int32} {w : List Int32} {x1 : Int32} {d : Nat} {h h0 : J_H} (K : KN h [(359, .inl (10, [.int th, .ref 360, .ref 361, .ref 362, .ref 363, .ref 364, .ref 365, .ref 366, .ref 367, (u 9), .int sst, (u 11), (u 12), .int acs, (u 14), (u 15), (u 16), (u 17), (u 18), (u 19), (u 20), (u 21), .ref 368, (u 23), .ref 369, .ref 370, .ref 371, (u 27)])), (360, .inr (.inl (0, w)))] h0) : j_V jP d 258 0 (lv_args 0 [.ref 359, .int x1]) [] h (fun rv h' => rv = some (.int (m_quse th sst w x1).1) ∧ KN h' [(359, .inl (10, [.int (m_quse th sst w x1).2.1, .ref 360, .ref 361, .ref 362, .ref 363, .ref 364, .ref 365, .ref 366, .ref 367, (u 9), .int (m_quse th sst w x1).2.2, (u 11), (u 12), .int acs, (u 14), (u 15), (u 16), (u 17), (u 18), (u 19), (u 20), (u 21), .ref 368, (u 23), .ref 369, .ref 370, .ref 371, (u 27)])), (360, .inr (.inl (0, w)))] h0) := by
  show j_V jP d 258 0 [(0, .ref 359), (1, .int x1)] [] h _
  obtain ⟨lv, elv, L⟩ : ∃ lv, lv = [(0, .ref 359), (1, .int x1)] ∧ LK lv [(0, .ref 359), (1, .int x1)] := ⟨_, rfl, LK.rf⟩
  rw [← elv]
  clear elv
  refine j_V.ldL mr1_M mr1_0 rfl (i := 0) (kd := 2) (v := .ref 359) (pcJ := 1) rfl L rfl rfl rfl ?_
  refine j_V.ldL mr1_M mr1_1 rfl (i := 1) (kd := 0) (v := .int x1) (pcJ := 2) rfl L rfl rfl rfl ?_
  refine j_V.cl mr1_M mr1_2 rfl (md := 3) (mj := 174) rfl (by decide) md1_M (As := [.ref 359, .int x1]) (rest := []) (jk_spl3 (K.at rfl) rfl rfl rfl (Nat.le_of_ble_eq_true rfl) (Nat.le_of_ble_eq_true rfl)) (fun d => md1_ok (u := fun j => [.int th, .ref 360, .ref 361, .ref 362, .ref 363, .ref 364, .ref 365, .ref 366, .ref 367, (u 9), .int sst, (u 11), (u 12), .int acs, (u 14), (u 15), (u 16), (u 17), (u 18), (u 19), (u 20), (u 21), .ref 368, (u 23), .ref 369, .ref 370, .ref 371, (u 27)].getD j .null) (K.fi [359, 360] rfl rfl)) ?_
  rintro r hz ⟨rfl, ez⟩
  rw [ez]
  clear ez
  show j_V jP _ 258 5 lv [.int (m_isSection w x1)] h _
  refine j_V.ifc mr1_M mr1_5 (t := 25) rfl (fun c5_0 => ?_) (fun c5_0 => ?_)
  · replace c5_0 : (m_isSection w x1) = 0 := jd_eq c5_0
    refine j_V.ldL mr1_M mr1_25 rfl (i := 0) (kd := 2) (v := .ref 359) (pcJ := 26) rfl L rfl rfl rfl ?_
    refine j_V.one mr1_M mr1_26 (by decide) (pcJ := 27) (stJ := [.int 2, .ref 359]) rfl ?_
    refine j_V.cl mr1_M mr1_27 rfl (md := 3) (mj := 169) rfl (by decide) mo0_M (As := [.ref 359, .int 2]) (rest := []) (jk_spl3 (K.at rfl) rfl rfl rfl (Nat.le_of_ble_eq_true rfl) (Nat.le_of_ble_eq_true rfl)) (fun d => mo0_ok (K.fi [359] rfl rfl)) ?_
    rintro r h9 ⟨rfl, K9⟩
    generalize ez3 : (m_refuse th sst 2) = z3 at K9 ⊢
    have K : KN h9 [(359, .inl (10, [.int (z3.2.1), .ref 360, .ref 361, .ref 362, .ref 363, .ref 364, .ref 365, .ref 366, .ref 367, (u 9), .int (z3.2.2), (u 11), (u 12), .int acs, (u 14), (u 15), (u 16), (u 17), (u 18), (u 19), (u 20), (u 21), .ref 368, (u 23), .ref 369, .ref 370, .ref 371, (u 27)])), (360, .inr (.inl (0, w)))] h0 := K.mg K9 rfl rfl
    clear K9
    show j_V jP _ 258 30 lv [.int (z3.1)] h9 _
    subst ez3
    refine j_V.ri mr1_M mr1_30 ?_
    rw [show (m_quse th sst w x1) = _ from ((if_pos c5_0).trans (rfl))]
    exact ⟨rfl, K⟩
  · replace c5_0 : ¬ ((m_isSection w x1) = 0) := jd_eqn c5_0
    refine j_V.ldL mr1_M mr1_8 rfl (i := 0) (kd := 2) (v := .ref 359) (pcJ := 9) rfl L rfl rfl rfl ?_
    refine j_V.ldL mr1_M mr1_9 rfl (i := 0) (kd := 2) (v := .ref 359) (pcJ := 10) rfl L rfl rfl rfl ?_
    refine j_V.getK mr1_M mr1_10 (ci := 10) (j := 1) rfl K rfl rfl ?_
    refine j_V.one mr1_M mr1_13 (by decide) (pcJ := 16) (stJ := [.int 204, .ref 360, .ref 359]) rfl ?_
    refine j_V.ldL mr1_M mr1_16 rfl (i := 1) (kd := 0) (v := .int x1) (pcJ := 17) rfl L rfl rfl rfl ?_
    refine j_V.one mr1_M mr1_17 (by decide) (pcJ := 18) (stJ := [.int (204 + x1), .ref 360, .ref 359]) rfl ?_
    refine j_V.iaA mr1_M mr1_18 K rfl ?_
    refine j_V.cl mr1_M mr1_19 rfl (md := 3) (mj := 170) rfl (by decide) mo1_M (As := [.ref 359, .int (gA w (204 + x1))]) (rest := []) (jk_spl3 (K.at rfl) rfl rfl rfl (Nat.le_of_ble_eq_true rfl) (Nat.le_of_ble_eq_true rfl)) (fun d => mo1_ok (K.fi [359] rfl rfl)) ?_
    rintro r h9 ⟨rfl, K9⟩
    generalize ez4 : (m_gives th sst (gA w (204 + x1))) = z4 at K9 ⊢
    have K : KN h9 [(359, .inl (10, [.int (z4.2.1), .ref 360, .ref 361, .ref 362, .ref 363, .ref 364, .ref 365, .ref 366, .ref 367, (u 9), .int (z4.2.2), (u 11), (u 12), .int acs, (u 14), (u 15), (u 16), (u 17), (u 18), (u 19), (u 20), (u 21), .ref 368, (u 23), .ref 369, .ref 370, .ref 371, (u 27)])), (360, .inr (.inl (0, w)))] h0 := K.mg K9 rfl rfl
    clear K9
    show j_V jP _ 258 22 lv [.int (z4.1)] h9 _
    refine j_V.gto mr1_M mr1_22 (t := 30) rfl ?_
    subst ez4
    refine j_V.ri mr1_M mr1_30 ?_
    rw [show (m_quse th sst w x1) = _ from ((if_neg c5_0).trans (rfl))]
    exact ⟨rfl, K⟩
set_option maxRecDepth 100000 in
theorem mr2_M : j_meth jP 259 = some (yX10_gone, cX10_gone, 3, (some .int), 2, false, 10) := rfl
set_option maxRecDepth 100000 in
theorem mr2_0 : j_code jP 259 0 = some (.iload_n 2) := rfl
set_option maxRecDepth 100000 in
theorem mr2_1 : j_code jP 259 1 = some (.iconst (-1)) := rfl
set_option maxRecDepth 100000 in
theorem mr2_2 : j_code jP 259 2 = some (.if_icmp .ge 9) := rfl
set_option maxRecDepth 100000 in
theorem mr2_5 : j_code jP 259 5 = some (.aload_n 0) := rfl
set_option maxRecDepth 100000 in
theorem mr2_6 : j_code jP 259 6 = some (.iconst 1) := rfl
set_option maxRecDepth 100000 in
theorem mr2_7 : j_code jP 259 7 = some (.invokevirtual 179) := rfl
set_option maxRecDepth 100000 in
theorem mr2_10 : j_code jP 259 10 = some (.ireturn) := rfl
set_option maxRecDepth 100000 in
theorem mr2_11 : j_code jP 259 11 = some (.aload_n 0) := rfl
set_option maxRecDepth 100000 in
theorem mr2_12 : j_code jP 259 12 = some (.iload_n 1) := rfl
set_option maxRecDepth 100000 in
theorem mr2_13 : j_code jP 259 13 = some (.invokevirtual 326) := rfl
set_option maxRecDepth 100000 in
theorem mr2_16 : j_code jP 259 16 = some (.ifCond .ne 9) := rfl
set_option maxRecDepth 100000 in
theorem mr2_19 : j_code jP 259 19 = some (.aload_n 0) := rfl
set_option maxRecDepth 100000 in
theorem mr2_20 : j_code jP 259 20 = some (.iconst 2) := rfl
set_option maxRecDepth 100000 in
theorem mr2_21 : j_code jP 259 21 = some (.invokevirtual 179) := rfl
set_option maxRecDepth 100000 in
theorem mr2_24 : j_code jP 259 24 = some (.ireturn) := rfl
set_option maxRecDepth 100000 in
theorem mr2_25 : j_code jP 259 25 = some (.iload_n 2) := rfl
set_option maxRecDepth 100000 in
theorem mr2_26 : j_code jP 259 26 = some (.iconst (-1)) := rfl
set_option maxRecDepth 100000 in
theorem mr2_27 : j_code jP 259 27 = some (.if_icmp .ne 18) := rfl
set_option maxRecDepth 100000 in
theorem mr2_30 : j_code jP 259 30 = some (.aload_n 0) := rfl
set_option maxRecDepth 100000 in
theorem mr2_31 : j_code jP 259 31 = some (.aload_n 0) := rfl
set_option maxRecDepth 100000 in
theorem mr2_32 : j_code jP 259 32 = some (.getfield 7) := rfl
set_option maxRecDepth 100000 in
theorem mr2_35 : j_code jP 259 35 = some (.sipush 210) := rfl
set_option maxRecDepth 100000 in
theorem mr2_38 : j_code jP 259 38 = some (.iload_n 1) := rfl
set_option maxRecDepth 100000 in
theorem mr2_39 : j_code jP 259 39 = some (.iadd) := rfl
set_option maxRecDepth 100000 in
theorem mr2_40 : j_code jP 259 40 = some (.iaload) := rfl
set_option maxRecDepth 100000 in
theorem mr2_41 : j_code jP 259 41 = some (.invokevirtual 195) := rfl
set_option maxRecDepth 100000 in
theorem mr2_44 : j_code jP 259 44 = some (.ireturn) := rfl
set_option maxRecDepth 100000 in
theorem mr2_45 : j_code jP 259 45 = some (.iload_n 2) := rfl
set_option maxRecDepth 100000 in
theorem mr2_46 : j_code jP 259 46 = some (.aload_n 0) := rfl
set_option maxRecDepth 100000 in
theorem mr2_47 : j_code jP 259 47 = some (.getfield 7) := rfl
set_option maxRecDepth 100000 in
theorem mr2_50 : j_code jP 259 50 = some (.sipush 210) := rfl
set_option maxRecDepth 100000 in
theorem mr2_53 : j_code jP 259 53 = some (.iload_n 1) := rfl
set_option maxRecDepth 100000 in
theorem mr2_54 : j_code jP 259 54 = some (.iadd) := rfl
set_option maxRecDepth 100000 in
theorem mr2_55 : j_code jP 259 55 = some (.iaload) := rfl
set_option maxRecDepth 100000 in
theorem mr2_56 : j_code jP 259 56 = some (.if_icmp .ge 24) := rfl
set_option maxRecDepth 100000 in
theorem mr2_59 : j_code jP 259 59 = some (.aload_n 0) := rfl
set_option maxRecDepth 100000 in
theorem mr2_60 : j_code jP 259 60 = some (.aload_n 0) := rfl
set_option maxRecDepth 100000 in
theorem mr2_61 : j_code jP 259 61 = some (.getfield 7) := rfl
set_option maxRecDepth 100000 in
theorem mr2_64 : j_code jP 259 64 = some (.sipush 216) := rfl
set_option maxRecDepth 100000 in
theorem mr2_67 : j_code jP 259 67 = some (.iconst 5) := rfl
set_option maxRecDepth 100000 in
theorem mr2_68 : j_code jP 259 68 = some (.iload_n 1) := rfl
set_option maxRecDepth 100000 in
theorem mr2_69 : j_code jP 259 69 = some (.imul) := rfl
set_option maxRecDepth 100000 in
theorem mr2_70 : j_code jP 259 70 = some (.iadd) := rfl
set_option maxRecDepth 100000 in
theorem mr2_71 : j_code jP 259 71 = some (.iload_n 2) := rfl
set_option maxRecDepth 100000 in
theorem mr2_72 : j_code jP 259 72 = some (.iadd) := rfl
set_option maxRecDepth 100000 in
theorem mr2_73 : j_code jP 259 73 = some (.iaload) := rfl
set_option maxRecDepth 100000 in
theorem mr2_74 : j_code jP 259 74 = some (.invokevirtual 195) := rfl
set_option maxRecDepth 100000 in
theorem mr2_77 : j_code jP 259 77 = some (.goto 8) := rfl
set_option maxRecDepth 100000 in
theorem mr2_80 : j_code jP 259 80 = some (.aload_n 0) := rfl
set_option maxRecDepth 100000 in
theorem mr2_81 : j_code jP 259 81 = some (.iconst 5) := rfl
set_option maxRecDepth 100000 in
theorem mr2_82 : j_code jP 259 82 = some (.invokevirtual 179) := rfl
set_option maxRecDepth 100000 in
theorem mr2_85 : j_code jP 259 85 = some (.ireturn) := rfl
def m_qgone (th : Int32) (sst : Int32) (w : List Int32) (x1 : Int32) (x2 : Int32) : Int32 × Int32 × Int32 := (if x2 < (-1) then let z7 := (m_refuse th sst 1); ((z7.1), (z7.2.1), (z7.2.2)) else (if (m_isSection w x1) = 0 then let z6 := (m_refuse th sst 2); ((z6.1), (z6.2.1), (z6.2.2)) else (if x2 = (-1) then let z5 := (m_gives th sst (gA w (210 + x1))); ((z5.1), (z5.2.1), (z5.2.2)) else (if x2 < (gA w (210 + x1)) then let z4 := (m_gives th sst (gA w ((216 + (5 * x1)) + x2))); ((z4.1), (z4.2.1), (z4.2.2)) else let z3 := (m_refuse th sst 5); ((z3.1), (z3.2.1), (z3.2.2))))))
set_option maxRecDepth 1000000 in
theorem mr2_ok {u : Nat → Value} {th : Int32} {sst : Int32} {acs : Int32} {w : List Int32} {x1 x2 : Int32} {d : Nat} {h h0 : J_H} (K : KN h [(359, .inl (10, [.int th, .ref 360, .ref 361, .ref 362, .ref 363, .ref 364, .ref 365, .ref 366, .ref 367, (u 9), .int sst, (u 11), (u 12), .int acs, (u 14), (u 15), (u 16), (u 17), (u 18), (u 19), (u 20), (u 21), .ref 368, (u 23), .ref 369, .ref 370, .ref 371, (u 27)])), (360, .inr (.inl (0, w)))] h0) : j_V jP d 259 0 (lv_args 0 [.ref 359, .int x1, .int x2]) [] h (fun rv h' => rv = some (.int (m_qgone th sst w x1 x2).1) ∧ KN h' [(359, .inl (10, [.int (m_qgone th sst w x1 x2).2.1, .ref 360, .ref 361, .ref 362, .ref 363, .ref 364, .ref 365, .ref 366, .ref 367, (u 9), .int (m_qgone th sst w x1 x2).2.2, (u 11), (u 12), .int acs, (u 14), (u 15), (u 16), (u 17), (u 18), (u 19), (u 20), (u 21), .ref 368, (u 23), .ref 369, .ref 370, .ref 371, (u 27)])), (360, .inr (.inl (0, w)))] h0) := by
  show j_V jP d 259 0 [(0, .ref 359), (1, .int x1), (2, .int x2)] [] h _
  obtain ⟨lv, elv, L⟩ : ∃ lv, lv = [(0, .ref 359), (1, .int x1), (2, .int x2)] ∧ LK lv [(0, .ref 359), (1, .int x1), (2, .int x2)] := ⟨_, rfl, LK.rf⟩
  rw [← elv]
  clear elv
  refine j_V.ldL mr2_M mr2_0 rfl (i := 2) (kd := 0) (v := .int x2) (pcJ := 1) rfl L rfl rfl rfl ?_
  refine j_V.one mr2_M mr2_1 (by decide) (pcJ := 2) (stJ := [.int (-1), .int x2]) rfl ?_
  refine j_V.icmp mr2_M mr2_2 (t := 11) rfl (fun c2_0 => ?_) (fun c2_0 => ?_)
  · replace c2_0 : ¬ (x2 < (-1)) := jd_ge c2_0
    refine j_V.ldL mr2_M mr2_11 rfl (i := 0) (kd := 2) (v := .ref 359) (pcJ := 12) rfl L rfl rfl rfl ?_
    refine j_V.ldL mr2_M mr2_12 rfl (i := 1) (kd := 0) (v := .int x1) (pcJ := 13) rfl L rfl rfl rfl ?_
    refine j_V.cl mr2_M mr2_13 rfl (md := 3) (mj := 174) rfl (by decide) md1_M (As := [.ref 359, .int x1]) (rest := []) (jk_spl3 (K.at rfl) rfl rfl rfl (Nat.le_of_ble_eq_true rfl) (Nat.le_of_ble_eq_true rfl)) (fun d => md1_ok (u := fun j => [.int th, .ref 360, .ref 361, .ref 362, .ref 363, .ref 364, .ref 365, .ref 366, .ref 367, (u 9), .int sst, (u 11), (u 12), .int acs, (u 14), (u 15), (u 16), (u 17), (u 18), (u 19), (u 20), (u 21), .ref 368, (u 23), .ref 369, .ref 370, .ref 371, (u 27)].getD j .null) (K.fi [359, 360] rfl rfl)) ?_
    rintro r hz ⟨rfl, ez⟩
    rw [ez]
    clear ez
    show j_V jP _ 259 16 lv [.int (m_isSection w x1)] h _
    refine j_V.ifc mr2_M mr2_16 (t := 25) rfl (fun c16_1 => ?_) (fun c16_1 => ?_)
    · replace c16_1 : ¬ ((m_isSection w x1) = 0) := jd_ne c16_1
      refine j_V.ldL mr2_M mr2_25 rfl (i := 2) (kd := 0) (v := .int x2) (pcJ := 26) rfl L rfl rfl rfl ?_
      refine j_V.one mr2_M mr2_26 (by decide) (pcJ := 27) (stJ := [.int (-1), .int x2]) rfl ?_
      refine j_V.icmp mr2_M mr2_27 (t := 45) rfl (fun c27_2 => ?_) (fun c27_2 => ?_)
      · replace c27_2 : ¬ (x2 = (-1)) := jd_ne c27_2
        refine j_V.ldL mr2_M mr2_45 rfl (i := 2) (kd := 0) (v := .int x2) (pcJ := 46) rfl L rfl rfl rfl ?_
        refine j_V.ldL mr2_M mr2_46 rfl (i := 0) (kd := 2) (v := .ref 359) (pcJ := 47) rfl L rfl rfl rfl ?_
        refine j_V.getK mr2_M mr2_47 (ci := 10) (j := 1) rfl K rfl rfl ?_
        refine j_V.one mr2_M mr2_50 (by decide) (pcJ := 53) (stJ := [.int 210, .ref 360, .int x2]) rfl ?_
        refine j_V.ldL mr2_M mr2_53 rfl (i := 1) (kd := 0) (v := .int x1) (pcJ := 54) rfl L rfl rfl rfl ?_
        refine j_V.one mr2_M mr2_54 (by decide) (pcJ := 55) (stJ := [.int (210 + x1), .ref 360, .int x2]) rfl ?_
        refine j_V.iaA mr2_M mr2_55 K rfl ?_
        refine j_V.icmp mr2_M mr2_56 (t := 80) rfl (fun c56_3 => ?_) (fun c56_3 => ?_)
        · replace c56_3 : ¬ (x2 < (gA w (210 + x1))) := jd_ge c56_3
          refine j_V.ldL mr2_M mr2_80 rfl (i := 0) (kd := 2) (v := .ref 359) (pcJ := 81) rfl L rfl rfl rfl ?_
          refine j_V.one mr2_M mr2_81 (by decide) (pcJ := 82) (stJ := [.int 5, .ref 359]) rfl ?_
          refine j_V.cl mr2_M mr2_82 rfl (md := 3) (mj := 169) rfl (by decide) mo0_M (As := [.ref 359, .int 5]) (rest := []) (jk_spl3 (K.at rfl) rfl rfl rfl (Nat.le_of_ble_eq_true rfl) (Nat.le_of_ble_eq_true rfl)) (fun d => mo0_ok (K.fi [359] rfl rfl)) ?_
          rintro r h9 ⟨rfl, K9⟩
          generalize ez3 : (m_refuse th sst 5) = z3 at K9 ⊢
          have K : KN h9 [(359, .inl (10, [.int (z3.2.1), .ref 360, .ref 361, .ref 362, .ref 363, .ref 364, .ref 365, .ref 366, .ref 367, (u 9), .int (z3.2.2), (u 11), (u 12), .int acs, (u 14), (u 15), (u 16), (u 17), (u 18), (u 19), (u 20), (u 21), .ref 368, (u 23), .ref 369, .ref 370, .ref 371, (u 27)])), (360, .inr (.inl (0, w)))] h0 := K.mg K9 rfl rfl
          clear K9
          show j_V jP _ 259 85 lv [.int (z3.1)] h9 _
          subst ez3
          refine j_V.ri mr2_M mr2_85 ?_
          rw [show (m_qgone th sst w x1 x2) = _ from ((if_neg c2_0).trans ((if_neg c16_1).trans ((if_neg c27_2).trans ((if_neg c56_3).trans (rfl)))))]
          exact ⟨rfl, K⟩
        · replace c56_3 : x2 < (gA w (210 + x1)) := jd_gen c56_3
          refine j_V.ldL mr2_M mr2_59 rfl (i := 0) (kd := 2) (v := .ref 359) (pcJ := 60) rfl L rfl rfl rfl ?_
          refine j_V.ldL mr2_M mr2_60 rfl (i := 0) (kd := 2) (v := .ref 359) (pcJ := 61) rfl L rfl rfl rfl ?_
          refine j_V.getK mr2_M mr2_61 (ci := 10) (j := 1) rfl K rfl rfl ?_
          refine j_V.one mr2_M mr2_64 (by decide) (pcJ := 67) (stJ := [.int 216, .ref 360, .ref 359]) rfl ?_
          refine j_V.one mr2_M mr2_67 (by decide) (pcJ := 68) (stJ := [.int 5, .int 216, .ref 360, .ref 359]) rfl ?_
          refine j_V.ldL mr2_M mr2_68 rfl (i := 1) (kd := 0) (v := .int x1) (pcJ := 69) rfl L rfl rfl rfl ?_
          refine j_V.one mr2_M mr2_69 (by decide) (pcJ := 70) (stJ := [.int (5 * x1), .int 216, .ref 360, .ref 359]) rfl ?_
          refine j_V.one mr2_M mr2_70 (by decide) (pcJ := 71) (stJ := [.int (216 + (5 * x1)), .ref 360, .ref 359]) rfl ?_
          refine j_V.ldL mr2_M mr2_71 rfl (i := 2) (kd := 0) (v := .int x2) (pcJ := 72) rfl L rfl rfl rfl ?_
          refine j_V.one mr2_M mr2_72 (by decide) (pcJ := 73) (stJ := [.int ((216 + (5 * x1)) + x2), .ref 360, .ref 359]) rfl ?_
          refine j_V.iaA mr2_M mr2_73 K rfl ?_
          refine j_V.cl mr2_M mr2_74 rfl (md := 3) (mj := 170) rfl (by decide) mo1_M (As := [.ref 359, .int (gA w ((216 + (5 * x1)) + x2))]) (rest := []) (jk_spl3 (K.at rfl) rfl rfl rfl (Nat.le_of_ble_eq_true rfl) (Nat.le_of_ble_eq_true rfl)) (fun d => mo1_ok (K.fi [359] rfl rfl)) ?_
          rintro r h9 ⟨rfl, K9⟩
          generalize ez4 : (m_gives th sst (gA w ((216 + (5 * x1)) + x2))) = z4 at K9 ⊢
          have K : KN h9 [(359, .inl (10, [.int (z4.2.1), .ref 360, .ref 361, .ref 362, .ref 363, .ref 364, .ref 365, .ref 366, .ref 367, (u 9), .int (z4.2.2), (u 11), (u 12), .int acs, (u 14), (u 15), (u 16), (u 17), (u 18), (u 19), (u 20), (u 21), .ref 368, (u 23), .ref 369, .ref 370, .ref 371, (u 27)])), (360, .inr (.inl (0, w)))] h0 := K.mg K9 rfl rfl
          clear K9
          show j_V jP _ 259 77 lv [.int (z4.1)] h9 _
          refine j_V.gto mr2_M mr2_77 (t := 85) rfl ?_
          subst ez4
          refine j_V.ri mr2_M mr2_85 ?_
          rw [show (m_qgone th sst w x1 x2) = _ from ((if_neg c2_0).trans ((if_neg c16_1).trans ((if_neg c27_2).trans ((if_pos c56_3).trans (rfl)))))]
          exact ⟨rfl, K⟩
      · replace c27_2 : x2 = (-1) := jd_nen c27_2
        refine j_V.ldL mr2_M mr2_30 rfl (i := 0) (kd := 2) (v := .ref 359) (pcJ := 31) rfl L rfl rfl rfl ?_
        refine j_V.ldL mr2_M mr2_31 rfl (i := 0) (kd := 2) (v := .ref 359) (pcJ := 32) rfl L rfl rfl rfl ?_
        refine j_V.getK mr2_M mr2_32 (ci := 10) (j := 1) rfl K rfl rfl ?_
        refine j_V.one mr2_M mr2_35 (by decide) (pcJ := 38) (stJ := [.int 210, .ref 360, .ref 359]) rfl ?_
        refine j_V.ldL mr2_M mr2_38 rfl (i := 1) (kd := 0) (v := .int x1) (pcJ := 39) rfl L rfl rfl rfl ?_
        refine j_V.one mr2_M mr2_39 (by decide) (pcJ := 40) (stJ := [.int (210 + x1), .ref 360, .ref 359]) rfl ?_
        refine j_V.iaA mr2_M mr2_40 K rfl ?_
        refine j_V.cl mr2_M mr2_41 rfl (md := 3) (mj := 170) rfl (by decide) mo1_M (As := [.ref 359, .int (gA w (210 + x1))]) (rest := []) (jk_spl3 (K.at rfl) rfl rfl rfl (Nat.le_of_ble_eq_true rfl) (Nat.le_of_ble_eq_true rfl)) (fun d => mo1_ok (K.fi [359] rfl rfl)) ?_
        rintro r h9 ⟨rfl, K9⟩
        generalize ez5 : (m_gives th sst (gA w (210 + x1))) = z5 at K9 ⊢
        have K : KN h9 [(359, .inl (10, [.int (z5.2.1), .ref 360, .ref 361, .ref 362, .ref 363, .ref 364, .ref 365, .ref 366, .ref 367, (u 9), .int (z5.2.2), (u 11), (u 12), .int acs, (u 14), (u 15), (u 16), (u 17), (u 18), (u 19), (u 20), (u 21), .ref 368, (u 23), .ref 369, .ref 370, .ref 371, (u 27)])), (360, .inr (.inl (0, w)))] h0 := K.mg K9 rfl rfl
        clear K9
        show j_V jP _ 259 44 lv [.int (z5.1)] h9 _
        subst ez5
        refine j_V.ri mr2_M mr2_44 ?_
        rw [show (m_qgone th sst w x1 x2) = _ from ((if_neg c2_0).trans ((if_neg c16_1).trans ((if_pos c27_2).trans (rfl))))]
        exact ⟨rfl, K⟩
    · replace c16_1 : (m_isSection w x1) = 0 := jd_nen c16_1
      refine j_V.ldL mr2_M mr2_19 rfl (i := 0) (kd := 2) (v := .ref 359) (pcJ := 20) rfl L rfl rfl rfl ?_
      refine j_V.one mr2_M mr2_20 (by decide) (pcJ := 21) (stJ := [.int 2, .ref 359]) rfl ?_
      refine j_V.cl mr2_M mr2_21 rfl (md := 3) (mj := 169) rfl (by decide) mo0_M (As := [.ref 359, .int 2]) (rest := []) (jk_spl3 (K.at rfl) rfl rfl rfl (Nat.le_of_ble_eq_true rfl) (Nat.le_of_ble_eq_true rfl)) (fun d => mo0_ok (K.fi [359] rfl rfl)) ?_
      rintro r h9 ⟨rfl, K9⟩
      generalize ez6 : (m_refuse th sst 2) = z6 at K9 ⊢
      have K : KN h9 [(359, .inl (10, [.int (z6.2.1), .ref 360, .ref 361, .ref 362, .ref 363, .ref 364, .ref 365, .ref 366, .ref 367, (u 9), .int (z6.2.2), (u 11), (u 12), .int acs, (u 14), (u 15), (u 16), (u 17), (u 18), (u 19), (u 20), (u 21), .ref 368, (u 23), .ref 369, .ref 370, .ref 371, (u 27)])), (360, .inr (.inl (0, w)))] h0 := K.mg K9 rfl rfl
      clear K9
      show j_V jP _ 259 24 lv [.int (z6.1)] h9 _
      subst ez6
      refine j_V.ri mr2_M mr2_24 ?_
      rw [show (m_qgone th sst w x1 x2) = _ from ((if_neg c2_0).trans ((if_pos c16_1).trans (rfl)))]
      exact ⟨rfl, K⟩
  · replace c2_0 : x2 < (-1) := jd_gen c2_0
    refine j_V.ldL mr2_M mr2_5 rfl (i := 0) (kd := 2) (v := .ref 359) (pcJ := 6) rfl L rfl rfl rfl ?_
    refine j_V.one mr2_M mr2_6 (by decide) (pcJ := 7) (stJ := [.int 1, .ref 359]) rfl ?_
    refine j_V.cl mr2_M mr2_7 rfl (md := 3) (mj := 169) rfl (by decide) mo0_M (As := [.ref 359, .int 1]) (rest := []) (jk_spl3 (K.at rfl) rfl rfl rfl (Nat.le_of_ble_eq_true rfl) (Nat.le_of_ble_eq_true rfl)) (fun d => mo0_ok (K.fi [359] rfl rfl)) ?_
    rintro r h9 ⟨rfl, K9⟩
    generalize ez7 : (m_refuse th sst 1) = z7 at K9 ⊢
    have K : KN h9 [(359, .inl (10, [.int (z7.2.1), .ref 360, .ref 361, .ref 362, .ref 363, .ref 364, .ref 365, .ref 366, .ref 367, (u 9), .int (z7.2.2), (u 11), (u 12), .int acs, (u 14), (u 15), (u 16), (u 17), (u 18), (u 19), (u 20), (u 21), .ref 368, (u 23), .ref 369, .ref 370, .ref 371, (u 27)])), (360, .inr (.inl (0, w)))] h0 := K.mg K9 rfl rfl
    clear K9
    show j_V jP _ 259 10 lv [.int (z7.1)] h9 _
    subst ez7
    refine j_V.ri mr2_M mr2_10 ?_
    rw [show (m_qgone th sst w x1 x2) = _ from ((if_pos c2_0).trans (rfl))]
    exact ⟨rfl, K⟩
set_option maxRecDepth 100000 in
theorem mr3_M : j_meth jP 260 = some (yX10_waits, cX10_waits, 2, (some .int), 1, false, 10) := rfl
set_option maxRecDepth 100000 in
theorem mr3_0 : j_code jP 260 0 = some (.aload_n 0) := rfl
set_option maxRecDepth 100000 in
theorem mr3_1 : j_code jP 260 1 = some (.iload_n 1) := rfl
set_option maxRecDepth 100000 in
theorem mr3_2 : j_code jP 260 2 = some (.invokevirtual 310) := rfl
set_option maxRecDepth 100000 in
theorem mr3_5 : j_code jP 260 5 = some (.ifCond .eq 17) := rfl
set_option maxRecDepth 100000 in
theorem mr3_8 : j_code jP 260 8 = some (.aload_n 0) := rfl
set_option maxRecDepth 100000 in
theorem mr3_9 : j_code jP 260 9 = some (.aload_n 0) := rfl
set_option maxRecDepth 100000 in
theorem mr3_10 : j_code jP 260 10 = some (.iload_n 1) := rfl
set_option maxRecDepth 100000 in
theorem mr3_11 : j_code jP 260 11 = some (.bipush 12) := rfl
set_option maxRecDepth 100000 in
theorem mr3_13 : j_code jP 260 13 = some (.invokevirtual 198) := rfl
set_option maxRecDepth 100000 in
theorem mr3_16 : j_code jP 260 16 = some (.invokevirtual 195) := rfl
set_option maxRecDepth 100000 in
theorem mr3_19 : j_code jP 260 19 = some (.goto 8) := rfl
set_option maxRecDepth 100000 in
theorem mr3_22 : j_code jP 260 22 = some (.aload_n 0) := rfl
set_option maxRecDepth 100000 in
theorem mr3_23 : j_code jP 260 23 = some (.iconst 2) := rfl
set_option maxRecDepth 100000 in
theorem mr3_24 : j_code jP 260 24 = some (.invokevirtual 179) := rfl
set_option maxRecDepth 100000 in
theorem mr3_27 : j_code jP 260 27 = some (.ireturn) := rfl
def m_qwaits (th : Int32) (sst : Int32) (w : List Int32) (x1 : Int32) : Int32 × Int32 × Int32 := (if (m_isTrain w x1) = 0 then let z3 := (m_refuse th sst 2); ((z3.1), (z3.2.1), (z3.2.2)) else let z4 := (m_gives th sst (m_of w x1 12)); ((z4.1), (z4.2.1), (z4.2.2)))
set_option maxRecDepth 1000000 in
theorem mr3_ok {u : Nat → Value} {th : Int32} {sst : Int32} {acs : Int32} {w : List Int32} {x1 : Int32} {d : Nat} {h h0 : J_H} (K : KN h [(359, .inl (10, [.int th, .ref 360, .ref 361, .ref 362, .ref 363, .ref 364, .ref 365, .ref 366, .ref 367, (u 9), .int sst, (u 11), (u 12), .int acs, (u 14), (u 15), (u 16), (u 17), (u 18), (u 19), (u 20), (u 21), .ref 368, (u 23), .ref 369, .ref 370, .ref 371, (u 27)])), (360, .inr (.inl (0, w)))] h0) : j_V jP d 260 0 (lv_args 0 [.ref 359, .int x1]) [] h (fun rv h' => rv = some (.int (m_qwaits th sst w x1).1) ∧ KN h' [(359, .inl (10, [.int (m_qwaits th sst w x1).2.1, .ref 360, .ref 361, .ref 362, .ref 363, .ref 364, .ref 365, .ref 366, .ref 367, (u 9), .int (m_qwaits th sst w x1).2.2, (u 11), (u 12), .int acs, (u 14), (u 15), (u 16), (u 17), (u 18), (u 19), (u 20), (u 21), .ref 368, (u 23), .ref 369, .ref 370, .ref 371, (u 27)])), (360, .inr (.inl (0, w)))] h0) := by
  show j_V jP d 260 0 [(0, .ref 359), (1, .int x1)] [] h _
  obtain ⟨lv, elv, L⟩ : ∃ lv, lv = [(0, .ref 359), (1, .int x1)] ∧ LK lv [(0, .ref 359), (1, .int x1)] := ⟨_, rfl, LK.rf⟩
  rw [← elv]
  clear elv
  refine j_V.ldL mr3_M mr3_0 rfl (i := 0) (kd := 2) (v := .ref 359) (pcJ := 1) rfl L rfl rfl rfl ?_
  refine j_V.ldL mr3_M mr3_1 rfl (i := 1) (kd := 0) (v := .int x1) (pcJ := 2) rfl L rfl rfl rfl ?_
  refine j_V.cl mr3_M mr3_2 rfl (md := 3) (mj := 173) rfl (by decide) md0_M (As := [.ref 359, .int x1]) (rest := []) (jk_spl3 (K.at rfl) rfl rfl rfl (Nat.le_of_ble_eq_true rfl) (Nat.le_of_ble_eq_true rfl)) (fun d => md0_ok (u := fun j => [.int th, .ref 360, .ref 361, .ref 362, .ref 363, .ref 364, .ref 365, .ref 366, .ref 367, (u 9), .int sst, (u 11), (u 12), .int acs, (u 14), (u 15), (u 16), (u 17), (u 18), (u 19), (u 20), (u 21), .ref 368, (u 23), .ref 369, .ref 370, .ref 371, (u 27)].getD j .null) (K.fi [359, 360] rfl rfl)) ?_
  rintro r hz ⟨rfl, ez⟩
  rw [ez]
  clear ez
  show j_V jP _ 260 5 lv [.int (m_isTrain w x1)] h _
  refine j_V.ifc mr3_M mr3_5 (t := 22) rfl (fun c5_0 => ?_) (fun c5_0 => ?_)
  · replace c5_0 : (m_isTrain w x1) = 0 := jd_eq c5_0
    refine j_V.ldL mr3_M mr3_22 rfl (i := 0) (kd := 2) (v := .ref 359) (pcJ := 23) rfl L rfl rfl rfl ?_
    refine j_V.one mr3_M mr3_23 (by decide) (pcJ := 24) (stJ := [.int 2, .ref 359]) rfl ?_
    refine j_V.cl mr3_M mr3_24 rfl (md := 3) (mj := 169) rfl (by decide) mo0_M (As := [.ref 359, .int 2]) (rest := []) (jk_spl3 (K.at rfl) rfl rfl rfl (Nat.le_of_ble_eq_true rfl) (Nat.le_of_ble_eq_true rfl)) (fun d => mo0_ok (K.fi [359] rfl rfl)) ?_
    rintro r h9 ⟨rfl, K9⟩
    generalize ez3 : (m_refuse th sst 2) = z3 at K9 ⊢
    have K : KN h9 [(359, .inl (10, [.int (z3.2.1), .ref 360, .ref 361, .ref 362, .ref 363, .ref 364, .ref 365, .ref 366, .ref 367, (u 9), .int (z3.2.2), (u 11), (u 12), .int acs, (u 14), (u 15), (u 16), (u 17), (u 18), (u 19), (u 20), (u 21), .ref 368, (u 23), .ref 369, .ref 370, .ref 371, (u 27)])), (360, .inr (.inl (0, w)))] h0 := K.mg K9 rfl rfl
    clear K9
    show j_V jP _ 260 27 lv [.int (z3.1)] h9 _
    subst ez3
    refine j_V.ri mr3_M mr3_27 ?_
    rw [show (m_qwaits th sst w x1) = _ from ((if_pos c5_0).trans (rfl))]
    exact ⟨rfl, K⟩
  · replace c5_0 : ¬ ((m_isTrain w x1) = 0) := jd_eqn c5_0
    refine j_V.ldL mr3_M mr3_8 rfl (i := 0) (kd := 2) (v := .ref 359) (pcJ := 9) rfl L rfl rfl rfl ?_
    refine j_V.ldL mr3_M mr3_9 rfl (i := 0) (kd := 2) (v := .ref 359) (pcJ := 10) rfl L rfl rfl rfl ?_
    refine j_V.ldL mr3_M mr3_10 rfl (i := 1) (kd := 0) (v := .int x1) (pcJ := 11) rfl L rfl rfl rfl ?_
    refine j_V.one mr3_M mr3_11 (by decide) (pcJ := 13) (stJ := [.int 12, .int x1, .ref 359, .ref 359]) rfl ?_
    refine j_V.cl mr3_M mr3_13 rfl (md := 3) (mj := 178) rfl (by decide) ma3_M (As := [.ref 359, .int x1, .int 12]) (rest := [.ref 359]) (jk_spl3 (K.at rfl) rfl rfl rfl (Nat.le_of_ble_eq_true rfl) (Nat.le_of_ble_eq_true rfl)) (fun d => ma3_ok (u := fun j => [.int th, .ref 360, .ref 361, .ref 362, .ref 363, .ref 364, .ref 365, .ref 366, .ref 367, (u 9), .int sst, (u 11), (u 12), .int acs, (u 14), (u 15), (u 16), (u 17), (u 18), (u 19), (u 20), (u 21), .ref 368, (u 23), .ref 369, .ref 370, .ref 371, (u 27)].getD j .null) (K.fi [359, 360] rfl rfl)) ?_
    rintro r hz ⟨rfl, ez⟩
    rw [ez]
    clear ez
    show j_V jP _ 260 16 lv [.int (m_of w x1 12), .ref 359] h _
    refine j_V.cl mr3_M mr3_16 rfl (md := 3) (mj := 170) rfl (by decide) mo1_M (As := [.ref 359, .int (m_of w x1 12)]) (rest := []) (jk_spl3 (K.at rfl) rfl rfl rfl (Nat.le_of_ble_eq_true rfl) (Nat.le_of_ble_eq_true rfl)) (fun d => mo1_ok (K.fi [359] rfl rfl)) ?_
    rintro r h9 ⟨rfl, K9⟩
    generalize ez4 : (m_gives th sst (m_of w x1 12)) = z4 at K9 ⊢
    have K : KN h9 [(359, .inl (10, [.int (z4.2.1), .ref 360, .ref 361, .ref 362, .ref 363, .ref 364, .ref 365, .ref 366, .ref 367, (u 9), .int (z4.2.2), (u 11), (u 12), .int acs, (u 14), (u 15), (u 16), (u 17), (u 18), (u 19), (u 20), (u 21), .ref 368, (u 23), .ref 369, .ref 370, .ref 371, (u 27)])), (360, .inr (.inl (0, w)))] h0 := K.mg K9 rfl rfl
    clear K9
    show j_V jP _ 260 19 lv [.int (z4.1)] h9 _
    refine j_V.gto mr3_M mr3_19 (t := 27) rfl ?_
    subst ez4
    refine j_V.ri mr3_M mr3_27 ?_
    rw [show (m_qwaits th sst w x1) = _ from ((if_neg c5_0).trans (rfl))]
    exact ⟨rfl, K⟩

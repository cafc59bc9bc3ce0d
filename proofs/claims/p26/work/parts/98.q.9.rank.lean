/-! the reference's rank, by wip/px/gen_m14.py -/
set_option maxRecDepth 100000 in
theorem mx0_M : j_meth jP 286 = some (yX10_rank, cX10_rank, 7, (some .int), 1, false, 10) := rfl
set_option maxRecDepth 100000 in
theorem mx0_0 : j_code jP 286 0 = some (.aload_n 0) := rfl
set_option maxRecDepth 100000 in
theorem mx0_1 : j_code jP 286 1 = some (.getfield 7) := rfl
set_option maxRecDepth 100000 in
theorem mx0_4 : j_code jP 286 4 = some (.sipush 203) := rfl
set_option maxRecDepth 100000 in
theorem mx0_7 : j_code jP 286 7 = some (.iaload) := rfl
set_option maxRecDepth 100000 in
theorem mx0_8 : j_code jP 286 8 = some (.istore_n 2) := rfl
set_option maxRecDepth 100000 in
theorem mx0_9 : j_code jP 286 9 = some (.iconst 0) := rfl
set_option maxRecDepth 100000 in
theorem mx0_10 : j_code jP 286 10 = some (.istore_n 3) := rfl
set_option maxRecDepth 100000 in
theorem mx0_11 : j_code jP 286 11 = some (.iload_n 1) := rfl
set_option maxRecDepth 100000 in
theorem mx0_12 : j_code jP 286 12 = some (.istore 4) := rfl
set_option maxRecDepth 100000 in
theorem mx0_14 : j_code jP 286 14 = some (.iconst 0) := rfl
set_option maxRecDepth 100000 in
theorem mx0_15 : j_code jP 286 15 = some (.istore 5) := rfl
set_option maxRecDepth 100000 in
theorem mx0_17 : j_code jP 286 17 = some (.iload_n 2) := rfl
set_option maxRecDepth 100000 in
theorem mx0_18 : j_code jP 286 18 = some (.iconst 1) := rfl
set_option maxRecDepth 100000 in
theorem mx0_19 : j_code jP 286 19 = some (.isub) := rfl
set_option maxRecDepth 100000 in
theorem mx0_20 : j_code jP 286 20 = some (.istore 6) := rfl
set_option maxRecDepth 100000 in
theorem mx0_22 : j_code jP 286 22 = some (.iload 6) := rfl
set_option maxRecDepth 100000 in
theorem mx0_24 : j_code jP 286 24 = some (.ifCond .lt 115) := rfl
set_option maxRecDepth 100000 in
theorem mx0_27 : j_code jP 286 27 = some (.aload_n 0) := rfl
set_option maxRecDepth 100000 in
theorem mx0_28 : j_code jP 286 28 = some (.getfield 45) := rfl
set_option maxRecDepth 100000 in
theorem mx0_31 : j_code jP 286 31 = some (.iload 6) := rfl
set_option maxRecDepth 100000 in
theorem mx0_33 : j_code jP 286 33 = some (.iload 4) := rfl
set_option maxRecDepth 100000 in
theorem mx0_35 : j_code jP 286 35 = some (.ifCond .ge 7) := rfl
set_option maxRecDepth 100000 in
theorem mx0_38 : j_code jP 286 38 = some (.iconst (-1)) := rfl
set_option maxRecDepth 100000 in
theorem mx0_39 : j_code jP 286 39 = some (.goto 8) := rfl
set_option maxRecDepth 100000 in
theorem mx0_42 : j_code jP 286 42 = some (.iload 4) := rfl
set_option maxRecDepth 100000 in
theorem mx0_44 : j_code jP 286 44 = some (.bipush 10) := rfl
set_option maxRecDepth 100000 in
theorem mx0_46 : j_code jP 286 46 = some (.irem) := rfl
set_option maxRecDepth 100000 in
theorem mx0_47 : j_code jP 286 47 = some (.iastore) := rfl
set_option maxRecDepth 100000 in
theorem mx0_48 : j_code jP 286 48 = some (.aload_n 0) := rfl
set_option maxRecDepth 100000 in
theorem mx0_49 : j_code jP 286 49 = some (.aload_n 0) := rfl
set_option maxRecDepth 100000 in
theorem mx0_50 : j_code jP 286 50 = some (.getfield 45) := rfl
set_option maxRecDepth 100000 in
theorem mx0_53 : j_code jP 286 53 = some (.iload 6) := rfl
set_option maxRecDepth 100000 in
theorem mx0_55 : j_code jP 286 55 = some (.iaload) := rfl
set_option maxRecDepth 100000 in
theorem mx0_56 : j_code jP 286 56 = some (.invokevirtual 310) := rfl
set_option maxRecDepth 100000 in
theorem mx0_59 : j_code jP 286 59 = some (.ifCond .eq 18) := rfl
set_option maxRecDepth 100000 in
theorem mx0_62 : j_code jP 286 62 = some (.iload_n 3) := rfl
set_option maxRecDepth 100000 in
theorem mx0_63 : j_code jP 286 63 = some (.aload_n 0) := rfl
set_option maxRecDepth 100000 in
theorem mx0_64 : j_code jP 286 64 = some (.getfield 45) := rfl
set_option maxRecDepth 100000 in
theorem mx0_67 : j_code jP 286 67 = some (.iload 6) := rfl
set_option maxRecDepth 100000 in
theorem mx0_69 : j_code jP 286 69 = some (.iaload) := rfl
set_option maxRecDepth 100000 in
theorem mx0_70 : j_code jP 286 70 = some (.ishr) := rfl
set_option maxRecDepth 100000 in
theorem mx0_71 : j_code jP 286 71 = some (.iconst 1) := rfl
set_option maxRecDepth 100000 in
theorem mx0_72 : j_code jP 286 72 = some (.iand) := rfl
set_option maxRecDepth 100000 in
theorem mx0_73 : j_code jP 286 73 = some (.iconst 1) := rfl
set_option maxRecDepth 100000 in
theorem mx0_74 : j_code jP 286 74 = some (.if_icmp .ne 9) := rfl
set_option maxRecDepth 100000 in
theorem mx0_77 : j_code jP 286 77 = some (.aload_n 0) := rfl
set_option maxRecDepth 100000 in
theorem mx0_78 : j_code jP 286 78 = some (.iconst 1) := rfl
set_option maxRecDepth 100000 in
theorem mx0_79 : j_code jP 286 79 = some (.invokevirtual 179) := rfl
set_option maxRecDepth 100000 in
theorem mx0_82 : j_code jP 286 82 = some (.ireturn) := rfl
set_option maxRecDepth 100000 in
theorem mx0_83 : j_code jP 286 83 = some (.iload_n 3) := rfl
set_option maxRecDepth 100000 in
theorem mx0_84 : j_code jP 286 84 = some (.iconst 1) := rfl
set_option maxRecDepth 100000 in
theorem mx0_85 : j_code jP 286 85 = some (.aload_n 0) := rfl
set_option maxRecDepth 100000 in
theorem mx0_86 : j_code jP 286 86 = some (.getfield 45) := rfl
set_option maxRecDepth 100000 in
theorem mx0_89 : j_code jP 286 89 = some (.iload 6) := rfl
set_option maxRecDepth 100000 in
theorem mx0_91 : j_code jP 286 91 = some (.iaload) := rfl
set_option maxRecDepth 100000 in
theorem mx0_92 : j_code jP 286 92 = some (.ishl) := rfl
set_option maxRecDepth 100000 in
theorem mx0_93 : j_code jP 286 93 = some (.ior) := rfl
set_option maxRecDepth 100000 in
theorem mx0_94 : j_code jP 286 94 = some (.istore_n 3) := rfl
set_option maxRecDepth 100000 in
theorem mx0_95 : j_code jP 286 95 = some (.iload 5) := rfl
set_option maxRecDepth 100000 in
theorem mx0_97 : j_code jP 286 97 = some (.aload_n 0) := rfl
set_option maxRecDepth 100000 in
theorem mx0_98 : j_code jP 286 98 = some (.getfield 45) := rfl
set_option maxRecDepth 100000 in
theorem mx0_101 : j_code jP 286 101 = some (.iload 6) := rfl
set_option maxRecDepth 100000 in
theorem mx0_103 : j_code jP 286 103 = some (.iaload) := rfl
set_option maxRecDepth 100000 in
theorem mx0_104 : j_code jP 286 104 = some (.aload_n 0) := rfl
set_option maxRecDepth 100000 in
theorem mx0_105 : j_code jP 286 105 = some (.getfield 7) := rfl
set_option maxRecDepth 100000 in
theorem mx0_108 : j_code jP 286 108 = some (.sipush 196) := rfl
set_option maxRecDepth 100000 in
theorem mx0_111 : j_code jP 286 111 = some (.iload 6) := rfl
set_option maxRecDepth 100000 in
theorem mx0_113 : j_code jP 286 113 = some (.iadd) := rfl
set_option maxRecDepth 100000 in
theorem mx0_114 : j_code jP 286 114 = some (.iaload) := rfl
set_option maxRecDepth 100000 in
theorem mx0_115 : j_code jP 286 115 = some (.if_icmp .ne 7) := rfl
set_option maxRecDepth 100000 in
theorem mx0_118 : j_code jP 286 118 = some (.iconst 1) := rfl
set_option maxRecDepth 100000 in
theorem mx0_119 : j_code jP 286 119 = some (.goto 4) := rfl
set_option maxRecDepth 100000 in
theorem mx0_122 : j_code jP 286 122 = some (.iconst 0) := rfl
set_option maxRecDepth 100000 in
theorem mx0_123 : j_code jP 286 123 = some (.iadd) := rfl
set_option maxRecDepth 100000 in
theorem mx0_124 : j_code jP 286 124 = some (.istore 5) := rfl
set_option maxRecDepth 100000 in
theorem mx0_126 : j_code jP 286 126 = some (.iload 4) := rfl
set_option maxRecDepth 100000 in
theorem mx0_128 : j_code jP 286 128 = some (.bipush 10) := rfl
set_option maxRecDepth 100000 in
theorem mx0_130 : j_code jP 286 130 = some (.idiv) := rfl
set_option maxRecDepth 100000 in
theorem mx0_131 : j_code jP 286 131 = some (.istore 4) := rfl
set_option maxRecDepth 100000 in
theorem mx0_133 : j_code jP 286 133 = some (.iinc 6 (-1)) := rfl
set_option maxRecDepth 100000 in
theorem mx0_136 : j_code jP 286 136 = some (.goto (-114)) := rfl
set_option maxRecDepth 100000 in
theorem mx0_139 : j_code jP 286 139 = some (.iload 4) := rfl
set_option maxRecDepth 100000 in
theorem mx0_141 : j_code jP 286 141 = some (.ifCond .eq 9) := rfl
set_option maxRecDepth 100000 in
theorem mx0_144 : j_code jP 286 144 = some (.aload_n 0) := rfl
set_option maxRecDepth 100000 in
theorem mx0_145 : j_code jP 286 145 = some (.iconst 1) := rfl
set_option maxRecDepth 100000 in
theorem mx0_146 : j_code jP 286 146 = some (.invokevirtual 179) := rfl
set_option maxRecDepth 100000 in
theorem mx0_149 : j_code jP 286 149 = some (.ireturn) := rfl
set_option maxRecDepth 100000 in
theorem mx0_150 : j_code jP 286 150 = some (.iload 5) := rfl
set_option maxRecDepth 100000 in
theorem mx0_152 : j_code jP 286 152 = some (.iload_n 2) := rfl
set_option maxRecDepth 100000 in
theorem mx0_153 : j_code jP 286 153 = some (.if_icmp .ne 9) := rfl
set_option maxRecDepth 100000 in
theorem mx0_156 : j_code jP 286 156 = some (.aload_n 0) := rfl
set_option maxRecDepth 100000 in
theorem mx0_157 : j_code jP 286 157 = some (.iconst 4) := rfl
set_option maxRecDepth 100000 in
theorem mx0_158 : j_code jP 286 158 = some (.invokevirtual 179) := rfl
set_option maxRecDepth 100000 in
theorem mx0_161 : j_code jP 286 161 = some (.ireturn) := rfl
set_option maxRecDepth 100000 in
theorem mx0_162 : j_code jP 286 162 = some (.aload_n 0) := rfl
set_option maxRecDepth 100000 in
theorem mx0_163 : j_code jP 286 163 = some (.invokevirtual 362) := rfl
set_option maxRecDepth 100000 in
theorem mx0_166 : j_code jP 286 166 = some (.iconst 0) := rfl
set_option maxRecDepth 100000 in
theorem mx0_167 : j_code jP 286 167 = some (.istore 6) := rfl
set_option maxRecDepth 100000 in
theorem mx0_169 : j_code jP 286 169 = some (.iload 6) := rfl
set_option maxRecDepth 100000 in
theorem mx0_171 : j_code jP 286 171 = some (.iload_n 2) := rfl
set_option maxRecDepth 100000 in
theorem mx0_172 : j_code jP 286 172 = some (.if_icmp .ge 27) := rfl
set_option maxRecDepth 100000 in
theorem mx0_175 : j_code jP 286 175 = some (.aload_n 0) := rfl
set_option maxRecDepth 100000 in
theorem mx0_176 : j_code jP 286 176 = some (.getfield 7) := rfl
set_option maxRecDepth 100000 in
theorem mx0_179 : j_code jP 286 179 = some (.sipush 196) := rfl
set_option maxRecDepth 100000 in
theorem mx0_182 : j_code jP 286 182 = some (.iload 6) := rfl
set_option maxRecDepth 100000 in
theorem mx0_184 : j_code jP 286 184 = some (.iadd) := rfl
set_option maxRecDepth 100000 in
theorem mx0_185 : j_code jP 286 185 = some (.aload_n 0) := rfl
set_option maxRecDepth 100000 in
theorem mx0_186 : j_code jP 286 186 = some (.getfield 45) := rfl
set_option maxRecDepth 100000 in
theorem mx0_189 : j_code jP 286 189 = some (.iload 6) := rfl
set_option maxRecDepth 100000 in
theorem mx0_191 : j_code jP 286 191 = some (.iaload) := rfl
set_option maxRecDepth 100000 in
theorem mx0_192 : j_code jP 286 192 = some (.iastore) := rfl
set_option maxRecDepth 100000 in
theorem mx0_193 : j_code jP 286 193 = some (.iinc 6 1) := rfl
set_option maxRecDepth 100000 in
theorem mx0_196 : j_code jP 286 196 = some (.goto (-27)) := rfl
set_option maxRecDepth 100000 in
theorem mx0_199 : j_code jP 286 199 = some (.aload_n 0) := rfl
set_option maxRecDepth 100000 in
theorem mx0_200 : j_code jP 286 200 = some (.iload 5) := rfl
set_option maxRecDepth 100000 in
theorem mx0_202 : j_code jP 286 202 = some (.invokevirtual 195) := rfl
set_option maxRecDepth 100000 in
theorem mx0_205 : j_code jP 286 205 = some (.ireturn) := rfl
/-- the digits read: 1 if each names a train once, what is left, how many stand already so, the order -/
def m_rk22 (w : List Int32) : Nat → Int32 → Int32 → Int32 → Int32 → List Int32 → Int32 × Int32 × Int32 × List Int32
  | 0, v3, v4, v5, v6, od => (1, v4, v5, od)
  | f + 1, v3, v4, v5, v6, od => (if v6 < 0 then (1, v4, v5, od) else (if (m_isTrain w (gA (sA od v6 ((if v4 < 0 then (-1) else (v4 - v4 / 10 * 10)) : Int32)) v6)) = 0 then (0, v4, v5, (sA od v6 ((if v4 < 0 then (-1) else (v4 - v4 / 10 * 10)) : Int32))) else (if ((v3 >>> ((gA (sA od v6 ((if v4 < 0 then (-1) else (v4 - v4 / 10 * 10)) : Int32)) v6) &&& 31)) &&& 1) = 1 then (0, v4, v5, (sA od v6 ((if v4 < 0 then (-1) else (v4 - v4 / 10 * 10)) : Int32))) else (m_rk22 w f (v3 ||| (1 <<< ((gA (sA od v6 ((if v4 < 0 then (-1) else (v4 - v4 / 10 * 10)) : Int32)) v6) &&& 31))) (v4 / 10) (v5 + ((if (gA (sA od v6 ((if v4 < 0 then (-1) else (v4 - v4 / 10 * 10)) : Int32)) v6) = (gA w (196 + v6)) then 1 else 0) : Int32)) (v6 + (-1)) (sA od v6 ((if v4 < 0 then (-1) else (v4 - v4 / 10 * 10)) : Int32))))))
set_option maxRecDepth 1000000 in
theorem mx0_ok_l22 {u : Nat → Value} {n d : Nat} {h0 : J_H} {th sst acs tm x1 : Int32} {w sd ot kp tk be : List Int32} {Q : Option Value → J_H → Prop} : ∀ (f : Nat) (v3 v4 v5 v6 : Int32) (od : List Int32) {lv : J_L} {h : J_H}, v6.toInt < (f : Int) → LK lv [(0, .ref 359), (1, .int x1), (2, .int (gA w 203)), (3, .int v3), (4, .int v4), (5, .int v5), (6, .int v6)] → KN h [(359, .inl (10, [.int th, .ref 360, .ref 361, .ref 362, .ref 363, .ref 364, .ref 365, .ref 366, .ref 367, (u 9), .int sst, (u 11), (u 12), .int acs, (u 14), (u 15), (u 16), (u 17), (u 18), (u 19), (u 20), (u 21), .ref 368, .int tm, .ref 369, .ref 370, .ref 371, (u 27)])), (360, .inr (.inl (0, w))), (362, .inr (.inl (0, sd))), (363, .inr (.inl (0, ot))), (364, .inr (.inl (0, kp))), (368, .inr (.inl (0, tk))), (369, .inr (.inl (0, od))), (370, .inr (.inl (0, be)))] h0 → (∀ lv h, (m_rk22 w f v3 v4 v5 v6 od).1 = 0 → LK lv [(0, .ref 359)] → KN h [(359, .inl (10, [.int th, .ref 360, .ref 361, .ref 362, .ref 363, .ref 364, .ref 365, .ref 366, .ref 367, (u 9), .int sst, (u 11), (u 12), .int acs, (u 14), (u 15), (u 16), (u 17), (u 18), (u 19), (u 20), (u 21), .ref 368, .int tm, .ref 369, .ref 370, .ref 371, (u 27)])), (360, .inr (.inl (0, w))), (362, .inr (.inl (0, sd))), (363, .inr (.inl (0, ot))), (364, .inr (.inl (0, kp))), (368, .inr (.inl (0, tk))), (369, .inr (.inl (0, (m_rk22 w f v3 v4 v5 v6 od).2.2.2))), (370, .inr (.inl (0, be)))] h0 → j_V jP d 286 77 lv [] h Q) → (∀ lv h, (m_rk22 w f v3 v4 v5 v6 od).1 = 1 → LK lv [(0, .ref 359), (2, .int (gA w 203)), (4, .int (m_rk22 w f v3 v4 v5 v6 od).2.1), (5, .int (m_rk22 w f v3 v4 v5 v6 od).2.2.1)] → KN h [(359, .inl (10, [.int th, .ref 360, .ref 361, .ref 362, .ref 363, .ref 364, .ref 365, .ref 366, .ref 367, (u 9), .int sst, (u 11), (u 12), .int acs, (u 14), (u 15), (u 16), (u 17), (u 18), (u 19), (u 20), (u 21), .ref 368, .int tm, .ref 369, .ref 370, .ref 371, (u 27)])), (360, .inr (.inl (0, w))), (362, .inr (.inl (0, sd))), (363, .inr (.inl (0, ot))), (364, .inr (.inl (0, kp))), (368, .inr (.inl (0, tk))), (369, .inr (.inl (0, (m_rk22 w f v3 v4 v5 v6 od).2.2.2))), (370, .inr (.inl (0, be)))] h0 → j_V jP d 286 139 lv [] h Q) → j_V jP d 286 22 lv [] h Q := by
  intro f
  induction f with
  | zero =>
    intro v3 v4 v5 v6 od lv h e L K k0 k1
    refine j_V.ldL mx0_M mx0_22 rfl (i := 6) (kd := 0) (v := .int v6) (pcJ := 24) rfl L rfl rfl rfl ?_
    refine j_V.ifc mx0_M mx0_24 (t := 139) rfl (fun c24_0 => ?_) (fun c24_0 => ?_)
    · replace c24_0 : v6 < 0 := jd_lt c24_0
      rw [show (m_rk22 w 0 v3 v4 v5 v6 od) = _ from (rfl)] at k1
      exact k1 _ _ rfl (L.sub ⟨rfl, rfl, rfl, rfl, trivial⟩) K
    · replace c24_0 : ¬ (v6 < 0) := jd_ltn c24_0
      exact absurd (m_dz e) c24_0
  | succ f ih =>
    intro v3 v4 v5 v6 od lv h e L K k0 k1
    refine j_V.ldL mx0_M mx0_22 rfl (i := 6) (kd := 0) (v := .int v6) (pcJ := 24) rfl L rfl rfl rfl ?_
    refine j_V.ifc mx0_M mx0_24 (t := 139) rfl (fun c24_0 => ?_) (fun c24_0 => ?_)
    · replace c24_0 : v6 < 0 := jd_lt c24_0
      rw [show (m_rk22 w (f + 1) v3 v4 v5 v6 od) = _ from ((if_pos c24_0).trans (rfl))] at k1
      exact k1 _ _ rfl (L.sub ⟨rfl, rfl, rfl, rfl, trivial⟩) K
    · replace c24_0 : ¬ (v6 < 0) := jd_ltn c24_0
      refine j_V.ldL mx0_M mx0_27 rfl (i := 0) (kd := 2) (v := .ref 359) (pcJ := 28) rfl L rfl rfl rfl ?_
      refine j_V.getK mx0_M mx0_28 (ci := 10) (j := 24) rfl K rfl rfl ?_
      refine j_V.ldL mx0_M mx0_31 rfl (i := 6) (kd := 0) (v := .int v6) (pcJ := 33) rfl L rfl rfl rfl ?_
      refine j_V.ldL mx0_M mx0_33 rfl (i := 4) (kd := 0) (v := .int v4) (pcJ := 35) rfl L rfl rfl rfl ?_
      refine j_V.cut (b := 47) (stJ := [.int ((if v4 < 0 then (-1) else (v4 - v4 / 10 * 10)) : Int32), .int v6, .ref 369]) (fun v => [(0, .ref 359), (1, .int x1), (2, .int (gA w 203)), (3, .int v3), (4, .int v4), (5, .int v5), (6, .int v6)]) ((if v4 < 0 then (-1) else (v4 - v4 / 10 * 10)) : Int32) (fun Q kk => ?_) (fun lv L => ?_)
      · refine j_V.ifc mx0_M mx0_35 (t := 42) rfl (fun c35_0 => ?_) (fun c35_0 => ?_)
        · replace c35_0 : ¬ (v4 < 0) := jd_ge c35_0
          refine j_V.ldL mx0_M mx0_42 rfl (i := 4) (kd := 0) (v := .int v4) (pcJ := 44) rfl L rfl rfl rfl ?_
          refine j_V.one mx0_M mx0_44 (by decide) (pcJ := 46) (stJ := [.int 10, .int v4, .int v6, .ref 369]) rfl ?_
          refine j_V.one mx0_M mx0_46 (by decide) (pcJ := 47) (stJ := [.int (v4 - v4 / 10 * 10), .int v6, .ref 369]) rfl ?_
          exact Eq.subst (motive := fun z => j_V jP _ 286 47 _ (.int z :: [.int v6, .ref 369]) h Q) (show ((if v4 < 0 then (-1) else (v4 - v4 / 10 * 10)) : Int32) = (v4 - v4 / 10 * 10) from (if_neg c35_0).trans (rfl)) (kk _ L)
        · replace c35_0 : v4 < 0 := jd_gen c35_0
          refine j_V.one mx0_M mx0_38 (by decide) (pcJ := 39) (stJ := [.int (-1), .int v6, .ref 369]) rfl ?_
          refine j_V.gto mx0_M mx0_39 (t := 47) rfl ?_
          exact Eq.subst (motive := fun z => j_V jP _ 286 47 _ (.int z :: [.int v6, .ref 369]) h Q) (show ((if v4 < 0 then (-1) else (v4 - v4 / 10 * 10)) : Int32) = (-1) from (if_pos c35_0).trans (rfl)) (kk _ L)
      refine j_V.isA mx0_M mx0_47 (k' := [(359, .inl (10, [.int th, .ref 360, .ref 361, .ref 362, .ref 363, .ref 364, .ref 365, .ref 366, .ref 367, (u 9), .int sst, (u 11), (u 12), .int acs, (u 14), (u 15), (u 16), (u 17), (u 18), (u 19), (u 20), (u 21), .ref 368, .int tm, .ref 369, .ref 370, .ref 371, (u 27)])), (360, .inr (.inl (0, w))), (362, .inr (.inl (0, sd))), (363, .inr (.inl (0, ot))), (364, .inr (.inl (0, kp))), (368, .inr (.inl (0, tk))), (369, .inr (.inl (0, (sA od v6 ((if v4 < 0 then (-1) else (v4 - v4 / 10 * 10)) : Int32))))), (370, .inr (.inl (0, be)))]) K rfl rfl (fun h K => ?_)
      refine j_V.ldL mx0_M mx0_48 rfl (i := 0) (kd := 2) (v := .ref 359) (pcJ := 49) rfl L rfl rfl rfl ?_
      refine j_V.ldL mx0_M mx0_49 rfl (i := 0) (kd := 2) (v := .ref 359) (pcJ := 50) rfl L rfl rfl rfl ?_
      refine j_V.getK mx0_M mx0_50 (ci := 10) (j := 24) rfl K rfl rfl ?_
      refine j_V.ldL mx0_M mx0_53 rfl (i := 6) (kd := 0) (v := .int v6) (pcJ := 55) rfl L rfl rfl rfl ?_
      refine j_V.iaA mx0_M mx0_55 K rfl ?_
      refine j_V.cl mx0_M mx0_56 rfl (md := 3) (mj := 173) rfl (by decide) md0_M (As := [.ref 359, .int (gA (sA od v6 ((if v4 < 0 then (-1) else (v4 - v4 / 10 * 10)) : Int32)) v6)]) (rest := []) (jk_spl3 (K.at rfl) rfl rfl rfl (Nat.le_of_ble_eq_true rfl) (Nat.le_of_ble_eq_true rfl)) (fun d => md0_ok (u := fun j => [.int th, .ref 360, .ref 361, .ref 362, .ref 363, .ref 364, .ref 365, .ref 366, .ref 367, (u 9), .int sst, (u 11), (u 12), .int acs, (u 14), (u 15), (u 16), (u 17), (u 18), (u 19), (u 20), (u 21), .ref 368, .int tm, .ref 369, .ref 370, .ref 371, (u 27)].getD j .null) (K.fi [359, 360] rfl rfl)) ?_
      rintro r hz ⟨rfl, ez⟩
      rw [ez]
      clear ez
      show j_V jP _ 286 59 lv [.int (m_isTrain w (gA (sA od v6 ((if v4 < 0 then (-1) else (v4 - v4 / 10 * 10)) : Int32)) v6))] h _
      refine j_V.ifc mx0_M mx0_59 (t := 77) rfl (fun c59_1 => ?_) (fun c59_1 => ?_)
      · replace c59_1 : (m_isTrain w (gA (sA od v6 ((if v4 < 0 then (-1) else (v4 - v4 / 10 * 10)) : Int32)) v6)) = 0 := jd_eq c59_1
        rw [show (m_rk22 w (f + 1) v3 v4 v5 v6 od) = _ from ((if_neg c24_0).trans ((if_pos c59_1).trans (rfl)))] at k0
        exact k0 _ _ rfl (L.sub ⟨rfl, trivial⟩) K
      · replace c59_1 : ¬ ((m_isTrain w (gA (sA od v6 ((if v4 < 0 then (-1) else (v4 - v4 / 10 * 10)) : Int32)) v6)) = 0) := jd_eqn c59_1
        refine j_V.ldL mx0_M mx0_62 rfl (i := 3) (kd := 0) (v := .int v3) (pcJ := 63) rfl L rfl rfl rfl ?_
        refine j_V.ldL mx0_M mx0_63 rfl (i := 0) (kd := 2) (v := .ref 359) (pcJ := 64) rfl L rfl rfl rfl ?_
        refine j_V.getK mx0_M mx0_64 (ci := 10) (j := 24) rfl K rfl rfl ?_
        refine j_V.ldL mx0_M mx0_67 rfl (i := 6) (kd := 0) (v := .int v6) (pcJ := 69) rfl L rfl rfl rfl ?_
        refine j_V.iaA mx0_M mx0_69 K rfl ?_
        refine j_V.one mx0_M mx0_70 (by decide) (pcJ := 71) (stJ := [.int (v3 >>> ((gA (sA od v6 ((if v4 < 0 then (-1) else (v4 - v4 / 10 * 10)) : Int32)) v6) &&& 31))]) rfl ?_
        refine j_V.one mx0_M mx0_71 (by decide) (pcJ := 72) (stJ := [.int 1, .int (v3 >>> ((gA (sA od v6 ((if v4 < 0 then (-1) else (v4 - v4 / 10 * 10)) : Int32)) v6) &&& 31))]) rfl ?_
        refine j_V.one mx0_M mx0_72 (by decide) (pcJ := 73) (stJ := [.int ((v3 >>> ((gA (sA od v6 ((if v4 < 0 then (-1) else (v4 - v4 / 10 * 10)) : Int32)) v6) &&& 31)) &&& 1)]) rfl ?_
        refine j_V.one mx0_M mx0_73 (by decide) (pcJ := 74) (stJ := [.int 1, .int ((v3 >>> ((gA (sA od v6 ((if v4 < 0 then (-1) else (v4 - v4 / 10 * 10)) : Int32)) v6) &&& 31)) &&& 1)]) rfl ?_
        refine j_V.icmp mx0_M mx0_74 (t := 83) rfl (fun c74_2 => ?_) (fun c74_2 => ?_)
        · replace c74_2 : ¬ (((v3 >>> ((gA (sA od v6 ((if v4 < 0 then (-1) else (v4 - v4 / 10 * 10)) : Int32)) v6) &&& 31)) &&& 1) = 1) := jd_ne c74_2
          refine j_V.ldL mx0_M mx0_83 rfl (i := 3) (kd := 0) (v := .int v3) (pcJ := 84) rfl L rfl rfl rfl ?_
          refine j_V.one mx0_M mx0_84 (by decide) (pcJ := 85) (stJ := [.int 1, .int v3]) rfl ?_
          refine j_V.ldL mx0_M mx0_85 rfl (i := 0) (kd := 2) (v := .ref 359) (pcJ := 86) rfl L rfl rfl rfl ?_
          refine j_V.getK mx0_M mx0_86 (ci := 10) (j := 24) rfl K rfl rfl ?_
          refine j_V.ldL mx0_M mx0_89 rfl (i := 6) (kd := 0) (v := .int v6) (pcJ := 91) rfl L rfl rfl rfl ?_
          refine j_V.iaA mx0_M mx0_91 K rfl ?_
          refine j_V.one mx0_M mx0_92 (by decide) (pcJ := 93) (stJ := [.int (1 <<< ((gA (sA od v6 ((if v4 < 0 then (-1) else (v4 - v4 / 10 * 10)) : Int32)) v6) &&& 31)), .int v3]) rfl ?_
          refine j_V.one mx0_M mx0_93 (by decide) (pcJ := 94) (stJ := [.int (v3 ||| (1 <<< ((gA (sA od v6 ((if v4 < 0 then (-1) else (v4 - v4 / 10 * 10)) : Int32)) v6) &&& 31)))]) rfl ?_
          refine j_V.stL mx0_M mx0_94 rfl (i := 3) (kd := 0) (kl' := [(0, .ref 359), (1, .int x1), (2, .int (gA w 203)), (3, .int (v3 ||| (1 <<< ((gA (sA od v6 ((if v4 < 0 then (-1) else (v4 - v4 / 10 * 10)) : Int32)) v6) &&& 31)))), (4, .int v4), (5, .int v5), (6, .int v6)]) (pcJ := 95) rfl L rfl (by decide) rfl rfl rfl (fun lv L => ?_)
          refine j_V.ldL mx0_M mx0_95 rfl (i := 5) (kd := 0) (v := .int v5) (pcJ := 97) rfl L rfl rfl rfl ?_
          refine j_V.ldL mx0_M mx0_97 rfl (i := 0) (kd := 2) (v := .ref 359) (pcJ := 98) rfl L rfl rfl rfl ?_
          refine j_V.getK mx0_M mx0_98 (ci := 10) (j := 24) rfl K rfl rfl ?_
          refine j_V.ldL mx0_M mx0_101 rfl (i := 6) (kd := 0) (v := .int v6) (pcJ := 103) rfl L rfl rfl rfl ?_
          refine j_V.iaA mx0_M mx0_103 K rfl ?_
          refine j_V.ldL mx0_M mx0_104 rfl (i := 0) (kd := 2) (v := .ref 359) (pcJ := 105) rfl L rfl rfl rfl ?_
          refine j_V.getK mx0_M mx0_105 (ci := 10) (j := 1) rfl K rfl rfl ?_
          refine j_V.one mx0_M mx0_108 (by decide) (pcJ := 111) (stJ := [.int 196, .ref 360, .int (gA (sA od v6 ((if v4 < 0 then (-1) else (v4 - v4 / 10 * 10)) : Int32)) v6), .int v5]) rfl ?_
          refine j_V.ldL mx0_M mx0_111 rfl (i := 6) (kd := 0) (v := .int v6) (pcJ := 113) rfl L rfl rfl rfl ?_
          refine j_V.one mx0_M mx0_113 (by decide) (pcJ := 114) (stJ := [.int (196 + v6), .ref 360, .int (gA (sA od v6 ((if v4 < 0 then (-1) else (v4 - v4 / 10 * 10)) : Int32)) v6), .int v5]) rfl ?_
          refine j_V.iaA mx0_M mx0_114 K rfl ?_
          refine j_V.cut (b := 123) (stJ := [.int ((if (gA (sA od v6 ((if v4 < 0 then (-1) else (v4 - v4 / 10 * 10)) : Int32)) v6) = (gA w (196 + v6)) then 1 else 0) : Int32), .int v5]) (fun v => [(0, .ref 359), (1, .int x1), (2, .int (gA w 203)), (3, .int (v3 ||| (1 <<< ((gA (sA od v6 ((if v4 < 0 then (-1) else (v4 - v4 / 10 * 10)) : Int32)) v6) &&& 31)))), (4, .int v4), (5, .int v5), (6, .int v6)]) ((if (gA (sA od v6 ((if v4 < 0 then (-1) else (v4 - v4 / 10 * 10)) : Int32)) v6) = (gA w (196 + v6)) then 1 else 0) : Int32) (fun Q kk => ?_) (fun lv L => ?_)
          · refine j_V.icmp mx0_M mx0_115 (t := 122) rfl (fun c115_0 => ?_) (fun c115_0 => ?_)
            · replace c115_0 : ¬ ((gA (sA od v6 ((if v4 < 0 then (-1) else (v4 - v4 / 10 * 10)) : Int32)) v6) = (gA w (196 + v6))) := jd_ne c115_0
              refine j_V.one mx0_M mx0_122 (by decide) (pcJ := 123) (stJ := [.int 0, .int v5]) rfl ?_
              exact Eq.subst (motive := fun z => j_V jP _ 286 123 _ (.int z :: [.int v5]) h Q) (show ((if (gA (sA od v6 ((if v4 < 0 then (-1) else (v4 - v4 / 10 * 10)) : Int32)) v6) = (gA w (196 + v6)) then 1 else 0) : Int32) = 0 from (if_neg c115_0).trans (rfl)) (kk _ L)
            · replace c115_0 : (gA (sA od v6 ((if v4 < 0 then (-1) else (v4 - v4 / 10 * 10)) : Int32)) v6) = (gA w (196 + v6)) := jd_nen c115_0
              refine j_V.one mx0_M mx0_118 (by decide) (pcJ := 119) (stJ := [.int 1, .int v5]) rfl ?_
              refine j_V.gto mx0_M mx0_119 (t := 123) rfl ?_
              exact Eq.subst (motive := fun z => j_V jP _ 286 123 _ (.int z :: [.int v5]) h Q) (show ((if (gA (sA od v6 ((if v4 < 0 then (-1) else (v4 - v4 / 10 * 10)) : Int32)) v6) = (gA w (196 + v6)) then 1 else 0) : Int32) = 1 from (if_pos c115_0).trans (rfl)) (kk _ L)
          refine j_V.one mx0_M mx0_123 (by decide) (pcJ := 124) (stJ := [.int (v5 + ((if (gA (sA od v6 ((if v4 < 0 then (-1) else (v4 - v4 / 10 * 10)) : Int32)) v6) = (gA w (196 + v6)) then 1 else 0) : Int32))]) rfl ?_
          refine j_V.stL mx0_M mx0_124 rfl (i := 5) (kd := 0) (kl' := [(0, .ref 359), (1, .int x1), (2, .int (gA w 203)), (3, .int (v3 ||| (1 <<< ((gA (sA od v6 ((if v4 < 0 then (-1) else (v4 - v4 / 10 * 10)) : Int32)) v6) &&& 31)))), (4, .int v4), (5, .int (v5 + ((if (gA (sA od v6 ((if v4 < 0 then (-1) else (v4 - v4 / 10 * 10)) : Int32)) v6) = (gA w (196 + v6)) then 1 else 0) : Int32))), (6, .int v6)]) (pcJ := 126) rfl L rfl (by decide) rfl rfl rfl (fun lv L => ?_)
          refine j_V.ldL mx0_M mx0_126 rfl (i := 4) (kd := 0) (v := .int v4) (pcJ := 128) rfl L rfl rfl rfl ?_
          refine j_V.one mx0_M mx0_128 (by decide) (pcJ := 130) (stJ := [.int 10, .int v4]) rfl ?_
          refine j_V.one mx0_M mx0_130 (by decide) (pcJ := 131) (stJ := [.int (v4 / 10)]) rfl ?_
          refine j_V.stL mx0_M mx0_131 rfl (i := 4) (kd := 0) (kl' := [(0, .ref 359), (1, .int x1), (2, .int (gA w 203)), (3, .int (v3 ||| (1 <<< ((gA (sA od v6 ((if v4 < 0 then (-1) else (v4 - v4 / 10 * 10)) : Int32)) v6) &&& 31)))), (4, .int (v4 / 10)), (5, .int (v5 + ((if (gA (sA od v6 ((if v4 < 0 then (-1) else (v4 - v4 / 10 * 10)) : Int32)) v6) = (gA w (196 + v6)) then 1 else 0) : Int32))), (6, .int v6)]) (pcJ := 133) rfl L rfl (by decide) rfl rfl rfl (fun lv L => ?_)
          refine j_V.inL mx0_M mx0_133 (i := 6) (kl' := [(0, .ref 359), (1, .int x1), (2, .int (gA w 203)), (3, .int (v3 ||| (1 <<< ((gA (sA od v6 ((if v4 < 0 then (-1) else (v4 - v4 / 10 * 10)) : Int32)) v6) &&& 31)))), (4, .int (v4 / 10)), (5, .int (v5 + ((if (gA (sA od v6 ((if v4 < 0 then (-1) else (v4 - v4 / 10 * 10)) : Int32)) v6) = (gA w (196 + v6)) then 1 else 0) : Int32))), (6, .int (v6 + (-1)))]) (pcJ := 136) L rfl rfl rfl rfl (fun lv L => ?_)
          refine j_V.gto mx0_M mx0_136 (t := 22) rfl ?_
          rw [show (m_rk22 w (f + 1) v3 v4 v5 v6 od) = (m_rk22 w f (v3 ||| (1 <<< ((gA (sA od v6 ((if v4 < 0 then (-1) else (v4 - v4 / 10 * 10)) : Int32)) v6) &&& 31))) (v4 / 10) (v5 + ((if (gA (sA od v6 ((if v4 < 0 then (-1) else (v4 - v4 / 10 * 10)) : Int32)) v6) = (gA w (196 + v6)) then 1 else 0) : Int32)) (v6 + (-1)) (sA od v6 ((if v4 < 0 then (-1) else (v4 - v4 / 10 * 10)) : Int32))) from (if_neg c24_0).trans ((if_neg c59_1).trans ((if_neg c74_2).trans (rfl)))] at k0 k1
          exact ih _ _ _ _ _ (m_dn e c24_0) L K k0 k1
        · replace c74_2 : ((v3 >>> ((gA (sA od v6 ((if v4 < 0 then (-1) else (v4 - v4 / 10 * 10)) : Int32)) v6) &&& 31)) &&& 1) = 1 := jd_nen c74_2
          rw [show (m_rk22 w (f + 1) v3 v4 v5 v6 od) = _ from ((if_neg c24_0).trans ((if_neg c59_1).trans ((if_pos c74_2).trans (rfl))))] at k0
          exact k0 _ _ rfl (L.sub ⟨rfl, trivial⟩) K
set_option maxRecDepth 1000000 in
theorem mx0_ok_l169 {u : Nat → Value} {n d : Nat} {h0 : J_H} {th sst acs tm v5 : Int32} {w sd ot kp tk od be : List Int32} {Q : Option Value → J_H → Prop} {I J : List Int32 → Prop} (H : m_Inv n I J) (hI : I w) : ∀ (f : Nat) (i : Nat) (wn : List Int32) {lv : J_L} {h : J_H}, i + f = n → LK lv [(0, .ref 359), (2, .int (gA w 203)), (5, .int v5), (6, .int (nI i))] → KN h [(359, .inl (10, [.int th, .ref 360, .ref 361, .ref 362, .ref 363, .ref 364, .ref 365, .ref 366, .ref 367, (u 9), .int sst, (u 11), (u 12), .int acs, (u 14), (u 15), (u 16), (u 17), (u 18), (u 19), (u 20), (u 21), .ref 368, .int tm, .ref 369, .ref 370, .ref 371, (u 27)])), (360, .inr (.inl (0, wn))), (362, .inr (.inl (0, sd))), (363, .inr (.inl (0, ot))), (364, .inr (.inl (0, kp))), (368, .inr (.inl (0, tk))), (369, .inr (.inl (0, od))), (370, .inr (.inl (0, be)))] h0 → (∀ lv h, LK lv [(0, .ref 359), (5, .int v5)] → KN h [(359, .inl (10, [.int th, .ref 360, .ref 361, .ref 362, .ref 363, .ref 364, .ref 365, .ref 366, .ref 367, (u 9), .int sst, (u 11), (u 12), .int acs, (u 14), (u 15), (u 16), (u 17), (u 18), (u 19), (u 20), (u 21), .ref 368, .int tm, .ref 369, .ref 370, .ref 371, (u 27)])), (360, .inr (.inl (0, (m_pw od f i wn)))), (362, .inr (.inl (0, sd))), (363, .inr (.inl (0, ot))), (364, .inr (.inl (0, kp))), (368, .inr (.inl (0, tk))), (369, .inr (.inl (0, od))), (370, .inr (.inl (0, be)))] h0 → j_V jP d 286 199 lv [] h Q) → j_V jP d 286 169 lv [] h Q := by
  have hn5 := H.n5
  intro f
  induction f with
  | zero =>
    intro i wn lv h e L K kk
    refine j_V.ldL mx0_M mx0_169 rfl (i := 6) (kd := 0) (v := .int (nI i)) (pcJ := 171) rfl L rfl rfl rfl ?_
    refine j_V.ldL mx0_M mx0_171 rfl (i := 2) (kd := 0) (v := .int (gA w 203)) (pcJ := 172) rfl L rfl rfl rfl ?_
    refine j_V.icmp mx0_M mx0_172 (t := 199) rfl (fun c172_0 => ?_) (fun c172_0 => ?_)
    · replace c172_0 : ¬ ((nI i) < (gA w 203)) := jd_ge c172_0
      exact kk _ _ (L.sub ⟨rfl, rfl, trivial⟩) K
    · replace c172_0 : (nI i) < (gA w 203) := jd_gen c172_0
      exact absurd c172_0 (by rw [(H.I1 _ hI).2, nI_lt9 (by omega) (by omega)]; omega)
  | succ f ih =>
    intro i wn lv h e L K kk
    refine j_V.ldL mx0_M mx0_169 rfl (i := 6) (kd := 0) (v := .int (nI i)) (pcJ := 171) rfl L rfl rfl rfl ?_
    refine j_V.ldL mx0_M mx0_171 rfl (i := 2) (kd := 0) (v := .int (gA w 203)) (pcJ := 172) rfl L rfl rfl rfl ?_
    refine j_V.icmp mx0_M mx0_172 (t := 199) rfl (fun c172_0 => ?_) (fun c172_0 => ?_)
    · replace c172_0 : ¬ ((nI i) < (gA w 203)) := jd_ge c172_0
      exact absurd (show nI i < gA w 203 by rw [(H.I1 _ hI).2, nI_lt9 (by omega) (by omega)]; omega) c172_0
    · replace c172_0 : (nI i) < (gA w 203) := jd_gen c172_0
      refine j_V.ldL mx0_M mx0_175 rfl (i := 0) (kd := 2) (v := .ref 359) (pcJ := 176) rfl L rfl rfl rfl ?_
      refine j_V.getK mx0_M mx0_176 (ci := 10) (j := 1) rfl K rfl rfl ?_
      refine j_V.one mx0_M mx0_179 (by decide) (pcJ := 182) (stJ := [.int 196, .ref 360]) rfl ?_
      refine j_V.ldL mx0_M mx0_182 rfl (i := 6) (kd := 0) (v := .int (nI i)) (pcJ := 184) rfl L rfl rfl rfl ?_
      refine j_V.one mx0_M mx0_184 (by decide) (pcJ := 185) (stJ := [.int (196 + (nI i)), .ref 360]) rfl ?_
      refine j_V.ldL mx0_M mx0_185 rfl (i := 0) (kd := 2) (v := .ref 359) (pcJ := 186) rfl L rfl rfl rfl ?_
      refine j_V.getK mx0_M mx0_186 (ci := 10) (j := 24) rfl K rfl rfl ?_
      refine j_V.ldL mx0_M mx0_189 rfl (i := 6) (kd := 0) (v := .int (nI i)) (pcJ := 191) rfl L rfl rfl rfl ?_
      refine j_V.iaA mx0_M mx0_191 K rfl ?_
      refine j_V.isA mx0_M mx0_192 (k' := [(359, .inl (10, [.int th, .ref 360, .ref 361, .ref 362, .ref 363, .ref 364, .ref 365, .ref 366, .ref 367, (u 9), .int sst, (u 11), (u 12), .int acs, (u 14), (u 15), (u 16), (u 17), (u 18), (u 19), (u 20), (u 21), .ref 368, .int tm, .ref 369, .ref 370, .ref 371, (u 27)])), (360, .inr (.inl (0, (sA wn (196 + (nI i)) (gA od (nI i)))))), (362, .inr (.inl (0, sd))), (363, .inr (.inl (0, ot))), (364, .inr (.inl (0, kp))), (368, .inr (.inl (0, tk))), (369, .inr (.inl (0, od))), (370, .inr (.inl (0, be)))]) K rfl rfl (fun h K => ?_)
      refine j_V.inL mx0_M mx0_193 (i := 6) (kl' := [(0, .ref 359), (2, .int (gA w 203)), (5, .int v5), (6, .int ((nI i) + 1))]) (pcJ := 196) L rfl rfl rfl rfl (fun lv L => ?_)
      refine j_V.gto mx0_M mx0_196 (t := 169) rfl ?_
      rw [nI_one] at L
      rw [show (m_pw od (f + 1) i wn) = (m_pw od f (i + 1) (sA wn (196 + (nI i)) (gA od (nI i)))) from rfl] at kk
      exact ih (i + 1) _ (by omega) L K kk
theorem m_n1 {n : Nat} (h : n ≤ 5) : (nI n - 1).toInt < ((5 : Nat) : Int) := by
  have : ∀ j : Fin 6, (nI j.val - 1).toInt < ((5 : Nat) : Int) := by decide
  exact this ⟨n, by omega⟩
def m_rank (n : Nat) (th sst acs : Int32) (w kp od : List Int32) (x1 : Int32) : Int32 × Int32 × Int32 × Int32 × List Int32 × List Int32 := (if (m_rk22 w 5 0 x1 0 ((gA w 203) - 1) od).1 = 0 then (((m_refuse th sst 1).1), ((m_refuse th sst 1).2.1), ((m_refuse th sst 1).2.2), acs, w, kp) else (if ((m_rk22 w 5 0 x1 0 ((gA w 203) - 1) od).2.1) = 0 then (if ((m_rk22 w 5 0 x1 0 ((gA w 203) - 1) od).2.2.1) = (gA w 203) then (((m_refuse th sst 4).1), ((m_refuse th sst 4).2.1), ((m_refuse th sst 4).2.2), acs, w, kp) else (((m_gives th sst ((m_rk22 w 5 0 x1 0 ((gA w 203) - 1) od).2.2.1)).1), ((m_gives th sst ((m_rk22 w 5 0 x1 0 ((gA w 203) - 1) od).2.2.1)).2.1), ((m_gives th sst ((m_rk22 w 5 0 x1 0 ((gA w 203) - 1) od).2.2.1)).2.2), ((m_keeps acs w kp).2), (m_pw ((m_rk22 w 5 0 x1 0 ((gA w 203) - 1) od).2.2.2) n 0 w), ((m_keeps acs w kp).1))) else (((m_refuse th sst 1).1), ((m_refuse th sst 1).2.1), ((m_refuse th sst 1).2.2), acs, w, kp)))
set_option maxRecDepth 1000000 in
theorem mx0_ok {u : Nat → Value} {n d : Nat} {h h0 : J_H} {th sst acs tm x1 : Int32} {w sd ot kp tk od be : List Int32} {I J : List Int32 → Prop} (H : m_Inv n I J) (hI : I w) (K : KN h [(359, .inl (10, [.int th, .ref 360, .ref 361, .ref 362, .ref 363, .ref 364, .ref 365, .ref 366, .ref 367, (u 9), .int sst, (u 11), (u 12), .int acs, (u 14), (u 15), (u 16), (u 17), (u 18), (u 19), (u 20), (u 21), .ref 368, .int tm, .ref 369, .ref 370, .ref 371, (u 27)])), (360, .inr (.inl (0, w))), (362, .inr (.inl (0, sd))), (363, .inr (.inl (0, ot))), (364, .inr (.inl (0, kp))), (368, .inr (.inl (0, tk))), (369, .inr (.inl (0, od))), (370, .inr (.inl (0, be)))] h0) : j_V jP d 286 0 (lv_args 0 [.ref 359, .int x1]) [] h (fun rv h' => rv = some (.int (m_rank n th sst acs w kp od x1).1) ∧ ∃ od' : List Int32, KN h' [(359, .inl (10, [.int (m_rank n th sst acs w kp od x1).2.1, .ref 360, .ref 361, .ref 362, .ref 363, .ref 364, .ref 365, .ref 366, .ref 367, (u 9), .int (m_rank n th sst acs w kp od x1).2.2.1, (u 11), (u 12), .int (m_rank n th sst acs w kp od x1).2.2.2.1, (u 14), (u 15), (u 16), (u 17), (u 18), (u 19), (u 20), (u 21), .ref 368, .int tm, .ref 369, .ref 370, .ref 371, (u 27)])), (360, .inr (.inl (0, (m_rank n th sst acs w kp od x1).2.2.2.2.1))), (362, .inr (.inl (0, sd))), (363, .inr (.inl (0, ot))), (364, .inr (.inl (0, (m_rank n th sst acs w kp od x1).2.2.2.2.2))), (368, .inr (.inl (0, tk))), (369, .inr (.inl (0, od'))), (370, .inr (.inl (0, be)))] h0) := by
  show j_V jP d 286 0 [(0, .ref 359), (1, .int x1)] [] h _
  obtain ⟨lv, elv, L⟩ : ∃ lv, lv = [(0, .ref 359), (1, .int x1)] ∧ LK lv [(0, .ref 359), (1, .int x1)] := ⟨_, rfl, LK.rf⟩
  rw [← elv]
  clear elv
  refine j_V.ldL mx0_M mx0_0 rfl (i := 0) (kd := 2) (v := .ref 359) (pcJ := 1) rfl L rfl rfl rfl ?_
  refine j_V.getK mx0_M mx0_1 (ci := 10) (j := 1) rfl K rfl rfl ?_
  refine j_V.one mx0_M mx0_4 (by decide) (pcJ := 7) (stJ := [.int 203, .ref 360]) rfl ?_
  refine j_V.iaA mx0_M mx0_7 K rfl ?_
  refine j_V.stL mx0_M mx0_8 rfl (i := 2) (kd := 0) (kl' := [(0, .ref 359), (1, .int x1), (2, .int (gA w 203))]) (pcJ := 9) rfl L rfl (by decide) rfl rfl rfl (fun lv L => ?_)
  refine j_V.one mx0_M mx0_9 (by decide) (pcJ := 10) (stJ := [.int 0]) rfl ?_
  refine j_V.stL mx0_M mx0_10 rfl (i := 3) (kd := 0) (kl' := [(0, .ref 359), (1, .int x1), (2, .int (gA w 203)), (3, .int 0)]) (pcJ := 11) rfl L rfl (by decide) rfl rfl rfl (fun lv L => ?_)
  refine j_V.ldL mx0_M mx0_11 rfl (i := 1) (kd := 0) (v := .int x1) (pcJ := 12) rfl L rfl rfl rfl ?_
  refine j_V.stL mx0_M mx0_12 rfl (i := 4) (kd := 0) (kl' := [(0, .ref 359), (1, .int x1), (2, .int (gA w 203)), (3, .int 0), (4, .int x1)]) (pcJ := 14) rfl L rfl (by decide) rfl rfl rfl (fun lv L => ?_)
  refine j_V.one mx0_M mx0_14 (by decide) (pcJ := 15) (stJ := [.int 0]) rfl ?_
  refine j_V.stL mx0_M mx0_15 rfl (i := 5) (kd := 0) (kl' := [(0, .ref 359), (1, .int x1), (2, .int (gA w 203)), (3, .int 0), (4, .int x1), (5, .int 0)]) (pcJ := 17) rfl L rfl (by decide) rfl rfl rfl (fun lv L => ?_)
  refine j_V.ldL mx0_M mx0_17 rfl (i := 2) (kd := 0) (v := .int (gA w 203)) (pcJ := 18) rfl L rfl rfl rfl ?_
  refine j_V.one mx0_M mx0_18 (by decide) (pcJ := 19) (stJ := [.int 1, .int (gA w 203)]) rfl ?_
  refine j_V.one mx0_M mx0_19 (by decide) (pcJ := 20) (stJ := [.int ((gA w 203) - 1)]) rfl ?_
  refine j_V.stL mx0_M mx0_20 rfl (i := 6) (kd := 0) (kl' := [(0, .ref 359), (1, .int x1), (2, .int (gA w 203)), (3, .int 0), (4, .int x1), (5, .int 0), (6, .int ((gA w 203) - 1))]) (pcJ := 22) rfl L rfl (by decide) rfl rfl rfl (fun lv L => ?_)
  refine mx0_ok_l22 (n := n) 5 _ _ _ _ _ (by rw [(H.I1 _ hI).2]; exact m_n1 H.n5) L K (fun lv h e0 L K => ?_) (fun lv h e0 L K => ?_)
  · refine j_V.ldL mx0_M mx0_77 rfl (i := 0) (kd := 2) (v := .ref 359) (pcJ := 78) rfl L rfl rfl rfl ?_
    refine j_V.one mx0_M mx0_78 (by decide) (pcJ := 79) (stJ := [.int 1, .ref 359]) rfl ?_
    refine j_V.cl mx0_M mx0_79 rfl (md := 3) (mj := 169) rfl (by decide) mo0_M (As := [.ref 359, .int 1]) (rest := []) (jk_spl3 (K.at rfl) rfl rfl rfl (Nat.le_of_ble_eq_true rfl) (Nat.le_of_ble_eq_true rfl)) (fun d => mo0_ok (u := fun j => [.int th, .ref 360, .ref 361, .ref 362, .ref 363, .ref 364, .ref 365, .ref 366, .ref 367, (u 9), .int sst, (u 11), (u 12), .int acs, (u 14), (u 15), (u 16), (u 17), (u 18), (u 19), (u 20), (u 21), .ref 368, .int tm, .ref 369, .ref 370, .ref 371, (u 27)].getD j .null) (K.fi [359] rfl rfl)) ?_
    rintro r h9 ⟨rfl, K9⟩
    have K : KN h9 [(359, .inl (10, [.int ((m_refuse th sst 1).2.1), .ref 360, .ref 361, .ref 362, .ref 363, .ref 364, .ref 365, .ref 366, .ref 367, (u 9), .int ((m_refuse th sst 1).2.2), (u 11), (u 12), .int acs, (u 14), (u 15), (u 16), (u 17), (u 18), (u 19), (u 20), (u 21), .ref 368, .int tm, .ref 369, .ref 370, .ref 371, (u 27)])), (360, .inr (.inl (0, w))), (362, .inr (.inl (0, sd))), (363, .inr (.inl (0, ot))), (364, .inr (.inl (0, kp))), (368, .inr (.inl (0, tk))), (369, .inr (.inl (0, ((m_rk22 w 5 0 x1 0 ((gA w 203) - 1) od).2.2.2)))), (370, .inr (.inl (0, be)))] h0 := K.mg K9 rfl rfl
    clear K9
    show j_V jP _ 286 82 lv [.int ((m_refuse th sst 1).1)] h9 _
    refine j_V.ri mx0_M mx0_82 ?_
    rw [show (m_rank n th sst acs w kp od x1) = _ from ((if_pos e0).trans (rfl))]
    exact ⟨rfl, ((m_rk22 w 5 0 x1 0 ((gA w 203) - 1) od).2.2.2), K⟩
  · have e9 : ¬ (m_rk22 w 5 0 x1 0 ((gA w 203) - 1) od).1 = 0 := by rw [e0]; decide
    refine j_V.ldL mx0_M mx0_139 rfl (i := 4) (kd := 0) (v := .int ((m_rk22 w 5 0 x1 0 ((gA w 203) - 1) od).2.1)) (pcJ := 141) rfl L rfl rfl rfl ?_
    refine j_V.ifc mx0_M mx0_141 (t := 150) rfl (fun c141_1 => ?_) (fun c141_1 => ?_)
    · replace c141_1 : ((m_rk22 w 5 0 x1 0 ((gA w 203) - 1) od).2.1) = 0 := jd_eq c141_1
      refine j_V.ldL mx0_M mx0_150 rfl (i := 5) (kd := 0) (v := .int ((m_rk22 w 5 0 x1 0 ((gA w 203) - 1) od).2.2.1)) (pcJ := 152) rfl L rfl rfl rfl ?_
      refine j_V.ldL mx0_M mx0_152 rfl (i := 2) (kd := 0) (v := .int (gA w 203)) (pcJ := 153) rfl L rfl rfl rfl ?_
      refine j_V.icmp mx0_M mx0_153 (t := 162) rfl (fun c153_2 => ?_) (fun c153_2 => ?_)
      · replace c153_2 : ¬ (((m_rk22 w 5 0 x1 0 ((gA w 203) - 1) od).2.2.1) = (gA w 203)) := jd_ne c153_2
        refine j_V.ldL mx0_M mx0_162 rfl (i := 0) (kd := 2) (v := .ref 359) (pcJ := 163) rfl L rfl rfl rfl ?_
        refine j_V.cl mx0_M mx0_163 rfl (md := 3) (mj := 281) rfl (by decide) mo2_M (As := [.ref 359]) (rest := []) (jk_spl3 (K.at rfl) rfl rfl rfl (Nat.le_of_ble_eq_true rfl) (Nat.le_of_ble_eq_true rfl)) (fun d => mo2_ok (u := fun j => [.int th, .ref 360, .ref 361, .ref 362, .ref 363, .ref 364, .ref 365, .ref 366, .ref 367, (u 9), .int sst, (u 11), (u 12), .int acs, (u 14), (u 15), (u 16), (u 17), (u 18), (u 19), (u 20), (u 21), .ref 368, .int tm, .ref 369, .ref 370, .ref 371, (u 27)].getD j .null) (K.fi [359, 360, 364] rfl rfl)) ?_
        rintro r h9 ⟨rfl, K9⟩
        have K : KN h9 [(359, .inl (10, [.int th, .ref 360, .ref 361, .ref 362, .ref 363, .ref 364, .ref 365, .ref 366, .ref 367, (u 9), .int sst, (u 11), (u 12), .int ((m_keeps acs w kp).2), (u 14), (u 15), (u 16), (u 17), (u 18), (u 19), (u 20), (u 21), .ref 368, .int tm, .ref 369, .ref 370, .ref 371, (u 27)])), (360, .inr (.inl (0, w))), (362, .inr (.inl (0, sd))), (363, .inr (.inl (0, ot))), (364, .inr (.inl (0, ((m_keeps acs w kp).1)))), (368, .inr (.inl (0, tk))), (369, .inr (.inl (0, ((m_rk22 w 5 0 x1 0 ((gA w 203) - 1) od).2.2.2)))), (370, .inr (.inl (0, be)))] h0 := K.mg K9 rfl rfl
        clear K9
        show j_V jP _ 286 166 lv [] h9 _
        refine j_V.one mx0_M mx0_166 (by decide) (pcJ := 167) (stJ := [.int 0]) rfl ?_
        refine j_V.stL mx0_M mx0_167 rfl (i := 6) (kd := 0) (kl' := [(0, .ref 359), (2, .int (gA w 203)), (4, .int ((m_rk22 w 5 0 x1 0 ((gA w 203) - 1) od).2.1)), (5, .int ((m_rk22 w 5 0 x1 0 ((gA w 203) - 1) od).2.2.1)), (6, .int 0)]) (pcJ := 169) rfl L rfl (by decide) rfl rfl rfl (fun lv L => ?_)
        refine mx0_ok_l169 H hI n 0 _ (Nat.zero_add n) (L.sub ⟨rfl, rfl, rfl, rfl, trivial⟩) K (fun lv h L K => ?_)
        refine j_V.ldL mx0_M mx0_199 rfl (i := 0) (kd := 2) (v := .ref 359) (pcJ := 200) rfl L rfl rfl rfl ?_
        refine j_V.ldL mx0_M mx0_200 rfl (i := 5) (kd := 0) (v := .int ((m_rk22 w 5 0 x1 0 ((gA w 203) - 1) od).2.2.1)) (pcJ := 202) rfl L rfl rfl rfl ?_
        refine j_V.cl mx0_M mx0_202 rfl (md := 3) (mj := 170) rfl (by decide) mo1_M (As := [.ref 359, .int ((m_rk22 w 5 0 x1 0 ((gA w 203) - 1) od).2.2.1)]) (rest := []) (jk_spl3 (K.at rfl) rfl rfl rfl (Nat.le_of_ble_eq_true rfl) (Nat.le_of_ble_eq_true rfl)) (fun d => mo1_ok (u := fun j => [.int th, .ref 360, .ref 361, .ref 362, .ref 363, .ref 364, .ref 365, .ref 366, .ref 367, (u 9), .int sst, (u 11), (u 12), .int ((m_keeps acs w kp).2), (u 14), (u 15), (u 16), (u 17), (u 18), (u 19), (u 20), (u 21), .ref 368, .int tm, .ref 369, .ref 370, .ref 371, (u 27)].getD j .null) (K.fi [359] rfl rfl)) ?_
        rintro r h9 ⟨rfl, K9⟩
        have K : KN h9 [(359, .inl (10, [.int ((m_gives th sst ((m_rk22 w 5 0 x1 0 ((gA w 203) - 1) od).2.2.1)).2.1), .ref 360, .ref 361, .ref 362, .ref 363, .ref 364, .ref 365, .ref 366, .ref 367, (u 9), .int ((m_gives th sst ((m_rk22 w 5 0 x1 0 ((gA w 203) - 1) od).2.2.1)).2.2), (u 11), (u 12), .int ((m_keeps acs w kp).2), (u 14), (u 15), (u 16), (u 17), (u 18), (u 19), (u 20), (u 21), .ref 368, .int tm, .ref 369, .ref 370, .ref 371, (u 27)])), (360, .inr (.inl (0, (m_pw ((m_rk22 w 5 0 x1 0 ((gA w 203) - 1) od).2.2.2) n 0 w)))), (362, .inr (.inl (0, sd))), (363, .inr (.inl (0, ot))), (364, .inr (.inl (0, ((m_keeps acs w kp).1)))), (368, .inr (.inl (0, tk))), (369, .inr (.inl (0, ((m_rk22 w 5 0 x1 0 ((gA w 203) - 1) od).2.2.2)))), (370, .inr (.inl (0, be)))] h0 := K.mg K9 rfl rfl
        clear K9
        show j_V jP _ 286 205 lv [.int ((m_gives th sst ((m_rk22 w 5 0 x1 0 ((gA w 203) - 1) od).2.2.1)).1)] h9 _
        refine j_V.ri mx0_M mx0_205 ?_
        rw [show (m_rank n th sst acs w kp od x1) = _ from ((if_neg e9).trans ((if_pos c141_1).trans ((if_neg c153_2).trans (rfl))))]
        exact ⟨rfl, ((m_rk22 w 5 0 x1 0 ((gA w 203) - 1) od).2.2.2), K⟩
      · replace c153_2 : ((m_rk22 w 5 0 x1 0 ((gA w 203) - 1) od).2.2.1) = (gA w 203) := jd_nen c153_2
        refine j_V.ldL mx0_M mx0_156 rfl (i := 0) (kd := 2) (v := .ref 359) (pcJ := 157) rfl L rfl rfl rfl ?_
        refine j_V.one mx0_M mx0_157 (by decide) (pcJ := 158) (stJ := [.int 4, .ref 359]) rfl ?_
        refine j_V.cl mx0_M mx0_158 rfl (md := 3) (mj := 169) rfl (by decide) mo0_M (As := [.ref 359, .int 4]) (rest := []) (jk_spl3 (K.at rfl) rfl rfl rfl (Nat.le_of_ble_eq_true rfl) (Nat.le_of_ble_eq_true rfl)) (fun d => mo0_ok (u := fun j => [.int th, .ref 360, .ref 361, .ref 362, .ref 363, .ref 364, .ref 365, .ref 366, .ref 367, (u 9), .int sst, (u 11), (u 12), .int acs, (u 14), (u 15), (u 16), (u 17), (u 18), (u 19), (u 20), (u 21), .ref 368, .int tm, .ref 369, .ref 370, .ref 371, (u 27)].getD j .null) (K.fi [359] rfl rfl)) ?_
        rintro r h9 ⟨rfl, K9⟩
        have K : KN h9 [(359, .inl (10, [.int ((m_refuse th sst 4).2.1), .ref 360, .ref 361, .ref 362, .ref 363, .ref 364, .ref 365, .ref 366, .ref 367, (u 9), .int ((m_refuse th sst 4).2.2), (u 11), (u 12), .int acs, (u 14), (u 15), (u 16), (u 17), (u 18), (u 19), (u 20), (u 21), .ref 368, .int tm, .ref 369, .ref 370, .ref 371, (u 27)])), (360, .inr (.inl (0, w))), (362, .inr (.inl (0, sd))), (363, .inr (.inl (0, ot))), (364, .inr (.inl (0, kp))), (368, .inr (.inl (0, tk))), (369, .inr (.inl (0, ((m_rk22 w 5 0 x1 0 ((gA w 203) - 1) od).2.2.2)))), (370, .inr (.inl (0, be)))] h0 := K.mg K9 rfl rfl
        clear K9
        show j_V jP _ 286 161 lv [.int ((m_refuse th sst 4).1)] h9 _
        refine j_V.ri mx0_M mx0_161 ?_
        rw [show (m_rank n th sst acs w kp od x1) = _ from ((if_neg e9).trans ((if_pos c141_1).trans ((if_pos c153_2).trans (rfl))))]
        exact ⟨rfl, ((m_rk22 w 5 0 x1 0 ((gA w 203) - 1) od).2.2.2), K⟩
    · replace c141_1 : ¬ (((m_rk22 w 5 0 x1 0 ((gA w 203) - 1) od).2.1) = 0) := jd_eqn c141_1
      refine j_V.ldL mx0_M mx0_144 rfl (i := 0) (kd := 2) (v := .ref 359) (pcJ := 145) rfl L rfl rfl rfl ?_
      refine j_V.one mx0_M mx0_145 (by decide) (pcJ := 146) (stJ := [.int 1, .ref 359]) rfl ?_
      refine j_V.cl mx0_M mx0_146 rfl (md := 3) (mj := 169) rfl (by decide) mo0_M (As := [.ref 359, .int 1]) (rest := []) (jk_spl3 (K.at rfl) rfl rfl rfl (Nat.le_of_ble_eq_true rfl) (Nat.le_of_ble_eq_true rfl)) (fun d => mo0_ok (u := fun j => [.int th, .ref 360, .ref 361, .ref 362, .ref 363, .ref 364, .ref 365, .ref 366, .ref 367, (u 9), .int sst, (u 11), (u 12), .int acs, (u 14), (u 15), (u 16), (u 17), (u 18), (u 19), (u 20), (u 21), .ref 368, .int tm, .ref 369, .ref 370, .ref 371, (u 27)].getD j .null) (K.fi [359] rfl rfl)) ?_
      rintro r h9 ⟨rfl, K9⟩
      have K : KN h9 [(359, .inl (10, [.int ((m_refuse th sst 1).2.1), .ref 360, .ref 361, .ref 362, .ref 363, .ref 364, .ref 365, .ref 366, .ref 367, (u 9), .int ((m_refuse th sst 1).2.2), (u 11), (u 12), .int acs, (u 14), (u 15), (u 16), (u 17), (u 18), (u 19), (u 20), (u 21), .ref 368, .int tm, .ref 369, .ref 370, .ref 371, (u 27)])), (360, .inr (.inl (0, w))), (362, .inr (.inl (0, sd))), (363, .inr (.inl (0, ot))), (364, .inr (.inl (0, kp))), (368, .inr (.inl (0, tk))), (369, .inr (.inl (0, ((m_rk22 w 5 0 x1 0 ((gA w 203) - 1) od).2.2.2)))), (370, .inr (.inl (0, be)))] h0 := K.mg K9 rfl rfl
      clear K9
      show j_V jP _ 286 149 lv [.int ((m_refuse th sst 1).1)] h9 _
      refine j_V.ri mx0_M mx0_149 ?_
      rw [show (m_rank n th sst acs w kp od x1) = _ from ((if_neg e9).trans ((if_neg c141_1).trans (rfl)))]
      exact ⟨rfl, ((m_rk22 w 5 0 x1 0 ((gA w 203) - 1) od).2.2.2), K⟩

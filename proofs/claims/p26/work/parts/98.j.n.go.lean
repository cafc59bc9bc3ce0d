/-! the reference's scanner: written by wip/jk/gen_go.py -/
set_option maxRecDepth 100000 in
theorem mb_M : j_meth jP 182 = some (yX10_byteAt, cX10_byteAt, 2, (some .int), 1, false, 10) := rfl
set_option maxRecDepth 100000 in
theorem mb_0 : j_code jP 182 0 = some (.iload_n 1) := rfl
set_option maxRecDepth 100000 in
theorem mb_1 : j_code jP 182 1 = some (.aload_n 0) := rfl
set_option maxRecDepth 100000 in
theorem mb_2 : j_code jP 182 2 = some (.getfield 83) := rfl
set_option maxRecDepth 100000 in
theorem mb_5 : j_code jP 182 5 = some (.if_icmp .ge 12) := rfl
set_option maxRecDepth 100000 in
theorem mb_8 : j_code jP 182 8 = some (.aload_n 0) := rfl
set_option maxRecDepth 100000 in
theorem mb_9 : j_code jP 182 9 = some (.getfield 25) := rfl
set_option maxRecDepth 100000 in
theorem mb_12 : j_code jP 182 12 = some (.iload_n 1) := rfl
set_option maxRecDepth 100000 in
theorem mb_13 : j_code jP 182 13 = some (.iaload) := rfl
set_option maxRecDepth 100000 in
theorem mb_14 : j_code jP 182 14 = some (.goto 4) := rfl
set_option maxRecDepth 100000 in
theorem mb_17 : j_code jP 182 17 = some (.iconst (-1)) := rfl
set_option maxRecDepth 100000 in
theorem mb_18 : j_code jP 182 18 = some (.ireturn) := rfl
theorem mb_ok {u : Nat → Value} {kd fr nu fa pa : Int32} {wo : Int64} {e : Nat} {m : List Int32} {to : Int32} {d p : Nat} {h h0 : J_H} (hm : m.length = 700) (he : e ≤ 700) (hp : p ≤ e) (K : KN h [(359, .inl (10, [(u 0), (u 1), .ref 361, (u 3), (u 4), (u 5), .ref 365, (u 7), .ref 367, (u 9), (u 10), (u 11), (u 12), (u 13), .int (nI e), .int fr, .int to, .int kd, .int nu, .int fa, .int pa, .long wo, (u 22), (u 23), (u 24), (u 25), (u 26), (u 27)])), (365, .inr (.inl (0, m)))] h0) : j_W jP d 182 0 (lv_args 0 [.ref 359, .int (nI p)]) [] h (fun rv h' => rv = some (.int (bA m e p)) ∧ h' = h) := by
  show j_W jP d 182 0 [(0, .ref 359), (1, .int (nI p))] [] h _
  refine j_W.one mb_M mb_0 (by decide) (pcJ := 1) (stJ := [.int (nI p)]) rfl ?_
  refine j_W.one mb_M mb_1 (by decide) (pcJ := 2) (stJ := [.ref 359, .int (nI p)]) rfl ?_
  refine j_W.getK mb_M mb_2 (ci := 10) (j := 14) rfl K rfl rfl ?_
  refine j_W.icmp mb_M mb_5 (t := 17) rfl (fun c => ?_) (fun c => ?_)
  · rw [jk_ge] at c; have c := of_decide_eq_true c; rw [nI_toInt (by omega), nI_toInt (by omega)] at c
    refine j_W.one mb_M mb_17 (by decide) (pcJ := 18) (stJ := [.int (-1)]) rfl ?_
    refine j_W.ret mb_M mb_18 rfl rfl ⟨by rw [bA_no (by omega)], rfl⟩
  · rw [jk_ge] at c; have c := of_decide_eq_false c; rw [nI_toInt (by omega), nI_toInt (by omega)] at c; rw [bA_in (by omega)]
    refine j_W.one mb_M mb_8 (by decide) (pcJ := 9) (stJ := [.ref 359]) rfl ?_
    refine j_W.getK mb_M mb_9 (ci := 10) (j := 6) rfl K rfl rfl ?_
    refine j_W.one mb_M mb_12 (by decide) (pcJ := 13) (stJ := [.int (nI p), .ref 365]) rfl ?_
    refine j_W.ialdK mb_M mb_13 K rfl (n := p) (by omega) (by omega) ?_
    refine j_W.gto mb_M mb_14 (t := 18) rfl ?_
    refine j_W.ret mb_M mb_18 rfl rfl ⟨rfl, rfl⟩
set_option maxRecDepth 100000 in
theorem mc_M : j_meth jP 183 = some (yX10_isLetter, cX10_isLetter, 1, (some .boolean), 1, false, 10) := rfl
set_option maxRecDepth 100000 in
theorem mc_0 : j_code jP 183 0 = some (.iload_n 0) := rfl
set_option maxRecDepth 100000 in
theorem mc_1 : j_code jP 183 1 = some (.bipush 97) := rfl
set_option maxRecDepth 100000 in
theorem mc_3 : j_code jP 183 3 = some (.if_icmp .lt 13) := rfl
set_option maxRecDepth 100000 in
theorem mc_6 : j_code jP 183 6 = some (.iload_n 0) := rfl
set_option maxRecDepth 100000 in
theorem mc_7 : j_code jP 183 7 = some (.bipush 122) := rfl
set_option maxRecDepth 100000 in
theorem mc_9 : j_code jP 183 9 = some (.if_icmp .gt 7) := rfl
set_option maxRecDepth 100000 in
theorem mc_12 : j_code jP 183 12 = some (.iconst 1) := rfl
set_option maxRecDepth 100000 in
theorem mc_13 : j_code jP 183 13 = some (.goto 4) := rfl
set_option maxRecDepth 100000 in
theorem mc_16 : j_code jP 183 16 = some (.iconst 0) := rfl
set_option maxRecDepth 100000 in
theorem mc_17 : j_code jP 183 17 = some (.ireturn) := rfl
theorem mc_ok {d : Nat} {v : Int32} {h : J_H} : j_W jP d 183 0 (lv_args 0 [.int v]) [] h (fun rv h' => rv = some (.int (bif sL v.toInt then 1 else 0)) ∧ h' = h) := by
  show j_W jP d 183 0 [(0, .int v)] [] h _
  refine j_W.one mc_M mc_0 (by decide) (pcJ := 1) (stJ := [.int v]) rfl ?_
  refine j_W.one mc_M mc_1 (by decide) (pcJ := 3) (stJ := [.int 97, .int v]) rfl ?_
  refine j_W.icmp mc_M mc_3 (t := 16) rfl (fun c => ?_) (fun c => ?_)
  · refine j_W.one mc_M mc_16 (by decide) (pcJ := 17) (stJ := [.int 0]) rfl ?_
    refine j_W.ret mc_M mc_17 rfl rfl ⟨by rw [sL_lo c]; rfl, rfl⟩
  · have c1 := c
    refine j_W.one mc_M mc_6 (by decide) (pcJ := 7) (stJ := [.int v]) rfl ?_
    refine j_W.one mc_M mc_7 (by decide) (pcJ := 9) (stJ := [.int 122, .int v]) rfl ?_
    refine j_W.icmp mc_M mc_9 (t := 16) rfl (fun c => ?_) (fun c => ?_)
    · refine j_W.one mc_M mc_16 (by decide) (pcJ := 17) (stJ := [.int 0]) rfl ?_
      refine j_W.ret mc_M mc_17 rfl rfl ⟨by rw [sL_hi c]; rfl, rfl⟩
    · refine j_W.one mc_M mc_12 (by decide) (pcJ := 13) (stJ := [.int 1]) rfl ?_
      refine j_W.gto mc_M mc_13 (t := 17) rfl ?_
      refine j_W.ret mc_M mc_17 rfl rfl ⟨by rw [sL_in c1 c]; rfl, rfl⟩
set_option maxRecDepth 100000 in
theorem md_M : j_meth jP 184 = some (yX10_isDigit, cX10_isDigit, 1, (some .boolean), 1, false, 10) := rfl
set_option maxRecDepth 100000 in
theorem md_0 : j_code jP 184 0 = some (.iload_n 0) := rfl
set_option maxRecDepth 100000 in
theorem md_1 : j_code jP 184 1 = some (.bipush 48) := rfl
set_option maxRecDepth 100000 in
theorem md_3 : j_code jP 184 3 = some (.if_icmp .lt 13) := rfl
set_option maxRecDepth 100000 in
theorem md_6 : j_code jP 184 6 = some (.iload_n 0) := rfl
set_option maxRecDepth 100000 in
theorem md_7 : j_code jP 184 7 = some (.bipush 57) := rfl
set_option maxRecDepth 100000 in
theorem md_9 : j_code jP 184 9 = some (.if_icmp .gt 7) := rfl
set_option maxRecDepth 100000 in
theorem md_12 : j_code jP 184 12 = some (.iconst 1) := rfl
set_option maxRecDepth 100000 in
theorem md_13 : j_code jP 184 13 = some (.goto 4) := rfl
set_option maxRecDepth 100000 in
theorem md_16 : j_code jP 184 16 = some (.iconst 0) := rfl
set_option maxRecDepth 100000 in
theorem md_17 : j_code jP 184 17 = some (.ireturn) := rfl
theorem md_ok {d : Nat} {v : Int32} {h : J_H} : j_W jP d 184 0 (lv_args 0 [.int v]) [] h (fun rv h' => rv = some (.int (bif sD v.toInt then 1 else 0)) ∧ h' = h) := by
  show j_W jP d 184 0 [(0, .int v)] [] h _
  refine j_W.one md_M md_0 (by decide) (pcJ := 1) (stJ := [.int v]) rfl ?_
  refine j_W.one md_M md_1 (by decide) (pcJ := 3) (stJ := [.int 48, .int v]) rfl ?_
  refine j_W.icmp md_M md_3 (t := 16) rfl (fun c => ?_) (fun c => ?_)
  · refine j_W.one md_M md_16 (by decide) (pcJ := 17) (stJ := [.int 0]) rfl ?_
    refine j_W.ret md_M md_17 rfl rfl ⟨by rw [sD_lo c]; rfl, rfl⟩
  · have c1 := c
    refine j_W.one md_M md_6 (by decide) (pcJ := 7) (stJ := [.int v]) rfl ?_
    refine j_W.one md_M md_7 (by decide) (pcJ := 9) (stJ := [.int 57, .int v]) rfl ?_
    refine j_W.icmp md_M md_9 (t := 16) rfl (fun c => ?_) (fun c => ?_)
    · refine j_W.one md_M md_16 (by decide) (pcJ := 17) (stJ := [.int 0]) rfl ?_
      refine j_W.ret md_M md_17 rfl rfl ⟨by rw [sD_hi c]; rfl, rfl⟩
    · refine j_W.one md_M md_12 (by decide) (pcJ := 13) (stJ := [.int 1]) rfl ?_
      refine j_W.gto md_M md_13 (t := 17) rfl ?_
      refine j_W.ret md_M md_17 rfl rfl ⟨by rw [sD_in c1 c]; rfl, rfl⟩
set_option maxRecDepth 100000 in
theorem mg_M : j_meth jP 185 = some (yX10_go, cX10_go, 2, none, 0, false, 10) := rfl
set_option maxRecDepth 100000 in
theorem mg_0 : j_code jP 185 0 = some (.aload_n 0) := rfl
set_option maxRecDepth 100000 in
theorem mg_1 : j_code jP 185 1 = some (.aload_n 0) := rfl
set_option maxRecDepth 100000 in
theorem mg_2 : j_code jP 185 2 = some (.getfield 86) := rfl
set_option maxRecDepth 100000 in
theorem mg_5 : j_code jP 185 5 = some (.invokevirtual 89) := rfl
set_option maxRecDepth 100000 in
theorem mg_8 : j_code jP 185 8 = some (.bipush 32) := rfl
set_option maxRecDepth 100000 in
theorem mg_10 : j_code jP 185 10 = some (.if_icmp .eq 16) := rfl
set_option maxRecDepth 100000 in
theorem mg_13 : j_code jP 185 13 = some (.aload_n 0) := rfl
set_option maxRecDepth 100000 in
theorem mg_14 : j_code jP 185 14 = some (.aload_n 0) := rfl
set_option maxRecDepth 100000 in
theorem mg_15 : j_code jP 185 15 = some (.getfield 86) := rfl
set_option maxRecDepth 100000 in
theorem mg_18 : j_code jP 185 18 = some (.invokevirtual 89) := rfl
set_option maxRecDepth 100000 in
theorem mg_21 : j_code jP 185 21 = some (.bipush 10) := rfl
set_option maxRecDepth 100000 in
theorem mg_23 : j_code jP 185 23 = some (.if_icmp .ne 16) := rfl
set_option maxRecDepth 100000 in
theorem mg_26 : j_code jP 185 26 = some (.aload_n 0) := rfl
set_option maxRecDepth 100000 in
theorem mg_27 : j_code jP 185 27 = some (.dup) := rfl
set_option maxRecDepth 100000 in
theorem mg_28 : j_code jP 185 28 = some (.getfield 86) := rfl
set_option maxRecDepth 100000 in
theorem mg_31 : j_code jP 185 31 = some (.iconst 1) := rfl
set_option maxRecDepth 100000 in
theorem mg_32 : j_code jP 185 32 = some (.iadd) := rfl
set_option maxRecDepth 100000 in
theorem mg_33 : j_code jP 185 33 = some (.putfield 86) := rfl
set_option maxRecDepth 100000 in
theorem mg_36 : j_code jP 185 36 = some (.goto (-36)) := rfl
set_option maxRecDepth 100000 in
theorem mg_39 : j_code jP 185 39 = some (.aload_n 0) := rfl
set_option maxRecDepth 100000 in
theorem mg_40 : j_code jP 185 40 = some (.aload_n 0) := rfl
set_option maxRecDepth 100000 in
theorem mg_41 : j_code jP 185 41 = some (.getfield 86) := rfl
set_option maxRecDepth 100000 in
theorem mg_44 : j_code jP 185 44 = some (.putfield 93) := rfl
set_option maxRecDepth 100000 in
theorem mg_47 : j_code jP 185 47 = some (.aload_n 0) := rfl
set_option maxRecDepth 100000 in
theorem mg_48 : j_code jP 185 48 = some (.aload_n 0) := rfl
set_option maxRecDepth 100000 in
theorem mg_49 : j_code jP 185 49 = some (.getfield 86) := rfl
set_option maxRecDepth 100000 in
theorem mg_52 : j_code jP 185 52 = some (.invokevirtual 89) := rfl
set_option maxRecDepth 100000 in
theorem mg_55 : j_code jP 185 55 = some (.istore_n 1) := rfl
set_option maxRecDepth 100000 in
theorem mg_56 : j_code jP 185 56 = some (.iload_n 1) := rfl
set_option maxRecDepth 100000 in
theorem mg_57 : j_code jP 185 57 = some (.iconst (-1)) := rfl
set_option maxRecDepth 100000 in
theorem mg_58 : j_code jP 185 58 = some (.if_icmp .ne 11) := rfl
set_option maxRecDepth 100000 in
theorem mg_61 : j_code jP 185 61 = some (.aload_n 0) := rfl
set_option maxRecDepth 100000 in
theorem mg_62 : j_code jP 185 62 = some (.iconst 0) := rfl
set_option maxRecDepth 100000 in
theorem mg_63 : j_code jP 185 63 = some (.putfield 96) := rfl
set_option maxRecDepth 100000 in
theorem mg_66 : j_code jP 185 66 = some (.goto 231) := rfl
set_option maxRecDepth 100000 in
theorem mg_69 : j_code jP 185 69 = some (.iload_n 1) := rfl
set_option maxRecDepth 100000 in
theorem mg_70 : j_code jP 185 70 = some (.invokestatic 99) := rfl
set_option maxRecDepth 100000 in
theorem mg_73 : j_code jP 185 73 = some (.ifCond .eq 99) := rfl
set_option maxRecDepth 100000 in
theorem mg_76 : j_code jP 185 76 = some (.aload_n 0) := rfl
set_option maxRecDepth 100000 in
theorem mg_77 : j_code jP 185 77 = some (.lconst 0) := rfl
set_option maxRecDepth 100000 in
theorem mg_78 : j_code jP 185 78 = some (.putfield 102) := rfl
set_option maxRecDepth 100000 in
theorem mg_81 : j_code jP 185 81 = some (.aload_n 0) := rfl
set_option maxRecDepth 100000 in
theorem mg_82 : j_code jP 185 82 = some (.aload_n 0) := rfl
set_option maxRecDepth 100000 in
theorem mg_83 : j_code jP 185 83 = some (.getfield 86) := rfl
set_option maxRecDepth 100000 in
theorem mg_86 : j_code jP 185 86 = some (.invokevirtual 89) := rfl
set_option maxRecDepth 100000 in
theorem mg_89 : j_code jP 185 89 = some (.invokestatic 99) := rfl
set_option maxRecDepth 100000 in
theorem mg_92 : j_code jP 185 92 = some (.ifCond .eq 54) := rfl
set_option maxRecDepth 100000 in
theorem mg_95 : j_code jP 185 95 = some (.aload_n 0) := rfl
set_option maxRecDepth 100000 in
theorem mg_96 : j_code jP 185 96 = some (.getfield 86) := rfl
set_option maxRecDepth 100000 in
theorem mg_99 : j_code jP 185 99 = some (.aload_n 0) := rfl
set_option maxRecDepth 100000 in
theorem mg_100 : j_code jP 185 100 = some (.getfield 93) := rfl
set_option maxRecDepth 100000 in
theorem mg_103 : j_code jP 185 103 = some (.isub) := rfl
set_option maxRecDepth 100000 in
theorem mg_104 : j_code jP 185 104 = some (.bipush 8) := rfl
set_option maxRecDepth 100000 in
theorem mg_106 : j_code jP 185 106 = some (.if_icmp .ge 27) := rfl
set_option maxRecDepth 100000 in
theorem mg_109 : j_code jP 185 109 = some (.aload_n 0) := rfl
set_option maxRecDepth 100000 in
theorem mg_110 : j_code jP 185 110 = some (.aload_n 0) := rfl
set_option maxRecDepth 100000 in
theorem mg_111 : j_code jP 185 111 = some (.getfield 102) := rfl
set_option maxRecDepth 100000 in
theorem mg_114 : j_code jP 185 114 = some (.iconst 5) := rfl
set_option maxRecDepth 100000 in
theorem mg_115 : j_code jP 185 115 = some (.lshl) := rfl
set_option maxRecDepth 100000 in
theorem mg_116 : j_code jP 185 116 = some (.aload_n 0) := rfl
set_option maxRecDepth 100000 in
theorem mg_117 : j_code jP 185 117 = some (.aload_n 0) := rfl
set_option maxRecDepth 100000 in
theorem mg_118 : j_code jP 185 118 = some (.getfield 86) := rfl
set_option maxRecDepth 100000 in
theorem mg_121 : j_code jP 185 121 = some (.invokevirtual 89) := rfl
set_option maxRecDepth 100000 in
theorem mg_124 : j_code jP 185 124 = some (.i2l) := rfl
set_option maxRecDepth 100000 in
theorem mg_125 : j_code jP 185 125 = some (.ldc2_w 106) := rfl
set_option maxRecDepth 100000 in
theorem mg_128 : j_code jP 185 128 = some (.lsub) := rfl
set_option maxRecDepth 100000 in
theorem mg_129 : j_code jP 185 129 = some (.lor) := rfl
set_option maxRecDepth 100000 in
theorem mg_130 : j_code jP 185 130 = some (.putfield 102) := rfl
set_option maxRecDepth 100000 in
theorem mg_133 : j_code jP 185 133 = some (.aload_n 0) := rfl
set_option maxRecDepth 100000 in
theorem mg_134 : j_code jP 185 134 = some (.dup) := rfl
set_option maxRecDepth 100000 in
theorem mg_135 : j_code jP 185 135 = some (.getfield 86) := rfl
set_option maxRecDepth 100000 in
theorem mg_138 : j_code jP 185 138 = some (.iconst 1) := rfl
set_option maxRecDepth 100000 in
theorem mg_139 : j_code jP 185 139 = some (.iadd) := rfl
set_option maxRecDepth 100000 in
theorem mg_140 : j_code jP 185 140 = some (.putfield 86) := rfl
set_option maxRecDepth 100000 in
theorem mg_143 : j_code jP 185 143 = some (.goto (-62)) := rfl
set_option maxRecDepth 100000 in
theorem mg_146 : j_code jP 185 146 = some (.aload_n 0) := rfl
set_option maxRecDepth 100000 in
theorem mg_147 : j_code jP 185 147 = some (.aload_n 0) := rfl
set_option maxRecDepth 100000 in
theorem mg_148 : j_code jP 185 148 = some (.getfield 86) := rfl
set_option maxRecDepth 100000 in
theorem mg_151 : j_code jP 185 151 = some (.aload_n 0) := rfl
set_option maxRecDepth 100000 in
theorem mg_152 : j_code jP 185 152 = some (.getfield 93) := rfl
set_option maxRecDepth 100000 in
theorem mg_155 : j_code jP 185 155 = some (.isub) := rfl
set_option maxRecDepth 100000 in
theorem mg_156 : j_code jP 185 156 = some (.bipush 8) := rfl
set_option maxRecDepth 100000 in
theorem mg_158 : j_code jP 185 158 = some (.if_icmp .le 7) := rfl
set_option maxRecDepth 100000 in
theorem mg_161 : j_code jP 185 161 = some (.iconst 1) := rfl
set_option maxRecDepth 100000 in
theorem mg_162 : j_code jP 185 162 = some (.goto 4) := rfl
set_option maxRecDepth 100000 in
theorem mg_165 : j_code jP 185 165 = some (.iconst 2) := rfl
set_option maxRecDepth 100000 in
theorem mg_166 : j_code jP 185 166 = some (.putfield 96) := rfl
set_option maxRecDepth 100000 in
theorem mg_169 : j_code jP 185 169 = some (.goto 128) := rfl
set_option maxRecDepth 100000 in
theorem mg_172 : j_code jP 185 172 = some (.iload_n 1) := rfl
set_option maxRecDepth 100000 in
theorem mg_173 : j_code jP 185 173 = some (.invokestatic 108) := rfl
set_option maxRecDepth 100000 in
theorem mg_176 : j_code jP 185 176 = some (.ifCond .eq 96) := rfl
set_option maxRecDepth 100000 in
theorem mg_179 : j_code jP 185 179 = some (.aload_n 0) := rfl
set_option maxRecDepth 100000 in
theorem mg_180 : j_code jP 185 180 = some (.iconst 0) := rfl
set_option maxRecDepth 100000 in
theorem mg_181 : j_code jP 185 181 = some (.putfield 111) := rfl
set_option maxRecDepth 100000 in
theorem mg_184 : j_code jP 185 184 = some (.aload_n 0) := rfl
set_option maxRecDepth 100000 in
theorem mg_185 : j_code jP 185 185 = some (.aload_n 0) := rfl
set_option maxRecDepth 100000 in
theorem mg_186 : j_code jP 185 186 = some (.getfield 86) := rfl
set_option maxRecDepth 100000 in
theorem mg_189 : j_code jP 185 189 = some (.invokevirtual 89) := rfl
set_option maxRecDepth 100000 in
theorem mg_192 : j_code jP 185 192 = some (.invokestatic 108) := rfl
set_option maxRecDepth 100000 in
theorem mg_195 : j_code jP 185 195 = some (.ifCond .eq 52) := rfl
set_option maxRecDepth 100000 in
theorem mg_198 : j_code jP 185 198 = some (.aload_n 0) := rfl
set_option maxRecDepth 100000 in
theorem mg_199 : j_code jP 185 199 = some (.getfield 86) := rfl
set_option maxRecDepth 100000 in
theorem mg_202 : j_code jP 185 202 = some (.aload_n 0) := rfl
set_option maxRecDepth 100000 in
theorem mg_203 : j_code jP 185 203 = some (.getfield 93) := rfl
set_option maxRecDepth 100000 in
theorem mg_206 : j_code jP 185 206 = some (.isub) := rfl
set_option maxRecDepth 100000 in
theorem mg_207 : j_code jP 185 207 = some (.iconst 3) := rfl
set_option maxRecDepth 100000 in
theorem mg_208 : j_code jP 185 208 = some (.if_icmp .ge 26) := rfl
set_option maxRecDepth 100000 in
theorem mg_211 : j_code jP 185 211 = some (.aload_n 0) := rfl
set_option maxRecDepth 100000 in
theorem mg_212 : j_code jP 185 212 = some (.bipush 10) := rfl
set_option maxRecDepth 100000 in
theorem mg_214 : j_code jP 185 214 = some (.aload_n 0) := rfl
set_option maxRecDepth 100000 in
theorem mg_215 : j_code jP 185 215 = some (.getfield 111) := rfl
set_option maxRecDepth 100000 in
theorem mg_218 : j_code jP 185 218 = some (.imul) := rfl
set_option maxRecDepth 100000 in
theorem mg_219 : j_code jP 185 219 = some (.aload_n 0) := rfl
set_option maxRecDepth 100000 in
theorem mg_220 : j_code jP 185 220 = some (.aload_n 0) := rfl
set_option maxRecDepth 100000 in
theorem mg_221 : j_code jP 185 221 = some (.getfield 86) := rfl
set_option maxRecDepth 100000 in
theorem mg_224 : j_code jP 185 224 = some (.invokevirtual 89) := rfl
set_option maxRecDepth 100000 in
theorem mg_227 : j_code jP 185 227 = some (.iadd) := rfl
set_option maxRecDepth 100000 in
theorem mg_228 : j_code jP 185 228 = some (.bipush 48) := rfl
set_option maxRecDepth 100000 in
theorem mg_230 : j_code jP 185 230 = some (.isub) := rfl
set_option maxRecDepth 100000 in
theorem mg_231 : j_code jP 185 231 = some (.putfield 111) := rfl
set_option maxRecDepth 100000 in
theorem mg_234 : j_code jP 185 234 = some (.aload_n 0) := rfl
set_option maxRecDepth 100000 in
theorem mg_235 : j_code jP 185 235 = some (.dup) := rfl
set_option maxRecDepth 100000 in
theorem mg_236 : j_code jP 185 236 = some (.getfield 86) := rfl
set_option maxRecDepth 100000 in
theorem mg_239 : j_code jP 185 239 = some (.iconst 1) := rfl
set_option maxRecDepth 100000 in
theorem mg_240 : j_code jP 185 240 = some (.iadd) := rfl
set_option maxRecDepth 100000 in
theorem mg_241 : j_code jP 185 241 = some (.putfield 86) := rfl
set_option maxRecDepth 100000 in
theorem mg_244 : j_code jP 185 244 = some (.goto (-60)) := rfl
set_option maxRecDepth 100000 in
theorem mg_247 : j_code jP 185 247 = some (.aload_n 0) := rfl
set_option maxRecDepth 100000 in
theorem mg_248 : j_code jP 185 248 = some (.aload_n 0) := rfl
set_option maxRecDepth 100000 in
theorem mg_249 : j_code jP 185 249 = some (.getfield 86) := rfl
set_option maxRecDepth 100000 in
theorem mg_252 : j_code jP 185 252 = some (.aload_n 0) := rfl
set_option maxRecDepth 100000 in
theorem mg_253 : j_code jP 185 253 = some (.getfield 93) := rfl
set_option maxRecDepth 100000 in
theorem mg_256 : j_code jP 185 256 = some (.isub) := rfl
set_option maxRecDepth 100000 in
theorem mg_257 : j_code jP 185 257 = some (.iconst 3) := rfl
set_option maxRecDepth 100000 in
theorem mg_258 : j_code jP 185 258 = some (.if_icmp .le 7) := rfl
set_option maxRecDepth 100000 in
theorem mg_261 : j_code jP 185 261 = some (.iconst 1) := rfl
set_option maxRecDepth 100000 in
theorem mg_262 : j_code jP 185 262 = some (.goto 4) := rfl
set_option maxRecDepth 100000 in
theorem mg_265 : j_code jP 185 265 = some (.iconst 3) := rfl
set_option maxRecDepth 100000 in
theorem mg_266 : j_code jP 185 266 = some (.putfield 96) := rfl
set_option maxRecDepth 100000 in
theorem mg_269 : j_code jP 185 269 = some (.goto 28) := rfl
set_option maxRecDepth 100000 in
theorem mg_272 : j_code jP 185 272 = some (.aload_n 0) := rfl
set_option maxRecDepth 100000 in
theorem mg_273 : j_code jP 185 273 = some (.dup) := rfl
set_option maxRecDepth 100000 in
theorem mg_274 : j_code jP 185 274 = some (.getfield 86) := rfl
set_option maxRecDepth 100000 in
theorem mg_277 : j_code jP 185 277 = some (.iconst 1) := rfl
set_option maxRecDepth 100000 in
theorem mg_278 : j_code jP 185 278 = some (.iadd) := rfl
set_option maxRecDepth 100000 in
theorem mg_279 : j_code jP 185 279 = some (.putfield 86) := rfl
set_option maxRecDepth 100000 in
theorem mg_282 : j_code jP 185 282 = some (.aload_n 0) := rfl
set_option maxRecDepth 100000 in
theorem mg_283 : j_code jP 185 283 = some (.iload_n 1) := rfl
set_option maxRecDepth 100000 in
theorem mg_284 : j_code jP 185 284 = some (.bipush 59) := rfl
set_option maxRecDepth 100000 in
theorem mg_286 : j_code jP 185 286 = some (.if_icmp .ne 7) := rfl
set_option maxRecDepth 100000 in
theorem mg_289 : j_code jP 185 289 = some (.iconst 4) := rfl
set_option maxRecDepth 100000 in
theorem mg_290 : j_code jP 185 290 = some (.goto 4) := rfl
set_option maxRecDepth 100000 in
theorem mg_293 : j_code jP 185 293 = some (.iconst 1) := rfl
set_option maxRecDepth 100000 in
theorem mg_294 : j_code jP 185 294 = some (.putfield 96) := rfl
set_option maxRecDepth 100000 in
theorem mg_297 : j_code jP 185 297 = some (.return_) := rfl
theorem sL_m1 : sL (-1 : Int32).toInt = false := by decide
theorem sD_m1 : sD (-1 : Int32).toInt = false := by decide
theorem mW_n {x : Int32} (a : ¬ x = 32) (c : ¬ x = 10) : sW x.toInt = false := by
  have a : ¬ x.toInt = 32 := fun z => a (Int32.toInt_inj.mp z)
  have c : ¬ x.toInt = 10 := fun z => c (Int32.toInt_inj.mp z)
  unfold sW
  rw [decide_eq_false a, decide_eq_false c]
  rfl
theorem mW_a {x : Int32} (a : x = 32) : sW x.toInt = true := by subst a; decide
theorem mW_b {x : Int32} (a : x = 10) : sW x.toInt = true := by subst a; decide
theorem mg_ws {u : Nat → Value} {kd fr nu fa pa : Int32} {wo : Int64} {e : Nat} {m : List Int32} {d : Nat} {h0 : J_H} {Q : Option Value → J_H → Prop} (hm : m.length = 700) (he : e ≤ 700) : ∀ (f p : Nat) (h : J_H), p + f = e → KN h [(359, .inl (10, [(u 0), (u 1), .ref 361, (u 3), (u 4), (u 5), .ref 365, (u 7), .ref 367, (u 9), (u 10), (u 11), (u 12), (u 13), .int (nI e), .int fr, .int (nI p), .int kd, .int nu, .int fa, .int pa, .long wo, (u 22), (u 23), (u 24), (u 25), (u 26), (u 27)])), (365, .inr (.inl (0, m)))] h0 → (∀ h, KN h [(359, .inl (10, [(u 0), (u 1), .ref 361, (u 3), (u 4), (u 5), .ref 365, (u 7), .ref 367, (u 9), (u 10), (u 11), (u 12), (u 13), .int (nI e), .int fr, .int (nI (sR sW (cX m) f p)), .int kd, .int nu, .int fa, .int pa, .long wo, (u 22), (u 23), (u 24), (u 25), (u 26), (u 27)])), (365, .inr (.inl (0, m)))] h0 → j_W jP (d + 1) 185 39 [(0, .ref 359)] [] h Q) → j_W jP (d + 1) 185 0 [(0, .ref 359)] [] h Q := by
  intro f
  induction f with
  | zero =>
    intro p h hf K k
    refine j_W.one mg_M mg_0 (by decide) (pcJ := 1) (stJ := [.ref 359]) rfl ?_
    refine j_W.one mg_M mg_1 (by decide) (pcJ := 2) (stJ := [.ref 359, .ref 359]) rfl ?_
    refine j_W.getK mg_M mg_2 (ci := 10) (j := 16) rfl K rfl rfl ?_
    refine j_W.call mg_M mg_5 rfl (md := 3) (mj := 182) rfl (by decide) mb_M (As := [.ref 359, .int (nI p)]) (rest := []) (jk_spl3 (K.at rfl) rfl rfl rfl (Nat.le_of_ble_eq_true rfl) (Nat.le_of_ble_eq_true rfl)) (mb_ok hm he (by omega) (K.sub ⟨rfl, rfl, trivial⟩)) ?_
    rintro r hz ⟨rfl, ez⟩
    rw [ez]
    clear ez
    show j_W jP _ 185 8 [(0, .ref 359)] [.int (bA m e p)] h _
    rw [bA_no (show ¬ p < e by omega)]
    refine j_W.one mg_M mg_8 (by decide) (pcJ := 10) (stJ := [.int 32, .int (-1)]) rfl ?_
    refine j_W.icmp mg_M mg_10 (t := 26) rfl (fun c => ?_) (fun c => ?_)
    · exact absurd c (by decide)
    · clear c
      refine j_W.one mg_M mg_13 (by decide) (pcJ := 14) (stJ := [.ref 359]) rfl ?_
      refine j_W.one mg_M mg_14 (by decide) (pcJ := 15) (stJ := [.ref 359, .ref 359]) rfl ?_
      refine j_W.getK mg_M mg_15 (ci := 10) (j := 16) rfl K rfl rfl ?_
      refine j_W.call mg_M mg_18 rfl (md := 3) (mj := 182) rfl (by decide) mb_M (As := [.ref 359, .int (nI p)]) (rest := []) (jk_spl3 (K.at rfl) rfl rfl rfl (Nat.le_of_ble_eq_true rfl) (Nat.le_of_ble_eq_true rfl)) (mb_ok hm he (by omega) (K.sub ⟨rfl, rfl, trivial⟩)) ?_
      rintro r hz ⟨rfl, ez⟩
      rw [ez]
      clear ez
      show j_W jP _ 185 21 [(0, .ref 359)] [.int (bA m e p)] h _
      rw [bA_no (show ¬ p < e by omega)]
      refine j_W.one mg_M mg_21 (by decide) (pcJ := 23) (stJ := [.int 10, .int (-1)]) rfl ?_
      refine j_W.icmp mg_M mg_23 (t := 39) rfl (fun c => ?_) (fun c => ?_)
      · exact k h K
      · exact absurd c (by decide)
  | succ f ih =>
    intro p h hf K k
    refine j_W.one mg_M mg_0 (by decide) (pcJ := 1) (stJ := [.ref 359]) rfl ?_
    refine j_W.one mg_M mg_1 (by decide) (pcJ := 2) (stJ := [.ref 359, .ref 359]) rfl ?_
    refine j_W.getK mg_M mg_2 (ci := 10) (j := 16) rfl K rfl rfl ?_
    refine j_W.call mg_M mg_5 rfl (md := 3) (mj := 182) rfl (by decide) mb_M (As := [.ref 359, .int (nI p)]) (rest := []) (jk_spl3 (K.at rfl) rfl rfl rfl (Nat.le_of_ble_eq_true rfl) (Nat.le_of_ble_eq_true rfl)) (mb_ok hm he (by omega) (K.sub ⟨rfl, rfl, trivial⟩)) ?_
    rintro r hz ⟨rfl, ez⟩
    rw [ez]
    clear ez
    show j_W jP _ 185 8 [(0, .ref 359)] [.int (bA m e p)] h _
    rw [bA_in (show p < e by omega)]
    refine j_W.one mg_M mg_8 (by decide) (pcJ := 10) (stJ := [.int 32, .int (m.getD p 0)]) rfl ?_
    refine j_W.icmp mg_M mg_10 (t := 26) rfl (fun c => ?_) (fun c => ?_)
    · have c : m.getD p 0 = 32 := by simpa [j_cond] using c
      have c0 : sW (cX m p) = true := mW_a c
      clear c
      refine j_W.one mg_M mg_26 (by decide) (pcJ := 27) (stJ := [.ref 359]) rfl ?_
      refine j_W.one mg_M mg_27 (by decide) (pcJ := 28) (stJ := [.ref 359, .ref 359]) rfl ?_
      refine j_W.getK mg_M mg_28 (ci := 10) (j := 16) rfl K rfl rfl ?_
      refine j_W.one mg_M mg_31 (by decide) (pcJ := 32) (stJ := [.int 1, .int (nI p), .ref 359]) rfl ?_
      refine j_W.one mg_M mg_32 (by decide) (pcJ := 33) (stJ := [.int ((nI p) + 1), .ref 359]) rfl ?_
      refine j_W.putK mg_M mg_33 (ci := 10) (j := 16) (k' := [(359, .inl (10, [(u 0), (u 1), .ref 361, (u 3), (u 4), (u 5), .ref 365, (u 7), .ref 367, (u 9), (u 10), (u 11), (u 12), (u 13), .int (nI e), .int fr, .int ((nI p) + 1), .int kd, .int nu, .int fa, .int pa, .long wo, (u 22), (u 23), (u 24), (u 25), (u 26), (u 27)])), (365, .inr (.inl (0, m)))]) rfl K rfl (Nat.le_of_ble_eq_true rfl) rfl (Or.inl rfl) rfl rfl (fun h K => ?_)
      refine j_W.gto mg_M mg_36 (t := 0) rfl ?_
      rw [sR_t c0] at k
      refine ih (p + 1) h (by omega) ?_ k
      rw [nI_succ]; exact K
    · have c1 : ¬ m.getD p 0 = 32 := by simpa [j_cond] using c
      clear c
      refine j_W.one mg_M mg_13 (by decide) (pcJ := 14) (stJ := [.ref 359]) rfl ?_
      refine j_W.one mg_M mg_14 (by decide) (pcJ := 15) (stJ := [.ref 359, .ref 359]) rfl ?_
      refine j_W.getK mg_M mg_15 (ci := 10) (j := 16) rfl K rfl rfl ?_
      refine j_W.call mg_M mg_18 rfl (md := 3) (mj := 182) rfl (by decide) mb_M (As := [.ref 359, .int (nI p)]) (rest := []) (jk_spl3 (K.at rfl) rfl rfl rfl (Nat.le_of_ble_eq_true rfl) (Nat.le_of_ble_eq_true rfl)) (mb_ok hm he (by omega) (K.sub ⟨rfl, rfl, trivial⟩)) ?_
      rintro r hz ⟨rfl, ez⟩
      rw [ez]
      clear ez
      show j_W jP _ 185 21 [(0, .ref 359)] [.int (bA m e p)] h _
      rw [bA_in (show p < e by omega)]
      refine j_W.one mg_M mg_21 (by decide) (pcJ := 23) (stJ := [.int 10, .int (m.getD p 0)]) rfl ?_
      refine j_W.icmp mg_M mg_23 (t := 39) rfl (fun c => ?_) (fun c => ?_)
      · have c : ¬ m.getD p 0 = 10 := by simpa [j_cond] using c
        have c0 : sW (cX m p) = false := mW_n c1 c
        rw [sR_f c0] at k
        exact k h K
      · have c : m.getD p 0 = 10 := by simpa [j_cond] using c
        have c0 : sW (cX m p) = true := mW_b c
        clear c
        refine j_W.one mg_M mg_26 (by decide) (pcJ := 27) (stJ := [.ref 359]) rfl ?_
        refine j_W.one mg_M mg_27 (by decide) (pcJ := 28) (stJ := [.ref 359, .ref 359]) rfl ?_
        refine j_W.getK mg_M mg_28 (ci := 10) (j := 16) rfl K rfl rfl ?_
        refine j_W.one mg_M mg_31 (by decide) (pcJ := 32) (stJ := [.int 1, .int (nI p), .ref 359]) rfl ?_
        refine j_W.one mg_M mg_32 (by decide) (pcJ := 33) (stJ := [.int ((nI p) + 1), .ref 359]) rfl ?_
        refine j_W.putK mg_M mg_33 (ci := 10) (j := 16) (k' := [(359, .inl (10, [(u 0), (u 1), .ref 361, (u 3), (u 4), (u 5), .ref 365, (u 7), .ref 367, (u 9), (u 10), (u 11), (u 12), (u 13), .int (nI e), .int fr, .int ((nI p) + 1), .int kd, .int nu, .int fa, .int pa, .long wo, (u 22), (u 23), (u 24), (u 25), (u 26), (u 27)])), (365, .inr (.inl (0, m)))]) rfl K rfl (Nat.le_of_ble_eq_true rfl) rfl (Or.inl rfl) rfl rfl (fun h K => ?_)
        refine j_W.gto mg_M mg_36 (t := 0) rfl ?_
        rw [sR_t c0] at k
        refine ih (p + 1) h (by omega) ?_ k
        rw [nI_succ]; exact K
theorem mg_el {u : Nat → Value} {kd nu fa pa : Int32} {e : Nat} {m : List Int32} {cc : Int32} {d p0 q : Nat} {h h0 : J_H} (h1 : p0 ≤ q) (h2 : q ≤ e) (he : e ≤ 700) (K : KN h [(359, .inl (10, [(u 0), (u 1), .ref 361, (u 3), (u 4), (u 5), .ref 365, (u 7), .ref 367, (u 9), (u 10), (u 11), (u 12), (u 13), .int (nI e), .int (nI p0), .int (nI q), .int kd, .int nu, .int fa, .int pa, .long (eM m p0 (min (q - p0) 8)), (u 22), (u 23), (u 24), (u 25), (u 26), (u 27)])), (365, .inr (.inl (0, m)))] h0) : j_W jP d 185 146 [(1, .int cc), (0, .ref 359)] [] h (fun rv h' => rv = none ∧ KN h' [(359, .inl (10, [(u 0), (u 1), .ref 361, (u 3), (u 4), (u 5), .ref 365, (u 7), .ref 367, (u 9), (u 10), (u 11), (u 12), (u 13), .int (nI e), .int (nI p0), .int (nI q), .int (if q - p0 ≤ 8 then 2 else 1), .int nu, .int fa, .int pa, .long (eM m p0 (min (q - p0) 8)), (u 22), (u 23), (u 24), (u 25), (u 26), (u 27)])), (365, .inr (.inl (0, m)))] h0) := by
  have e1 : (nI q - nI p0).toInt = ((q - p0 : Nat) : Int) := sk_sub h1 (by omega)
  refine j_W.one mg_M mg_146 (by decide) (pcJ := 147) (stJ := [.ref 359]) rfl ?_
  refine j_W.one mg_M mg_147 (by decide) (pcJ := 148) (stJ := [.ref 359, .ref 359]) rfl ?_
  refine j_W.getK mg_M mg_148 (ci := 10) (j := 16) rfl K rfl rfl ?_
  refine j_W.one mg_M mg_151 (by decide) (pcJ := 152) (stJ := [.ref 359, .int (nI q), .ref 359]) rfl ?_
  refine j_W.getK mg_M mg_152 (ci := 10) (j := 15) rfl K rfl rfl ?_
  refine j_W.one mg_M mg_155 (by decide) (pcJ := 156) (stJ := [.int ((nI q) - (nI p0)), .ref 359]) rfl ?_
  refine j_W.one mg_M mg_156 (by decide) (pcJ := 158) (stJ := [.int 8, .int ((nI q) - (nI p0)), .ref 359]) rfl ?_
  refine j_W.icmp mg_M mg_158 (t := 165) rfl (fun c => ?_) (fun c => ?_)
  · rw [jk_le] at c; have c := of_decide_eq_true c; rw [e1, show (8 : Int32).toInt = 8 from rfl] at c; rw [if_pos (show q - p0 ≤ 8 by omega)]
    refine j_W.one mg_M mg_165 (by decide) (pcJ := 166) (stJ := [.int 2, .ref 359]) rfl ?_
    refine j_W.putK mg_M mg_166 (ci := 10) (j := 17) (k' := [(359, .inl (10, [(u 0), (u 1), .ref 361, (u 3), (u 4), (u 5), .ref 365, (u 7), .ref 367, (u 9), (u 10), (u 11), (u 12), (u 13), .int (nI e), .int (nI p0), .int (nI q), .int 2, .int nu, .int fa, .int pa, .long (eM m p0 (min (q - p0) 8)), (u 22), (u 23), (u 24), (u 25), (u 26), (u 27)])), (365, .inr (.inl (0, m)))]) rfl K rfl (Nat.le_of_ble_eq_true rfl) rfl (Or.inl rfl) rfl rfl (fun h K => ?_)
    refine j_W.gto mg_M mg_169 (t := 297) rfl ?_
    refine j_W.ret mg_M mg_297 rfl rfl ⟨rfl, K⟩
  · rw [jk_le] at c; have c := of_decide_eq_false c; rw [e1, show (8 : Int32).toInt = 8 from rfl] at c; rw [if_neg (show ¬ q - p0 ≤ 8 by omega)]
    refine j_W.one mg_M mg_161 (by decide) (pcJ := 162) (stJ := [.int 1, .ref 359]) rfl ?_
    refine j_W.gto mg_M mg_162 (t := 166) rfl ?_
    refine j_W.putK mg_M mg_166 (ci := 10) (j := 17) (k' := [(359, .inl (10, [(u 0), (u 1), .ref 361, (u 3), (u 4), (u 5), .ref 365, (u 7), .ref 367, (u 9), (u 10), (u 11), (u 12), (u 13), .int (nI e), .int (nI p0), .int (nI q), .int 1, .int nu, .int fa, .int pa, .long (eM m p0 (min (q - p0) 8)), (u 22), (u 23), (u 24), (u 25), (u 26), (u 27)])), (365, .inr (.inl (0, m)))]) rfl K rfl (Nat.le_of_ble_eq_true rfl) rfl (Or.inl rfl) rfl rfl (fun h K => ?_)
    refine j_W.gto mg_M mg_169 (t := 297) rfl ?_
    refine j_W.ret mg_M mg_297 rfl rfl ⟨rfl, K⟩
theorem mg_l {u : Nat → Value} {kd nu fa pa : Int32} {e : Nat} {m : List Int32} {cc : Int32} {d p0 : Nat} {h0 : J_H} (hm : m.length = 700) (he : e ≤ 700) : ∀ (f p : Nat) (h : J_H), p + f = e → p0 ≤ p → KN h [(359, .inl (10, [(u 0), (u 1), .ref 361, (u 3), (u 4), (u 5), .ref 365, (u 7), .ref 367, (u 9), (u 10), (u 11), (u 12), (u 13), .int (nI e), .int (nI p0), .int (nI p), .int kd, .int nu, .int fa, .int pa, .long (eM m p0 (min (p - p0) 8)), (u 22), (u 23), (u 24), (u 25), (u 26), (u 27)])), (365, .inr (.inl (0, m)))] h0 → j_W jP (d + 1) 185 81 [(1, .int cc), (0, .ref 359)] [] h (fun rv h' => rv = none ∧ KN h' [(359, .inl (10, [(u 0), (u 1), .ref 361, (u 3), (u 4), (u 5), .ref 365, (u 7), .ref 367, (u 9), (u 10), (u 11), (u 12), (u 13), .int (nI e), .int (nI p0), .int (nI (sR sL (cX m) f p)), .int (if sR sL (cX m) f p - p0 ≤ 8 then 2 else 1), .int nu, .int fa, .int pa, .long (eM m p0 (min (sR sL (cX m) f p - p0) 8)), (u 22), (u 23), (u 24), (u 25), (u 26), (u 27)])), (365, .inr (.inl (0, m)))] h0) := by
  intro f
  induction f with
  | zero =>
    intro p h hf hp K
    refine j_W.one mg_M mg_81 (by decide) (pcJ := 82) (stJ := [.ref 359]) rfl ?_
    refine j_W.one mg_M mg_82 (by decide) (pcJ := 83) (stJ := [.ref 359, .ref 359]) rfl ?_
    refine j_W.getK mg_M mg_83 (ci := 10) (j := 16) rfl K rfl rfl ?_
    refine j_W.call mg_M mg_86 rfl (md := 3) (mj := 182) rfl (by decide) mb_M (As := [.ref 359, .int (nI p)]) (rest := []) (jk_spl3 (K.at rfl) rfl rfl rfl (Nat.le_of_ble_eq_true rfl) (Nat.le_of_ble_eq_true rfl)) (mb_ok hm he (by omega) (K.sub ⟨rfl, rfl, trivial⟩)) ?_
    rintro r hz ⟨rfl, ez⟩
    rw [ez]
    clear ez
    show j_W jP _ 185 89 [(1, .int cc), (0, .ref 359)] [.int (bA m e p)] h _
    rw [bA_no (show ¬ p < e by omega)]
    refine j_W.call mg_M mg_89 rfl (md := 2) (mj := 183) rfl (by decide) mc_M (As := [.int (-1)]) (rest := []) (jk_spl2 rfl rfl (Nat.le_of_ble_eq_true rfl) (Nat.le_of_ble_eq_true rfl)) (mc_ok) ?_
    rintro r hz ⟨rfl, ez⟩
    rw [ez]
    clear ez
    show j_W jP _ 185 92 [(1, .int cc), (0, .ref 359)] [.int (bif sL (-1 : Int32).toInt then 1 else 0)] h _
    rw [sL_m1]
    refine j_W.ifc mg_M mg_92 (t := 146) rfl (fun c => ?_) (fun c => ?_)
    · rw [show sR sL (cX m) 0 p = p from rfl]
      exact mg_el hp (by omega) he K
    · cases c
  | succ f ih =>
    intro p h hf hp K
    refine j_W.one mg_M mg_81 (by decide) (pcJ := 82) (stJ := [.ref 359]) rfl ?_
    refine j_W.one mg_M mg_82 (by decide) (pcJ := 83) (stJ := [.ref 359, .ref 359]) rfl ?_
    refine j_W.getK mg_M mg_83 (ci := 10) (j := 16) rfl K rfl rfl ?_
    refine j_W.call mg_M mg_86 rfl (md := 3) (mj := 182) rfl (by decide) mb_M (As := [.ref 359, .int (nI p)]) (rest := []) (jk_spl3 (K.at rfl) rfl rfl rfl (Nat.le_of_ble_eq_true rfl) (Nat.le_of_ble_eq_true rfl)) (mb_ok hm he (by omega) (K.sub ⟨rfl, rfl, trivial⟩)) ?_
    rintro r hz ⟨rfl, ez⟩
    rw [ez]
    clear ez
    show j_W jP _ 185 89 [(1, .int cc), (0, .ref 359)] [.int (bA m e p)] h _
    rw [bA_in (show p < e by omega)]
    refine j_W.call mg_M mg_89 rfl (md := 2) (mj := 183) rfl (by decide) mc_M (As := [.int (m.getD p 0)]) (rest := []) (jk_spl2 rfl rfl (Nat.le_of_ble_eq_true rfl) (Nat.le_of_ble_eq_true rfl)) (mc_ok) ?_
    rintro r hz ⟨rfl, ez⟩
    rw [ez]
    clear ez
    show j_W jP _ 185 92 [(1, .int cc), (0, .ref 359)] [.int (bif sL (m.getD p 0).toInt then 1 else 0)] h _
    cases c0 : sL (m.getD p 0).toInt with
    | true =>
      show j_W jP _ 185 92 [(1, .int cc), (0, .ref 359)] [.int 1] h _
      refine j_W.ifc mg_M mg_92 (t := 146) rfl (fun c => ?_) (fun c => ?_)
      · cases c
      · clear c
        have e0 : sR sL (cX m) (f + 1) p = sR sL (cX m) f (p + 1) := sR_t c0
        rw [e0]
        have e1 : (nI p - nI p0).toInt = ((p - p0 : Nat) : Int) := sk_sub hp (by omega)
        refine j_W.one mg_M mg_95 (by decide) (pcJ := 96) (stJ := [.ref 359]) rfl ?_
        refine j_W.getK mg_M mg_96 (ci := 10) (j := 16) rfl K rfl rfl ?_
        refine j_W.one mg_M mg_99 (by decide) (pcJ := 100) (stJ := [.ref 359, .int (nI p)]) rfl ?_
        refine j_W.getK mg_M mg_100 (ci := 10) (j := 15) rfl K rfl rfl ?_
        refine j_W.one mg_M mg_103 (by decide) (pcJ := 104) (stJ := [.int ((nI p) - (nI p0))]) rfl ?_
        refine j_W.one mg_M mg_104 (by decide) (pcJ := 106) (stJ := [.int 8, .int ((nI p) - (nI p0))]) rfl ?_
        refine j_W.icmp mg_M mg_106 (t := 133) rfl (fun c => ?_) (fun c => ?_)
        · rw [jk_ge] at c; have c := of_decide_eq_true c; rw [e1, show (8 : Int32).toInt = 8 from rfl] at c
          refine j_W.one mg_M mg_133 (by decide) (pcJ := 134) (stJ := [.ref 359]) rfl ?_
          refine j_W.one mg_M mg_134 (by decide) (pcJ := 135) (stJ := [.ref 359, .ref 359]) rfl ?_
          refine j_W.getK mg_M mg_135 (ci := 10) (j := 16) rfl K rfl rfl ?_
          refine j_W.one mg_M mg_138 (by decide) (pcJ := 139) (stJ := [.int 1, .int (nI p), .ref 359]) rfl ?_
          refine j_W.one mg_M mg_139 (by decide) (pcJ := 140) (stJ := [.int ((nI p) + 1), .ref 359]) rfl ?_
          refine j_W.putK mg_M mg_140 (ci := 10) (j := 16) (k' := [(359, .inl (10, [(u 0), (u 1), .ref 361, (u 3), (u 4), (u 5), .ref 365, (u 7), .ref 367, (u 9), (u 10), (u 11), (u 12), (u 13), .int (nI e), .int (nI p0), .int ((nI p) + 1), .int kd, .int nu, .int fa, .int pa, .long (eM m p0 (min (p - p0) 8)), (u 22), (u 23), (u 24), (u 25), (u 26), (u 27)])), (365, .inr (.inl (0, m)))]) rfl K rfl (Nat.le_of_ble_eq_true rfl) rfl (Or.inl rfl) rfl rfl (fun h K => ?_)
          refine j_W.gto mg_M mg_143 (t := 81) rfl ?_
          refine ih (p + 1) h (by omega) (by omega) ?_
          rw [show min (p + 1 - p0) 8 = min (p - p0) 8 by omega]
          rw [nI_succ]; exact K
        · rw [jk_ge] at c; have c := of_decide_eq_false c; rw [e1, show (8 : Int32).toInt = 8 from rfl] at c
          have c2 : min (p - p0) 8 = p - p0 := by omega
          rw [c2] at K
          have K : KN h [(359, .inl (10, [(u 0), (u 1), .ref 361, (u 3), (u 4), (u 5), .ref 365, (u 7), .ref 367, (u 9), (u 10), (u 11), (u 12), (u 13), .int (nI e), .int (nI p0), .int (nI p), .int kd, .int nu, .int fa, .int pa, .long (eM m p0 (p - p0)), (u 22), (u 23), (u 24), (u 25), (u 26), (u 27)])), (365, .inr (.inl (0, m)))] h0 := K
          refine j_W.one mg_M mg_109 (by decide) (pcJ := 110) (stJ := [.ref 359]) rfl ?_
          refine j_W.one mg_M mg_110 (by decide) (pcJ := 111) (stJ := [.ref 359, .ref 359]) rfl ?_
          refine j_W.getK mg_M mg_111 (ci := 10) (j := 21) rfl K rfl rfl ?_
          refine j_W.one mg_M mg_114 (by decide) (pcJ := 115) (stJ := [.int 5, .long (eM m p0 (p - p0)), .ref 359]) rfl ?_
          refine j_W.one mg_M mg_115 (by decide) (pcJ := 116) (stJ := [.long ((eM m p0 (p - p0)) <<< ((5 : Int32).toInt64 &&& 63)), .ref 359]) rfl ?_
          refine j_W.one mg_M mg_116 (by decide) (pcJ := 117) (stJ := [.ref 359, .long ((eM m p0 (p - p0)) <<< ((5 : Int32).toInt64 &&& 63)), .ref 359]) rfl ?_
          refine j_W.one mg_M mg_117 (by decide) (pcJ := 118) (stJ := [.ref 359, .ref 359, .long ((eM m p0 (p - p0)) <<< ((5 : Int32).toInt64 &&& 63)), .ref 359]) rfl ?_
          refine j_W.getK mg_M mg_118 (ci := 10) (j := 16) rfl K rfl rfl ?_
          refine j_W.call mg_M mg_121 rfl (md := 3) (mj := 182) rfl (by decide) mb_M (As := [.ref 359, .int (nI p)]) (rest := [.long ((eM m p0 (p - p0)) <<< ((5 : Int32).toInt64 &&& 63)), .ref 359]) (jk_spl3 (K.at rfl) rfl rfl rfl (Nat.le_of_ble_eq_true rfl) (Nat.le_of_ble_eq_true rfl)) (mb_ok hm he (by omega) (K.sub ⟨rfl, rfl, trivial⟩)) ?_
          rintro r hz ⟨rfl, ez⟩
          rw [ez]
          clear ez
          show j_W jP _ 185 124 [(1, .int cc), (0, .ref 359)] [.int (bA m e p), .long ((eM m p0 (p - p0)) <<< ((5 : Int32).toInt64 &&& 63)), .ref 359] h _
          rw [bA_in (show p < e by omega)]
          refine j_W.one mg_M mg_124 (by decide) (pcJ := 125) (stJ := [.long ((m.getD p 0).toInt64), .long ((eM m p0 (p - p0)) <<< ((5 : Int32).toInt64 &&& 63)), .ref 359]) rfl ?_
          refine j_W.one mg_M mg_125 (by decide) (pcJ := 128) (stJ := [.long 96, .long ((m.getD p 0).toInt64), .long ((eM m p0 (p - p0)) <<< ((5 : Int32).toInt64 &&& 63)), .ref 359]) rfl ?_
          refine j_W.one mg_M mg_128 (by decide) (pcJ := 129) (stJ := [.long ((m.getD p 0).toInt64 - 96), .long ((eM m p0 (p - p0)) <<< ((5 : Int32).toInt64 &&& 63)), .ref 359]) rfl ?_
          refine j_W.one mg_M mg_129 (by decide) (pcJ := 130) (stJ := [.long (((eM m p0 (p - p0)) <<< ((5 : Int32).toInt64 &&& 63)) ||| ((m.getD p 0).toInt64 - 96)), .ref 359]) rfl ?_
          refine j_W.putK mg_M mg_130 (ci := 10) (j := 21) (k' := [(359, .inl (10, [(u 0), (u 1), .ref 361, (u 3), (u 4), (u 5), .ref 365, (u 7), .ref 367, (u 9), (u 10), (u 11), (u 12), (u 13), .int (nI e), .int (nI p0), .int (nI p), .int kd, .int nu, .int fa, .int pa, .long (((eM m p0 (p - p0)) <<< ((5 : Int32).toInt64 &&& 63)) ||| ((m.getD p 0).toInt64 - 96)), (u 22), (u 23), (u 24), (u 25), (u 26), (u 27)])), (365, .inr (.inl (0, m)))]) rfl K rfl (Nat.le_of_ble_eq_true rfl) rfl (Or.inl rfl) rfl rfl (fun h K => ?_)
          refine j_W.one mg_M mg_133 (by decide) (pcJ := 134) (stJ := [.ref 359]) rfl ?_
          refine j_W.one mg_M mg_134 (by decide) (pcJ := 135) (stJ := [.ref 359, .ref 359]) rfl ?_
          refine j_W.getK mg_M mg_135 (ci := 10) (j := 16) rfl K rfl rfl ?_
          refine j_W.one mg_M mg_138 (by decide) (pcJ := 139) (stJ := [.int 1, .int (nI p), .ref 359]) rfl ?_
          refine j_W.one mg_M mg_139 (by decide) (pcJ := 140) (stJ := [.int ((nI p) + 1), .ref 359]) rfl ?_
          refine j_W.putK mg_M mg_140 (ci := 10) (j := 16) (k' := [(359, .inl (10, [(u 0), (u 1), .ref 361, (u 3), (u 4), (u 5), .ref 365, (u 7), .ref 367, (u 9), (u 10), (u 11), (u 12), (u 13), .int (nI e), .int (nI p0), .int ((nI p) + 1), .int kd, .int nu, .int fa, .int pa, .long (((eM m p0 (p - p0)) <<< ((5 : Int32).toInt64 &&& 63)) ||| ((m.getD p 0).toInt64 - 96)), (u 22), (u 23), (u 24), (u 25), (u 26), (u 27)])), (365, .inr (.inl (0, m)))]) rfl K rfl (Nat.le_of_ble_eq_true rfl) rfl (Or.inl rfl) rfl rfl (fun h K => ?_)
          refine j_W.gto mg_M mg_143 (t := 81) rfl ?_
          refine ih (p + 1) h (by omega) (by omega) ?_
          rw [show min (p + 1 - p0) 8 = (p - p0) + 1 by omega]; unfold eM; rw [show p0 + (p - p0) = p by omega]
          rw [nI_succ]; exact K
    | false =>
      show j_W jP _ 185 92 [(1, .int cc), (0, .ref 359)] [.int 0] h _
      refine j_W.ifc mg_M mg_92 (t := 146) rfl (fun c => ?_) (fun c => ?_)
      · have e0 : sR sL (cX m) (f + 1) p = p := sR_f c0
        rw [e0]
        exact mg_el hp (by omega) he K
      · cases c
theorem mg_ed {u : Nat → Value} {kd fa pa : Int32} {wo : Int64} {e : Nat} {m : List Int32} {cc : Int32} {d p0 q : Nat} {h h0 : J_H} (h1 : p0 ≤ q) (h2 : q ≤ e) (he : e ≤ 700) (K : KN h [(359, .inl (10, [(u 0), (u 1), .ref 361, (u 3), (u 4), (u 5), .ref 365, (u 7), .ref 367, (u 9), (u 10), (u 11), (u 12), (u 13), .int (nI e), .int (nI p0), .int (nI q), .int kd, .int (dX m p0 (min (q - p0) 3)), .int fa, .int pa, .long wo, (u 22), (u 23), (u 24), (u 25), (u 26), (u 27)])), (365, .inr (.inl (0, m)))] h0) : j_W jP d 185 247 [(1, .int cc), (0, .ref 359)] [] h (fun rv h' => rv = none ∧ KN h' [(359, .inl (10, [(u 0), (u 1), .ref 361, (u 3), (u 4), (u 5), .ref 365, (u 7), .ref 367, (u 9), (u 10), (u 11), (u 12), (u 13), .int (nI e), .int (nI p0), .int (nI q), .int (if q - p0 ≤ 3 then 3 else 1), .int (dX m p0 (min (q - p0) 3)), .int fa, .int pa, .long wo, (u 22), (u 23), (u 24), (u 25), (u 26), (u 27)])), (365, .inr (.inl (0, m)))] h0) := by
  have e1 : (nI q - nI p0).toInt = ((q - p0 : Nat) : Int) := sk_sub h1 (by omega)
  refine j_W.one mg_M mg_247 (by decide) (pcJ := 248) (stJ := [.ref 359]) rfl ?_
  refine j_W.one mg_M mg_248 (by decide) (pcJ := 249) (stJ := [.ref 359, .ref 359]) rfl ?_
  refine j_W.getK mg_M mg_249 (ci := 10) (j := 16) rfl K rfl rfl ?_
  refine j_W.one mg_M mg_252 (by decide) (pcJ := 253) (stJ := [.ref 359, .int (nI q), .ref 359]) rfl ?_
  refine j_W.getK mg_M mg_253 (ci := 10) (j := 15) rfl K rfl rfl ?_
  refine j_W.one mg_M mg_256 (by decide) (pcJ := 257) (stJ := [.int ((nI q) - (nI p0)), .ref 359]) rfl ?_
  refine j_W.one mg_M mg_257 (by decide) (pcJ := 258) (stJ := [.int 3, .int ((nI q) - (nI p0)), .ref 359]) rfl ?_
  refine j_W.icmp mg_M mg_258 (t := 265) rfl (fun c => ?_) (fun c => ?_)
  · rw [jk_le] at c; have c := of_decide_eq_true c; rw [e1, show (3 : Int32).toInt = 3 from rfl] at c; rw [if_pos (show q - p0 ≤ 3 by omega)]
    refine j_W.one mg_M mg_265 (by decide) (pcJ := 266) (stJ := [.int 3, .ref 359]) rfl ?_
    refine j_W.putK mg_M mg_266 (ci := 10) (j := 17) (k' := [(359, .inl (10, [(u 0), (u 1), .ref 361, (u 3), (u 4), (u 5), .ref 365, (u 7), .ref 367, (u 9), (u 10), (u 11), (u 12), (u 13), .int (nI e), .int (nI p0), .int (nI q), .int 3, .int (dX m p0 (min (q - p0) 3)), .int fa, .int pa, .long wo, (u 22), (u 23), (u 24), (u 25), (u 26), (u 27)])), (365, .inr (.inl (0, m)))]) rfl K rfl (Nat.le_of_ble_eq_true rfl) rfl (Or.inl rfl) rfl rfl (fun h K => ?_)
    refine j_W.gto mg_M mg_269 (t := 297) rfl ?_
    refine j_W.ret mg_M mg_297 rfl rfl ⟨rfl, K⟩
  · rw [jk_le] at c; have c := of_decide_eq_false c; rw [e1, show (3 : Int32).toInt = 3 from rfl] at c; rw [if_neg (show ¬ q - p0 ≤ 3 by omega)]
    refine j_W.one mg_M mg_261 (by decide) (pcJ := 262) (stJ := [.int 1, .ref 359]) rfl ?_
    refine j_W.gto mg_M mg_262 (t := 266) rfl ?_
    refine j_W.putK mg_M mg_266 (ci := 10) (j := 17) (k' := [(359, .inl (10, [(u 0), (u 1), .ref 361, (u 3), (u 4), (u 5), .ref 365, (u 7), .ref 367, (u 9), (u 10), (u 11), (u 12), (u 13), .int (nI e), .int (nI p0), .int (nI q), .int 1, .int (dX m p0 (min (q - p0) 3)), .int fa, .int pa, .long wo, (u 22), (u 23), (u 24), (u 25), (u 26), (u 27)])), (365, .inr (.inl (0, m)))]) rfl K rfl (Nat.le_of_ble_eq_true rfl) rfl (Or.inl rfl) rfl rfl (fun h K => ?_)
    refine j_W.gto mg_M mg_269 (t := 297) rfl ?_
    refine j_W.ret mg_M mg_297 rfl rfl ⟨rfl, K⟩
theorem mg_d {u : Nat → Value} {kd fa pa : Int32} {wo : Int64} {e : Nat} {m : List Int32} {cc : Int32} {d p0 : Nat} {h0 : J_H} (hm : m.length = 700) (he : e ≤ 700) : ∀ (f p : Nat) (h : J_H), p + f = e → p0 ≤ p → KN h [(359, .inl (10, [(u 0), (u 1), .ref 361, (u 3), (u 4), (u 5), .ref 365, (u 7), .ref 367, (u 9), (u 10), (u 11), (u 12), (u 13), .int (nI e), .int (nI p0), .int (nI p), .int kd, .int (dX m p0 (min (p - p0) 3)), .int fa, .int pa, .long wo, (u 22), (u 23), (u 24), (u 25), (u 26), (u 27)])), (365, .inr (.inl (0, m)))] h0 → j_W jP (d + 1) 185 184 [(1, .int cc), (0, .ref 359)] [] h (fun rv h' => rv = none ∧ KN h' [(359, .inl (10, [(u 0), (u 1), .ref 361, (u 3), (u 4), (u 5), .ref 365, (u 7), .ref 367, (u 9), (u 10), (u 11), (u 12), (u 13), .int (nI e), .int (nI p0), .int (nI (sR sD (cX m) f p)), .int (if sR sD (cX m) f p - p0 ≤ 3 then 3 else 1), .int (dX m p0 (min (sR sD (cX m) f p - p0) 3)), .int fa, .int pa, .long wo, (u 22), (u 23), (u 24), (u 25), (u 26), (u 27)])), (365, .inr (.inl (0, m)))] h0) := by
  intro f
  induction f with
  | zero =>
    intro p h hf hp K
    refine j_W.one mg_M mg_184 (by decide) (pcJ := 185) (stJ := [.ref 359]) rfl ?_
    refine j_W.one mg_M mg_185 (by decide) (pcJ := 186) (stJ := [.ref 359, .ref 359]) rfl ?_
    refine j_W.getK mg_M mg_186 (ci := 10) (j := 16) rfl K rfl rfl ?_
    refine j_W.call mg_M mg_189 rfl (md := 3) (mj := 182) rfl (by decide) mb_M (As := [.ref 359, .int (nI p)]) (rest := []) (jk_spl3 (K.at rfl) rfl rfl rfl (Nat.le_of_ble_eq_true rfl) (Nat.le_of_ble_eq_true rfl)) (mb_ok hm he (by omega) (K.sub ⟨rfl, rfl, trivial⟩)) ?_
    rintro r hz ⟨rfl, ez⟩
    rw [ez]
    clear ez
    show j_W jP _ 185 192 [(1, .int cc), (0, .ref 359)] [.int (bA m e p)] h _
    rw [bA_no (show ¬ p < e by omega)]
    refine j_W.call mg_M mg_192 rfl (md := 2) (mj := 184) rfl (by decide) md_M (As := [.int (-1)]) (rest := []) (jk_spl2 rfl rfl (Nat.le_of_ble_eq_true rfl) (Nat.le_of_ble_eq_true rfl)) (md_ok) ?_
    rintro r hz ⟨rfl, ez⟩
    rw [ez]
    clear ez
    show j_W jP _ 185 195 [(1, .int cc), (0, .ref 359)] [.int (bif sD (-1 : Int32).toInt then 1 else 0)] h _
    rw [sD_m1]
    refine j_W.ifc mg_M mg_195 (t := 247) rfl (fun c => ?_) (fun c => ?_)
    · rw [show sR sD (cX m) 0 p = p from rfl]
      exact mg_ed hp (by omega) he K
    · cases c
  | succ f ih =>
    intro p h hf hp K
    refine j_W.one mg_M mg_184 (by decide) (pcJ := 185) (stJ := [.ref 359]) rfl ?_
    refine j_W.one mg_M mg_185 (by decide) (pcJ := 186) (stJ := [.ref 359, .ref 359]) rfl ?_
    refine j_W.getK mg_M mg_186 (ci := 10) (j := 16) rfl K rfl rfl ?_
    refine j_W.call mg_M mg_189 rfl (md := 3) (mj := 182) rfl (by decide) mb_M (As := [.ref 359, .int (nI p)]) (rest := []) (jk_spl3 (K.at rfl) rfl rfl rfl (Nat.le_of_ble_eq_true rfl) (Nat.le_of_ble_eq_true rfl)) (mb_ok hm he (by omega) (K.sub ⟨rfl, rfl, trivial⟩)) ?_
    rintro r hz ⟨rfl, ez⟩
    rw [ez]
    clear ez
    show j_W jP _ 185 192 [(1, .int cc), (0, .ref 359)] [.int (bA m e p)] h _
    rw [bA_in (show p < e by omega)]
    refine j_W.call mg_M mg_192 rfl (md := 2) (mj := 184) rfl (by decide) md_M (As := [.int (m.getD p 0)]) (rest := []) (jk_spl2 rfl rfl (Nat.le_of_ble_eq_true rfl) (Nat.le_of_ble_eq_true rfl)) (md_ok) ?_
    rintro r hz ⟨rfl, ez⟩
    rw [ez]
    clear ez
    show j_W jP _ 185 195 [(1, .int cc), (0, .ref 359)] [.int (bif sD (m.getD p 0).toInt then 1 else 0)] h _
    cases c0 : sD (m.getD p 0).toInt with
    | true =>
      show j_W jP _ 185 195 [(1, .int cc), (0, .ref 359)] [.int 1] h _
      refine j_W.ifc mg_M mg_195 (t := 247) rfl (fun c => ?_) (fun c => ?_)
      · cases c
      · clear c
        have e0 : sR sD (cX m) (f + 1) p = sR sD (cX m) f (p + 1) := sR_t c0
        rw [e0]
        have e1 : (nI p - nI p0).toInt = ((p - p0 : Nat) : Int) := sk_sub hp (by omega)
        refine j_W.one mg_M mg_198 (by decide) (pcJ := 199) (stJ := [.ref 359]) rfl ?_
        refine j_W.getK mg_M mg_199 (ci := 10) (j := 16) rfl K rfl rfl ?_
        refine j_W.one mg_M mg_202 (by decide) (pcJ := 203) (stJ := [.ref 359, .int (nI p)]) rfl ?_
        refine j_W.getK mg_M mg_203 (ci := 10) (j := 15) rfl K rfl rfl ?_
        refine j_W.one mg_M mg_206 (by decide) (pcJ := 207) (stJ := [.int ((nI p) - (nI p0))]) rfl ?_
        refine j_W.one mg_M mg_207 (by decide) (pcJ := 208) (stJ := [.int 3, .int ((nI p) - (nI p0))]) rfl ?_
        refine j_W.icmp mg_M mg_208 (t := 234) rfl (fun c => ?_) (fun c => ?_)
        · rw [jk_ge] at c; have c := of_decide_eq_true c; rw [e1, show (3 : Int32).toInt = 3 from rfl] at c
          refine j_W.one mg_M mg_234 (by decide) (pcJ := 235) (stJ := [.ref 359]) rfl ?_
          refine j_W.one mg_M mg_235 (by decide) (pcJ := 236) (stJ := [.ref 359, .ref 359]) rfl ?_
          refine j_W.getK mg_M mg_236 (ci := 10) (j := 16) rfl K rfl rfl ?_
          refine j_W.one mg_M mg_239 (by decide) (pcJ := 240) (stJ := [.int 1, .int (nI p), .ref 359]) rfl ?_
          refine j_W.one mg_M mg_240 (by decide) (pcJ := 241) (stJ := [.int ((nI p) + 1), .ref 359]) rfl ?_
          refine j_W.putK mg_M mg_241 (ci := 10) (j := 16) (k' := [(359, .inl (10, [(u 0), (u 1), .ref 361, (u 3), (u 4), (u 5), .ref 365, (u 7), .ref 367, (u 9), (u 10), (u 11), (u 12), (u 13), .int (nI e), .int (nI p0), .int ((nI p) + 1), .int kd, .int (dX m p0 (min (p - p0) 3)), .int fa, .int pa, .long wo, (u 22), (u 23), (u 24), (u 25), (u 26), (u 27)])), (365, .inr (.inl (0, m)))]) rfl K rfl (Nat.le_of_ble_eq_true rfl) rfl (Or.inl rfl) rfl rfl (fun h K => ?_)
          refine j_W.gto mg_M mg_244 (t := 184) rfl ?_
          refine ih (p + 1) h (by omega) (by omega) ?_
          rw [show min (p + 1 - p0) 3 = min (p - p0) 3 by omega]
          rw [nI_succ]; exact K
        · rw [jk_ge] at c; have c := of_decide_eq_false c; rw [e1, show (3 : Int32).toInt = 3 from rfl] at c
          have c2 : min (p - p0) 3 = p - p0 := by omega
          rw [c2] at K
          have K : KN h [(359, .inl (10, [(u 0), (u 1), .ref 361, (u 3), (u 4), (u 5), .ref 365, (u 7), .ref 367, (u 9), (u 10), (u 11), (u 12), (u 13), .int (nI e), .int (nI p0), .int (nI p), .int kd, .int (dX m p0 (p - p0)), .int fa, .int pa, .long wo, (u 22), (u 23), (u 24), (u 25), (u 26), (u 27)])), (365, .inr (.inl (0, m)))] h0 := K
          refine j_W.one mg_M mg_211 (by decide) (pcJ := 212) (stJ := [.ref 359]) rfl ?_
          refine j_W.one mg_M mg_212 (by decide) (pcJ := 214) (stJ := [.int 10, .ref 359]) rfl ?_
          refine j_W.one mg_M mg_214 (by decide) (pcJ := 215) (stJ := [.ref 359, .int 10, .ref 359]) rfl ?_
          refine j_W.getK mg_M mg_215 (ci := 10) (j := 18) rfl K rfl rfl ?_
          refine j_W.one mg_M mg_218 (by decide) (pcJ := 219) (stJ := [.int (10 * (dX m p0 (p - p0))), .ref 359]) rfl ?_
          refine j_W.one mg_M mg_219 (by decide) (pcJ := 220) (stJ := [.ref 359, .int (10 * (dX m p0 (p - p0))), .ref 359]) rfl ?_
          refine j_W.one mg_M mg_220 (by decide) (pcJ := 221) (stJ := [.ref 359, .ref 359, .int (10 * (dX m p0 (p - p0))), .ref 359]) rfl ?_
          refine j_W.getK mg_M mg_221 (ci := 10) (j := 16) rfl K rfl rfl ?_
          refine j_W.call mg_M mg_224 rfl (md := 3) (mj := 182) rfl (by decide) mb_M (As := [.ref 359, .int (nI p)]) (rest := [.int (10 * (dX m p0 (p - p0))), .ref 359]) (jk_spl3 (K.at rfl) rfl rfl rfl (Nat.le_of_ble_eq_true rfl) (Nat.le_of_ble_eq_true rfl)) (mb_ok hm he (by omega) (K.sub ⟨rfl, rfl, trivial⟩)) ?_
          rintro r hz ⟨rfl, ez⟩
          rw [ez]
          clear ez
          show j_W jP _ 185 227 [(1, .int cc), (0, .ref 359)] [.int (bA m e p), .int (10 * (dX m p0 (p - p0))), .ref 359] h _
          rw [bA_in (show p < e by omega)]
          refine j_W.one mg_M mg_227 (by decide) (pcJ := 228) (stJ := [.int ((10 * (dX m p0 (p - p0))) + (m.getD p 0)), .ref 359]) rfl ?_
          refine j_W.one mg_M mg_228 (by decide) (pcJ := 230) (stJ := [.int 48, .int ((10 * (dX m p0 (p - p0))) + (m.getD p 0)), .ref 359]) rfl ?_
          refine j_W.one mg_M mg_230 (by decide) (pcJ := 231) (stJ := [.int (((10 * (dX m p0 (p - p0))) + (m.getD p 0)) - 48), .ref 359]) rfl ?_
          refine j_W.putK mg_M mg_231 (ci := 10) (j := 18) (k' := [(359, .inl (10, [(u 0), (u 1), .ref 361, (u 3), (u 4), (u 5), .ref 365, (u 7), .ref 367, (u 9), (u 10), (u 11), (u 12), (u 13), .int (nI e), .int (nI p0), .int (nI p), .int kd, .int (((10 * (dX m p0 (p - p0))) + (m.getD p 0)) - 48), .int fa, .int pa, .long wo, (u 22), (u 23), (u 24), (u 25), (u 26), (u 27)])), (365, .inr (.inl (0, m)))]) rfl K rfl (Nat.le_of_ble_eq_true rfl) rfl (Or.inl rfl) rfl rfl (fun h K => ?_)
          refine j_W.one mg_M mg_234 (by decide) (pcJ := 235) (stJ := [.ref 359]) rfl ?_
          refine j_W.one mg_M mg_235 (by decide) (pcJ := 236) (stJ := [.ref 359, .ref 359]) rfl ?_
          refine j_W.getK mg_M mg_236 (ci := 10) (j := 16) rfl K rfl rfl ?_
          refine j_W.one mg_M mg_239 (by decide) (pcJ := 240) (stJ := [.int 1, .int (nI p), .ref 359]) rfl ?_
          refine j_W.one mg_M mg_240 (by decide) (pcJ := 241) (stJ := [.int ((nI p) + 1), .ref 359]) rfl ?_
          refine j_W.putK mg_M mg_241 (ci := 10) (j := 16) (k' := [(359, .inl (10, [(u 0), (u 1), .ref 361, (u 3), (u 4), (u 5), .ref 365, (u 7), .ref 367, (u 9), (u 10), (u 11), (u 12), (u 13), .int (nI e), .int (nI p0), .int ((nI p) + 1), .int kd, .int (((10 * (dX m p0 (p - p0))) + (m.getD p 0)) - 48), .int fa, .int pa, .long wo, (u 22), (u 23), (u 24), (u 25), (u 26), (u 27)])), (365, .inr (.inl (0, m)))]) rfl K rfl (Nat.le_of_ble_eq_true rfl) rfl (Or.inl rfl) rfl rfl (fun h K => ?_)
          refine j_W.gto mg_M mg_244 (t := 184) rfl ?_
          refine ih (p + 1) h (by omega) (by omega) ?_
          rw [show min (p + 1 - p0) 3 = (p - p0) + 1 by omega]; unfold dX; rw [show p0 + (p - p0) = p by omega]
          rw [nI_succ]; exact K
    | false =>
      show j_W jP _ 185 195 [(1, .int cc), (0, .ref 359)] [.int 0] h _
      refine j_W.ifc mg_M mg_195 (t := 247) rfl (fun c => ?_) (fun c => ?_)
      · have e0 : sR sD (cX m) (f + 1) p = p := sR_f c0
        rw [e0]
        exact mg_ed hp (by omega) he K
      · cases c
theorem mg_r {u : Nat → Value} {kd fr nu fa pa : Int32} {wo : Int64} {e : Nat} {m : List Int32} {d p q : Nat} {h h0 : J_H} (hm : m.length = 700) (he : e ≤ 700) (hb : ∀ k, k < e → 0 ≤ (m.getD k 0).toInt) (hq : tkQ (cX m) e p = q) (hqe : q ≤ e) (K : KN h [(359, .inl (10, [(u 0), (u 1), .ref 361, (u 3), (u 4), (u 5), .ref 365, (u 7), .ref 367, (u 9), (u 10), (u 11), (u 12), (u 13), .int (nI e), .int fr, .int (nI q), .int kd, .int nu, .int fa, .int pa, .long wo, (u 22), (u 23), (u 24), (u 25), (u 26), (u 27)])), (365, .inr (.inl (0, m)))] h0) : j_W jP (d + 1) 185 39 [(0, .ref 359)] [] h (fun rv h' => rv = none ∧ KN h' [(359, .inl (10, [(u 0), (u 1), .ref 361, (u 3), (u 4), (u 5), .ref 365, (u 7), .ref 367, (u 9), (u 10), (u 11), (u 12), (u 13), .int (nI e), .int (nI (tkQ (cX m) e p)), .int (nI (tkN (cX m) e p)), .int (kM (tkK (cX m) e p)), .int (tkDM m e p nu), .int fa, .int pa, .long (tkWM m e p wo), (u 22), (u 23), (u 24), (u 25), (u 26), (u 27)])), (365, .inr (.inl (0, m)))] h0) := by
  rcases Nat.lt_or_ge q e with hlt | hge
  · refine j_W.one mg_M mg_39 (by decide) (pcJ := 40) (stJ := [.ref 359]) rfl ?_
    refine j_W.one mg_M mg_40 (by decide) (pcJ := 41) (stJ := [.ref 359, .ref 359]) rfl ?_
    refine j_W.getK mg_M mg_41 (ci := 10) (j := 16) rfl K rfl rfl ?_
    refine j_W.putK mg_M mg_44 (ci := 10) (j := 15) (k' := [(359, .inl (10, [(u 0), (u 1), .ref 361, (u 3), (u 4), (u 5), .ref 365, (u 7), .ref 367, (u 9), (u 10), (u 11), (u 12), (u 13), .int (nI e), .int (nI q), .int (nI q), .int kd, .int nu, .int fa, .int pa, .long wo, (u 22), (u 23), (u 24), (u 25), (u 26), (u 27)])), (365, .inr (.inl (0, m)))]) rfl K rfl (Nat.le_of_ble_eq_true rfl) rfl (Or.inl rfl) rfl rfl (fun h K => ?_)
    refine j_W.one mg_M mg_47 (by decide) (pcJ := 48) (stJ := [.ref 359]) rfl ?_
    refine j_W.one mg_M mg_48 (by decide) (pcJ := 49) (stJ := [.ref 359, .ref 359]) rfl ?_
    refine j_W.getK mg_M mg_49 (ci := 10) (j := 16) rfl K rfl rfl ?_
    refine j_W.call mg_M mg_52 rfl (md := 3) (mj := 182) rfl (by decide) mb_M (As := [.ref 359, .int (nI q)]) (rest := []) (jk_spl3 (K.at rfl) rfl rfl rfl (Nat.le_of_ble_eq_true rfl) (Nat.le_of_ble_eq_true rfl)) (mb_ok hm he (by omega) (K.sub ⟨rfl, rfl, trivial⟩)) ?_
    rintro r hz ⟨rfl, ez⟩
    rw [ez]
    clear ez
    show j_W jP _ 185 55 [(0, .ref 359)] [.int (bA m e q)] h _
    rw [bA_in (show q < e by omega)]
    refine j_W.one mg_M mg_55 (by decide) (pcJ := 56) (lv' := [(1, .int (m.getD q 0)), (0, .ref 359)]) (stJ := []) rfl ?_
    refine j_W.one mg_M mg_56 (by decide) (pcJ := 57) (stJ := [.int (m.getD q 0)]) rfl ?_
    refine j_W.one mg_M mg_57 (by decide) (pcJ := 58) (stJ := [.int (-1), .int (m.getD q 0)]) rfl ?_
    refine j_W.icmp mg_M mg_58 (t := 69) rfl (fun c => ?_) (fun c => ?_)
    · clear c
      refine j_W.one mg_M mg_69 (by decide) (pcJ := 70) (stJ := [.int (m.getD q 0)]) rfl ?_
      refine j_W.call mg_M mg_70 rfl (md := 2) (mj := 183) rfl (by decide) mc_M (As := [.int (m.getD q 0)]) (rest := []) (jk_spl2 rfl rfl (Nat.le_of_ble_eq_true rfl) (Nat.le_of_ble_eq_true rfl)) (mc_ok) ?_
      rintro r hz ⟨rfl, ez⟩
      rw [ez]
      clear ez
      show j_W jP _ 185 73 [(1, .int (m.getD q 0)), (0, .ref 359)] [.int (bif sL (m.getD q 0).toInt then 1 else 0)] h _
      cases c0 : sL (m.getD q 0).toInt with
      | true =>
        show j_W jP _ 185 73 [(1, .int (m.getD q 0)), (0, .ref 359)] [.int 1] h _
        refine j_W.ifc mg_M mg_73 (t := 172) rfl (fun c => ?_) (fun c => ?_)
        · cases c
        · clear c
          refine j_W.one mg_M mg_76 (by decide) (pcJ := 77) (stJ := [.ref 359]) rfl ?_
          refine j_W.one mg_M mg_77 (by decide) (pcJ := 78) (stJ := [.long 0, .ref 359]) rfl ?_
          refine j_W.putK mg_M mg_78 (ci := 10) (j := 21) (k' := [(359, .inl (10, [(u 0), (u 1), .ref 361, (u 3), (u 4), (u 5), .ref 365, (u 7), .ref 367, (u 9), (u 10), (u 11), (u 12), (u 13), .int (nI e), .int (nI q), .int (nI q), .int kd, .int nu, .int fa, .int pa, .long 0, (u 22), (u 23), (u 24), (u 25), (u 26), (u 27)])), (365, .inr (.inl (0, m)))]) rfl K rfl (Nat.le_of_ble_eq_true rfl) rfl (Or.inl rfl) rfl rfl (fun h K => ?_)
          refine (mg_l hm he (e - q) q h (by omega) (Nat.le_refl _) (by rw [show min (q - q) 8 = 0 by omega]; exact K)).mono ?_
          rintro rv h9 ⟨rfl, K9⟩
          refine ⟨rfl, ?_⟩
          obtain ⟨k1, k2, k3, k4⟩ := (mk_let (wo := wo) (nu := nu) hq hlt c0)
          rw [k1, k2, k3, k4, hq]
          exact K9
      | false =>
        show j_W jP _ 185 73 [(1, .int (m.getD q 0)), (0, .ref 359)] [.int 0] h _
        refine j_W.ifc mg_M mg_73 (t := 172) rfl (fun c => ?_) (fun c => ?_)
        · clear c
          refine j_W.one mg_M mg_172 (by decide) (pcJ := 173) (stJ := [.int (m.getD q 0)]) rfl ?_
          refine j_W.call mg_M mg_173 rfl (md := 2) (mj := 184) rfl (by decide) md_M (As := [.int (m.getD q 0)]) (rest := []) (jk_spl2 rfl rfl (Nat.le_of_ble_eq_true rfl) (Nat.le_of_ble_eq_true rfl)) (md_ok) ?_
          rintro r hz ⟨rfl, ez⟩
          rw [ez]
          clear ez
          show j_W jP _ 185 176 [(1, .int (m.getD q 0)), (0, .ref 359)] [.int (bif sD (m.getD q 0).toInt then 1 else 0)] h _
          cases c1 : sD (m.getD q 0).toInt with
          | true =>
            show j_W jP _ 185 176 [(1, .int (m.getD q 0)), (0, .ref 359)] [.int 1] h _
            refine j_W.ifc mg_M mg_176 (t := 272) rfl (fun c => ?_) (fun c => ?_)
            · cases c
            · clear c
              refine j_W.one mg_M mg_179 (by decide) (pcJ := 180) (stJ := [.ref 359]) rfl ?_
              refine j_W.one mg_M mg_180 (by decide) (pcJ := 181) (stJ := [.int 0, .ref 359]) rfl ?_
              refine j_W.putK mg_M mg_181 (ci := 10) (j := 18) (k' := [(359, .inl (10, [(u 0), (u 1), .ref 361, (u 3), (u 4), (u 5), .ref 365, (u 7), .ref 367, (u 9), (u 10), (u 11), (u 12), (u 13), .int (nI e), .int (nI q), .int (nI q), .int kd, .int 0, .int fa, .int pa, .long wo, (u 22), (u 23), (u 24), (u 25), (u 26), (u 27)])), (365, .inr (.inl (0, m)))]) rfl K rfl (Nat.le_of_ble_eq_true rfl) rfl (Or.inl rfl) rfl rfl (fun h K => ?_)
              refine (mg_d hm he (e - q) q h (by omega) (Nat.le_refl _) (by rw [show min (q - q) 3 = 0 by omega]; exact K)).mono ?_
              rintro rv h9 ⟨rfl, K9⟩
              refine ⟨rfl, ?_⟩
              obtain ⟨k1, k2, k3, k4⟩ := (mk_dig (wo := wo) (nu := nu) hq hlt c0 c1)
              rw [k1, k2, k3, k4, hq]
              exact K9
          | false =>
            show j_W jP _ 185 176 [(1, .int (m.getD q 0)), (0, .ref 359)] [.int 0] h _
            refine j_W.ifc mg_M mg_176 (t := 272) rfl (fun c => ?_) (fun c => ?_)
            · clear c
              refine j_W.one mg_M mg_272 (by decide) (pcJ := 273) (stJ := [.ref 359]) rfl ?_
              refine j_W.one mg_M mg_273 (by decide) (pcJ := 274) (stJ := [.ref 359, .ref 359]) rfl ?_
              refine j_W.getK mg_M mg_274 (ci := 10) (j := 16) rfl K rfl rfl ?_
              refine j_W.one mg_M mg_277 (by decide) (pcJ := 278) (stJ := [.int 1, .int (nI q), .ref 359]) rfl ?_
              refine j_W.one mg_M mg_278 (by decide) (pcJ := 279) (stJ := [.int ((nI q) + 1), .ref 359]) rfl ?_
              refine j_W.putK mg_M mg_279 (ci := 10) (j := 16) (k' := [(359, .inl (10, [(u 0), (u 1), .ref 361, (u 3), (u 4), (u 5), .ref 365, (u 7), .ref 367, (u 9), (u 10), (u 11), (u 12), (u 13), .int (nI e), .int (nI q), .int ((nI q) + 1), .int kd, .int nu, .int fa, .int pa, .long wo, (u 22), (u 23), (u 24), (u 25), (u 26), (u 27)])), (365, .inr (.inl (0, m)))]) rfl K rfl (Nat.le_of_ble_eq_true rfl) rfl (Or.inl rfl) rfl rfl (fun h K => ?_)
              refine j_W.one mg_M mg_282 (by decide) (pcJ := 283) (stJ := [.ref 359]) rfl ?_
              refine j_W.one mg_M mg_283 (by decide) (pcJ := 284) (stJ := [.int (m.getD q 0), .ref 359]) rfl ?_
              refine j_W.one mg_M mg_284 (by decide) (pcJ := 286) (stJ := [.int 59, .int (m.getD q 0), .ref 359]) rfl ?_
              refine j_W.icmp mg_M mg_286 (t := 293) rfl (fun c => ?_) (fun c => ?_)
              · have c : ¬ cX m q = 59 := fun z => by have z : (m.getD q 0).toInt = (59 : Int32).toInt := z; have c : ¬ m.getD q 0 = 59 := (by simpa [j_cond] using c); exact c (Int32.toInt_inj.mp z)
                refine j_W.one mg_M mg_293 (by decide) (pcJ := 294) (stJ := [.int 1, .ref 359]) rfl ?_
                refine j_W.putK mg_M mg_294 (ci := 10) (j := 17) (k' := [(359, .inl (10, [(u 0), (u 1), .ref 361, (u 3), (u 4), (u 5), .ref 365, (u 7), .ref 367, (u 9), (u 10), (u 11), (u 12), (u 13), .int (nI e), .int (nI q), .int ((nI q) + 1), .int 1, .int nu, .int fa, .int pa, .long wo, (u 22), (u 23), (u 24), (u 25), (u 26), (u 27)])), (365, .inr (.inl (0, m)))]) rfl K rfl (Nat.le_of_ble_eq_true rfl) rfl (Or.inl rfl) rfl rfl (fun h K => ?_)
                refine j_W.ret mg_M mg_297 rfl rfl ⟨rfl, ?_⟩
                obtain ⟨k1, k2, k3, k4⟩ := (mk_oth (wo := wo) (nu := nu) hq hlt c0 c1)
                rw [k1, k2, k3, k4, hq]
                rw [if_neg c, nI_succ]; exact K
              · have c : cX m q = 59 := by have c : m.getD q 0 = 59 := (by simpa [j_cond] using c); show (m.getD q 0).toInt = 59; rw [c]; rfl
                refine j_W.one mg_M mg_289 (by decide) (pcJ := 290) (stJ := [.int 4, .ref 359]) rfl ?_
                refine j_W.gto mg_M mg_290 (t := 294) rfl ?_
                refine j_W.putK mg_M mg_294 (ci := 10) (j := 17) (k' := [(359, .inl (10, [(u 0), (u 1), .ref 361, (u 3), (u 4), (u 5), .ref 365, (u 7), .ref 367, (u 9), (u 10), (u 11), (u 12), (u 13), .int (nI e), .int (nI q), .int ((nI q) + 1), .int 4, .int nu, .int fa, .int pa, .long wo, (u 22), (u 23), (u 24), (u 25), (u 26), (u 27)])), (365, .inr (.inl (0, m)))]) rfl K rfl (Nat.le_of_ble_eq_true rfl) rfl (Or.inl rfl) rfl rfl (fun h K => ?_)
                refine j_W.ret mg_M mg_297 rfl rfl ⟨rfl, ?_⟩
                obtain ⟨k1, k2, k3, k4⟩ := (mk_oth (wo := wo) (nu := nu) hq hlt c0 c1)
                rw [k1, k2, k3, k4, hq]
                rw [if_pos c, nI_succ]; exact K
            · cases c
        · cases c
    · exfalso; have c : m.getD q 0 = -1 := by simpa [j_cond] using c
      have := hb q hlt; rw [c] at this; exact absurd this (by decide)
  · refine j_W.one mg_M mg_39 (by decide) (pcJ := 40) (stJ := [.ref 359]) rfl ?_
    refine j_W.one mg_M mg_40 (by decide) (pcJ := 41) (stJ := [.ref 359, .ref 359]) rfl ?_
    refine j_W.getK mg_M mg_41 (ci := 10) (j := 16) rfl K rfl rfl ?_
    refine j_W.putK mg_M mg_44 (ci := 10) (j := 15) (k' := [(359, .inl (10, [(u 0), (u 1), .ref 361, (u 3), (u 4), (u 5), .ref 365, (u 7), .ref 367, (u 9), (u 10), (u 11), (u 12), (u 13), .int (nI e), .int (nI q), .int (nI q), .int kd, .int nu, .int fa, .int pa, .long wo, (u 22), (u 23), (u 24), (u 25), (u 26), (u 27)])), (365, .inr (.inl (0, m)))]) rfl K rfl (Nat.le_of_ble_eq_true rfl) rfl (Or.inl rfl) rfl rfl (fun h K => ?_)
    refine j_W.one mg_M mg_47 (by decide) (pcJ := 48) (stJ := [.ref 359]) rfl ?_
    refine j_W.one mg_M mg_48 (by decide) (pcJ := 49) (stJ := [.ref 359, .ref 359]) rfl ?_
    refine j_W.getK mg_M mg_49 (ci := 10) (j := 16) rfl K rfl rfl ?_
    refine j_W.call mg_M mg_52 rfl (md := 3) (mj := 182) rfl (by decide) mb_M (As := [.ref 359, .int (nI q)]) (rest := []) (jk_spl3 (K.at rfl) rfl rfl rfl (Nat.le_of_ble_eq_true rfl) (Nat.le_of_ble_eq_true rfl)) (mb_ok hm he (by omega) (K.sub ⟨rfl, rfl, trivial⟩)) ?_
    rintro r hz ⟨rfl, ez⟩
    rw [ez]
    clear ez
    show j_W jP _ 185 55 [(0, .ref 359)] [.int (bA m e q)] h _
    rw [bA_no (show ¬ q < e by omega)]
    refine j_W.one mg_M mg_55 (by decide) (pcJ := 56) (lv' := [(1, .int (-1)), (0, .ref 359)]) (stJ := []) rfl ?_
    refine j_W.one mg_M mg_56 (by decide) (pcJ := 57) (stJ := [.int (-1)]) rfl ?_
    refine j_W.one mg_M mg_57 (by decide) (pcJ := 58) (stJ := [.int (-1), .int (-1)]) rfl ?_
    refine j_W.icmp mg_M mg_58 (t := 69) rfl (fun c => ?_) (fun c => ?_)
    · exact absurd c (by decide)
    · clear c
      refine j_W.one mg_M mg_61 (by decide) (pcJ := 62) (stJ := [.ref 359]) rfl ?_
      refine j_W.one mg_M mg_62 (by decide) (pcJ := 63) (stJ := [.int 0, .ref 359]) rfl ?_
      refine j_W.putK mg_M mg_63 (ci := 10) (j := 17) (k' := [(359, .inl (10, [(u 0), (u 1), .ref 361, (u 3), (u 4), (u 5), .ref 365, (u 7), .ref 367, (u 9), (u 10), (u 11), (u 12), (u 13), .int (nI e), .int (nI q), .int (nI q), .int 0, .int nu, .int fa, .int pa, .long wo, (u 22), (u 23), (u 24), (u 25), (u 26), (u 27)])), (365, .inr (.inl (0, m)))]) rfl K rfl (Nat.le_of_ble_eq_true rfl) rfl (Or.inl rfl) rfl rfl (fun h K => ?_)
      refine j_W.gto mg_M mg_66 (t := 297) rfl ?_
      refine j_W.ret mg_M mg_297 rfl rfl ⟨rfl, ?_⟩
      obtain ⟨k1, k2, k3, k4⟩ := (mk_end (wo := wo) (nu := nu) hq hge)
      rw [k1, k2, k3, k4, hq]
      exact K
theorem mg_ok {u : Nat → Value} {kd fr nu fa pa : Int32} {wo : Int64} {e : Nat} {m : List Int32} {d p : Nat} {h h0 : J_H} (hm : m.length = 700) (he : e ≤ 700) (hb : ∀ k, k < e → 0 ≤ (m.getD k 0).toInt) (hp : p ≤ e) (K : KN h [(359, .inl (10, [(u 0), (u 1), .ref 361, (u 3), (u 4), (u 5), .ref 365, (u 7), .ref 367, (u 9), (u 10), (u 11), (u 12), (u 13), .int (nI e), .int fr, .int (nI p), .int kd, .int nu, .int fa, .int pa, .long wo, (u 22), (u 23), (u 24), (u 25), (u 26), (u 27)])), (365, .inr (.inl (0, m)))] h0) : j_W jP (d + 1) 185 0 (lv_args 0 [.ref 359]) [] h (fun rv h' => rv = none ∧ KN h' [(359, .inl (10, [(u 0), (u 1), .ref 361, (u 3), (u 4), (u 5), .ref 365, (u 7), .ref 367, (u 9), (u 10), (u 11), (u 12), (u 13), .int (nI e), .int (nI (tkQ (cX m) e p)), .int (nI (tkN (cX m) e p)), .int (kM (tkK (cX m) e p)), .int (tkDM m e p nu), .int fa, .int pa, .long (tkWM m e p wo), (u 22), (u 23), (u 24), (u 25), (u 26), (u 27)])), (365, .inr (.inl (0, m)))] h0) := mg_ws hm he (e - p) p h (by omega) K (fun h K => mg_r hm he hb rfl (tkQ_ge hp).2 K)

/-! the class's methods that write, with loops (state 282, layout 343), by wip/px/gen_x3.py -/
set_option maxRecDepth 100000 in
theorem xd36_M : j_meth jP 48 = some (yX5_leftStanding, cX5_leftStanding, 9, (some .int), 3, false, 5) := rfl
set_option maxRecDepth 100000 in
theorem xd36_0 : j_code jP 48 0 = some (.aload_n 1) := rfl
set_option maxRecDepth 100000 in
theorem xd36_1 : j_code jP 48 1 = some (.getfield 18) := rfl
set_option maxRecDepth 100000 in
theorem xd36_4 : j_code jP 48 4 = some (.astore 4) := rfl
set_option maxRecDepth 100000 in
theorem xd36_6 : j_code jP 48 6 = some (.iconst 0) := rfl
set_option maxRecDepth 100000 in
theorem xd36_7 : j_code jP 48 7 = some (.istore 5) := rfl
set_option maxRecDepth 100000 in
theorem xd36_9 : j_code jP 48 9 = some (.iconst 0) := rfl
set_option maxRecDepth 100000 in
theorem xd36_10 : j_code jP 48 10 = some (.istore 6) := rfl
set_option maxRecDepth 100000 in
theorem xd36_12 : j_code jP 48 12 = some (.iconst 0) := rfl
set_option maxRecDepth 100000 in
theorem xd36_13 : j_code jP 48 13 = some (.istore 7) := rfl
set_option maxRecDepth 100000 in
theorem xd36_15 : j_code jP 48 15 = some (.iload 7) := rfl
set_option maxRecDepth 100000 in
theorem xd36_17 : j_code jP 48 17 = some (.aload 4) := rfl
set_option maxRecDepth 100000 in
theorem xd36_19 : j_code jP 48 19 = some (.getfield 24) := rfl
set_option maxRecDepth 100000 in
theorem xd36_22 : j_code jP 48 22 = some (.if_icmp .ge 78) := rfl
set_option maxRecDepth 100000 in
theorem xd36_25 : j_code jP 48 25 = some (.aload_n 0) := rfl
set_option maxRecDepth 100000 in
theorem xd36_26 : j_code jP 48 26 = some (.getfield 15) := rfl
set_option maxRecDepth 100000 in
theorem xd36_29 : j_code jP 48 29 = some (.iload 7) := rfl
set_option maxRecDepth 100000 in
theorem xd36_31 : j_code jP 48 31 = some (.iload 7) := rfl
set_option maxRecDepth 100000 in
theorem xd36_33 : j_code jP 48 33 = some (.iload_n 2) := rfl
set_option maxRecDepth 100000 in
theorem xd36_34 : j_code jP 48 34 = some (.if_icmp .ne 7) := rfl
set_option maxRecDepth 100000 in
theorem xd36_37 : j_code jP 48 37 = some (.iload_n 3) := rfl
set_option maxRecDepth 100000 in
theorem xd36_38 : j_code jP 48 38 = some (.goto 10) := rfl
set_option maxRecDepth 100000 in
theorem xd36_41 : j_code jP 48 41 = some (.aload_n 1) := rfl
set_option maxRecDepth 100000 in
theorem xd36_42 : j_code jP 48 42 = some (.getfield 30) := rfl
set_option maxRecDepth 100000 in
theorem xd36_45 : j_code jP 48 45 = some (.iload 7) := rfl
set_option maxRecDepth 100000 in
theorem xd36_47 : j_code jP 48 47 = some (.iaload) := rfl
set_option maxRecDepth 100000 in
theorem xd36_48 : j_code jP 48 48 = some (.iastore) := rfl
set_option maxRecDepth 100000 in
theorem xd36_49 : j_code jP 48 49 = some (.aload_n 0) := rfl
set_option maxRecDepth 100000 in
theorem xd36_50 : j_code jP 48 50 = some (.getfield 15) := rfl
set_option maxRecDepth 100000 in
theorem xd36_53 : j_code jP 48 53 = some (.iload 7) := rfl
set_option maxRecDepth 100000 in
theorem xd36_55 : j_code jP 48 55 = some (.iaload) := rfl
set_option maxRecDepth 100000 in
theorem xd36_56 : j_code jP 48 56 = some (.ifCond .lt 38) := rfl
set_option maxRecDepth 100000 in
theorem xd36_59 : j_code jP 48 59 = some (.aload_n 0) := rfl
set_option maxRecDepth 100000 in
theorem xd36_60 : j_code jP 48 60 = some (.getfield 15) := rfl
set_option maxRecDepth 100000 in
theorem xd36_63 : j_code jP 48 63 = some (.iload 7) := rfl
set_option maxRecDepth 100000 in
theorem xd36_65 : j_code jP 48 65 = some (.iaload) := rfl
set_option maxRecDepth 100000 in
theorem xd36_66 : j_code jP 48 66 = some (.bipush 21) := rfl
set_option maxRecDepth 100000 in
theorem xd36_68 : j_code jP 48 68 = some (.if_icmp .ge 26) := rfl
set_option maxRecDepth 100000 in
theorem xd36_71 : j_code jP 48 71 = some (.iload 5) := rfl
set_option maxRecDepth 100000 in
theorem xd36_73 : j_code jP 48 73 = some (.iconst 1) := rfl
set_option maxRecDepth 100000 in
theorem xd36_74 : j_code jP 48 74 = some (.iload 7) := rfl
set_option maxRecDepth 100000 in
theorem xd36_76 : j_code jP 48 76 = some (.ishl) := rfl
set_option maxRecDepth 100000 in
theorem xd36_77 : j_code jP 48 77 = some (.ior) := rfl
set_option maxRecDepth 100000 in
theorem xd36_78 : j_code jP 48 78 = some (.istore 5) := rfl
set_option maxRecDepth 100000 in
theorem xd36_80 : j_code jP 48 80 = some (.iload 6) := rfl
set_option maxRecDepth 100000 in
theorem xd36_82 : j_code jP 48 82 = some (.iconst 1) := rfl
set_option maxRecDepth 100000 in
theorem xd36_83 : j_code jP 48 83 = some (.aload_n 0) := rfl
set_option maxRecDepth 100000 in
theorem xd36_84 : j_code jP 48 84 = some (.getfield 15) := rfl
set_option maxRecDepth 100000 in
theorem xd36_87 : j_code jP 48 87 = some (.iload 7) := rfl
set_option maxRecDepth 100000 in
theorem xd36_89 : j_code jP 48 89 = some (.iaload) := rfl
set_option maxRecDepth 100000 in
theorem xd36_90 : j_code jP 48 90 = some (.ishl) := rfl
set_option maxRecDepth 100000 in
theorem xd36_91 : j_code jP 48 91 = some (.ior) := rfl
set_option maxRecDepth 100000 in
theorem xd36_92 : j_code jP 48 92 = some (.istore 6) := rfl
set_option maxRecDepth 100000 in
theorem xd36_94 : j_code jP 48 94 = some (.iinc 7 1) := rfl
set_option maxRecDepth 100000 in
theorem xd36_97 : j_code jP 48 97 = some (.goto (-82)) := rfl
set_option maxRecDepth 100000 in
theorem xd36_100 : j_code jP 48 100 = some (.aload_n 0) := rfl
set_option maxRecDepth 100000 in
theorem xd36_101 : j_code jP 48 101 = some (.iconst 0) := rfl
set_option maxRecDepth 100000 in
theorem xd36_102 : j_code jP 48 102 = some (.putfield 33) := rfl
set_option maxRecDepth 100000 in
theorem xd36_105 : j_code jP 48 105 = some (.iconst 0) := rfl
set_option maxRecDepth 100000 in
theorem xd36_106 : j_code jP 48 106 = some (.istore 7) := rfl
set_option maxRecDepth 100000 in
theorem xd36_108 : j_code jP 48 108 = some (.iload 7) := rfl
set_option maxRecDepth 100000 in
theorem xd36_110 : j_code jP 48 110 = some (.iconst 5) := rfl
set_option maxRecDepth 100000 in
theorem xd36_111 : j_code jP 48 111 = some (.if_icmp .ge 90) := rfl
set_option maxRecDepth 100000 in
theorem xd36_114 : j_code jP 48 114 = some (.iload 5) := rfl
set_option maxRecDepth 100000 in
theorem xd36_116 : j_code jP 48 116 = some (.ifCond .eq 85) := rfl
set_option maxRecDepth 100000 in
theorem xd36_119 : j_code jP 48 119 = some (.aload_n 0) := rfl
set_option maxRecDepth 100000 in
theorem xd36_120 : j_code jP 48 120 = some (.aload 4) := rfl
set_option maxRecDepth 100000 in
theorem xd36_122 : j_code jP 48 122 = some (.iload 5) := rfl
set_option maxRecDepth 100000 in
theorem xd36_124 : j_code jP 48 124 = some (.iload 6) := rfl
set_option maxRecDepth 100000 in
theorem xd36_126 : j_code jP 48 126 = some (.aload_n 1) := rfl
set_option maxRecDepth 100000 in
theorem xd36_127 : j_code jP 48 127 = some (.getfield 36) := rfl
set_option maxRecDepth 100000 in
theorem xd36_130 : j_code jP 48 130 = some (.ior) := rfl
set_option maxRecDepth 100000 in
theorem xd36_131 : j_code jP 48 131 = some (.iconst (-1)) := rfl
set_option maxRecDepth 100000 in
theorem xd36_132 : j_code jP 48 132 = some (.ixor) := rfl
set_option maxRecDepth 100000 in
theorem xd36_133 : j_code jP 48 133 = some (.invokevirtual 39) := rfl
set_option maxRecDepth 100000 in
theorem xd36_136 : j_code jP 48 136 = some (.istore 8) := rfl
set_option maxRecDepth 100000 in
theorem xd36_138 : j_code jP 48 138 = some (.iload 8) := rfl
set_option maxRecDepth 100000 in
theorem xd36_140 : j_code jP 48 140 = some (.iconst (-1)) := rfl
set_option maxRecDepth 100000 in
theorem xd36_141 : j_code jP 48 141 = some (.if_icmp .ne 6) := rfl
set_option maxRecDepth 100000 in
theorem xd36_144 : j_code jP 48 144 = some (.iload 5) := rfl
set_option maxRecDepth 100000 in
theorem xd36_146 : j_code jP 48 146 = some (.ireturn) := rfl
set_option maxRecDepth 100000 in
theorem xd36_147 : j_code jP 48 147 = some (.aload_n 0) := rfl
set_option maxRecDepth 100000 in
theorem xd36_148 : j_code jP 48 148 = some (.getfield 9) := rfl
set_option maxRecDepth 100000 in
theorem xd36_151 : j_code jP 48 151 = some (.aload_n 0) := rfl
set_option maxRecDepth 100000 in
theorem xd36_152 : j_code jP 48 152 = some (.getfield 33) := rfl
set_option maxRecDepth 100000 in
theorem xd36_155 : j_code jP 48 155 = some (.iload 8) := rfl
set_option maxRecDepth 100000 in
theorem xd36_157 : j_code jP 48 157 = some (.iastore) := rfl
set_option maxRecDepth 100000 in
theorem xd36_158 : j_code jP 48 158 = some (.aload_n 0) := rfl
set_option maxRecDepth 100000 in
theorem xd36_159 : j_code jP 48 159 = some (.dup) := rfl
set_option maxRecDepth 100000 in
theorem xd36_160 : j_code jP 48 160 = some (.getfield 33) := rfl
set_option maxRecDepth 100000 in
theorem xd36_163 : j_code jP 48 163 = some (.iconst 1) := rfl
set_option maxRecDepth 100000 in
theorem xd36_164 : j_code jP 48 164 = some (.iadd) := rfl
set_option maxRecDepth 100000 in
theorem xd36_165 : j_code jP 48 165 = some (.putfield 33) := rfl
set_option maxRecDepth 100000 in
theorem xd36_168 : j_code jP 48 168 = some (.iload 5) := rfl
set_option maxRecDepth 100000 in
theorem xd36_170 : j_code jP 48 170 = some (.iconst 1) := rfl
set_option maxRecDepth 100000 in
theorem xd36_171 : j_code jP 48 171 = some (.iload 8) := rfl
set_option maxRecDepth 100000 in
theorem xd36_173 : j_code jP 48 173 = some (.ishl) := rfl
set_option maxRecDepth 100000 in
theorem xd36_174 : j_code jP 48 174 = some (.iconst (-1)) := rfl
set_option maxRecDepth 100000 in
theorem xd36_175 : j_code jP 48 175 = some (.ixor) := rfl
set_option maxRecDepth 100000 in
theorem xd36_176 : j_code jP 48 176 = some (.iand) := rfl
set_option maxRecDepth 100000 in
theorem xd36_177 : j_code jP 48 177 = some (.istore 5) := rfl
set_option maxRecDepth 100000 in
theorem xd36_179 : j_code jP 48 179 = some (.iload 6) := rfl
set_option maxRecDepth 100000 in
theorem xd36_181 : j_code jP 48 181 = some (.iconst 1) := rfl
set_option maxRecDepth 100000 in
theorem xd36_182 : j_code jP 48 182 = some (.aload_n 0) := rfl
set_option maxRecDepth 100000 in
theorem xd36_183 : j_code jP 48 183 = some (.getfield 15) := rfl
set_option maxRecDepth 100000 in
theorem xd36_186 : j_code jP 48 186 = some (.iload 8) := rfl
set_option maxRecDepth 100000 in
theorem xd36_188 : j_code jP 48 188 = some (.iaload) := rfl
set_option maxRecDepth 100000 in
theorem xd36_189 : j_code jP 48 189 = some (.ishl) := rfl
set_option maxRecDepth 100000 in
theorem xd36_190 : j_code jP 48 190 = some (.iconst (-1)) := rfl
set_option maxRecDepth 100000 in
theorem xd36_191 : j_code jP 48 191 = some (.ixor) := rfl
set_option maxRecDepth 100000 in
theorem xd36_192 : j_code jP 48 192 = some (.iand) := rfl
set_option maxRecDepth 100000 in
theorem xd36_193 : j_code jP 48 193 = some (.istore 6) := rfl
set_option maxRecDepth 100000 in
theorem xd36_195 : j_code jP 48 195 = some (.iinc 7 1) := rfl
set_option maxRecDepth 100000 in
theorem xd36_198 : j_code jP 48 198 = some (.goto (-90)) := rfl
set_option maxRecDepth 100000 in
theorem xd36_201 : j_code jP 48 201 = some (.iload 5) := rfl
set_option maxRecDepth 100000 in
theorem xd36_203 : j_code jP 48 203 = some (.ireturn) := rfl
set_option maxRecDepth 1000000 in
theorem xd36_ok_l108 {mi : Int32} {shu : Int32} {bus : Int32} {lks : Int32} {ce : List Int32} {ns : Int32} {nt : Int32} {cel : Int32} {fit : List Int32} {way : List Int32} {v2 v3 : Int32} {d : Nat} {h0 : J_H} : ∀ (f : Nat) (v7 v5 v6 : Int32) (sea : List Int32) (row : List Int32) (rl : Int32) {lv : J_L} {h : J_H}, lpN 5 v7 = f → LK lv [(0, .ref 295), (1, .ref 282), (2, .int v2), (3, .int v3), (4, .ref 343), (5, .int v5), (6, .int v6), (7, .int v7)] → KN h [(282, .inl (7, [.ref 343, .int mi, .int shu, .int bus, .ref 283, .ref 284, .ref 285, .ref 286, .ref 287, .ref 288, .ref 289, .ref 290, .ref 291, .ref 292, .ref 293, .int lks, .ref 294, .ref 295, .ref 298])), (287, .inr (.inl (0, ce))), (295, .inl (5, [.ref 296, .int rl, .ref 297])), (296, .inr (.inl (0, row))), (297, .inr (.inl (0, sea))), (343, .inl (2, [.int ns, .ref 344, .ref 345, .ref 346, .ref 347, .int nt, .ref 348, .ref 349, .ref 350, .ref 351, .ref 352, .ref 353, .ref 354, .int cel, .ref 355, .ref 356, .ref 357, .ref 358])), (355, .inr (.inl (0, fit))), (356, .inr (.inl (0, way)))] h0 → j_V jP d 48 108 lv [] h (fun rv h' => rv = some (.int (x_leftStanding_l108 shu nt fit way v2 v3 f v7 v5 v6 sea row rl).1) ∧ KN h' [(282, .inl (7, [.ref 343, .int mi, .int shu, .int bus, .ref 283, .ref 284, .ref 285, .ref 286, .ref 287, .ref 288, .ref 289, .ref 290, .ref 291, .ref 292, .ref 293, .int lks, .ref 294, .ref 295, .ref 298])), (287, .inr (.inl (0, ce))), (295, .inl (5, [.ref 296, .int (x_leftStanding_l108 shu nt fit way v2 v3 f v7 v5 v6 sea row rl).2.2.2, .ref 297])), (296, .inr (.inl (0, (x_leftStanding_l108 shu nt fit way v2 v3 f v7 v5 v6 sea row rl).2.2.1))), (297, .inr (.inl (0, (x_leftStanding_l108 shu nt fit way v2 v3 f v7 v5 v6 sea row rl).2.1))), (343, .inl (2, [.int ns, .ref 344, .ref 345, .ref 346, .ref 347, .int nt, .ref 348, .ref 349, .ref 350, .ref 351, .ref 352, .ref 353, .ref 354, .int cel, .ref 355, .ref 356, .ref 357, .ref 358])), (355, .inr (.inl (0, fit))), (356, .inr (.inl (0, way)))] h0) := by
  intro f
  induction f with
  | zero =>
    intro v7 v5 v6 sea row rl lv h e L K
    refine j_V.ldL xd36_M xd36_108 rfl (i := 7) (kd := 0) (v := .int v7) (pcJ := 110) rfl L rfl rfl rfl ?_
    refine j_V.one xd36_M xd36_110 (by decide) (pcJ := 111) (stJ := [.int 5, .int v7]) rfl ?_
    refine j_V.icmp xd36_M xd36_111 (t := 201) rfl (fun c111_0 => ?_) (fun c111_0 => ?_)
    · replace c111_0 : ¬ (v7 < 5) := jd_ge c111_0
      refine j_V.ldL xd36_M xd36_201 rfl (i := 5) (kd := 0) (v := .int v5) (pcJ := 203) rfl L rfl rfl rfl ?_
      refine j_V.ri xd36_M xd36_203 ?_
      rw [show (x_leftStanding_l108 shu nt fit way v2 v3 0 v7 v5 v6 sea row rl) = _ from (rfl)]
      exact ⟨rfl, K⟩
    · replace c111_0 : v7 < 5 := jd_gen c111_0
      exact absurd c111_0 (lpN_z e)
  | succ f ih =>
    intro v7 v5 v6 sea row rl lv h e L K
    refine j_V.ldL xd36_M xd36_108 rfl (i := 7) (kd := 0) (v := .int v7) (pcJ := 110) rfl L rfl rfl rfl ?_
    refine j_V.one xd36_M xd36_110 (by decide) (pcJ := 111) (stJ := [.int 5, .int v7]) rfl ?_
    refine j_V.icmp xd36_M xd36_111 (t := 201) rfl (fun c111_0 => ?_) (fun c111_0 => ?_)
    · replace c111_0 : ¬ (v7 < 5) := jd_ge c111_0
      exact absurd (lpN_s e) c111_0
    · replace c111_0 : v7 < 5 := jd_gen c111_0
      refine j_V.ldL xd36_M xd36_114 rfl (i := 5) (kd := 0) (v := .int v5) (pcJ := 116) rfl L rfl rfl rfl ?_
      refine j_V.ifc xd36_M xd36_116 (t := 201) rfl (fun c116_0 => ?_) (fun c116_0 => ?_)
      · replace c116_0 : v5 = 0 := jd_eq c116_0
        refine j_V.ldL xd36_M xd36_201 rfl (i := 5) (kd := 0) (v := .int v5) (pcJ := 203) rfl L rfl rfl rfl ?_
        refine j_V.ri xd36_M xd36_203 ?_
        rw [show (x_leftStanding_l108 shu nt fit way v2 v3 (f + 1) v7 v5 v6 sea row rl) = _ from ((if_pos c116_0).trans (rfl))]
        exact ⟨rfl, K⟩
      · replace c116_0 : ¬ (v5 = 0) := jd_eqn c116_0
        refine j_V.ldL xd36_M xd36_119 rfl (i := 0) (kd := 2) (v := .ref 295) (pcJ := 120) rfl L rfl rfl rfl ?_
        refine j_V.ldL xd36_M xd36_120 rfl (i := 4) (kd := 2) (v := .ref 343) (pcJ := 122) rfl L rfl rfl rfl ?_
        refine j_V.ldL xd36_M xd36_122 rfl (i := 5) (kd := 0) (v := .int v5) (pcJ := 124) rfl L rfl rfl rfl ?_
        refine j_V.ldL xd36_M xd36_124 rfl (i := 6) (kd := 0) (v := .int v6) (pcJ := 126) rfl L rfl rfl rfl ?_
        refine j_V.ldL xd36_M xd36_126 rfl (i := 1) (kd := 2) (v := .ref 282) (pcJ := 127) rfl L rfl rfl rfl ?_
        refine j_V.getK xd36_M xd36_127 (ci := 7) (j := 2) rfl K rfl rfl ?_
        refine j_V.one xd36_M xd36_130 (by decide) (pcJ := 131) (stJ := [.int (v6 ||| shu), .int v5, .ref 343, .ref 295]) rfl ?_
        refine j_V.one xd36_M xd36_131 (by decide) (pcJ := 132) (stJ := [.int (-1), .int (v6 ||| shu), .int v5, .ref 343, .ref 295]) rfl ?_
        refine j_V.one xd36_M xd36_132 (by decide) (pcJ := 133) (stJ := [.int ((v6 ||| shu) ^^^ (-1)), .int v5, .ref 343, .ref 295]) rfl ?_
        refine j_V.cl xd36_M xd36_133 rfl (md := 3) (mj := 49) rfl (by decide) xd27_M (As := [.ref 295, .ref 343, .int v5, .int ((v6 ||| shu) ^^^ (-1))]) (rest := []) (jk_spl3 (K.at rfl) rfl rfl rfl (Nat.le_of_ble_eq_true rfl) (Nat.le_of_ble_eq_true rfl)) (fun d => xd27_ok (K.fi [295, 297, 343, 355, 356] rfl rfl)) ?_
        rintro r hz ⟨rfl, ez⟩
        rw [ez]
        clear ez
        show j_V jP _ 48 136 lv [.int (x_firstThrough sea nt fit way v5 ((v6 ||| shu) ^^^ (-1)))] h _
        refine j_V.stL xd36_M xd36_136 rfl (i := 8) (kd := 0) (kl' := [(0, .ref 295), (1, .ref 282), (2, .int v2), (3, .int v3), (4, .ref 343), (5, .int v5), (6, .int v6), (7, .int v7), (8, .int (x_firstThrough sea nt fit way v5 ((v6 ||| shu) ^^^ (-1))))]) (pcJ := 138) rfl L rfl (by decide) rfl rfl rfl (fun lv L => ?_)
        refine j_V.ldL xd36_M xd36_138 rfl (i := 8) (kd := 0) (v := .int (x_firstThrough sea nt fit way v5 ((v6 ||| shu) ^^^ (-1)))) (pcJ := 140) rfl L rfl rfl rfl ?_
        refine j_V.one xd36_M xd36_140 (by decide) (pcJ := 141) (stJ := [.int (-1), .int (x_firstThrough sea nt fit way v5 ((v6 ||| shu) ^^^ (-1)))]) rfl ?_
        refine j_V.icmp xd36_M xd36_141 (t := 147) rfl (fun c141_1 => ?_) (fun c141_1 => ?_)
        · replace c141_1 : ¬ ((x_firstThrough sea nt fit way v5 ((v6 ||| shu) ^^^ (-1))) = (-1)) := jd_ne c141_1
          refine j_V.ldL xd36_M xd36_147 rfl (i := 0) (kd := 2) (v := .ref 295) (pcJ := 148) rfl L rfl rfl rfl ?_
          refine j_V.getK xd36_M xd36_148 (ci := 5) (j := 0) rfl K rfl rfl ?_
          refine j_V.ldL xd36_M xd36_151 rfl (i := 0) (kd := 2) (v := .ref 295) (pcJ := 152) rfl L rfl rfl rfl ?_
          refine j_V.getK xd36_M xd36_152 (ci := 5) (j := 1) rfl K rfl rfl ?_
          refine j_V.ldL xd36_M xd36_155 rfl (i := 8) (kd := 0) (v := .int (x_firstThrough sea nt fit way v5 ((v6 ||| shu) ^^^ (-1)))) (pcJ := 157) rfl L rfl rfl rfl ?_
          refine j_V.isA xd36_M xd36_157 (k' := [(282, .inl (7, [.ref 343, .int mi, .int shu, .int bus, .ref 283, .ref 284, .ref 285, .ref 286, .ref 287, .ref 288, .ref 289, .ref 290, .ref 291, .ref 292, .ref 293, .int lks, .ref 294, .ref 295, .ref 298])), (287, .inr (.inl (0, ce))), (295, .inl (5, [.ref 296, .int rl, .ref 297])), (296, .inr (.inl (0, (sA row rl (x_firstThrough sea nt fit way v5 ((v6 ||| shu) ^^^ (-1))))))), (297, .inr (.inl (0, sea))), (343, .inl (2, [.int ns, .ref 344, .ref 345, .ref 346, .ref 347, .int nt, .ref 348, .ref 349, .ref 350, .ref 351, .ref 352, .ref 353, .ref 354, .int cel, .ref 355, .ref 356, .ref 357, .ref 358])), (355, .inr (.inl (0, fit))), (356, .inr (.inl (0, way)))]) K rfl rfl (fun h K => ?_)
          obtain ⟨row1, erow1⟩ : ∃ z, z = (sA row rl (x_firstThrough sea nt fit way v5 ((v6 ||| shu) ^^^ (-1)))) := ⟨_, rfl⟩
          rw [← erow1] at K
          refine j_V.ldL xd36_M xd36_158 rfl (i := 0) (kd := 2) (v := .ref 295) (pcJ := 159) rfl L rfl rfl rfl ?_
          refine j_V.one xd36_M xd36_159 (by decide) (pcJ := 160) (stJ := [.ref 295, .ref 295]) rfl ?_
          refine j_V.getK xd36_M xd36_160 (ci := 5) (j := 1) rfl K rfl rfl ?_
          refine j_V.one xd36_M xd36_163 (by decide) (pcJ := 164) (stJ := [.int 1, .int rl, .ref 295]) rfl ?_
          refine j_V.one xd36_M xd36_164 (by decide) (pcJ := 165) (stJ := [.int (rl + 1), .ref 295]) rfl ?_
          refine j_V.putK xd36_M xd36_165 (ci := 5) (j := 1) (k' := [(282, .inl (7, [.ref 343, .int mi, .int shu, .int bus, .ref 283, .ref 284, .ref 285, .ref 286, .ref 287, .ref 288, .ref 289, .ref 290, .ref 291, .ref 292, .ref 293, .int lks, .ref 294, .ref 295, .ref 298])), (287, .inr (.inl (0, ce))), (295, .inl (5, [.ref 296, .int (rl + 1), .ref 297])), (296, .inr (.inl (0, row1))), (297, .inr (.inl (0, sea))), (343, .inl (2, [.int ns, .ref 344, .ref 345, .ref 346, .ref 347, .int nt, .ref 348, .ref 349, .ref 350, .ref 351, .ref 352, .ref 353, .ref 354, .int cel, .ref 355, .ref 356, .ref 357, .ref 358])), (355, .inr (.inl (0, fit))), (356, .inr (.inl (0, way)))]) rfl K rfl (Nat.le_of_ble_eq_true rfl) rfl (Or.inl rfl) rfl rfl (fun h K => ?_)
          obtain ⟨rl1, erl1⟩ : ∃ z, z = (rl + 1) := ⟨_, rfl⟩
          rw [← erl1] at K
          refine j_V.ldL xd36_M xd36_168 rfl (i := 5) (kd := 0) (v := .int v5) (pcJ := 170) rfl L rfl rfl rfl ?_
          refine j_V.one xd36_M xd36_170 (by decide) (pcJ := 171) (stJ := [.int 1, .int v5]) rfl ?_
          refine j_V.ldL xd36_M xd36_171 rfl (i := 8) (kd := 0) (v := .int (x_firstThrough sea nt fit way v5 ((v6 ||| shu) ^^^ (-1)))) (pcJ := 173) rfl L rfl rfl rfl ?_
          refine j_V.one xd36_M xd36_173 (by decide) (pcJ := 174) (stJ := [.int (1 <<< ((x_firstThrough sea nt fit way v5 ((v6 ||| shu) ^^^ (-1))) &&& 31)), .int v5]) rfl ?_
          refine j_V.one xd36_M xd36_174 (by decide) (pcJ := 175) (stJ := [.int (-1), .int (1 <<< ((x_firstThrough sea nt fit way v5 ((v6 ||| shu) ^^^ (-1))) &&& 31)), .int v5]) rfl ?_
          refine j_V.one xd36_M xd36_175 (by decide) (pcJ := 176) (stJ := [.int ((1 <<< ((x_firstThrough sea nt fit way v5 ((v6 ||| shu) ^^^ (-1))) &&& 31)) ^^^ (-1)), .int v5]) rfl ?_
          refine j_V.one xd36_M xd36_176 (by decide) (pcJ := 177) (stJ := [.int (v5 &&& ((1 <<< ((x_firstThrough sea nt fit way v5 ((v6 ||| shu) ^^^ (-1))) &&& 31)) ^^^ (-1)))]) rfl ?_
          refine j_V.stL xd36_M xd36_177 rfl (i := 5) (kd := 0) (kl' := [(0, .ref 295), (1, .ref 282), (2, .int v2), (3, .int v3), (4, .ref 343), (5, .int (v5 &&& ((1 <<< ((x_firstThrough sea nt fit way v5 ((v6 ||| shu) ^^^ (-1))) &&& 31)) ^^^ (-1)))), (6, .int v6), (7, .int v7), (8, .int (x_firstThrough sea nt fit way v5 ((v6 ||| shu) ^^^ (-1))))]) (pcJ := 179) rfl L rfl (by decide) rfl rfl rfl (fun lv L => ?_)
          refine j_V.ldL xd36_M xd36_179 rfl (i := 6) (kd := 0) (v := .int v6) (pcJ := 181) rfl L rfl rfl rfl ?_
          refine j_V.one xd36_M xd36_181 (by decide) (pcJ := 182) (stJ := [.int 1, .int v6]) rfl ?_
          refine j_V.ldL xd36_M xd36_182 rfl (i := 0) (kd := 2) (v := .ref 295) (pcJ := 183) rfl L rfl rfl rfl ?_
          refine j_V.getK xd36_M xd36_183 (ci := 5) (j := 2) rfl K rfl rfl ?_
          refine j_V.ldL xd36_M xd36_186 rfl (i := 8) (kd := 0) (v := .int (x_firstThrough sea nt fit way v5 ((v6 ||| shu) ^^^ (-1)))) (pcJ := 188) rfl L rfl rfl rfl ?_
          refine j_V.iaA xd36_M xd36_188 K rfl ?_
          refine j_V.one xd36_M xd36_189 (by decide) (pcJ := 190) (stJ := [.int (1 <<< ((gA sea (x_firstThrough sea nt fit way v5 ((v6 ||| shu) ^^^ (-1)))) &&& 31)), .int v6]) rfl ?_
          refine j_V.one xd36_M xd36_190 (by decide) (pcJ := 191) (stJ := [.int (-1), .int (1 <<< ((gA sea (x_firstThrough sea nt fit way v5 ((v6 ||| shu) ^^^ (-1)))) &&& 31)), .int v6]) rfl ?_
          refine j_V.one xd36_M xd36_191 (by decide) (pcJ := 192) (stJ := [.int ((1 <<< ((gA sea (x_firstThrough sea nt fit way v5 ((v6 ||| shu) ^^^ (-1)))) &&& 31)) ^^^ (-1)), .int v6]) rfl ?_
          refine j_V.one xd36_M xd36_192 (by decide) (pcJ := 193) (stJ := [.int (v6 &&& ((1 <<< ((gA sea (x_firstThrough sea nt fit way v5 ((v6 ||| shu) ^^^ (-1)))) &&& 31)) ^^^ (-1)))]) rfl ?_
          refine j_V.stL xd36_M xd36_193 rfl (i := 6) (kd := 0) (kl' := [(0, .ref 295), (1, .ref 282), (2, .int v2), (3, .int v3), (4, .ref 343), (5, .int (v5 &&& ((1 <<< ((x_firstThrough sea nt fit way v5 ((v6 ||| shu) ^^^ (-1))) &&& 31)) ^^^ (-1)))), (6, .int (v6 &&& ((1 <<< ((gA sea (x_firstThrough sea nt fit way v5 ((v6 ||| shu) ^^^ (-1)))) &&& 31)) ^^^ (-1)))), (7, .int v7), (8, .int (x_firstThrough sea nt fit way v5 ((v6 ||| shu) ^^^ (-1))))]) (pcJ := 195) rfl L rfl (by decide) rfl rfl rfl (fun lv L => ?_)
          refine j_V.inL xd36_M xd36_195 (i := 7) (kl' := [(0, .ref 295), (1, .ref 282), (2, .int v2), (3, .int v3), (4, .ref 343), (5, .int (v5 &&& ((1 <<< ((x_firstThrough sea nt fit way v5 ((v6 ||| shu) ^^^ (-1))) &&& 31)) ^^^ (-1)))), (6, .int (v6 &&& ((1 <<< ((gA sea (x_firstThrough sea nt fit way v5 ((v6 ||| shu) ^^^ (-1)))) &&& 31)) ^^^ (-1)))), (7, .int (v7 + 1)), (8, .int (x_firstThrough sea nt fit way v5 ((v6 ||| shu) ^^^ (-1))))]) (pcJ := 198) L rfl rfl rfl rfl (fun lv L => ?_)
          refine j_V.gto xd36_M xd36_198 (t := 108) rfl ?_
          subst erl1
          subst erow1
          rw [show (x_leftStanding_l108 shu nt fit way v2 v3 (f + 1) v7 v5 v6 sea row rl) = _ from ((if_neg c116_0).trans ((if_neg c141_1).trans (rfl)))]
          exact ih _ _ _ _ _ _ (lpN_n e) (L.sub ⟨rfl, rfl, rfl, rfl, rfl, rfl, rfl, rfl, trivial⟩) K
        · replace c141_1 : (x_firstThrough sea nt fit way v5 ((v6 ||| shu) ^^^ (-1))) = (-1) := jd_nen c141_1
          refine j_V.ldL xd36_M xd36_144 rfl (i := 5) (kd := 0) (v := .int v5) (pcJ := 146) rfl L rfl rfl rfl ?_
          refine j_V.ri xd36_M xd36_146 ?_
          rw [show (x_leftStanding_l108 shu nt fit way v2 v3 (f + 1) v7 v5 v6 sea row rl) = _ from ((if_neg c116_0).trans ((if_pos c141_1).trans (rfl)))]
          exact ⟨rfl, K⟩
set_option maxRecDepth 1000000 in
theorem xd36_ok_l15 {mi : Int32} {shu : Int32} {bus : Int32} {lks : Int32} {ce : List Int32} {ns : Int32} {nt : Int32} {cel : Int32} {fit : List Int32} {way : List Int32} {v2 v3 : Int32} {d : Nat} {h0 : J_H} : ∀ (f : Nat) (v7 v5 v6 : Int32) (sea : List Int32) (row : List Int32) (rl : Int32) {lv : J_L} {h : J_H}, lpN nt v7 = f → LK lv [(0, .ref 295), (1, .ref 282), (2, .int v2), (3, .int v3), (4, .ref 343), (5, .int v5), (6, .int v6), (7, .int v7)] → KN h [(282, .inl (7, [.ref 343, .int mi, .int shu, .int bus, .ref 283, .ref 284, .ref 285, .ref 286, .ref 287, .ref 288, .ref 289, .ref 290, .ref 291, .ref 292, .ref 293, .int lks, .ref 294, .ref 295, .ref 298])), (287, .inr (.inl (0, ce))), (295, .inl (5, [.ref 296, .int rl, .ref 297])), (296, .inr (.inl (0, row))), (297, .inr (.inl (0, sea))), (343, .inl (2, [.int ns, .ref 344, .ref 345, .ref 346, .ref 347, .int nt, .ref 348, .ref 349, .ref 350, .ref 351, .ref 352, .ref 353, .ref 354, .int cel, .ref 355, .ref 356, .ref 357, .ref 358])), (355, .inr (.inl (0, fit))), (356, .inr (.inl (0, way)))] h0 → j_V jP d 48 15 lv [] h (fun rv h' => rv = some (.int (x_leftStanding_l15 shu ce nt fit way v2 v3 f v7 v5 v6 sea row rl).1) ∧ KN h' [(282, .inl (7, [.ref 343, .int mi, .int shu, .int bus, .ref 283, .ref 284, .ref 285, .ref 286, .ref 287, .ref 288, .ref 289, .ref 290, .ref 291, .ref 292, .ref 293, .int lks, .ref 294, .ref 295, .ref 298])), (287, .inr (.inl (0, ce))), (295, .inl (5, [.ref 296, .int (x_leftStanding_l15 shu ce nt fit way v2 v3 f v7 v5 v6 sea row rl).2.2.2, .ref 297])), (296, .inr (.inl (0, (x_leftStanding_l15 shu ce nt fit way v2 v3 f v7 v5 v6 sea row rl).2.2.1))), (297, .inr (.inl (0, (x_leftStanding_l15 shu ce nt fit way v2 v3 f v7 v5 v6 sea row rl).2.1))), (343, .inl (2, [.int ns, .ref 344, .ref 345, .ref 346, .ref 347, .int nt, .ref 348, .ref 349, .ref 350, .ref 351, .ref 352, .ref 353, .ref 354, .int cel, .ref 355, .ref 356, .ref 357, .ref 358])), (355, .inr (.inl (0, fit))), (356, .inr (.inl (0, way)))] h0) := by
  intro f
  induction f with
  | zero =>
    intro v7 v5 v6 sea row rl lv h e L K
    refine j_V.ldL xd36_M xd36_15 rfl (i := 7) (kd := 0) (v := .int v7) (pcJ := 17) rfl L rfl rfl rfl ?_
    refine j_V.ldL xd36_M xd36_17 rfl (i := 4) (kd := 2) (v := .ref 343) (pcJ := 19) rfl L rfl rfl rfl ?_
    refine j_V.getK xd36_M xd36_19 (ci := 2) (j := 5) rfl K rfl rfl ?_
    refine j_V.icmp xd36_M xd36_22 (t := 100) rfl (fun c22_0 => ?_) (fun c22_0 => ?_)
    · replace c22_0 : ¬ (v7 < nt) := jd_ge c22_0
      refine j_V.ldL xd36_M xd36_100 rfl (i := 0) (kd := 2) (v := .ref 295) (pcJ := 101) rfl L rfl rfl rfl ?_
      refine j_V.one xd36_M xd36_101 (by decide) (pcJ := 102) (stJ := [.int 0, .ref 295]) rfl ?_
      refine j_V.putK xd36_M xd36_102 (ci := 5) (j := 1) (k' := [(282, .inl (7, [.ref 343, .int mi, .int shu, .int bus, .ref 283, .ref 284, .ref 285, .ref 286, .ref 287, .ref 288, .ref 289, .ref 290, .ref 291, .ref 292, .ref 293, .int lks, .ref 294, .ref 295, .ref 298])), (287, .inr (.inl (0, ce))), (295, .inl (5, [.ref 296, .int 0, .ref 297])), (296, .inr (.inl (0, row))), (297, .inr (.inl (0, sea))), (343, .inl (2, [.int ns, .ref 344, .ref 345, .ref 346, .ref 347, .int nt, .ref 348, .ref 349, .ref 350, .ref 351, .ref 352, .ref 353, .ref 354, .int cel, .ref 355, .ref 356, .ref 357, .ref 358])), (355, .inr (.inl (0, fit))), (356, .inr (.inl (0, way)))]) rfl K rfl (Nat.le_of_ble_eq_true rfl) rfl (Or.inl rfl) rfl rfl (fun h K => ?_)
      refine j_V.one xd36_M xd36_105 (by decide) (pcJ := 106) (stJ := [.int 0]) rfl ?_
      refine j_V.stL xd36_M xd36_106 rfl (i := 7) (kd := 0) (kl' := [(0, .ref 295), (1, .ref 282), (2, .int v2), (3, .int v3), (4, .ref 343), (5, .int v5), (6, .int v6), (7, .int 0)]) (pcJ := 108) rfl L rfl (by decide) rfl rfl rfl (fun lv L => ?_)
      rw [show (x_leftStanding_l15 shu ce nt fit way v2 v3 0 v7 v5 v6 sea row rl) = _ from (rfl)]
      exact xd36_ok_l108 _ _ _ _ _ _ _ rfl L K
    · replace c22_0 : v7 < nt := jd_gen c22_0
      exact absurd c22_0 (lpN_z e)
  | succ f ih =>
    intro v7 v5 v6 sea row rl lv h e L K
    refine j_V.ldL xd36_M xd36_15 rfl (i := 7) (kd := 0) (v := .int v7) (pcJ := 17) rfl L rfl rfl rfl ?_
    refine j_V.ldL xd36_M xd36_17 rfl (i := 4) (kd := 2) (v := .ref 343) (pcJ := 19) rfl L rfl rfl rfl ?_
    refine j_V.getK xd36_M xd36_19 (ci := 2) (j := 5) rfl K rfl rfl ?_
    refine j_V.icmp xd36_M xd36_22 (t := 100) rfl (fun c22_0 => ?_) (fun c22_0 => ?_)
    · replace c22_0 : ¬ (v7 < nt) := jd_ge c22_0
      exact absurd (lpN_s e) c22_0
    · replace c22_0 : v7 < nt := jd_gen c22_0
      refine j_V.ldL xd36_M xd36_25 rfl (i := 0) (kd := 2) (v := .ref 295) (pcJ := 26) rfl L rfl rfl rfl ?_
      refine j_V.getK xd36_M xd36_26 (ci := 5) (j := 2) rfl K rfl rfl ?_
      refine j_V.ldL xd36_M xd36_29 rfl (i := 7) (kd := 0) (v := .int v7) (pcJ := 31) rfl L rfl rfl rfl ?_
      refine j_V.ldL xd36_M xd36_31 rfl (i := 7) (kd := 0) (v := .int v7) (pcJ := 33) rfl L rfl rfl rfl ?_
      refine j_V.ldL xd36_M xd36_33 rfl (i := 2) (kd := 0) (v := .int v2) (pcJ := 34) rfl L rfl rfl rfl ?_
      refine j_V.cut (b := 48) (stJ := [.int ((if v7 = v2 then v3 else (gA ce v7)) : Int32), .int v7, .ref 297]) (fun v => [(0, .ref 295), (1, .ref 282), (2, .int v2), (3, .int v3), (4, .ref 343), (5, .int v5), (6, .int v6), (7, .int v7)]) ((if v7 = v2 then v3 else (gA ce v7)) : Int32) (fun Q kk => ?_) (fun lv L => ?_)
      · refine j_V.icmp xd36_M xd36_34 (t := 41) rfl (fun c34_0 => ?_) (fun c34_0 => ?_)
        · replace c34_0 : ¬ (v7 = v2) := jd_ne c34_0
          refine j_V.ldL xd36_M xd36_41 rfl (i := 1) (kd := 2) (v := .ref 282) (pcJ := 42) rfl L rfl rfl rfl ?_
          refine j_V.getK xd36_M xd36_42 (ci := 7) (j := 8) rfl K rfl rfl ?_
          refine j_V.ldL xd36_M xd36_45 rfl (i := 7) (kd := 0) (v := .int v7) (pcJ := 47) rfl L rfl rfl rfl ?_
          refine j_V.iaA xd36_M xd36_47 K rfl ?_
          exact Eq.subst (motive := fun z => j_V jP _ 48 48 _ (.int z :: [.int v7, .ref 297]) h Q) (show ((if v7 = v2 then v3 else (gA ce v7)) : Int32) = (gA ce v7) from (if_neg c34_0).trans (rfl)) (kk _ L)
        · replace c34_0 : v7 = v2 := jd_nen c34_0
          refine j_V.ldL xd36_M xd36_37 rfl (i := 3) (kd := 0) (v := .int v3) (pcJ := 38) rfl L rfl rfl rfl ?_
          refine j_V.gto xd36_M xd36_38 (t := 48) rfl ?_
          exact Eq.subst (motive := fun z => j_V jP _ 48 48 _ (.int z :: [.int v7, .ref 297]) h Q) (show ((if v7 = v2 then v3 else (gA ce v7)) : Int32) = v3 from (if_pos c34_0).trans (rfl)) (kk _ L)
      refine j_V.isA xd36_M xd36_48 (k' := [(282, .inl (7, [.ref 343, .int mi, .int shu, .int bus, .ref 283, .ref 284, .ref 285, .ref 286, .ref 287, .ref 288, .ref 289, .ref 290, .ref 291, .ref 292, .ref 293, .int lks, .ref 294, .ref 295, .ref 298])), (287, .inr (.inl (0, ce))), (295, .inl (5, [.ref 296, .int rl, .ref 297])), (296, .inr (.inl (0, row))), (297, .inr (.inl (0, (sA sea v7 ((if v7 = v2 then v3 else (gA ce v7)) : Int32))))), (343, .inl (2, [.int ns, .ref 344, .ref 345, .ref 346, .ref 347, .int nt, .ref 348, .ref 349, .ref 350, .ref 351, .ref 352, .ref 353, .ref 354, .int cel, .ref 355, .ref 356, .ref 357, .ref 358])), (355, .inr (.inl (0, fit))), (356, .inr (.inl (0, way)))]) K rfl rfl (fun h K => ?_)
      obtain ⟨sea1, esea1⟩ : ∃ z, z = (sA sea v7 ((if v7 = v2 then v3 else (gA ce v7)) : Int32)) := ⟨_, rfl⟩
      rw [← esea1] at K
      refine j_V.ldL xd36_M xd36_49 rfl (i := 0) (kd := 2) (v := .ref 295) (pcJ := 50) rfl L rfl rfl rfl ?_
      refine j_V.getK xd36_M xd36_50 (ci := 5) (j := 2) rfl K rfl rfl ?_
      refine j_V.ldL xd36_M xd36_53 rfl (i := 7) (kd := 0) (v := .int v7) (pcJ := 55) rfl L rfl rfl rfl ?_
      refine j_V.iaA xd36_M xd36_55 K rfl ?_
      refine j_V.ifc xd36_M xd36_56 (t := 94) rfl (fun c56_0 => ?_) (fun c56_0 => ?_)
      · replace c56_0 : (gA sea1 v7) < 0 := jd_lt c56_0
        refine j_V.inL xd36_M xd36_94 (i := 7) (kl' := [(0, .ref 295), (1, .ref 282), (2, .int v2), (3, .int v3), (4, .ref 343), (5, .int v5), (6, .int v6), (7, .int (v7 + 1))]) (pcJ := 97) L rfl rfl rfl rfl (fun lv L => ?_)
        refine j_V.gto xd36_M xd36_97 (t := 15) rfl ?_
        subst esea1
        rw [show (x_leftStanding_l15 shu ce nt fit way v2 v3 (f + 1) v7 v5 v6 sea row rl) = _ from ((if_pos c56_0).trans (rfl))]
        exact ih _ _ _ _ _ _ (lpN_n e) L K
      · replace c56_0 : ¬ ((gA sea1 v7) < 0) := jd_ltn c56_0
        refine j_V.ldL xd36_M xd36_59 rfl (i := 0) (kd := 2) (v := .ref 295) (pcJ := 60) rfl L rfl rfl rfl ?_
        refine j_V.getK xd36_M xd36_60 (ci := 5) (j := 2) rfl K rfl rfl ?_
        refine j_V.ldL xd36_M xd36_63 rfl (i := 7) (kd := 0) (v := .int v7) (pcJ := 65) rfl L rfl rfl rfl ?_
        refine j_V.iaA xd36_M xd36_65 K rfl ?_
        refine j_V.one xd36_M xd36_66 (by decide) (pcJ := 68) (stJ := [.int 21, .int (gA sea1 v7)]) rfl ?_
        refine j_V.icmp xd36_M xd36_68 (t := 94) rfl (fun c68_1 => ?_) (fun c68_1 => ?_)
        · replace c68_1 : ¬ ((gA sea1 v7) < 21) := jd_ge c68_1
          refine j_V.inL xd36_M xd36_94 (i := 7) (kl' := [(0, .ref 295), (1, .ref 282), (2, .int v2), (3, .int v3), (4, .ref 343), (5, .int v5), (6, .int v6), (7, .int (v7 + 1))]) (pcJ := 97) L rfl rfl rfl rfl (fun lv L => ?_)
          refine j_V.gto xd36_M xd36_97 (t := 15) rfl ?_
          subst esea1
          rw [show (x_leftStanding_l15 shu ce nt fit way v2 v3 (f + 1) v7 v5 v6 sea row rl) = _ from ((if_neg c56_0).trans ((if_neg c68_1).trans (rfl)))]
          exact ih _ _ _ _ _ _ (lpN_n e) L K
        · replace c68_1 : (gA sea1 v7) < 21 := jd_gen c68_1
          refine j_V.ldL xd36_M xd36_71 rfl (i := 5) (kd := 0) (v := .int v5) (pcJ := 73) rfl L rfl rfl rfl ?_
          refine j_V.one xd36_M xd36_73 (by decide) (pcJ := 74) (stJ := [.int 1, .int v5]) rfl ?_
          refine j_V.ldL xd36_M xd36_74 rfl (i := 7) (kd := 0) (v := .int v7) (pcJ := 76) rfl L rfl rfl rfl ?_
          refine j_V.one xd36_M xd36_76 (by decide) (pcJ := 77) (stJ := [.int (1 <<< (v7 &&& 31)), .int v5]) rfl ?_
          refine j_V.one xd36_M xd36_77 (by decide) (pcJ := 78) (stJ := [.int (v5 ||| (1 <<< (v7 &&& 31)))]) rfl ?_
          refine j_V.stL xd36_M xd36_78 rfl (i := 5) (kd := 0) (kl' := [(0, .ref 295), (1, .ref 282), (2, .int v2), (3, .int v3), (4, .ref 343), (5, .int (v5 ||| (1 <<< (v7 &&& 31)))), (6, .int v6), (7, .int v7)]) (pcJ := 80) rfl L rfl (by decide) rfl rfl rfl (fun lv L => ?_)
          refine j_V.ldL xd36_M xd36_80 rfl (i := 6) (kd := 0) (v := .int v6) (pcJ := 82) rfl L rfl rfl rfl ?_
          refine j_V.one xd36_M xd36_82 (by decide) (pcJ := 83) (stJ := [.int 1, .int v6]) rfl ?_
          refine j_V.ldL xd36_M xd36_83 rfl (i := 0) (kd := 2) (v := .ref 295) (pcJ := 84) rfl L rfl rfl rfl ?_
          refine j_V.getK xd36_M xd36_84 (ci := 5) (j := 2) rfl K rfl rfl ?_
          refine j_V.ldL xd36_M xd36_87 rfl (i := 7) (kd := 0) (v := .int v7) (pcJ := 89) rfl L rfl rfl rfl ?_
          refine j_V.iaA xd36_M xd36_89 K rfl ?_
          refine j_V.one xd36_M xd36_90 (by decide) (pcJ := 91) (stJ := [.int (1 <<< ((gA sea1 v7) &&& 31)), .int v6]) rfl ?_
          refine j_V.one xd36_M xd36_91 (by decide) (pcJ := 92) (stJ := [.int (v6 ||| (1 <<< ((gA sea1 v7) &&& 31)))]) rfl ?_
          refine j_V.stL xd36_M xd36_92 rfl (i := 6) (kd := 0) (kl' := [(0, .ref 295), (1, .ref 282), (2, .int v2), (3, .int v3), (4, .ref 343), (5, .int (v5 ||| (1 <<< (v7 &&& 31)))), (6, .int (v6 ||| (1 <<< ((gA sea1 v7) &&& 31)))), (7, .int v7)]) (pcJ := 94) rfl L rfl (by decide) rfl rfl rfl (fun lv L => ?_)
          refine j_V.inL xd36_M xd36_94 (i := 7) (kl' := [(0, .ref 295), (1, .ref 282), (2, .int v2), (3, .int v3), (4, .ref 343), (5, .int (v5 ||| (1 <<< (v7 &&& 31)))), (6, .int (v6 ||| (1 <<< ((gA sea1 v7) &&& 31)))), (7, .int (v7 + 1))]) (pcJ := 97) L rfl rfl rfl rfl (fun lv L => ?_)
          refine j_V.gto xd36_M xd36_97 (t := 15) rfl ?_
          subst esea1
          rw [show (x_leftStanding_l15 shu ce nt fit way v2 v3 (f + 1) v7 v5 v6 sea row rl) = _ from ((if_neg c56_0).trans ((if_pos c68_1).trans (rfl)))]
          exact ih _ _ _ _ _ _ (lpN_n e) L K
set_option maxRecDepth 1000000 in
theorem xd36_ok {mi : Int32} {shu : Int32} {bus : Int32} {lks : Int32} {ce : List Int32} {rl : Int32} {row : List Int32} {sea : List Int32} {ns : Int32} {nt : Int32} {cel : Int32} {fit : List Int32} {way : List Int32} {x2 x3 : Int32} {d : Nat} {h h0 : J_H} (K : KN h [(282, .inl (7, [.ref 343, .int mi, .int shu, .int bus, .ref 283, .ref 284, .ref 285, .ref 286, .ref 287, .ref 288, .ref 289, .ref 290, .ref 291, .ref 292, .ref 293, .int lks, .ref 294, .ref 295, .ref 298])), (287, .inr (.inl (0, ce))), (295, .inl (5, [.ref 296, .int rl, .ref 297])), (296, .inr (.inl (0, row))), (297, .inr (.inl (0, sea))), (343, .inl (2, [.int ns, .ref 344, .ref 345, .ref 346, .ref 347, .int nt, .ref 348, .ref 349, .ref 350, .ref 351, .ref 352, .ref 353, .ref 354, .int cel, .ref 355, .ref 356, .ref 357, .ref 358])), (355, .inr (.inl (0, fit))), (356, .inr (.inl (0, way)))] h0) : j_V jP d 48 0 (lv_args 0 [.ref 295, .ref 282, .int x2, .int x3]) [] h (fun rv h' => rv = some (.int (x_leftStanding shu ce rl row sea nt fit way x2 x3).1) ∧ KN h' [(282, .inl (7, [.ref 343, .int mi, .int shu, .int bus, .ref 283, .ref 284, .ref 285, .ref 286, .ref 287, .ref 288, .ref 289, .ref 290, .ref 291, .ref 292, .ref 293, .int lks, .ref 294, .ref 295, .ref 298])), (287, .inr (.inl (0, ce))), (295, .inl (5, [.ref 296, .int (x_leftStanding shu ce rl row sea nt fit way x2 x3).2.2.2, .ref 297])), (296, .inr (.inl (0, (x_leftStanding shu ce rl row sea nt fit way x2 x3).2.2.1))), (297, .inr (.inl (0, (x_leftStanding shu ce rl row sea nt fit way x2 x3).2.1))), (343, .inl (2, [.int ns, .ref 344, .ref 345, .ref 346, .ref 347, .int nt, .ref 348, .ref 349, .ref 350, .ref 351, .ref 352, .ref 353, .ref 354, .int cel, .ref 355, .ref 356, .ref 357, .ref 358])), (355, .inr (.inl (0, fit))), (356, .inr (.inl (0, way)))] h0) := by
  show j_V jP d 48 0 [(0, .ref 295), (1, .ref 282), (2, .int x2), (3, .int x3)] [] h _
  obtain ⟨lv, elv, L⟩ : ∃ lv, lv = [(0, .ref 295), (1, .ref 282), (2, .int x2), (3, .int x3)] ∧ LK lv [(0, .ref 295), (1, .ref 282), (2, .int x2), (3, .int x3)] := ⟨_, rfl, LK.rf⟩
  rw [← elv]
  clear elv
  refine j_V.ldL xd36_M xd36_0 rfl (i := 1) (kd := 2) (v := .ref 282) (pcJ := 1) rfl L rfl rfl rfl ?_
  refine j_V.getK xd36_M xd36_1 (ci := 7) (j := 0) rfl K rfl rfl ?_
  refine j_V.stL xd36_M xd36_4 rfl (i := 4) (kd := 2) (kl' := [(0, .ref 295), (1, .ref 282), (2, .int x2), (3, .int x3), (4, .ref 343)]) (pcJ := 6) rfl L rfl (by decide) rfl rfl rfl (fun lv L => ?_)
  refine j_V.one xd36_M xd36_6 (by decide) (pcJ := 7) (stJ := [.int 0]) rfl ?_
  refine j_V.stL xd36_M xd36_7 rfl (i := 5) (kd := 0) (kl' := [(0, .ref 295), (1, .ref 282), (2, .int x2), (3, .int x3), (4, .ref 343), (5, .int 0)]) (pcJ := 9) rfl L rfl (by decide) rfl rfl rfl (fun lv L => ?_)
  refine j_V.one xd36_M xd36_9 (by decide) (pcJ := 10) (stJ := [.int 0]) rfl ?_
  refine j_V.stL xd36_M xd36_10 rfl (i := 6) (kd := 0) (kl' := [(0, .ref 295), (1, .ref 282), (2, .int x2), (3, .int x3), (4, .ref 343), (5, .int 0), (6, .int 0)]) (pcJ := 12) rfl L rfl (by decide) rfl rfl rfl (fun lv L => ?_)
  refine j_V.one xd36_M xd36_12 (by decide) (pcJ := 13) (stJ := [.int 0]) rfl ?_
  refine j_V.stL xd36_M xd36_13 rfl (i := 7) (kd := 0) (kl' := [(0, .ref 295), (1, .ref 282), (2, .int x2), (3, .int x3), (4, .ref 343), (5, .int 0), (6, .int 0), (7, .int 0)]) (pcJ := 15) rfl L rfl (by decide) rfl rfl rfl (fun lv L => ?_)
  rw [show (x_leftStanding shu ce rl row sea nt fit way x2 x3) = _ from (rfl)]
  exact xd36_ok_l15 _ _ _ _ _ _ _ rfl L K
set_option maxRecDepth 100000 in
theorem xd37_M : j_meth jP 32 = some (yX3_noteMeetings, cX3_noteMeetings, 6, none, 3, false, 3) := rfl
set_option maxRecDepth 100000 in
theorem xd37_0 : j_code jP 32 0 = some (.iconst 0) := rfl
set_option maxRecDepth 100000 in
theorem xd37_1 : j_code jP 32 1 = some (.istore 4) := rfl
set_option maxRecDepth 100000 in
theorem xd37_3 : j_code jP 32 3 = some (.iload 4) := rfl
set_option maxRecDepth 100000 in
theorem xd37_5 : j_code jP 32 5 = some (.iconst 5) := rfl
set_option maxRecDepth 100000 in
theorem xd37_6 : j_code jP 32 6 = some (.if_icmp .ge 78) := rfl
set_option maxRecDepth 100000 in
theorem xd37_9 : j_code jP 32 9 = some (.iload_n 3) := rfl
set_option maxRecDepth 100000 in
theorem xd37_10 : j_code jP 32 10 = some (.iload 4) := rfl
set_option maxRecDepth 100000 in
theorem xd37_12 : j_code jP 32 12 = some (.ishr) := rfl
set_option maxRecDepth 100000 in
theorem xd37_13 : j_code jP 32 13 = some (.iconst 1) := rfl
set_option maxRecDepth 100000 in
theorem xd37_14 : j_code jP 32 14 = some (.iand) := rfl
set_option maxRecDepth 100000 in
theorem xd37_15 : j_code jP 32 15 = some (.ifCond .eq 63) := rfl
set_option maxRecDepth 100000 in
theorem xd37_18 : j_code jP 32 18 = some (.iload_n 2) := rfl
set_option maxRecDepth 100000 in
theorem xd37_19 : j_code jP 32 19 = some (.iconst 5) := rfl
set_option maxRecDepth 100000 in
theorem xd37_20 : j_code jP 32 20 = some (.imul) := rfl
set_option maxRecDepth 100000 in
theorem xd37_21 : j_code jP 32 21 = some (.iload 4) := rfl
set_option maxRecDepth 100000 in
theorem xd37_23 : j_code jP 32 23 = some (.iadd) := rfl
set_option maxRecDepth 100000 in
theorem xd37_24 : j_code jP 32 24 = some (.istore 5) := rfl
set_option maxRecDepth 100000 in
theorem xd37_26 : j_code jP 32 26 = some (.aload_n 0) := rfl
set_option maxRecDepth 100000 in
theorem xd37_27 : j_code jP 32 27 = some (.getfield 18) := rfl
set_option maxRecDepth 100000 in
theorem xd37_30 : j_code jP 32 30 = some (.iload 5) := rfl
set_option maxRecDepth 100000 in
theorem xd37_32 : j_code jP 32 32 = some (.iaload) := rfl
set_option maxRecDepth 100000 in
theorem xd37_33 : j_code jP 32 33 = some (.ifCond .ne 27) := rfl
set_option maxRecDepth 100000 in
theorem xd37_36 : j_code jP 32 36 = some (.aload_n 0) := rfl
set_option maxRecDepth 100000 in
theorem xd37_37 : j_code jP 32 37 = some (.getfield 9) := rfl
set_option maxRecDepth 100000 in
theorem xd37_40 : j_code jP 32 40 = some (.iload 5) := rfl
set_option maxRecDepth 100000 in
theorem xd37_42 : j_code jP 32 42 = some (.aload_n 1) := rfl
set_option maxRecDepth 100000 in
theorem xd37_43 : j_code jP 32 43 = some (.getfield 70) := rfl
set_option maxRecDepth 100000 in
theorem xd37_46 : j_code jP 32 46 = some (.iload_n 2) := rfl
set_option maxRecDepth 100000 in
theorem xd37_47 : j_code jP 32 47 = some (.iaload) := rfl
set_option maxRecDepth 100000 in
theorem xd37_48 : j_code jP 32 48 = some (.iastore) := rfl
set_option maxRecDepth 100000 in
theorem xd37_49 : j_code jP 32 49 = some (.aload_n 0) := rfl
set_option maxRecDepth 100000 in
theorem xd37_50 : j_code jP 32 50 = some (.getfield 15) := rfl
set_option maxRecDepth 100000 in
theorem xd37_53 : j_code jP 32 53 = some (.iload 5) := rfl
set_option maxRecDepth 100000 in
theorem xd37_55 : j_code jP 32 55 = some (.aload_n 1) := rfl
set_option maxRecDepth 100000 in
theorem xd37_56 : j_code jP 32 56 = some (.getfield 81) := rfl
set_option maxRecDepth 100000 in
theorem xd37_59 : j_code jP 32 59 = some (.iastore) := rfl
set_option maxRecDepth 100000 in
theorem xd37_60 : j_code jP 32 60 = some (.aload_n 0) := rfl
set_option maxRecDepth 100000 in
theorem xd37_61 : j_code jP 32 61 = some (.getfield 18) := rfl
set_option maxRecDepth 100000 in
theorem xd37_64 : j_code jP 32 64 = some (.iload 5) := rfl
set_option maxRecDepth 100000 in
theorem xd37_66 : j_code jP 32 66 = some (.dup2) := rfl
set_option maxRecDepth 100000 in
theorem xd37_67 : j_code jP 32 67 = some (.iaload) := rfl
set_option maxRecDepth 100000 in
theorem xd37_68 : j_code jP 32 68 = some (.iconst 1) := rfl
set_option maxRecDepth 100000 in
theorem xd37_69 : j_code jP 32 69 = some (.aload_n 1) := rfl
set_option maxRecDepth 100000 in
theorem xd37_70 : j_code jP 32 70 = some (.getfield 70) := rfl
set_option maxRecDepth 100000 in
theorem xd37_73 : j_code jP 32 73 = some (.iload_n 2) := rfl
set_option maxRecDepth 100000 in
theorem xd37_74 : j_code jP 32 74 = some (.iaload) := rfl
set_option maxRecDepth 100000 in
theorem xd37_75 : j_code jP 32 75 = some (.ishl) := rfl
set_option maxRecDepth 100000 in
theorem xd37_76 : j_code jP 32 76 = some (.ior) := rfl
set_option maxRecDepth 100000 in
theorem xd37_77 : j_code jP 32 77 = some (.iastore) := rfl
set_option maxRecDepth 100000 in
theorem xd37_78 : j_code jP 32 78 = some (.iinc 4 1) := rfl
set_option maxRecDepth 100000 in
theorem xd37_81 : j_code jP 32 81 = some (.goto (-78)) := rfl
set_option maxRecDepth 100000 in
theorem xd37_84 : j_code jP 32 84 = some (.return_) := rfl
set_option maxRecDepth 1000000 in
theorem xd37_ok_l3 {mi : Int32} {shu : Int32} {bus : Int32} {lks : Int32} {sp : List Int32} {pev : Int32} {pk : Int32} {v2 v3 : Int32} {d : Nat} {h0 : J_H} : ∀ (f : Nat) (v4 : Int32) (pms : List Int32) (pmm : List Int32) (pmt : List Int32) {lv : J_L} {h : J_H}, lpN 5 v4 = f → LK lv [(0, .ref 298), (1, .ref 282), (2, .int v2), (3, .int v3), (4, .int v4)] → KN h [(282, .inl (7, [.ref 343, .int mi, .int shu, .int bus, .ref 283, .ref 284, .ref 285, .ref 286, .ref 287, .ref 288, .ref 289, .ref 290, .ref 291, .ref 292, .ref 293, .int lks, .ref 294, .ref 295, .ref 298])), (286, .inr (.inl (0, sp))), (298, .inl (3, [.ref 299, .ref 300, .ref 301, .ref 302, .ref 303, .ref 304, .ref 305, .ref 306, .int pev, .int pk])), (299, .inr (.inl (0, pms))), (300, .inr (.inl (0, pmm))), (301, .inr (.inl (0, pmt)))] h0 → j_V jP d 32 3 lv [] h (fun rv h' => rv = none ∧ KN h' [(282, .inl (7, [.ref 343, .int mi, .int shu, .int bus, .ref 283, .ref 284, .ref 285, .ref 286, .ref 287, .ref 288, .ref 289, .ref 290, .ref 291, .ref 292, .ref 293, .int lks, .ref 294, .ref 295, .ref 298])), (286, .inr (.inl (0, sp))), (298, .inl (3, [.ref 299, .ref 300, .ref 301, .ref 302, .ref 303, .ref 304, .ref 305, .ref 306, .int pev, .int pk])), (299, .inr (.inl (0, (x_noteMeetings_l3 mi sp v2 v3 f v4 pms pmm pmt).1))), (300, .inr (.inl (0, (x_noteMeetings_l3 mi sp v2 v3 f v4 pms pmm pmt).2.1))), (301, .inr (.inl (0, (x_noteMeetings_l3 mi sp v2 v3 f v4 pms pmm pmt).2.2)))] h0) := by
  intro f
  induction f with
  | zero =>
    intro v4 pms pmm pmt lv h e L K
    refine j_V.ldL xd37_M xd37_3 rfl (i := 4) (kd := 0) (v := .int v4) (pcJ := 5) rfl L rfl rfl rfl ?_
    refine j_V.one xd37_M xd37_5 (by decide) (pcJ := 6) (stJ := [.int 5, .int v4]) rfl ?_
    refine j_V.icmp xd37_M xd37_6 (t := 84) rfl (fun c6_0 => ?_) (fun c6_0 => ?_)
    · replace c6_0 : ¬ (v4 < 5) := jd_ge c6_0
      refine j_V.ret xd37_M xd37_84 rfl rfl ?_
      rw [show (x_noteMeetings_l3 mi sp v2 v3 0 v4 pms pmm pmt) = _ from (rfl)]
      exact ⟨rfl, K⟩
    · replace c6_0 : v4 < 5 := jd_gen c6_0
      exact absurd c6_0 (lpN_z e)
  | succ f ih =>
    intro v4 pms pmm pmt lv h e L K
    refine j_V.ldL xd37_M xd37_3 rfl (i := 4) (kd := 0) (v := .int v4) (pcJ := 5) rfl L rfl rfl rfl ?_
    refine j_V.one xd37_M xd37_5 (by decide) (pcJ := 6) (stJ := [.int 5, .int v4]) rfl ?_
    refine j_V.icmp xd37_M xd37_6 (t := 84) rfl (fun c6_0 => ?_) (fun c6_0 => ?_)
    · replace c6_0 : ¬ (v4 < 5) := jd_ge c6_0
      exact absurd (lpN_s e) c6_0
    · replace c6_0 : v4 < 5 := jd_gen c6_0
      refine j_V.ldL xd37_M xd37_9 rfl (i := 3) (kd := 0) (v := .int v3) (pcJ := 10) rfl L rfl rfl rfl ?_
      refine j_V.ldL xd37_M xd37_10 rfl (i := 4) (kd := 0) (v := .int v4) (pcJ := 12) rfl L rfl rfl rfl ?_
      refine j_V.one xd37_M xd37_12 (by decide) (pcJ := 13) (stJ := [.int (v3 >>> (v4 &&& 31))]) rfl ?_
      refine j_V.one xd37_M xd37_13 (by decide) (pcJ := 14) (stJ := [.int 1, .int (v3 >>> (v4 &&& 31))]) rfl ?_
      refine j_V.one xd37_M xd37_14 (by decide) (pcJ := 15) (stJ := [.int ((v3 >>> (v4 &&& 31)) &&& 1)]) rfl ?_
      refine j_V.ifc xd37_M xd37_15 (t := 78) rfl (fun c15_0 => ?_) (fun c15_0 => ?_)
      · replace c15_0 : ((v3 >>> (v4 &&& 31)) &&& 1) = 0 := jd_eq c15_0
        refine j_V.inL xd37_M xd37_78 (i := 4) (kl' := [(0, .ref 298), (1, .ref 282), (2, .int v2), (3, .int v3), (4, .int (v4 + 1))]) (pcJ := 81) L rfl rfl rfl rfl (fun lv L => ?_)
        refine j_V.gto xd37_M xd37_81 (t := 3) rfl ?_
        rw [show (x_noteMeetings_l3 mi sp v2 v3 (f + 1) v4 pms pmm pmt) = _ from ((if_pos c15_0).trans (rfl))]
        exact ih _ _ _ _ (lpN_n e) L K
      · replace c15_0 : ¬ (((v3 >>> (v4 &&& 31)) &&& 1) = 0) := jd_eqn c15_0
        refine j_V.ldL xd37_M xd37_18 rfl (i := 2) (kd := 0) (v := .int v2) (pcJ := 19) rfl L rfl rfl rfl ?_
        refine j_V.one xd37_M xd37_19 (by decide) (pcJ := 20) (stJ := [.int 5, .int v2]) rfl ?_
        refine j_V.one xd37_M xd37_20 (by decide) (pcJ := 21) (stJ := [.int (v2 * 5)]) rfl ?_
        refine j_V.ldL xd37_M xd37_21 rfl (i := 4) (kd := 0) (v := .int v4) (pcJ := 23) rfl L rfl rfl rfl ?_
        refine j_V.one xd37_M xd37_23 (by decide) (pcJ := 24) (stJ := [.int ((v2 * 5) + v4)]) rfl ?_
        refine j_V.stL xd37_M xd37_24 rfl (i := 5) (kd := 0) (kl' := [(0, .ref 298), (1, .ref 282), (2, .int v2), (3, .int v3), (4, .int v4), (5, .int ((v2 * 5) + v4))]) (pcJ := 26) rfl L rfl (by decide) rfl rfl rfl (fun lv L => ?_)
        refine j_V.ldL xd37_M xd37_26 rfl (i := 0) (kd := 2) (v := .ref 298) (pcJ := 27) rfl L rfl rfl rfl ?_
        refine j_V.getK xd37_M xd37_27 (ci := 3) (j := 2) rfl K rfl rfl ?_
        refine j_V.ldL xd37_M xd37_30 rfl (i := 5) (kd := 0) (v := .int ((v2 * 5) + v4)) (pcJ := 32) rfl L rfl rfl rfl ?_
        refine j_V.iaA xd37_M xd37_32 K rfl ?_
        refine j_V.ifc xd37_M xd37_33 (t := 60) rfl (fun c33_1 => ?_) (fun c33_1 => ?_)
        · replace c33_1 : ¬ ((gA pmt ((v2 * 5) + v4)) = 0) := jd_ne c33_1
          refine j_V.ldL xd37_M xd37_60 rfl (i := 0) (kd := 2) (v := .ref 298) (pcJ := 61) rfl L rfl rfl rfl ?_
          refine j_V.getK xd37_M xd37_61 (ci := 3) (j := 2) rfl K rfl rfl ?_
          refine j_V.ldL xd37_M xd37_64 rfl (i := 5) (kd := 0) (v := .int ((v2 * 5) + v4)) (pcJ := 66) rfl L rfl rfl rfl ?_
          refine j_V.one xd37_M xd37_66 (by decide) (pcJ := 67) (stJ := [.int ((v2 * 5) + v4), .ref 301, .int ((v2 * 5) + v4), .ref 301]) rfl ?_
          refine j_V.iaA xd37_M xd37_67 K rfl ?_
          refine j_V.one xd37_M xd37_68 (by decide) (pcJ := 69) (stJ := [.int 1, .int (gA pmt ((v2 * 5) + v4)), .int ((v2 * 5) + v4), .ref 301]) rfl ?_
          refine j_V.ldL xd37_M xd37_69 rfl (i := 1) (kd := 2) (v := .ref 282) (pcJ := 70) rfl L rfl rfl rfl ?_
          refine j_V.getK xd37_M xd37_70 (ci := 7) (j := 7) rfl K rfl rfl ?_
          refine j_V.ldL xd37_M xd37_73 rfl (i := 2) (kd := 0) (v := .int v2) (pcJ := 74) rfl L rfl rfl rfl ?_
          refine j_V.iaA xd37_M xd37_74 K rfl ?_
          refine j_V.one xd37_M xd37_75 (by decide) (pcJ := 76) (stJ := [.int (1 <<< ((gA sp v2) &&& 31)), .int (gA pmt ((v2 * 5) + v4)), .int ((v2 * 5) + v4), .ref 301]) rfl ?_
          refine j_V.one xd37_M xd37_76 (by decide) (pcJ := 77) (stJ := [.int ((gA pmt ((v2 * 5) + v4)) ||| (1 <<< ((gA sp v2) &&& 31))), .int ((v2 * 5) + v4), .ref 301]) rfl ?_
          refine j_V.isA xd37_M xd37_77 (k' := [(282, .inl (7, [.ref 343, .int mi, .int shu, .int bus, .ref 283, .ref 284, .ref 285, .ref 286, .ref 287, .ref 288, .ref 289, .ref 290, .ref 291, .ref 292, .ref 293, .int lks, .ref 294, .ref 295, .ref 298])), (286, .inr (.inl (0, sp))), (298, .inl (3, [.ref 299, .ref 300, .ref 301, .ref 302, .ref 303, .ref 304, .ref 305, .ref 306, .int pev, .int pk])), (299, .inr (.inl (0, pms))), (300, .inr (.inl (0, pmm))), (301, .inr (.inl (0, (sA pmt ((v2 * 5) + v4) ((gA pmt ((v2 * 5) + v4)) ||| (1 <<< ((gA sp v2) &&& 31)))))))]) K rfl rfl (fun h K => ?_)
          obtain ⟨pmt3, epmt3⟩ : ∃ z, z = (sA pmt ((v2 * 5) + v4) ((gA pmt ((v2 * 5) + v4)) ||| (1 <<< ((gA sp v2) &&& 31)))) := ⟨_, rfl⟩
          rw [← epmt3] at K
          refine j_V.inL xd37_M xd37_78 (i := 4) (kl' := [(0, .ref 298), (1, .ref 282), (2, .int v2), (3, .int v3), (4, .int (v4 + 1)), (5, .int ((v2 * 5) + v4))]) (pcJ := 81) L rfl rfl rfl rfl (fun lv L => ?_)
          refine j_V.gto xd37_M xd37_81 (t := 3) rfl ?_
          subst epmt3
          rw [show (x_noteMeetings_l3 mi sp v2 v3 (f + 1) v4 pms pmm pmt) = _ from ((if_neg c15_0).trans ((if_neg c33_1).trans (rfl)))]
          exact ih _ _ _ _ (lpN_n e) (L.sub ⟨rfl, rfl, rfl, rfl, rfl, trivial⟩) K
        · replace c33_1 : (gA pmt ((v2 * 5) + v4)) = 0 := jd_nen c33_1
          refine j_V.ldL xd37_M xd37_36 rfl (i := 0) (kd := 2) (v := .ref 298) (pcJ := 37) rfl L rfl rfl rfl ?_
          refine j_V.getK xd37_M xd37_37 (ci := 3) (j := 0) rfl K rfl rfl ?_
          refine j_V.ldL xd37_M xd37_40 rfl (i := 5) (kd := 0) (v := .int ((v2 * 5) + v4)) (pcJ := 42) rfl L rfl rfl rfl ?_
          refine j_V.ldL xd37_M xd37_42 rfl (i := 1) (kd := 2) (v := .ref 282) (pcJ := 43) rfl L rfl rfl rfl ?_
          refine j_V.getK xd37_M xd37_43 (ci := 7) (j := 7) rfl K rfl rfl ?_
          refine j_V.ldL xd37_M xd37_46 rfl (i := 2) (kd := 0) (v := .int v2) (pcJ := 47) rfl L rfl rfl rfl ?_
          refine j_V.iaA xd37_M xd37_47 K rfl ?_
          refine j_V.isA xd37_M xd37_48 (k' := [(282, .inl (7, [.ref 343, .int mi, .int shu, .int bus, .ref 283, .ref 284, .ref 285, .ref 286, .ref 287, .ref 288, .ref 289, .ref 290, .ref 291, .ref 292, .ref 293, .int lks, .ref 294, .ref 295, .ref 298])), (286, .inr (.inl (0, sp))), (298, .inl (3, [.ref 299, .ref 300, .ref 301, .ref 302, .ref 303, .ref 304, .ref 305, .ref 306, .int pev, .int pk])), (299, .inr (.inl (0, (sA pms ((v2 * 5) + v4) (gA sp v2))))), (300, .inr (.inl (0, pmm))), (301, .inr (.inl (0, pmt)))]) K rfl rfl (fun h K => ?_)
          obtain ⟨pms4, epms4⟩ : ∃ z, z = (sA pms ((v2 * 5) + v4) (gA sp v2)) := ⟨_, rfl⟩
          rw [← epms4] at K
          refine j_V.ldL xd37_M xd37_49 rfl (i := 0) (kd := 2) (v := .ref 298) (pcJ := 50) rfl L rfl rfl rfl ?_
          refine j_V.getK xd37_M xd37_50 (ci := 3) (j := 1) rfl K rfl rfl ?_
          refine j_V.ldL xd37_M xd37_53 rfl (i := 5) (kd := 0) (v := .int ((v2 * 5) + v4)) (pcJ := 55) rfl L rfl rfl rfl ?_
          refine j_V.ldL xd37_M xd37_55 rfl (i := 1) (kd := 2) (v := .ref 282) (pcJ := 56) rfl L rfl rfl rfl ?_
          refine j_V.getK xd37_M xd37_56 (ci := 7) (j := 1) rfl K rfl rfl ?_
          refine j_V.isA xd37_M xd37_59 (k' := [(282, .inl (7, [.ref 343, .int mi, .int shu, .int bus, .ref 283, .ref 284, .ref 285, .ref 286, .ref 287, .ref 288, .ref 289, .ref 290, .ref 291, .ref 292, .ref 293, .int lks, .ref 294, .ref 295, .ref 298])), (286, .inr (.inl (0, sp))), (298, .inl (3, [.ref 299, .ref 300, .ref 301, .ref 302, .ref 303, .ref 304, .ref 305, .ref 306, .int pev, .int pk])), (299, .inr (.inl (0, pms4))), (300, .inr (.inl (0, (sA pmm ((v2 * 5) + v4) mi)))), (301, .inr (.inl (0, pmt)))]) K rfl rfl (fun h K => ?_)
          obtain ⟨pmm4, epmm4⟩ : ∃ z, z = (sA pmm ((v2 * 5) + v4) mi) := ⟨_, rfl⟩
          rw [← epmm4] at K
          refine j_V.ldL xd37_M xd37_60 rfl (i := 0) (kd := 2) (v := .ref 298) (pcJ := 61) rfl L rfl rfl rfl ?_
          refine j_V.getK xd37_M xd37_61 (ci := 3) (j := 2) rfl K rfl rfl ?_
          refine j_V.ldL xd37_M xd37_64 rfl (i := 5) (kd := 0) (v := .int ((v2 * 5) + v4)) (pcJ := 66) rfl L rfl rfl rfl ?_
          refine j_V.one xd37_M xd37_66 (by decide) (pcJ := 67) (stJ := [.int ((v2 * 5) + v4), .ref 301, .int ((v2 * 5) + v4), .ref 301]) rfl ?_
          refine j_V.iaA xd37_M xd37_67 K rfl ?_
          refine j_V.one xd37_M xd37_68 (by decide) (pcJ := 69) (stJ := [.int 1, .int (gA pmt ((v2 * 5) + v4)), .int ((v2 * 5) + v4), .ref 301]) rfl ?_
          refine j_V.ldL xd37_M xd37_69 rfl (i := 1) (kd := 2) (v := .ref 282) (pcJ := 70) rfl L rfl rfl rfl ?_
          refine j_V.getK xd37_M xd37_70 (ci := 7) (j := 7) rfl K rfl rfl ?_
          refine j_V.ldL xd37_M xd37_73 rfl (i := 2) (kd := 0) (v := .int v2) (pcJ := 74) rfl L rfl rfl rfl ?_
          refine j_V.iaA xd37_M xd37_74 K rfl ?_
          refine j_V.one xd37_M xd37_75 (by decide) (pcJ := 76) (stJ := [.int (1 <<< ((gA sp v2) &&& 31)), .int (gA pmt ((v2 * 5) + v4)), .int ((v2 * 5) + v4), .ref 301]) rfl ?_
          refine j_V.one xd37_M xd37_76 (by decide) (pcJ := 77) (stJ := [.int ((gA pmt ((v2 * 5) + v4)) ||| (1 <<< ((gA sp v2) &&& 31))), .int ((v2 * 5) + v4), .ref 301]) rfl ?_
          refine j_V.isA xd37_M xd37_77 (k' := [(282, .inl (7, [.ref 343, .int mi, .int shu, .int bus, .ref 283, .ref 284, .ref 285, .ref 286, .ref 287, .ref 288, .ref 289, .ref 290, .ref 291, .ref 292, .ref 293, .int lks, .ref 294, .ref 295, .ref 298])), (286, .inr (.inl (0, sp))), (298, .inl (3, [.ref 299, .ref 300, .ref 301, .ref 302, .ref 303, .ref 304, .ref 305, .ref 306, .int pev, .int pk])), (299, .inr (.inl (0, pms4))), (300, .inr (.inl (0, pmm4))), (301, .inr (.inl (0, (sA pmt ((v2 * 5) + v4) ((gA pmt ((v2 * 5) + v4)) ||| (1 <<< ((gA sp v2) &&& 31)))))))]) K rfl rfl (fun h K => ?_)
          obtain ⟨pmt4, epmt4⟩ : ∃ z, z = (sA pmt ((v2 * 5) + v4) ((gA pmt ((v2 * 5) + v4)) ||| (1 <<< ((gA sp v2) &&& 31)))) := ⟨_, rfl⟩
          rw [← epmt4] at K
          refine j_V.inL xd37_M xd37_78 (i := 4) (kl' := [(0, .ref 298), (1, .ref 282), (2, .int v2), (3, .int v3), (4, .int (v4 + 1)), (5, .int ((v2 * 5) + v4))]) (pcJ := 81) L rfl rfl rfl rfl (fun lv L => ?_)
          refine j_V.gto xd37_M xd37_81 (t := 3) rfl ?_
          subst epmt4
          subst epmm4
          subst epms4
          rw [show (x_noteMeetings_l3 mi sp v2 v3 (f + 1) v4 pms pmm pmt) = _ from ((if_neg c15_0).trans ((if_pos c33_1).trans (rfl)))]
          exact ih _ _ _ _ (lpN_n e) (L.sub ⟨rfl, rfl, rfl, rfl, rfl, trivial⟩) K
set_option maxRecDepth 1000000 in
theorem xd37_ok {mi : Int32} {shu : Int32} {bus : Int32} {lks : Int32} {sp : List Int32} {pev : Int32} {pk : Int32} {pms : List Int32} {pmm : List Int32} {pmt : List Int32} {x2 x3 : Int32} {d : Nat} {h h0 : J_H} (K : KN h [(282, .inl (7, [.ref 343, .int mi, .int shu, .int bus, .ref 283, .ref 284, .ref 285, .ref 286, .ref 287, .ref 288, .ref 289, .ref 290, .ref 291, .ref 292, .ref 293, .int lks, .ref 294, .ref 295, .ref 298])), (286, .inr (.inl (0, sp))), (298, .inl (3, [.ref 299, .ref 300, .ref 301, .ref 302, .ref 303, .ref 304, .ref 305, .ref 306, .int pev, .int pk])), (299, .inr (.inl (0, pms))), (300, .inr (.inl (0, pmm))), (301, .inr (.inl (0, pmt)))] h0) : j_V jP d 32 0 (lv_args 0 [.ref 298, .ref 282, .int x2, .int x3]) [] h (fun rv h' => rv = none ∧ KN h' [(282, .inl (7, [.ref 343, .int mi, .int shu, .int bus, .ref 283, .ref 284, .ref 285, .ref 286, .ref 287, .ref 288, .ref 289, .ref 290, .ref 291, .ref 292, .ref 293, .int lks, .ref 294, .ref 295, .ref 298])), (286, .inr (.inl (0, sp))), (298, .inl (3, [.ref 299, .ref 300, .ref 301, .ref 302, .ref 303, .ref 304, .ref 305, .ref 306, .int pev, .int pk])), (299, .inr (.inl (0, (x_noteMeetings mi sp pms pmm pmt x2 x3).1))), (300, .inr (.inl (0, (x_noteMeetings mi sp pms pmm pmt x2 x3).2.1))), (301, .inr (.inl (0, (x_noteMeetings mi sp pms pmm pmt x2 x3).2.2)))] h0) := by
  show j_V jP d 32 0 [(0, .ref 298), (1, .ref 282), (2, .int x2), (3, .int x3)] [] h _
  obtain ⟨lv, elv, L⟩ : ∃ lv, lv = [(0, .ref 298), (1, .ref 282), (2, .int x2), (3, .int x3)] ∧ LK lv [(0, .ref 298), (1, .ref 282), (2, .int x2), (3, .int x3)] := ⟨_, rfl, LK.rf⟩
  rw [← elv]
  clear elv
  refine j_V.one xd37_M xd37_0 (by decide) (pcJ := 1) (stJ := [.int 0]) rfl ?_
  refine j_V.stL xd37_M xd37_1 rfl (i := 4) (kd := 0) (kl' := [(0, .ref 298), (1, .ref 282), (2, .int x2), (3, .int x3), (4, .int 0)]) (pcJ := 3) rfl L rfl (by decide) rfl rfl rfl (fun lv L => ?_)
  rw [show (x_noteMeetings mi sp pms pmm pmt x2 x3) = _ from (rfl)]
  exact xd37_ok_l3 _ _ _ _ _ rfl L K
set_option maxRecDepth 100000 in
theorem xd38_M : j_meth jP 31 = some (yX3_noteMinutes, cX3_noteMinutes, 4, none, 2, false, 3) := rfl
set_option maxRecDepth 100000 in
theorem xd38_0 : j_code jP 31 0 = some (.aload_n 0) := rfl
set_option maxRecDepth 100000 in
theorem xd38_1 : j_code jP 31 1 = some (.getfield 36) := rfl
set_option maxRecDepth 100000 in
theorem xd38_4 : j_code jP 31 4 = some (.ifCond .ne 4) := rfl
set_option maxRecDepth 100000 in
theorem xd38_7 : j_code jP 31 7 = some (.return_) := rfl
set_option maxRecDepth 100000 in
theorem xd38_8 : j_code jP 31 8 = some (.iconst 0) := rfl
set_option maxRecDepth 100000 in
theorem xd38_9 : j_code jP 31 9 = some (.istore_n 3) := rfl
set_option maxRecDepth 100000 in
theorem xd38_10 : j_code jP 31 10 = some (.iload_n 3) := rfl
set_option maxRecDepth 100000 in
theorem xd38_11 : j_code jP 31 11 = some (.aload_n 1) := rfl
set_option maxRecDepth 100000 in
theorem xd38_12 : j_code jP 31 12 = some (.getfield 56) := rfl
set_option maxRecDepth 100000 in
theorem xd38_15 : j_code jP 31 15 = some (.getfield 62) := rfl
set_option maxRecDepth 100000 in
theorem xd38_18 : j_code jP 31 18 = some (.if_icmp .ge 66) := rfl
set_option maxRecDepth 100000 in
theorem xd38_21 : j_code jP 31 21 = some (.aload_n 1) := rfl
set_option maxRecDepth 100000 in
theorem xd38_22 : j_code jP 31 22 = some (.getfield 67) := rfl
set_option maxRecDepth 100000 in
theorem xd38_25 : j_code jP 31 25 = some (.iload_n 3) := rfl
set_option maxRecDepth 100000 in
theorem xd38_26 : j_code jP 31 26 = some (.iaload) := rfl
set_option maxRecDepth 100000 in
theorem xd38_27 : j_code jP 31 27 = some (.iconst 1) := rfl
set_option maxRecDepth 100000 in
theorem xd38_28 : j_code jP 31 28 = some (.if_icmp .ne 50) := rfl
set_option maxRecDepth 100000 in
theorem xd38_31 : j_code jP 31 31 = some (.aload_n 0) := rfl
set_option maxRecDepth 100000 in
theorem xd38_32 : j_code jP 31 32 = some (.getfield 24) := rfl
set_option maxRecDepth 100000 in
theorem xd38_35 : j_code jP 31 35 = some (.iload_n 3) := rfl
set_option maxRecDepth 100000 in
theorem xd38_36 : j_code jP 31 36 = some (.dup2) := rfl
set_option maxRecDepth 100000 in
theorem xd38_37 : j_code jP 31 37 = some (.iaload) := rfl
set_option maxRecDepth 100000 in
theorem xd38_38 : j_code jP 31 38 = some (.iload_n 2) := rfl
set_option maxRecDepth 100000 in
theorem xd38_39 : j_code jP 31 39 = some (.iadd) := rfl
set_option maxRecDepth 100000 in
theorem xd38_40 : j_code jP 31 40 = some (.iastore) := rfl
set_option maxRecDepth 100000 in
theorem xd38_41 : j_code jP 31 41 = some (.aload_n 0) := rfl
set_option maxRecDepth 100000 in
theorem xd38_42 : j_code jP 31 42 = some (.getfield 21) := rfl
set_option maxRecDepth 100000 in
theorem xd38_45 : j_code jP 31 45 = some (.aload_n 1) := rfl
set_option maxRecDepth 100000 in
theorem xd38_46 : j_code jP 31 46 = some (.getfield 70) := rfl
set_option maxRecDepth 100000 in
theorem xd38_49 : j_code jP 31 49 = some (.iload_n 3) := rfl
set_option maxRecDepth 100000 in
theorem xd38_50 : j_code jP 31 50 = some (.iaload) := rfl
set_option maxRecDepth 100000 in
theorem xd38_51 : j_code jP 31 51 = some (.dup2) := rfl
set_option maxRecDepth 100000 in
theorem xd38_52 : j_code jP 31 52 = some (.iaload) := rfl
set_option maxRecDepth 100000 in
theorem xd38_53 : j_code jP 31 53 = some (.iload_n 2) := rfl
set_option maxRecDepth 100000 in
theorem xd38_54 : j_code jP 31 54 = some (.iadd) := rfl
set_option maxRecDepth 100000 in
theorem xd38_55 : j_code jP 31 55 = some (.iastore) := rfl
set_option maxRecDepth 100000 in
theorem xd38_56 : j_code jP 31 56 = some (.aload_n 0) := rfl
set_option maxRecDepth 100000 in
theorem xd38_57 : j_code jP 31 57 = some (.aload_n 1) := rfl
set_option maxRecDepth 100000 in
theorem xd38_58 : j_code jP 31 58 = some (.iload_n 3) := rfl
set_option maxRecDepth 100000 in
theorem xd38_59 : j_code jP 31 59 = some (.aload_n 1) := rfl
set_option maxRecDepth 100000 in
theorem xd38_60 : j_code jP 31 60 = some (.aload_n 1) := rfl
set_option maxRecDepth 100000 in
theorem xd38_61 : j_code jP 31 61 = some (.getfield 70) := rfl
set_option maxRecDepth 100000 in
theorem xd38_64 : j_code jP 31 64 = some (.iload_n 3) := rfl
set_option maxRecDepth 100000 in
theorem xd38_65 : j_code jP 31 65 = some (.iaload) := rfl
set_option maxRecDepth 100000 in
theorem xd38_66 : j_code jP 31 66 = some (.invokevirtual 73) := rfl
set_option maxRecDepth 100000 in
theorem xd38_69 : j_code jP 31 69 = some (.iconst 1) := rfl
set_option maxRecDepth 100000 in
theorem xd38_70 : j_code jP 31 70 = some (.iload_n 3) := rfl
set_option maxRecDepth 100000 in
theorem xd38_71 : j_code jP 31 71 = some (.ishl) := rfl
set_option maxRecDepth 100000 in
theorem xd38_72 : j_code jP 31 72 = some (.iconst (-1)) := rfl
set_option maxRecDepth 100000 in
theorem xd38_73 : j_code jP 31 73 = some (.ixor) := rfl
set_option maxRecDepth 100000 in
theorem xd38_74 : j_code jP 31 74 = some (.iand) := rfl
set_option maxRecDepth 100000 in
theorem xd38_75 : j_code jP 31 75 = some (.invokevirtual 77) := rfl
set_option maxRecDepth 100000 in
theorem xd38_78 : j_code jP 31 78 = some (.iinc 3 1) := rfl
set_option maxRecDepth 100000 in
theorem xd38_81 : j_code jP 31 81 = some (.goto (-71)) := rfl
set_option maxRecDepth 100000 in
theorem xd38_84 : j_code jP 31 84 = some (.return_) := rfl
set_option maxRecDepth 1000000 in
theorem xd38_ok_l10 {mi : Int32} {shu : Int32} {bus : Int32} {lks : Int32} {ph : List Int32} {sp : List Int32} {pev : Int32} {pk : Int32} {ns : Int32} {nt : Int32} {cel : Int32} {v2 : Int32} {d : Nat} {h0 : J_H} : ∀ (f : Nat) (v3 : Int32) (pms : List Int32) (pmm : List Int32) (pmt : List Int32) (pst : List Int32) (pwa : List Int32) {lv : J_L} {h : J_H}, lpN nt v3 = f → LK lv [(0, .ref 298), (1, .ref 282), (2, .int v2), (3, .int v3)] → KN h [(282, .inl (7, [.ref 343, .int mi, .int shu, .int bus, .ref 283, .ref 284, .ref 285, .ref 286, .ref 287, .ref 288, .ref 289, .ref 290, .ref 291, .ref 292, .ref 293, .int lks, .ref 294, .ref 295, .ref 298])), (285, .inr (.inl (0, ph))), (286, .inr (.inl (0, sp))), (298, .inl (3, [.ref 299, .ref 300, .ref 301, .ref 302, .ref 303, .ref 304, .ref 305, .ref 306, .int pev, .int pk])), (299, .inr (.inl (0, pms))), (300, .inr (.inl (0, pmm))), (301, .inr (.inl (0, pmt))), (302, .inr (.inl (0, pst))), (303, .inr (.inl (0, pwa))), (343, .inl (2, [.int ns, .ref 344, .ref 345, .ref 346, .ref 347, .int nt, .ref 348, .ref 349, .ref 350, .ref 351, .ref 352, .ref 353, .ref 354, .int cel, .ref 355, .ref 356, .ref 357, .ref 358]))] h0 → j_V jP d 31 10 lv [] h (fun rv h' => rv = none ∧ KN h' [(282, .inl (7, [.ref 343, .int mi, .int shu, .int bus, .ref 283, .ref 284, .ref 285, .ref 286, .ref 287, .ref 288, .ref 289, .ref 290, .ref 291, .ref 292, .ref 293, .int lks, .ref 294, .ref 295, .ref 298])), (285, .inr (.inl (0, ph))), (286, .inr (.inl (0, sp))), (298, .inl (3, [.ref 299, .ref 300, .ref 301, .ref 302, .ref 303, .ref 304, .ref 305, .ref 306, .int pev, .int pk])), (299, .inr (.inl (0, (x_noteMinutes_l10 mi ph sp nt v2 f v3 pms pmm pmt pst pwa).1))), (300, .inr (.inl (0, (x_noteMinutes_l10 mi ph sp nt v2 f v3 pms pmm pmt pst pwa).2.1))), (301, .inr (.inl (0, (x_noteMinutes_l10 mi ph sp nt v2 f v3 pms pmm pmt pst pwa).2.2.1))), (302, .inr (.inl (0, (x_noteMinutes_l10 mi ph sp nt v2 f v3 pms pmm pmt pst pwa).2.2.2.1))), (303, .inr (.inl (0, (x_noteMinutes_l10 mi ph sp nt v2 f v3 pms pmm pmt pst pwa).2.2.2.2))), (343, .inl (2, [.int ns, .ref 344, .ref 345, .ref 346, .ref 347, .int nt, .ref 348, .ref 349, .ref 350, .ref 351, .ref 352, .ref 353, .ref 354, .int cel, .ref 355, .ref 356, .ref 357, .ref 358]))] h0) := by
  intro f
  induction f with
  | zero =>
    intro v3 pms pmm pmt pst pwa lv h e L K
    refine j_V.ldL xd38_M xd38_10 rfl (i := 3) (kd := 0) (v := .int v3) (pcJ := 11) rfl L rfl rfl rfl ?_
    refine j_V.ldL xd38_M xd38_11 rfl (i := 1) (kd := 2) (v := .ref 282) (pcJ := 12) rfl L rfl rfl rfl ?_
    refine j_V.getK xd38_M xd38_12 (ci := 7) (j := 0) rfl K rfl rfl ?_
    refine j_V.getK xd38_M xd38_15 (ci := 2) (j := 5) rfl K rfl rfl ?_
    refine j_V.icmp xd38_M xd38_18 (t := 84) rfl (fun c18_0 => ?_) (fun c18_0 => ?_)
    · replace c18_0 : ¬ (v3 < nt) := jd_ge c18_0
      refine j_V.ret xd38_M xd38_84 rfl rfl ?_
      rw [show (x_noteMinutes_l10 mi ph sp nt v2 0 v3 pms pmm pmt pst pwa) = _ from (rfl)]
      exact ⟨rfl, K⟩
    · replace c18_0 : v3 < nt := jd_gen c18_0
      exact absurd c18_0 (lpN_z e)
  | succ f ih =>
    intro v3 pms pmm pmt pst pwa lv h e L K
    refine j_V.ldL xd38_M xd38_10 rfl (i := 3) (kd := 0) (v := .int v3) (pcJ := 11) rfl L rfl rfl rfl ?_
    refine j_V.ldL xd38_M xd38_11 rfl (i := 1) (kd := 2) (v := .ref 282) (pcJ := 12) rfl L rfl rfl rfl ?_
    refine j_V.getK xd38_M xd38_12 (ci := 7) (j := 0) rfl K rfl rfl ?_
    refine j_V.getK xd38_M xd38_15 (ci := 2) (j := 5) rfl K rfl rfl ?_
    refine j_V.icmp xd38_M xd38_18 (t := 84) rfl (fun c18_0 => ?_) (fun c18_0 => ?_)
    · replace c18_0 : ¬ (v3 < nt) := jd_ge c18_0
      exact absurd (lpN_s e) c18_0
    · replace c18_0 : v3 < nt := jd_gen c18_0
      refine j_V.ldL xd38_M xd38_21 rfl (i := 1) (kd := 2) (v := .ref 282) (pcJ := 22) rfl L rfl rfl rfl ?_
      refine j_V.getK xd38_M xd38_22 (ci := 7) (j := 6) rfl K rfl rfl ?_
      refine j_V.ldL xd38_M xd38_25 rfl (i := 3) (kd := 0) (v := .int v3) (pcJ := 26) rfl L rfl rfl rfl ?_
      refine j_V.iaA xd38_M xd38_26 K rfl ?_
      refine j_V.one xd38_M xd38_27 (by decide) (pcJ := 28) (stJ := [.int 1, .int (gA ph v3)]) rfl ?_
      refine j_V.icmp xd38_M xd38_28 (t := 78) rfl (fun c28_0 => ?_) (fun c28_0 => ?_)
      · replace c28_0 : ¬ ((gA ph v3) = 1) := jd_ne c28_0
        refine j_V.inL xd38_M xd38_78 (i := 3) (kl' := [(0, .ref 298), (1, .ref 282), (2, .int v2), (3, .int (v3 + 1))]) (pcJ := 81) L rfl rfl rfl rfl (fun lv L => ?_)
        refine j_V.gto xd38_M xd38_81 (t := 10) rfl ?_
        rw [show (x_noteMinutes_l10 mi ph sp nt v2 (f + 1) v3 pms pmm pmt pst pwa) = _ from ((if_neg c28_0).trans (rfl))]
        exact ih _ _ _ _ _ _ (lpN_n e) L K
      · replace c28_0 : (gA ph v3) = 1 := jd_nen c28_0
        refine j_V.ldL xd38_M xd38_31 rfl (i := 0) (kd := 2) (v := .ref 298) (pcJ := 32) rfl L rfl rfl rfl ?_
        refine j_V.getK xd38_M xd38_32 (ci := 3) (j := 4) rfl K rfl rfl ?_
        refine j_V.ldL xd38_M xd38_35 rfl (i := 3) (kd := 0) (v := .int v3) (pcJ := 36) rfl L rfl rfl rfl ?_
        refine j_V.one xd38_M xd38_36 (by decide) (pcJ := 37) (stJ := [.int v3, .ref 303, .int v3, .ref 303]) rfl ?_
        refine j_V.iaA xd38_M xd38_37 K rfl ?_
        refine j_V.ldL xd38_M xd38_38 rfl (i := 2) (kd := 0) (v := .int v2) (pcJ := 39) rfl L rfl rfl rfl ?_
        refine j_V.one xd38_M xd38_39 (by decide) (pcJ := 40) (stJ := [.int ((gA pwa v3) + v2), .int v3, .ref 303]) rfl ?_
        refine j_V.isA xd38_M xd38_40 (k' := [(282, .inl (7, [.ref 343, .int mi, .int shu, .int bus, .ref 283, .ref 284, .ref 285, .ref 286, .ref 287, .ref 288, .ref 289, .ref 290, .ref 291, .ref 292, .ref 293, .int lks, .ref 294, .ref 295, .ref 298])), (285, .inr (.inl (0, ph))), (286, .inr (.inl (0, sp))), (298, .inl (3, [.ref 299, .ref 300, .ref 301, .ref 302, .ref 303, .ref 304, .ref 305, .ref 306, .int pev, .int pk])), (299, .inr (.inl (0, pms))), (300, .inr (.inl (0, pmm))), (301, .inr (.inl (0, pmt))), (302, .inr (.inl (0, pst))), (303, .inr (.inl (0, (sA pwa v3 ((gA pwa v3) + v2))))), (343, .inl (2, [.int ns, .ref 344, .ref 345, .ref 346, .ref 347, .int nt, .ref 348, .ref 349, .ref 350, .ref 351, .ref 352, .ref 353, .ref 354, .int cel, .ref 355, .ref 356, .ref 357, .ref 358]))]) K rfl rfl (fun h K => ?_)
        obtain ⟨pwa2, epwa2⟩ : ∃ z, z = (sA pwa v3 ((gA pwa v3) + v2)) := ⟨_, rfl⟩
        rw [← epwa2] at K
        refine j_V.ldL xd38_M xd38_41 rfl (i := 0) (kd := 2) (v := .ref 298) (pcJ := 42) rfl L rfl rfl rfl ?_
        refine j_V.getK xd38_M xd38_42 (ci := 3) (j := 3) rfl K rfl rfl ?_
        refine j_V.ldL xd38_M xd38_45 rfl (i := 1) (kd := 2) (v := .ref 282) (pcJ := 46) rfl L rfl rfl rfl ?_
        refine j_V.getK xd38_M xd38_46 (ci := 7) (j := 7) rfl K rfl rfl ?_
        refine j_V.ldL xd38_M xd38_49 rfl (i := 3) (kd := 0) (v := .int v3) (pcJ := 50) rfl L rfl rfl rfl ?_
        refine j_V.iaA xd38_M xd38_50 K rfl ?_
        refine j_V.one xd38_M xd38_51 (by decide) (pcJ := 52) (stJ := [.int (gA sp v3), .ref 302, .int (gA sp v3), .ref 302]) rfl ?_
        refine j_V.iaA xd38_M xd38_52 K rfl ?_
        refine j_V.ldL xd38_M xd38_53 rfl (i := 2) (kd := 0) (v := .int v2) (pcJ := 54) rfl L rfl rfl rfl ?_
        refine j_V.one xd38_M xd38_54 (by decide) (pcJ := 55) (stJ := [.int ((gA pst (gA sp v3)) + v2), .int (gA sp v3), .ref 302]) rfl ?_
        refine j_V.isA xd38_M xd38_55 (k' := [(282, .inl (7, [.ref 343, .int mi, .int shu, .int bus, .ref 283, .ref 284, .ref 285, .ref 286, .ref 287, .ref 288, .ref 289, .ref 290, .ref 291, .ref 292, .ref 293, .int lks, .ref 294, .ref 295, .ref 298])), (285, .inr (.inl (0, ph))), (286, .inr (.inl (0, sp))), (298, .inl (3, [.ref 299, .ref 300, .ref 301, .ref 302, .ref 303, .ref 304, .ref 305, .ref 306, .int pev, .int pk])), (299, .inr (.inl (0, pms))), (300, .inr (.inl (0, pmm))), (301, .inr (.inl (0, pmt))), (302, .inr (.inl (0, (sA pst (gA sp v3) ((gA pst (gA sp v3)) + v2))))), (303, .inr (.inl (0, pwa2))), (343, .inl (2, [.int ns, .ref 344, .ref 345, .ref 346, .ref 347, .int nt, .ref 348, .ref 349, .ref 350, .ref 351, .ref 352, .ref 353, .ref 354, .int cel, .ref 355, .ref 356, .ref 357, .ref 358]))]) K rfl rfl (fun h K => ?_)
        obtain ⟨pst2, epst2⟩ : ∃ z, z = (sA pst (gA sp v3) ((gA pst (gA sp v3)) + v2)) := ⟨_, rfl⟩
        rw [← epst2] at K
        refine j_V.ldL xd38_M xd38_56 rfl (i := 0) (kd := 2) (v := .ref 298) (pcJ := 57) rfl L rfl rfl rfl ?_
        refine j_V.ldL xd38_M xd38_57 rfl (i := 1) (kd := 2) (v := .ref 282) (pcJ := 58) rfl L rfl rfl rfl ?_
        refine j_V.ldL xd38_M xd38_58 rfl (i := 3) (kd := 0) (v := .int v3) (pcJ := 59) rfl L rfl rfl rfl ?_
        refine j_V.ldL xd38_M xd38_59 rfl (i := 1) (kd := 2) (v := .ref 282) (pcJ := 60) rfl L rfl rfl rfl ?_
        refine j_V.ldL xd38_M xd38_60 rfl (i := 1) (kd := 2) (v := .ref 282) (pcJ := 61) rfl L rfl rfl rfl ?_
        refine j_V.getK xd38_M xd38_61 (ci := 7) (j := 7) rfl K rfl rfl ?_
        refine j_V.ldL xd38_M xd38_64 rfl (i := 3) (kd := 0) (v := .int v3) (pcJ := 65) rfl L rfl rfl rfl ?_
        refine j_V.iaA xd38_M xd38_65 K rfl ?_
        refine j_V.cl xd38_M xd38_66 rfl (md := 3) (mj := 68) rfl (by decide) xd09_M (As := [.ref 282, .int (gA sp v3)]) (rest := [.int v3, .ref 282, .ref 298]) (jk_spl3 (K.at rfl) rfl rfl rfl (Nat.le_of_ble_eq_true rfl) (Nat.le_of_ble_eq_true rfl)) (fun d => xd09_ok (K.fi [282, 285, 286, 343] rfl rfl)) ?_
        rintro r hz ⟨rfl, ez⟩
        rw [ez]
        clear ez
        show j_V jP _ 31 69 lv [.int (x_trainsIn ph sp nt (gA sp v3)), .int v3, .ref 282, .ref 298] h _
        refine j_V.one xd38_M xd38_69 (by decide) (pcJ := 70) (stJ := [.int 1, .int (x_trainsIn ph sp nt (gA sp v3)), .int v3, .ref 282, .ref 298]) rfl ?_
        refine j_V.ldL xd38_M xd38_70 rfl (i := 3) (kd := 0) (v := .int v3) (pcJ := 71) rfl L rfl rfl rfl ?_
        refine j_V.one xd38_M xd38_71 (by decide) (pcJ := 72) (stJ := [.int (1 <<< (v3 &&& 31)), .int (x_trainsIn ph sp nt (gA sp v3)), .int v3, .ref 282, .ref 298]) rfl ?_
        refine j_V.one xd38_M xd38_72 (by decide) (pcJ := 73) (stJ := [.int (-1), .int (1 <<< (v3 &&& 31)), .int (x_trainsIn ph sp nt (gA sp v3)), .int v3, .ref 282, .ref 298]) rfl ?_
        refine j_V.one xd38_M xd38_73 (by decide) (pcJ := 74) (stJ := [.int ((1 <<< (v3 &&& 31)) ^^^ (-1)), .int (x_trainsIn ph sp nt (gA sp v3)), .int v3, .ref 282, .ref 298]) rfl ?_
        refine j_V.one xd38_M xd38_74 (by decide) (pcJ := 75) (stJ := [.int ((x_trainsIn ph sp nt (gA sp v3)) &&& ((1 <<< (v3 &&& 31)) ^^^ (-1))), .int v3, .ref 282, .ref 298]) rfl ?_
        refine j_V.cl xd38_M xd38_75 rfl (md := 3) (mj := 32) rfl (by decide) xd37_M (As := [.ref 298, .ref 282, .int v3, .int ((x_trainsIn ph sp nt (gA sp v3)) &&& ((1 <<< (v3 &&& 31)) ^^^ (-1)))]) (rest := []) (jk_spl3 (K.at rfl) rfl rfl rfl (Nat.le_of_ble_eq_true rfl) (Nat.le_of_ble_eq_true rfl)) (fun d => xd37_ok (K.fi [282, 286, 298, 299, 300, 301] rfl rfl)) ?_
        rintro r h9 ⟨rfl, K9⟩
        generalize ez2 : (x_noteMeetings mi sp pms pmm pmt v3 ((x_trainsIn ph sp nt (gA sp v3)) &&& ((1 <<< (v3 &&& 31)) ^^^ (-1)))) = z2 at K9 ⊢
        have K : KN h9 [(282, .inl (7, [.ref 343, .int mi, .int shu, .int bus, .ref 283, .ref 284, .ref 285, .ref 286, .ref 287, .ref 288, .ref 289, .ref 290, .ref 291, .ref 292, .ref 293, .int lks, .ref 294, .ref 295, .ref 298])), (285, .inr (.inl (0, ph))), (286, .inr (.inl (0, sp))), (298, .inl (3, [.ref 299, .ref 300, .ref 301, .ref 302, .ref 303, .ref 304, .ref 305, .ref 306, .int pev, .int pk])), (299, .inr (.inl (0, (z2.1)))), (300, .inr (.inl (0, (z2.2.1)))), (301, .inr (.inl (0, (z2.2.2)))), (302, .inr (.inl (0, pst2))), (303, .inr (.inl (0, pwa2))), (343, .inl (2, [.int ns, .ref 344, .ref 345, .ref 346, .ref 347, .int nt, .ref 348, .ref 349, .ref 350, .ref 351, .ref 352, .ref 353, .ref 354, .int cel, .ref 355, .ref 356, .ref 357, .ref 358]))] h0 := K.mg K9 rfl rfl
        clear K9
        show j_V jP _ 31 78 lv [] h9 _
        refine j_V.inL xd38_M xd38_78 (i := 3) (kl' := [(0, .ref 298), (1, .ref 282), (2, .int v2), (3, .int (v3 + 1))]) (pcJ := 81) L rfl rfl rfl rfl (fun lv L => ?_)
        refine j_V.gto xd38_M xd38_81 (t := 10) rfl ?_
        subst ez2
        subst epst2
        subst epwa2
        rw [show (x_noteMinutes_l10 mi ph sp nt v2 (f + 1) v3 pms pmm pmt pst pwa) = _ from ((if_pos c28_0).trans (rfl))]
        exact ih _ _ _ _ _ _ (lpN_n e) L K
set_option maxRecDepth 1000000 in
theorem xd38_ok {mi : Int32} {shu : Int32} {bus : Int32} {lks : Int32} {ph : List Int32} {sp : List Int32} {pev : Int32} {pk : Int32} {pms : List Int32} {pmm : List Int32} {pmt : List Int32} {pst : List Int32} {pwa : List Int32} {ns : Int32} {nt : Int32} {cel : Int32} {x2 : Int32} {d : Nat} {h h0 : J_H} (K : KN h [(282, .inl (7, [.ref 343, .int mi, .int shu, .int bus, .ref 283, .ref 284, .ref 285, .ref 286, .ref 287, .ref 288, .ref 289, .ref 290, .ref 291, .ref 292, .ref 293, .int lks, .ref 294, .ref 295, .ref 298])), (285, .inr (.inl (0, ph))), (286, .inr (.inl (0, sp))), (298, .inl (3, [.ref 299, .ref 300, .ref 301, .ref 302, .ref 303, .ref 304, .ref 305, .ref 306, .int pev, .int pk])), (299, .inr (.inl (0, pms))), (300, .inr (.inl (0, pmm))), (301, .inr (.inl (0, pmt))), (302, .inr (.inl (0, pst))), (303, .inr (.inl (0, pwa))), (343, .inl (2, [.int ns, .ref 344, .ref 345, .ref 346, .ref 347, .int nt, .ref 348, .ref 349, .ref 350, .ref 351, .ref 352, .ref 353, .ref 354, .int cel, .ref 355, .ref 356, .ref 357, .ref 358]))] h0) : j_V jP d 31 0 (lv_args 0 [.ref 298, .ref 282, .int x2]) [] h (fun rv h' => rv = none ∧ KN h' [(282, .inl (7, [.ref 343, .int mi, .int shu, .int bus, .ref 283, .ref 284, .ref 285, .ref 286, .ref 287, .ref 288, .ref 289, .ref 290, .ref 291, .ref 292, .ref 293, .int lks, .ref 294, .ref 295, .ref 298])), (285, .inr (.inl (0, ph))), (286, .inr (.inl (0, sp))), (298, .inl (3, [.ref 299, .ref 300, .ref 301, .ref 302, .ref 303, .ref 304, .ref 305, .ref 306, .int pev, .int pk])), (299, .inr (.inl (0, (x_noteMinutes mi ph sp pk pms pmm pmt pst pwa nt x2).1))), (300, .inr (.inl (0, (x_noteMinutes mi ph sp pk pms pmm pmt pst pwa nt x2).2.1))), (301, .inr (.inl (0, (x_noteMinutes mi ph sp pk pms pmm pmt pst pwa nt x2).2.2.1))), (302, .inr (.inl (0, (x_noteMinutes mi ph sp pk pms pmm pmt pst pwa nt x2).2.2.2.1))), (303, .inr (.inl (0, (x_noteMinutes mi ph sp pk pms pmm pmt pst pwa nt x2).2.2.2.2))), (343, .inl (2, [.int ns, .ref 344, .ref 345, .ref 346, .ref 347, .int nt, .ref 348, .ref 349, .ref 350, .ref 351, .ref 352, .ref 353, .ref 354, .int cel, .ref 355, .ref 356, .ref 357, .ref 358]))] h0) := by
  show j_V jP d 31 0 [(0, .ref 298), (1, .ref 282), (2, .int x2)] [] h _
  obtain ⟨lv, elv, L⟩ : ∃ lv, lv = [(0, .ref 298), (1, .ref 282), (2, .int x2)] ∧ LK lv [(0, .ref 298), (1, .ref 282), (2, .int x2)] := ⟨_, rfl, LK.rf⟩
  rw [← elv]
  clear elv
  refine j_V.ldL xd38_M xd38_0 rfl (i := 0) (kd := 2) (v := .ref 298) (pcJ := 1) rfl L rfl rfl rfl ?_
  refine j_V.getK xd38_M xd38_1 (ci := 3) (j := 9) rfl K rfl rfl ?_
  refine j_V.ifc xd38_M xd38_4 (t := 8) rfl (fun c4_0 => ?_) (fun c4_0 => ?_)
  · replace c4_0 : ¬ (pk = 0) := jd_ne c4_0
    refine j_V.one xd38_M xd38_8 (by decide) (pcJ := 9) (stJ := [.int 0]) rfl ?_
    refine j_V.stL xd38_M xd38_9 rfl (i := 3) (kd := 0) (kl' := [(0, .ref 298), (1, .ref 282), (2, .int x2), (3, .int 0)]) (pcJ := 10) rfl L rfl (by decide) rfl rfl rfl (fun lv L => ?_)
    rw [show (x_noteMinutes mi ph sp pk pms pmm pmt pst pwa nt x2) = _ from ((if_neg c4_0).trans (rfl))]
    exact xd38_ok_l10 _ _ _ _ _ _ _ rfl L K
  · replace c4_0 : pk = 0 := jd_nen c4_0
    refine j_V.ret xd38_M xd38_7 rfl rfl ?_
    rw [show (x_noteMinutes mi ph sp pk pms pmm pmt pst pwa nt x2) = _ from ((if_pos c4_0).trans (rfl))]
    exact ⟨rfl, K⟩
set_option maxRecDepth 100000 in
theorem xd39_M : j_meth jP 95 = some (yX7_endMinutes, cX7_endMinutes, 3, none, 1, false, 7) := rfl
set_option maxRecDepth 100000 in
theorem xd39_0 : j_code jP 95 0 = some (.iload_n 1) := rfl
set_option maxRecDepth 100000 in
theorem xd39_1 : j_code jP 95 1 = some (.ifCond .gt 4) := rfl
set_option maxRecDepth 100000 in
theorem xd39_4 : j_code jP 95 4 = some (.return_) := rfl
set_option maxRecDepth 100000 in
theorem xd39_5 : j_code jP 95 5 = some (.iconst 0) := rfl
set_option maxRecDepth 100000 in
theorem xd39_6 : j_code jP 95 6 = some (.istore_n 2) := rfl
set_option maxRecDepth 100000 in
theorem xd39_7 : j_code jP 95 7 = some (.iload_n 2) := rfl
set_option maxRecDepth 100000 in
theorem xd39_8 : j_code jP 95 8 = some (.bipush 6) := rfl
set_option maxRecDepth 100000 in
theorem xd39_10 : j_code jP 95 10 = some (.if_icmp .ge 29) := rfl
set_option maxRecDepth 100000 in
theorem xd39_13 : j_code jP 95 13 = some (.aload_n 0) := rfl
set_option maxRecDepth 100000 in
theorem xd39_14 : j_code jP 95 14 = some (.getfield 33) := rfl
set_option maxRecDepth 100000 in
theorem xd39_17 : j_code jP 95 17 = some (.iload_n 2) := rfl
set_option maxRecDepth 100000 in
theorem xd39_18 : j_code jP 95 18 = some (.iaload) := rfl
set_option maxRecDepth 100000 in
theorem xd39_19 : j_code jP 95 19 = some (.iconst (-1)) := rfl
set_option maxRecDepth 100000 in
theorem xd39_20 : j_code jP 95 20 = some (.if_icmp .eq 13) := rfl
set_option maxRecDepth 100000 in
theorem xd39_23 : j_code jP 95 23 = some (.aload_n 0) := rfl
set_option maxRecDepth 100000 in
theorem xd39_24 : j_code jP 95 24 = some (.getfield 36) := rfl
set_option maxRecDepth 100000 in
theorem xd39_27 : j_code jP 95 27 = some (.iload_n 2) := rfl
set_option maxRecDepth 100000 in
theorem xd39_28 : j_code jP 95 28 = some (.dup2) := rfl
set_option maxRecDepth 100000 in
theorem xd39_29 : j_code jP 95 29 = some (.iaload) := rfl
set_option maxRecDepth 100000 in
theorem xd39_30 : j_code jP 95 30 = some (.iload_n 1) := rfl
set_option maxRecDepth 100000 in
theorem xd39_31 : j_code jP 95 31 = some (.iadd) := rfl
set_option maxRecDepth 100000 in
theorem xd39_32 : j_code jP 95 32 = some (.iastore) := rfl
set_option maxRecDepth 100000 in
theorem xd39_33 : j_code jP 95 33 = some (.iinc 2 1) := rfl
set_option maxRecDepth 100000 in
theorem xd39_36 : j_code jP 95 36 = some (.goto (-29)) := rfl
set_option maxRecDepth 100000 in
theorem xd39_39 : j_code jP 95 39 = some (.aload_n 0) := rfl
set_option maxRecDepth 100000 in
theorem xd39_40 : j_code jP 95 40 = some (.getfield 60) := rfl
set_option maxRecDepth 100000 in
theorem xd39_43 : j_code jP 95 43 = some (.aload_n 0) := rfl
set_option maxRecDepth 100000 in
theorem xd39_44 : j_code jP 95 44 = some (.iload_n 1) := rfl
set_option maxRecDepth 100000 in
theorem xd39_45 : j_code jP 95 45 = some (.invokevirtual 203) := rfl
set_option maxRecDepth 100000 in
theorem xd39_48 : j_code jP 95 48 = some (.aload_n 0) := rfl
set_option maxRecDepth 100000 in
theorem xd39_49 : j_code jP 95 49 = some (.dup) := rfl
set_option maxRecDepth 100000 in
theorem xd39_50 : j_code jP 95 50 = some (.getfield 68) := rfl
set_option maxRecDepth 100000 in
theorem xd39_53 : j_code jP 95 53 = some (.iload_n 1) := rfl
set_option maxRecDepth 100000 in
theorem xd39_54 : j_code jP 95 54 = some (.iadd) := rfl
set_option maxRecDepth 100000 in
theorem xd39_55 : j_code jP 95 55 = some (.putfield 68) := rfl
set_option maxRecDepth 100000 in
theorem xd39_58 : j_code jP 95 58 = some (.return_) := rfl
set_option maxRecDepth 1000000 in
theorem xd39_ok_l7 {shu : Int32} {bus : Int32} {lks : Int32} {ph : List Int32} {sp : List Int32} {ri : List Int32} {pev : Int32} {pk : Int32} {ns : Int32} {nt : Int32} {cel : Int32} {v1 : Int32} {d : Nat} {h0 : J_H} : ∀ (f : Nat) (v2 : Int32) (mi : Int32) (us : List Int32) (pms : List Int32) (pmm : List Int32) (pmt : List Int32) (pst : List Int32) (pwa : List Int32) {lv : J_L} {h : J_H}, lpN 6 v2 = f → LK lv [(0, .ref 282), (1, .int v1), (2, .int v2)] → KN h [(282, .inl (7, [.ref 343, .int mi, .int shu, .int bus, .ref 283, .ref 284, .ref 285, .ref 286, .ref 287, .ref 288, .ref 289, .ref 290, .ref 291, .ref 292, .ref 293, .int lks, .ref 294, .ref 295, .ref 298])), (285, .inr (.inl (0, ph))), (286, .inr (.inl (0, sp))), (290, .inr (.inl (0, ri))), (291, .inr (.inl (0, us))), (298, .inl (3, [.ref 299, .ref 300, .ref 301, .ref 302, .ref 303, .ref 304, .ref 305, .ref 306, .int pev, .int pk])), (299, .inr (.inl (0, pms))), (300, .inr (.inl (0, pmm))), (301, .inr (.inl (0, pmt))), (302, .inr (.inl (0, pst))), (303, .inr (.inl (0, pwa))), (343, .inl (2, [.int ns, .ref 344, .ref 345, .ref 346, .ref 347, .int nt, .ref 348, .ref 349, .ref 350, .ref 351, .ref 352, .ref 353, .ref 354, .int cel, .ref 355, .ref 356, .ref 357, .ref 358]))] h0 → j_V jP d 95 7 lv [] h (fun rv h' => rv = none ∧ KN h' [(282, .inl (7, [.ref 343, .int (x_endMinutes_l7 ph sp ri pk nt v1 f v2 mi us pms pmm pmt pst pwa).1, .int shu, .int bus, .ref 283, .ref 284, .ref 285, .ref 286, .ref 287, .ref 288, .ref 289, .ref 290, .ref 291, .ref 292, .ref 293, .int lks, .ref 294, .ref 295, .ref 298])), (285, .inr (.inl (0, ph))), (286, .inr (.inl (0, sp))), (290, .inr (.inl (0, ri))), (291, .inr (.inl (0, (x_endMinutes_l7 ph sp ri pk nt v1 f v2 mi us pms pmm pmt pst pwa).2.1))), (298, .inl (3, [.ref 299, .ref 300, .ref 301, .ref 302, .ref 303, .ref 304, .ref 305, .ref 306, .int pev, .int pk])), (299, .inr (.inl (0, (x_endMinutes_l7 ph sp ri pk nt v1 f v2 mi us pms pmm pmt pst pwa).2.2.1))), (300, .inr (.inl (0, (x_endMinutes_l7 ph sp ri pk nt v1 f v2 mi us pms pmm pmt pst pwa).2.2.2.1))), (301, .inr (.inl (0, (x_endMinutes_l7 ph sp ri pk nt v1 f v2 mi us pms pmm pmt pst pwa).2.2.2.2.1))), (302, .inr (.inl (0, (x_endMinutes_l7 ph sp ri pk nt v1 f v2 mi us pms pmm pmt pst pwa).2.2.2.2.2.1))), (303, .inr (.inl (0, (x_endMinutes_l7 ph sp ri pk nt v1 f v2 mi us pms pmm pmt pst pwa).2.2.2.2.2.2))), (343, .inl (2, [.int ns, .ref 344, .ref 345, .ref 346, .ref 347, .int nt, .ref 348, .ref 349, .ref 350, .ref 351, .ref 352, .ref 353, .ref 354, .int cel, .ref 355, .ref 356, .ref 357, .ref 358]))] h0) := by
  intro f
  induction f with
  | zero =>
    intro v2 mi us pms pmm pmt pst pwa lv h e L K
    refine j_V.ldL xd39_M xd39_7 rfl (i := 2) (kd := 0) (v := .int v2) (pcJ := 8) rfl L rfl rfl rfl ?_
    refine j_V.one xd39_M xd39_8 (by decide) (pcJ := 10) (stJ := [.int 6, .int v2]) rfl ?_
    refine j_V.icmp xd39_M xd39_10 (t := 39) rfl (fun c10_0 => ?_) (fun c10_0 => ?_)
    · replace c10_0 : ¬ (v2 < 6) := jd_ge c10_0
      refine j_V.ldL xd39_M xd39_39 rfl (i := 0) (kd := 2) (v := .ref 282) (pcJ := 40) rfl L rfl rfl rfl ?_
      refine j_V.getK xd39_M xd39_40 (ci := 7) (j := 18) rfl K rfl rfl ?_
      refine j_V.ldL xd39_M xd39_43 rfl (i := 0) (kd := 2) (v := .ref 282) (pcJ := 44) rfl L rfl rfl rfl ?_
      refine j_V.ldL xd39_M xd39_44 rfl (i := 1) (kd := 0) (v := .int v1) (pcJ := 45) rfl L rfl rfl rfl ?_
      refine j_V.cl xd39_M xd39_45 rfl (md := 3) (mj := 31) rfl (by decide) xd38_M (As := [.ref 298, .ref 282, .int v1]) (rest := []) (jk_spl3 (K.at rfl) rfl rfl rfl (Nat.le_of_ble_eq_true rfl) (Nat.le_of_ble_eq_true rfl)) (fun d => xd38_ok (K.fi [282, 285, 286, 298, 299, 300, 301, 302, 303, 343] rfl rfl)) ?_
      rintro r h9 ⟨rfl, K9⟩
      generalize ez1 : (x_noteMinutes mi ph sp pk pms pmm pmt pst pwa nt v1) = z1 at K9 ⊢
      have K : KN h9 [(282, .inl (7, [.ref 343, .int mi, .int shu, .int bus, .ref 283, .ref 284, .ref 285, .ref 286, .ref 287, .ref 288, .ref 289, .ref 290, .ref 291, .ref 292, .ref 293, .int lks, .ref 294, .ref 295, .ref 298])), (285, .inr (.inl (0, ph))), (286, .inr (.inl (0, sp))), (290, .inr (.inl (0, ri))), (291, .inr (.inl (0, us))), (298, .inl (3, [.ref 299, .ref 300, .ref 301, .ref 302, .ref 303, .ref 304, .ref 305, .ref 306, .int pev, .int pk])), (299, .inr (.inl (0, (z1.1)))), (300, .inr (.inl (0, (z1.2.1)))), (301, .inr (.inl (0, (z1.2.2.1)))), (302, .inr (.inl (0, (z1.2.2.2.1)))), (303, .inr (.inl (0, (z1.2.2.2.2)))), (343, .inl (2, [.int ns, .ref 344, .ref 345, .ref 346, .ref 347, .int nt, .ref 348, .ref 349, .ref 350, .ref 351, .ref 352, .ref 353, .ref 354, .int cel, .ref 355, .ref 356, .ref 357, .ref 358]))] h0 := K.mg K9 rfl rfl
      clear K9
      show j_V jP _ 95 48 lv [] h9 _
      refine j_V.ldL xd39_M xd39_48 rfl (i := 0) (kd := 2) (v := .ref 282) (pcJ := 49) rfl L rfl rfl rfl ?_
      refine j_V.one xd39_M xd39_49 (by decide) (pcJ := 50) (stJ := [.ref 282, .ref 282]) rfl ?_
      refine j_V.getK xd39_M xd39_50 (ci := 7) (j := 1) rfl K rfl rfl ?_
      refine j_V.ldL xd39_M xd39_53 rfl (i := 1) (kd := 0) (v := .int v1) (pcJ := 54) rfl L rfl rfl rfl ?_
      refine j_V.one xd39_M xd39_54 (by decide) (pcJ := 55) (stJ := [.int (mi + v1), .ref 282]) rfl ?_
      refine j_V.putK xd39_M xd39_55 (ci := 7) (j := 1) (k' := [(282, .inl (7, [.ref 343, .int (mi + v1), .int shu, .int bus, .ref 283, .ref 284, .ref 285, .ref 286, .ref 287, .ref 288, .ref 289, .ref 290, .ref 291, .ref 292, .ref 293, .int lks, .ref 294, .ref 295, .ref 298])), (285, .inr (.inl (0, ph))), (286, .inr (.inl (0, sp))), (290, .inr (.inl (0, ri))), (291, .inr (.inl (0, us))), (298, .inl (3, [.ref 299, .ref 300, .ref 301, .ref 302, .ref 303, .ref 304, .ref 305, .ref 306, .int pev, .int pk])), (299, .inr (.inl (0, (z1.1)))), (300, .inr (.inl (0, (z1.2.1)))), (301, .inr (.inl (0, (z1.2.2.1)))), (302, .inr (.inl (0, (z1.2.2.2.1)))), (303, .inr (.inl (0, (z1.2.2.2.2)))), (343, .inl (2, [.int ns, .ref 344, .ref 345, .ref 346, .ref 347, .int nt, .ref 348, .ref 349, .ref 350, .ref 351, .ref 352, .ref 353, .ref 354, .int cel, .ref 355, .ref 356, .ref 357, .ref 358]))]) rfl K rfl (Nat.le_of_ble_eq_true rfl) rfl (Or.inl rfl) rfl rfl (fun h K => ?_)
      obtain ⟨mi1, emi1⟩ : ∃ z, z = (mi + v1) := ⟨_, rfl⟩
      rw [← emi1] at K
      subst emi1
      subst ez1
      refine j_V.ret xd39_M xd39_58 rfl rfl ?_
      rw [show (x_endMinutes_l7 ph sp ri pk nt v1 0 v2 mi us pms pmm pmt pst pwa) = _ from (rfl)]
      exact ⟨rfl, K⟩
    · replace c10_0 : v2 < 6 := jd_gen c10_0
      exact absurd c10_0 (lpN_z e)
  | succ f ih =>
    intro v2 mi us pms pmm pmt pst pwa lv h e L K
    refine j_V.ldL xd39_M xd39_7 rfl (i := 2) (kd := 0) (v := .int v2) (pcJ := 8) rfl L rfl rfl rfl ?_
    refine j_V.one xd39_M xd39_8 (by decide) (pcJ := 10) (stJ := [.int 6, .int v2]) rfl ?_
    refine j_V.icmp xd39_M xd39_10 (t := 39) rfl (fun c10_0 => ?_) (fun c10_0 => ?_)
    · replace c10_0 : ¬ (v2 < 6) := jd_ge c10_0
      exact absurd (lpN_s e) c10_0
    · replace c10_0 : v2 < 6 := jd_gen c10_0
      refine j_V.ldL xd39_M xd39_13 rfl (i := 0) (kd := 2) (v := .ref 282) (pcJ := 14) rfl L rfl rfl rfl ?_
      refine j_V.getK xd39_M xd39_14 (ci := 7) (j := 11) rfl K rfl rfl ?_
      refine j_V.ldL xd39_M xd39_17 rfl (i := 2) (kd := 0) (v := .int v2) (pcJ := 18) rfl L rfl rfl rfl ?_
      refine j_V.iaA xd39_M xd39_18 K rfl ?_
      refine j_V.one xd39_M xd39_19 (by decide) (pcJ := 20) (stJ := [.int (-1), .int (gA ri v2)]) rfl ?_
      refine j_V.icmp xd39_M xd39_20 (t := 33) rfl (fun c20_0 => ?_) (fun c20_0 => ?_)
      · replace c20_0 : (gA ri v2) = (-1) := jd_eq c20_0
        refine j_V.inL xd39_M xd39_33 (i := 2) (kl' := [(0, .ref 282), (1, .int v1), (2, .int (v2 + 1))]) (pcJ := 36) L rfl rfl rfl rfl (fun lv L => ?_)
        refine j_V.gto xd39_M xd39_36 (t := 7) rfl ?_
        rw [show (x_endMinutes_l7 ph sp ri pk nt v1 (f + 1) v2 mi us pms pmm pmt pst pwa) = _ from ((if_pos c20_0).trans (rfl))]
        exact ih _ _ _ _ _ _ _ _ (lpN_n e) L K
      · replace c20_0 : ¬ ((gA ri v2) = (-1)) := jd_eqn c20_0
        refine j_V.ldL xd39_M xd39_23 rfl (i := 0) (kd := 2) (v := .ref 282) (pcJ := 24) rfl L rfl rfl rfl ?_
        refine j_V.getK xd39_M xd39_24 (ci := 7) (j := 12) rfl K rfl rfl ?_
        refine j_V.ldL xd39_M xd39_27 rfl (i := 2) (kd := 0) (v := .int v2) (pcJ := 28) rfl L rfl rfl rfl ?_
        refine j_V.one xd39_M xd39_28 (by decide) (pcJ := 29) (stJ := [.int v2, .ref 291, .int v2, .ref 291]) rfl ?_
        refine j_V.iaA xd39_M xd39_29 K rfl ?_
        refine j_V.ldL xd39_M xd39_30 rfl (i := 1) (kd := 0) (v := .int v1) (pcJ := 31) rfl L rfl rfl rfl ?_
        refine j_V.one xd39_M xd39_31 (by decide) (pcJ := 32) (stJ := [.int ((gA us v2) + v1), .int v2, .ref 291]) rfl ?_
        refine j_V.isA xd39_M xd39_32 (k' := [(282, .inl (7, [.ref 343, .int mi, .int shu, .int bus, .ref 283, .ref 284, .ref 285, .ref 286, .ref 287, .ref 288, .ref 289, .ref 290, .ref 291, .ref 292, .ref 293, .int lks, .ref 294, .ref 295, .ref 298])), (285, .inr (.inl (0, ph))), (286, .inr (.inl (0, sp))), (290, .inr (.inl (0, ri))), (291, .inr (.inl (0, (sA us v2 ((gA us v2) + v1))))), (298, .inl (3, [.ref 299, .ref 300, .ref 301, .ref 302, .ref 303, .ref 304, .ref 305, .ref 306, .int pev, .int pk])), (299, .inr (.inl (0, pms))), (300, .inr (.inl (0, pmm))), (301, .inr (.inl (0, pmt))), (302, .inr (.inl (0, pst))), (303, .inr (.inl (0, pwa))), (343, .inl (2, [.int ns, .ref 344, .ref 345, .ref 346, .ref 347, .int nt, .ref 348, .ref 349, .ref 350, .ref 351, .ref 352, .ref 353, .ref 354, .int cel, .ref 355, .ref 356, .ref 357, .ref 358]))]) K rfl rfl (fun h K => ?_)
        obtain ⟨us2, eus2⟩ : ∃ z, z = (sA us v2 ((gA us v2) + v1)) := ⟨_, rfl⟩
        rw [← eus2] at K
        refine j_V.inL xd39_M xd39_33 (i := 2) (kl' := [(0, .ref 282), (1, .int v1), (2, .int (v2 + 1))]) (pcJ := 36) L rfl rfl rfl rfl (fun lv L => ?_)
        refine j_V.gto xd39_M xd39_36 (t := 7) rfl ?_
        subst eus2
        rw [show (x_endMinutes_l7 ph sp ri pk nt v1 (f + 1) v2 mi us pms pmm pmt pst pwa) = _ from ((if_neg c20_0).trans (rfl))]
        exact ih _ _ _ _ _ _ _ _ (lpN_n e) L K
set_option maxRecDepth 1000000 in
theorem xd39_ok {mi : Int32} {shu : Int32} {bus : Int32} {lks : Int32} {ph : List Int32} {sp : List Int32} {ri : List Int32} {us : List Int32} {pev : Int32} {pk : Int32} {pms : List Int32} {pmm : List Int32} {pmt : List Int32} {pst : List Int32} {pwa : List Int32} {ns : Int32} {nt : Int32} {cel : Int32} {x1 : Int32} {d : Nat} {h h0 : J_H} (K : KN h [(282, .inl (7, [.ref 343, .int mi, .int shu, .int bus, .ref 283, .ref 284, .ref 285, .ref 286, .ref 287, .ref 288, .ref 289, .ref 290, .ref 291, .ref 292, .ref 293, .int lks, .ref 294, .ref 295, .ref 298])), (285, .inr (.inl (0, ph))), (286, .inr (.inl (0, sp))), (290, .inr (.inl (0, ri))), (291, .inr (.inl (0, us))), (298, .inl (3, [.ref 299, .ref 300, .ref 301, .ref 302, .ref 303, .ref 304, .ref 305, .ref 306, .int pev, .int pk])), (299, .inr (.inl (0, pms))), (300, .inr (.inl (0, pmm))), (301, .inr (.inl (0, pmt))), (302, .inr (.inl (0, pst))), (303, .inr (.inl (0, pwa))), (343, .inl (2, [.int ns, .ref 344, .ref 345, .ref 346, .ref 347, .int nt, .ref 348, .ref 349, .ref 350, .ref 351, .ref 352, .ref 353, .ref 354, .int cel, .ref 355, .ref 356, .ref 357, .ref 358]))] h0) : j_V jP d 95 0 (lv_args 0 [.ref 282, .int x1]) [] h (fun rv h' => rv = none ∧ KN h' [(282, .inl (7, [.ref 343, .int (x_endMinutes mi ph sp ri us pk pms pmm pmt pst pwa nt x1).1, .int shu, .int bus, .ref 283, .ref 284, .ref 285, .ref 286, .ref 287, .ref 288, .ref 289, .ref 290, .ref 291, .ref 292, .ref 293, .int lks, .ref 294, .ref 295, .ref 298])), (285, .inr (.inl (0, ph))), (286, .inr (.inl (0, sp))), (290, .inr (.inl (0, ri))), (291, .inr (.inl (0, (x_endMinutes mi ph sp ri us pk pms pmm pmt pst pwa nt x1).2.1))), (298, .inl (3, [.ref 299, .ref 300, .ref 301, .ref 302, .ref 303, .ref 304, .ref 305, .ref 306, .int pev, .int pk])), (299, .inr (.inl (0, (x_endMinutes mi ph sp ri us pk pms pmm pmt pst pwa nt x1).2.2.1))), (300, .inr (.inl (0, (x_endMinutes mi ph sp ri us pk pms pmm pmt pst pwa nt x1).2.2.2.1))), (301, .inr (.inl (0, (x_endMinutes mi ph sp ri us pk pms pmm pmt pst pwa nt x1).2.2.2.2.1))), (302, .inr (.inl (0, (x_endMinutes mi ph sp ri us pk pms pmm pmt pst pwa nt x1).2.2.2.2.2.1))), (303, .inr (.inl (0, (x_endMinutes mi ph sp ri us pk pms pmm pmt pst pwa nt x1).2.2.2.2.2.2))), (343, .inl (2, [.int ns, .ref 344, .ref 345, .ref 346, .ref 347, .int nt, .ref 348, .ref 349, .ref 350, .ref 351, .ref 352, .ref 353, .ref 354, .int cel, .ref 355, .ref 356, .ref 357, .ref 358]))] h0) := by
  show j_V jP d 95 0 [(0, .ref 282), (1, .int x1)] [] h _
  obtain ⟨lv, elv, L⟩ : ∃ lv, lv = [(0, .ref 282), (1, .int x1)] ∧ LK lv [(0, .ref 282), (1, .int x1)] := ⟨_, rfl, LK.rf⟩
  rw [← elv]
  clear elv
  refine j_V.ldL xd39_M xd39_0 rfl (i := 1) (kd := 0) (v := .int x1) (pcJ := 1) rfl L rfl rfl rfl ?_
  refine j_V.ifc xd39_M xd39_1 (t := 5) rfl (fun c1_0 => ?_) (fun c1_0 => ?_)
  · replace c1_0 : 0 < x1 := jd_gt c1_0
    refine j_V.one xd39_M xd39_5 (by decide) (pcJ := 6) (stJ := [.int 0]) rfl ?_
    refine j_V.stL xd39_M xd39_6 rfl (i := 2) (kd := 0) (kl' := [(0, .ref 282), (1, .int x1), (2, .int 0)]) (pcJ := 7) rfl L rfl (by decide) rfl rfl rfl (fun lv L => ?_)
    rw [show (x_endMinutes mi ph sp ri us pk pms pmm pmt pst pwa nt x1) = _ from ((if_pos c1_0).trans (rfl))]
    exact xd39_ok_l7 _ _ _ _ _ _ _ _ _ rfl L K
  · replace c1_0 : ¬ (0 < x1) := jd_gtn c1_0
    refine j_V.ret xd39_M xd39_4 rfl rfl ?_
    rw [show (x_endMinutes mi ph sp ri us pk pms pmm pmt pst pwa nt x1) = _ from ((if_neg c1_0).trans (rfl))]
    exact ⟨rfl, K⟩
set_option maxRecDepth 100000 in
theorem xd40_M : j_meth jP 76 = some (yX7_isSafe, cX7_isSafe, 1, (some .boolean), 0, false, 7) := rfl
set_option maxRecDepth 100000 in
theorem xd40_0 : j_code jP 76 0 = some (.aload_n 0) := rfl
set_option maxRecDepth 100000 in
theorem xd40_1 : j_code jP 76 1 = some (.getfield 51) := rfl
set_option maxRecDepth 100000 in
theorem xd40_4 : j_code jP 76 4 = some (.aload_n 0) := rfl
set_option maxRecDepth 100000 in
theorem xd40_5 : j_code jP 76 5 = some (.iconst (-1)) := rfl
set_option maxRecDepth 100000 in
theorem xd40_6 : j_code jP 76 6 = some (.iconst (-1)) := rfl
set_option maxRecDepth 100000 in
theorem xd40_7 : j_code jP 76 7 = some (.invokevirtual 131) := rfl
set_option maxRecDepth 100000 in
theorem xd40_10 : j_code jP 76 10 = some (.ifCond .ne 7) := rfl
set_option maxRecDepth 100000 in
theorem xd40_13 : j_code jP 76 13 = some (.iconst 1) := rfl
set_option maxRecDepth 100000 in
theorem xd40_14 : j_code jP 76 14 = some (.goto 4) := rfl
set_option maxRecDepth 100000 in
theorem xd40_17 : j_code jP 76 17 = some (.iconst 0) := rfl
set_option maxRecDepth 100000 in
theorem xd40_18 : j_code jP 76 18 = some (.ireturn) := rfl
set_option maxRecDepth 1000000 in
theorem xd40_ok {mi : Int32} {shu : Int32} {bus : Int32} {lks : Int32} {ce : List Int32} {rl : Int32} {row : List Int32} {sea : List Int32} {ns : Int32} {nt : Int32} {cel : Int32} {fit : List Int32} {way : List Int32} {d : Nat} {h h0 : J_H} (K : KN h [(282, .inl (7, [.ref 343, .int mi, .int shu, .int bus, .ref 283, .ref 284, .ref 285, .ref 286, .ref 287, .ref 288, .ref 289, .ref 290, .ref 291, .ref 292, .ref 293, .int lks, .ref 294, .ref 295, .ref 298])), (287, .inr (.inl (0, ce))), (295, .inl (5, [.ref 296, .int rl, .ref 297])), (296, .inr (.inl (0, row))), (297, .inr (.inl (0, sea))), (343, .inl (2, [.int ns, .ref 344, .ref 345, .ref 346, .ref 347, .int nt, .ref 348, .ref 349, .ref 350, .ref 351, .ref 352, .ref 353, .ref 354, .int cel, .ref 355, .ref 356, .ref 357, .ref 358])), (355, .inr (.inl (0, fit))), (356, .inr (.inl (0, way)))] h0) : j_V jP d 76 0 (lv_args 0 [.ref 282]) [] h (fun rv h' => rv = some (.int (x_isSafe shu ce rl row sea nt fit way).1) ∧ KN h' [(282, .inl (7, [.ref 343, .int mi, .int shu, .int bus, .ref 283, .ref 284, .ref 285, .ref 286, .ref 287, .ref 288, .ref 289, .ref 290, .ref 291, .ref 292, .ref 293, .int lks, .ref 294, .ref 295, .ref 298])), (287, .inr (.inl (0, ce))), (295, .inl (5, [.ref 296, .int (x_isSafe shu ce rl row sea nt fit way).2.2.2, .ref 297])), (296, .inr (.inl (0, (x_isSafe shu ce rl row sea nt fit way).2.2.1))), (297, .inr (.inl (0, (x_isSafe shu ce rl row sea nt fit way).2.1))), (343, .inl (2, [.int ns, .ref 344, .ref 345, .ref 346, .ref 347, .int nt, .ref 348, .ref 349, .ref 350, .ref 351, .ref 352, .ref 353, .ref 354, .int cel, .ref 355, .ref 356, .ref 357, .ref 358])), (355, .inr (.inl (0, fit))), (356, .inr (.inl (0, way)))] h0) := by
  show j_V jP d 76 0 [(0, .ref 282)] [] h _
  obtain ⟨lv, elv, L⟩ : ∃ lv, lv = [(0, .ref 282)] ∧ LK lv [(0, .ref 282)] := ⟨_, rfl, LK.rf⟩
  rw [← elv]
  clear elv
  refine j_V.ldL xd40_M xd40_0 rfl (i := 0) (kd := 2) (v := .ref 282) (pcJ := 1) rfl L rfl rfl rfl ?_
  refine j_V.getK xd40_M xd40_1 (ci := 7) (j := 17) rfl K rfl rfl ?_
  refine j_V.ldL xd40_M xd40_4 rfl (i := 0) (kd := 2) (v := .ref 282) (pcJ := 5) rfl L rfl rfl rfl ?_
  refine j_V.one xd40_M xd40_5 (by decide) (pcJ := 6) (stJ := [.int (-1), .ref 282, .ref 295]) rfl ?_
  refine j_V.one xd40_M xd40_6 (by decide) (pcJ := 7) (stJ := [.int (-1), .int (-1), .ref 282, .ref 295]) rfl ?_
  refine j_V.cl xd40_M xd40_7 rfl (md := 3) (mj := 48) rfl (by decide) xd36_M (As := [.ref 295, .ref 282, .int (-1), .int (-1)]) (rest := []) (jk_spl3 (K.at rfl) rfl rfl rfl (Nat.le_of_ble_eq_true rfl) (Nat.le_of_ble_eq_true rfl)) (fun d => xd36_ok (K.fi [282, 287, 295, 296, 297, 343, 355, 356] rfl rfl)) ?_
  rintro r h9 ⟨rfl, K9⟩
  generalize ez1 : (x_leftStanding shu ce rl row sea nt fit way (-1) (-1)) = z1 at K9 ⊢
  have K : KN h9 [(282, .inl (7, [.ref 343, .int mi, .int shu, .int bus, .ref 283, .ref 284, .ref 285, .ref 286, .ref 287, .ref 288, .ref 289, .ref 290, .ref 291, .ref 292, .ref 293, .int lks, .ref 294, .ref 295, .ref 298])), (287, .inr (.inl (0, ce))), (295, .inl (5, [.ref 296, .int (z1.2.2.2), .ref 297])), (296, .inr (.inl (0, (z1.2.2.1)))), (297, .inr (.inl (0, (z1.2.1)))), (343, .inl (2, [.int ns, .ref 344, .ref 345, .ref 346, .ref 347, .int nt, .ref 348, .ref 349, .ref 350, .ref 351, .ref 352, .ref 353, .ref 354, .int cel, .ref 355, .ref 356, .ref 357, .ref 358])), (355, .inr (.inl (0, fit))), (356, .inr (.inl (0, way)))] h0 := K.mg K9 rfl rfl
  clear K9
  show j_V jP _ 76 10 lv [.int (z1.1)] h9 _
  refine j_V.cut (b := 18) (stJ := [.int ((if (z1.1) = 0 then 1 else 0) : Int32)]) (fun v => [(0, .ref 282)]) ((if (z1.1) = 0 then 1 else 0) : Int32) (fun Q kk => ?_) (fun lv L => ?_)
  · refine j_V.ifc xd40_M xd40_10 (t := 17) rfl (fun c10_0 => ?_) (fun c10_0 => ?_)
    · replace c10_0 : ¬ ((z1.1) = 0) := jd_ne c10_0
      refine j_V.one xd40_M xd40_17 (by decide) (pcJ := 18) (stJ := [.int 0]) rfl ?_
      exact Eq.subst (motive := fun z => j_V jP _ 76 18 _ (.int z :: []) h9 Q) (show ((if (z1.1) = 0 then 1 else 0) : Int32) = 0 from (if_neg c10_0).trans (rfl)) (kk _ L)
    · replace c10_0 : (z1.1) = 0 := jd_nen c10_0
      refine j_V.one xd40_M xd40_13 (by decide) (pcJ := 14) (stJ := [.int 1]) rfl ?_
      refine j_V.gto xd40_M xd40_14 (t := 18) rfl ?_
      exact Eq.subst (motive := fun z => j_V jP _ 76 18 _ (.int z :: []) h9 Q) (show ((if (z1.1) = 0 then 1 else 0) : Int32) = 1 from (if_pos c10_0).trans (rfl)) (kk _ L)
  subst ez1
  refine j_V.ri xd40_M xd40_18 ?_
  rw [show (x_isSafe shu ce rl row sea nt fit way) = _ from (rfl)]
  exact ⟨rfl, K⟩
set_option maxRecDepth 100000 in
theorem xd41_M : j_meth jP 80 = some (yX7_reason, cX7_reason, 3, (some .int), 1, false, 7) := rfl
set_option maxRecDepth 100000 in
theorem xd41_0 : j_code jP 80 0 = some (.aload_n 0) := rfl
set_option maxRecDepth 100000 in
theorem xd41_1 : j_code jP 80 1 = some (.getfield 18) := rfl
set_option maxRecDepth 100000 in
theorem xd41_4 : j_code jP 80 4 = some (.iload_n 1) := rfl
set_option maxRecDepth 100000 in
theorem xd41_5 : j_code jP 80 5 = some (.iaload) := rfl
set_option maxRecDepth 100000 in
theorem xd41_6 : j_code jP 80 6 = some (.iconst 3) := rfl
set_option maxRecDepth 100000 in
theorem xd41_7 : j_code jP 80 7 = some (.if_icmp .ne 5) := rfl
set_option maxRecDepth 100000 in
theorem xd41_10 : j_code jP 80 10 = some (.iconst 1) := rfl
set_option maxRecDepth 100000 in
theorem xd41_11 : j_code jP 80 11 = some (.ireturn) := rfl
set_option maxRecDepth 100000 in
theorem xd41_12 : j_code jP 80 12 = some (.aload_n 0) := rfl
set_option maxRecDepth 100000 in
theorem xd41_13 : j_code jP 80 13 = some (.getfield 18) := rfl
set_option maxRecDepth 100000 in
theorem xd41_16 : j_code jP 80 16 = some (.iload_n 1) := rfl
set_option maxRecDepth 100000 in
theorem xd41_17 : j_code jP 80 17 = some (.iaload) := rfl
set_option maxRecDepth 100000 in
theorem xd41_18 : j_code jP 80 18 = some (.iconst 2) := rfl
set_option maxRecDepth 100000 in
theorem xd41_19 : j_code jP 80 19 = some (.if_icmp .ne 5) := rfl
set_option maxRecDepth 100000 in
theorem xd41_22 : j_code jP 80 22 = some (.iconst 2) := rfl
set_option maxRecDepth 100000 in
theorem xd41_23 : j_code jP 80 23 = some (.ireturn) := rfl
set_option maxRecDepth 100000 in
theorem xd41_24 : j_code jP 80 24 = some (.aload_n 0) := rfl
set_option maxRecDepth 100000 in
theorem xd41_25 : j_code jP 80 25 = some (.iload_n 1) := rfl
set_option maxRecDepth 100000 in
theorem xd41_26 : j_code jP 80 26 = some (.invokevirtual 143) := rfl
set_option maxRecDepth 100000 in
theorem xd41_29 : j_code jP 80 29 = some (.istore_n 2) := rfl
set_option maxRecDepth 100000 in
theorem xd41_30 : j_code jP 80 30 = some (.iload_n 2) := rfl
set_option maxRecDepth 100000 in
theorem xd41_31 : j_code jP 80 31 = some (.bipush (-2)) := rfl
set_option maxRecDepth 100000 in
theorem xd41_33 : j_code jP 80 33 = some (.if_icmp .ne 5) := rfl
set_option maxRecDepth 100000 in
theorem xd41_36 : j_code jP 80 36 = some (.iconst 4) := rfl
set_option maxRecDepth 100000 in
theorem xd41_37 : j_code jP 80 37 = some (.ireturn) := rfl
set_option maxRecDepth 100000 in
theorem xd41_38 : j_code jP 80 38 = some (.iload_n 2) := rfl
set_option maxRecDepth 100000 in
theorem xd41_39 : j_code jP 80 39 = some (.iconst (-1)) := rfl
set_option maxRecDepth 100000 in
theorem xd41_40 : j_code jP 80 40 = some (.if_icmp .ne 5) := rfl
set_option maxRecDepth 100000 in
theorem xd41_43 : j_code jP 80 43 = some (.iconst 3) := rfl
set_option maxRecDepth 100000 in
theorem xd41_44 : j_code jP 80 44 = some (.ireturn) := rfl
set_option maxRecDepth 100000 in
theorem xd41_45 : j_code jP 80 45 = some (.aload_n 0) := rfl
set_option maxRecDepth 100000 in
theorem xd41_46 : j_code jP 80 46 = some (.getfield 51) := rfl
set_option maxRecDepth 100000 in
theorem xd41_49 : j_code jP 80 49 = some (.aload_n 0) := rfl
set_option maxRecDepth 100000 in
theorem xd41_50 : j_code jP 80 50 = some (.iload_n 1) := rfl
set_option maxRecDepth 100000 in
theorem xd41_51 : j_code jP 80 51 = some (.iload_n 2) := rfl
set_option maxRecDepth 100000 in
theorem xd41_52 : j_code jP 80 52 = some (.invokevirtual 131) := rfl
set_option maxRecDepth 100000 in
theorem xd41_55 : j_code jP 80 55 = some (.ifCond .ne 7) := rfl
set_option maxRecDepth 100000 in
theorem xd41_58 : j_code jP 80 58 = some (.iconst 0) := rfl
set_option maxRecDepth 100000 in
theorem xd41_59 : j_code jP 80 59 = some (.goto 4) := rfl
set_option maxRecDepth 100000 in
theorem xd41_62 : j_code jP 80 62 = some (.iconst 5) := rfl
set_option maxRecDepth 100000 in
theorem xd41_63 : j_code jP 80 63 = some (.ireturn) := rfl
set_option maxRecDepth 1000000 in
theorem xd41_ok {mi : Int32} {shu : Int32} {bus : Int32} {lks : Int32} {ph : List Int32} {sp : List Int32} {ce : List Int32} {ri : List Int32} {rl : Int32} {row : List Int32} {sea : List Int32} {ns : Int32} {nt : Int32} {cel : Int32} {len : List Int32} {frm : List Int32} {tto : List Int32} {fit : List Int32} {way : List Int32} {x1 : Int32} {d : Nat} {h h0 : J_H} (K : KN h [(282, .inl (7, [.ref 343, .int mi, .int shu, .int bus, .ref 283, .ref 284, .ref 285, .ref 286, .ref 287, .ref 288, .ref 289, .ref 290, .ref 291, .ref 292, .ref 293, .int lks, .ref 294, .ref 295, .ref 298])), (285, .inr (.inl (0, ph))), (286, .inr (.inl (0, sp))), (287, .inr (.inl (0, ce))), (290, .inr (.inl (0, ri))), (295, .inl (5, [.ref 296, .int rl, .ref 297])), (296, .inr (.inl (0, row))), (297, .inr (.inl (0, sea))), (343, .inl (2, [.int ns, .ref 344, .ref 345, .ref 346, .ref 347, .int nt, .ref 348, .ref 349, .ref 350, .ref 351, .ref 352, .ref 353, .ref 354, .int cel, .ref 355, .ref 356, .ref 357, .ref 358])), (347, .inr (.inl (0, len))), (350, .inr (.inl (0, frm))), (351, .inr (.inl (0, tto))), (355, .inr (.inl (0, fit))), (356, .inr (.inl (0, way)))] h0) : j_V jP d 80 0 (lv_args 0 [.ref 282, .int x1]) [] h (fun rv h' => rv = some (.int (x_reason shu bus ph sp ce ri rl row sea nt len frm tto fit way x1).1) ∧ KN h' [(282, .inl (7, [.ref 343, .int mi, .int shu, .int bus, .ref 283, .ref 284, .ref 285, .ref 286, .ref 287, .ref 288, .ref 289, .ref 290, .ref 291, .ref 292, .ref 293, .int lks, .ref 294, .ref 295, .ref 298])), (285, .inr (.inl (0, ph))), (286, .inr (.inl (0, sp))), (287, .inr (.inl (0, ce))), (290, .inr (.inl (0, ri))), (295, .inl (5, [.ref 296, .int (x_reason shu bus ph sp ce ri rl row sea nt len frm tto fit way x1).2.2.2, .ref 297])), (296, .inr (.inl (0, (x_reason shu bus ph sp ce ri rl row sea nt len frm tto fit way x1).2.2.1))), (297, .inr (.inl (0, (x_reason shu bus ph sp ce ri rl row sea nt len frm tto fit way x1).2.1))), (343, .inl (2, [.int ns, .ref 344, .ref 345, .ref 346, .ref 347, .int nt, .ref 348, .ref 349, .ref 350, .ref 351, .ref 352, .ref 353, .ref 354, .int cel, .ref 355, .ref 356, .ref 357, .ref 358])), (347, .inr (.inl (0, len))), (350, .inr (.inl (0, frm))), (351, .inr (.inl (0, tto))), (355, .inr (.inl (0, fit))), (356, .inr (.inl (0, way)))] h0) := by
  show j_V jP d 80 0 [(0, .ref 282), (1, .int x1)] [] h _
  obtain ⟨lv, elv, L⟩ : ∃ lv, lv = [(0, .ref 282), (1, .int x1)] ∧ LK lv [(0, .ref 282), (1, .int x1)] := ⟨_, rfl, LK.rf⟩
  rw [← elv]
  clear elv
  refine j_V.ldL xd41_M xd41_0 rfl (i := 0) (kd := 2) (v := .ref 282) (pcJ := 1) rfl L rfl rfl rfl ?_
  refine j_V.getK xd41_M xd41_1 (ci := 7) (j := 6) rfl K rfl rfl ?_
  refine j_V.ldL xd41_M xd41_4 rfl (i := 1) (kd := 0) (v := .int x1) (pcJ := 5) rfl L rfl rfl rfl ?_
  refine j_V.iaA xd41_M xd41_5 K rfl ?_
  refine j_V.one xd41_M xd41_6 (by decide) (pcJ := 7) (stJ := [.int 3, .int (gA ph x1)]) rfl ?_
  refine j_V.icmp xd41_M xd41_7 (t := 12) rfl (fun c7_0 => ?_) (fun c7_0 => ?_)
  · replace c7_0 : ¬ ((gA ph x1) = 3) := jd_ne c7_0
    refine j_V.ldL xd41_M xd41_12 rfl (i := 0) (kd := 2) (v := .ref 282) (pcJ := 13) rfl L rfl rfl rfl ?_
    refine j_V.getK xd41_M xd41_13 (ci := 7) (j := 6) rfl K rfl rfl ?_
    refine j_V.ldL xd41_M xd41_16 rfl (i := 1) (kd := 0) (v := .int x1) (pcJ := 17) rfl L rfl rfl rfl ?_
    refine j_V.iaA xd41_M xd41_17 K rfl ?_
    refine j_V.one xd41_M xd41_18 (by decide) (pcJ := 19) (stJ := [.int 2, .int (gA ph x1)]) rfl ?_
    refine j_V.icmp xd41_M xd41_19 (t := 24) rfl (fun c19_1 => ?_) (fun c19_1 => ?_)
    · replace c19_1 : ¬ ((gA ph x1) = 2) := jd_ne c19_1
      refine j_V.ldL xd41_M xd41_24 rfl (i := 0) (kd := 2) (v := .ref 282) (pcJ := 25) rfl L rfl rfl rfl ?_
      refine j_V.ldL xd41_M xd41_25 rfl (i := 1) (kd := 0) (v := .int x1) (pcJ := 26) rfl L rfl rfl rfl ?_
      refine j_V.cl xd41_M xd41_26 rfl (md := 3) (mj := 85) rfl (by decide) xd19_M (As := [.ref 282, .int x1]) (rest := []) (jk_spl3 (K.at rfl) rfl rfl rfl (Nat.le_of_ble_eq_true rfl) (Nat.le_of_ble_eq_true rfl)) (fun d => xd19_ok (K.fi [282, 285, 286, 290, 343, 347, 350, 351, 355] rfl rfl)) ?_
      rintro r hz ⟨rfl, ez⟩
      rw [ez]
      clear ez
      show j_V jP _ 80 29 lv [.int (x_target shu bus ph sp ri len frm tto fit x1)] h _
      refine j_V.stL xd41_M xd41_29 rfl (i := 2) (kd := 0) (kl' := [(0, .ref 282), (1, .int x1), (2, .int (x_target shu bus ph sp ri len frm tto fit x1))]) (pcJ := 30) rfl L rfl (by decide) rfl rfl rfl (fun lv L => ?_)
      refine j_V.ldL xd41_M xd41_30 rfl (i := 2) (kd := 0) (v := .int (x_target shu bus ph sp ri len frm tto fit x1)) (pcJ := 31) rfl L rfl rfl rfl ?_
      refine j_V.one xd41_M xd41_31 (by decide) (pcJ := 33) (stJ := [.int (-2), .int (x_target shu bus ph sp ri len frm tto fit x1)]) rfl ?_
      refine j_V.icmp xd41_M xd41_33 (t := 38) rfl (fun c33_2 => ?_) (fun c33_2 => ?_)
      · replace c33_2 : ¬ ((x_target shu bus ph sp ri len frm tto fit x1) = (-2)) := jd_ne c33_2
        refine j_V.ldL xd41_M xd41_38 rfl (i := 2) (kd := 0) (v := .int (x_target shu bus ph sp ri len frm tto fit x1)) (pcJ := 39) rfl L rfl rfl rfl ?_
        refine j_V.one xd41_M xd41_39 (by decide) (pcJ := 40) (stJ := [.int (-1), .int (x_target shu bus ph sp ri len frm tto fit x1)]) rfl ?_
        refine j_V.icmp xd41_M xd41_40 (t := 45) rfl (fun c40_3 => ?_) (fun c40_3 => ?_)
        · replace c40_3 : ¬ ((x_target shu bus ph sp ri len frm tto fit x1) = (-1)) := jd_ne c40_3
          refine j_V.ldL xd41_M xd41_45 rfl (i := 0) (kd := 2) (v := .ref 282) (pcJ := 46) rfl L rfl rfl rfl ?_
          refine j_V.getK xd41_M xd41_46 (ci := 7) (j := 17) rfl K rfl rfl ?_
          refine j_V.ldL xd41_M xd41_49 rfl (i := 0) (kd := 2) (v := .ref 282) (pcJ := 50) rfl L rfl rfl rfl ?_
          refine j_V.ldL xd41_M xd41_50 rfl (i := 1) (kd := 0) (v := .int x1) (pcJ := 51) rfl L rfl rfl rfl ?_
          refine j_V.ldL xd41_M xd41_51 rfl (i := 2) (kd := 0) (v := .int (x_target shu bus ph sp ri len frm tto fit x1)) (pcJ := 52) rfl L rfl rfl rfl ?_
          refine j_V.cl xd41_M xd41_52 rfl (md := 3) (mj := 48) rfl (by decide) xd36_M (As := [.ref 295, .ref 282, .int x1, .int (x_target shu bus ph sp ri len frm tto fit x1)]) (rest := []) (jk_spl3 (K.at rfl) rfl rfl rfl (Nat.le_of_ble_eq_true rfl) (Nat.le_of_ble_eq_true rfl)) (fun d => xd36_ok (K.fi [282, 287, 295, 296, 297, 343, 355, 356] rfl rfl)) ?_
          rintro r h9 ⟨rfl, K9⟩
          generalize ez1 : (x_leftStanding shu ce rl row sea nt fit way x1 (x_target shu bus ph sp ri len frm tto fit x1)) = z1 at K9 ⊢
          have K : KN h9 [(282, .inl (7, [.ref 343, .int mi, .int shu, .int bus, .ref 283, .ref 284, .ref 285, .ref 286, .ref 287, .ref 288, .ref 289, .ref 290, .ref 291, .ref 292, .ref 293, .int lks, .ref 294, .ref 295, .ref 298])), (285, .inr (.inl (0, ph))), (286, .inr (.inl (0, sp))), (287, .inr (.inl (0, ce))), (290, .inr (.inl (0, ri))), (295, .inl (5, [.ref 296, .int (z1.2.2.2), .ref 297])), (296, .inr (.inl (0, (z1.2.2.1)))), (297, .inr (.inl (0, (z1.2.1)))), (343, .inl (2, [.int ns, .ref 344, .ref 345, .ref 346, .ref 347, .int nt, .ref 348, .ref 349, .ref 350, .ref 351, .ref 352, .ref 353, .ref 354, .int cel, .ref 355, .ref 356, .ref 357, .ref 358])), (347, .inr (.inl (0, len))), (350, .inr (.inl (0, frm))), (351, .inr (.inl (0, tto))), (355, .inr (.inl (0, fit))), (356, .inr (.inl (0, way)))] h0 := K.mg K9 rfl rfl
          clear K9
          show j_V jP _ 80 55 lv [.int (z1.1)] h9 _
          refine j_V.cut (b := 63) (stJ := [.int ((if (z1.1) = 0 then 0 else 5) : Int32)]) (fun v => [(0, .ref 282), (1, .int x1), (2, .int (x_target shu bus ph sp ri len frm tto fit x1))]) ((if (z1.1) = 0 then 0 else 5) : Int32) (fun Q kk => ?_) (fun lv L => ?_)
          · refine j_V.ifc xd41_M xd41_55 (t := 62) rfl (fun c55_0 => ?_) (fun c55_0 => ?_)
            · replace c55_0 : ¬ ((z1.1) = 0) := jd_ne c55_0
              refine j_V.one xd41_M xd41_62 (by decide) (pcJ := 63) (stJ := [.int 5]) rfl ?_
              exact Eq.subst (motive := fun z => j_V jP _ 80 63 _ (.int z :: []) h9 Q) (show ((if (z1.1) = 0 then 0 else 5) : Int32) = 5 from (if_neg c55_0).trans (rfl)) (kk _ L)
            · replace c55_0 : (z1.1) = 0 := jd_nen c55_0
              refine j_V.one xd41_M xd41_58 (by decide) (pcJ := 59) (stJ := [.int 0]) rfl ?_
              refine j_V.gto xd41_M xd41_59 (t := 63) rfl ?_
              exact Eq.subst (motive := fun z => j_V jP _ 80 63 _ (.int z :: []) h9 Q) (show ((if (z1.1) = 0 then 0 else 5) : Int32) = 0 from (if_pos c55_0).trans (rfl)) (kk _ L)
          subst ez1
          refine j_V.ri xd41_M xd41_63 ?_
          rw [show (x_reason shu bus ph sp ce ri rl row sea nt len frm tto fit way x1) = _ from ((if_neg c7_0).trans ((if_neg c19_1).trans ((if_neg c33_2).trans ((if_neg c40_3).trans (rfl)))))]
          exact ⟨rfl, K⟩
        · replace c40_3 : (x_target shu bus ph sp ri len frm tto fit x1) = (-1) := jd_nen c40_3
          refine j_V.one xd41_M xd41_43 (by decide) (pcJ := 44) (stJ := [.int 3]) rfl ?_
          refine j_V.ri xd41_M xd41_44 ?_
          rw [show (x_reason shu bus ph sp ce ri rl row sea nt len frm tto fit way x1) = _ from ((if_neg c7_0).trans ((if_neg c19_1).trans ((if_neg c33_2).trans ((if_pos c40_3).trans (rfl)))))]
          exact ⟨rfl, K⟩
      · replace c33_2 : (x_target shu bus ph sp ri len frm tto fit x1) = (-2) := jd_nen c33_2
        refine j_V.one xd41_M xd41_36 (by decide) (pcJ := 37) (stJ := [.int 4]) rfl ?_
        refine j_V.ri xd41_M xd41_37 ?_
        rw [show (x_reason shu bus ph sp ce ri rl row sea nt len frm tto fit way x1) = _ from ((if_neg c7_0).trans ((if_neg c19_1).trans ((if_pos c33_2).trans (rfl))))]
        exact ⟨rfl, K⟩
    · replace c19_1 : (gA ph x1) = 2 := jd_nen c19_1
      refine j_V.one xd41_M xd41_22 (by decide) (pcJ := 23) (stJ := [.int 2]) rfl ?_
      refine j_V.ri xd41_M xd41_23 ?_
      rw [show (x_reason shu bus ph sp ce ri rl row sea nt len frm tto fit way x1) = _ from ((if_neg c7_0).trans ((if_pos c19_1).trans (rfl)))]
      exact ⟨rfl, K⟩
  · replace c7_0 : (gA ph x1) = 3 := jd_nen c7_0
    refine j_V.one xd41_M xd41_10 (by decide) (pcJ := 11) (stJ := [.int 1]) rfl ?_
    refine j_V.ri xd41_M xd41_11 ?_
    rw [show (x_reason shu bus ph sp ce ri rl row sea nt len frm tto fit way x1) = _ from ((if_pos c7_0).trans (rfl))]
    exact ⟨rfl, K⟩
set_option maxRecDepth 100000 in
theorem xd42_M : j_meth jP 77 = some (yX7_isWeak, cX7_isWeak, 4, (some .boolean), 1, false, 7) := rfl
set_option maxRecDepth 100000 in
theorem xd42_0 : j_code jP 77 0 = some (.aload_n 0) := rfl
set_option maxRecDepth 100000 in
theorem xd42_1 : j_code jP 77 1 = some (.getfield 72) := rfl
set_option maxRecDepth 100000 in
theorem xd42_4 : j_code jP 77 4 = some (.istore_n 2) := rfl
set_option maxRecDepth 100000 in
theorem xd42_5 : j_code jP 77 5 = some (.aload_n 0) := rfl
set_option maxRecDepth 100000 in
theorem xd42_6 : j_code jP 77 6 = some (.dup) := rfl
set_option maxRecDepth 100000 in
theorem xd42_7 : j_code jP 77 7 = some (.getfield 72) := rfl
set_option maxRecDepth 100000 in
theorem xd42_10 : j_code jP 77 10 = some (.iconst 1) := rfl
set_option maxRecDepth 100000 in
theorem xd42_11 : j_code jP 77 11 = some (.iload_n 1) := rfl
set_option maxRecDepth 100000 in
theorem xd42_12 : j_code jP 77 12 = some (.ishl) := rfl
set_option maxRecDepth 100000 in
theorem xd42_13 : j_code jP 77 13 = some (.ior) := rfl
set_option maxRecDepth 100000 in
theorem xd42_14 : j_code jP 77 14 = some (.putfield 72) := rfl
set_option maxRecDepth 100000 in
theorem xd42_17 : j_code jP 77 17 = some (.aload_n 0) := rfl
set_option maxRecDepth 100000 in
theorem xd42_18 : j_code jP 77 18 = some (.getfield 72) := rfl
set_option maxRecDepth 100000 in
theorem xd42_21 : j_code jP 77 21 = some (.iload_n 2) := rfl
set_option maxRecDepth 100000 in
theorem xd42_22 : j_code jP 77 22 = some (.if_icmp .eq 14) := rfl
set_option maxRecDepth 100000 in
theorem xd42_25 : j_code jP 77 25 = some (.aload_n 0) := rfl
set_option maxRecDepth 100000 in
theorem xd42_26 : j_code jP 77 26 = some (.invokevirtual 135) := rfl
set_option maxRecDepth 100000 in
theorem xd42_29 : j_code jP 77 29 = some (.ifCond .ne 7) := rfl
set_option maxRecDepth 100000 in
theorem xd42_32 : j_code jP 77 32 = some (.iconst 1) := rfl
set_option maxRecDepth 100000 in
theorem xd42_33 : j_code jP 77 33 = some (.goto 4) := rfl
set_option maxRecDepth 100000 in
theorem xd42_36 : j_code jP 77 36 = some (.iconst 0) := rfl
set_option maxRecDepth 100000 in
theorem xd42_37 : j_code jP 77 37 = some (.istore_n 3) := rfl
set_option maxRecDepth 100000 in
theorem xd42_38 : j_code jP 77 38 = some (.aload_n 0) := rfl
set_option maxRecDepth 100000 in
theorem xd42_39 : j_code jP 77 39 = some (.iload_n 2) := rfl
set_option maxRecDepth 100000 in
theorem xd42_40 : j_code jP 77 40 = some (.putfield 72) := rfl
set_option maxRecDepth 100000 in
theorem xd42_43 : j_code jP 77 43 = some (.iload_n 3) := rfl
set_option maxRecDepth 100000 in
theorem xd42_44 : j_code jP 77 44 = some (.ireturn) := rfl
set_option maxRecDepth 1000000 in
theorem xd42_ok {mi : Int32} {shu : Int32} {bus : Int32} {lks : Int32} {ce : List Int32} {rl : Int32} {row : List Int32} {sea : List Int32} {ns : Int32} {nt : Int32} {cel : Int32} {fit : List Int32} {way : List Int32} {x1 : Int32} {d : Nat} {h h0 : J_H} (K : KN h [(282, .inl (7, [.ref 343, .int mi, .int shu, .int bus, .ref 283, .ref 284, .ref 285, .ref 286, .ref 287, .ref 288, .ref 289, .ref 290, .ref 291, .ref 292, .ref 293, .int lks, .ref 294, .ref 295, .ref 298])), (287, .inr (.inl (0, ce))), (295, .inl (5, [.ref 296, .int rl, .ref 297])), (296, .inr (.inl (0, row))), (297, .inr (.inl (0, sea))), (343, .inl (2, [.int ns, .ref 344, .ref 345, .ref 346, .ref 347, .int nt, .ref 348, .ref 349, .ref 350, .ref 351, .ref 352, .ref 353, .ref 354, .int cel, .ref 355, .ref 356, .ref 357, .ref 358])), (355, .inr (.inl (0, fit))), (356, .inr (.inl (0, way)))] h0) : j_V jP d 77 0 (lv_args 0 [.ref 282, .int x1]) [] h (fun rv h' => rv = some (.int (x_isWeak shu ce rl row sea nt fit way x1).1) ∧ KN h' [(282, .inl (7, [.ref 343, .int mi, .int shu, .int bus, .ref 283, .ref 284, .ref 285, .ref 286, .ref 287, .ref 288, .ref 289, .ref 290, .ref 291, .ref 292, .ref 293, .int lks, .ref 294, .ref 295, .ref 298])), (287, .inr (.inl (0, ce))), (295, .inl (5, [.ref 296, .int (x_isWeak shu ce rl row sea nt fit way x1).2.2.2, .ref 297])), (296, .inr (.inl (0, (x_isWeak shu ce rl row sea nt fit way x1).2.2.1))), (297, .inr (.inl (0, (x_isWeak shu ce rl row sea nt fit way x1).2.1))), (343, .inl (2, [.int ns, .ref 344, .ref 345, .ref 346, .ref 347, .int nt, .ref 348, .ref 349, .ref 350, .ref 351, .ref 352, .ref 353, .ref 354, .int cel, .ref 355, .ref 356, .ref 357, .ref 358])), (355, .inr (.inl (0, fit))), (356, .inr (.inl (0, way)))] h0) := by
  show j_V jP d 77 0 [(0, .ref 282), (1, .int x1)] [] h _
  obtain ⟨lv, elv, L⟩ : ∃ lv, lv = [(0, .ref 282), (1, .int x1)] ∧ LK lv [(0, .ref 282), (1, .int x1)] := ⟨_, rfl, LK.rf⟩
  rw [← elv]
  clear elv
  refine j_V.ldL xd42_M xd42_0 rfl (i := 0) (kd := 2) (v := .ref 282) (pcJ := 1) rfl L rfl rfl rfl ?_
  refine j_V.getK xd42_M xd42_1 (ci := 7) (j := 2) rfl K rfl rfl ?_
  refine j_V.stL xd42_M xd42_4 rfl (i := 2) (kd := 0) (kl' := [(0, .ref 282), (1, .int x1), (2, .int shu)]) (pcJ := 5) rfl L rfl (by decide) rfl rfl rfl (fun lv L => ?_)
  refine j_V.ldL xd42_M xd42_5 rfl (i := 0) (kd := 2) (v := .ref 282) (pcJ := 6) rfl L rfl rfl rfl ?_
  refine j_V.one xd42_M xd42_6 (by decide) (pcJ := 7) (stJ := [.ref 282, .ref 282]) rfl ?_
  refine j_V.getK xd42_M xd42_7 (ci := 7) (j := 2) rfl K rfl rfl ?_
  refine j_V.one xd42_M xd42_10 (by decide) (pcJ := 11) (stJ := [.int 1, .int shu, .ref 282]) rfl ?_
  refine j_V.ldL xd42_M xd42_11 rfl (i := 1) (kd := 0) (v := .int x1) (pcJ := 12) rfl L rfl rfl rfl ?_
  refine j_V.one xd42_M xd42_12 (by decide) (pcJ := 13) (stJ := [.int (1 <<< (x1 &&& 31)), .int shu, .ref 282]) rfl ?_
  refine j_V.one xd42_M xd42_13 (by decide) (pcJ := 14) (stJ := [.int (shu ||| (1 <<< (x1 &&& 31))), .ref 282]) rfl ?_
  refine j_V.putK xd42_M xd42_14 (ci := 7) (j := 2) (k' := [(282, .inl (7, [.ref 343, .int mi, .int (shu ||| (1 <<< (x1 &&& 31))), .int bus, .ref 283, .ref 284, .ref 285, .ref 286, .ref 287, .ref 288, .ref 289, .ref 290, .ref 291, .ref 292, .ref 293, .int lks, .ref 294, .ref 295, .ref 298])), (287, .inr (.inl (0, ce))), (295, .inl (5, [.ref 296, .int rl, .ref 297])), (296, .inr (.inl (0, row))), (297, .inr (.inl (0, sea))), (343, .inl (2, [.int ns, .ref 344, .ref 345, .ref 346, .ref 347, .int nt, .ref 348, .ref 349, .ref 350, .ref 351, .ref 352, .ref 353, .ref 354, .int cel, .ref 355, .ref 356, .ref 357, .ref 358])), (355, .inr (.inl (0, fit))), (356, .inr (.inl (0, way)))]) rfl K rfl (Nat.le_of_ble_eq_true rfl) rfl (Or.inl rfl) rfl rfl (fun h K => ?_)
  refine j_V.ldL xd42_M xd42_17 rfl (i := 0) (kd := 2) (v := .ref 282) (pcJ := 18) rfl L rfl rfl rfl ?_
  refine j_V.getK xd42_M xd42_18 (ci := 7) (j := 2) rfl K rfl rfl ?_
  refine j_V.ldL xd42_M xd42_21 rfl (i := 2) (kd := 0) (v := .int shu) (pcJ := 22) rfl L rfl rfl rfl ?_
  refine j_V.icmp xd42_M xd42_22 (t := 36) rfl (fun c22_0 => ?_) (fun c22_0 => ?_)
  · replace c22_0 : (shu ||| (1 <<< (x1 &&& 31))) = shu := jd_eq c22_0
    refine j_V.one xd42_M xd42_36 (by decide) (pcJ := 37) (stJ := [.int 0]) rfl ?_
    refine j_V.stL xd42_M xd42_37 rfl (i := 3) (kd := 0) (kl' := [(0, .ref 282), (1, .int x1), (2, .int shu), (3, .int 0)]) (pcJ := 38) rfl L rfl (by decide) rfl rfl rfl (fun lv L => ?_)
    refine j_V.ldL xd42_M xd42_38 rfl (i := 0) (kd := 2) (v := .ref 282) (pcJ := 39) rfl L rfl rfl rfl ?_
    refine j_V.ldL xd42_M xd42_39 rfl (i := 2) (kd := 0) (v := .int shu) (pcJ := 40) rfl L rfl rfl rfl ?_
    refine j_V.putK xd42_M xd42_40 (ci := 7) (j := 2) (k' := [(282, .inl (7, [.ref 343, .int mi, .int shu, .int bus, .ref 283, .ref 284, .ref 285, .ref 286, .ref 287, .ref 288, .ref 289, .ref 290, .ref 291, .ref 292, .ref 293, .int lks, .ref 294, .ref 295, .ref 298])), (287, .inr (.inl (0, ce))), (295, .inl (5, [.ref 296, .int rl, .ref 297])), (296, .inr (.inl (0, row))), (297, .inr (.inl (0, sea))), (343, .inl (2, [.int ns, .ref 344, .ref 345, .ref 346, .ref 347, .int nt, .ref 348, .ref 349, .ref 350, .ref 351, .ref 352, .ref 353, .ref 354, .int cel, .ref 355, .ref 356, .ref 357, .ref 358])), (355, .inr (.inl (0, fit))), (356, .inr (.inl (0, way)))]) rfl K rfl (Nat.le_of_ble_eq_true rfl) rfl (Or.inl rfl) rfl rfl (fun h K => ?_)
    refine j_V.ldL xd42_M xd42_43 rfl (i := 3) (kd := 0) (v := .int 0) (pcJ := 44) rfl L rfl rfl rfl ?_
    refine j_V.ri xd42_M xd42_44 ?_
    rw [show (x_isWeak shu ce rl row sea nt fit way x1) = _ from ((if_pos c22_0).trans (rfl))]
    exact ⟨rfl, K⟩
  · replace c22_0 : ¬ ((shu ||| (1 <<< (x1 &&& 31))) = shu) := jd_eqn c22_0
    refine j_V.ldL xd42_M xd42_25 rfl (i := 0) (kd := 2) (v := .ref 282) (pcJ := 26) rfl L rfl rfl rfl ?_
    refine j_V.cl xd42_M xd42_26 rfl (md := 3) (mj := 76) rfl (by decide) xd40_M (As := [.ref 282]) (rest := []) (jk_spl3 (K.at rfl) rfl rfl rfl (Nat.le_of_ble_eq_true rfl) (Nat.le_of_ble_eq_true rfl)) (fun d => xd40_ok (K.fi [282, 287, 295, 296, 297, 343, 355, 356] rfl rfl)) ?_
    rintro r h9 ⟨rfl, K9⟩
    generalize ez2 : (x_isSafe (shu ||| (1 <<< (x1 &&& 31))) ce rl row sea nt fit way) = z2 at K9 ⊢
    have K : KN h9 [(282, .inl (7, [.ref 343, .int mi, .int (shu ||| (1 <<< (x1 &&& 31))), .int bus, .ref 283, .ref 284, .ref 285, .ref 286, .ref 287, .ref 288, .ref 289, .ref 290, .ref 291, .ref 292, .ref 293, .int lks, .ref 294, .ref 295, .ref 298])), (287, .inr (.inl (0, ce))), (295, .inl (5, [.ref 296, .int (z2.2.2.2), .ref 297])), (296, .inr (.inl (0, (z2.2.2.1)))), (297, .inr (.inl (0, (z2.2.1)))), (343, .inl (2, [.int ns, .ref 344, .ref 345, .ref 346, .ref 347, .int nt, .ref 348, .ref 349, .ref 350, .ref 351, .ref 352, .ref 353, .ref 354, .int cel, .ref 355, .ref 356, .ref 357, .ref 358])), (355, .inr (.inl (0, fit))), (356, .inr (.inl (0, way)))] h0 := K.mg K9 rfl rfl
    clear K9
    show j_V jP _ 77 29 lv [.int (z2.1)] h9 _
    refine j_V.cut (b := 37) (stJ := [.int ((if (z2.1) = 0 then 1 else 0) : Int32)]) (fun v => [(0, .ref 282), (1, .int x1), (2, .int shu)]) ((if (z2.1) = 0 then 1 else 0) : Int32) (fun Q kk => ?_) (fun lv L => ?_)
    · refine j_V.ifc xd42_M xd42_29 (t := 36) rfl (fun c29_0 => ?_) (fun c29_0 => ?_)
      · replace c29_0 : ¬ ((z2.1) = 0) := jd_ne c29_0
        refine j_V.one xd42_M xd42_36 (by decide) (pcJ := 37) (stJ := [.int 0]) rfl ?_
        exact Eq.subst (motive := fun z => j_V jP _ 77 37 _ (.int z :: []) h9 Q) (show ((if (z2.1) = 0 then 1 else 0) : Int32) = 0 from (if_neg c29_0).trans (rfl)) (kk _ L)
      · replace c29_0 : (z2.1) = 0 := jd_nen c29_0
        refine j_V.one xd42_M xd42_32 (by decide) (pcJ := 33) (stJ := [.int 1]) rfl ?_
        refine j_V.gto xd42_M xd42_33 (t := 37) rfl ?_
        exact Eq.subst (motive := fun z => j_V jP _ 77 37 _ (.int z :: []) h9 Q) (show ((if (z2.1) = 0 then 1 else 0) : Int32) = 1 from (if_pos c29_0).trans (rfl)) (kk _ L)
    refine j_V.stL xd42_M xd42_37 rfl (i := 3) (kd := 0) (kl' := [(0, .ref 282), (1, .int x1), (2, .int shu), (3, .int ((if (z2.1) = 0 then 1 else 0) : Int32))]) (pcJ := 38) rfl L rfl (by decide) rfl rfl rfl (fun lv L => ?_)
    refine j_V.ldL xd42_M xd42_38 rfl (i := 0) (kd := 2) (v := .ref 282) (pcJ := 39) rfl L rfl rfl rfl ?_
    refine j_V.ldL xd42_M xd42_39 rfl (i := 2) (kd := 0) (v := .int shu) (pcJ := 40) rfl L rfl rfl rfl ?_
    refine j_V.putK xd42_M xd42_40 (ci := 7) (j := 2) (k' := [(282, .inl (7, [.ref 343, .int mi, .int shu, .int bus, .ref 283, .ref 284, .ref 285, .ref 286, .ref 287, .ref 288, .ref 289, .ref 290, .ref 291, .ref 292, .ref 293, .int lks, .ref 294, .ref 295, .ref 298])), (287, .inr (.inl (0, ce))), (295, .inl (5, [.ref 296, .int (z2.2.2.2), .ref 297])), (296, .inr (.inl (0, (z2.2.2.1)))), (297, .inr (.inl (0, (z2.2.1)))), (343, .inl (2, [.int ns, .ref 344, .ref 345, .ref 346, .ref 347, .int nt, .ref 348, .ref 349, .ref 350, .ref 351, .ref 352, .ref 353, .ref 354, .int cel, .ref 355, .ref 356, .ref 357, .ref 358])), (355, .inr (.inl (0, fit))), (356, .inr (.inl (0, way)))]) rfl K rfl (Nat.le_of_ble_eq_true rfl) rfl (Or.inl rfl) rfl rfl (fun h K => ?_)
    refine j_V.ldL xd42_M xd42_43 rfl (i := 3) (kd := 0) (v := .int ((if (z2.1) = 0 then 1 else 0) : Int32)) (pcJ := 44) rfl L rfl rfl rfl ?_
    subst ez2
    refine j_V.ri xd42_M xd42_44 ?_
    rw [show (x_isWeak shu ce rl row sea nt fit way x1) = _ from ((if_neg c22_0).trans (rfl))]
    exact ⟨rfl, K⟩
set_option maxRecDepth 100000 in
theorem xd43_M : j_meth jP 96 = some (yX7_tryMove, cX7_tryMove, 4, (some .boolean), 2, false, 7) := rfl
set_option maxRecDepth 100000 in
theorem xd43_0 : j_code jP 96 0 = some (.aload_n 0) := rfl
set_option maxRecDepth 100000 in
theorem xd43_1 : j_code jP 96 1 = some (.getfield 30) := rfl
set_option maxRecDepth 100000 in
theorem xd43_4 : j_code jP 96 4 = some (.iload_n 1) := rfl
set_option maxRecDepth 100000 in
theorem xd43_5 : j_code jP 96 5 = some (.iaload) := rfl
set_option maxRecDepth 100000 in
theorem xd43_6 : j_code jP 96 6 = some (.aload_n 0) := rfl
set_option maxRecDepth 100000 in
theorem xd43_7 : j_code jP 96 7 = some (.getfield 68) := rfl
set_option maxRecDepth 100000 in
theorem xd43_10 : j_code jP 96 10 = some (.if_icmp .gt 23) := rfl
set_option maxRecDepth 100000 in
theorem xd43_13 : j_code jP 96 13 = some (.aload_n 0) := rfl
set_option maxRecDepth 100000 in
theorem xd43_14 : j_code jP 96 14 = some (.getfield 18) := rfl
set_option maxRecDepth 100000 in
theorem xd43_17 : j_code jP 96 17 = some (.iload_n 1) := rfl
set_option maxRecDepth 100000 in
theorem xd43_18 : j_code jP 96 18 = some (.iaload) := rfl
set_option maxRecDepth 100000 in
theorem xd43_19 : j_code jP 96 19 = some (.iconst 2) := rfl
set_option maxRecDepth 100000 in
theorem xd43_20 : j_code jP 96 20 = some (.if_icmp .eq 13) := rfl
set_option maxRecDepth 100000 in
theorem xd43_23 : j_code jP 96 23 = some (.aload_n 0) := rfl
set_option maxRecDepth 100000 in
theorem xd43_24 : j_code jP 96 24 = some (.getfield 18) := rfl
set_option maxRecDepth 100000 in
theorem xd43_27 : j_code jP 96 27 = some (.iload_n 1) := rfl
set_option maxRecDepth 100000 in
theorem xd43_28 : j_code jP 96 28 = some (.iaload) := rfl
set_option maxRecDepth 100000 in
theorem xd43_29 : j_code jP 96 29 = some (.iconst 3) := rfl
set_option maxRecDepth 100000 in
theorem xd43_30 : j_code jP 96 30 = some (.if_icmp .ne 5) := rfl
set_option maxRecDepth 100000 in
theorem xd43_33 : j_code jP 96 33 = some (.iconst 0) := rfl
set_option maxRecDepth 100000 in
theorem xd43_34 : j_code jP 96 34 = some (.ireturn) := rfl
set_option maxRecDepth 100000 in
theorem xd43_35 : j_code jP 96 35 = some (.aload_n 0) := rfl
set_option maxRecDepth 100000 in
theorem xd43_36 : j_code jP 96 36 = some (.getfield 18) := rfl
set_option maxRecDepth 100000 in
theorem xd43_39 : j_code jP 96 39 = some (.iload_n 1) := rfl
set_option maxRecDepth 100000 in
theorem xd43_40 : j_code jP 96 40 = some (.iaload) := rfl
set_option maxRecDepth 100000 in
theorem xd43_41 : j_code jP 96 41 = some (.ifCond .ne 19) := rfl
set_option maxRecDepth 100000 in
theorem xd43_44 : j_code jP 96 44 = some (.aload_n 0) := rfl
set_option maxRecDepth 100000 in
theorem xd43_45 : j_code jP 96 45 = some (.getfield 15) := rfl
set_option maxRecDepth 100000 in
theorem xd43_48 : j_code jP 96 48 = some (.iload_n 1) := rfl
set_option maxRecDepth 100000 in
theorem xd43_49 : j_code jP 96 49 = some (.iaload) := rfl
set_option maxRecDepth 100000 in
theorem xd43_50 : j_code jP 96 50 = some (.aload_n 0) := rfl
set_option maxRecDepth 100000 in
theorem xd43_51 : j_code jP 96 51 = some (.getfield 68) := rfl
set_option maxRecDepth 100000 in
theorem xd43_54 : j_code jP 96 54 = some (.if_icmp .le 16) := rfl
set_option maxRecDepth 100000 in
theorem xd43_57 : j_code jP 96 57 = some (.goto 11) := rfl
set_option maxRecDepth 100000 in
theorem xd43_60 : j_code jP 96 60 = some (.aload_n 0) := rfl
set_option maxRecDepth 100000 in
theorem xd43_61 : j_code jP 96 61 = some (.iload_n 1) := rfl
set_option maxRecDepth 100000 in
theorem xd43_62 : j_code jP 96 62 = some (.invokevirtual 207) := rfl
set_option maxRecDepth 100000 in
theorem xd43_65 : j_code jP 96 65 = some (.ifCond .eq 5) := rfl
set_option maxRecDepth 100000 in
theorem xd43_68 : j_code jP 96 68 = some (.iconst 0) := rfl
set_option maxRecDepth 100000 in
theorem xd43_69 : j_code jP 96 69 = some (.ireturn) := rfl
set_option maxRecDepth 100000 in
theorem xd43_70 : j_code jP 96 70 = some (.aload_n 0) := rfl
set_option maxRecDepth 100000 in
theorem xd43_71 : j_code jP 96 71 = some (.iload_n 1) := rfl
set_option maxRecDepth 100000 in
theorem xd43_72 : j_code jP 96 72 = some (.invokevirtual 143) := rfl
set_option maxRecDepth 100000 in
theorem xd43_75 : j_code jP 96 75 = some (.istore_n 3) := rfl
set_option maxRecDepth 100000 in
theorem xd43_76 : j_code jP 96 76 = some (.iload_n 3) := rfl
set_option maxRecDepth 100000 in
theorem xd43_77 : j_code jP 96 77 = some (.ifCond .lt 20) := rfl
set_option maxRecDepth 100000 in
theorem xd43_80 : j_code jP 96 80 = some (.iload_n 2) := rfl
set_option maxRecDepth 100000 in
theorem xd43_81 : j_code jP 96 81 = some (.ifCond .eq 18) := rfl
set_option maxRecDepth 100000 in
theorem xd43_84 : j_code jP 96 84 = some (.aload_n 0) := rfl
set_option maxRecDepth 100000 in
theorem xd43_85 : j_code jP 96 85 = some (.getfield 51) := rfl
set_option maxRecDepth 100000 in
theorem xd43_88 : j_code jP 96 88 = some (.aload_n 0) := rfl
set_option maxRecDepth 100000 in
theorem xd43_89 : j_code jP 96 89 = some (.iload_n 1) := rfl
set_option maxRecDepth 100000 in
theorem xd43_90 : j_code jP 96 90 = some (.iload_n 3) := rfl
set_option maxRecDepth 100000 in
theorem xd43_91 : j_code jP 96 91 = some (.invokevirtual 131) := rfl
set_option maxRecDepth 100000 in
theorem xd43_94 : j_code jP 96 94 = some (.ifCond .eq 5) := rfl
set_option maxRecDepth 100000 in
theorem xd43_97 : j_code jP 96 97 = some (.iconst 0) := rfl
set_option maxRecDepth 100000 in
theorem xd43_98 : j_code jP 96 98 = some (.ireturn) := rfl
set_option maxRecDepth 100000 in
theorem xd43_99 : j_code jP 96 99 = some (.aload_n 0) := rfl
set_option maxRecDepth 100000 in
theorem xd43_100 : j_code jP 96 100 = some (.getfield 18) := rfl
set_option maxRecDepth 100000 in
theorem xd43_103 : j_code jP 96 103 = some (.iload_n 1) := rfl
set_option maxRecDepth 100000 in
theorem xd43_104 : j_code jP 96 104 = some (.iaload) := rfl
set_option maxRecDepth 100000 in
theorem xd43_105 : j_code jP 96 105 = some (.ifCond .ne 12) := rfl
set_option maxRecDepth 100000 in
theorem xd43_108 : j_code jP 96 108 = some (.aload_n 0) := rfl
set_option maxRecDepth 100000 in
theorem xd43_109 : j_code jP 96 109 = some (.iload_n 1) := rfl
set_option maxRecDepth 100000 in
theorem xd43_110 : j_code jP 96 110 = some (.iload_n 3) := rfl
set_option maxRecDepth 100000 in
theorem xd43_111 : j_code jP 96 111 = some (.invokevirtual 210) := rfl
set_option maxRecDepth 100000 in
theorem xd43_114 : j_code jP 96 114 = some (.goto 9) := rfl
set_option maxRecDepth 100000 in
theorem xd43_117 : j_code jP 96 117 = some (.aload_n 0) := rfl
set_option maxRecDepth 100000 in
theorem xd43_118 : j_code jP 96 118 = some (.iload_n 1) := rfl
set_option maxRecDepth 100000 in
theorem xd43_119 : j_code jP 96 119 = some (.iload_n 3) := rfl
set_option maxRecDepth 100000 in
theorem xd43_120 : j_code jP 96 120 = some (.invokevirtual 214) := rfl
set_option maxRecDepth 100000 in
theorem xd43_123 : j_code jP 96 123 = some (.iconst 1) := rfl
set_option maxRecDepth 100000 in
theorem xd43_124 : j_code jP 96 124 = some (.ireturn) := rfl
set_option maxRecDepth 1000000 in
theorem xd43_ok {mi : Int32} {shu : Int32} {bus : Int32} {lks : Int32} {sta : List Int32} {ph : List Int32} {sp : List Int32} {ce : List Int32} {du : List Int32} {he : List Int32} {ri : List Int32} {cm : List Int32} {lf : List Int32} {lkd : List Int32} {rl : Int32} {row : List Int32} {sea : List Int32} {pev : Int32} {pk : Int32} {prs : List Int32} {prr : List Int32} {pfa : List Int32} {ns : Int32} {nt : Int32} {cel : Int32} {len : List Int32} {frm : List Int32} {tto : List Int32} {fit : List Int32} {way : List Int32} {rid : List Int32} {x1 x2 : Int32} {d : Nat} {h h0 : J_H} (K : KN h [(282, .inl (7, [.ref 343, .int mi, .int shu, .int bus, .ref 283, .ref 284, .ref 285, .ref 286, .ref 287, .ref 288, .ref 289, .ref 290, .ref 291, .ref 292, .ref 293, .int lks, .ref 294, .ref 295, .ref 298])), (284, .inr (.inl (0, sta))), (285, .inr (.inl (0, ph))), (286, .inr (.inl (0, sp))), (287, .inr (.inl (0, ce))), (288, .inr (.inl (0, du))), (289, .inr (.inl (0, he))), (290, .inr (.inl (0, ri))), (292, .inr (.inl (0, cm))), (293, .inr (.inl (0, lf))), (294, .inr (.inl (0, lkd))), (295, .inl (5, [.ref 296, .int rl, .ref 297])), (296, .inr (.inl (0, row))), (297, .inr (.inl (0, sea))), (298, .inl (3, [.ref 299, .ref 300, .ref 301, .ref 302, .ref 303, .ref 304, .ref 305, .ref 306, .int pev, .int pk])), (304, .inr (.inl (0, prs))), (305, .inr (.inl (0, prr))), (306, .inr (.inl (0, pfa))), (343, .inl (2, [.int ns, .ref 344, .ref 345, .ref 346, .ref 347, .int nt, .ref 348, .ref 349, .ref 350, .ref 351, .ref 352, .ref 353, .ref 354, .int cel, .ref 355, .ref 356, .ref 357, .ref 358])), (347, .inr (.inl (0, len))), (350, .inr (.inl (0, frm))), (351, .inr (.inl (0, tto))), (355, .inr (.inl (0, fit))), (356, .inr (.inl (0, way))), (357, .inr (.inl (0, rid)))] h0) : j_V jP d 96 0 (lv_args 0 [.ref 282, .int x1, .int x2]) [] h (fun rv h' => rv = some (.int (x_tryMove mi shu bus lks sta ph sp ce du he ri cm lf lkd rl row sea pev pk prs prr pfa nt len frm tto fit way rid x1 x2).1) ∧ KN h' [(282, .inl (7, [.ref 343, .int mi, .int shu, .int (x_tryMove mi shu bus lks sta ph sp ce du he ri cm lf lkd rl row sea pev pk prs prr pfa nt len frm tto fit way rid x1 x2).2.2.2.2.1, .ref 283, .ref 284, .ref 285, .ref 286, .ref 287, .ref 288, .ref 289, .ref 290, .ref 291, .ref 292, .ref 293, .int lks, .ref 294, .ref 295, .ref 298])), (284, .inr (.inl (0, sta))), (285, .inr (.inl (0, (x_tryMove mi shu bus lks sta ph sp ce du he ri cm lf lkd rl row sea pev pk prs prr pfa nt len frm tto fit way rid x1 x2).2.2.2.2.2.1))), (286, .inr (.inl (0, (x_tryMove mi shu bus lks sta ph sp ce du he ri cm lf lkd rl row sea pev pk prs prr pfa nt len frm tto fit way rid x1 x2).2.2.2.2.2.2.1))), (287, .inr (.inl (0, (x_tryMove mi shu bus lks sta ph sp ce du he ri cm lf lkd rl row sea pev pk prs prr pfa nt len frm tto fit way rid x1 x2).2.2.2.2.2.2.2.1))), (288, .inr (.inl (0, (x_tryMove mi shu bus lks sta ph sp ce du he ri cm lf lkd rl row sea pev pk prs prr pfa nt len frm tto fit way rid x1 x2).2.2.2.2.2.2.2.2.1))), (289, .inr (.inl (0, he))), (290, .inr (.inl (0, (x_tryMove mi shu bus lks sta ph sp ce du he ri cm lf lkd rl row sea pev pk prs prr pfa nt len frm tto fit way rid x1 x2).2.2.2.2.2.2.2.2.2.1))), (292, .inr (.inl (0, (x_tryMove mi shu bus lks sta ph sp ce du he ri cm lf lkd rl row sea pev pk prs prr pfa nt len frm tto fit way rid x1 x2).2.2.2.2.2.2.2.2.2.2.1))), (293, .inr (.inl (0, (x_tryMove mi shu bus lks sta ph sp ce du he ri cm lf lkd rl row sea pev pk prs prr pfa nt len frm tto fit way rid x1 x2).2.2.2.2.2.2.2.2.2.2.2.1))), (294, .inr (.inl (0, lkd))), (295, .inl (5, [.ref 296, .int (x_tryMove mi shu bus lks sta ph sp ce du he ri cm lf lkd rl row sea pev pk prs prr pfa nt len frm tto fit way rid x1 x2).2.2.2.1, .ref 297])), (296, .inr (.inl (0, (x_tryMove mi shu bus lks sta ph sp ce du he ri cm lf lkd rl row sea pev pk prs prr pfa nt len frm tto fit way rid x1 x2).2.2.1))), (297, .inr (.inl (0, (x_tryMove mi shu bus lks sta ph sp ce du he ri cm lf lkd rl row sea pev pk prs prr pfa nt len frm tto fit way rid x1 x2).2.1))), (298, .inl (3, [.ref 299, .ref 300, .ref 301, .ref 302, .ref 303, .ref 304, .ref 305, .ref 306, .int (x_tryMove mi shu bus lks sta ph sp ce du he ri cm lf lkd rl row sea pev pk prs prr pfa nt len frm tto fit way rid x1 x2).2.2.2.2.2.2.2.2.2.2.2.2.2.1, .int pk])), (304, .inr (.inl (0, (x_tryMove mi shu bus lks sta ph sp ce du he ri cm lf lkd rl row sea pev pk prs prr pfa nt len frm tto fit way rid x1 x2).2.2.2.2.2.2.2.2.2.2.2.2.2.2.1))), (305, .inr (.inl (0, (x_tryMove mi shu bus lks sta ph sp ce du he ri cm lf lkd rl row sea pev pk prs prr pfa nt len frm tto fit way rid x1 x2).2.2.2.2.2.2.2.2.2.2.2.2.2.2.2))), (306, .inr (.inl (0, (x_tryMove mi shu bus lks sta ph sp ce du he ri cm lf lkd rl row sea pev pk prs prr pfa nt len frm tto fit way rid x1 x2).2.2.2.2.2.2.2.2.2.2.2.2.1))), (343, .inl (2, [.int ns, .ref 344, .ref 345, .ref 346, .ref 347, .int nt, .ref 348, .ref 349, .ref 350, .ref 351, .ref 352, .ref 353, .ref 354, .int cel, .ref 355, .ref 356, .ref 357, .ref 358])), (347, .inr (.inl (0, len))), (350, .inr (.inl (0, frm))), (351, .inr (.inl (0, tto))), (355, .inr (.inl (0, fit))), (356, .inr (.inl (0, way))), (357, .inr (.inl (0, rid)))] h0) := by
  show j_V jP d 96 0 [(0, .ref 282), (1, .int x1), (2, .int x2)] [] h _
  obtain ⟨lv, elv, L⟩ : ∃ lv, lv = [(0, .ref 282), (1, .int x1), (2, .int x2)] ∧ LK lv [(0, .ref 282), (1, .int x1), (2, .int x2)] := ⟨_, rfl, LK.rf⟩
  rw [← elv]
  clear elv
  refine j_V.ldL xd43_M xd43_0 rfl (i := 0) (kd := 2) (v := .ref 282) (pcJ := 1) rfl L rfl rfl rfl ?_
  refine j_V.getK xd43_M xd43_1 (ci := 7) (j := 10) rfl K rfl rfl ?_
  refine j_V.ldL xd43_M xd43_4 rfl (i := 1) (kd := 0) (v := .int x1) (pcJ := 5) rfl L rfl rfl rfl ?_
  refine j_V.iaA xd43_M xd43_5 K rfl ?_
  refine j_V.ldL xd43_M xd43_6 rfl (i := 0) (kd := 2) (v := .ref 282) (pcJ := 7) rfl L rfl rfl rfl ?_
  refine j_V.getK xd43_M xd43_7 (ci := 7) (j := 1) rfl K rfl rfl ?_
  refine j_V.icmp xd43_M xd43_10 (t := 33) rfl (fun c10_0 => ?_) (fun c10_0 => ?_)
  · replace c10_0 : mi < (gA he x1) := jd_gt c10_0
    refine j_V.one xd43_M xd43_33 (by decide) (pcJ := 34) (stJ := [.int 0]) rfl ?_
    refine j_V.ri xd43_M xd43_34 ?_
    rw [show (x_tryMove mi shu bus lks sta ph sp ce du he ri cm lf lkd rl row sea pev pk prs prr pfa nt len frm tto fit way rid x1 x2) = _ from ((if_pos c10_0).trans (rfl))]
    exact ⟨rfl, K⟩
  · replace c10_0 : ¬ (mi < (gA he x1)) := jd_gtn c10_0
    refine j_V.ldL xd43_M xd43_13 rfl (i := 0) (kd := 2) (v := .ref 282) (pcJ := 14) rfl L rfl rfl rfl ?_
    refine j_V.getK xd43_M xd43_14 (ci := 7) (j := 6) rfl K rfl rfl ?_
    refine j_V.ldL xd43_M xd43_17 rfl (i := 1) (kd := 0) (v := .int x1) (pcJ := 18) rfl L rfl rfl rfl ?_
    refine j_V.iaA xd43_M xd43_18 K rfl ?_
    refine j_V.one xd43_M xd43_19 (by decide) (pcJ := 20) (stJ := [.int 2, .int (gA ph x1)]) rfl ?_
    refine j_V.icmp xd43_M xd43_20 (t := 33) rfl (fun c20_1 => ?_) (fun c20_1 => ?_)
    · replace c20_1 : (gA ph x1) = 2 := jd_eq c20_1
      refine j_V.one xd43_M xd43_33 (by decide) (pcJ := 34) (stJ := [.int 0]) rfl ?_
      refine j_V.ri xd43_M xd43_34 ?_
      rw [show (x_tryMove mi shu bus lks sta ph sp ce du he ri cm lf lkd rl row sea pev pk prs prr pfa nt len frm tto fit way rid x1 x2) = _ from ((if_neg c10_0).trans ((if_pos c20_1).trans (rfl)))]
      exact ⟨rfl, K⟩
    · replace c20_1 : ¬ ((gA ph x1) = 2) := jd_eqn c20_1
      refine j_V.ldL xd43_M xd43_23 rfl (i := 0) (kd := 2) (v := .ref 282) (pcJ := 24) rfl L rfl rfl rfl ?_
      refine j_V.getK xd43_M xd43_24 (ci := 7) (j := 6) rfl K rfl rfl ?_
      refine j_V.ldL xd43_M xd43_27 rfl (i := 1) (kd := 0) (v := .int x1) (pcJ := 28) rfl L rfl rfl rfl ?_
      refine j_V.iaA xd43_M xd43_28 K rfl ?_
      refine j_V.one xd43_M xd43_29 (by decide) (pcJ := 30) (stJ := [.int 3, .int (gA ph x1)]) rfl ?_
      refine j_V.icmp xd43_M xd43_30 (t := 35) rfl (fun c30_2 => ?_) (fun c30_2 => ?_)
      · replace c30_2 : ¬ ((gA ph x1) = 3) := jd_ne c30_2
        refine j_V.ldL xd43_M xd43_35 rfl (i := 0) (kd := 2) (v := .ref 282) (pcJ := 36) rfl L rfl rfl rfl ?_
        refine j_V.getK xd43_M xd43_36 (ci := 7) (j := 6) rfl K rfl rfl ?_
        refine j_V.ldL xd43_M xd43_39 rfl (i := 1) (kd := 0) (v := .int x1) (pcJ := 40) rfl L rfl rfl rfl ?_
        refine j_V.iaA xd43_M xd43_40 K rfl ?_
        refine j_V.ifc xd43_M xd43_41 (t := 60) rfl (fun c41_3 => ?_) (fun c41_3 => ?_)
        · replace c41_3 : ¬ ((gA ph x1) = 0) := jd_ne c41_3
          refine j_V.ldL xd43_M xd43_60 rfl (i := 0) (kd := 2) (v := .ref 282) (pcJ := 61) rfl L rfl rfl rfl ?_
          refine j_V.ldL xd43_M xd43_61 rfl (i := 1) (kd := 0) (v := .int x1) (pcJ := 62) rfl L rfl rfl rfl ?_
          refine j_V.cl xd43_M xd43_62 rfl (md := 3) (mj := 89) rfl (by decide) xd25_M (As := [.ref 282, .int x1]) (rest := []) (jk_spl3 (K.at rfl) rfl rfl rfl (Nat.le_of_ble_eq_true rfl) (Nat.le_of_ble_eq_true rfl)) (fun d => xd25_ok (K.fi [282, 285, 286, 292, 294] rfl rfl)) ?_
          rintro r hz ⟨rfl, ez⟩
          rw [ez]
          clear ez
          show j_V jP _ 96 65 lv [.int (x_isKept lks ph sp cm lkd x1)] h _
          refine j_V.ifc xd43_M xd43_65 (t := 70) rfl (fun c65_4 => ?_) (fun c65_4 => ?_)
          · replace c65_4 : (x_isKept lks ph sp cm lkd x1) = 0 := jd_eq c65_4
            refine j_V.ldL xd43_M xd43_70 rfl (i := 0) (kd := 2) (v := .ref 282) (pcJ := 71) rfl L rfl rfl rfl ?_
            refine j_V.ldL xd43_M xd43_71 rfl (i := 1) (kd := 0) (v := .int x1) (pcJ := 72) rfl L rfl rfl rfl ?_
            refine j_V.cl xd43_M xd43_72 rfl (md := 3) (mj := 85) rfl (by decide) xd19_M (As := [.ref 282, .int x1]) (rest := []) (jk_spl3 (K.at rfl) rfl rfl rfl (Nat.le_of_ble_eq_true rfl) (Nat.le_of_ble_eq_true rfl)) (fun d => xd19_ok (K.fi [282, 285, 286, 290, 343, 347, 350, 351, 355] rfl rfl)) ?_
            rintro r hz ⟨rfl, ez⟩
            rw [ez]
            clear ez
            show j_V jP _ 96 75 lv [.int (x_target shu bus ph sp ri len frm tto fit x1)] h _
            refine j_V.stL xd43_M xd43_75 rfl (i := 3) (kd := 0) (kl' := [(0, .ref 282), (1, .int x1), (2, .int x2), (3, .int (x_target shu bus ph sp ri len frm tto fit x1))]) (pcJ := 76) rfl L rfl (by decide) rfl rfl rfl (fun lv L => ?_)
            refine j_V.ldL xd43_M xd43_76 rfl (i := 3) (kd := 0) (v := .int (x_target shu bus ph sp ri len frm tto fit x1)) (pcJ := 77) rfl L rfl rfl rfl ?_
            refine j_V.ifc xd43_M xd43_77 (t := 97) rfl (fun c77_5 => ?_) (fun c77_5 => ?_)
            · replace c77_5 : (x_target shu bus ph sp ri len frm tto fit x1) < 0 := jd_lt c77_5
              refine j_V.one xd43_M xd43_97 (by decide) (pcJ := 98) (stJ := [.int 0]) rfl ?_
              refine j_V.ri xd43_M xd43_98 ?_
              rw [show (x_tryMove mi shu bus lks sta ph sp ce du he ri cm lf lkd rl row sea pev pk prs prr pfa nt len frm tto fit way rid x1 x2) = _ from ((if_neg c10_0).trans ((if_neg c20_1).trans ((if_neg c30_2).trans ((if_neg c41_3).trans ((if_pos c65_4).trans ((if_pos c77_5).trans (rfl)))))))]
              exact ⟨rfl, K⟩
            · replace c77_5 : ¬ ((x_target shu bus ph sp ri len frm tto fit x1) < 0) := jd_ltn c77_5
              refine j_V.ldL xd43_M xd43_80 rfl (i := 2) (kd := 0) (v := .int x2) (pcJ := 81) rfl L rfl rfl rfl ?_
              refine j_V.ifc xd43_M xd43_81 (t := 99) rfl (fun c81_6 => ?_) (fun c81_6 => ?_)
              · replace c81_6 : x2 = 0 := jd_eq c81_6
                refine j_V.ldL xd43_M xd43_99 rfl (i := 0) (kd := 2) (v := .ref 282) (pcJ := 100) rfl L rfl rfl rfl ?_
                refine j_V.getK xd43_M xd43_100 (ci := 7) (j := 6) rfl K rfl rfl ?_
                refine j_V.ldL xd43_M xd43_103 rfl (i := 1) (kd := 0) (v := .int x1) (pcJ := 104) rfl L rfl rfl rfl ?_
                refine j_V.iaA xd43_M xd43_104 K rfl ?_
                refine j_V.ifc xd43_M xd43_105 (t := 117) rfl (fun c105_7 => ?_) (fun c105_7 => ?_)
                · replace c105_7 : ¬ ((gA ph x1) = 0) := jd_ne c105_7
                  refine j_V.ldL xd43_M xd43_117 rfl (i := 0) (kd := 2) (v := .ref 282) (pcJ := 118) rfl L rfl rfl rfl ?_
                  refine j_V.ldL xd43_M xd43_118 rfl (i := 1) (kd := 0) (v := .int x1) (pcJ := 119) rfl L rfl rfl rfl ?_
                  refine j_V.ldL xd43_M xd43_119 rfl (i := 3) (kd := 0) (v := .int (x_target shu bus ph sp ri len frm tto fit x1)) (pcJ := 120) rfl L rfl rfl rfl ?_
                  refine j_V.cl xd43_M xd43_120 rfl (md := 3) (mj := 98) rfl (by decide) xd32_M (As := [.ref 282, .int x1, .int (x_target shu bus ph sp ri len frm tto fit x1)]) (rest := []) (jk_spl3 (K.at rfl) rfl rfl rfl (Nat.le_of_ble_eq_true rfl) (Nat.le_of_ble_eq_true rfl)) (fun d => xd32_ok (K.fi [282, 285, 286, 287, 288, 290, 293, 298, 304, 305, 306, 343, 351, 357] rfl rfl)) ?_
                  rintro r h9 ⟨rfl, K9⟩
                  generalize ez2 : (x_leave mi bus ph sp ce du ri lf pev pk prs prr pfa tto rid x1 (x_target shu bus ph sp ri len frm tto fit x1)) = z2 at K9 ⊢
                  have K : KN h9 [(282, .inl (7, [.ref 343, .int mi, .int shu, .int (z2.1), .ref 283, .ref 284, .ref 285, .ref 286, .ref 287, .ref 288, .ref 289, .ref 290, .ref 291, .ref 292, .ref 293, .int lks, .ref 294, .ref 295, .ref 298])), (284, .inr (.inl (0, sta))), (285, .inr (.inl (0, (z2.2.1)))), (286, .inr (.inl (0, sp))), (287, .inr (.inl (0, (z2.2.2.1)))), (288, .inr (.inl (0, (z2.2.2.2.1)))), (289, .inr (.inl (0, he))), (290, .inr (.inl (0, (z2.2.2.2.2.1)))), (292, .inr (.inl (0, cm))), (293, .inr (.inl (0, (z2.2.2.2.2.2.1)))), (294, .inr (.inl (0, lkd))), (295, .inl (5, [.ref 296, .int rl, .ref 297])), (296, .inr (.inl (0, row))), (297, .inr (.inl (0, sea))), (298, .inl (3, [.ref 299, .ref 300, .ref 301, .ref 302, .ref 303, .ref 304, .ref 305, .ref 306, .int (z2.2.2.2.2.2.2.2.1), .int pk])), (304, .inr (.inl (0, (z2.2.2.2.2.2.2.2.2.1)))), (305, .inr (.inl (0, (z2.2.2.2.2.2.2.2.2.2)))), (306, .inr (.inl (0, (z2.2.2.2.2.2.2.1)))), (343, .inl (2, [.int ns, .ref 344, .ref 345, .ref 346, .ref 347, .int nt, .ref 348, .ref 349, .ref 350, .ref 351, .ref 352, .ref 353, .ref 354, .int cel, .ref 355, .ref 356, .ref 357, .ref 358])), (347, .inr (.inl (0, len))), (350, .inr (.inl (0, frm))), (351, .inr (.inl (0, tto))), (355, .inr (.inl (0, fit))), (356, .inr (.inl (0, way))), (357, .inr (.inl (0, rid)))] h0 := K.mg K9 rfl rfl
                  clear K9
                  show j_V jP _ 96 123 lv [] h9 _
                  refine j_V.one xd43_M xd43_123 (by decide) (pcJ := 124) (stJ := [.int 1]) rfl ?_
                  subst ez2
                  refine j_V.ri xd43_M xd43_124 ?_
                  rw [show (x_tryMove mi shu bus lks sta ph sp ce du he ri cm lf lkd rl row sea pev pk prs prr pfa nt len frm tto fit way rid x1 x2) = _ from ((if_neg c10_0).trans ((if_neg c20_1).trans ((if_neg c30_2).trans ((if_neg c41_3).trans ((if_pos c65_4).trans ((if_neg c77_5).trans ((if_pos c81_6).trans (rfl))))))))]
                  exact ⟨rfl, K⟩
                · replace c105_7 : (gA ph x1) = 0 := jd_nen c105_7
                  exact absurd c105_7 c41_3
              · replace c81_6 : ¬ (x2 = 0) := jd_eqn c81_6
                refine j_V.ldL xd43_M xd43_84 rfl (i := 0) (kd := 2) (v := .ref 282) (pcJ := 85) rfl L rfl rfl rfl ?_
                refine j_V.getK xd43_M xd43_85 (ci := 7) (j := 17) rfl K rfl rfl ?_
                refine j_V.ldL xd43_M xd43_88 rfl (i := 0) (kd := 2) (v := .ref 282) (pcJ := 89) rfl L rfl rfl rfl ?_
                refine j_V.ldL xd43_M xd43_89 rfl (i := 1) (kd := 0) (v := .int x1) (pcJ := 90) rfl L rfl rfl rfl ?_
                refine j_V.ldL xd43_M xd43_90 rfl (i := 3) (kd := 0) (v := .int (x_target shu bus ph sp ri len frm tto fit x1)) (pcJ := 91) rfl L rfl rfl rfl ?_
                refine j_V.cl xd43_M xd43_91 rfl (md := 3) (mj := 48) rfl (by decide) xd36_M (As := [.ref 295, .ref 282, .int x1, .int (x_target shu bus ph sp ri len frm tto fit x1)]) (rest := []) (jk_spl3 (K.at rfl) rfl rfl rfl (Nat.le_of_ble_eq_true rfl) (Nat.le_of_ble_eq_true rfl)) (fun d => xd36_ok (K.fi [282, 287, 295, 296, 297, 343, 355, 356] rfl rfl)) ?_
                rintro r h9 ⟨rfl, K9⟩
                generalize ez3 : (x_leftStanding shu ce rl row sea nt fit way x1 (x_target shu bus ph sp ri len frm tto fit x1)) = z3 at K9 ⊢
                have K : KN h9 [(282, .inl (7, [.ref 343, .int mi, .int shu, .int bus, .ref 283, .ref 284, .ref 285, .ref 286, .ref 287, .ref 288, .ref 289, .ref 290, .ref 291, .ref 292, .ref 293, .int lks, .ref 294, .ref 295, .ref 298])), (284, .inr (.inl (0, sta))), (285, .inr (.inl (0, ph))), (286, .inr (.inl (0, sp))), (287, .inr (.inl (0, ce))), (288, .inr (.inl (0, du))), (289, .inr (.inl (0, he))), (290, .inr (.inl (0, ri))), (292, .inr (.inl (0, cm))), (293, .inr (.inl (0, lf))), (294, .inr (.inl (0, lkd))), (295, .inl (5, [.ref 296, .int (z3.2.2.2), .ref 297])), (296, .inr (.inl (0, (z3.2.2.1)))), (297, .inr (.inl (0, (z3.2.1)))), (298, .inl (3, [.ref 299, .ref 300, .ref 301, .ref 302, .ref 303, .ref 304, .ref 305, .ref 306, .int pev, .int pk])), (304, .inr (.inl (0, prs))), (305, .inr (.inl (0, prr))), (306, .inr (.inl (0, pfa))), (343, .inl (2, [.int ns, .ref 344, .ref 345, .ref 346, .ref 347, .int nt, .ref 348, .ref 349, .ref 350, .ref 351, .ref 352, .ref 353, .ref 354, .int cel, .ref 355, .ref 356, .ref 357, .ref 358])), (347, .inr (.inl (0, len))), (350, .inr (.inl (0, frm))), (351, .inr (.inl (0, tto))), (355, .inr (.inl (0, fit))), (356, .inr (.inl (0, way))), (357, .inr (.inl (0, rid)))] h0 := K.mg K9 rfl rfl
                clear K9
                show j_V jP _ 96 94 lv [.int (z3.1)] h9 _
                refine j_V.ifc xd43_M xd43_94 (t := 99) rfl (fun c94_7 => ?_) (fun c94_7 => ?_)
                · replace c94_7 : (z3.1) = 0 := jd_eq c94_7
                  refine j_V.ldL xd43_M xd43_99 rfl (i := 0) (kd := 2) (v := .ref 282) (pcJ := 100) rfl L rfl rfl rfl ?_
                  refine j_V.getK xd43_M xd43_100 (ci := 7) (j := 6) rfl K rfl rfl ?_
                  refine j_V.ldL xd43_M xd43_103 rfl (i := 1) (kd := 0) (v := .int x1) (pcJ := 104) rfl L rfl rfl rfl ?_
                  refine j_V.iaA xd43_M xd43_104 K rfl ?_
                  refine j_V.ifc xd43_M xd43_105 (t := 117) rfl (fun c105_8 => ?_) (fun c105_8 => ?_)
                  · replace c105_8 : ¬ ((gA ph x1) = 0) := jd_ne c105_8
                    refine j_V.ldL xd43_M xd43_117 rfl (i := 0) (kd := 2) (v := .ref 282) (pcJ := 118) rfl L rfl rfl rfl ?_
                    refine j_V.ldL xd43_M xd43_118 rfl (i := 1) (kd := 0) (v := .int x1) (pcJ := 119) rfl L rfl rfl rfl ?_
                    refine j_V.ldL xd43_M xd43_119 rfl (i := 3) (kd := 0) (v := .int (x_target shu bus ph sp ri len frm tto fit x1)) (pcJ := 120) rfl L rfl rfl rfl ?_
                    refine j_V.cl xd43_M xd43_120 rfl (md := 3) (mj := 98) rfl (by decide) xd32_M (As := [.ref 282, .int x1, .int (x_target shu bus ph sp ri len frm tto fit x1)]) (rest := []) (jk_spl3 (K.at rfl) rfl rfl rfl (Nat.le_of_ble_eq_true rfl) (Nat.le_of_ble_eq_true rfl)) (fun d => xd32_ok (K.fi [282, 285, 286, 287, 288, 290, 293, 298, 304, 305, 306, 343, 351, 357] rfl rfl)) ?_
                    rintro r h9 ⟨rfl, K9⟩
                    generalize ez5 : (x_leave mi bus ph sp ce du ri lf pev pk prs prr pfa tto rid x1 (x_target shu bus ph sp ri len frm tto fit x1)) = z5 at K9 ⊢
                    have K : KN h9 [(282, .inl (7, [.ref 343, .int mi, .int shu, .int (z5.1), .ref 283, .ref 284, .ref 285, .ref 286, .ref 287, .ref 288, .ref 289, .ref 290, .ref 291, .ref 292, .ref 293, .int lks, .ref 294, .ref 295, .ref 298])), (284, .inr (.inl (0, sta))), (285, .inr (.inl (0, (z5.2.1)))), (286, .inr (.inl (0, sp))), (287, .inr (.inl (0, (z5.2.2.1)))), (288, .inr (.inl (0, (z5.2.2.2.1)))), (289, .inr (.inl (0, he))), (290, .inr (.inl (0, (z5.2.2.2.2.1)))), (292, .inr (.inl (0, cm))), (293, .inr (.inl (0, (z5.2.2.2.2.2.1)))), (294, .inr (.inl (0, lkd))), (295, .inl (5, [.ref 296, .int (z3.2.2.2), .ref 297])), (296, .inr (.inl (0, (z3.2.2.1)))), (297, .inr (.inl (0, (z3.2.1)))), (298, .inl (3, [.ref 299, .ref 300, .ref 301, .ref 302, .ref 303, .ref 304, .ref 305, .ref 306, .int (z5.2.2.2.2.2.2.2.1), .int pk])), (304, .inr (.inl (0, (z5.2.2.2.2.2.2.2.2.1)))), (305, .inr (.inl (0, (z5.2.2.2.2.2.2.2.2.2)))), (306, .inr (.inl (0, (z5.2.2.2.2.2.2.1)))), (343, .inl (2, [.int ns, .ref 344, .ref 345, .ref 346, .ref 347, .int nt, .ref 348, .ref 349, .ref 350, .ref 351, .ref 352, .ref 353, .ref 354, .int cel, .ref 355, .ref 356, .ref 357, .ref 358])), (347, .inr (.inl (0, len))), (350, .inr (.inl (0, frm))), (351, .inr (.inl (0, tto))), (355, .inr (.inl (0, fit))), (356, .inr (.inl (0, way))), (357, .inr (.inl (0, rid)))] h0 := K.mg K9 rfl rfl
                    clear K9
                    show j_V jP _ 96 123 lv [] h9 _
                    refine j_V.one xd43_M xd43_123 (by decide) (pcJ := 124) (stJ := [.int 1]) rfl ?_
                    subst ez5
                    subst ez3
                    refine j_V.ri xd43_M xd43_124 ?_
                    rw [show (x_tryMove mi shu bus lks sta ph sp ce du he ri cm lf lkd rl row sea pev pk prs prr pfa nt len frm tto fit way rid x1 x2) = _ from ((if_neg c10_0).trans ((if_neg c20_1).trans ((if_neg c30_2).trans ((if_neg c41_3).trans ((if_pos c65_4).trans ((if_neg c77_5).trans ((if_neg c81_6).trans ((if_pos c94_7).trans (rfl)))))))))]
                    exact ⟨rfl, K⟩
                  · replace c105_8 : (gA ph x1) = 0 := jd_nen c105_8
                    exact absurd c105_8 c41_3
                · replace c94_7 : ¬ ((z3.1) = 0) := jd_eqn c94_7
                  refine j_V.one xd43_M xd43_97 (by decide) (pcJ := 98) (stJ := [.int 0]) rfl ?_
                  subst ez3
                  refine j_V.ri xd43_M xd43_98 ?_
                  rw [show (x_tryMove mi shu bus lks sta ph sp ce du he ri cm lf lkd rl row sea pev pk prs prr pfa nt len frm tto fit way rid x1 x2) = _ from ((if_neg c10_0).trans ((if_neg c20_1).trans ((if_neg c30_2).trans ((if_neg c41_3).trans ((if_pos c65_4).trans ((if_neg c77_5).trans ((if_neg c81_6).trans ((if_neg c94_7).trans (rfl)))))))))]
                  exact ⟨rfl, K⟩
          · replace c65_4 : ¬ ((x_isKept lks ph sp cm lkd x1) = 0) := jd_eqn c65_4
            refine j_V.one xd43_M xd43_68 (by decide) (pcJ := 69) (stJ := [.int 0]) rfl ?_
            refine j_V.ri xd43_M xd43_69 ?_
            rw [show (x_tryMove mi shu bus lks sta ph sp ce du he ri cm lf lkd rl row sea pev pk prs prr pfa nt len frm tto fit way rid x1 x2) = _ from ((if_neg c10_0).trans ((if_neg c20_1).trans ((if_neg c30_2).trans ((if_neg c41_3).trans ((if_neg c65_4).trans (rfl))))))]
            exact ⟨rfl, K⟩
        · replace c41_3 : (gA ph x1) = 0 := jd_nen c41_3
          refine j_V.ldL xd43_M xd43_44 rfl (i := 0) (kd := 2) (v := .ref 282) (pcJ := 45) rfl L rfl rfl rfl ?_
          refine j_V.getK xd43_M xd43_45 (ci := 7) (j := 5) rfl K rfl rfl ?_
          refine j_V.ldL xd43_M xd43_48 rfl (i := 1) (kd := 0) (v := .int x1) (pcJ := 49) rfl L rfl rfl rfl ?_
          refine j_V.iaA xd43_M xd43_49 K rfl ?_
          refine j_V.ldL xd43_M xd43_50 rfl (i := 0) (kd := 2) (v := .ref 282) (pcJ := 51) rfl L rfl rfl rfl ?_
          refine j_V.getK xd43_M xd43_51 (ci := 7) (j := 1) rfl K rfl rfl ?_
          refine j_V.icmp xd43_M xd43_54 (t := 70) rfl (fun c54_4 => ?_) (fun c54_4 => ?_)
          · replace c54_4 : ¬ (mi < (gA sta x1)) := jd_le c54_4
            refine j_V.ldL xd43_M xd43_70 rfl (i := 0) (kd := 2) (v := .ref 282) (pcJ := 71) rfl L rfl rfl rfl ?_
            refine j_V.ldL xd43_M xd43_71 rfl (i := 1) (kd := 0) (v := .int x1) (pcJ := 72) rfl L rfl rfl rfl ?_
            refine j_V.cl xd43_M xd43_72 rfl (md := 3) (mj := 85) rfl (by decide) xd19_M (As := [.ref 282, .int x1]) (rest := []) (jk_spl3 (K.at rfl) rfl rfl rfl (Nat.le_of_ble_eq_true rfl) (Nat.le_of_ble_eq_true rfl)) (fun d => xd19_ok (K.fi [282, 285, 286, 290, 343, 347, 350, 351, 355] rfl rfl)) ?_
            rintro r hz ⟨rfl, ez⟩
            rw [ez]
            clear ez
            show j_V jP _ 96 75 lv [.int (x_target shu bus ph sp ri len frm tto fit x1)] h _
            refine j_V.stL xd43_M xd43_75 rfl (i := 3) (kd := 0) (kl' := [(0, .ref 282), (1, .int x1), (2, .int x2), (3, .int (x_target shu bus ph sp ri len frm tto fit x1))]) (pcJ := 76) rfl L rfl (by decide) rfl rfl rfl (fun lv L => ?_)
            refine j_V.ldL xd43_M xd43_76 rfl (i := 3) (kd := 0) (v := .int (x_target shu bus ph sp ri len frm tto fit x1)) (pcJ := 77) rfl L rfl rfl rfl ?_
            refine j_V.ifc xd43_M xd43_77 (t := 97) rfl (fun c77_5 => ?_) (fun c77_5 => ?_)
            · replace c77_5 : (x_target shu bus ph sp ri len frm tto fit x1) < 0 := jd_lt c77_5
              refine j_V.one xd43_M xd43_97 (by decide) (pcJ := 98) (stJ := [.int 0]) rfl ?_
              refine j_V.ri xd43_M xd43_98 ?_
              rw [show (x_tryMove mi shu bus lks sta ph sp ce du he ri cm lf lkd rl row sea pev pk prs prr pfa nt len frm tto fit way rid x1 x2) = _ from ((if_neg c10_0).trans ((if_neg c20_1).trans ((if_neg c30_2).trans ((if_pos c41_3).trans ((if_neg c54_4).trans ((if_pos c77_5).trans (rfl)))))))]
              exact ⟨rfl, K⟩
            · replace c77_5 : ¬ ((x_target shu bus ph sp ri len frm tto fit x1) < 0) := jd_ltn c77_5
              refine j_V.ldL xd43_M xd43_80 rfl (i := 2) (kd := 0) (v := .int x2) (pcJ := 81) rfl L rfl rfl rfl ?_
              refine j_V.ifc xd43_M xd43_81 (t := 99) rfl (fun c81_6 => ?_) (fun c81_6 => ?_)
              · replace c81_6 : x2 = 0 := jd_eq c81_6
                refine j_V.ldL xd43_M xd43_99 rfl (i := 0) (kd := 2) (v := .ref 282) (pcJ := 100) rfl L rfl rfl rfl ?_
                refine j_V.getK xd43_M xd43_100 (ci := 7) (j := 6) rfl K rfl rfl ?_
                refine j_V.ldL xd43_M xd43_103 rfl (i := 1) (kd := 0) (v := .int x1) (pcJ := 104) rfl L rfl rfl rfl ?_
                refine j_V.iaA xd43_M xd43_104 K rfl ?_
                refine j_V.ifc xd43_M xd43_105 (t := 117) rfl (fun c105_7 => ?_) (fun c105_7 => ?_)
                · replace c105_7 : ¬ ((gA ph x1) = 0) := jd_ne c105_7
                  exact absurd c41_3 c105_7
                · replace c105_7 : (gA ph x1) = 0 := jd_nen c105_7
                  refine j_V.ldL xd43_M xd43_108 rfl (i := 0) (kd := 2) (v := .ref 282) (pcJ := 109) rfl L rfl rfl rfl ?_
                  refine j_V.ldL xd43_M xd43_109 rfl (i := 1) (kd := 0) (v := .int x1) (pcJ := 110) rfl L rfl rfl rfl ?_
                  refine j_V.ldL xd43_M xd43_110 rfl (i := 3) (kd := 0) (v := .int (x_target shu bus ph sp ri len frm tto fit x1)) (pcJ := 111) rfl L rfl rfl rfl ?_
                  refine j_V.cl xd43_M xd43_111 rfl (md := 3) (mj := 97) rfl (by decide) xd31_M (As := [.ref 282, .int x1, .int (x_target shu bus ph sp ri len frm tto fit x1)]) (rest := []) (jk_spl3 (K.at rfl) rfl rfl rfl (Nat.le_of_ble_eq_true rfl) (Nat.le_of_ble_eq_true rfl)) (fun d => xd31_ok (K.fi [282, 285, 286, 287, 292, 298, 306, 343, 350] rfl rfl)) ?_
                  rintro r h9 ⟨rfl, K9⟩
                  generalize ez7 : (x_comeIn mi bus ph sp ce cm pev pk pfa frm x1 (x_target shu bus ph sp ri len frm tto fit x1)) = z7 at K9 ⊢
                  have K : KN h9 [(282, .inl (7, [.ref 343, .int mi, .int shu, .int (z7.1), .ref 283, .ref 284, .ref 285, .ref 286, .ref 287, .ref 288, .ref 289, .ref 290, .ref 291, .ref 292, .ref 293, .int lks, .ref 294, .ref 295, .ref 298])), (284, .inr (.inl (0, sta))), (285, .inr (.inl (0, (z7.2.1)))), (286, .inr (.inl (0, (z7.2.2.1)))), (287, .inr (.inl (0, (z7.2.2.2.1)))), (288, .inr (.inl (0, du))), (289, .inr (.inl (0, he))), (290, .inr (.inl (0, ri))), (292, .inr (.inl (0, (z7.2.2.2.2.1)))), (293, .inr (.inl (0, lf))), (294, .inr (.inl (0, lkd))), (295, .inl (5, [.ref 296, .int rl, .ref 297])), (296, .inr (.inl (0, row))), (297, .inr (.inl (0, sea))), (298, .inl (3, [.ref 299, .ref 300, .ref 301, .ref 302, .ref 303, .ref 304, .ref 305, .ref 306, .int (z7.2.2.2.2.2.2), .int pk])), (304, .inr (.inl (0, prs))), (305, .inr (.inl (0, prr))), (306, .inr (.inl (0, (z7.2.2.2.2.2.1)))), (343, .inl (2, [.int ns, .ref 344, .ref 345, .ref 346, .ref 347, .int nt, .ref 348, .ref 349, .ref 350, .ref 351, .ref 352, .ref 353, .ref 354, .int cel, .ref 355, .ref 356, .ref 357, .ref 358])), (347, .inr (.inl (0, len))), (350, .inr (.inl (0, frm))), (351, .inr (.inl (0, tto))), (355, .inr (.inl (0, fit))), (356, .inr (.inl (0, way))), (357, .inr (.inl (0, rid)))] h0 := K.mg K9 rfl rfl
                  clear K9
                  show j_V jP _ 96 114 lv [] h9 _
                  refine j_V.gto xd43_M xd43_114 (t := 123) rfl ?_
                  refine j_V.one xd43_M xd43_123 (by decide) (pcJ := 124) (stJ := [.int 1]) rfl ?_
                  subst ez7
                  refine j_V.ri xd43_M xd43_124 ?_
                  rw [show (x_tryMove mi shu bus lks sta ph sp ce du he ri cm lf lkd rl row sea pev pk prs prr pfa nt len frm tto fit way rid x1 x2) = _ from ((if_neg c10_0).trans ((if_neg c20_1).trans ((if_neg c30_2).trans ((if_pos c41_3).trans ((if_neg c54_4).trans ((if_neg c77_5).trans ((if_pos c81_6).trans (rfl))))))))]
                  exact ⟨rfl, K⟩
              · replace c81_6 : ¬ (x2 = 0) := jd_eqn c81_6
                refine j_V.ldL xd43_M xd43_84 rfl (i := 0) (kd := 2) (v := .ref 282) (pcJ := 85) rfl L rfl rfl rfl ?_
                refine j_V.getK xd43_M xd43_85 (ci := 7) (j := 17) rfl K rfl rfl ?_
                refine j_V.ldL xd43_M xd43_88 rfl (i := 0) (kd := 2) (v := .ref 282) (pcJ := 89) rfl L rfl rfl rfl ?_
                refine j_V.ldL xd43_M xd43_89 rfl (i := 1) (kd := 0) (v := .int x1) (pcJ := 90) rfl L rfl rfl rfl ?_
                refine j_V.ldL xd43_M xd43_90 rfl (i := 3) (kd := 0) (v := .int (x_target shu bus ph sp ri len frm tto fit x1)) (pcJ := 91) rfl L rfl rfl rfl ?_
                refine j_V.cl xd43_M xd43_91 rfl (md := 3) (mj := 48) rfl (by decide) xd36_M (As := [.ref 295, .ref 282, .int x1, .int (x_target shu bus ph sp ri len frm tto fit x1)]) (rest := []) (jk_spl3 (K.at rfl) rfl rfl rfl (Nat.le_of_ble_eq_true rfl) (Nat.le_of_ble_eq_true rfl)) (fun d => xd36_ok (K.fi [282, 287, 295, 296, 297, 343, 355, 356] rfl rfl)) ?_
                rintro r h9 ⟨rfl, K9⟩
                generalize ez8 : (x_leftStanding shu ce rl row sea nt fit way x1 (x_target shu bus ph sp ri len frm tto fit x1)) = z8 at K9 ⊢
                have K : KN h9 [(282, .inl (7, [.ref 343, .int mi, .int shu, .int bus, .ref 283, .ref 284, .ref 285, .ref 286, .ref 287, .ref 288, .ref 289, .ref 290, .ref 291, .ref 292, .ref 293, .int lks, .ref 294, .ref 295, .ref 298])), (284, .inr (.inl (0, sta))), (285, .inr (.inl (0, ph))), (286, .inr (.inl (0, sp))), (287, .inr (.inl (0, ce))), (288, .inr (.inl (0, du))), (289, .inr (.inl (0, he))), (290, .inr (.inl (0, ri))), (292, .inr (.inl (0, cm))), (293, .inr (.inl (0, lf))), (294, .inr (.inl (0, lkd))), (295, .inl (5, [.ref 296, .int (z8.2.2.2), .ref 297])), (296, .inr (.inl (0, (z8.2.2.1)))), (297, .inr (.inl (0, (z8.2.1)))), (298, .inl (3, [.ref 299, .ref 300, .ref 301, .ref 302, .ref 303, .ref 304, .ref 305, .ref 306, .int pev, .int pk])), (304, .inr (.inl (0, prs))), (305, .inr (.inl (0, prr))), (306, .inr (.inl (0, pfa))), (343, .inl (2, [.int ns, .ref 344, .ref 345, .ref 346, .ref 347, .int nt, .ref 348, .ref 349, .ref 350, .ref 351, .ref 352, .ref 353, .ref 354, .int cel, .ref 355, .ref 356, .ref 357, .ref 358])), (347, .inr (.inl (0, len))), (350, .inr (.inl (0, frm))), (351, .inr (.inl (0, tto))), (355, .inr (.inl (0, fit))), (356, .inr (.inl (0, way))), (357, .inr (.inl (0, rid)))] h0 := K.mg K9 rfl rfl
                clear K9
                show j_V jP _ 96 94 lv [.int (z8.1)] h9 _
                refine j_V.ifc xd43_M xd43_94 (t := 99) rfl (fun c94_7 => ?_) (fun c94_7 => ?_)
                · replace c94_7 : (z8.1) = 0 := jd_eq c94_7
                  refine j_V.ldL xd43_M xd43_99 rfl (i := 0) (kd := 2) (v := .ref 282) (pcJ := 100) rfl L rfl rfl rfl ?_
                  refine j_V.getK xd43_M xd43_100 (ci := 7) (j := 6) rfl K rfl rfl ?_
                  refine j_V.ldL xd43_M xd43_103 rfl (i := 1) (kd := 0) (v := .int x1) (pcJ := 104) rfl L rfl rfl rfl ?_
                  refine j_V.iaA xd43_M xd43_104 K rfl ?_
                  refine j_V.ifc xd43_M xd43_105 (t := 117) rfl (fun c105_8 => ?_) (fun c105_8 => ?_)
                  · replace c105_8 : ¬ ((gA ph x1) = 0) := jd_ne c105_8
                    exact absurd c41_3 c105_8
                  · replace c105_8 : (gA ph x1) = 0 := jd_nen c105_8
                    refine j_V.ldL xd43_M xd43_108 rfl (i := 0) (kd := 2) (v := .ref 282) (pcJ := 109) rfl L rfl rfl rfl ?_
                    refine j_V.ldL xd43_M xd43_109 rfl (i := 1) (kd := 0) (v := .int x1) (pcJ := 110) rfl L rfl rfl rfl ?_
                    refine j_V.ldL xd43_M xd43_110 rfl (i := 3) (kd := 0) (v := .int (x_target shu bus ph sp ri len frm tto fit x1)) (pcJ := 111) rfl L rfl rfl rfl ?_
                    refine j_V.cl xd43_M xd43_111 rfl (md := 3) (mj := 97) rfl (by decide) xd31_M (As := [.ref 282, .int x1, .int (x_target shu bus ph sp ri len frm tto fit x1)]) (rest := []) (jk_spl3 (K.at rfl) rfl rfl rfl (Nat.le_of_ble_eq_true rfl) (Nat.le_of_ble_eq_true rfl)) (fun d => xd31_ok (K.fi [282, 285, 286, 287, 292, 298, 306, 343, 350] rfl rfl)) ?_
                    rintro r h9 ⟨rfl, K9⟩
                    generalize ez10 : (x_comeIn mi bus ph sp ce cm pev pk pfa frm x1 (x_target shu bus ph sp ri len frm tto fit x1)) = z10 at K9 ⊢
                    have K : KN h9 [(282, .inl (7, [.ref 343, .int mi, .int shu, .int (z10.1), .ref 283, .ref 284, .ref 285, .ref 286, .ref 287, .ref 288, .ref 289, .ref 290, .ref 291, .ref 292, .ref 293, .int lks, .ref 294, .ref 295, .ref 298])), (284, .inr (.inl (0, sta))), (285, .inr (.inl (0, (z10.2.1)))), (286, .inr (.inl (0, (z10.2.2.1)))), (287, .inr (.inl (0, (z10.2.2.2.1)))), (288, .inr (.inl (0, du))), (289, .inr (.inl (0, he))), (290, .inr (.inl (0, ri))), (292, .inr (.inl (0, (z10.2.2.2.2.1)))), (293, .inr (.inl (0, lf))), (294, .inr (.inl (0, lkd))), (295, .inl (5, [.ref 296, .int (z8.2.2.2), .ref 297])), (296, .inr (.inl (0, (z8.2.2.1)))), (297, .inr (.inl (0, (z8.2.1)))), (298, .inl (3, [.ref 299, .ref 300, .ref 301, .ref 302, .ref 303, .ref 304, .ref 305, .ref 306, .int (z10.2.2.2.2.2.2), .int pk])), (304, .inr (.inl (0, prs))), (305, .inr (.inl (0, prr))), (306, .inr (.inl (0, (z10.2.2.2.2.2.1)))), (343, .inl (2, [.int ns, .ref 344, .ref 345, .ref 346, .ref 347, .int nt, .ref 348, .ref 349, .ref 350, .ref 351, .ref 352, .ref 353, .ref 354, .int cel, .ref 355, .ref 356, .ref 357, .ref 358])), (347, .inr (.inl (0, len))), (350, .inr (.inl (0, frm))), (351, .inr (.inl (0, tto))), (355, .inr (.inl (0, fit))), (356, .inr (.inl (0, way))), (357, .inr (.inl (0, rid)))] h0 := K.mg K9 rfl rfl
                    clear K9
                    show j_V jP _ 96 114 lv [] h9 _
                    refine j_V.gto xd43_M xd43_114 (t := 123) rfl ?_
                    refine j_V.one xd43_M xd43_123 (by decide) (pcJ := 124) (stJ := [.int 1]) rfl ?_
                    subst ez10
                    subst ez8
                    refine j_V.ri xd43_M xd43_124 ?_
                    rw [show (x_tryMove mi shu bus lks sta ph sp ce du he ri cm lf lkd rl row sea pev pk prs prr pfa nt len frm tto fit way rid x1 x2) = _ from ((if_neg c10_0).trans ((if_neg c20_1).trans ((if_neg c30_2).trans ((if_pos c41_3).trans ((if_neg c54_4).trans ((if_neg c77_5).trans ((if_neg c81_6).trans ((if_pos c94_7).trans (rfl)))))))))]
                    exact ⟨rfl, K⟩
                · replace c94_7 : ¬ ((z8.1) = 0) := jd_eqn c94_7
                  refine j_V.one xd43_M xd43_97 (by decide) (pcJ := 98) (stJ := [.int 0]) rfl ?_
                  subst ez8
                  refine j_V.ri xd43_M xd43_98 ?_
                  rw [show (x_tryMove mi shu bus lks sta ph sp ce du he ri cm lf lkd rl row sea pev pk prs prr pfa nt len frm tto fit way rid x1 x2) = _ from ((if_neg c10_0).trans ((if_neg c20_1).trans ((if_neg c30_2).trans ((if_pos c41_3).trans ((if_neg c54_4).trans ((if_neg c77_5).trans ((if_neg c81_6).trans ((if_neg c94_7).trans (rfl)))))))))]
                  exact ⟨rfl, K⟩
          · replace c54_4 : mi < (gA sta x1) := jd_len c54_4
            refine j_V.gto xd43_M xd43_57 (t := 68) rfl ?_
            refine j_V.one xd43_M xd43_68 (by decide) (pcJ := 69) (stJ := [.int 0]) rfl ?_
            refine j_V.ri xd43_M xd43_69 ?_
            rw [show (x_tryMove mi shu bus lks sta ph sp ce du he ri cm lf lkd rl row sea pev pk prs prr pfa nt len frm tto fit way rid x1 x2) = _ from ((if_neg c10_0).trans ((if_neg c20_1).trans ((if_neg c30_2).trans ((if_pos c41_3).trans ((if_pos c54_4).trans (rfl))))))]
            exact ⟨rfl, K⟩
      · replace c30_2 : (gA ph x1) = 3 := jd_nen c30_2
        refine j_V.one xd43_M xd43_33 (by decide) (pcJ := 34) (stJ := [.int 0]) rfl ?_
        refine j_V.ri xd43_M xd43_34 ?_
        rw [show (x_tryMove mi shu bus lks sta ph sp ce du he ri cm lf lkd rl row sea pev pk prs prr pfa nt len frm tto fit way rid x1 x2) = _ from ((if_neg c10_0).trans ((if_neg c20_1).trans ((if_pos c30_2).trans (rfl))))]
        exact ⟨rfl, K⟩
set_option maxRecDepth 100000 in
theorem xd44_M : j_meth jP 93 = some (yX7_passMinute, cX7_passMinute, 4, (some .boolean), 1, false, 7) := rfl
set_option maxRecDepth 100000 in
theorem xd44_0 : j_code jP 93 0 = some (.iconst 0) := rfl
set_option maxRecDepth 100000 in
theorem xd44_1 : j_code jP 93 1 = some (.istore_n 2) := rfl
set_option maxRecDepth 100000 in
theorem xd44_2 : j_code jP 93 2 = some (.iconst 0) := rfl
set_option maxRecDepth 100000 in
theorem xd44_3 : j_code jP 93 3 = some (.istore_n 3) := rfl
set_option maxRecDepth 100000 in
theorem xd44_4 : j_code jP 93 4 = some (.iload_n 3) := rfl
set_option maxRecDepth 100000 in
theorem xd44_5 : j_code jP 93 5 = some (.aload_n 0) := rfl
set_option maxRecDepth 100000 in
theorem xd44_6 : j_code jP 93 6 = some (.getfield 64) := rfl
set_option maxRecDepth 100000 in
theorem xd44_9 : j_code jP 93 9 = some (.getfield 102) := rfl
set_option maxRecDepth 100000 in
theorem xd44_12 : j_code jP 93 12 = some (.if_icmp .ge 39) := rfl
set_option maxRecDepth 100000 in
theorem xd44_15 : j_code jP 93 15 = some (.aload_n 0) := rfl
set_option maxRecDepth 100000 in
theorem xd44_16 : j_code jP 93 16 = some (.getfield 18) := rfl
set_option maxRecDepth 100000 in
theorem xd44_19 : j_code jP 93 19 = some (.iload_n 3) := rfl
set_option maxRecDepth 100000 in
theorem xd44_20 : j_code jP 93 20 = some (.iaload) := rfl
set_option maxRecDepth 100000 in
theorem xd44_21 : j_code jP 93 21 = some (.iconst 2) := rfl
set_option maxRecDepth 100000 in
theorem xd44_22 : j_code jP 93 22 = some (.if_icmp .ne 23) := rfl
set_option maxRecDepth 100000 in
theorem xd44_25 : j_code jP 93 25 = some (.aload_n 0) := rfl
set_option maxRecDepth 100000 in
theorem xd44_26 : j_code jP 93 26 = some (.getfield 27) := rfl
set_option maxRecDepth 100000 in
theorem xd44_29 : j_code jP 93 29 = some (.iload_n 3) := rfl
set_option maxRecDepth 100000 in
theorem xd44_30 : j_code jP 93 30 = some (.iaload) := rfl
set_option maxRecDepth 100000 in
theorem xd44_31 : j_code jP 93 31 = some (.aload_n 0) := rfl
set_option maxRecDepth 100000 in
theorem xd44_32 : j_code jP 93 32 = some (.getfield 68) := rfl
set_option maxRecDepth 100000 in
theorem xd44_35 : j_code jP 93 35 = some (.if_icmp .gt 10) := rfl
set_option maxRecDepth 100000 in
theorem xd44_38 : j_code jP 93 38 = some (.aload_n 0) := rfl
set_option maxRecDepth 100000 in
theorem xd44_39 : j_code jP 93 39 = some (.iload_n 3) := rfl
set_option maxRecDepth 100000 in
theorem xd44_40 : j_code jP 93 40 = some (.invokevirtual 193) := rfl
set_option maxRecDepth 100000 in
theorem xd44_43 : j_code jP 93 43 = some (.iconst 1) := rfl
set_option maxRecDepth 100000 in
theorem xd44_44 : j_code jP 93 44 = some (.istore_n 2) := rfl
set_option maxRecDepth 100000 in
theorem xd44_45 : j_code jP 93 45 = some (.iinc 3 1) := rfl
set_option maxRecDepth 100000 in
theorem xd44_48 : j_code jP 93 48 = some (.goto (-44)) := rfl
set_option maxRecDepth 100000 in
theorem xd44_51 : j_code jP 93 51 = some (.iconst 0) := rfl
set_option maxRecDepth 100000 in
theorem xd44_52 : j_code jP 93 52 = some (.istore_n 3) := rfl
set_option maxRecDepth 100000 in
theorem xd44_53 : j_code jP 93 53 = some (.iload_n 3) := rfl
set_option maxRecDepth 100000 in
theorem xd44_54 : j_code jP 93 54 = some (.aload_n 0) := rfl
set_option maxRecDepth 100000 in
theorem xd44_55 : j_code jP 93 55 = some (.getfield 64) := rfl
set_option maxRecDepth 100000 in
theorem xd44_58 : j_code jP 93 58 = some (.getfield 102) := rfl
set_option maxRecDepth 100000 in
theorem xd44_61 : j_code jP 93 61 = some (.if_icmp .ge 25) := rfl
set_option maxRecDepth 100000 in
theorem xd44_64 : j_code jP 93 64 = some (.aload_n 0) := rfl
set_option maxRecDepth 100000 in
theorem xd44_65 : j_code jP 93 65 = some (.aload_n 0) := rfl
set_option maxRecDepth 100000 in
theorem xd44_66 : j_code jP 93 66 = some (.getfield 9) := rfl
set_option maxRecDepth 100000 in
theorem xd44_69 : j_code jP 93 69 = some (.iload_n 3) := rfl
set_option maxRecDepth 100000 in
theorem xd44_70 : j_code jP 93 70 = some (.iaload) := rfl
set_option maxRecDepth 100000 in
theorem xd44_71 : j_code jP 93 71 = some (.iload_n 1) := rfl
set_option maxRecDepth 100000 in
theorem xd44_72 : j_code jP 93 72 = some (.invokevirtual 196) := rfl
set_option maxRecDepth 100000 in
theorem xd44_75 : j_code jP 93 75 = some (.ifCond .eq 5) := rfl
set_option maxRecDepth 100000 in
theorem xd44_78 : j_code jP 93 78 = some (.iconst 1) := rfl
set_option maxRecDepth 100000 in
theorem xd44_79 : j_code jP 93 79 = some (.istore_n 2) := rfl
set_option maxRecDepth 100000 in
theorem xd44_80 : j_code jP 93 80 = some (.iinc 3 1) := rfl
set_option maxRecDepth 100000 in
theorem xd44_83 : j_code jP 93 83 = some (.goto (-30)) := rfl
set_option maxRecDepth 100000 in
theorem xd44_86 : j_code jP 93 86 = some (.aload_n 0) := rfl
set_option maxRecDepth 100000 in
theorem xd44_87 : j_code jP 93 87 = some (.iconst 1) := rfl
set_option maxRecDepth 100000 in
theorem xd44_88 : j_code jP 93 88 = some (.invokevirtual 186) := rfl
set_option maxRecDepth 100000 in
theorem xd44_91 : j_code jP 93 91 = some (.iload_n 2) := rfl
set_option maxRecDepth 100000 in
theorem xd44_92 : j_code jP 93 92 = some (.ireturn) := rfl
set_option maxRecDepth 1000000 in
theorem xd44_ok_l53 {shu : Int32} {lks : Int32} {rk : List Int32} {sta : List Int32} {he : List Int32} {lkd : List Int32} {pk : Int32} {ns : Int32} {nt : Int32} {cel : Int32} {len : List Int32} {frm : List Int32} {tto : List Int32} {fit : List Int32} {way : List Int32} {rid : List Int32} {v1 : Int32} {d : Nat} {h0 : J_H} : ∀ (f : Nat) (v3 v2 : Int32) (sea : List Int32) (row : List Int32) (rl : Int32) (bus : Int32) (ph : List Int32) (sp : List Int32) (ce : List Int32) (du : List Int32) (ri : List Int32) (cm : List Int32) (lf : List Int32) (pfa : List Int32) (pev : Int32) (prs : List Int32) (prr : List Int32) (mi : Int32) (us : List Int32) (pms : List Int32) (pmm : List Int32) (pmt : List Int32) (pst : List Int32) (pwa : List Int32) {lv : J_L} {h : J_H}, lpN nt v3 = f → LK lv [(0, .ref 282), (1, .int v1), (2, .int v2), (3, .int v3)] → KN h [(282, .inl (7, [.ref 343, .int mi, .int shu, .int bus, .ref 283, .ref 284, .ref 285, .ref 286, .ref 287, .ref 288, .ref 289, .ref 290, .ref 291, .ref 292, .ref 293, .int lks, .ref 294, .ref 295, .ref 298])), (283, .inr (.inl (0, rk))), (284, .inr (.inl (0, sta))), (285, .inr (.inl (0, ph))), (286, .inr (.inl (0, sp))), (287, .inr (.inl (0, ce))), (288, .inr (.inl (0, du))), (289, .inr (.inl (0, he))), (290, .inr (.inl (0, ri))), (291, .inr (.inl (0, us))), (292, .inr (.inl (0, cm))), (293, .inr (.inl (0, lf))), (294, .inr (.inl (0, lkd))), (295, .inl (5, [.ref 296, .int rl, .ref 297])), (296, .inr (.inl (0, row))), (297, .inr (.inl (0, sea))), (298, .inl (3, [.ref 299, .ref 300, .ref 301, .ref 302, .ref 303, .ref 304, .ref 305, .ref 306, .int pev, .int pk])), (299, .inr (.inl (0, pms))), (300, .inr (.inl (0, pmm))), (301, .inr (.inl (0, pmt))), (302, .inr (.inl (0, pst))), (303, .inr (.inl (0, pwa))), (304, .inr (.inl (0, prs))), (305, .inr (.inl (0, prr))), (306, .inr (.inl (0, pfa))), (343, .inl (2, [.int ns, .ref 344, .ref 345, .ref 346, .ref 347, .int nt, .ref 348, .ref 349, .ref 350, .ref 351, .ref 352, .ref 353, .ref 354, .int cel, .ref 355, .ref 356, .ref 357, .ref 358])), (347, .inr (.inl (0, len))), (350, .inr (.inl (0, frm))), (351, .inr (.inl (0, tto))), (355, .inr (.inl (0, fit))), (356, .inr (.inl (0, way))), (357, .inr (.inl (0, rid)))] h0 → j_V jP d 93 53 lv [] h (fun rv h' => rv = some (.int (x_passMinute_l53 shu lks rk sta he lkd pk nt len frm tto fit way rid v1 f v3 v2 sea row rl bus ph sp ce du ri cm lf pfa pev prs prr mi us pms pmm pmt pst pwa).1) ∧ KN h' [(282, .inl (7, [.ref 343, .int (x_passMinute_l53 shu lks rk sta he lkd pk nt len frm tto fit way rid v1 f v3 v2 sea row rl bus ph sp ce du ri cm lf pfa pev prs prr mi us pms pmm pmt pst pwa).2.2.2.2.2.2.2.2.2.2.2.2.2.2.2.2.1, .int shu, .int (x_passMinute_l53 shu lks rk sta he lkd pk nt len frm tto fit way rid v1 f v3 v2 sea row rl bus ph sp ce du ri cm lf pfa pev prs prr mi us pms pmm pmt pst pwa).2.2.2.2.1, .ref 283, .ref 284, .ref 285, .ref 286, .ref 287, .ref 288, .ref 289, .ref 290, .ref 291, .ref 292, .ref 293, .int lks, .ref 294, .ref 295, .ref 298])), (283, .inr (.inl (0, rk))), (284, .inr (.inl (0, sta))), (285, .inr (.inl (0, (x_passMinute_l53 shu lks rk sta he lkd pk nt len frm tto fit way rid v1 f v3 v2 sea row rl bus ph sp ce du ri cm lf pfa pev prs prr mi us pms pmm pmt pst pwa).2.2.2.2.2.1))), (286, .inr (.inl (0, (x_passMinute_l53 shu lks rk sta he lkd pk nt len frm tto fit way rid v1 f v3 v2 sea row rl bus ph sp ce du ri cm lf pfa pev prs prr mi us pms pmm pmt pst pwa).2.2.2.2.2.2.1))), (287, .inr (.inl (0, (x_passMinute_l53 shu lks rk sta he lkd pk nt len frm tto fit way rid v1 f v3 v2 sea row rl bus ph sp ce du ri cm lf pfa pev prs prr mi us pms pmm pmt pst pwa).2.2.2.2.2.2.2.1))), (288, .inr (.inl (0, (x_passMinute_l53 shu lks rk sta he lkd pk nt len frm tto fit way rid v1 f v3 v2 sea row rl bus ph sp ce du ri cm lf pfa pev prs prr mi us pms pmm pmt pst pwa).2.2.2.2.2.2.2.2.1))), (289, .inr (.inl (0, he))), (290, .inr (.inl (0, (x_passMinute_l53 shu lks rk sta he lkd pk nt len frm tto fit way rid v1 f v3 v2 sea row rl bus ph sp ce du ri cm lf pfa pev prs prr mi us pms pmm pmt pst pwa).2.2.2.2.2.2.2.2.2.1))), (291, .inr (.inl (0, (x_passMinute_l53 shu lks rk sta he lkd pk nt len frm tto fit way rid v1 f v3 v2 sea row rl bus ph sp ce du ri cm lf pfa pev prs prr mi us pms pmm pmt pst pwa).2.2.2.2.2.2.2.2.2.2.2.2.2.2.2.2.2.1))), (292, .inr (.inl (0, (x_passMinute_l53 shu lks rk sta he lkd pk nt len frm tto fit way rid v1 f v3 v2 sea row rl bus ph sp ce du ri cm lf pfa pev prs prr mi us pms pmm pmt pst pwa).2.2.2.2.2.2.2.2.2.2.1))), (293, .inr (.inl (0, (x_passMinute_l53 shu lks rk sta he lkd pk nt len frm tto fit way rid v1 f v3 v2 sea row rl bus ph sp ce du ri cm lf pfa pev prs prr mi us pms pmm pmt pst pwa).2.2.2.2.2.2.2.2.2.2.2.1))), (294, .inr (.inl (0, lkd))), (295, .inl (5, [.ref 296, .int (x_passMinute_l53 shu lks rk sta he lkd pk nt len frm tto fit way rid v1 f v3 v2 sea row rl bus ph sp ce du ri cm lf pfa pev prs prr mi us pms pmm pmt pst pwa).2.2.2.1, .ref 297])), (296, .inr (.inl (0, (x_passMinute_l53 shu lks rk sta he lkd pk nt len frm tto fit way rid v1 f v3 v2 sea row rl bus ph sp ce du ri cm lf pfa pev prs prr mi us pms pmm pmt pst pwa).2.2.1))), (297, .inr (.inl (0, (x_passMinute_l53 shu lks rk sta he lkd pk nt len frm tto fit way rid v1 f v3 v2 sea row rl bus ph sp ce du ri cm lf pfa pev prs prr mi us pms pmm pmt pst pwa).2.1))), (298, .inl (3, [.ref 299, .ref 300, .ref 301, .ref 302, .ref 303, .ref 304, .ref 305, .ref 306, .int (x_passMinute_l53 shu lks rk sta he lkd pk nt len frm tto fit way rid v1 f v3 v2 sea row rl bus ph sp ce du ri cm lf pfa pev prs prr mi us pms pmm pmt pst pwa).2.2.2.2.2.2.2.2.2.2.2.2.2.1, .int pk])), (299, .inr (.inl (0, (x_passMinute_l53 shu lks rk sta he lkd pk nt len frm tto fit way rid v1 f v3 v2 sea row rl bus ph sp ce du ri cm lf pfa pev prs prr mi us pms pmm pmt pst pwa).2.2.2.2.2.2.2.2.2.2.2.2.2.2.2.2.2.2.1))), (300, .inr (.inl (0, (x_passMinute_l53 shu lks rk sta he lkd pk nt len frm tto fit way rid v1 f v3 v2 sea row rl bus ph sp ce du ri cm lf pfa pev prs prr mi us pms pmm pmt pst pwa).2.2.2.2.2.2.2.2.2.2.2.2.2.2.2.2.2.2.2.1))), (301, .inr (.inl (0, (x_passMinute_l53 shu lks rk sta he lkd pk nt len frm tto fit way rid v1 f v3 v2 sea row rl bus ph sp ce du ri cm lf pfa pev prs prr mi us pms pmm pmt pst pwa).2.2.2.2.2.2.2.2.2.2.2.2.2.2.2.2.2.2.2.2.1))), (302, .inr (.inl (0, (x_passMinute_l53 shu lks rk sta he lkd pk nt len frm tto fit way rid v1 f v3 v2 sea row rl bus ph sp ce du ri cm lf pfa pev prs prr mi us pms pmm pmt pst pwa).2.2.2.2.2.2.2.2.2.2.2.2.2.2.2.2.2.2.2.2.2.1))), (303, .inr (.inl (0, (x_passMinute_l53 shu lks rk sta he lkd pk nt len frm tto fit way rid v1 f v3 v2 sea row rl bus ph sp ce du ri cm lf pfa pev prs prr mi us pms pmm pmt pst pwa).2.2.2.2.2.2.2.2.2.2.2.2.2.2.2.2.2.2.2.2.2.2))), (304, .inr (.inl (0, (x_passMinute_l53 shu lks rk sta he lkd pk nt len frm tto fit way rid v1 f v3 v2 sea row rl bus ph sp ce du ri cm lf pfa pev prs prr mi us pms pmm pmt pst pwa).2.2.2.2.2.2.2.2.2.2.2.2.2.2.1))), (305, .inr (.inl (0, (x_passMinute_l53 shu lks rk sta he lkd pk nt len frm tto fit way rid v1 f v3 v2 sea row rl bus ph sp ce du ri cm lf pfa pev prs prr mi us pms pmm pmt pst pwa).2.2.2.2.2.2.2.2.2.2.2.2.2.2.2.1))), (306, .inr (.inl (0, (x_passMinute_l53 shu lks rk sta he lkd pk nt len frm tto fit way rid v1 f v3 v2 sea row rl bus ph sp ce du ri cm lf pfa pev prs prr mi us pms pmm pmt pst pwa).2.2.2.2.2.2.2.2.2.2.2.2.1))), (343, .inl (2, [.int ns, .ref 344, .ref 345, .ref 346, .ref 347, .int nt, .ref 348, .ref 349, .ref 350, .ref 351, .ref 352, .ref 353, .ref 354, .int cel, .ref 355, .ref 356, .ref 357, .ref 358])), (347, .inr (.inl (0, len))), (350, .inr (.inl (0, frm))), (351, .inr (.inl (0, tto))), (355, .inr (.inl (0, fit))), (356, .inr (.inl (0, way))), (357, .inr (.inl (0, rid)))] h0) := by
  intro f
  induction f with
  | zero =>
    intro v3 v2 sea row rl bus ph sp ce du ri cm lf pfa pev prs prr mi us pms pmm pmt pst pwa lv h e L K
    refine j_V.ldL xd44_M xd44_53 rfl (i := 3) (kd := 0) (v := .int v3) (pcJ := 54) rfl L rfl rfl rfl ?_
    refine j_V.ldL xd44_M xd44_54 rfl (i := 0) (kd := 2) (v := .ref 282) (pcJ := 55) rfl L rfl rfl rfl ?_
    refine j_V.getK xd44_M xd44_55 (ci := 7) (j := 0) rfl K rfl rfl ?_
    refine j_V.getK xd44_M xd44_58 (ci := 2) (j := 5) rfl K rfl rfl ?_
    refine j_V.icmp xd44_M xd44_61 (t := 86) rfl (fun c61_0 => ?_) (fun c61_0 => ?_)
    · replace c61_0 : ¬ (v3 < nt) := jd_ge c61_0
      refine j_V.ldL xd44_M xd44_86 rfl (i := 0) (kd := 2) (v := .ref 282) (pcJ := 87) rfl L rfl rfl rfl ?_
      refine j_V.one xd44_M xd44_87 (by decide) (pcJ := 88) (stJ := [.int 1, .ref 282]) rfl ?_
      refine j_V.cl xd44_M xd44_88 rfl (md := 3) (mj := 95) rfl (by decide) xd39_M (As := [.ref 282, .int 1]) (rest := []) (jk_spl3 (K.at rfl) rfl rfl rfl (Nat.le_of_ble_eq_true rfl) (Nat.le_of_ble_eq_true rfl)) (fun d => xd39_ok (K.fi [282, 285, 286, 290, 291, 298, 299, 300, 301, 302, 303, 343] rfl rfl)) ?_
      rintro r h9 ⟨rfl, K9⟩
      generalize ez1 : (x_endMinutes mi ph sp ri us pk pms pmm pmt pst pwa nt 1) = z1 at K9 ⊢
      have K : KN h9 [(282, .inl (7, [.ref 343, .int (z1.1), .int shu, .int bus, .ref 283, .ref 284, .ref 285, .ref 286, .ref 287, .ref 288, .ref 289, .ref 290, .ref 291, .ref 292, .ref 293, .int lks, .ref 294, .ref 295, .ref 298])), (283, .inr (.inl (0, rk))), (284, .inr (.inl (0, sta))), (285, .inr (.inl (0, ph))), (286, .inr (.inl (0, sp))), (287, .inr (.inl (0, ce))), (288, .inr (.inl (0, du))), (289, .inr (.inl (0, he))), (290, .inr (.inl (0, ri))), (291, .inr (.inl (0, (z1.2.1)))), (292, .inr (.inl (0, cm))), (293, .inr (.inl (0, lf))), (294, .inr (.inl (0, lkd))), (295, .inl (5, [.ref 296, .int rl, .ref 297])), (296, .inr (.inl (0, row))), (297, .inr (.inl (0, sea))), (298, .inl (3, [.ref 299, .ref 300, .ref 301, .ref 302, .ref 303, .ref 304, .ref 305, .ref 306, .int pev, .int pk])), (299, .inr (.inl (0, (z1.2.2.1)))), (300, .inr (.inl (0, (z1.2.2.2.1)))), (301, .inr (.inl (0, (z1.2.2.2.2.1)))), (302, .inr (.inl (0, (z1.2.2.2.2.2.1)))), (303, .inr (.inl (0, (z1.2.2.2.2.2.2)))), (304, .inr (.inl (0, prs))), (305, .inr (.inl (0, prr))), (306, .inr (.inl (0, pfa))), (343, .inl (2, [.int ns, .ref 344, .ref 345, .ref 346, .ref 347, .int nt, .ref 348, .ref 349, .ref 350, .ref 351, .ref 352, .ref 353, .ref 354, .int cel, .ref 355, .ref 356, .ref 357, .ref 358])), (347, .inr (.inl (0, len))), (350, .inr (.inl (0, frm))), (351, .inr (.inl (0, tto))), (355, .inr (.inl (0, fit))), (356, .inr (.inl (0, way))), (357, .inr (.inl (0, rid)))] h0 := K.mg K9 rfl rfl
      clear K9
      show j_V jP _ 93 91 lv [] h9 _
      refine j_V.ldL xd44_M xd44_91 rfl (i := 2) (kd := 0) (v := .int v2) (pcJ := 92) rfl L rfl rfl rfl ?_
      subst ez1
      refine j_V.ri xd44_M xd44_92 ?_
      rw [show (x_passMinute_l53 shu lks rk sta he lkd pk nt len frm tto fit way rid v1 0 v3 v2 sea row rl bus ph sp ce du ri cm lf pfa pev prs prr mi us pms pmm pmt pst pwa) = _ from (rfl)]
      exact ⟨rfl, K⟩
    · replace c61_0 : v3 < nt := jd_gen c61_0
      exact absurd c61_0 (lpN_z e)
  | succ f ih =>
    intro v3 v2 sea row rl bus ph sp ce du ri cm lf pfa pev prs prr mi us pms pmm pmt pst pwa lv h e L K
    refine j_V.ldL xd44_M xd44_53 rfl (i := 3) (kd := 0) (v := .int v3) (pcJ := 54) rfl L rfl rfl rfl ?_
    refine j_V.ldL xd44_M xd44_54 rfl (i := 0) (kd := 2) (v := .ref 282) (pcJ := 55) rfl L rfl rfl rfl ?_
    refine j_V.getK xd44_M xd44_55 (ci := 7) (j := 0) rfl K rfl rfl ?_
    refine j_V.getK xd44_M xd44_58 (ci := 2) (j := 5) rfl K rfl rfl ?_
    refine j_V.icmp xd44_M xd44_61 (t := 86) rfl (fun c61_0 => ?_) (fun c61_0 => ?_)
    · replace c61_0 : ¬ (v3 < nt) := jd_ge c61_0
      exact absurd (lpN_s e) c61_0
    · replace c61_0 : v3 < nt := jd_gen c61_0
      refine j_V.ldL xd44_M xd44_64 rfl (i := 0) (kd := 2) (v := .ref 282) (pcJ := 65) rfl L rfl rfl rfl ?_
      refine j_V.ldL xd44_M xd44_65 rfl (i := 0) (kd := 2) (v := .ref 282) (pcJ := 66) rfl L rfl rfl rfl ?_
      refine j_V.getK xd44_M xd44_66 (ci := 7) (j := 4) rfl K rfl rfl ?_
      refine j_V.ldL xd44_M xd44_69 rfl (i := 3) (kd := 0) (v := .int v3) (pcJ := 70) rfl L rfl rfl rfl ?_
      refine j_V.iaA xd44_M xd44_70 K rfl ?_
      refine j_V.ldL xd44_M xd44_71 rfl (i := 1) (kd := 0) (v := .int v1) (pcJ := 72) rfl L rfl rfl rfl ?_
      refine j_V.cl xd44_M xd44_72 rfl (md := 3) (mj := 96) rfl (by decide) xd43_M (As := [.ref 282, .int (gA rk v3), .int v1]) (rest := []) (jk_spl3 (K.at rfl) rfl rfl rfl (Nat.le_of_ble_eq_true rfl) (Nat.le_of_ble_eq_true rfl)) (fun d => xd43_ok (K.fi [282, 284, 285, 286, 287, 288, 289, 290, 292, 293, 294, 295, 296, 297, 298, 304, 305, 306, 343, 347, 350, 351, 355, 356, 357] rfl rfl)) ?_
      rintro r h9 ⟨rfl, K9⟩
      generalize ez2 : (x_tryMove mi shu bus lks sta ph sp ce du he ri cm lf lkd rl row sea pev pk prs prr pfa nt len frm tto fit way rid (gA rk v3) v1) = z2 at K9 ⊢
      have K : KN h9 [(282, .inl (7, [.ref 343, .int mi, .int shu, .int (z2.2.2.2.2.1), .ref 283, .ref 284, .ref 285, .ref 286, .ref 287, .ref 288, .ref 289, .ref 290, .ref 291, .ref 292, .ref 293, .int lks, .ref 294, .ref 295, .ref 298])), (283, .inr (.inl (0, rk))), (284, .inr (.inl (0, sta))), (285, .inr (.inl (0, (z2.2.2.2.2.2.1)))), (286, .inr (.inl (0, (z2.2.2.2.2.2.2.1)))), (287, .inr (.inl (0, (z2.2.2.2.2.2.2.2.1)))), (288, .inr (.inl (0, (z2.2.2.2.2.2.2.2.2.1)))), (289, .inr (.inl (0, he))), (290, .inr (.inl (0, (z2.2.2.2.2.2.2.2.2.2.1)))), (291, .inr (.inl (0, us))), (292, .inr (.inl (0, (z2.2.2.2.2.2.2.2.2.2.2.1)))), (293, .inr (.inl (0, (z2.2.2.2.2.2.2.2.2.2.2.2.1)))), (294, .inr (.inl (0, lkd))), (295, .inl (5, [.ref 296, .int (z2.2.2.2.1), .ref 297])), (296, .inr (.inl (0, (z2.2.2.1)))), (297, .inr (.inl (0, (z2.2.1)))), (298, .inl (3, [.ref 299, .ref 300, .ref 301, .ref 302, .ref 303, .ref 304, .ref 305, .ref 306, .int (z2.2.2.2.2.2.2.2.2.2.2.2.2.2.1), .int pk])), (299, .inr (.inl (0, pms))), (300, .inr (.inl (0, pmm))), (301, .inr (.inl (0, pmt))), (302, .inr (.inl (0, pst))), (303, .inr (.inl (0, pwa))), (304, .inr (.inl (0, (z2.2.2.2.2.2.2.2.2.2.2.2.2.2.2.1)))), (305, .inr (.inl (0, (z2.2.2.2.2.2.2.2.2.2.2.2.2.2.2.2)))), (306, .inr (.inl (0, (z2.2.2.2.2.2.2.2.2.2.2.2.2.1)))), (343, .inl (2, [.int ns, .ref 344, .ref 345, .ref 346, .ref 347, .int nt, .ref 348, .ref 349, .ref 350, .ref 351, .ref 352, .ref 353, .ref 354, .int cel, .ref 355, .ref 356, .ref 357, .ref 358])), (347, .inr (.inl (0, len))), (350, .inr (.inl (0, frm))), (351, .inr (.inl (0, tto))), (355, .inr (.inl (0, fit))), (356, .inr (.inl (0, way))), (357, .inr (.inl (0, rid)))] h0 := K.mg K9 rfl rfl
      clear K9
      show j_V jP _ 93 75 lv [.int (z2.1)] h9 _
      refine j_V.cut (b := 80) (stJ := []) (fun v => [(0, .ref 282), (1, .int v1), (2, .int v), (3, .int v3)]) ((if (z2.1) = 0 then v2 else 1) : Int32) (fun Q kk => ?_) (fun lv L => ?_)
      · refine j_V.ifc xd44_M xd44_75 (t := 80) rfl (fun c75_0 => ?_) (fun c75_0 => ?_)
        · replace c75_0 : (z2.1) = 0 := jd_eq c75_0
          exact kk _ (Eq.subst (motive := fun z => LK _ ((fun v => [(0, .ref 282), (1, .int v1), (2, .int v), (3, .int v3)]) z)) (show v2 = ((if (z2.1) = 0 then v2 else 1) : Int32) from Eq.symm ((if_pos c75_0).trans (rfl))) L)
        · replace c75_0 : ¬ ((z2.1) = 0) := jd_eqn c75_0
          refine j_V.one xd44_M xd44_78 (by decide) (pcJ := 79) (stJ := [.int 1]) rfl ?_
          refine j_V.stL xd44_M xd44_79 rfl (i := 2) (kd := 0) (kl' := [(0, .ref 282), (1, .int v1), (2, .int 1), (3, .int v3)]) (pcJ := 80) rfl L rfl (by decide) rfl rfl rfl (fun lv L => ?_)
          exact kk _ (Eq.subst (motive := fun z => LK _ ((fun v => [(0, .ref 282), (1, .int v1), (2, .int v), (3, .int v3)]) z)) (show 1 = ((if (z2.1) = 0 then v2 else 1) : Int32) from Eq.symm ((if_neg c75_0).trans (rfl))) L)
      refine j_V.inL xd44_M xd44_80 (i := 3) (kl' := [(0, .ref 282), (1, .int v1), (2, .int ((if (z2.1) = 0 then v2 else 1) : Int32)), (3, .int (v3 + 1))]) (pcJ := 83) L rfl rfl rfl rfl (fun lv L => ?_)
      refine j_V.gto xd44_M xd44_83 (t := 53) rfl ?_
      subst ez2
      rw [show (x_passMinute_l53 shu lks rk sta he lkd pk nt len frm tto fit way rid v1 (f + 1) v3 v2 sea row rl bus ph sp ce du ri cm lf pfa pev prs prr mi us pms pmm pmt pst pwa) = _ from (rfl)]
      exact ih _ _ _ _ _ _ _ _ _ _ _ _ _ _ _ _ _ _ _ _ _ _ _ _ (lpN_n e) L K
set_option maxRecDepth 1000000 in
theorem xd44_ok_l4 {shu : Int32} {lks : Int32} {rk : List Int32} {sta : List Int32} {he : List Int32} {lkd : List Int32} {pk : Int32} {ns : Int32} {nt : Int32} {cel : Int32} {len : List Int32} {frm : List Int32} {tto : List Int32} {fit : List Int32} {way : List Int32} {rid : List Int32} {v1 : Int32} {d : Nat} {h0 : J_H} : ∀ (f : Nat) (v3 v2 : Int32) (sea : List Int32) (row : List Int32) (rl : Int32) (bus : Int32) (ph : List Int32) (sp : List Int32) (ce : List Int32) (du : List Int32) (ri : List Int32) (cm : List Int32) (lf : List Int32) (pfa : List Int32) (pev : Int32) (prs : List Int32) (prr : List Int32) (mi : Int32) (us : List Int32) (pms : List Int32) (pmm : List Int32) (pmt : List Int32) (pst : List Int32) (pwa : List Int32) {lv : J_L} {h : J_H}, lpN nt v3 = f → LK lv [(0, .ref 282), (1, .int v1), (2, .int v2), (3, .int v3)] → KN h [(282, .inl (7, [.ref 343, .int mi, .int shu, .int bus, .ref 283, .ref 284, .ref 285, .ref 286, .ref 287, .ref 288, .ref 289, .ref 290, .ref 291, .ref 292, .ref 293, .int lks, .ref 294, .ref 295, .ref 298])), (283, .inr (.inl (0, rk))), (284, .inr (.inl (0, sta))), (285, .inr (.inl (0, ph))), (286, .inr (.inl (0, sp))), (287, .inr (.inl (0, ce))), (288, .inr (.inl (0, du))), (289, .inr (.inl (0, he))), (290, .inr (.inl (0, ri))), (291, .inr (.inl (0, us))), (292, .inr (.inl (0, cm))), (293, .inr (.inl (0, lf))), (294, .inr (.inl (0, lkd))), (295, .inl (5, [.ref 296, .int rl, .ref 297])), (296, .inr (.inl (0, row))), (297, .inr (.inl (0, sea))), (298, .inl (3, [.ref 299, .ref 300, .ref 301, .ref 302, .ref 303, .ref 304, .ref 305, .ref 306, .int pev, .int pk])), (299, .inr (.inl (0, pms))), (300, .inr (.inl (0, pmm))), (301, .inr (.inl (0, pmt))), (302, .inr (.inl (0, pst))), (303, .inr (.inl (0, pwa))), (304, .inr (.inl (0, prs))), (305, .inr (.inl (0, prr))), (306, .inr (.inl (0, pfa))), (343, .inl (2, [.int ns, .ref 344, .ref 345, .ref 346, .ref 347, .int nt, .ref 348, .ref 349, .ref 350, .ref 351, .ref 352, .ref 353, .ref 354, .int cel, .ref 355, .ref 356, .ref 357, .ref 358])), (347, .inr (.inl (0, len))), (350, .inr (.inl (0, frm))), (351, .inr (.inl (0, tto))), (355, .inr (.inl (0, fit))), (356, .inr (.inl (0, way))), (357, .inr (.inl (0, rid)))] h0 → j_V jP d 93 4 lv [] h (fun rv h' => rv = some (.int (x_passMinute_l4 shu lks rk sta he lkd pk nt len frm tto fit way rid v1 f v3 v2 sea row rl bus ph sp ce du ri cm lf pfa pev prs prr mi us pms pmm pmt pst pwa).1) ∧ KN h' [(282, .inl (7, [.ref 343, .int (x_passMinute_l4 shu lks rk sta he lkd pk nt len frm tto fit way rid v1 f v3 v2 sea row rl bus ph sp ce du ri cm lf pfa pev prs prr mi us pms pmm pmt pst pwa).2.2.2.2.2.2.2.2.2.2.2.2.2.2.2.2.1, .int shu, .int (x_passMinute_l4 shu lks rk sta he lkd pk nt len frm tto fit way rid v1 f v3 v2 sea row rl bus ph sp ce du ri cm lf pfa pev prs prr mi us pms pmm pmt pst pwa).2.2.2.2.1, .ref 283, .ref 284, .ref 285, .ref 286, .ref 287, .ref 288, .ref 289, .ref 290, .ref 291, .ref 292, .ref 293, .int lks, .ref 294, .ref 295, .ref 298])), (283, .inr (.inl (0, rk))), (284, .inr (.inl (0, sta))), (285, .inr (.inl (0, (x_passMinute_l4 shu lks rk sta he lkd pk nt len frm tto fit way rid v1 f v3 v2 sea row rl bus ph sp ce du ri cm lf pfa pev prs prr mi us pms pmm pmt pst pwa).2.2.2.2.2.1))), (286, .inr (.inl (0, (x_passMinute_l4 shu lks rk sta he lkd pk nt len frm tto fit way rid v1 f v3 v2 sea row rl bus ph sp ce du ri cm lf pfa pev prs prr mi us pms pmm pmt pst pwa).2.2.2.2.2.2.1))), (287, .inr (.inl (0, (x_passMinute_l4 shu lks rk sta he lkd pk nt len frm tto fit way rid v1 f v3 v2 sea row rl bus ph sp ce du ri cm lf pfa pev prs prr mi us pms pmm pmt pst pwa).2.2.2.2.2.2.2.1))), (288, .inr (.inl (0, (x_passMinute_l4 shu lks rk sta he lkd pk nt len frm tto fit way rid v1 f v3 v2 sea row rl bus ph sp ce du ri cm lf pfa pev prs prr mi us pms pmm pmt pst pwa).2.2.2.2.2.2.2.2.1))), (289, .inr (.inl (0, he))), (290, .inr (.inl (0, (x_passMinute_l4 shu lks rk sta he lkd pk nt len frm tto fit way rid v1 f v3 v2 sea row rl bus ph sp ce du ri cm lf pfa pev prs prr mi us pms pmm pmt pst pwa).2.2.2.2.2.2.2.2.2.1))), (291, .inr (.inl (0, (x_passMinute_l4 shu lks rk sta he lkd pk nt len frm tto fit way rid v1 f v3 v2 sea row rl bus ph sp ce du ri cm lf pfa pev prs prr mi us pms pmm pmt pst pwa).2.2.2.2.2.2.2.2.2.2.2.2.2.2.2.2.2.1))), (292, .inr (.inl (0, (x_passMinute_l4 shu lks rk sta he lkd pk nt len frm tto fit way rid v1 f v3 v2 sea row rl bus ph sp ce du ri cm lf pfa pev prs prr mi us pms pmm pmt pst pwa).2.2.2.2.2.2.2.2.2.2.1))), (293, .inr (.inl (0, (x_passMinute_l4 shu lks rk sta he lkd pk nt len frm tto fit way rid v1 f v3 v2 sea row rl bus ph sp ce du ri cm lf pfa pev prs prr mi us pms pmm pmt pst pwa).2.2.2.2.2.2.2.2.2.2.2.1))), (294, .inr (.inl (0, lkd))), (295, .inl (5, [.ref 296, .int (x_passMinute_l4 shu lks rk sta he lkd pk nt len frm tto fit way rid v1 f v3 v2 sea row rl bus ph sp ce du ri cm lf pfa pev prs prr mi us pms pmm pmt pst pwa).2.2.2.1, .ref 297])), (296, .inr (.inl (0, (x_passMinute_l4 shu lks rk sta he lkd pk nt len frm tto fit way rid v1 f v3 v2 sea row rl bus ph sp ce du ri cm lf pfa pev prs prr mi us pms pmm pmt pst pwa).2.2.1))), (297, .inr (.inl (0, (x_passMinute_l4 shu lks rk sta he lkd pk nt len frm tto fit way rid v1 f v3 v2 sea row rl bus ph sp ce du ri cm lf pfa pev prs prr mi us pms pmm pmt pst pwa).2.1))), (298, .inl (3, [.ref 299, .ref 300, .ref 301, .ref 302, .ref 303, .ref 304, .ref 305, .ref 306, .int (x_passMinute_l4 shu lks rk sta he lkd pk nt len frm tto fit way rid v1 f v3 v2 sea row rl bus ph sp ce du ri cm lf pfa pev prs prr mi us pms pmm pmt pst pwa).2.2.2.2.2.2.2.2.2.2.2.2.2.1, .int pk])), (299, .inr (.inl (0, (x_passMinute_l4 shu lks rk sta he lkd pk nt len frm tto fit way rid v1 f v3 v2 sea row rl bus ph sp ce du ri cm lf pfa pev prs prr mi us pms pmm pmt pst pwa).2.2.2.2.2.2.2.2.2.2.2.2.2.2.2.2.2.2.1))), (300, .inr (.inl (0, (x_passMinute_l4 shu lks rk sta he lkd pk nt len frm tto fit way rid v1 f v3 v2 sea row rl bus ph sp ce du ri cm lf pfa pev prs prr mi us pms pmm pmt pst pwa).2.2.2.2.2.2.2.2.2.2.2.2.2.2.2.2.2.2.2.1))), (301, .inr (.inl (0, (x_passMinute_l4 shu lks rk sta he lkd pk nt len frm tto fit way rid v1 f v3 v2 sea row rl bus ph sp ce du ri cm lf pfa pev prs prr mi us pms pmm pmt pst pwa).2.2.2.2.2.2.2.2.2.2.2.2.2.2.2.2.2.2.2.2.1))), (302, .inr (.inl (0, (x_passMinute_l4 shu lks rk sta he lkd pk nt len frm tto fit way rid v1 f v3 v2 sea row rl bus ph sp ce du ri cm lf pfa pev prs prr mi us pms pmm pmt pst pwa).2.2.2.2.2.2.2.2.2.2.2.2.2.2.2.2.2.2.2.2.2.1))), (303, .inr (.inl (0, (x_passMinute_l4 shu lks rk sta he lkd pk nt len frm tto fit way rid v1 f v3 v2 sea row rl bus ph sp ce du ri cm lf pfa pev prs prr mi us pms pmm pmt pst pwa).2.2.2.2.2.2.2.2.2.2.2.2.2.2.2.2.2.2.2.2.2.2))), (304, .inr (.inl (0, (x_passMinute_l4 shu lks rk sta he lkd pk nt len frm tto fit way rid v1 f v3 v2 sea row rl bus ph sp ce du ri cm lf pfa pev prs prr mi us pms pmm pmt pst pwa).2.2.2.2.2.2.2.2.2.2.2.2.2.2.1))), (305, .inr (.inl (0, (x_passMinute_l4 shu lks rk sta he lkd pk nt len frm tto fit way rid v1 f v3 v2 sea row rl bus ph sp ce du ri cm lf pfa pev prs prr mi us pms pmm pmt pst pwa).2.2.2.2.2.2.2.2.2.2.2.2.2.2.2.1))), (306, .inr (.inl (0, (x_passMinute_l4 shu lks rk sta he lkd pk nt len frm tto fit way rid v1 f v3 v2 sea row rl bus ph sp ce du ri cm lf pfa pev prs prr mi us pms pmm pmt pst pwa).2.2.2.2.2.2.2.2.2.2.2.2.1))), (343, .inl (2, [.int ns, .ref 344, .ref 345, .ref 346, .ref 347, .int nt, .ref 348, .ref 349, .ref 350, .ref 351, .ref 352, .ref 353, .ref 354, .int cel, .ref 355, .ref 356, .ref 357, .ref 358])), (347, .inr (.inl (0, len))), (350, .inr (.inl (0, frm))), (351, .inr (.inl (0, tto))), (355, .inr (.inl (0, fit))), (356, .inr (.inl (0, way))), (357, .inr (.inl (0, rid)))] h0) := by
  intro f
  induction f with
  | zero =>
    intro v3 v2 sea row rl bus ph sp ce du ri cm lf pfa pev prs prr mi us pms pmm pmt pst pwa lv h e L K
    refine j_V.ldL xd44_M xd44_4 rfl (i := 3) (kd := 0) (v := .int v3) (pcJ := 5) rfl L rfl rfl rfl ?_
    refine j_V.ldL xd44_M xd44_5 rfl (i := 0) (kd := 2) (v := .ref 282) (pcJ := 6) rfl L rfl rfl rfl ?_
    refine j_V.getK xd44_M xd44_6 (ci := 7) (j := 0) rfl K rfl rfl ?_
    refine j_V.getK xd44_M xd44_9 (ci := 2) (j := 5) rfl K rfl rfl ?_
    refine j_V.icmp xd44_M xd44_12 (t := 51) rfl (fun c12_0 => ?_) (fun c12_0 => ?_)
    · replace c12_0 : ¬ (v3 < nt) := jd_ge c12_0
      refine j_V.one xd44_M xd44_51 (by decide) (pcJ := 52) (stJ := [.int 0]) rfl ?_
      refine j_V.stL xd44_M xd44_52 rfl (i := 3) (kd := 0) (kl' := [(0, .ref 282), (1, .int v1), (2, .int v2), (3, .int 0)]) (pcJ := 53) rfl L rfl (by decide) rfl rfl rfl (fun lv L => ?_)
      rw [show (x_passMinute_l4 shu lks rk sta he lkd pk nt len frm tto fit way rid v1 0 v3 v2 sea row rl bus ph sp ce du ri cm lf pfa pev prs prr mi us pms pmm pmt pst pwa) = _ from (rfl)]
      exact xd44_ok_l53 _ _ _ _ _ _ _ _ _ _ _ _ _ _ _ _ _ _ _ _ _ _ _ _ _ rfl L K
    · replace c12_0 : v3 < nt := jd_gen c12_0
      exact absurd c12_0 (lpN_z e)
  | succ f ih =>
    intro v3 v2 sea row rl bus ph sp ce du ri cm lf pfa pev prs prr mi us pms pmm pmt pst pwa lv h e L K
    refine j_V.ldL xd44_M xd44_4 rfl (i := 3) (kd := 0) (v := .int v3) (pcJ := 5) rfl L rfl rfl rfl ?_
    refine j_V.ldL xd44_M xd44_5 rfl (i := 0) (kd := 2) (v := .ref 282) (pcJ := 6) rfl L rfl rfl rfl ?_
    refine j_V.getK xd44_M xd44_6 (ci := 7) (j := 0) rfl K rfl rfl ?_
    refine j_V.getK xd44_M xd44_9 (ci := 2) (j := 5) rfl K rfl rfl ?_
    refine j_V.icmp xd44_M xd44_12 (t := 51) rfl (fun c12_0 => ?_) (fun c12_0 => ?_)
    · replace c12_0 : ¬ (v3 < nt) := jd_ge c12_0
      exact absurd (lpN_s e) c12_0
    · replace c12_0 : v3 < nt := jd_gen c12_0
      refine j_V.ldL xd44_M xd44_15 rfl (i := 0) (kd := 2) (v := .ref 282) (pcJ := 16) rfl L rfl rfl rfl ?_
      refine j_V.getK xd44_M xd44_16 (ci := 7) (j := 6) rfl K rfl rfl ?_
      refine j_V.ldL xd44_M xd44_19 rfl (i := 3) (kd := 0) (v := .int v3) (pcJ := 20) rfl L rfl rfl rfl ?_
      refine j_V.iaA xd44_M xd44_20 K rfl ?_
      refine j_V.one xd44_M xd44_21 (by decide) (pcJ := 22) (stJ := [.int 2, .int (gA ph v3)]) rfl ?_
      refine j_V.icmp xd44_M xd44_22 (t := 45) rfl (fun c22_0 => ?_) (fun c22_0 => ?_)
      · replace c22_0 : ¬ ((gA ph v3) = 2) := jd_ne c22_0
        refine j_V.inL xd44_M xd44_45 (i := 3) (kl' := [(0, .ref 282), (1, .int v1), (2, .int v2), (3, .int (v3 + 1))]) (pcJ := 48) L rfl rfl rfl rfl (fun lv L => ?_)
        refine j_V.gto xd44_M xd44_48 (t := 4) rfl ?_
        rw [show (x_passMinute_l4 shu lks rk sta he lkd pk nt len frm tto fit way rid v1 (f + 1) v3 v2 sea row rl bus ph sp ce du ri cm lf pfa pev prs prr mi us pms pmm pmt pst pwa) = _ from ((if_neg c22_0).trans (rfl))]
        exact ih _ _ _ _ _ _ _ _ _ _ _ _ _ _ _ _ _ _ _ _ _ _ _ _ (lpN_n e) L K
      · replace c22_0 : (gA ph v3) = 2 := jd_nen c22_0
        refine j_V.ldL xd44_M xd44_25 rfl (i := 0) (kd := 2) (v := .ref 282) (pcJ := 26) rfl L rfl rfl rfl ?_
        refine j_V.getK xd44_M xd44_26 (ci := 7) (j := 9) rfl K rfl rfl ?_
        refine j_V.ldL xd44_M xd44_29 rfl (i := 3) (kd := 0) (v := .int v3) (pcJ := 30) rfl L rfl rfl rfl ?_
        refine j_V.iaA xd44_M xd44_30 K rfl ?_
        refine j_V.ldL xd44_M xd44_31 rfl (i := 0) (kd := 2) (v := .ref 282) (pcJ := 32) rfl L rfl rfl rfl ?_
        refine j_V.getK xd44_M xd44_32 (ci := 7) (j := 1) rfl K rfl rfl ?_
        refine j_V.icmp xd44_M xd44_35 (t := 45) rfl (fun c35_1 => ?_) (fun c35_1 => ?_)
        · replace c35_1 : mi < (gA du v3) := jd_gt c35_1
          refine j_V.inL xd44_M xd44_45 (i := 3) (kl' := [(0, .ref 282), (1, .int v1), (2, .int v2), (3, .int (v3 + 1))]) (pcJ := 48) L rfl rfl rfl rfl (fun lv L => ?_)
          refine j_V.gto xd44_M xd44_48 (t := 4) rfl ?_
          rw [show (x_passMinute_l4 shu lks rk sta he lkd pk nt len frm tto fit way rid v1 (f + 1) v3 v2 sea row rl bus ph sp ce du ri cm lf pfa pev prs prr mi us pms pmm pmt pst pwa) = _ from ((if_pos c22_0).trans ((if_pos c35_1).trans (rfl)))]
          exact ih _ _ _ _ _ _ _ _ _ _ _ _ _ _ _ _ _ _ _ _ _ _ _ _ (lpN_n e) L K
        · replace c35_1 : ¬ (mi < (gA du v3)) := jd_gtn c35_1
          refine j_V.ldL xd44_M xd44_38 rfl (i := 0) (kd := 2) (v := .ref 282) (pcJ := 39) rfl L rfl rfl rfl ?_
          refine j_V.ldL xd44_M xd44_39 rfl (i := 3) (kd := 0) (v := .int v3) (pcJ := 40) rfl L rfl rfl rfl ?_
          refine j_V.cl xd44_M xd44_40 rfl (md := 3) (mj := 99) rfl (by decide) xd33_M (As := [.ref 282, .int v3]) (rest := []) (jk_spl3 (K.at rfl) rfl rfl rfl (Nat.le_of_ble_eq_true rfl) (Nat.le_of_ble_eq_true rfl)) (fun d => xd33_ok (K.fi [282, 285, 286, 290, 292, 298, 306, 343, 351] rfl rfl)) ?_
          rintro r h9 ⟨rfl, K9⟩
          generalize ez5 : (x_arrive mi ph sp ri cm pev pk pfa tto v3) = z5 at K9 ⊢
          have K : KN h9 [(282, .inl (7, [.ref 343, .int mi, .int shu, .int bus, .ref 283, .ref 284, .ref 285, .ref 286, .ref 287, .ref 288, .ref 289, .ref 290, .ref 291, .ref 292, .ref 293, .int lks, .ref 294, .ref 295, .ref 298])), (283, .inr (.inl (0, rk))), (284, .inr (.inl (0, sta))), (285, .inr (.inl (0, (z5.1)))), (286, .inr (.inl (0, (z5.2.1)))), (287, .inr (.inl (0, ce))), (288, .inr (.inl (0, du))), (289, .inr (.inl (0, he))), (290, .inr (.inl (0, (z5.2.2.1)))), (291, .inr (.inl (0, us))), (292, .inr (.inl (0, (z5.2.2.2.1)))), (293, .inr (.inl (0, lf))), (294, .inr (.inl (0, lkd))), (295, .inl (5, [.ref 296, .int rl, .ref 297])), (296, .inr (.inl (0, row))), (297, .inr (.inl (0, sea))), (298, .inl (3, [.ref 299, .ref 300, .ref 301, .ref 302, .ref 303, .ref 304, .ref 305, .ref 306, .int (z5.2.2.2.2.2), .int pk])), (299, .inr (.inl (0, pms))), (300, .inr (.inl (0, pmm))), (301, .inr (.inl (0, pmt))), (302, .inr (.inl (0, pst))), (303, .inr (.inl (0, pwa))), (304, .inr (.inl (0, prs))), (305, .inr (.inl (0, prr))), (306, .inr (.inl (0, (z5.2.2.2.2.1)))), (343, .inl (2, [.int ns, .ref 344, .ref 345, .ref 346, .ref 347, .int nt, .ref 348, .ref 349, .ref 350, .ref 351, .ref 352, .ref 353, .ref 354, .int cel, .ref 355, .ref 356, .ref 357, .ref 358])), (347, .inr (.inl (0, len))), (350, .inr (.inl (0, frm))), (351, .inr (.inl (0, tto))), (355, .inr (.inl (0, fit))), (356, .inr (.inl (0, way))), (357, .inr (.inl (0, rid)))] h0 := K.mg K9 rfl rfl
          clear K9
          show j_V jP _ 93 43 lv [] h9 _
          refine j_V.one xd44_M xd44_43 (by decide) (pcJ := 44) (stJ := [.int 1]) rfl ?_
          refine j_V.stL xd44_M xd44_44 rfl (i := 2) (kd := 0) (kl' := [(0, .ref 282), (1, .int v1), (2, .int 1), (3, .int v3)]) (pcJ := 45) rfl L rfl (by decide) rfl rfl rfl (fun lv L => ?_)
          refine j_V.inL xd44_M xd44_45 (i := 3) (kl' := [(0, .ref 282), (1, .int v1), (2, .int 1), (3, .int (v3 + 1))]) (pcJ := 48) L rfl rfl rfl rfl (fun lv L => ?_)
          refine j_V.gto xd44_M xd44_48 (t := 4) rfl ?_
          subst ez5
          rw [show (x_passMinute_l4 shu lks rk sta he lkd pk nt len frm tto fit way rid v1 (f + 1) v3 v2 sea row rl bus ph sp ce du ri cm lf pfa pev prs prr mi us pms pmm pmt pst pwa) = _ from ((if_pos c22_0).trans ((if_neg c35_1).trans (rfl)))]
          exact ih _ _ _ _ _ _ _ _ _ _ _ _ _ _ _ _ _ _ _ _ _ _ _ _ (lpN_n e) L K
set_option maxRecDepth 1000000 in
theorem xd44_ok {mi : Int32} {shu : Int32} {bus : Int32} {lks : Int32} {rk : List Int32} {sta : List Int32} {ph : List Int32} {sp : List Int32} {ce : List Int32} {du : List Int32} {he : List Int32} {ri : List Int32} {us : List Int32} {cm : List Int32} {lf : List Int32} {lkd : List Int32} {rl : Int32} {row : List Int32} {sea : List Int32} {pev : Int32} {pk : Int32} {pms : List Int32} {pmm : List Int32} {pmt : List Int32} {pst : List Int32} {pwa : List Int32} {prs : List Int32} {prr : List Int32} {pfa : List Int32} {ns : Int32} {nt : Int32} {cel : Int32} {len : List Int32} {frm : List Int32} {tto : List Int32} {fit : List Int32} {way : List Int32} {rid : List Int32} {x1 : Int32} {d : Nat} {h h0 : J_H} (K : KN h [(282, .inl (7, [.ref 343, .int mi, .int shu, .int bus, .ref 283, .ref 284, .ref 285, .ref 286, .ref 287, .ref 288, .ref 289, .ref 290, .ref 291, .ref 292, .ref 293, .int lks, .ref 294, .ref 295, .ref 298])), (283, .inr (.inl (0, rk))), (284, .inr (.inl (0, sta))), (285, .inr (.inl (0, ph))), (286, .inr (.inl (0, sp))), (287, .inr (.inl (0, ce))), (288, .inr (.inl (0, du))), (289, .inr (.inl (0, he))), (290, .inr (.inl (0, ri))), (291, .inr (.inl (0, us))), (292, .inr (.inl (0, cm))), (293, .inr (.inl (0, lf))), (294, .inr (.inl (0, lkd))), (295, .inl (5, [.ref 296, .int rl, .ref 297])), (296, .inr (.inl (0, row))), (297, .inr (.inl (0, sea))), (298, .inl (3, [.ref 299, .ref 300, .ref 301, .ref 302, .ref 303, .ref 304, .ref 305, .ref 306, .int pev, .int pk])), (299, .inr (.inl (0, pms))), (300, .inr (.inl (0, pmm))), (301, .inr (.inl (0, pmt))), (302, .inr (.inl (0, pst))), (303, .inr (.inl (0, pwa))), (304, .inr (.inl (0, prs))), (305, .inr (.inl (0, prr))), (306, .inr (.inl (0, pfa))), (343, .inl (2, [.int ns, .ref 344, .ref 345, .ref 346, .ref 347, .int nt, .ref 348, .ref 349, .ref 350, .ref 351, .ref 352, .ref 353, .ref 354, .int cel, .ref 355, .ref 356, .ref 357, .ref 358])), (347, .inr (.inl (0, len))), (350, .inr (.inl (0, frm))), (351, .inr (.inl (0, tto))), (355, .inr (.inl (0, fit))), (356, .inr (.inl (0, way))), (357, .inr (.inl (0, rid)))] h0) : j_V jP d 93 0 (lv_args 0 [.ref 282, .int x1]) [] h (fun rv h' => rv = some (.int (x_passMinute mi shu bus lks rk sta ph sp ce du he ri us cm lf lkd rl row sea pev pk pms pmm pmt pst pwa prs prr pfa nt len frm tto fit way rid x1).1) ∧ KN h' [(282, .inl (7, [.ref 343, .int (x_passMinute mi shu bus lks rk sta ph sp ce du he ri us cm lf lkd rl row sea pev pk pms pmm pmt pst pwa prs prr pfa nt len frm tto fit way rid x1).2.2.2.2.2.2.2.2.2.2.2.2.2.2.2.2.1, .int shu, .int (x_passMinute mi shu bus lks rk sta ph sp ce du he ri us cm lf lkd rl row sea pev pk pms pmm pmt pst pwa prs prr pfa nt len frm tto fit way rid x1).2.2.2.2.1, .ref 283, .ref 284, .ref 285, .ref 286, .ref 287, .ref 288, .ref 289, .ref 290, .ref 291, .ref 292, .ref 293, .int lks, .ref 294, .ref 295, .ref 298])), (283, .inr (.inl (0, rk))), (284, .inr (.inl (0, sta))), (285, .inr (.inl (0, (x_passMinute mi shu bus lks rk sta ph sp ce du he ri us cm lf lkd rl row sea pev pk pms pmm pmt pst pwa prs prr pfa nt len frm tto fit way rid x1).2.2.2.2.2.1))), (286, .inr (.inl (0, (x_passMinute mi shu bus lks rk sta ph sp ce du he ri us cm lf lkd rl row sea pev pk pms pmm pmt pst pwa prs prr pfa nt len frm tto fit way rid x1).2.2.2.2.2.2.1))), (287, .inr (.inl (0, (x_passMinute mi shu bus lks rk sta ph sp ce du he ri us cm lf lkd rl row sea pev pk pms pmm pmt pst pwa prs prr pfa nt len frm tto fit way rid x1).2.2.2.2.2.2.2.1))), (288, .inr (.inl (0, (x_passMinute mi shu bus lks rk sta ph sp ce du he ri us cm lf lkd rl row sea pev pk pms pmm pmt pst pwa prs prr pfa nt len frm tto fit way rid x1).2.2.2.2.2.2.2.2.1))), (289, .inr (.inl (0, he))), (290, .inr (.inl (0, (x_passMinute mi shu bus lks rk sta ph sp ce du he ri us cm lf lkd rl row sea pev pk pms pmm pmt pst pwa prs prr pfa nt len frm tto fit way rid x1).2.2.2.2.2.2.2.2.2.1))), (291, .inr (.inl (0, (x_passMinute mi shu bus lks rk sta ph sp ce du he ri us cm lf lkd rl row sea pev pk pms pmm pmt pst pwa prs prr pfa nt len frm tto fit way rid x1).2.2.2.2.2.2.2.2.2.2.2.2.2.2.2.2.2.1))), (292, .inr (.inl (0, (x_passMinute mi shu bus lks rk sta ph sp ce du he ri us cm lf lkd rl row sea pev pk pms pmm pmt pst pwa prs prr pfa nt len frm tto fit way rid x1).2.2.2.2.2.2.2.2.2.2.1))), (293, .inr (.inl (0, (x_passMinute mi shu bus lks rk sta ph sp ce du he ri us cm lf lkd rl row sea pev pk pms pmm pmt pst pwa prs prr pfa nt len frm tto fit way rid x1).2.2.2.2.2.2.2.2.2.2.2.1))), (294, .inr (.inl (0, lkd))), (295, .inl (5, [.ref 296, .int (x_passMinute mi shu bus lks rk sta ph sp ce du he ri us cm lf lkd rl row sea pev pk pms pmm pmt pst pwa prs prr pfa nt len frm tto fit way rid x1).2.2.2.1, .ref 297])), (296, .inr (.inl (0, (x_passMinute mi shu bus lks rk sta ph sp ce du he ri us cm lf lkd rl row sea pev pk pms pmm pmt pst pwa prs prr pfa nt len frm tto fit way rid x1).2.2.1))), (297, .inr (.inl (0, (x_passMinute mi shu bus lks rk sta ph sp ce du he ri us cm lf lkd rl row sea pev pk pms pmm pmt pst pwa prs prr pfa nt len frm tto fit way rid x1).2.1))), (298, .inl (3, [.ref 299, .ref 300, .ref 301, .ref 302, .ref 303, .ref 304, .ref 305, .ref 306, .int (x_passMinute mi shu bus lks rk sta ph sp ce du he ri us cm lf lkd rl row sea pev pk pms pmm pmt pst pwa prs prr pfa nt len frm tto fit way rid x1).2.2.2.2.2.2.2.2.2.2.2.2.2.1, .int pk])), (299, .inr (.inl (0, (x_passMinute mi shu bus lks rk sta ph sp ce du he ri us cm lf lkd rl row sea pev pk pms pmm pmt pst pwa prs prr pfa nt len frm tto fit way rid x1).2.2.2.2.2.2.2.2.2.2.2.2.2.2.2.2.2.2.1))), (300, .inr (.inl (0, (x_passMinute mi shu bus lks rk sta ph sp ce du he ri us cm lf lkd rl row sea pev pk pms pmm pmt pst pwa prs prr pfa nt len frm tto fit way rid x1).2.2.2.2.2.2.2.2.2.2.2.2.2.2.2.2.2.2.2.1))), (301, .inr (.inl (0, (x_passMinute mi shu bus lks rk sta ph sp ce du he ri us cm lf lkd rl row sea pev pk pms pmm pmt pst pwa prs prr pfa nt len frm tto fit way rid x1).2.2.2.2.2.2.2.2.2.2.2.2.2.2.2.2.2.2.2.2.1))), (302, .inr (.inl (0, (x_passMinute mi shu bus lks rk sta ph sp ce du he ri us cm lf lkd rl row sea pev pk pms pmm pmt pst pwa prs prr pfa nt len frm tto fit way rid x1).2.2.2.2.2.2.2.2.2.2.2.2.2.2.2.2.2.2.2.2.2.1))), (303, .inr (.inl (0, (x_passMinute mi shu bus lks rk sta ph sp ce du he ri us cm lf lkd rl row sea pev pk pms pmm pmt pst pwa prs prr pfa nt len frm tto fit way rid x1).2.2.2.2.2.2.2.2.2.2.2.2.2.2.2.2.2.2.2.2.2.2))), (304, .inr (.inl (0, (x_passMinute mi shu bus lks rk sta ph sp ce du he ri us cm lf lkd rl row sea pev pk pms pmm pmt pst pwa prs prr pfa nt len frm tto fit way rid x1).2.2.2.2.2.2.2.2.2.2.2.2.2.2.1))), (305, .inr (.inl (0, (x_passMinute mi shu bus lks rk sta ph sp ce du he ri us cm lf lkd rl row sea pev pk pms pmm pmt pst pwa prs prr pfa nt len frm tto fit way rid x1).2.2.2.2.2.2.2.2.2.2.2.2.2.2.2.1))), (306, .inr (.inl (0, (x_passMinute mi shu bus lks rk sta ph sp ce du he ri us cm lf lkd rl row sea pev pk pms pmm pmt pst pwa prs prr pfa nt len frm tto fit way rid x1).2.2.2.2.2.2.2.2.2.2.2.2.1))), (343, .inl (2, [.int ns, .ref 344, .ref 345, .ref 346, .ref 347, .int nt, .ref 348, .ref 349, .ref 350, .ref 351, .ref 352, .ref 353, .ref 354, .int cel, .ref 355, .ref 356, .ref 357, .ref 358])), (347, .inr (.inl (0, len))), (350, .inr (.inl (0, frm))), (351, .inr (.inl (0, tto))), (355, .inr (.inl (0, fit))), (356, .inr (.inl (0, way))), (357, .inr (.inl (0, rid)))] h0) := by
  show j_V jP d 93 0 [(0, .ref 282), (1, .int x1)] [] h _
  obtain ⟨lv, elv, L⟩ : ∃ lv, lv = [(0, .ref 282), (1, .int x1)] ∧ LK lv [(0, .ref 282), (1, .int x1)] := ⟨_, rfl, LK.rf⟩
  rw [← elv]
  clear elv
  refine j_V.one xd44_M xd44_0 (by decide) (pcJ := 1) (stJ := [.int 0]) rfl ?_
  refine j_V.stL xd44_M xd44_1 rfl (i := 2) (kd := 0) (kl' := [(0, .ref 282), (1, .int x1), (2, .int 0)]) (pcJ := 2) rfl L rfl (by decide) rfl rfl rfl (fun lv L => ?_)
  refine j_V.one xd44_M xd44_2 (by decide) (pcJ := 3) (stJ := [.int 0]) rfl ?_
  refine j_V.stL xd44_M xd44_3 rfl (i := 3) (kd := 0) (kl' := [(0, .ref 282), (1, .int x1), (2, .int 0), (3, .int 0)]) (pcJ := 4) rfl L rfl (by decide) rfl rfl rfl (fun lv L => ?_)
  rw [show (x_passMinute mi shu bus lks rk sta ph sp ce du he ri us cm lf lkd rl row sea pev pk pms pmm pmt pst pwa prs prr pfa nt len frm tto fit way rid x1) = _ from (rfl)]
  exact xd44_ok_l4 _ _ _ _ _ _ _ _ _ _ _ _ _ _ _ _ _ _ _ _ _ _ _ _ _ rfl L K

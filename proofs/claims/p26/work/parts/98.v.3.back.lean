/-! states copied (b), by wip/px/gen_y1.py -/
set_option maxRecDepth 100000 in
theorem yb0p_M : j_meth jP 28 = some (yX3_copyFrom, cX3_copyFrom, 2, none, 1, false, 3) := rfl
set_option maxRecDepth 100000 in
theorem yb0p_0 : j_code jP 28 0 = some (.aload_n 0) := rfl
set_option maxRecDepth 100000 in
theorem yb0p_1 : j_code jP 28 1 = some (.getfield 36) := rfl
set_option maxRecDepth 100000 in
theorem yb0p_4 : j_code jP 28 4 = some (.ifCond .ne 4) := rfl
set_option maxRecDepth 100000 in
theorem yb0p_7 : j_code jP 28 7 = some (.return_) := rfl
set_option maxRecDepth 100000 in
theorem yb0p_8 : j_code jP 28 8 = some (.aload_n 1) := rfl
set_option maxRecDepth 100000 in
theorem yb0p_9 : j_code jP 28 9 = some (.getfield 9) := rfl
set_option maxRecDepth 100000 in
theorem yb0p_12 : j_code jP 28 12 = some (.iconst 0) := rfl
set_option maxRecDepth 100000 in
theorem yb0p_13 : j_code jP 28 13 = some (.aload_n 0) := rfl
set_option maxRecDepth 100000 in
theorem yb0p_14 : j_code jP 28 14 = some (.getfield 9) := rfl
set_option maxRecDepth 100000 in
theorem yb0p_17 : j_code jP 28 17 = some (.iconst 0) := rfl
set_option maxRecDepth 100000 in
theorem yb0p_18 : j_code jP 28 18 = some (.aload_n 0) := rfl
set_option maxRecDepth 100000 in
theorem yb0p_19 : j_code jP 28 19 = some (.getfield 9) := rfl
set_option maxRecDepth 100000 in
theorem yb0p_22 : j_code jP 28 22 = some (.arraylength) := rfl
set_option maxRecDepth 100000 in
theorem yb0p_23 : j_code jP 28 23 = some (.invokestatic 50) := rfl
set_option maxRecDepth 100000 in
theorem yb0p_26 : j_code jP 28 26 = some (.aload_n 1) := rfl
set_option maxRecDepth 100000 in
theorem yb0p_27 : j_code jP 28 27 = some (.getfield 15) := rfl
set_option maxRecDepth 100000 in
theorem yb0p_30 : j_code jP 28 30 = some (.iconst 0) := rfl
set_option maxRecDepth 100000 in
theorem yb0p_31 : j_code jP 28 31 = some (.aload_n 0) := rfl
set_option maxRecDepth 100000 in
theorem yb0p_32 : j_code jP 28 32 = some (.getfield 15) := rfl
set_option maxRecDepth 100000 in
theorem yb0p_35 : j_code jP 28 35 = some (.iconst 0) := rfl
set_option maxRecDepth 100000 in
theorem yb0p_36 : j_code jP 28 36 = some (.aload_n 0) := rfl
set_option maxRecDepth 100000 in
theorem yb0p_37 : j_code jP 28 37 = some (.getfield 15) := rfl
set_option maxRecDepth 100000 in
theorem yb0p_40 : j_code jP 28 40 = some (.arraylength) := rfl
set_option maxRecDepth 100000 in
theorem yb0p_41 : j_code jP 28 41 = some (.invokestatic 50) := rfl
set_option maxRecDepth 100000 in
theorem yb0p_44 : j_code jP 28 44 = some (.aload_n 1) := rfl
set_option maxRecDepth 100000 in
theorem yb0p_45 : j_code jP 28 45 = some (.getfield 18) := rfl
set_option maxRecDepth 100000 in
theorem yb0p_48 : j_code jP 28 48 = some (.iconst 0) := rfl
set_option maxRecDepth 100000 in
theorem yb0p_49 : j_code jP 28 49 = some (.aload_n 0) := rfl
set_option maxRecDepth 100000 in
theorem yb0p_50 : j_code jP 28 50 = some (.getfield 18) := rfl
set_option maxRecDepth 100000 in
theorem yb0p_53 : j_code jP 28 53 = some (.iconst 0) := rfl
set_option maxRecDepth 100000 in
theorem yb0p_54 : j_code jP 28 54 = some (.aload_n 0) := rfl
set_option maxRecDepth 100000 in
theorem yb0p_55 : j_code jP 28 55 = some (.getfield 18) := rfl
set_option maxRecDepth 100000 in
theorem yb0p_58 : j_code jP 28 58 = some (.arraylength) := rfl
set_option maxRecDepth 100000 in
theorem yb0p_59 : j_code jP 28 59 = some (.invokestatic 50) := rfl
set_option maxRecDepth 100000 in
theorem yb0p_62 : j_code jP 28 62 = some (.aload_n 1) := rfl
set_option maxRecDepth 100000 in
theorem yb0p_63 : j_code jP 28 63 = some (.getfield 21) := rfl
set_option maxRecDepth 100000 in
theorem yb0p_66 : j_code jP 28 66 = some (.iconst 0) := rfl
set_option maxRecDepth 100000 in
theorem yb0p_67 : j_code jP 28 67 = some (.aload_n 0) := rfl
set_option maxRecDepth 100000 in
theorem yb0p_68 : j_code jP 28 68 = some (.getfield 21) := rfl
set_option maxRecDepth 100000 in
theorem yb0p_71 : j_code jP 28 71 = some (.iconst 0) := rfl
set_option maxRecDepth 100000 in
theorem yb0p_72 : j_code jP 28 72 = some (.aload_n 0) := rfl
set_option maxRecDepth 100000 in
theorem yb0p_73 : j_code jP 28 73 = some (.getfield 21) := rfl
set_option maxRecDepth 100000 in
theorem yb0p_76 : j_code jP 28 76 = some (.arraylength) := rfl
set_option maxRecDepth 100000 in
theorem yb0p_77 : j_code jP 28 77 = some (.invokestatic 50) := rfl
set_option maxRecDepth 100000 in
theorem yb0p_80 : j_code jP 28 80 = some (.aload_n 1) := rfl
set_option maxRecDepth 100000 in
theorem yb0p_81 : j_code jP 28 81 = some (.getfield 24) := rfl
set_option maxRecDepth 100000 in
theorem yb0p_84 : j_code jP 28 84 = some (.iconst 0) := rfl
set_option maxRecDepth 100000 in
theorem yb0p_85 : j_code jP 28 85 = some (.aload_n 0) := rfl
set_option maxRecDepth 100000 in
theorem yb0p_86 : j_code jP 28 86 = some (.getfield 24) := rfl
set_option maxRecDepth 100000 in
theorem yb0p_89 : j_code jP 28 89 = some (.iconst 0) := rfl
set_option maxRecDepth 100000 in
theorem yb0p_90 : j_code jP 28 90 = some (.aload_n 0) := rfl
set_option maxRecDepth 100000 in
theorem yb0p_91 : j_code jP 28 91 = some (.getfield 24) := rfl
set_option maxRecDepth 100000 in
theorem yb0p_94 : j_code jP 28 94 = some (.arraylength) := rfl
set_option maxRecDepth 100000 in
theorem yb0p_95 : j_code jP 28 95 = some (.invokestatic 50) := rfl
set_option maxRecDepth 100000 in
theorem yb0p_98 : j_code jP 28 98 = some (.aload_n 1) := rfl
set_option maxRecDepth 100000 in
theorem yb0p_99 : j_code jP 28 99 = some (.getfield 27) := rfl
set_option maxRecDepth 100000 in
theorem yb0p_102 : j_code jP 28 102 = some (.iconst 0) := rfl
set_option maxRecDepth 100000 in
theorem yb0p_103 : j_code jP 28 103 = some (.aload_n 0) := rfl
set_option maxRecDepth 100000 in
theorem yb0p_104 : j_code jP 28 104 = some (.getfield 27) := rfl
set_option maxRecDepth 100000 in
theorem yb0p_107 : j_code jP 28 107 = some (.iconst 0) := rfl
set_option maxRecDepth 100000 in
theorem yb0p_108 : j_code jP 28 108 = some (.aload_n 0) := rfl
set_option maxRecDepth 100000 in
theorem yb0p_109 : j_code jP 28 109 = some (.getfield 27) := rfl
set_option maxRecDepth 100000 in
theorem yb0p_112 : j_code jP 28 112 = some (.arraylength) := rfl
set_option maxRecDepth 100000 in
theorem yb0p_113 : j_code jP 28 113 = some (.invokestatic 50) := rfl
set_option maxRecDepth 100000 in
theorem yb0p_116 : j_code jP 28 116 = some (.aload_n 1) := rfl
set_option maxRecDepth 100000 in
theorem yb0p_117 : j_code jP 28 117 = some (.getfield 30) := rfl
set_option maxRecDepth 100000 in
theorem yb0p_120 : j_code jP 28 120 = some (.iconst 0) := rfl
set_option maxRecDepth 100000 in
theorem yb0p_121 : j_code jP 28 121 = some (.aload_n 0) := rfl
set_option maxRecDepth 100000 in
theorem yb0p_122 : j_code jP 28 122 = some (.getfield 30) := rfl
set_option maxRecDepth 100000 in
theorem yb0p_125 : j_code jP 28 125 = some (.iconst 0) := rfl
set_option maxRecDepth 100000 in
theorem yb0p_126 : j_code jP 28 126 = some (.aload_n 0) := rfl
set_option maxRecDepth 100000 in
theorem yb0p_127 : j_code jP 28 127 = some (.getfield 30) := rfl
set_option maxRecDepth 100000 in
theorem yb0p_130 : j_code jP 28 130 = some (.arraylength) := rfl
set_option maxRecDepth 100000 in
theorem yb0p_131 : j_code jP 28 131 = some (.invokestatic 50) := rfl
set_option maxRecDepth 100000 in
theorem yb0p_134 : j_code jP 28 134 = some (.aload_n 1) := rfl
set_option maxRecDepth 100000 in
theorem yb0p_135 : j_code jP 28 135 = some (.getfield 33) := rfl
set_option maxRecDepth 100000 in
theorem yb0p_138 : j_code jP 28 138 = some (.iconst 0) := rfl
set_option maxRecDepth 100000 in
theorem yb0p_139 : j_code jP 28 139 = some (.aload_n 0) := rfl
set_option maxRecDepth 100000 in
theorem yb0p_140 : j_code jP 28 140 = some (.getfield 33) := rfl
set_option maxRecDepth 100000 in
theorem yb0p_143 : j_code jP 28 143 = some (.iconst 0) := rfl
set_option maxRecDepth 100000 in
theorem yb0p_144 : j_code jP 28 144 = some (.aload_n 0) := rfl
set_option maxRecDepth 100000 in
theorem yb0p_145 : j_code jP 28 145 = some (.getfield 33) := rfl
set_option maxRecDepth 100000 in
theorem yb0p_148 : j_code jP 28 148 = some (.arraylength) := rfl
set_option maxRecDepth 100000 in
theorem yb0p_149 : j_code jP 28 149 = some (.invokestatic 50) := rfl
set_option maxRecDepth 100000 in
theorem yb0p_152 : j_code jP 28 152 = some (.aload_n 0) := rfl
set_option maxRecDepth 100000 in
theorem yb0p_153 : j_code jP 28 153 = some (.aload_n 1) := rfl
set_option maxRecDepth 100000 in
theorem yb0p_154 : j_code jP 28 154 = some (.getfield 46) := rfl
set_option maxRecDepth 100000 in
theorem yb0p_157 : j_code jP 28 157 = some (.putfield 46) := rfl
set_option maxRecDepth 100000 in
theorem yb0p_160 : j_code jP 28 160 = some (.return_) := rfl
set_option maxRecDepth 1000000 in
theorem yb0p_k8 {pev : Int32} {pms : List Int32} {pmm : List Int32} {pevs : Int32} {pmss : List Int32} {pmms : List Int32} {d : Nat} {lv : J_L} {h h0 : J_H} {Q : Option Value → J_H → Prop} (L : LK lv [(0, .ref 20), (1, .ref 47)]) (K : KN h [(20, .inl (3, [.ref 21, .ref 22, .ref 23, .ref 24, .ref 25, .ref 26, .ref 27, .ref 28, .int pev, .int 1])), (21, .inr (.inl (0, pms))), (22, .inr (.inl (0, pmm))), (47, .inl (3, [.ref 48, .ref 49, .ref 50, .ref 51, .ref 52, .ref 53, .ref 54, .ref 55, .int pevs, .int 1])), (48, .inr (.inl (0, pmss))), (49, .inr (.inl (0, pmms)))] h0) (kk : ∀ lv h, LK lv [(0, .ref 20), (1, .ref 47)] → KN h [(20, .inl (3, [.ref 21, .ref 22, .ref 23, .ref 24, .ref 25, .ref 26, .ref 27, .ref 28, .int pev, .int 1])), (21, .inr (.inl (0, (aC (nI pms.length) pmss pms)))), (22, .inr (.inl (0, (aC (nI pmm.length) pmms pmm)))), (47, .inl (3, [.ref 48, .ref 49, .ref 50, .ref 51, .ref 52, .ref 53, .ref 54, .ref 55, .int pevs, .int 1])), (48, .inr (.inl (0, pmss))), (49, .inr (.inl (0, pmms)))] h0 → j_V jP d 28 44 lv [] h Q) : j_V jP d 28 8 lv [] h Q := by
  refine j_V.ldL yb0p_M yb0p_8 rfl (i := 1) (kd := 2) (v := .ref 47) (pcJ := 9) rfl L rfl rfl rfl ?_
  refine j_V.getK yb0p_M yb0p_9 (ci := 3) (j := 0) rfl K rfl rfl ?_
  refine j_V.one yb0p_M yb0p_12 (by decide) (pcJ := 13) (stJ := [.int 0, .ref 48]) rfl ?_
  refine j_V.ldL yb0p_M yb0p_13 rfl (i := 0) (kd := 2) (v := .ref 20) (pcJ := 14) rfl L rfl rfl rfl ?_
  refine j_V.getK yb0p_M yb0p_14 (ci := 3) (j := 0) rfl K rfl rfl ?_
  refine j_V.one yb0p_M yb0p_17 (by decide) (pcJ := 18) (stJ := [.int 0, .ref 21, .int 0, .ref 48]) rfl ?_
  refine j_V.ldL yb0p_M yb0p_18 rfl (i := 0) (kd := 2) (v := .ref 20) (pcJ := 19) rfl L rfl rfl rfl ?_
  refine j_V.getK yb0p_M yb0p_19 (ci := 3) (j := 0) rfl K rfl rfl ?_
  refine j_V.alnA yb0p_M yb0p_22 K rfl ?_
  refine j_V.acp yb0p_M yb0p_23 rfl rfl K rfl rfl rfl (fun h K => ?_)
  refine j_V.ldL yb0p_M yb0p_26 rfl (i := 1) (kd := 2) (v := .ref 47) (pcJ := 27) rfl L rfl rfl rfl ?_
  refine j_V.getK yb0p_M yb0p_27 (ci := 3) (j := 1) rfl K rfl rfl ?_
  refine j_V.one yb0p_M yb0p_30 (by decide) (pcJ := 31) (stJ := [.int 0, .ref 49]) rfl ?_
  refine j_V.ldL yb0p_M yb0p_31 rfl (i := 0) (kd := 2) (v := .ref 20) (pcJ := 32) rfl L rfl rfl rfl ?_
  refine j_V.getK yb0p_M yb0p_32 (ci := 3) (j := 1) rfl K rfl rfl ?_
  refine j_V.one yb0p_M yb0p_35 (by decide) (pcJ := 36) (stJ := [.int 0, .ref 22, .int 0, .ref 49]) rfl ?_
  refine j_V.ldL yb0p_M yb0p_36 rfl (i := 0) (kd := 2) (v := .ref 20) (pcJ := 37) rfl L rfl rfl rfl ?_
  refine j_V.getK yb0p_M yb0p_37 (ci := 3) (j := 1) rfl K rfl rfl ?_
  refine j_V.alnA yb0p_M yb0p_40 K rfl ?_
  refine j_V.acp yb0p_M yb0p_41 rfl rfl K rfl rfl rfl (fun h K => ?_)
  exact kk _ _ L K
set_option maxRecDepth 1000000 in
theorem yb0p_k44 {pev : Int32} {pmt : List Int32} {pst : List Int32} {pevs : Int32} {pmts : List Int32} {psts : List Int32} {d : Nat} {lv : J_L} {h h0 : J_H} {Q : Option Value → J_H → Prop} (L : LK lv [(0, .ref 20), (1, .ref 47)]) (K : KN h [(20, .inl (3, [.ref 21, .ref 22, .ref 23, .ref 24, .ref 25, .ref 26, .ref 27, .ref 28, .int pev, .int 1])), (23, .inr (.inl (0, pmt))), (24, .inr (.inl (0, pst))), (47, .inl (3, [.ref 48, .ref 49, .ref 50, .ref 51, .ref 52, .ref 53, .ref 54, .ref 55, .int pevs, .int 1])), (50, .inr (.inl (0, pmts))), (51, .inr (.inl (0, psts)))] h0) (kk : ∀ lv h, LK lv [(0, .ref 20), (1, .ref 47)] → KN h [(20, .inl (3, [.ref 21, .ref 22, .ref 23, .ref 24, .ref 25, .ref 26, .ref 27, .ref 28, .int pev, .int 1])), (23, .inr (.inl (0, (aC (nI pmt.length) pmts pmt)))), (24, .inr (.inl (0, (aC (nI pst.length) psts pst)))), (47, .inl (3, [.ref 48, .ref 49, .ref 50, .ref 51, .ref 52, .ref 53, .ref 54, .ref 55, .int pevs, .int 1])), (50, .inr (.inl (0, pmts))), (51, .inr (.inl (0, psts)))] h0 → j_V jP d 28 80 lv [] h Q) : j_V jP d 28 44 lv [] h Q := by
  refine j_V.ldL yb0p_M yb0p_44 rfl (i := 1) (kd := 2) (v := .ref 47) (pcJ := 45) rfl L rfl rfl rfl ?_
  refine j_V.getK yb0p_M yb0p_45 (ci := 3) (j := 2) rfl K rfl rfl ?_
  refine j_V.one yb0p_M yb0p_48 (by decide) (pcJ := 49) (stJ := [.int 0, .ref 50]) rfl ?_
  refine j_V.ldL yb0p_M yb0p_49 rfl (i := 0) (kd := 2) (v := .ref 20) (pcJ := 50) rfl L rfl rfl rfl ?_
  refine j_V.getK yb0p_M yb0p_50 (ci := 3) (j := 2) rfl K rfl rfl ?_
  refine j_V.one yb0p_M yb0p_53 (by decide) (pcJ := 54) (stJ := [.int 0, .ref 23, .int 0, .ref 50]) rfl ?_
  refine j_V.ldL yb0p_M yb0p_54 rfl (i := 0) (kd := 2) (v := .ref 20) (pcJ := 55) rfl L rfl rfl rfl ?_
  refine j_V.getK yb0p_M yb0p_55 (ci := 3) (j := 2) rfl K rfl rfl ?_
  refine j_V.alnA yb0p_M yb0p_58 K rfl ?_
  refine j_V.acp yb0p_M yb0p_59 rfl rfl K rfl rfl rfl (fun h K => ?_)
  refine j_V.ldL yb0p_M yb0p_62 rfl (i := 1) (kd := 2) (v := .ref 47) (pcJ := 63) rfl L rfl rfl rfl ?_
  refine j_V.getK yb0p_M yb0p_63 (ci := 3) (j := 3) rfl K rfl rfl ?_
  refine j_V.one yb0p_M yb0p_66 (by decide) (pcJ := 67) (stJ := [.int 0, .ref 51]) rfl ?_
  refine j_V.ldL yb0p_M yb0p_67 rfl (i := 0) (kd := 2) (v := .ref 20) (pcJ := 68) rfl L rfl rfl rfl ?_
  refine j_V.getK yb0p_M yb0p_68 (ci := 3) (j := 3) rfl K rfl rfl ?_
  refine j_V.one yb0p_M yb0p_71 (by decide) (pcJ := 72) (stJ := [.int 0, .ref 24, .int 0, .ref 51]) rfl ?_
  refine j_V.ldL yb0p_M yb0p_72 rfl (i := 0) (kd := 2) (v := .ref 20) (pcJ := 73) rfl L rfl rfl rfl ?_
  refine j_V.getK yb0p_M yb0p_73 (ci := 3) (j := 3) rfl K rfl rfl ?_
  refine j_V.alnA yb0p_M yb0p_76 K rfl ?_
  refine j_V.acp yb0p_M yb0p_77 rfl rfl K rfl rfl rfl (fun h K => ?_)
  exact kk _ _ L K
set_option maxRecDepth 1000000 in
theorem yb0p_k80 {pev : Int32} {pwa : List Int32} {prs : List Int32} {pevs : Int32} {pwas : List Int32} {prss : List Int32} {d : Nat} {lv : J_L} {h h0 : J_H} {Q : Option Value → J_H → Prop} (L : LK lv [(0, .ref 20), (1, .ref 47)]) (K : KN h [(20, .inl (3, [.ref 21, .ref 22, .ref 23, .ref 24, .ref 25, .ref 26, .ref 27, .ref 28, .int pev, .int 1])), (25, .inr (.inl (0, pwa))), (26, .inr (.inl (0, prs))), (47, .inl (3, [.ref 48, .ref 49, .ref 50, .ref 51, .ref 52, .ref 53, .ref 54, .ref 55, .int pevs, .int 1])), (52, .inr (.inl (0, pwas))), (53, .inr (.inl (0, prss)))] h0) (kk : ∀ lv h, LK lv [(0, .ref 20), (1, .ref 47)] → KN h [(20, .inl (3, [.ref 21, .ref 22, .ref 23, .ref 24, .ref 25, .ref 26, .ref 27, .ref 28, .int pev, .int 1])), (25, .inr (.inl (0, (aC (nI pwa.length) pwas pwa)))), (26, .inr (.inl (0, (aC (nI prs.length) prss prs)))), (47, .inl (3, [.ref 48, .ref 49, .ref 50, .ref 51, .ref 52, .ref 53, .ref 54, .ref 55, .int pevs, .int 1])), (52, .inr (.inl (0, pwas))), (53, .inr (.inl (0, prss)))] h0 → j_V jP d 28 116 lv [] h Q) : j_V jP d 28 80 lv [] h Q := by
  refine j_V.ldL yb0p_M yb0p_80 rfl (i := 1) (kd := 2) (v := .ref 47) (pcJ := 81) rfl L rfl rfl rfl ?_
  refine j_V.getK yb0p_M yb0p_81 (ci := 3) (j := 4) rfl K rfl rfl ?_
  refine j_V.one yb0p_M yb0p_84 (by decide) (pcJ := 85) (stJ := [.int 0, .ref 52]) rfl ?_
  refine j_V.ldL yb0p_M yb0p_85 rfl (i := 0) (kd := 2) (v := .ref 20) (pcJ := 86) rfl L rfl rfl rfl ?_
  refine j_V.getK yb0p_M yb0p_86 (ci := 3) (j := 4) rfl K rfl rfl ?_
  refine j_V.one yb0p_M yb0p_89 (by decide) (pcJ := 90) (stJ := [.int 0, .ref 25, .int 0, .ref 52]) rfl ?_
  refine j_V.ldL yb0p_M yb0p_90 rfl (i := 0) (kd := 2) (v := .ref 20) (pcJ := 91) rfl L rfl rfl rfl ?_
  refine j_V.getK yb0p_M yb0p_91 (ci := 3) (j := 4) rfl K rfl rfl ?_
  refine j_V.alnA yb0p_M yb0p_94 K rfl ?_
  refine j_V.acp yb0p_M yb0p_95 rfl rfl K rfl rfl rfl (fun h K => ?_)
  refine j_V.ldL yb0p_M yb0p_98 rfl (i := 1) (kd := 2) (v := .ref 47) (pcJ := 99) rfl L rfl rfl rfl ?_
  refine j_V.getK yb0p_M yb0p_99 (ci := 3) (j := 5) rfl K rfl rfl ?_
  refine j_V.one yb0p_M yb0p_102 (by decide) (pcJ := 103) (stJ := [.int 0, .ref 53]) rfl ?_
  refine j_V.ldL yb0p_M yb0p_103 rfl (i := 0) (kd := 2) (v := .ref 20) (pcJ := 104) rfl L rfl rfl rfl ?_
  refine j_V.getK yb0p_M yb0p_104 (ci := 3) (j := 5) rfl K rfl rfl ?_
  refine j_V.one yb0p_M yb0p_107 (by decide) (pcJ := 108) (stJ := [.int 0, .ref 26, .int 0, .ref 53]) rfl ?_
  refine j_V.ldL yb0p_M yb0p_108 rfl (i := 0) (kd := 2) (v := .ref 20) (pcJ := 109) rfl L rfl rfl rfl ?_
  refine j_V.getK yb0p_M yb0p_109 (ci := 3) (j := 5) rfl K rfl rfl ?_
  refine j_V.alnA yb0p_M yb0p_112 K rfl ?_
  refine j_V.acp yb0p_M yb0p_113 rfl rfl K rfl rfl rfl (fun h K => ?_)
  exact kk _ _ L K
set_option maxRecDepth 1000000 in
theorem yb0p_k116 {pev : Int32} {prr : List Int32} {pfa : List Int32} {pevs : Int32} {prrs : List Int32} {pfas : List Int32} {d : Nat} {lv : J_L} {h h0 : J_H} {Q : Option Value → J_H → Prop} (L : LK lv [(0, .ref 20), (1, .ref 47)]) (K : KN h [(20, .inl (3, [.ref 21, .ref 22, .ref 23, .ref 24, .ref 25, .ref 26, .ref 27, .ref 28, .int pev, .int 1])), (27, .inr (.inl (0, prr))), (28, .inr (.inl (0, pfa))), (47, .inl (3, [.ref 48, .ref 49, .ref 50, .ref 51, .ref 52, .ref 53, .ref 54, .ref 55, .int pevs, .int 1])), (54, .inr (.inl (0, prrs))), (55, .inr (.inl (0, pfas)))] h0) (kk : ∀ lv h, LK lv [(0, .ref 20), (1, .ref 47)] → KN h [(20, .inl (3, [.ref 21, .ref 22, .ref 23, .ref 24, .ref 25, .ref 26, .ref 27, .ref 28, .int pev, .int 1])), (27, .inr (.inl (0, (aC (nI prr.length) prrs prr)))), (28, .inr (.inl (0, (aC (nI pfa.length) pfas pfa)))), (47, .inl (3, [.ref 48, .ref 49, .ref 50, .ref 51, .ref 52, .ref 53, .ref 54, .ref 55, .int pevs, .int 1])), (54, .inr (.inl (0, prrs))), (55, .inr (.inl (0, pfas)))] h0 → j_V jP d 28 152 lv [] h Q) : j_V jP d 28 116 lv [] h Q := by
  refine j_V.ldL yb0p_M yb0p_116 rfl (i := 1) (kd := 2) (v := .ref 47) (pcJ := 117) rfl L rfl rfl rfl ?_
  refine j_V.getK yb0p_M yb0p_117 (ci := 3) (j := 6) rfl K rfl rfl ?_
  refine j_V.one yb0p_M yb0p_120 (by decide) (pcJ := 121) (stJ := [.int 0, .ref 54]) rfl ?_
  refine j_V.ldL yb0p_M yb0p_121 rfl (i := 0) (kd := 2) (v := .ref 20) (pcJ := 122) rfl L rfl rfl rfl ?_
  refine j_V.getK yb0p_M yb0p_122 (ci := 3) (j := 6) rfl K rfl rfl ?_
  refine j_V.one yb0p_M yb0p_125 (by decide) (pcJ := 126) (stJ := [.int 0, .ref 27, .int 0, .ref 54]) rfl ?_
  refine j_V.ldL yb0p_M yb0p_126 rfl (i := 0) (kd := 2) (v := .ref 20) (pcJ := 127) rfl L rfl rfl rfl ?_
  refine j_V.getK yb0p_M yb0p_127 (ci := 3) (j := 6) rfl K rfl rfl ?_
  refine j_V.alnA yb0p_M yb0p_130 K rfl ?_
  refine j_V.acp yb0p_M yb0p_131 rfl rfl K rfl rfl rfl (fun h K => ?_)
  refine j_V.ldL yb0p_M yb0p_134 rfl (i := 1) (kd := 2) (v := .ref 47) (pcJ := 135) rfl L rfl rfl rfl ?_
  refine j_V.getK yb0p_M yb0p_135 (ci := 3) (j := 7) rfl K rfl rfl ?_
  refine j_V.one yb0p_M yb0p_138 (by decide) (pcJ := 139) (stJ := [.int 0, .ref 55]) rfl ?_
  refine j_V.ldL yb0p_M yb0p_139 rfl (i := 0) (kd := 2) (v := .ref 20) (pcJ := 140) rfl L rfl rfl rfl ?_
  refine j_V.getK yb0p_M yb0p_140 (ci := 3) (j := 7) rfl K rfl rfl ?_
  refine j_V.one yb0p_M yb0p_143 (by decide) (pcJ := 144) (stJ := [.int 0, .ref 28, .int 0, .ref 55]) rfl ?_
  refine j_V.ldL yb0p_M yb0p_144 rfl (i := 0) (kd := 2) (v := .ref 20) (pcJ := 145) rfl L rfl rfl rfl ?_
  refine j_V.getK yb0p_M yb0p_145 (ci := 3) (j := 7) rfl K rfl rfl ?_
  refine j_V.alnA yb0p_M yb0p_148 K rfl ?_
  refine j_V.acp yb0p_M yb0p_149 rfl rfl K rfl rfl rfl (fun h K => ?_)
  exact kk _ _ L K
set_option maxRecDepth 1000000 in
theorem yb0p_ok {pev : Int32} {pms : List Int32} {pmm : List Int32} {pmt : List Int32} {pst : List Int32} {pwa : List Int32} {prs : List Int32} {prr : List Int32} {pfa : List Int32} {pevs : Int32} {pmss : List Int32} {pmms : List Int32} {pmts : List Int32} {psts : List Int32} {pwas : List Int32} {prss : List Int32} {prrs : List Int32} {pfas : List Int32} {d : Nat} {h h0 : J_H} (K : KN h [(20, .inl (3, [.ref 21, .ref 22, .ref 23, .ref 24, .ref 25, .ref 26, .ref 27, .ref 28, .int pev, .int 1])), (21, .inr (.inl (0, pms))), (22, .inr (.inl (0, pmm))), (23, .inr (.inl (0, pmt))), (24, .inr (.inl (0, pst))), (25, .inr (.inl (0, pwa))), (26, .inr (.inl (0, prs))), (27, .inr (.inl (0, prr))), (28, .inr (.inl (0, pfa))), (47, .inl (3, [.ref 48, .ref 49, .ref 50, .ref 51, .ref 52, .ref 53, .ref 54, .ref 55, .int pevs, .int 1])), (48, .inr (.inl (0, pmss))), (49, .inr (.inl (0, pmms))), (50, .inr (.inl (0, pmts))), (51, .inr (.inl (0, psts))), (52, .inr (.inl (0, pwas))), (53, .inr (.inl (0, prss))), (54, .inr (.inl (0, prrs))), (55, .inr (.inl (0, pfas)))] h0) : j_V jP d 28 0 (lv_args 0 [.ref 20, .ref 47]) [] h (fun rv h' => rv = none ∧ KN h' [(20, .inl (3, [.ref 21, .ref 22, .ref 23, .ref 24, .ref 25, .ref 26, .ref 27, .ref 28, .int pevs, .int 1])), (21, .inr (.inl (0, (aC (nI pms.length) pmss pms)))), (22, .inr (.inl (0, (aC (nI pmm.length) pmms pmm)))), (23, .inr (.inl (0, (aC (nI pmt.length) pmts pmt)))), (24, .inr (.inl (0, (aC (nI pst.length) psts pst)))), (25, .inr (.inl (0, (aC (nI pwa.length) pwas pwa)))), (26, .inr (.inl (0, (aC (nI prs.length) prss prs)))), (27, .inr (.inl (0, (aC (nI prr.length) prrs prr)))), (28, .inr (.inl (0, (aC (nI pfa.length) pfas pfa)))), (47, .inl (3, [.ref 48, .ref 49, .ref 50, .ref 51, .ref 52, .ref 53, .ref 54, .ref 55, .int pevs, .int 1])), (48, .inr (.inl (0, pmss))), (49, .inr (.inl (0, pmms))), (50, .inr (.inl (0, pmts))), (51, .inr (.inl (0, psts))), (52, .inr (.inl (0, pwas))), (53, .inr (.inl (0, prss))), (54, .inr (.inl (0, prrs))), (55, .inr (.inl (0, pfas)))] h0) := by
  show j_V jP d 28 0 [(0, .ref 20), (1, .ref 47)] [] h _
  obtain ⟨lv, elv, L⟩ : ∃ lv, lv = [(0, .ref 20), (1, .ref 47)] ∧ LK lv [(0, .ref 20), (1, .ref 47)] := ⟨_, rfl, LK.rf⟩
  rw [← elv]
  clear elv
  refine j_V.ldL yb0p_M yb0p_0 rfl (i := 0) (kd := 2) (v := .ref 20) (pcJ := 1) rfl L rfl rfl rfl ?_
  refine j_V.getK yb0p_M yb0p_1 (ci := 3) (j := 9) rfl K rfl rfl ?_
  refine j_V.ifc yb0p_M yb0p_4 (t := 8) rfl (fun c4_0 => ?_) (fun c4_0 => ?_)
  · replace c4_0 : ¬ ((1 : Int32) = 0) := jd_ne c4_0
    refine yb0p_k8 L (K.fi [20, 21, 22, 47, 48, 49] rfl rfl) (fun lv h9 L K9 => ?_)
    have K : KN h9 [(20, .inl (3, [.ref 21, .ref 22, .ref 23, .ref 24, .ref 25, .ref 26, .ref 27, .ref 28, .int pev, .int 1])), (21, .inr (.inl (0, (aC (nI pms.length) pmss pms)))), (22, .inr (.inl (0, (aC (nI pmm.length) pmms pmm)))), (23, .inr (.inl (0, pmt))), (24, .inr (.inl (0, pst))), (25, .inr (.inl (0, pwa))), (26, .inr (.inl (0, prs))), (27, .inr (.inl (0, prr))), (28, .inr (.inl (0, pfa))), (47, .inl (3, [.ref 48, .ref 49, .ref 50, .ref 51, .ref 52, .ref 53, .ref 54, .ref 55, .int pevs, .int 1])), (48, .inr (.inl (0, pmss))), (49, .inr (.inl (0, pmms))), (50, .inr (.inl (0, pmts))), (51, .inr (.inl (0, psts))), (52, .inr (.inl (0, pwas))), (53, .inr (.inl (0, prss))), (54, .inr (.inl (0, prrs))), (55, .inr (.inl (0, pfas)))] h0 := K.mg K9 rfl rfl
    clear K9
    refine yb0p_k44 L (K.fi [20, 23, 24, 47, 50, 51] rfl rfl) (fun lv h9 L K9 => ?_)
    have K : KN h9 [(20, .inl (3, [.ref 21, .ref 22, .ref 23, .ref 24, .ref 25, .ref 26, .ref 27, .ref 28, .int pev, .int 1])), (21, .inr (.inl (0, (aC (nI pms.length) pmss pms)))), (22, .inr (.inl (0, (aC (nI pmm.length) pmms pmm)))), (23, .inr (.inl (0, (aC (nI pmt.length) pmts pmt)))), (24, .inr (.inl (0, (aC (nI pst.length) psts pst)))), (25, .inr (.inl (0, pwa))), (26, .inr (.inl (0, prs))), (27, .inr (.inl (0, prr))), (28, .inr (.inl (0, pfa))), (47, .inl (3, [.ref 48, .ref 49, .ref 50, .ref 51, .ref 52, .ref 53, .ref 54, .ref 55, .int pevs, .int 1])), (48, .inr (.inl (0, pmss))), (49, .inr (.inl (0, pmms))), (50, .inr (.inl (0, pmts))), (51, .inr (.inl (0, psts))), (52, .inr (.inl (0, pwas))), (53, .inr (.inl (0, prss))), (54, .inr (.inl (0, prrs))), (55, .inr (.inl (0, pfas)))] h0 := K.mg K9 rfl rfl
    clear K9
    refine yb0p_k80 L (K.fi [20, 25, 26, 47, 52, 53] rfl rfl) (fun lv h9 L K9 => ?_)
    have K : KN h9 [(20, .inl (3, [.ref 21, .ref 22, .ref 23, .ref 24, .ref 25, .ref 26, .ref 27, .ref 28, .int pev, .int 1])), (21, .inr (.inl (0, (aC (nI pms.length) pmss pms)))), (22, .inr (.inl (0, (aC (nI pmm.length) pmms pmm)))), (23, .inr (.inl (0, (aC (nI pmt.length) pmts pmt)))), (24, .inr (.inl (0, (aC (nI pst.length) psts pst)))), (25, .inr (.inl (0, (aC (nI pwa.length) pwas pwa)))), (26, .inr (.inl (0, (aC (nI prs.length) prss prs)))), (27, .inr (.inl (0, prr))), (28, .inr (.inl (0, pfa))), (47, .inl (3, [.ref 48, .ref 49, .ref 50, .ref 51, .ref 52, .ref 53, .ref 54, .ref 55, .int pevs, .int 1])), (48, .inr (.inl (0, pmss))), (49, .inr (.inl (0, pmms))), (50, .inr (.inl (0, pmts))), (51, .inr (.inl (0, psts))), (52, .inr (.inl (0, pwas))), (53, .inr (.inl (0, prss))), (54, .inr (.inl (0, prrs))), (55, .inr (.inl (0, pfas)))] h0 := K.mg K9 rfl rfl
    clear K9
    refine yb0p_k116 L (K.fi [20, 27, 28, 47, 54, 55] rfl rfl) (fun lv h9 L K9 => ?_)
    have K : KN h9 [(20, .inl (3, [.ref 21, .ref 22, .ref 23, .ref 24, .ref 25, .ref 26, .ref 27, .ref 28, .int pev, .int 1])), (21, .inr (.inl (0, (aC (nI pms.length) pmss pms)))), (22, .inr (.inl (0, (aC (nI pmm.length) pmms pmm)))), (23, .inr (.inl (0, (aC (nI pmt.length) pmts pmt)))), (24, .inr (.inl (0, (aC (nI pst.length) psts pst)))), (25, .inr (.inl (0, (aC (nI pwa.length) pwas pwa)))), (26, .inr (.inl (0, (aC (nI prs.length) prss prs)))), (27, .inr (.inl (0, (aC (nI prr.length) prrs prr)))), (28, .inr (.inl (0, (aC (nI pfa.length) pfas pfa)))), (47, .inl (3, [.ref 48, .ref 49, .ref 50, .ref 51, .ref 52, .ref 53, .ref 54, .ref 55, .int pevs, .int 1])), (48, .inr (.inl (0, pmss))), (49, .inr (.inl (0, pmms))), (50, .inr (.inl (0, pmts))), (51, .inr (.inl (0, psts))), (52, .inr (.inl (0, pwas))), (53, .inr (.inl (0, prss))), (54, .inr (.inl (0, prrs))), (55, .inr (.inl (0, pfas)))] h0 := K.mg K9 rfl rfl
    clear K9
    refine j_V.ldL yb0p_M yb0p_152 rfl (i := 0) (kd := 2) (v := .ref 20) (pcJ := 153) rfl L rfl rfl rfl ?_
    refine j_V.ldL yb0p_M yb0p_153 rfl (i := 1) (kd := 2) (v := .ref 47) (pcJ := 154) rfl L rfl rfl rfl ?_
    refine j_V.getK yb0p_M yb0p_154 (ci := 3) (j := 8) rfl K rfl rfl ?_
    refine j_V.putK yb0p_M yb0p_157 (ci := 3) (j := 8) (k' := [(20, .inl (3, [.ref 21, .ref 22, .ref 23, .ref 24, .ref 25, .ref 26, .ref 27, .ref 28, .int pevs, .int 1])), (21, .inr (.inl (0, (aC (nI pms.length) pmss pms)))), (22, .inr (.inl (0, (aC (nI pmm.length) pmms pmm)))), (23, .inr (.inl (0, (aC (nI pmt.length) pmts pmt)))), (24, .inr (.inl (0, (aC (nI pst.length) psts pst)))), (25, .inr (.inl (0, (aC (nI pwa.length) pwas pwa)))), (26, .inr (.inl (0, (aC (nI prs.length) prss prs)))), (27, .inr (.inl (0, (aC (nI prr.length) prrs prr)))), (28, .inr (.inl (0, (aC (nI pfa.length) pfas pfa)))), (47, .inl (3, [.ref 48, .ref 49, .ref 50, .ref 51, .ref 52, .ref 53, .ref 54, .ref 55, .int pevs, .int 1])), (48, .inr (.inl (0, pmss))), (49, .inr (.inl (0, pmms))), (50, .inr (.inl (0, pmts))), (51, .inr (.inl (0, psts))), (52, .inr (.inl (0, pwas))), (53, .inr (.inl (0, prss))), (54, .inr (.inl (0, prrs))), (55, .inr (.inl (0, pfas)))]) rfl K rfl (Nat.le_of_ble_eq_true rfl) rfl (Or.inl rfl) rfl rfl (fun h K => ?_)
    exact j_V.ret yb0p_M yb0p_160 rfl rfl ⟨rfl, K⟩
  · replace c4_0 : (1 : Int32) = 0 := jd_nen c4_0
    exact absurd c4_0 (by decide)
set_option maxRecDepth 100000 in
theorem yb0s_M : j_meth jP 61 = some (yX7_copyFrom, cX7_copyFrom, 2, none, 1, false, 7) := rfl
set_option maxRecDepth 100000 in
theorem yb0s_0 : j_code jP 61 0 = some (.aload_n 0) := rfl
set_option maxRecDepth 100000 in
theorem yb0s_1 : j_code jP 61 1 = some (.aload_n 1) := rfl
set_option maxRecDepth 100000 in
theorem yb0s_2 : j_code jP 61 2 = some (.getfield 64) := rfl
set_option maxRecDepth 100000 in
theorem yb0s_5 : j_code jP 61 5 = some (.putfield 64) := rfl
set_option maxRecDepth 100000 in
theorem yb0s_8 : j_code jP 61 8 = some (.aload_n 0) := rfl
set_option maxRecDepth 100000 in
theorem yb0s_9 : j_code jP 61 9 = some (.aload_n 1) := rfl
set_option maxRecDepth 100000 in
theorem yb0s_10 : j_code jP 61 10 = some (.getfield 68) := rfl
set_option maxRecDepth 100000 in
theorem yb0s_13 : j_code jP 61 13 = some (.putfield 68) := rfl
set_option maxRecDepth 100000 in
theorem yb0s_16 : j_code jP 61 16 = some (.aload_n 0) := rfl
set_option maxRecDepth 100000 in
theorem yb0s_17 : j_code jP 61 17 = some (.aload_n 1) := rfl
set_option maxRecDepth 100000 in
theorem yb0s_18 : j_code jP 61 18 = some (.getfield 72) := rfl
set_option maxRecDepth 100000 in
theorem yb0s_21 : j_code jP 61 21 = some (.putfield 72) := rfl
set_option maxRecDepth 100000 in
theorem yb0s_24 : j_code jP 61 24 = some (.aload_n 0) := rfl
set_option maxRecDepth 100000 in
theorem yb0s_25 : j_code jP 61 25 = some (.aload_n 1) := rfl
set_option maxRecDepth 100000 in
theorem yb0s_26 : j_code jP 61 26 = some (.getfield 75) := rfl
set_option maxRecDepth 100000 in
theorem yb0s_29 : j_code jP 61 29 = some (.putfield 75) := rfl
set_option maxRecDepth 100000 in
theorem yb0s_32 : j_code jP 61 32 = some (.aload_n 0) := rfl
set_option maxRecDepth 100000 in
theorem yb0s_33 : j_code jP 61 33 = some (.aload_n 1) := rfl
set_option maxRecDepth 100000 in
theorem yb0s_34 : j_code jP 61 34 = some (.getfield 78) := rfl
set_option maxRecDepth 100000 in
theorem yb0s_37 : j_code jP 61 37 = some (.putfield 78) := rfl
set_option maxRecDepth 100000 in
theorem yb0s_40 : j_code jP 61 40 = some (.aload_n 1) := rfl
set_option maxRecDepth 100000 in
theorem yb0s_41 : j_code jP 61 41 = some (.getfield 9) := rfl
set_option maxRecDepth 100000 in
theorem yb0s_44 : j_code jP 61 44 = some (.iconst 0) := rfl
set_option maxRecDepth 100000 in
theorem yb0s_45 : j_code jP 61 45 = some (.aload_n 0) := rfl
set_option maxRecDepth 100000 in
theorem yb0s_46 : j_code jP 61 46 = some (.getfield 9) := rfl
set_option maxRecDepth 100000 in
theorem yb0s_49 : j_code jP 61 49 = some (.iconst 0) := rfl
set_option maxRecDepth 100000 in
theorem yb0s_50 : j_code jP 61 50 = some (.iconst 5) := rfl
set_option maxRecDepth 100000 in
theorem yb0s_51 : j_code jP 61 51 = some (.invokestatic 84) := rfl
set_option maxRecDepth 100000 in
theorem yb0s_54 : j_code jP 61 54 = some (.aload_n 1) := rfl
set_option maxRecDepth 100000 in
theorem yb0s_55 : j_code jP 61 55 = some (.getfield 15) := rfl
set_option maxRecDepth 100000 in
theorem yb0s_58 : j_code jP 61 58 = some (.iconst 0) := rfl
set_option maxRecDepth 100000 in
theorem yb0s_59 : j_code jP 61 59 = some (.aload_n 0) := rfl
set_option maxRecDepth 100000 in
theorem yb0s_60 : j_code jP 61 60 = some (.getfield 15) := rfl
set_option maxRecDepth 100000 in
theorem yb0s_63 : j_code jP 61 63 = some (.iconst 0) := rfl
set_option maxRecDepth 100000 in
theorem yb0s_64 : j_code jP 61 64 = some (.iconst 5) := rfl
set_option maxRecDepth 100000 in
theorem yb0s_65 : j_code jP 61 65 = some (.invokestatic 84) := rfl
set_option maxRecDepth 100000 in
theorem yb0s_68 : j_code jP 61 68 = some (.aload_n 1) := rfl
set_option maxRecDepth 100000 in
theorem yb0s_69 : j_code jP 61 69 = some (.getfield 18) := rfl
set_option maxRecDepth 100000 in
theorem yb0s_72 : j_code jP 61 72 = some (.iconst 0) := rfl
set_option maxRecDepth 100000 in
theorem yb0s_73 : j_code jP 61 73 = some (.aload_n 0) := rfl
set_option maxRecDepth 100000 in
theorem yb0s_74 : j_code jP 61 74 = some (.getfield 18) := rfl
set_option maxRecDepth 100000 in
theorem yb0s_77 : j_code jP 61 77 = some (.iconst 0) := rfl
set_option maxRecDepth 100000 in
theorem yb0s_78 : j_code jP 61 78 = some (.iconst 5) := rfl
set_option maxRecDepth 100000 in
theorem yb0s_79 : j_code jP 61 79 = some (.invokestatic 84) := rfl
set_option maxRecDepth 100000 in
theorem yb0s_82 : j_code jP 61 82 = some (.aload_n 1) := rfl
set_option maxRecDepth 100000 in
theorem yb0s_83 : j_code jP 61 83 = some (.getfield 21) := rfl
set_option maxRecDepth 100000 in
theorem yb0s_86 : j_code jP 61 86 = some (.iconst 0) := rfl
set_option maxRecDepth 100000 in
theorem yb0s_87 : j_code jP 61 87 = some (.aload_n 0) := rfl
set_option maxRecDepth 100000 in
theorem yb0s_88 : j_code jP 61 88 = some (.getfield 21) := rfl
set_option maxRecDepth 100000 in
theorem yb0s_91 : j_code jP 61 91 = some (.iconst 0) := rfl
set_option maxRecDepth 100000 in
theorem yb0s_92 : j_code jP 61 92 = some (.iconst 5) := rfl
set_option maxRecDepth 100000 in
theorem yb0s_93 : j_code jP 61 93 = some (.invokestatic 84) := rfl
set_option maxRecDepth 100000 in
theorem yb0s_96 : j_code jP 61 96 = some (.aload_n 1) := rfl
set_option maxRecDepth 100000 in
theorem yb0s_97 : j_code jP 61 97 = some (.getfield 24) := rfl
set_option maxRecDepth 100000 in
theorem yb0s_100 : j_code jP 61 100 = some (.iconst 0) := rfl
set_option maxRecDepth 100000 in
theorem yb0s_101 : j_code jP 61 101 = some (.aload_n 0) := rfl
set_option maxRecDepth 100000 in
theorem yb0s_102 : j_code jP 61 102 = some (.getfield 24) := rfl
set_option maxRecDepth 100000 in
theorem yb0s_105 : j_code jP 61 105 = some (.iconst 0) := rfl
set_option maxRecDepth 100000 in
theorem yb0s_106 : j_code jP 61 106 = some (.iconst 5) := rfl
set_option maxRecDepth 100000 in
theorem yb0s_107 : j_code jP 61 107 = some (.invokestatic 84) := rfl
set_option maxRecDepth 100000 in
theorem yb0s_110 : j_code jP 61 110 = some (.aload_n 1) := rfl
set_option maxRecDepth 100000 in
theorem yb0s_111 : j_code jP 61 111 = some (.getfield 27) := rfl
set_option maxRecDepth 100000 in
theorem yb0s_114 : j_code jP 61 114 = some (.iconst 0) := rfl
set_option maxRecDepth 100000 in
theorem yb0s_115 : j_code jP 61 115 = some (.aload_n 0) := rfl
set_option maxRecDepth 100000 in
theorem yb0s_116 : j_code jP 61 116 = some (.getfield 27) := rfl
set_option maxRecDepth 100000 in
theorem yb0s_119 : j_code jP 61 119 = some (.iconst 0) := rfl
set_option maxRecDepth 100000 in
theorem yb0s_120 : j_code jP 61 120 = some (.iconst 5) := rfl
set_option maxRecDepth 100000 in
theorem yb0s_121 : j_code jP 61 121 = some (.invokestatic 84) := rfl
set_option maxRecDepth 100000 in
theorem yb0s_124 : j_code jP 61 124 = some (.aload_n 1) := rfl
set_option maxRecDepth 100000 in
theorem yb0s_125 : j_code jP 61 125 = some (.getfield 30) := rfl
set_option maxRecDepth 100000 in
theorem yb0s_128 : j_code jP 61 128 = some (.iconst 0) := rfl
set_option maxRecDepth 100000 in
theorem yb0s_129 : j_code jP 61 129 = some (.aload_n 0) := rfl
set_option maxRecDepth 100000 in
theorem yb0s_130 : j_code jP 61 130 = some (.getfield 30) := rfl
set_option maxRecDepth 100000 in
theorem yb0s_133 : j_code jP 61 133 = some (.iconst 0) := rfl
set_option maxRecDepth 100000 in
theorem yb0s_134 : j_code jP 61 134 = some (.iconst 5) := rfl
set_option maxRecDepth 100000 in
theorem yb0s_135 : j_code jP 61 135 = some (.invokestatic 84) := rfl
set_option maxRecDepth 100000 in
theorem yb0s_138 : j_code jP 61 138 = some (.aload_n 1) := rfl
set_option maxRecDepth 100000 in
theorem yb0s_139 : j_code jP 61 139 = some (.getfield 33) := rfl
set_option maxRecDepth 100000 in
theorem yb0s_142 : j_code jP 61 142 = some (.iconst 0) := rfl
set_option maxRecDepth 100000 in
theorem yb0s_143 : j_code jP 61 143 = some (.aload_n 0) := rfl
set_option maxRecDepth 100000 in
theorem yb0s_144 : j_code jP 61 144 = some (.getfield 33) := rfl
set_option maxRecDepth 100000 in
theorem yb0s_147 : j_code jP 61 147 = some (.iconst 0) := rfl
set_option maxRecDepth 100000 in
theorem yb0s_148 : j_code jP 61 148 = some (.bipush 6) := rfl
set_option maxRecDepth 100000 in
theorem yb0s_150 : j_code jP 61 150 = some (.invokestatic 84) := rfl
set_option maxRecDepth 100000 in
theorem yb0s_153 : j_code jP 61 153 = some (.aload_n 1) := rfl
set_option maxRecDepth 100000 in
theorem yb0s_154 : j_code jP 61 154 = some (.getfield 36) := rfl
set_option maxRecDepth 100000 in
theorem yb0s_157 : j_code jP 61 157 = some (.iconst 0) := rfl
set_option maxRecDepth 100000 in
theorem yb0s_158 : j_code jP 61 158 = some (.aload_n 0) := rfl
set_option maxRecDepth 100000 in
theorem yb0s_159 : j_code jP 61 159 = some (.getfield 36) := rfl
set_option maxRecDepth 100000 in
theorem yb0s_162 : j_code jP 61 162 = some (.iconst 0) := rfl
set_option maxRecDepth 100000 in
theorem yb0s_163 : j_code jP 61 163 = some (.bipush 6) := rfl
set_option maxRecDepth 100000 in
theorem yb0s_165 : j_code jP 61 165 = some (.invokestatic 84) := rfl
set_option maxRecDepth 100000 in
theorem yb0s_168 : j_code jP 61 168 = some (.aload_n 1) := rfl
set_option maxRecDepth 100000 in
theorem yb0s_169 : j_code jP 61 169 = some (.getfield 39) := rfl
set_option maxRecDepth 100000 in
theorem yb0s_172 : j_code jP 61 172 = some (.iconst 0) := rfl
set_option maxRecDepth 100000 in
theorem yb0s_173 : j_code jP 61 173 = some (.aload_n 0) := rfl
set_option maxRecDepth 100000 in
theorem yb0s_174 : j_code jP 61 174 = some (.getfield 39) := rfl
set_option maxRecDepth 100000 in
theorem yb0s_177 : j_code jP 61 177 = some (.iconst 0) := rfl
set_option maxRecDepth 100000 in
theorem yb0s_178 : j_code jP 61 178 = some (.aload_n 0) := rfl
set_option maxRecDepth 100000 in
theorem yb0s_179 : j_code jP 61 179 = some (.getfield 39) := rfl
set_option maxRecDepth 100000 in
theorem yb0s_182 : j_code jP 61 182 = some (.arraylength) := rfl
set_option maxRecDepth 100000 in
theorem yb0s_183 : j_code jP 61 183 = some (.invokestatic 84) := rfl
set_option maxRecDepth 100000 in
theorem yb0s_186 : j_code jP 61 186 = some (.aload_n 1) := rfl
set_option maxRecDepth 100000 in
theorem yb0s_187 : j_code jP 61 187 = some (.getfield 42) := rfl
set_option maxRecDepth 100000 in
theorem yb0s_190 : j_code jP 61 190 = some (.iconst 0) := rfl
set_option maxRecDepth 100000 in
theorem yb0s_191 : j_code jP 61 191 = some (.aload_n 0) := rfl
set_option maxRecDepth 100000 in
theorem yb0s_192 : j_code jP 61 192 = some (.getfield 42) := rfl
set_option maxRecDepth 100000 in
theorem yb0s_195 : j_code jP 61 195 = some (.iconst 0) := rfl
set_option maxRecDepth 100000 in
theorem yb0s_196 : j_code jP 61 196 = some (.aload_n 0) := rfl
set_option maxRecDepth 100000 in
theorem yb0s_197 : j_code jP 61 197 = some (.getfield 42) := rfl
set_option maxRecDepth 100000 in
theorem yb0s_200 : j_code jP 61 200 = some (.arraylength) := rfl
set_option maxRecDepth 100000 in
theorem yb0s_201 : j_code jP 61 201 = some (.invokestatic 84) := rfl
set_option maxRecDepth 100000 in
theorem yb0s_204 : j_code jP 61 204 = some (.aload_n 1) := rfl
set_option maxRecDepth 100000 in
theorem yb0s_205 : j_code jP 61 205 = some (.getfield 45) := rfl
set_option maxRecDepth 100000 in
theorem yb0s_208 : j_code jP 61 208 = some (.iconst 0) := rfl
set_option maxRecDepth 100000 in
theorem yb0s_209 : j_code jP 61 209 = some (.aload_n 0) := rfl
set_option maxRecDepth 100000 in
theorem yb0s_210 : j_code jP 61 210 = some (.getfield 45) := rfl
set_option maxRecDepth 100000 in
theorem yb0s_213 : j_code jP 61 213 = some (.iconst 0) := rfl
set_option maxRecDepth 100000 in
theorem yb0s_214 : j_code jP 61 214 = some (.aload_n 0) := rfl
set_option maxRecDepth 100000 in
theorem yb0s_215 : j_code jP 61 215 = some (.getfield 45) := rfl
set_option maxRecDepth 100000 in
theorem yb0s_218 : j_code jP 61 218 = some (.arraylength) := rfl
set_option maxRecDepth 100000 in
theorem yb0s_219 : j_code jP 61 219 = some (.invokestatic 84) := rfl
set_option maxRecDepth 100000 in
theorem yb0s_222 : j_code jP 61 222 = some (.aload_n 0) := rfl
set_option maxRecDepth 100000 in
theorem yb0s_223 : j_code jP 61 223 = some (.getfield 60) := rfl
set_option maxRecDepth 100000 in
theorem yb0s_226 : j_code jP 61 226 = some (.aload_n 1) := rfl
set_option maxRecDepth 100000 in
theorem yb0s_227 : j_code jP 61 227 = some (.getfield 60) := rfl
set_option maxRecDepth 100000 in
theorem yb0s_230 : j_code jP 61 230 = some (.invokevirtual 108) := rfl
set_option maxRecDepth 100000 in
theorem yb0s_233 : j_code jP 61 233 = some (.return_) := rfl
set_option maxRecDepth 1000000 in
theorem yb0s_k0 {ly : Value} {mi : Int32} {shu : Int32} {bus : Int32} {lks : Int32} {lys : Nat} {mis : Int32} {shus : Int32} {buss : Int32} {lkss : Int32} {d : Nat} {lv : J_L} {h h0 : J_H} {Q : Option Value → J_H → Prop} (L : LK lv [(0, .ref 4), (1, .ref 31)]) (K : KN h [(4, .inl (7, [ly, .int mi, .int shu, .int bus, .ref 5, .ref 6, .ref 7, .ref 8, .ref 9, .ref 10, .ref 11, .ref 12, .ref 13, .ref 14, .ref 15, .int lks, .ref 16, .ref 17, .ref 20])), (31, .inl (7, [.ref lys, .int mis, .int shus, .int buss, .ref 32, .ref 33, .ref 34, .ref 35, .ref 36, .ref 37, .ref 38, .ref 39, .ref 40, .ref 41, .ref 42, .int lkss, .ref 43, .ref 44, .ref 47]))] h0) (kk : ∀ lv h, LK lv [(0, .ref 4), (1, .ref 31)] → KN h [(4, .inl (7, [.ref lys, .int mis, .int shus, .int buss, .ref 5, .ref 6, .ref 7, .ref 8, .ref 9, .ref 10, .ref 11, .ref 12, .ref 13, .ref 14, .ref 15, .int lkss, .ref 16, .ref 17, .ref 20])), (31, .inl (7, [.ref lys, .int mis, .int shus, .int buss, .ref 32, .ref 33, .ref 34, .ref 35, .ref 36, .ref 37, .ref 38, .ref 39, .ref 40, .ref 41, .ref 42, .int lkss, .ref 43, .ref 44, .ref 47]))] h0 → j_V jP d 61 40 lv [] h Q) : j_V jP d 61 0 lv [] h Q := by
  refine j_V.ldL yb0s_M yb0s_0 rfl (i := 0) (kd := 2) (v := .ref 4) (pcJ := 1) rfl L rfl rfl rfl ?_
  refine j_V.ldL yb0s_M yb0s_1 rfl (i := 1) (kd := 2) (v := .ref 31) (pcJ := 2) rfl L rfl rfl rfl ?_
  refine j_V.getK yb0s_M yb0s_2 (ci := 7) (j := 0) rfl K rfl rfl ?_
  refine j_V.putK yb0s_M yb0s_5 (ci := 7) (j := 0) (k' := [(4, .inl (7, [.ref lys, .int mi, .int shu, .int bus, .ref 5, .ref 6, .ref 7, .ref 8, .ref 9, .ref 10, .ref 11, .ref 12, .ref 13, .ref 14, .ref 15, .int lks, .ref 16, .ref 17, .ref 20])), (31, .inl (7, [.ref lys, .int mis, .int shus, .int buss, .ref 32, .ref 33, .ref 34, .ref 35, .ref 36, .ref 37, .ref 38, .ref 39, .ref 40, .ref 41, .ref 42, .int lkss, .ref 43, .ref 44, .ref 47]))]) rfl K rfl (Nat.le_of_ble_eq_true rfl) rfl (Or.inl rfl) rfl rfl (fun h K => ?_)
  refine j_V.ldL yb0s_M yb0s_8 rfl (i := 0) (kd := 2) (v := .ref 4) (pcJ := 9) rfl L rfl rfl rfl ?_
  refine j_V.ldL yb0s_M yb0s_9 rfl (i := 1) (kd := 2) (v := .ref 31) (pcJ := 10) rfl L rfl rfl rfl ?_
  refine j_V.getK yb0s_M yb0s_10 (ci := 7) (j := 1) rfl K rfl rfl ?_
  refine j_V.putK yb0s_M yb0s_13 (ci := 7) (j := 1) (k' := [(4, .inl (7, [.ref lys, .int mis, .int shu, .int bus, .ref 5, .ref 6, .ref 7, .ref 8, .ref 9, .ref 10, .ref 11, .ref 12, .ref 13, .ref 14, .ref 15, .int lks, .ref 16, .ref 17, .ref 20])), (31, .inl (7, [.ref lys, .int mis, .int shus, .int buss, .ref 32, .ref 33, .ref 34, .ref 35, .ref 36, .ref 37, .ref 38, .ref 39, .ref 40, .ref 41, .ref 42, .int lkss, .ref 43, .ref 44, .ref 47]))]) rfl K rfl (Nat.le_of_ble_eq_true rfl) rfl (Or.inl rfl) rfl rfl (fun h K => ?_)
  refine j_V.ldL yb0s_M yb0s_16 rfl (i := 0) (kd := 2) (v := .ref 4) (pcJ := 17) rfl L rfl rfl rfl ?_
  refine j_V.ldL yb0s_M yb0s_17 rfl (i := 1) (kd := 2) (v := .ref 31) (pcJ := 18) rfl L rfl rfl rfl ?_
  refine j_V.getK yb0s_M yb0s_18 (ci := 7) (j := 2) rfl K rfl rfl ?_
  refine j_V.putK yb0s_M yb0s_21 (ci := 7) (j := 2) (k' := [(4, .inl (7, [.ref lys, .int mis, .int shus, .int bus, .ref 5, .ref 6, .ref 7, .ref 8, .ref 9, .ref 10, .ref 11, .ref 12, .ref 13, .ref 14, .ref 15, .int lks, .ref 16, .ref 17, .ref 20])), (31, .inl (7, [.ref lys, .int mis, .int shus, .int buss, .ref 32, .ref 33, .ref 34, .ref 35, .ref 36, .ref 37, .ref 38, .ref 39, .ref 40, .ref 41, .ref 42, .int lkss, .ref 43, .ref 44, .ref 47]))]) rfl K rfl (Nat.le_of_ble_eq_true rfl) rfl (Or.inl rfl) rfl rfl (fun h K => ?_)
  refine j_V.ldL yb0s_M yb0s_24 rfl (i := 0) (kd := 2) (v := .ref 4) (pcJ := 25) rfl L rfl rfl rfl ?_
  refine j_V.ldL yb0s_M yb0s_25 rfl (i := 1) (kd := 2) (v := .ref 31) (pcJ := 26) rfl L rfl rfl rfl ?_
  refine j_V.getK yb0s_M yb0s_26 (ci := 7) (j := 3) rfl K rfl rfl ?_
  refine j_V.putK yb0s_M yb0s_29 (ci := 7) (j := 3) (k' := [(4, .inl (7, [.ref lys, .int mis, .int shus, .int buss, .ref 5, .ref 6, .ref 7, .ref 8, .ref 9, .ref 10, .ref 11, .ref 12, .ref 13, .ref 14, .ref 15, .int lks, .ref 16, .ref 17, .ref 20])), (31, .inl (7, [.ref lys, .int mis, .int shus, .int buss, .ref 32, .ref 33, .ref 34, .ref 35, .ref 36, .ref 37, .ref 38, .ref 39, .ref 40, .ref 41, .ref 42, .int lkss, .ref 43, .ref 44, .ref 47]))]) rfl K rfl (Nat.le_of_ble_eq_true rfl) rfl (Or.inl rfl) rfl rfl (fun h K => ?_)
  refine j_V.ldL yb0s_M yb0s_32 rfl (i := 0) (kd := 2) (v := .ref 4) (pcJ := 33) rfl L rfl rfl rfl ?_
  refine j_V.ldL yb0s_M yb0s_33 rfl (i := 1) (kd := 2) (v := .ref 31) (pcJ := 34) rfl L rfl rfl rfl ?_
  refine j_V.getK yb0s_M yb0s_34 (ci := 7) (j := 15) rfl K rfl rfl ?_
  refine j_V.putK yb0s_M yb0s_37 (ci := 7) (j := 15) (k' := [(4, .inl (7, [.ref lys, .int mis, .int shus, .int buss, .ref 5, .ref 6, .ref 7, .ref 8, .ref 9, .ref 10, .ref 11, .ref 12, .ref 13, .ref 14, .ref 15, .int lkss, .ref 16, .ref 17, .ref 20])), (31, .inl (7, [.ref lys, .int mis, .int shus, .int buss, .ref 32, .ref 33, .ref 34, .ref 35, .ref 36, .ref 37, .ref 38, .ref 39, .ref 40, .ref 41, .ref 42, .int lkss, .ref 43, .ref 44, .ref 47]))]) rfl K rfl (Nat.le_of_ble_eq_true rfl) rfl (Or.inl rfl) rfl rfl (fun h K => ?_)
  exact kk _ _ L K
set_option maxRecDepth 1000000 in
theorem yb0s_k40 {rk : List Int32} {sta : List Int32} {ph : List Int32} {lys : Nat} {mis : Int32} {shus : Int32} {buss : Int32} {lkss : Int32} {rks : List Int32} {stas : List Int32} {phs : List Int32} {d : Nat} {lv : J_L} {h h0 : J_H} {Q : Option Value → J_H → Prop} (L : LK lv [(0, .ref 4), (1, .ref 31)]) (K : KN h [(4, .inl (7, [.ref lys, .int mis, .int shus, .int buss, .ref 5, .ref 6, .ref 7, .ref 8, .ref 9, .ref 10, .ref 11, .ref 12, .ref 13, .ref 14, .ref 15, .int lkss, .ref 16, .ref 17, .ref 20])), (5, .inr (.inl (0, rk))), (6, .inr (.inl (0, sta))), (7, .inr (.inl (0, ph))), (31, .inl (7, [.ref lys, .int mis, .int shus, .int buss, .ref 32, .ref 33, .ref 34, .ref 35, .ref 36, .ref 37, .ref 38, .ref 39, .ref 40, .ref 41, .ref 42, .int lkss, .ref 43, .ref 44, .ref 47])), (32, .inr (.inl (0, rks))), (33, .inr (.inl (0, stas))), (34, .inr (.inl (0, phs)))] h0) (kk : ∀ lv h, LK lv [(0, .ref 4), (1, .ref 31)] → KN h [(4, .inl (7, [.ref lys, .int mis, .int shus, .int buss, .ref 5, .ref 6, .ref 7, .ref 8, .ref 9, .ref 10, .ref 11, .ref 12, .ref 13, .ref 14, .ref 15, .int lkss, .ref 16, .ref 17, .ref 20])), (5, .inr (.inl (0, (aC 5 rks rk)))), (6, .inr (.inl (0, (aC 5 stas sta)))), (7, .inr (.inl (0, (aC 5 phs ph)))), (31, .inl (7, [.ref lys, .int mis, .int shus, .int buss, .ref 32, .ref 33, .ref 34, .ref 35, .ref 36, .ref 37, .ref 38, .ref 39, .ref 40, .ref 41, .ref 42, .int lkss, .ref 43, .ref 44, .ref 47])), (32, .inr (.inl (0, rks))), (33, .inr (.inl (0, stas))), (34, .inr (.inl (0, phs)))] h0 → j_V jP d 61 82 lv [] h Q) : j_V jP d 61 40 lv [] h Q := by
  refine j_V.ldL yb0s_M yb0s_40 rfl (i := 1) (kd := 2) (v := .ref 31) (pcJ := 41) rfl L rfl rfl rfl ?_
  refine j_V.getK yb0s_M yb0s_41 (ci := 7) (j := 4) rfl K rfl rfl ?_
  refine j_V.one yb0s_M yb0s_44 (by decide) (pcJ := 45) (stJ := [.int 0, .ref 32]) rfl ?_
  refine j_V.ldL yb0s_M yb0s_45 rfl (i := 0) (kd := 2) (v := .ref 4) (pcJ := 46) rfl L rfl rfl rfl ?_
  refine j_V.getK yb0s_M yb0s_46 (ci := 7) (j := 4) rfl K rfl rfl ?_
  refine j_V.one yb0s_M yb0s_49 (by decide) (pcJ := 50) (stJ := [.int 0, .ref 5, .int 0, .ref 32]) rfl ?_
  refine j_V.one yb0s_M yb0s_50 (by decide) (pcJ := 51) (stJ := [.int 5, .int 0, .ref 5, .int 0, .ref 32]) rfl ?_
  refine j_V.acp yb0s_M yb0s_51 rfl rfl K rfl rfl rfl (fun h K => ?_)
  refine j_V.ldL yb0s_M yb0s_54 rfl (i := 1) (kd := 2) (v := .ref 31) (pcJ := 55) rfl L rfl rfl rfl ?_
  refine j_V.getK yb0s_M yb0s_55 (ci := 7) (j := 5) rfl K rfl rfl ?_
  refine j_V.one yb0s_M yb0s_58 (by decide) (pcJ := 59) (stJ := [.int 0, .ref 33]) rfl ?_
  refine j_V.ldL yb0s_M yb0s_59 rfl (i := 0) (kd := 2) (v := .ref 4) (pcJ := 60) rfl L rfl rfl rfl ?_
  refine j_V.getK yb0s_M yb0s_60 (ci := 7) (j := 5) rfl K rfl rfl ?_
  refine j_V.one yb0s_M yb0s_63 (by decide) (pcJ := 64) (stJ := [.int 0, .ref 6, .int 0, .ref 33]) rfl ?_
  refine j_V.one yb0s_M yb0s_64 (by decide) (pcJ := 65) (stJ := [.int 5, .int 0, .ref 6, .int 0, .ref 33]) rfl ?_
  refine j_V.acp yb0s_M yb0s_65 rfl rfl K rfl rfl rfl (fun h K => ?_)
  refine j_V.ldL yb0s_M yb0s_68 rfl (i := 1) (kd := 2) (v := .ref 31) (pcJ := 69) rfl L rfl rfl rfl ?_
  refine j_V.getK yb0s_M yb0s_69 (ci := 7) (j := 6) rfl K rfl rfl ?_
  refine j_V.one yb0s_M yb0s_72 (by decide) (pcJ := 73) (stJ := [.int 0, .ref 34]) rfl ?_
  refine j_V.ldL yb0s_M yb0s_73 rfl (i := 0) (kd := 2) (v := .ref 4) (pcJ := 74) rfl L rfl rfl rfl ?_
  refine j_V.getK yb0s_M yb0s_74 (ci := 7) (j := 6) rfl K rfl rfl ?_
  refine j_V.one yb0s_M yb0s_77 (by decide) (pcJ := 78) (stJ := [.int 0, .ref 7, .int 0, .ref 34]) rfl ?_
  refine j_V.one yb0s_M yb0s_78 (by decide) (pcJ := 79) (stJ := [.int 5, .int 0, .ref 7, .int 0, .ref 34]) rfl ?_
  refine j_V.acp yb0s_M yb0s_79 rfl rfl K rfl rfl rfl (fun h K => ?_)
  exact kk _ _ L K
set_option maxRecDepth 1000000 in
theorem yb0s_k82 {sp : List Int32} {ce : List Int32} {du : List Int32} {lys : Nat} {mis : Int32} {shus : Int32} {buss : Int32} {lkss : Int32} {sps : List Int32} {ces : List Int32} {dus : List Int32} {d : Nat} {lv : J_L} {h h0 : J_H} {Q : Option Value → J_H → Prop} (L : LK lv [(0, .ref 4), (1, .ref 31)]) (K : KN h [(4, .inl (7, [.ref lys, .int mis, .int shus, .int buss, .ref 5, .ref 6, .ref 7, .ref 8, .ref 9, .ref 10, .ref 11, .ref 12, .ref 13, .ref 14, .ref 15, .int lkss, .ref 16, .ref 17, .ref 20])), (8, .inr (.inl (0, sp))), (9, .inr (.inl (0, ce))), (10, .inr (.inl (0, du))), (31, .inl (7, [.ref lys, .int mis, .int shus, .int buss, .ref 32, .ref 33, .ref 34, .ref 35, .ref 36, .ref 37, .ref 38, .ref 39, .ref 40, .ref 41, .ref 42, .int lkss, .ref 43, .ref 44, .ref 47])), (35, .inr (.inl (0, sps))), (36, .inr (.inl (0, ces))), (37, .inr (.inl (0, dus)))] h0) (kk : ∀ lv h, LK lv [(0, .ref 4), (1, .ref 31)] → KN h [(4, .inl (7, [.ref lys, .int mis, .int shus, .int buss, .ref 5, .ref 6, .ref 7, .ref 8, .ref 9, .ref 10, .ref 11, .ref 12, .ref 13, .ref 14, .ref 15, .int lkss, .ref 16, .ref 17, .ref 20])), (8, .inr (.inl (0, (aC 5 sps sp)))), (9, .inr (.inl (0, (aC 5 ces ce)))), (10, .inr (.inl (0, (aC 5 dus du)))), (31, .inl (7, [.ref lys, .int mis, .int shus, .int buss, .ref 32, .ref 33, .ref 34, .ref 35, .ref 36, .ref 37, .ref 38, .ref 39, .ref 40, .ref 41, .ref 42, .int lkss, .ref 43, .ref 44, .ref 47])), (35, .inr (.inl (0, sps))), (36, .inr (.inl (0, ces))), (37, .inr (.inl (0, dus)))] h0 → j_V jP d 61 124 lv [] h Q) : j_V jP d 61 82 lv [] h Q := by
  refine j_V.ldL yb0s_M yb0s_82 rfl (i := 1) (kd := 2) (v := .ref 31) (pcJ := 83) rfl L rfl rfl rfl ?_
  refine j_V.getK yb0s_M yb0s_83 (ci := 7) (j := 7) rfl K rfl rfl ?_
  refine j_V.one yb0s_M yb0s_86 (by decide) (pcJ := 87) (stJ := [.int 0, .ref 35]) rfl ?_
  refine j_V.ldL yb0s_M yb0s_87 rfl (i := 0) (kd := 2) (v := .ref 4) (pcJ := 88) rfl L rfl rfl rfl ?_
  refine j_V.getK yb0s_M yb0s_88 (ci := 7) (j := 7) rfl K rfl rfl ?_
  refine j_V.one yb0s_M yb0s_91 (by decide) (pcJ := 92) (stJ := [.int 0, .ref 8, .int 0, .ref 35]) rfl ?_
  refine j_V.one yb0s_M yb0s_92 (by decide) (pcJ := 93) (stJ := [.int 5, .int 0, .ref 8, .int 0, .ref 35]) rfl ?_
  refine j_V.acp yb0s_M yb0s_93 rfl rfl K rfl rfl rfl (fun h K => ?_)
  refine j_V.ldL yb0s_M yb0s_96 rfl (i := 1) (kd := 2) (v := .ref 31) (pcJ := 97) rfl L rfl rfl rfl ?_
  refine j_V.getK yb0s_M yb0s_97 (ci := 7) (j := 8) rfl K rfl rfl ?_
  refine j_V.one yb0s_M yb0s_100 (by decide) (pcJ := 101) (stJ := [.int 0, .ref 36]) rfl ?_
  refine j_V.ldL yb0s_M yb0s_101 rfl (i := 0) (kd := 2) (v := .ref 4) (pcJ := 102) rfl L rfl rfl rfl ?_
  refine j_V.getK yb0s_M yb0s_102 (ci := 7) (j := 8) rfl K rfl rfl ?_
  refine j_V.one yb0s_M yb0s_105 (by decide) (pcJ := 106) (stJ := [.int 0, .ref 9, .int 0, .ref 36]) rfl ?_
  refine j_V.one yb0s_M yb0s_106 (by decide) (pcJ := 107) (stJ := [.int 5, .int 0, .ref 9, .int 0, .ref 36]) rfl ?_
  refine j_V.acp yb0s_M yb0s_107 rfl rfl K rfl rfl rfl (fun h K => ?_)
  refine j_V.ldL yb0s_M yb0s_110 rfl (i := 1) (kd := 2) (v := .ref 31) (pcJ := 111) rfl L rfl rfl rfl ?_
  refine j_V.getK yb0s_M yb0s_111 (ci := 7) (j := 9) rfl K rfl rfl ?_
  refine j_V.one yb0s_M yb0s_114 (by decide) (pcJ := 115) (stJ := [.int 0, .ref 37]) rfl ?_
  refine j_V.ldL yb0s_M yb0s_115 rfl (i := 0) (kd := 2) (v := .ref 4) (pcJ := 116) rfl L rfl rfl rfl ?_
  refine j_V.getK yb0s_M yb0s_116 (ci := 7) (j := 9) rfl K rfl rfl ?_
  refine j_V.one yb0s_M yb0s_119 (by decide) (pcJ := 120) (stJ := [.int 0, .ref 10, .int 0, .ref 37]) rfl ?_
  refine j_V.one yb0s_M yb0s_120 (by decide) (pcJ := 121) (stJ := [.int 5, .int 0, .ref 10, .int 0, .ref 37]) rfl ?_
  refine j_V.acp yb0s_M yb0s_121 rfl rfl K rfl rfl rfl (fun h K => ?_)
  exact kk _ _ L K
set_option maxRecDepth 1000000 in
theorem yb0s_k124 {he : List Int32} {ri : List Int32} {us : List Int32} {lys : Nat} {mis : Int32} {shus : Int32} {buss : Int32} {lkss : Int32} {hes : List Int32} {ris : List Int32} {uss : List Int32} {d : Nat} {lv : J_L} {h h0 : J_H} {Q : Option Value → J_H → Prop} (L : LK lv [(0, .ref 4), (1, .ref 31)]) (K : KN h [(4, .inl (7, [.ref lys, .int mis, .int shus, .int buss, .ref 5, .ref 6, .ref 7, .ref 8, .ref 9, .ref 10, .ref 11, .ref 12, .ref 13, .ref 14, .ref 15, .int lkss, .ref 16, .ref 17, .ref 20])), (11, .inr (.inl (0, he))), (12, .inr (.inl (0, ri))), (13, .inr (.inl (0, us))), (31, .inl (7, [.ref lys, .int mis, .int shus, .int buss, .ref 32, .ref 33, .ref 34, .ref 35, .ref 36, .ref 37, .ref 38, .ref 39, .ref 40, .ref 41, .ref 42, .int lkss, .ref 43, .ref 44, .ref 47])), (38, .inr (.inl (0, hes))), (39, .inr (.inl (0, ris))), (40, .inr (.inl (0, uss)))] h0) (kk : ∀ lv h, LK lv [(0, .ref 4), (1, .ref 31)] → KN h [(4, .inl (7, [.ref lys, .int mis, .int shus, .int buss, .ref 5, .ref 6, .ref 7, .ref 8, .ref 9, .ref 10, .ref 11, .ref 12, .ref 13, .ref 14, .ref 15, .int lkss, .ref 16, .ref 17, .ref 20])), (11, .inr (.inl (0, (aC 5 hes he)))), (12, .inr (.inl (0, (aC 6 ris ri)))), (13, .inr (.inl (0, (aC 6 uss us)))), (31, .inl (7, [.ref lys, .int mis, .int shus, .int buss, .ref 32, .ref 33, .ref 34, .ref 35, .ref 36, .ref 37, .ref 38, .ref 39, .ref 40, .ref 41, .ref 42, .int lkss, .ref 43, .ref 44, .ref 47])), (38, .inr (.inl (0, hes))), (39, .inr (.inl (0, ris))), (40, .inr (.inl (0, uss)))] h0 → j_V jP d 61 168 lv [] h Q) : j_V jP d 61 124 lv [] h Q := by
  refine j_V.ldL yb0s_M yb0s_124 rfl (i := 1) (kd := 2) (v := .ref 31) (pcJ := 125) rfl L rfl rfl rfl ?_
  refine j_V.getK yb0s_M yb0s_125 (ci := 7) (j := 10) rfl K rfl rfl ?_
  refine j_V.one yb0s_M yb0s_128 (by decide) (pcJ := 129) (stJ := [.int 0, .ref 38]) rfl ?_
  refine j_V.ldL yb0s_M yb0s_129 rfl (i := 0) (kd := 2) (v := .ref 4) (pcJ := 130) rfl L rfl rfl rfl ?_
  refine j_V.getK yb0s_M yb0s_130 (ci := 7) (j := 10) rfl K rfl rfl ?_
  refine j_V.one yb0s_M yb0s_133 (by decide) (pcJ := 134) (stJ := [.int 0, .ref 11, .int 0, .ref 38]) rfl ?_
  refine j_V.one yb0s_M yb0s_134 (by decide) (pcJ := 135) (stJ := [.int 5, .int 0, .ref 11, .int 0, .ref 38]) rfl ?_
  refine j_V.acp yb0s_M yb0s_135 rfl rfl K rfl rfl rfl (fun h K => ?_)
  refine j_V.ldL yb0s_M yb0s_138 rfl (i := 1) (kd := 2) (v := .ref 31) (pcJ := 139) rfl L rfl rfl rfl ?_
  refine j_V.getK yb0s_M yb0s_139 (ci := 7) (j := 11) rfl K rfl rfl ?_
  refine j_V.one yb0s_M yb0s_142 (by decide) (pcJ := 143) (stJ := [.int 0, .ref 39]) rfl ?_
  refine j_V.ldL yb0s_M yb0s_143 rfl (i := 0) (kd := 2) (v := .ref 4) (pcJ := 144) rfl L rfl rfl rfl ?_
  refine j_V.getK yb0s_M yb0s_144 (ci := 7) (j := 11) rfl K rfl rfl ?_
  refine j_V.one yb0s_M yb0s_147 (by decide) (pcJ := 148) (stJ := [.int 0, .ref 12, .int 0, .ref 39]) rfl ?_
  refine j_V.one yb0s_M yb0s_148 (by decide) (pcJ := 150) (stJ := [.int 6, .int 0, .ref 12, .int 0, .ref 39]) rfl ?_
  refine j_V.acp yb0s_M yb0s_150 rfl rfl K rfl rfl rfl (fun h K => ?_)
  refine j_V.ldL yb0s_M yb0s_153 rfl (i := 1) (kd := 2) (v := .ref 31) (pcJ := 154) rfl L rfl rfl rfl ?_
  refine j_V.getK yb0s_M yb0s_154 (ci := 7) (j := 12) rfl K rfl rfl ?_
  refine j_V.one yb0s_M yb0s_157 (by decide) (pcJ := 158) (stJ := [.int 0, .ref 40]) rfl ?_
  refine j_V.ldL yb0s_M yb0s_158 rfl (i := 0) (kd := 2) (v := .ref 4) (pcJ := 159) rfl L rfl rfl rfl ?_
  refine j_V.getK yb0s_M yb0s_159 (ci := 7) (j := 12) rfl K rfl rfl ?_
  refine j_V.one yb0s_M yb0s_162 (by decide) (pcJ := 163) (stJ := [.int 0, .ref 13, .int 0, .ref 40]) rfl ?_
  refine j_V.one yb0s_M yb0s_163 (by decide) (pcJ := 165) (stJ := [.int 6, .int 0, .ref 13, .int 0, .ref 40]) rfl ?_
  refine j_V.acp yb0s_M yb0s_165 rfl rfl K rfl rfl rfl (fun h K => ?_)
  exact kk _ _ L K
set_option maxRecDepth 1000000 in
theorem yb0s_k168 {cm : List Int32} {lf : List Int32} {lkd : List Int32} {lys : Nat} {mis : Int32} {shus : Int32} {buss : Int32} {lkss : Int32} {cms : List Int32} {lfs : List Int32} {lkds : List Int32} {d : Nat} {lv : J_L} {h h0 : J_H} {Q : Option Value → J_H → Prop} (L : LK lv [(0, .ref 4), (1, .ref 31)]) (K : KN h [(4, .inl (7, [.ref lys, .int mis, .int shus, .int buss, .ref 5, .ref 6, .ref 7, .ref 8, .ref 9, .ref 10, .ref 11, .ref 12, .ref 13, .ref 14, .ref 15, .int lkss, .ref 16, .ref 17, .ref 20])), (14, .inr (.inl (0, cm))), (15, .inr (.inl (0, lf))), (16, .inr (.inl (0, lkd))), (31, .inl (7, [.ref lys, .int mis, .int shus, .int buss, .ref 32, .ref 33, .ref 34, .ref 35, .ref 36, .ref 37, .ref 38, .ref 39, .ref 40, .ref 41, .ref 42, .int lkss, .ref 43, .ref 44, .ref 47])), (41, .inr (.inl (0, cms))), (42, .inr (.inl (0, lfs))), (43, .inr (.inl (0, lkds)))] h0) (kk : ∀ lv h, LK lv [(0, .ref 4), (1, .ref 31)] → KN h [(4, .inl (7, [.ref lys, .int mis, .int shus, .int buss, .ref 5, .ref 6, .ref 7, .ref 8, .ref 9, .ref 10, .ref 11, .ref 12, .ref 13, .ref 14, .ref 15, .int lkss, .ref 16, .ref 17, .ref 20])), (14, .inr (.inl (0, (aC (nI cm.length) cms cm)))), (15, .inr (.inl (0, (aC (nI lf.length) lfs lf)))), (16, .inr (.inl (0, (aC (nI lkd.length) lkds lkd)))), (31, .inl (7, [.ref lys, .int mis, .int shus, .int buss, .ref 32, .ref 33, .ref 34, .ref 35, .ref 36, .ref 37, .ref 38, .ref 39, .ref 40, .ref 41, .ref 42, .int lkss, .ref 43, .ref 44, .ref 47])), (41, .inr (.inl (0, cms))), (42, .inr (.inl (0, lfs))), (43, .inr (.inl (0, lkds)))] h0 → j_V jP d 61 222 lv [] h Q) : j_V jP d 61 168 lv [] h Q := by
  refine j_V.ldL yb0s_M yb0s_168 rfl (i := 1) (kd := 2) (v := .ref 31) (pcJ := 169) rfl L rfl rfl rfl ?_
  refine j_V.getK yb0s_M yb0s_169 (ci := 7) (j := 13) rfl K rfl rfl ?_
  refine j_V.one yb0s_M yb0s_172 (by decide) (pcJ := 173) (stJ := [.int 0, .ref 41]) rfl ?_
  refine j_V.ldL yb0s_M yb0s_173 rfl (i := 0) (kd := 2) (v := .ref 4) (pcJ := 174) rfl L rfl rfl rfl ?_
  refine j_V.getK yb0s_M yb0s_174 (ci := 7) (j := 13) rfl K rfl rfl ?_
  refine j_V.one yb0s_M yb0s_177 (by decide) (pcJ := 178) (stJ := [.int 0, .ref 14, .int 0, .ref 41]) rfl ?_
  refine j_V.ldL yb0s_M yb0s_178 rfl (i := 0) (kd := 2) (v := .ref 4) (pcJ := 179) rfl L rfl rfl rfl ?_
  refine j_V.getK yb0s_M yb0s_179 (ci := 7) (j := 13) rfl K rfl rfl ?_
  refine j_V.alnA yb0s_M yb0s_182 K rfl ?_
  refine j_V.acp yb0s_M yb0s_183 rfl rfl K rfl rfl rfl (fun h K => ?_)
  refine j_V.ldL yb0s_M yb0s_186 rfl (i := 1) (kd := 2) (v := .ref 31) (pcJ := 187) rfl L rfl rfl rfl ?_
  refine j_V.getK yb0s_M yb0s_187 (ci := 7) (j := 14) rfl K rfl rfl ?_
  refine j_V.one yb0s_M yb0s_190 (by decide) (pcJ := 191) (stJ := [.int 0, .ref 42]) rfl ?_
  refine j_V.ldL yb0s_M yb0s_191 rfl (i := 0) (kd := 2) (v := .ref 4) (pcJ := 192) rfl L rfl rfl rfl ?_
  refine j_V.getK yb0s_M yb0s_192 (ci := 7) (j := 14) rfl K rfl rfl ?_
  refine j_V.one yb0s_M yb0s_195 (by decide) (pcJ := 196) (stJ := [.int 0, .ref 15, .int 0, .ref 42]) rfl ?_
  refine j_V.ldL yb0s_M yb0s_196 rfl (i := 0) (kd := 2) (v := .ref 4) (pcJ := 197) rfl L rfl rfl rfl ?_
  refine j_V.getK yb0s_M yb0s_197 (ci := 7) (j := 14) rfl K rfl rfl ?_
  refine j_V.alnA yb0s_M yb0s_200 K rfl ?_
  refine j_V.acp yb0s_M yb0s_201 rfl rfl K rfl rfl rfl (fun h K => ?_)
  refine j_V.ldL yb0s_M yb0s_204 rfl (i := 1) (kd := 2) (v := .ref 31) (pcJ := 205) rfl L rfl rfl rfl ?_
  refine j_V.getK yb0s_M yb0s_205 (ci := 7) (j := 16) rfl K rfl rfl ?_
  refine j_V.one yb0s_M yb0s_208 (by decide) (pcJ := 209) (stJ := [.int 0, .ref 43]) rfl ?_
  refine j_V.ldL yb0s_M yb0s_209 rfl (i := 0) (kd := 2) (v := .ref 4) (pcJ := 210) rfl L rfl rfl rfl ?_
  refine j_V.getK yb0s_M yb0s_210 (ci := 7) (j := 16) rfl K rfl rfl ?_
  refine j_V.one yb0s_M yb0s_213 (by decide) (pcJ := 214) (stJ := [.int 0, .ref 16, .int 0, .ref 43]) rfl ?_
  refine j_V.ldL yb0s_M yb0s_214 rfl (i := 0) (kd := 2) (v := .ref 4) (pcJ := 215) rfl L rfl rfl rfl ?_
  refine j_V.getK yb0s_M yb0s_215 (ci := 7) (j := 16) rfl K rfl rfl ?_
  refine j_V.alnA yb0s_M yb0s_218 K rfl ?_
  refine j_V.acp yb0s_M yb0s_219 rfl rfl K rfl rfl rfl (fun h K => ?_)
  exact kk _ _ L K
set_option maxRecDepth 1000000 in
theorem yb0s_ok {ly : Value} {mi : Int32} {shu : Int32} {bus : Int32} {lks : Int32} {rk : List Int32} {sta : List Int32} {ph : List Int32} {sp : List Int32} {ce : List Int32} {du : List Int32} {he : List Int32} {ri : List Int32} {us : List Int32} {cm : List Int32} {lf : List Int32} {lkd : List Int32} {pev : Int32} {pms : List Int32} {pmm : List Int32} {pmt : List Int32} {pst : List Int32} {pwa : List Int32} {prs : List Int32} {prr : List Int32} {pfa : List Int32} {lys : Nat} {mis : Int32} {shus : Int32} {buss : Int32} {lkss : Int32} {rks : List Int32} {stas : List Int32} {phs : List Int32} {sps : List Int32} {ces : List Int32} {dus : List Int32} {hes : List Int32} {ris : List Int32} {uss : List Int32} {cms : List Int32} {lfs : List Int32} {lkds : List Int32} {pevs : Int32} {pmss : List Int32} {pmms : List Int32} {pmts : List Int32} {psts : List Int32} {pwas : List Int32} {prss : List Int32} {prrs : List Int32} {pfas : List Int32} {d : Nat} {h h0 : J_H} (K : KN h [(4, .inl (7, [ly, .int mi, .int shu, .int bus, .ref 5, .ref 6, .ref 7, .ref 8, .ref 9, .ref 10, .ref 11, .ref 12, .ref 13, .ref 14, .ref 15, .int lks, .ref 16, .ref 17, .ref 20])), (5, .inr (.inl (0, rk))), (6, .inr (.inl (0, sta))), (7, .inr (.inl (0, ph))), (8, .inr (.inl (0, sp))), (9, .inr (.inl (0, ce))), (10, .inr (.inl (0, du))), (11, .inr (.inl (0, he))), (12, .inr (.inl (0, ri))), (13, .inr (.inl (0, us))), (14, .inr (.inl (0, cm))), (15, .inr (.inl (0, lf))), (16, .inr (.inl (0, lkd))), (20, .inl (3, [.ref 21, .ref 22, .ref 23, .ref 24, .ref 25, .ref 26, .ref 27, .ref 28, .int pev, .int 1])), (21, .inr (.inl (0, pms))), (22, .inr (.inl (0, pmm))), (23, .inr (.inl (0, pmt))), (24, .inr (.inl (0, pst))), (25, .inr (.inl (0, pwa))), (26, .inr (.inl (0, prs))), (27, .inr (.inl (0, prr))), (28, .inr (.inl (0, pfa))), (31, .inl (7, [.ref lys, .int mis, .int shus, .int buss, .ref 32, .ref 33, .ref 34, .ref 35, .ref 36, .ref 37, .ref 38, .ref 39, .ref 40, .ref 41, .ref 42, .int lkss, .ref 43, .ref 44, .ref 47])), (32, .inr (.inl (0, rks))), (33, .inr (.inl (0, stas))), (34, .inr (.inl (0, phs))), (35, .inr (.inl (0, sps))), (36, .inr (.inl (0, ces))), (37, .inr (.inl (0, dus))), (38, .inr (.inl (0, hes))), (39, .inr (.inl (0, ris))), (40, .inr (.inl (0, uss))), (41, .inr (.inl (0, cms))), (42, .inr (.inl (0, lfs))), (43, .inr (.inl (0, lkds))), (47, .inl (3, [.ref 48, .ref 49, .ref 50, .ref 51, .ref 52, .ref 53, .ref 54, .ref 55, .int pevs, .int 1])), (48, .inr (.inl (0, pmss))), (49, .inr (.inl (0, pmms))), (50, .inr (.inl (0, pmts))), (51, .inr (.inl (0, psts))), (52, .inr (.inl (0, pwas))), (53, .inr (.inl (0, prss))), (54, .inr (.inl (0, prrs))), (55, .inr (.inl (0, pfas)))] h0) : j_V jP d 61 0 (lv_args 0 [.ref 4, .ref 31]) [] h (fun rv h' => rv = none ∧ KN h' [(4, .inl (7, [.ref lys, .int mis, .int shus, .int buss, .ref 5, .ref 6, .ref 7, .ref 8, .ref 9, .ref 10, .ref 11, .ref 12, .ref 13, .ref 14, .ref 15, .int lkss, .ref 16, .ref 17, .ref 20])), (5, .inr (.inl (0, (aC 5 rks rk)))), (6, .inr (.inl (0, (aC 5 stas sta)))), (7, .inr (.inl (0, (aC 5 phs ph)))), (8, .inr (.inl (0, (aC 5 sps sp)))), (9, .inr (.inl (0, (aC 5 ces ce)))), (10, .inr (.inl (0, (aC 5 dus du)))), (11, .inr (.inl (0, (aC 5 hes he)))), (12, .inr (.inl (0, (aC 6 ris ri)))), (13, .inr (.inl (0, (aC 6 uss us)))), (14, .inr (.inl (0, (aC (nI cm.length) cms cm)))), (15, .inr (.inl (0, (aC (nI lf.length) lfs lf)))), (16, .inr (.inl (0, (aC (nI lkd.length) lkds lkd)))), (20, .inl (3, [.ref 21, .ref 22, .ref 23, .ref 24, .ref 25, .ref 26, .ref 27, .ref 28, .int pevs, .int 1])), (21, .inr (.inl (0, (aC (nI pms.length) pmss pms)))), (22, .inr (.inl (0, (aC (nI pmm.length) pmms pmm)))), (23, .inr (.inl (0, (aC (nI pmt.length) pmts pmt)))), (24, .inr (.inl (0, (aC (nI pst.length) psts pst)))), (25, .inr (.inl (0, (aC (nI pwa.length) pwas pwa)))), (26, .inr (.inl (0, (aC (nI prs.length) prss prs)))), (27, .inr (.inl (0, (aC (nI prr.length) prrs prr)))), (28, .inr (.inl (0, (aC (nI pfa.length) pfas pfa)))), (31, .inl (7, [.ref lys, .int mis, .int shus, .int buss, .ref 32, .ref 33, .ref 34, .ref 35, .ref 36, .ref 37, .ref 38, .ref 39, .ref 40, .ref 41, .ref 42, .int lkss, .ref 43, .ref 44, .ref 47])), (32, .inr (.inl (0, rks))), (33, .inr (.inl (0, stas))), (34, .inr (.inl (0, phs))), (35, .inr (.inl (0, sps))), (36, .inr (.inl (0, ces))), (37, .inr (.inl (0, dus))), (38, .inr (.inl (0, hes))), (39, .inr (.inl (0, ris))), (40, .inr (.inl (0, uss))), (41, .inr (.inl (0, cms))), (42, .inr (.inl (0, lfs))), (43, .inr (.inl (0, lkds))), (47, .inl (3, [.ref 48, .ref 49, .ref 50, .ref 51, .ref 52, .ref 53, .ref 54, .ref 55, .int pevs, .int 1])), (48, .inr (.inl (0, pmss))), (49, .inr (.inl (0, pmms))), (50, .inr (.inl (0, pmts))), (51, .inr (.inl (0, psts))), (52, .inr (.inl (0, pwas))), (53, .inr (.inl (0, prss))), (54, .inr (.inl (0, prrs))), (55, .inr (.inl (0, pfas)))] h0) := by
  show j_V jP d 61 0 [(0, .ref 4), (1, .ref 31)] [] h _
  obtain ⟨lv, elv, L⟩ : ∃ lv, lv = [(0, .ref 4), (1, .ref 31)] ∧ LK lv [(0, .ref 4), (1, .ref 31)] := ⟨_, rfl, LK.rf⟩
  rw [← elv]
  clear elv
  refine yb0s_k0 L (K.fi [4, 31] rfl rfl) (fun lv h9 L K9 => ?_)
  have K : KN h9 [(4, .inl (7, [.ref lys, .int mis, .int shus, .int buss, .ref 5, .ref 6, .ref 7, .ref 8, .ref 9, .ref 10, .ref 11, .ref 12, .ref 13, .ref 14, .ref 15, .int lkss, .ref 16, .ref 17, .ref 20])), (5, .inr (.inl (0, rk))), (6, .inr (.inl (0, sta))), (7, .inr (.inl (0, ph))), (8, .inr (.inl (0, sp))), (9, .inr (.inl (0, ce))), (10, .inr (.inl (0, du))), (11, .inr (.inl (0, he))), (12, .inr (.inl (0, ri))), (13, .inr (.inl (0, us))), (14, .inr (.inl (0, cm))), (15, .inr (.inl (0, lf))), (16, .inr (.inl (0, lkd))), (20, .inl (3, [.ref 21, .ref 22, .ref 23, .ref 24, .ref 25, .ref 26, .ref 27, .ref 28, .int pev, .int 1])), (21, .inr (.inl (0, pms))), (22, .inr (.inl (0, pmm))), (23, .inr (.inl (0, pmt))), (24, .inr (.inl (0, pst))), (25, .inr (.inl (0, pwa))), (26, .inr (.inl (0, prs))), (27, .inr (.inl (0, prr))), (28, .inr (.inl (0, pfa))), (31, .inl (7, [.ref lys, .int mis, .int shus, .int buss, .ref 32, .ref 33, .ref 34, .ref 35, .ref 36, .ref 37, .ref 38, .ref 39, .ref 40, .ref 41, .ref 42, .int lkss, .ref 43, .ref 44, .ref 47])), (32, .inr (.inl (0, rks))), (33, .inr (.inl (0, stas))), (34, .inr (.inl (0, phs))), (35, .inr (.inl (0, sps))), (36, .inr (.inl (0, ces))), (37, .inr (.inl (0, dus))), (38, .inr (.inl (0, hes))), (39, .inr (.inl (0, ris))), (40, .inr (.inl (0, uss))), (41, .inr (.inl (0, cms))), (42, .inr (.inl (0, lfs))), (43, .inr (.inl (0, lkds))), (47, .inl (3, [.ref 48, .ref 49, .ref 50, .ref 51, .ref 52, .ref 53, .ref 54, .ref 55, .int pevs, .int 1])), (48, .inr (.inl (0, pmss))), (49, .inr (.inl (0, pmms))), (50, .inr (.inl (0, pmts))), (51, .inr (.inl (0, psts))), (52, .inr (.inl (0, pwas))), (53, .inr (.inl (0, prss))), (54, .inr (.inl (0, prrs))), (55, .inr (.inl (0, pfas)))] h0 := K.mg K9 rfl rfl
  clear K9
  refine yb0s_k40 L (K.fi [4, 5, 6, 7, 31, 32, 33, 34] rfl rfl) (fun lv h9 L K9 => ?_)
  have K : KN h9 [(4, .inl (7, [.ref lys, .int mis, .int shus, .int buss, .ref 5, .ref 6, .ref 7, .ref 8, .ref 9, .ref 10, .ref 11, .ref 12, .ref 13, .ref 14, .ref 15, .int lkss, .ref 16, .ref 17, .ref 20])), (5, .inr (.inl (0, (aC 5 rks rk)))), (6, .inr (.inl (0, (aC 5 stas sta)))), (7, .inr (.inl (0, (aC 5 phs ph)))), (8, .inr (.inl (0, sp))), (9, .inr (.inl (0, ce))), (10, .inr (.inl (0, du))), (11, .inr (.inl (0, he))), (12, .inr (.inl (0, ri))), (13, .inr (.inl (0, us))), (14, .inr (.inl (0, cm))), (15, .inr (.inl (0, lf))), (16, .inr (.inl (0, lkd))), (20, .inl (3, [.ref 21, .ref 22, .ref 23, .ref 24, .ref 25, .ref 26, .ref 27, .ref 28, .int pev, .int 1])), (21, .inr (.inl (0, pms))), (22, .inr (.inl (0, pmm))), (23, .inr (.inl (0, pmt))), (24, .inr (.inl (0, pst))), (25, .inr (.inl (0, pwa))), (26, .inr (.inl (0, prs))), (27, .inr (.inl (0, prr))), (28, .inr (.inl (0, pfa))), (31, .inl (7, [.ref lys, .int mis, .int shus, .int buss, .ref 32, .ref 33, .ref 34, .ref 35, .ref 36, .ref 37, .ref 38, .ref 39, .ref 40, .ref 41, .ref 42, .int lkss, .ref 43, .ref 44, .ref 47])), (32, .inr (.inl (0, rks))), (33, .inr (.inl (0, stas))), (34, .inr (.inl (0, phs))), (35, .inr (.inl (0, sps))), (36, .inr (.inl (0, ces))), (37, .inr (.inl (0, dus))), (38, .inr (.inl (0, hes))), (39, .inr (.inl (0, ris))), (40, .inr (.inl (0, uss))), (41, .inr (.inl (0, cms))), (42, .inr (.inl (0, lfs))), (43, .inr (.inl (0, lkds))), (47, .inl (3, [.ref 48, .ref 49, .ref 50, .ref 51, .ref 52, .ref 53, .ref 54, .ref 55, .int pevs, .int 1])), (48, .inr (.inl (0, pmss))), (49, .inr (.inl (0, pmms))), (50, .inr (.inl (0, pmts))), (51, .inr (.inl (0, psts))), (52, .inr (.inl (0, pwas))), (53, .inr (.inl (0, prss))), (54, .inr (.inl (0, prrs))), (55, .inr (.inl (0, pfas)))] h0 := K.mg K9 rfl rfl
  clear K9
  refine yb0s_k82 L (K.fi [4, 8, 9, 10, 31, 35, 36, 37] rfl rfl) (fun lv h9 L K9 => ?_)
  have K : KN h9 [(4, .inl (7, [.ref lys, .int mis, .int shus, .int buss, .ref 5, .ref 6, .ref 7, .ref 8, .ref 9, .ref 10, .ref 11, .ref 12, .ref 13, .ref 14, .ref 15, .int lkss, .ref 16, .ref 17, .ref 20])), (5, .inr (.inl (0, (aC 5 rks rk)))), (6, .inr (.inl (0, (aC 5 stas sta)))), (7, .inr (.inl (0, (aC 5 phs ph)))), (8, .inr (.inl (0, (aC 5 sps sp)))), (9, .inr (.inl (0, (aC 5 ces ce)))), (10, .inr (.inl (0, (aC 5 dus du)))), (11, .inr (.inl (0, he))), (12, .inr (.inl (0, ri))), (13, .inr (.inl (0, us))), (14, .inr (.inl (0, cm))), (15, .inr (.inl (0, lf))), (16, .inr (.inl (0, lkd))), (20, .inl (3, [.ref 21, .ref 22, .ref 23, .ref 24, .ref 25, .ref 26, .ref 27, .ref 28, .int pev, .int 1])), (21, .inr (.inl (0, pms))), (22, .inr (.inl (0, pmm))), (23, .inr (.inl (0, pmt))), (24, .inr (.inl (0, pst))), (25, .inr (.inl (0, pwa))), (26, .inr (.inl (0, prs))), (27, .inr (.inl (0, prr))), (28, .inr (.inl (0, pfa))), (31, .inl (7, [.ref lys, .int mis, .int shus, .int buss, .ref 32, .ref 33, .ref 34, .ref 35, .ref 36, .ref 37, .ref 38, .ref 39, .ref 40, .ref 41, .ref 42, .int lkss, .ref 43, .ref 44, .ref 47])), (32, .inr (.inl (0, rks))), (33, .inr (.inl (0, stas))), (34, .inr (.inl (0, phs))), (35, .inr (.inl (0, sps))), (36, .inr (.inl (0, ces))), (37, .inr (.inl (0, dus))), (38, .inr (.inl (0, hes))), (39, .inr (.inl (0, ris))), (40, .inr (.inl (0, uss))), (41, .inr (.inl (0, cms))), (42, .inr (.inl (0, lfs))), (43, .inr (.inl (0, lkds))), (47, .inl (3, [.ref 48, .ref 49, .ref 50, .ref 51, .ref 52, .ref 53, .ref 54, .ref 55, .int pevs, .int 1])), (48, .inr (.inl (0, pmss))), (49, .inr (.inl (0, pmms))), (50, .inr (.inl (0, pmts))), (51, .inr (.inl (0, psts))), (52, .inr (.inl (0, pwas))), (53, .inr (.inl (0, prss))), (54, .inr (.inl (0, prrs))), (55, .inr (.inl (0, pfas)))] h0 := K.mg K9 rfl rfl
  clear K9
  refine yb0s_k124 L (K.fi [4, 11, 12, 13, 31, 38, 39, 40] rfl rfl) (fun lv h9 L K9 => ?_)
  have K : KN h9 [(4, .inl (7, [.ref lys, .int mis, .int shus, .int buss, .ref 5, .ref 6, .ref 7, .ref 8, .ref 9, .ref 10, .ref 11, .ref 12, .ref 13, .ref 14, .ref 15, .int lkss, .ref 16, .ref 17, .ref 20])), (5, .inr (.inl (0, (aC 5 rks rk)))), (6, .inr (.inl (0, (aC 5 stas sta)))), (7, .inr (.inl (0, (aC 5 phs ph)))), (8, .inr (.inl (0, (aC 5 sps sp)))), (9, .inr (.inl (0, (aC 5 ces ce)))), (10, .inr (.inl (0, (aC 5 dus du)))), (11, .inr (.inl (0, (aC 5 hes he)))), (12, .inr (.inl (0, (aC 6 ris ri)))), (13, .inr (.inl (0, (aC 6 uss us)))), (14, .inr (.inl (0, cm))), (15, .inr (.inl (0, lf))), (16, .inr (.inl (0, lkd))), (20, .inl (3, [.ref 21, .ref 22, .ref 23, .ref 24, .ref 25, .ref 26, .ref 27, .ref 28, .int pev, .int 1])), (21, .inr (.inl (0, pms))), (22, .inr (.inl (0, pmm))), (23, .inr (.inl (0, pmt))), (24, .inr (.inl (0, pst))), (25, .inr (.inl (0, pwa))), (26, .inr (.inl (0, prs))), (27, .inr (.inl (0, prr))), (28, .inr (.inl (0, pfa))), (31, .inl (7, [.ref lys, .int mis, .int shus, .int buss, .ref 32, .ref 33, .ref 34, .ref 35, .ref 36, .ref 37, .ref 38, .ref 39, .ref 40, .ref 41, .ref 42, .int lkss, .ref 43, .ref 44, .ref 47])), (32, .inr (.inl (0, rks))), (33, .inr (.inl (0, stas))), (34, .inr (.inl (0, phs))), (35, .inr (.inl (0, sps))), (36, .inr (.inl (0, ces))), (37, .inr (.inl (0, dus))), (38, .inr (.inl (0, hes))), (39, .inr (.inl (0, ris))), (40, .inr (.inl (0, uss))), (41, .inr (.inl (0, cms))), (42, .inr (.inl (0, lfs))), (43, .inr (.inl (0, lkds))), (47, .inl (3, [.ref 48, .ref 49, .ref 50, .ref 51, .ref 52, .ref 53, .ref 54, .ref 55, .int pevs, .int 1])), (48, .inr (.inl (0, pmss))), (49, .inr (.inl (0, pmms))), (50, .inr (.inl (0, pmts))), (51, .inr (.inl (0, psts))), (52, .inr (.inl (0, pwas))), (53, .inr (.inl (0, prss))), (54, .inr (.inl (0, prrs))), (55, .inr (.inl (0, pfas)))] h0 := K.mg K9 rfl rfl
  clear K9
  refine yb0s_k168 L (K.fi [4, 14, 15, 16, 31, 41, 42, 43] rfl rfl) (fun lv h9 L K9 => ?_)
  have K : KN h9 [(4, .inl (7, [.ref lys, .int mis, .int shus, .int buss, .ref 5, .ref 6, .ref 7, .ref 8, .ref 9, .ref 10, .ref 11, .ref 12, .ref 13, .ref 14, .ref 15, .int lkss, .ref 16, .ref 17, .ref 20])), (5, .inr (.inl (0, (aC 5 rks rk)))), (6, .inr (.inl (0, (aC 5 stas sta)))), (7, .inr (.inl (0, (aC 5 phs ph)))), (8, .inr (.inl (0, (aC 5 sps sp)))), (9, .inr (.inl (0, (aC 5 ces ce)))), (10, .inr (.inl (0, (aC 5 dus du)))), (11, .inr (.inl (0, (aC 5 hes he)))), (12, .inr (.inl (0, (aC 6 ris ri)))), (13, .inr (.inl (0, (aC 6 uss us)))), (14, .inr (.inl (0, (aC (nI cm.length) cms cm)))), (15, .inr (.inl (0, (aC (nI lf.length) lfs lf)))), (16, .inr (.inl (0, (aC (nI lkd.length) lkds lkd)))), (20, .inl (3, [.ref 21, .ref 22, .ref 23, .ref 24, .ref 25, .ref 26, .ref 27, .ref 28, .int pev, .int 1])), (21, .inr (.inl (0, pms))), (22, .inr (.inl (0, pmm))), (23, .inr (.inl (0, pmt))), (24, .inr (.inl (0, pst))), (25, .inr (.inl (0, pwa))), (26, .inr (.inl (0, prs))), (27, .inr (.inl (0, prr))), (28, .inr (.inl (0, pfa))), (31, .inl (7, [.ref lys, .int mis, .int shus, .int buss, .ref 32, .ref 33, .ref 34, .ref 35, .ref 36, .ref 37, .ref 38, .ref 39, .ref 40, .ref 41, .ref 42, .int lkss, .ref 43, .ref 44, .ref 47])), (32, .inr (.inl (0, rks))), (33, .inr (.inl (0, stas))), (34, .inr (.inl (0, phs))), (35, .inr (.inl (0, sps))), (36, .inr (.inl (0, ces))), (37, .inr (.inl (0, dus))), (38, .inr (.inl (0, hes))), (39, .inr (.inl (0, ris))), (40, .inr (.inl (0, uss))), (41, .inr (.inl (0, cms))), (42, .inr (.inl (0, lfs))), (43, .inr (.inl (0, lkds))), (47, .inl (3, [.ref 48, .ref 49, .ref 50, .ref 51, .ref 52, .ref 53, .ref 54, .ref 55, .int pevs, .int 1])), (48, .inr (.inl (0, pmss))), (49, .inr (.inl (0, pmms))), (50, .inr (.inl (0, pmts))), (51, .inr (.inl (0, psts))), (52, .inr (.inl (0, pwas))), (53, .inr (.inl (0, prss))), (54, .inr (.inl (0, prrs))), (55, .inr (.inl (0, pfas)))] h0 := K.mg K9 rfl rfl
  clear K9
  refine j_V.ldL yb0s_M yb0s_222 rfl (i := 0) (kd := 2) (v := .ref 4) (pcJ := 223) rfl L rfl rfl rfl ?_
  refine j_V.getK yb0s_M yb0s_223 (ci := 7) (j := 18) rfl K rfl rfl ?_
  refine j_V.ldL yb0s_M yb0s_226 rfl (i := 1) (kd := 2) (v := .ref 31) (pcJ := 227) rfl L rfl rfl rfl ?_
  refine j_V.getK yb0s_M yb0s_227 (ci := 7) (j := 18) rfl K rfl rfl ?_
  refine j_V.cl yb0s_M yb0s_230 rfl (md := 3) (mj := 28) rfl (by decide) yb0p_M (As := [.ref 20, .ref 47]) (rest := []) (jk_spl3 (K.at rfl) rfl rfl rfl (Nat.le_of_ble_eq_true rfl) (Nat.le_of_ble_eq_true rfl)) (fun d => yb0p_ok (K.fi [20, 21, 22, 23, 24, 25, 26, 27, 28, 47, 48, 49, 50, 51, 52, 53, 54, 55] rfl rfl)) ?_
  rintro r h9 ⟨rfl, K9⟩
  have K : KN h9 [(4, .inl (7, [.ref lys, .int mis, .int shus, .int buss, .ref 5, .ref 6, .ref 7, .ref 8, .ref 9, .ref 10, .ref 11, .ref 12, .ref 13, .ref 14, .ref 15, .int lkss, .ref 16, .ref 17, .ref 20])), (5, .inr (.inl (0, (aC 5 rks rk)))), (6, .inr (.inl (0, (aC 5 stas sta)))), (7, .inr (.inl (0, (aC 5 phs ph)))), (8, .inr (.inl (0, (aC 5 sps sp)))), (9, .inr (.inl (0, (aC 5 ces ce)))), (10, .inr (.inl (0, (aC 5 dus du)))), (11, .inr (.inl (0, (aC 5 hes he)))), (12, .inr (.inl (0, (aC 6 ris ri)))), (13, .inr (.inl (0, (aC 6 uss us)))), (14, .inr (.inl (0, (aC (nI cm.length) cms cm)))), (15, .inr (.inl (0, (aC (nI lf.length) lfs lf)))), (16, .inr (.inl (0, (aC (nI lkd.length) lkds lkd)))), (20, .inl (3, [.ref 21, .ref 22, .ref 23, .ref 24, .ref 25, .ref 26, .ref 27, .ref 28, .int pevs, .int 1])), (21, .inr (.inl (0, (aC (nI pms.length) pmss pms)))), (22, .inr (.inl (0, (aC (nI pmm.length) pmms pmm)))), (23, .inr (.inl (0, (aC (nI pmt.length) pmts pmt)))), (24, .inr (.inl (0, (aC (nI pst.length) psts pst)))), (25, .inr (.inl (0, (aC (nI pwa.length) pwas pwa)))), (26, .inr (.inl (0, (aC (nI prs.length) prss prs)))), (27, .inr (.inl (0, (aC (nI prr.length) prrs prr)))), (28, .inr (.inl (0, (aC (nI pfa.length) pfas pfa)))), (31, .inl (7, [.ref lys, .int mis, .int shus, .int buss, .ref 32, .ref 33, .ref 34, .ref 35, .ref 36, .ref 37, .ref 38, .ref 39, .ref 40, .ref 41, .ref 42, .int lkss, .ref 43, .ref 44, .ref 47])), (32, .inr (.inl (0, rks))), (33, .inr (.inl (0, stas))), (34, .inr (.inl (0, phs))), (35, .inr (.inl (0, sps))), (36, .inr (.inl (0, ces))), (37, .inr (.inl (0, dus))), (38, .inr (.inl (0, hes))), (39, .inr (.inl (0, ris))), (40, .inr (.inl (0, uss))), (41, .inr (.inl (0, cms))), (42, .inr (.inl (0, lfs))), (43, .inr (.inl (0, lkds))), (47, .inl (3, [.ref 48, .ref 49, .ref 50, .ref 51, .ref 52, .ref 53, .ref 54, .ref 55, .int pevs, .int 1])), (48, .inr (.inl (0, pmss))), (49, .inr (.inl (0, pmms))), (50, .inr (.inl (0, pmts))), (51, .inr (.inl (0, psts))), (52, .inr (.inl (0, pwas))), (53, .inr (.inl (0, prss))), (54, .inr (.inl (0, prrs))), (55, .inr (.inl (0, pfas)))] h0 := K.mg K9 rfl rfl
  clear K9
  show j_V jP _ 61 233 lv [] h9 _
  exact j_V.ret yb0s_M yb0s_233 rfl rfl ⟨rfl, K⟩
set_option maxRecDepth 100000 in
theorem yb0m_M : j_meth jP 3 = some (yX0_takeBack, cX0_takeBack, 2, none, 1, false, 0) := rfl
set_option maxRecDepth 100000 in
theorem yb0m_0 : j_code jP 3 0 = some (.aload_n 0) := rfl
set_option maxRecDepth 100000 in
theorem yb0m_1 : j_code jP 3 1 = some (.aload_n 0) := rfl
set_option maxRecDepth 100000 in
theorem yb0m_2 : j_code jP 3 2 = some (.getfield 24) := rfl
set_option maxRecDepth 100000 in
theorem yb0m_5 : j_code jP 3 5 = some (.bipush 10) := rfl
set_option maxRecDepth 100000 in
theorem yb0m_7 : j_code jP 3 7 = some (.iadd) := rfl
set_option maxRecDepth 100000 in
theorem yb0m_8 : j_code jP 3 8 = some (.iconst 1) := rfl
set_option maxRecDepth 100000 in
theorem yb0m_9 : j_code jP 3 9 = some (.isub) := rfl
set_option maxRecDepth 100000 in
theorem yb0m_10 : j_code jP 3 10 = some (.bipush 10) := rfl
set_option maxRecDepth 100000 in
theorem yb0m_12 : j_code jP 3 12 = some (.irem) := rfl
set_option maxRecDepth 100000 in
theorem yb0m_13 : j_code jP 3 13 = some (.putfield 24) := rfl
set_option maxRecDepth 100000 in
theorem yb0m_16 : j_code jP 3 16 = some (.aload_n 0) := rfl
set_option maxRecDepth 100000 in
theorem yb0m_17 : j_code jP 3 17 = some (.dup) := rfl
set_option maxRecDepth 100000 in
theorem yb0m_18 : j_code jP 3 18 = some (.getfield 20) := rfl
set_option maxRecDepth 100000 in
theorem yb0m_21 : j_code jP 3 21 = some (.iconst 1) := rfl
set_option maxRecDepth 100000 in
theorem yb0m_22 : j_code jP 3 22 = some (.isub) := rfl
set_option maxRecDepth 100000 in
theorem yb0m_23 : j_code jP 3 23 = some (.putfield 20) := rfl
set_option maxRecDepth 100000 in
theorem yb0m_26 : j_code jP 3 26 = some (.aload_n 1) := rfl
set_option maxRecDepth 100000 in
theorem yb0m_27 : j_code jP 3 27 = some (.aload_n 0) := rfl
set_option maxRecDepth 100000 in
theorem yb0m_28 : j_code jP 3 28 = some (.getfield 11) := rfl
set_option maxRecDepth 100000 in
theorem yb0m_31 : j_code jP 3 31 = some (.aload_n 0) := rfl
set_option maxRecDepth 100000 in
theorem yb0m_32 : j_code jP 3 32 = some (.getfield 24) := rfl
set_option maxRecDepth 100000 in
theorem yb0m_35 : j_code jP 3 35 = some (.aaload) := rfl
set_option maxRecDepth 100000 in
theorem yb0m_36 : j_code jP 3 36 = some (.invokevirtual 27) := rfl
set_option maxRecDepth 100000 in
theorem yb0m_39 : j_code jP 3 39 = some (.return_) := rfl
set_option maxRecDepth 1000000 in
theorem yb0m_ok {ly : Value} {mi : Int32} {shu : Int32} {bus : Int32} {lks : Int32} {rk : List Int32} {sta : List Int32} {ph : List Int32} {sp : List Int32} {ce : List Int32} {du : List Int32} {he : List Int32} {ri : List Int32} {us : List Int32} {cm : List Int32} {lf : List Int32} {lkd : List Int32} {pev : Int32} {pms : List Int32} {pmm : List Int32} {pmt : List Int32} {pst : List Int32} {pwa : List Int32} {prs : List Int32} {prr : List Int32} {pfa : List Int32} {lys : Nat} {mis : Int32} {shus : Int32} {buss : Int32} {lkss : Int32} {rks : List Int32} {stas : List Int32} {phs : List Int32} {sps : List Int32} {ces : List Int32} {dus : List Int32} {hes : List Int32} {ris : List Int32} {uss : List Int32} {cms : List Int32} {lfs : List Int32} {lkds : List Int32} {pevs : Int32} {pmss : List Int32} {pmms : List Int32} {pmts : List Int32} {psts : List Int32} {pwas : List Int32} {prss : List Int32} {prrs : List Int32} {pfas : List Int32} {acco : Int32} {d : Nat} {h h0 : J_H} (K : KN h [(4, .inl (7, [ly, .int mi, .int shu, .int bus, .ref 5, .ref 6, .ref 7, .ref 8, .ref 9, .ref 10, .ref 11, .ref 12, .ref 13, .ref 14, .ref 15, .int lks, .ref 16, .ref 17, .ref 20])), (5, .inr (.inl (0, rk))), (6, .inr (.inl (0, sta))), (7, .inr (.inl (0, ph))), (8, .inr (.inl (0, sp))), (9, .inr (.inl (0, ce))), (10, .inr (.inl (0, du))), (11, .inr (.inl (0, he))), (12, .inr (.inl (0, ri))), (13, .inr (.inl (0, us))), (14, .inr (.inl (0, cm))), (15, .inr (.inl (0, lf))), (16, .inr (.inl (0, lkd))), (20, .inl (3, [.ref 21, .ref 22, .ref 23, .ref 24, .ref 25, .ref 26, .ref 27, .ref 28, .int pev, .int 1])), (21, .inr (.inl (0, pms))), (22, .inr (.inl (0, pmm))), (23, .inr (.inl (0, pmt))), (24, .inr (.inl (0, pst))), (25, .inr (.inl (0, pwa))), (26, .inr (.inl (0, prs))), (27, .inr (.inl (0, prr))), (28, .inr (.inl (0, pfa))), (29, .inl (0, [.ref 30, .int 1, .int acco])), (30, .inr (.inr (.inr [some 31, some 56, some 81, some 106, some 131, some 156, some 181, some 206, some 231, some 256]))), (31, .inl (7, [.ref lys, .int mis, .int shus, .int buss, .ref 32, .ref 33, .ref 34, .ref 35, .ref 36, .ref 37, .ref 38, .ref 39, .ref 40, .ref 41, .ref 42, .int lkss, .ref 43, .ref 44, .ref 47])), (32, .inr (.inl (0, rks))), (33, .inr (.inl (0, stas))), (34, .inr (.inl (0, phs))), (35, .inr (.inl (0, sps))), (36, .inr (.inl (0, ces))), (37, .inr (.inl (0, dus))), (38, .inr (.inl (0, hes))), (39, .inr (.inl (0, ris))), (40, .inr (.inl (0, uss))), (41, .inr (.inl (0, cms))), (42, .inr (.inl (0, lfs))), (43, .inr (.inl (0, lkds))), (47, .inl (3, [.ref 48, .ref 49, .ref 50, .ref 51, .ref 52, .ref 53, .ref 54, .ref 55, .int pevs, .int 1])), (48, .inr (.inl (0, pmss))), (49, .inr (.inl (0, pmms))), (50, .inr (.inl (0, pmts))), (51, .inr (.inl (0, psts))), (52, .inr (.inl (0, pwas))), (53, .inr (.inl (0, prss))), (54, .inr (.inl (0, prrs))), (55, .inr (.inl (0, pfas)))] h0) : j_V jP d 3 0 (lv_args 0 [.ref 29, .ref 4]) [] h (fun rv h' => rv = none ∧ KN h' [(4, .inl (7, [.ref lys, .int mis, .int shus, .int buss, .ref 5, .ref 6, .ref 7, .ref 8, .ref 9, .ref 10, .ref 11, .ref 12, .ref 13, .ref 14, .ref 15, .int lkss, .ref 16, .ref 17, .ref 20])), (5, .inr (.inl (0, (aC 5 rks rk)))), (6, .inr (.inl (0, (aC 5 stas sta)))), (7, .inr (.inl (0, (aC 5 phs ph)))), (8, .inr (.inl (0, (aC 5 sps sp)))), (9, .inr (.inl (0, (aC 5 ces ce)))), (10, .inr (.inl (0, (aC 5 dus du)))), (11, .inr (.inl (0, (aC 5 hes he)))), (12, .inr (.inl (0, (aC 6 ris ri)))), (13, .inr (.inl (0, (aC 6 uss us)))), (14, .inr (.inl (0, (aC (nI cm.length) cms cm)))), (15, .inr (.inl (0, (aC (nI lf.length) lfs lf)))), (16, .inr (.inl (0, (aC (nI lkd.length) lkds lkd)))), (20, .inl (3, [.ref 21, .ref 22, .ref 23, .ref 24, .ref 25, .ref 26, .ref 27, .ref 28, .int pevs, .int 1])), (21, .inr (.inl (0, (aC (nI pms.length) pmss pms)))), (22, .inr (.inl (0, (aC (nI pmm.length) pmms pmm)))), (23, .inr (.inl (0, (aC (nI pmt.length) pmts pmt)))), (24, .inr (.inl (0, (aC (nI pst.length) psts pst)))), (25, .inr (.inl (0, (aC (nI pwa.length) pwas pwa)))), (26, .inr (.inl (0, (aC (nI prs.length) prss prs)))), (27, .inr (.inl (0, (aC (nI prr.length) prrs prr)))), (28, .inr (.inl (0, (aC (nI pfa.length) pfas pfa)))), (29, .inl (0, [.ref 30, .int 0, .int (acco - 1)])), (30, .inr (.inr (.inr [some 31, some 56, some 81, some 106, some 131, some 156, some 181, some 206, some 231, some 256]))), (31, .inl (7, [.ref lys, .int mis, .int shus, .int buss, .ref 32, .ref 33, .ref 34, .ref 35, .ref 36, .ref 37, .ref 38, .ref 39, .ref 40, .ref 41, .ref 42, .int lkss, .ref 43, .ref 44, .ref 47])), (32, .inr (.inl (0, rks))), (33, .inr (.inl (0, stas))), (34, .inr (.inl (0, phs))), (35, .inr (.inl (0, sps))), (36, .inr (.inl (0, ces))), (37, .inr (.inl (0, dus))), (38, .inr (.inl (0, hes))), (39, .inr (.inl (0, ris))), (40, .inr (.inl (0, uss))), (41, .inr (.inl (0, cms))), (42, .inr (.inl (0, lfs))), (43, .inr (.inl (0, lkds))), (47, .inl (3, [.ref 48, .ref 49, .ref 50, .ref 51, .ref 52, .ref 53, .ref 54, .ref 55, .int pevs, .int 1])), (48, .inr (.inl (0, pmss))), (49, .inr (.inl (0, pmms))), (50, .inr (.inl (0, pmts))), (51, .inr (.inl (0, psts))), (52, .inr (.inl (0, pwas))), (53, .inr (.inl (0, prss))), (54, .inr (.inl (0, prrs))), (55, .inr (.inl (0, pfas)))] h0) := by
  show j_V jP d 3 0 [(0, .ref 29), (1, .ref 4)] [] h _
  obtain ⟨lv, elv, L⟩ : ∃ lv, lv = [(0, .ref 29), (1, .ref 4)] ∧ LK lv [(0, .ref 29), (1, .ref 4)] := ⟨_, rfl, LK.rf⟩
  rw [← elv]
  clear elv
  refine j_V.ldL yb0m_M yb0m_0 rfl (i := 0) (kd := 2) (v := .ref 29) (pcJ := 1) rfl L rfl rfl rfl ?_
  refine j_V.ldL yb0m_M yb0m_1 rfl (i := 0) (kd := 2) (v := .ref 29) (pcJ := 2) rfl L rfl rfl rfl ?_
  refine j_V.getK yb0m_M yb0m_2 (ci := 0) (j := 1) rfl K rfl rfl ?_
  refine j_V.one yb0m_M yb0m_5 (by decide) (pcJ := 7) (stJ := [.int 10, .int 1, .ref 29]) rfl ?_
  refine j_V.one yb0m_M yb0m_7 (by decide) (pcJ := 8) (stJ := [.int 11, .ref 29]) rfl ?_
  refine j_V.one yb0m_M yb0m_8 (by decide) (pcJ := 9) (stJ := [.int 1, .int 11, .ref 29]) rfl ?_
  refine j_V.one yb0m_M yb0m_9 (by decide) (pcJ := 10) (stJ := [.int 10, .ref 29]) rfl ?_
  refine j_V.one yb0m_M yb0m_10 (by decide) (pcJ := 12) (stJ := [.int 10, .int 10, .ref 29]) rfl ?_
  refine j_V.one yb0m_M yb0m_12 (by decide) (pcJ := 13) (stJ := [.int 0, .ref 29]) rfl ?_
  refine j_V.putK yb0m_M yb0m_13 (ci := 0) (j := 1) (k' := [(4, .inl (7, [ly, .int mi, .int shu, .int bus, .ref 5, .ref 6, .ref 7, .ref 8, .ref 9, .ref 10, .ref 11, .ref 12, .ref 13, .ref 14, .ref 15, .int lks, .ref 16, .ref 17, .ref 20])), (5, .inr (.inl (0, rk))), (6, .inr (.inl (0, sta))), (7, .inr (.inl (0, ph))), (8, .inr (.inl (0, sp))), (9, .inr (.inl (0, ce))), (10, .inr (.inl (0, du))), (11, .inr (.inl (0, he))), (12, .inr (.inl (0, ri))), (13, .inr (.inl (0, us))), (14, .inr (.inl (0, cm))), (15, .inr (.inl (0, lf))), (16, .inr (.inl (0, lkd))), (20, .inl (3, [.ref 21, .ref 22, .ref 23, .ref 24, .ref 25, .ref 26, .ref 27, .ref 28, .int pev, .int 1])), (21, .inr (.inl (0, pms))), (22, .inr (.inl (0, pmm))), (23, .inr (.inl (0, pmt))), (24, .inr (.inl (0, pst))), (25, .inr (.inl (0, pwa))), (26, .inr (.inl (0, prs))), (27, .inr (.inl (0, prr))), (28, .inr (.inl (0, pfa))), (29, .inl (0, [.ref 30, .int 0, .int acco])), (30, .inr (.inr (.inr [some 31, some 56, some 81, some 106, some 131, some 156, some 181, some 206, some 231, some 256]))), (31, .inl (7, [.ref lys, .int mis, .int shus, .int buss, .ref 32, .ref 33, .ref 34, .ref 35, .ref 36, .ref 37, .ref 38, .ref 39, .ref 40, .ref 41, .ref 42, .int lkss, .ref 43, .ref 44, .ref 47])), (32, .inr (.inl (0, rks))), (33, .inr (.inl (0, stas))), (34, .inr (.inl (0, phs))), (35, .inr (.inl (0, sps))), (36, .inr (.inl (0, ces))), (37, .inr (.inl (0, dus))), (38, .inr (.inl (0, hes))), (39, .inr (.inl (0, ris))), (40, .inr (.inl (0, uss))), (41, .inr (.inl (0, cms))), (42, .inr (.inl (0, lfs))), (43, .inr (.inl (0, lkds))), (47, .inl (3, [.ref 48, .ref 49, .ref 50, .ref 51, .ref 52, .ref 53, .ref 54, .ref 55, .int pevs, .int 1])), (48, .inr (.inl (0, pmss))), (49, .inr (.inl (0, pmms))), (50, .inr (.inl (0, pmts))), (51, .inr (.inl (0, psts))), (52, .inr (.inl (0, pwas))), (53, .inr (.inl (0, prss))), (54, .inr (.inl (0, prrs))), (55, .inr (.inl (0, pfas)))]) rfl K rfl (Nat.le_of_ble_eq_true rfl) rfl (Or.inl rfl) rfl rfl (fun h K => ?_)
  refine j_V.ldL yb0m_M yb0m_16 rfl (i := 0) (kd := 2) (v := .ref 29) (pcJ := 17) rfl L rfl rfl rfl ?_
  refine j_V.one yb0m_M yb0m_17 (by decide) (pcJ := 18) (stJ := [.ref 29, .ref 29]) rfl ?_
  refine j_V.getK yb0m_M yb0m_18 (ci := 0) (j := 2) rfl K rfl rfl ?_
  refine j_V.one yb0m_M yb0m_21 (by decide) (pcJ := 22) (stJ := [.int 1, .int acco, .ref 29]) rfl ?_
  refine j_V.one yb0m_M yb0m_22 (by decide) (pcJ := 23) (stJ := [.int (acco - 1), .ref 29]) rfl ?_
  refine j_V.putK yb0m_M yb0m_23 (ci := 0) (j := 2) (k' := [(4, .inl (7, [ly, .int mi, .int shu, .int bus, .ref 5, .ref 6, .ref 7, .ref 8, .ref 9, .ref 10, .ref 11, .ref 12, .ref 13, .ref 14, .ref 15, .int lks, .ref 16, .ref 17, .ref 20])), (5, .inr (.inl (0, rk))), (6, .inr (.inl (0, sta))), (7, .inr (.inl (0, ph))), (8, .inr (.inl (0, sp))), (9, .inr (.inl (0, ce))), (10, .inr (.inl (0, du))), (11, .inr (.inl (0, he))), (12, .inr (.inl (0, ri))), (13, .inr (.inl (0, us))), (14, .inr (.inl (0, cm))), (15, .inr (.inl (0, lf))), (16, .inr (.inl (0, lkd))), (20, .inl (3, [.ref 21, .ref 22, .ref 23, .ref 24, .ref 25, .ref 26, .ref 27, .ref 28, .int pev, .int 1])), (21, .inr (.inl (0, pms))), (22, .inr (.inl (0, pmm))), (23, .inr (.inl (0, pmt))), (24, .inr (.inl (0, pst))), (25, .inr (.inl (0, pwa))), (26, .inr (.inl (0, prs))), (27, .inr (.inl (0, prr))), (28, .inr (.inl (0, pfa))), (29, .inl (0, [.ref 30, .int 0, .int (acco - 1)])), (30, .inr (.inr (.inr [some 31, some 56, some 81, some 106, some 131, some 156, some 181, some 206, some 231, some 256]))), (31, .inl (7, [.ref lys, .int mis, .int shus, .int buss, .ref 32, .ref 33, .ref 34, .ref 35, .ref 36, .ref 37, .ref 38, .ref 39, .ref 40, .ref 41, .ref 42, .int lkss, .ref 43, .ref 44, .ref 47])), (32, .inr (.inl (0, rks))), (33, .inr (.inl (0, stas))), (34, .inr (.inl (0, phs))), (35, .inr (.inl (0, sps))), (36, .inr (.inl (0, ces))), (37, .inr (.inl (0, dus))), (38, .inr (.inl (0, hes))), (39, .inr (.inl (0, ris))), (40, .inr (.inl (0, uss))), (41, .inr (.inl (0, cms))), (42, .inr (.inl (0, lfs))), (43, .inr (.inl (0, lkds))), (47, .inl (3, [.ref 48, .ref 49, .ref 50, .ref 51, .ref 52, .ref 53, .ref 54, .ref 55, .int pevs, .int 1])), (48, .inr (.inl (0, pmss))), (49, .inr (.inl (0, pmms))), (50, .inr (.inl (0, pmts))), (51, .inr (.inl (0, psts))), (52, .inr (.inl (0, pwas))), (53, .inr (.inl (0, prss))), (54, .inr (.inl (0, prrs))), (55, .inr (.inl (0, pfas)))]) rfl K rfl (Nat.le_of_ble_eq_true rfl) rfl (Or.inl rfl) rfl rfl (fun h K => ?_)
  refine j_V.ldL yb0m_M yb0m_26 rfl (i := 1) (kd := 2) (v := .ref 4) (pcJ := 27) rfl L rfl rfl rfl ?_
  refine j_V.ldL yb0m_M yb0m_27 rfl (i := 0) (kd := 2) (v := .ref 29) (pcJ := 28) rfl L rfl rfl rfl ?_
  refine j_V.getK yb0m_M yb0m_28 (ci := 0) (j := 0) rfl K rfl rfl ?_
  refine j_V.ldL yb0m_M yb0m_31 rfl (i := 0) (kd := 2) (v := .ref 29) (pcJ := 32) rfl L rfl rfl rfl ?_
  refine j_V.getK yb0m_M yb0m_32 (ci := 0) (j := 1) rfl K rfl rfl ?_
  refine j_V.aaA yb0m_M yb0m_35 K rfl (i := 0) (v := 31) rfl rfl ?_
  refine j_V.cl yb0m_M yb0m_36 rfl (md := 3) (mj := 61) rfl (by decide) yb0s_M (As := [.ref 4, .ref 31]) (rest := []) (jk_spl3 (K.at rfl) rfl rfl rfl (Nat.le_of_ble_eq_true rfl) (Nat.le_of_ble_eq_true rfl)) (fun d => yb0s_ok (K.fi [4, 5, 6, 7, 8, 9, 10, 11, 12, 13, 14, 15, 16, 20, 21, 22, 23, 24, 25, 26, 27, 28, 31, 32, 33, 34, 35, 36, 37, 38, 39, 40, 41, 42, 43, 47, 48, 49, 50, 51, 52, 53, 54, 55] rfl rfl)) ?_
  rintro r h9 ⟨rfl, K9⟩
  have K : KN h9 [(4, .inl (7, [.ref lys, .int mis, .int shus, .int buss, .ref 5, .ref 6, .ref 7, .ref 8, .ref 9, .ref 10, .ref 11, .ref 12, .ref 13, .ref 14, .ref 15, .int lkss, .ref 16, .ref 17, .ref 20])), (5, .inr (.inl (0, (aC 5 rks rk)))), (6, .inr (.inl (0, (aC 5 stas sta)))), (7, .inr (.inl (0, (aC 5 phs ph)))), (8, .inr (.inl (0, (aC 5 sps sp)))), (9, .inr (.inl (0, (aC 5 ces ce)))), (10, .inr (.inl (0, (aC 5 dus du)))), (11, .inr (.inl (0, (aC 5 hes he)))), (12, .inr (.inl (0, (aC 6 ris ri)))), (13, .inr (.inl (0, (aC 6 uss us)))), (14, .inr (.inl (0, (aC (nI cm.length) cms cm)))), (15, .inr (.inl (0, (aC (nI lf.length) lfs lf)))), (16, .inr (.inl (0, (aC (nI lkd.length) lkds lkd)))), (20, .inl (3, [.ref 21, .ref 22, .ref 23, .ref 24, .ref 25, .ref 26, .ref 27, .ref 28, .int pevs, .int 1])), (21, .inr (.inl (0, (aC (nI pms.length) pmss pms)))), (22, .inr (.inl (0, (aC (nI pmm.length) pmms pmm)))), (23, .inr (.inl (0, (aC (nI pmt.length) pmts pmt)))), (24, .inr (.inl (0, (aC (nI pst.length) psts pst)))), (25, .inr (.inl (0, (aC (nI pwa.length) pwas pwa)))), (26, .inr (.inl (0, (aC (nI prs.length) prss prs)))), (27, .inr (.inl (0, (aC (nI prr.length) prrs prr)))), (28, .inr (.inl (0, (aC (nI pfa.length) pfas pfa)))), (29, .inl (0, [.ref 30, .int 0, .int (acco - 1)])), (30, .inr (.inr (.inr [some 31, some 56, some 81, some 106, some 131, some 156, some 181, some 206, some 231, some 256]))), (31, .inl (7, [.ref lys, .int mis, .int shus, .int buss, .ref 32, .ref 33, .ref 34, .ref 35, .ref 36, .ref 37, .ref 38, .ref 39, .ref 40, .ref 41, .ref 42, .int lkss, .ref 43, .ref 44, .ref 47])), (32, .inr (.inl (0, rks))), (33, .inr (.inl (0, stas))), (34, .inr (.inl (0, phs))), (35, .inr (.inl (0, sps))), (36, .inr (.inl (0, ces))), (37, .inr (.inl (0, dus))), (38, .inr (.inl (0, hes))), (39, .inr (.inl (0, ris))), (40, .inr (.inl (0, uss))), (41, .inr (.inl (0, cms))), (42, .inr (.inl (0, lfs))), (43, .inr (.inl (0, lkds))), (47, .inl (3, [.ref 48, .ref 49, .ref 50, .ref 51, .ref 52, .ref 53, .ref 54, .ref 55, .int pevs, .int 1])), (48, .inr (.inl (0, pmss))), (49, .inr (.inl (0, pmms))), (50, .inr (.inl (0, pmts))), (51, .inr (.inl (0, psts))), (52, .inr (.inl (0, pwas))), (53, .inr (.inl (0, prss))), (54, .inr (.inl (0, prrs))), (55, .inr (.inl (0, pfas)))] h0 := K.mg K9 rfl rfl
  clear K9
  show j_V jP _ 3 39 lv [] h9 _
  exact j_V.ret yb0m_M yb0m_39 rfl rfl ⟨rfl, K⟩
set_option maxRecDepth 100000 in
theorem yb1p_M : j_meth jP 28 = some (yX3_copyFrom, cX3_copyFrom, 2, none, 1, false, 3) := rfl
set_option maxRecDepth 100000 in
theorem yb1p_0 : j_code jP 28 0 = some (.aload_n 0) := rfl
set_option maxRecDepth 100000 in
theorem yb1p_1 : j_code jP 28 1 = some (.getfield 36) := rfl
set_option maxRecDepth 100000 in
theorem yb1p_4 : j_code jP 28 4 = some (.ifCond .ne 4) := rfl
set_option maxRecDepth 100000 in
theorem yb1p_7 : j_code jP 28 7 = some (.return_) := rfl
set_option maxRecDepth 100000 in
theorem yb1p_8 : j_code jP 28 8 = some (.aload_n 1) := rfl
set_option maxRecDepth 100000 in
theorem yb1p_9 : j_code jP 28 9 = some (.getfield 9) := rfl
set_option maxRecDepth 100000 in
theorem yb1p_12 : j_code jP 28 12 = some (.iconst 0) := rfl
set_option maxRecDepth 100000 in
theorem yb1p_13 : j_code jP 28 13 = some (.aload_n 0) := rfl
set_option maxRecDepth 100000 in
theorem yb1p_14 : j_code jP 28 14 = some (.getfield 9) := rfl
set_option maxRecDepth 100000 in
theorem yb1p_17 : j_code jP 28 17 = some (.iconst 0) := rfl
set_option maxRecDepth 100000 in
theorem yb1p_18 : j_code jP 28 18 = some (.aload_n 0) := rfl
set_option maxRecDepth 100000 in
theorem yb1p_19 : j_code jP 28 19 = some (.getfield 9) := rfl
set_option maxRecDepth 100000 in
theorem yb1p_22 : j_code jP 28 22 = some (.arraylength) := rfl
set_option maxRecDepth 100000 in
theorem yb1p_23 : j_code jP 28 23 = some (.invokestatic 50) := rfl
set_option maxRecDepth 100000 in
theorem yb1p_26 : j_code jP 28 26 = some (.aload_n 1) := rfl
set_option maxRecDepth 100000 in
theorem yb1p_27 : j_code jP 28 27 = some (.getfield 15) := rfl
set_option maxRecDepth 100000 in
theorem yb1p_30 : j_code jP 28 30 = some (.iconst 0) := rfl
set_option maxRecDepth 100000 in
theorem yb1p_31 : j_code jP 28 31 = some (.aload_n 0) := rfl
set_option maxRecDepth 100000 in
theorem yb1p_32 : j_code jP 28 32 = some (.getfield 15) := rfl
set_option maxRecDepth 100000 in
theorem yb1p_35 : j_code jP 28 35 = some (.iconst 0) := rfl
set_option maxRecDepth 100000 in
theorem yb1p_36 : j_code jP 28 36 = some (.aload_n 0) := rfl
set_option maxRecDepth 100000 in
theorem yb1p_37 : j_code jP 28 37 = some (.getfield 15) := rfl
set_option maxRecDepth 100000 in
theorem yb1p_40 : j_code jP 28 40 = some (.arraylength) := rfl
set_option maxRecDepth 100000 in
theorem yb1p_41 : j_code jP 28 41 = some (.invokestatic 50) := rfl
set_option maxRecDepth 100000 in
theorem yb1p_44 : j_code jP 28 44 = some (.aload_n 1) := rfl
set_option maxRecDepth 100000 in
theorem yb1p_45 : j_code jP 28 45 = some (.getfield 18) := rfl
set_option maxRecDepth 100000 in
theorem yb1p_48 : j_code jP 28 48 = some (.iconst 0) := rfl
set_option maxRecDepth 100000 in
theorem yb1p_49 : j_code jP 28 49 = some (.aload_n 0) := rfl
set_option maxRecDepth 100000 in
theorem yb1p_50 : j_code jP 28 50 = some (.getfield 18) := rfl
set_option maxRecDepth 100000 in
theorem yb1p_53 : j_code jP 28 53 = some (.iconst 0) := rfl
set_option maxRecDepth 100000 in
theorem yb1p_54 : j_code jP 28 54 = some (.aload_n 0) := rfl
set_option maxRecDepth 100000 in
theorem yb1p_55 : j_code jP 28 55 = some (.getfield 18) := rfl
set_option maxRecDepth 100000 in
theorem yb1p_58 : j_code jP 28 58 = some (.arraylength) := rfl
set_option maxRecDepth 100000 in
theorem yb1p_59 : j_code jP 28 59 = some (.invokestatic 50) := rfl
set_option maxRecDepth 100000 in
theorem yb1p_62 : j_code jP 28 62 = some (.aload_n 1) := rfl
set_option maxRecDepth 100000 in
theorem yb1p_63 : j_code jP 28 63 = some (.getfield 21) := rfl
set_option maxRecDepth 100000 in
theorem yb1p_66 : j_code jP 28 66 = some (.iconst 0) := rfl
set_option maxRecDepth 100000 in
theorem yb1p_67 : j_code jP 28 67 = some (.aload_n 0) := rfl
set_option maxRecDepth 100000 in
theorem yb1p_68 : j_code jP 28 68 = some (.getfield 21) := rfl
set_option maxRecDepth 100000 in
theorem yb1p_71 : j_code jP 28 71 = some (.iconst 0) := rfl
set_option maxRecDepth 100000 in
theorem yb1p_72 : j_code jP 28 72 = some (.aload_n 0) := rfl
set_option maxRecDepth 100000 in
theorem yb1p_73 : j_code jP 28 73 = some (.getfield 21) := rfl
set_option maxRecDepth 100000 in
theorem yb1p_76 : j_code jP 28 76 = some (.arraylength) := rfl
set_option maxRecDepth 100000 in
theorem yb1p_77 : j_code jP 28 77 = some (.invokestatic 50) := rfl
set_option maxRecDepth 100000 in
theorem yb1p_80 : j_code jP 28 80 = some (.aload_n 1) := rfl
set_option maxRecDepth 100000 in
theorem yb1p_81 : j_code jP 28 81 = some (.getfield 24) := rfl
set_option maxRecDepth 100000 in
theorem yb1p_84 : j_code jP 28 84 = some (.iconst 0) := rfl
set_option maxRecDepth 100000 in
theorem yb1p_85 : j_code jP 28 85 = some (.aload_n 0) := rfl
set_option maxRecDepth 100000 in
theorem yb1p_86 : j_code jP 28 86 = some (.getfield 24) := rfl
set_option maxRecDepth 100000 in
theorem yb1p_89 : j_code jP 28 89 = some (.iconst 0) := rfl
set_option maxRecDepth 100000 in
theorem yb1p_90 : j_code jP 28 90 = some (.aload_n 0) := rfl
set_option maxRecDepth 100000 in
theorem yb1p_91 : j_code jP 28 91 = some (.getfield 24) := rfl
set_option maxRecDepth 100000 in
theorem yb1p_94 : j_code jP 28 94 = some (.arraylength) := rfl
set_option maxRecDepth 100000 in
theorem yb1p_95 : j_code jP 28 95 = some (.invokestatic 50) := rfl
set_option maxRecDepth 100000 in
theorem yb1p_98 : j_code jP 28 98 = some (.aload_n 1) := rfl
set_option maxRecDepth 100000 in
theorem yb1p_99 : j_code jP 28 99 = some (.getfield 27) := rfl
set_option maxRecDepth 100000 in
theorem yb1p_102 : j_code jP 28 102 = some (.iconst 0) := rfl
set_option maxRecDepth 100000 in
theorem yb1p_103 : j_code jP 28 103 = some (.aload_n 0) := rfl
set_option maxRecDepth 100000 in
theorem yb1p_104 : j_code jP 28 104 = some (.getfield 27) := rfl
set_option maxRecDepth 100000 in
theorem yb1p_107 : j_code jP 28 107 = some (.iconst 0) := rfl
set_option maxRecDepth 100000 in
theorem yb1p_108 : j_code jP 28 108 = some (.aload_n 0) := rfl
set_option maxRecDepth 100000 in
theorem yb1p_109 : j_code jP 28 109 = some (.getfield 27) := rfl
set_option maxRecDepth 100000 in
theorem yb1p_112 : j_code jP 28 112 = some (.arraylength) := rfl
set_option maxRecDepth 100000 in
theorem yb1p_113 : j_code jP 28 113 = some (.invokestatic 50) := rfl
set_option maxRecDepth 100000 in
theorem yb1p_116 : j_code jP 28 116 = some (.aload_n 1) := rfl
set_option maxRecDepth 100000 in
theorem yb1p_117 : j_code jP 28 117 = some (.getfield 30) := rfl
set_option maxRecDepth 100000 in
theorem yb1p_120 : j_code jP 28 120 = some (.iconst 0) := rfl
set_option maxRecDepth 100000 in
theorem yb1p_121 : j_code jP 28 121 = some (.aload_n 0) := rfl
set_option maxRecDepth 100000 in
theorem yb1p_122 : j_code jP 28 122 = some (.getfield 30) := rfl
set_option maxRecDepth 100000 in
theorem yb1p_125 : j_code jP 28 125 = some (.iconst 0) := rfl
set_option maxRecDepth 100000 in
theorem yb1p_126 : j_code jP 28 126 = some (.aload_n 0) := rfl
set_option maxRecDepth 100000 in
theorem yb1p_127 : j_code jP 28 127 = some (.getfield 30) := rfl
set_option maxRecDepth 100000 in
theorem yb1p_130 : j_code jP 28 130 = some (.arraylength) := rfl
set_option maxRecDepth 100000 in
theorem yb1p_131 : j_code jP 28 131 = some (.invokestatic 50) := rfl
set_option maxRecDepth 100000 in
theorem yb1p_134 : j_code jP 28 134 = some (.aload_n 1) := rfl
set_option maxRecDepth 100000 in
theorem yb1p_135 : j_code jP 28 135 = some (.getfield 33) := rfl
set_option maxRecDepth 100000 in
theorem yb1p_138 : j_code jP 28 138 = some (.iconst 0) := rfl
set_option maxRecDepth 100000 in
theorem yb1p_139 : j_code jP 28 139 = some (.aload_n 0) := rfl
set_option maxRecDepth 100000 in
theorem yb1p_140 : j_code jP 28 140 = some (.getfield 33) := rfl
set_option maxRecDepth 100000 in
theorem yb1p_143 : j_code jP 28 143 = some (.iconst 0) := rfl
set_option maxRecDepth 100000 in
theorem yb1p_144 : j_code jP 28 144 = some (.aload_n 0) := rfl
set_option maxRecDepth 100000 in
theorem yb1p_145 : j_code jP 28 145 = some (.getfield 33) := rfl
set_option maxRecDepth 100000 in
theorem yb1p_148 : j_code jP 28 148 = some (.arraylength) := rfl
set_option maxRecDepth 100000 in
theorem yb1p_149 : j_code jP 28 149 = some (.invokestatic 50) := rfl
set_option maxRecDepth 100000 in
theorem yb1p_152 : j_code jP 28 152 = some (.aload_n 0) := rfl
set_option maxRecDepth 100000 in
theorem yb1p_153 : j_code jP 28 153 = some (.aload_n 1) := rfl
set_option maxRecDepth 100000 in
theorem yb1p_154 : j_code jP 28 154 = some (.getfield 46) := rfl
set_option maxRecDepth 100000 in
theorem yb1p_157 : j_code jP 28 157 = some (.putfield 46) := rfl
set_option maxRecDepth 100000 in
theorem yb1p_160 : j_code jP 28 160 = some (.return_) := rfl
set_option maxRecDepth 1000000 in
theorem yb1p_k8 {pev : Int32} {pms : List Int32} {pmm : List Int32} {pevs : Int32} {pmss : List Int32} {pmms : List Int32} {d : Nat} {lv : J_L} {h h0 : J_H} {Q : Option Value → J_H → Prop} (L : LK lv [(0, .ref 20), (1, .ref 72)]) (K : KN h [(20, .inl (3, [.ref 21, .ref 22, .ref 23, .ref 24, .ref 25, .ref 26, .ref 27, .ref 28, .int pev, .int 1])), (21, .inr (.inl (0, pms))), (22, .inr (.inl (0, pmm))), (72, .inl (3, [.ref 73, .ref 74, .ref 75, .ref 76, .ref 77, .ref 78, .ref 79, .ref 80, .int pevs, .int 1])), (73, .inr (.inl (0, pmss))), (74, .inr (.inl (0, pmms)))] h0) (kk : ∀ lv h, LK lv [(0, .ref 20), (1, .ref 72)] → KN h [(20, .inl (3, [.ref 21, .ref 22, .ref 23, .ref 24, .ref 25, .ref 26, .ref 27, .ref 28, .int pev, .int 1])), (21, .inr (.inl (0, (aC (nI pms.length) pmss pms)))), (22, .inr (.inl (0, (aC (nI pmm.length) pmms pmm)))), (72, .inl (3, [.ref 73, .ref 74, .ref 75, .ref 76, .ref 77, .ref 78, .ref 79, .ref 80, .int pevs, .int 1])), (73, .inr (.inl (0, pmss))), (74, .inr (.inl (0, pmms)))] h0 → j_V jP d 28 44 lv [] h Q) : j_V jP d 28 8 lv [] h Q := by
  refine j_V.ldL yb1p_M yb1p_8 rfl (i := 1) (kd := 2) (v := .ref 72) (pcJ := 9) rfl L rfl rfl rfl ?_
  refine j_V.getK yb1p_M yb1p_9 (ci := 3) (j := 0) rfl K rfl rfl ?_
  refine j_V.one yb1p_M yb1p_12 (by decide) (pcJ := 13) (stJ := [.int 0, .ref 73]) rfl ?_
  refine j_V.ldL yb1p_M yb1p_13 rfl (i := 0) (kd := 2) (v := .ref 20) (pcJ := 14) rfl L rfl rfl rfl ?_
  refine j_V.getK yb1p_M yb1p_14 (ci := 3) (j := 0) rfl K rfl rfl ?_
  refine j_V.one yb1p_M yb1p_17 (by decide) (pcJ := 18) (stJ := [.int 0, .ref 21, .int 0, .ref 73]) rfl ?_
  refine j_V.ldL yb1p_M yb1p_18 rfl (i := 0) (kd := 2) (v := .ref 20) (pcJ := 19) rfl L rfl rfl rfl ?_
  refine j_V.getK yb1p_M yb1p_19 (ci := 3) (j := 0) rfl K rfl rfl ?_
  refine j_V.alnA yb1p_M yb1p_22 K rfl ?_
  refine j_V.acp yb1p_M yb1p_23 rfl rfl K rfl rfl rfl (fun h K => ?_)
  refine j_V.ldL yb1p_M yb1p_26 rfl (i := 1) (kd := 2) (v := .ref 72) (pcJ := 27) rfl L rfl rfl rfl ?_
  refine j_V.getK yb1p_M yb1p_27 (ci := 3) (j := 1) rfl K rfl rfl ?_
  refine j_V.one yb1p_M yb1p_30 (by decide) (pcJ := 31) (stJ := [.int 0, .ref 74]) rfl ?_
  refine j_V.ldL yb1p_M yb1p_31 rfl (i := 0) (kd := 2) (v := .ref 20) (pcJ := 32) rfl L rfl rfl rfl ?_
  refine j_V.getK yb1p_M yb1p_32 (ci := 3) (j := 1) rfl K rfl rfl ?_
  refine j_V.one yb1p_M yb1p_35 (by decide) (pcJ := 36) (stJ := [.int 0, .ref 22, .int 0, .ref 74]) rfl ?_
  refine j_V.ldL yb1p_M yb1p_36 rfl (i := 0) (kd := 2) (v := .ref 20) (pcJ := 37) rfl L rfl rfl rfl ?_
  refine j_V.getK yb1p_M yb1p_37 (ci := 3) (j := 1) rfl K rfl rfl ?_
  refine j_V.alnA yb1p_M yb1p_40 K rfl ?_
  refine j_V.acp yb1p_M yb1p_41 rfl rfl K rfl rfl rfl (fun h K => ?_)
  exact kk _ _ L K
set_option maxRecDepth 1000000 in
theorem yb1p_k44 {pev : Int32} {pmt : List Int32} {pst : List Int32} {pevs : Int32} {pmts : List Int32} {psts : List Int32} {d : Nat} {lv : J_L} {h h0 : J_H} {Q : Option Value → J_H → Prop} (L : LK lv [(0, .ref 20), (1, .ref 72)]) (K : KN h [(20, .inl (3, [.ref 21, .ref 22, .ref 23, .ref 24, .ref 25, .ref 26, .ref 27, .ref 28, .int pev, .int 1])), (23, .inr (.inl (0, pmt))), (24, .inr (.inl (0, pst))), (72, .inl (3, [.ref 73, .ref 74, .ref 75, .ref 76, .ref 77, .ref 78, .ref 79, .ref 80, .int pevs, .int 1])), (75, .inr (.inl (0, pmts))), (76, .inr (.inl (0, psts)))] h0) (kk : ∀ lv h, LK lv [(0, .ref 20), (1, .ref 72)] → KN h [(20, .inl (3, [.ref 21, .ref 22, .ref 23, .ref 24, .ref 25, .ref 26, .ref 27, .ref 28, .int pev, .int 1])), (23, .inr (.inl (0, (aC (nI pmt.length) pmts pmt)))), (24, .inr (.inl (0, (aC (nI pst.length) psts pst)))), (72, .inl (3, [.ref 73, .ref 74, .ref 75, .ref 76, .ref 77, .ref 78, .ref 79, .ref 80, .int pevs, .int 1])), (75, .inr (.inl (0, pmts))), (76, .inr (.inl (0, psts)))] h0 → j_V jP d 28 80 lv [] h Q) : j_V jP d 28 44 lv [] h Q := by
  refine j_V.ldL yb1p_M yb1p_44 rfl (i := 1) (kd := 2) (v := .ref 72) (pcJ := 45) rfl L rfl rfl rfl ?_
  refine j_V.getK yb1p_M yb1p_45 (ci := 3) (j := 2) rfl K rfl rfl ?_
  refine j_V.one yb1p_M yb1p_48 (by decide) (pcJ := 49) (stJ := [.int 0, .ref 75]) rfl ?_
  refine j_V.ldL yb1p_M yb1p_49 rfl (i := 0) (kd := 2) (v := .ref 20) (pcJ := 50) rfl L rfl rfl rfl ?_
  refine j_V.getK yb1p_M yb1p_50 (ci := 3) (j := 2) rfl K rfl rfl ?_
  refine j_V.one yb1p_M yb1p_53 (by decide) (pcJ := 54) (stJ := [.int 0, .ref 23, .int 0, .ref 75]) rfl ?_
  refine j_V.ldL yb1p_M yb1p_54 rfl (i := 0) (kd := 2) (v := .ref 20) (pcJ := 55) rfl L rfl rfl rfl ?_
  refine j_V.getK yb1p_M yb1p_55 (ci := 3) (j := 2) rfl K rfl rfl ?_
  refine j_V.alnA yb1p_M yb1p_58 K rfl ?_
  refine j_V.acp yb1p_M yb1p_59 rfl rfl K rfl rfl rfl (fun h K => ?_)
  refine j_V.ldL yb1p_M yb1p_62 rfl (i := 1) (kd := 2) (v := .ref 72) (pcJ := 63) rfl L rfl rfl rfl ?_
  refine j_V.getK yb1p_M yb1p_63 (ci := 3) (j := 3) rfl K rfl rfl ?_
  refine j_V.one yb1p_M yb1p_66 (by decide) (pcJ := 67) (stJ := [.int 0, .ref 76]) rfl ?_
  refine j_V.ldL yb1p_M yb1p_67 rfl (i := 0) (kd := 2) (v := .ref 20) (pcJ := 68) rfl L rfl rfl rfl ?_
  refine j_V.getK yb1p_M yb1p_68 (ci := 3) (j := 3) rfl K rfl rfl ?_
  refine j_V.one yb1p_M yb1p_71 (by decide) (pcJ := 72) (stJ := [.int 0, .ref 24, .int 0, .ref 76]) rfl ?_
  refine j_V.ldL yb1p_M yb1p_72 rfl (i := 0) (kd := 2) (v := .ref 20) (pcJ := 73) rfl L rfl rfl rfl ?_
  refine j_V.getK yb1p_M yb1p_73 (ci := 3) (j := 3) rfl K rfl rfl ?_
  refine j_V.alnA yb1p_M yb1p_76 K rfl ?_
  refine j_V.acp yb1p_M yb1p_77 rfl rfl K rfl rfl rfl (fun h K => ?_)
  exact kk _ _ L K
set_option maxRecDepth 1000000 in
theorem yb1p_k80 {pev : Int32} {pwa : List Int32} {prs : List Int32} {pevs : Int32} {pwas : List Int32} {prss : List Int32} {d : Nat} {lv : J_L} {h h0 : J_H} {Q : Option Value → J_H → Prop} (L : LK lv [(0, .ref 20), (1, .ref 72)]) (K : KN h [(20, .inl (3, [.ref 21, .ref 22, .ref 23, .ref 24, .ref 25, .ref 26, .ref 27, .ref 28, .int pev, .int 1])), (25, .inr (.inl (0, pwa))), (26, .inr (.inl (0, prs))), (72, .inl (3, [.ref 73, .ref 74, .ref 75, .ref 76, .ref 77, .ref 78, .ref 79, .ref 80, .int pevs, .int 1])), (77, .inr (.inl (0, pwas))), (78, .inr (.inl (0, prss)))] h0) (kk : ∀ lv h, LK lv [(0, .ref 20), (1, .ref 72)] → KN h [(20, .inl (3, [.ref 21, .ref 22, .ref 23, .ref 24, .ref 25, .ref 26, .ref 27, .ref 28, .int pev, .int 1])), (25, .inr (.inl (0, (aC (nI pwa.length) pwas pwa)))), (26, .inr (.inl (0, (aC (nI prs.length) prss prs)))), (72, .inl (3, [.ref 73, .ref 74, .ref 75, .ref 76, .ref 77, .ref 78, .ref 79, .ref 80, .int pevs, .int 1])), (77, .inr (.inl (0, pwas))), (78, .inr (.inl (0, prss)))] h0 → j_V jP d 28 116 lv [] h Q) : j_V jP d 28 80 lv [] h Q := by
  refine j_V.ldL yb1p_M yb1p_80 rfl (i := 1) (kd := 2) (v := .ref 72) (pcJ := 81) rfl L rfl rfl rfl ?_
  refine j_V.getK yb1p_M yb1p_81 (ci := 3) (j := 4) rfl K rfl rfl ?_
  refine j_V.one yb1p_M yb1p_84 (by decide) (pcJ := 85) (stJ := [.int 0, .ref 77]) rfl ?_
  refine j_V.ldL yb1p_M yb1p_85 rfl (i := 0) (kd := 2) (v := .ref 20) (pcJ := 86) rfl L rfl rfl rfl ?_
  refine j_V.getK yb1p_M yb1p_86 (ci := 3) (j := 4) rfl K rfl rfl ?_
  refine j_V.one yb1p_M yb1p_89 (by decide) (pcJ := 90) (stJ := [.int 0, .ref 25, .int 0, .ref 77]) rfl ?_
  refine j_V.ldL yb1p_M yb1p_90 rfl (i := 0) (kd := 2) (v := .ref 20) (pcJ := 91) rfl L rfl rfl rfl ?_
  refine j_V.getK yb1p_M yb1p_91 (ci := 3) (j := 4) rfl K rfl rfl ?_
  refine j_V.alnA yb1p_M yb1p_94 K rfl ?_
  refine j_V.acp yb1p_M yb1p_95 rfl rfl K rfl rfl rfl (fun h K => ?_)
  refine j_V.ldL yb1p_M yb1p_98 rfl (i := 1) (kd := 2) (v := .ref 72) (pcJ := 99) rfl L rfl rfl rfl ?_
  refine j_V.getK yb1p_M yb1p_99 (ci := 3) (j := 5) rfl K rfl rfl ?_
  refine j_V.one yb1p_M yb1p_102 (by decide) (pcJ := 103) (stJ := [.int 0, .ref 78]) rfl ?_
  refine j_V.ldL yb1p_M yb1p_103 rfl (i := 0) (kd := 2) (v := .ref 20) (pcJ := 104) rfl L rfl rfl rfl ?_
  refine j_V.getK yb1p_M yb1p_104 (ci := 3) (j := 5) rfl K rfl rfl ?_
  refine j_V.one yb1p_M yb1p_107 (by decide) (pcJ := 108) (stJ := [.int 0, .ref 26, .int 0, .ref 78]) rfl ?_
  refine j_V.ldL yb1p_M yb1p_108 rfl (i := 0) (kd := 2) (v := .ref 20) (pcJ := 109) rfl L rfl rfl rfl ?_
  refine j_V.getK yb1p_M yb1p_109 (ci := 3) (j := 5) rfl K rfl rfl ?_
  refine j_V.alnA yb1p_M yb1p_112 K rfl ?_
  refine j_V.acp yb1p_M yb1p_113 rfl rfl K rfl rfl rfl (fun h K => ?_)
  exact kk _ _ L K
set_option maxRecDepth 1000000 in
theorem yb1p_k116 {pev : Int32} {prr : List Int32} {pfa : List Int32} {pevs : Int32} {prrs : List Int32} {pfas : List Int32} {d : Nat} {lv : J_L} {h h0 : J_H} {Q : Option Value → J_H → Prop} (L : LK lv [(0, .ref 20), (1, .ref 72)]) (K : KN h [(20, .inl (3, [.ref 21, .ref 22, .ref 23, .ref 24, .ref 25, .ref 26, .ref 27, .ref 28, .int pev, .int 1])), (27, .inr (.inl (0, prr))), (28, .inr (.inl (0, pfa))), (72, .inl (3, [.ref 73, .ref 74, .ref 75, .ref 76, .ref 77, .ref 78, .ref 79, .ref 80, .int pevs, .int 1])), (79, .inr (.inl (0, prrs))), (80, .inr (.inl (0, pfas)))] h0) (kk : ∀ lv h, LK lv [(0, .ref 20), (1, .ref 72)] → KN h [(20, .inl (3, [.ref 21, .ref 22, .ref 23, .ref 24, .ref 25, .ref 26, .ref 27, .ref 28, .int pev, .int 1])), (27, .inr (.inl (0, (aC (nI prr.length) prrs prr)))), (28, .inr (.inl (0, (aC (nI pfa.length) pfas pfa)))), (72, .inl (3, [.ref 73, .ref 74, .ref 75, .ref 76, .ref 77, .ref 78, .ref 79, .ref 80, .int pevs, .int 1])), (79, .inr (.inl (0, prrs))), (80, .inr (.inl (0, pfas)))] h0 → j_V jP d 28 152 lv [] h Q) : j_V jP d 28 116 lv [] h Q := by
  refine j_V.ldL yb1p_M yb1p_116 rfl (i := 1) (kd := 2) (v := .ref 72) (pcJ := 117) rfl L rfl rfl rfl ?_
  refine j_V.getK yb1p_M yb1p_117 (ci := 3) (j := 6) rfl K rfl rfl ?_
  refine j_V.one yb1p_M yb1p_120 (by decide) (pcJ := 121) (stJ := [.int 0, .ref 79]) rfl ?_
  refine j_V.ldL yb1p_M yb1p_121 rfl (i := 0) (kd := 2) (v := .ref 20) (pcJ := 122) rfl L rfl rfl rfl ?_
  refine j_V.getK yb1p_M yb1p_122 (ci := 3) (j := 6) rfl K rfl rfl ?_
  refine j_V.one yb1p_M yb1p_125 (by decide) (pcJ := 126) (stJ := [.int 0, .ref 27, .int 0, .ref 79]) rfl ?_
  refine j_V.ldL yb1p_M yb1p_126 rfl (i := 0) (kd := 2) (v := .ref 20) (pcJ := 127) rfl L rfl rfl rfl ?_
  refine j_V.getK yb1p_M yb1p_127 (ci := 3) (j := 6) rfl K rfl rfl ?_
  refine j_V.alnA yb1p_M yb1p_130 K rfl ?_
  refine j_V.acp yb1p_M yb1p_131 rfl rfl K rfl rfl rfl (fun h K => ?_)
  refine j_V.ldL yb1p_M yb1p_134 rfl (i := 1) (kd := 2) (v := .ref 72) (pcJ := 135) rfl L rfl rfl rfl ?_
  refine j_V.getK yb1p_M yb1p_135 (ci := 3) (j := 7) rfl K rfl rfl ?_
  refine j_V.one yb1p_M yb1p_138 (by decide) (pcJ := 139) (stJ := [.int 0, .ref 80]) rfl ?_
  refine j_V.ldL yb1p_M yb1p_139 rfl (i := 0) (kd := 2) (v := .ref 20) (pcJ := 140) rfl L rfl rfl rfl ?_
  refine j_V.getK yb1p_M yb1p_140 (ci := 3) (j := 7) rfl K rfl rfl ?_
  refine j_V.one yb1p_M yb1p_143 (by decide) (pcJ := 144) (stJ := [.int 0, .ref 28, .int 0, .ref 80]) rfl ?_
  refine j_V.ldL yb1p_M yb1p_144 rfl (i := 0) (kd := 2) (v := .ref 20) (pcJ := 145) rfl L rfl rfl rfl ?_
  refine j_V.getK yb1p_M yb1p_145 (ci := 3) (j := 7) rfl K rfl rfl ?_
  refine j_V.alnA yb1p_M yb1p_148 K rfl ?_
  refine j_V.acp yb1p_M yb1p_149 rfl rfl K rfl rfl rfl (fun h K => ?_)
  exact kk _ _ L K
set_option maxRecDepth 1000000 in
theorem yb1p_ok {pev : Int32} {pms : List Int32} {pmm : List Int32} {pmt : List Int32} {pst : List Int32} {pwa : List Int32} {prs : List Int32} {prr : List Int32} {pfa : List Int32} {pevs : Int32} {pmss : List Int32} {pmms : List Int32} {pmts : List Int32} {psts : List Int32} {pwas : List Int32} {prss : List Int32} {prrs : List Int32} {pfas : List Int32} {d : Nat} {h h0 : J_H} (K : KN h [(20, .inl (3, [.ref 21, .ref 22, .ref 23, .ref 24, .ref 25, .ref 26, .ref 27, .ref 28, .int pev, .int 1])), (21, .inr (.inl (0, pms))), (22, .inr (.inl (0, pmm))), (23, .inr (.inl (0, pmt))), (24, .inr (.inl (0, pst))), (25, .inr (.inl (0, pwa))), (26, .inr (.inl (0, prs))), (27, .inr (.inl (0, prr))), (28, .inr (.inl (0, pfa))), (72, .inl (3, [.ref 73, .ref 74, .ref 75, .ref 76, .ref 77, .ref 78, .ref 79, .ref 80, .int pevs, .int 1])), (73, .inr (.inl (0, pmss))), (74, .inr (.inl (0, pmms))), (75, .inr (.inl (0, pmts))), (76, .inr (.inl (0, psts))), (77, .inr (.inl (0, pwas))), (78, .inr (.inl (0, prss))), (79, .inr (.inl (0, prrs))), (80, .inr (.inl (0, pfas)))] h0) : j_V jP d 28 0 (lv_args 0 [.ref 20, .ref 72]) [] h (fun rv h' => rv = none ∧ KN h' [(20, .inl (3, [.ref 21, .ref 22, .ref 23, .ref 24, .ref 25, .ref 26, .ref 27, .ref 28, .int pevs, .int 1])), (21, .inr (.inl (0, (aC (nI pms.length) pmss pms)))), (22, .inr (.inl (0, (aC (nI pmm.length) pmms pmm)))), (23, .inr (.inl (0, (aC (nI pmt.length) pmts pmt)))), (24, .inr (.inl (0, (aC (nI pst.length) psts pst)))), (25, .inr (.inl (0, (aC (nI pwa.length) pwas pwa)))), (26, .inr (.inl (0, (aC (nI prs.length) prss prs)))), (27, .inr (.inl (0, (aC (nI prr.length) prrs prr)))), (28, .inr (.inl (0, (aC (nI pfa.length) pfas pfa)))), (72, .inl (3, [.ref 73, .ref 74, .ref 75, .ref 76, .ref 77, .ref 78, .ref 79, .ref 80, .int pevs, .int 1])), (73, .inr (.inl (0, pmss))), (74, .inr (.inl (0, pmms))), (75, .inr (.inl (0, pmts))), (76, .inr (.inl (0, psts))), (77, .inr (.inl (0, pwas))), (78, .inr (.inl (0, prss))), (79, .inr (.inl (0, prrs))), (80, .inr (.inl (0, pfas)))] h0) := by
  show j_V jP d 28 0 [(0, .ref 20), (1, .ref 72)] [] h _
  obtain ⟨lv, elv, L⟩ : ∃ lv, lv = [(0, .ref 20), (1, .ref 72)] ∧ LK lv [(0, .ref 20), (1, .ref 72)] := ⟨_, rfl, LK.rf⟩
  rw [← elv]
  clear elv
  refine j_V.ldL yb1p_M yb1p_0 rfl (i := 0) (kd := 2) (v := .ref 20) (pcJ := 1) rfl L rfl rfl rfl ?_
  refine j_V.getK yb1p_M yb1p_1 (ci := 3) (j := 9) rfl K rfl rfl ?_
  refine j_V.ifc yb1p_M yb1p_4 (t := 8) rfl (fun c4_0 => ?_) (fun c4_0 => ?_)
  · replace c4_0 : ¬ ((1 : Int32) = 0) := jd_ne c4_0
    refine yb1p_k8 L (K.fi [20, 21, 22, 72, 73, 74] rfl rfl) (fun lv h9 L K9 => ?_)
    have K : KN h9 [(20, .inl (3, [.ref 21, .ref 22, .ref 23, .ref 24, .ref 25, .ref 26, .ref 27, .ref 28, .int pev, .int 1])), (21, .inr (.inl (0, (aC (nI pms.length) pmss pms)))), (22, .inr (.inl (0, (aC (nI pmm.length) pmms pmm)))), (23, .inr (.inl (0, pmt))), (24, .inr (.inl (0, pst))), (25, .inr (.inl (0, pwa))), (26, .inr (.inl (0, prs))), (27, .inr (.inl (0, prr))), (28, .inr (.inl (0, pfa))), (72, .inl (3, [.ref 73, .ref 74, .ref 75, .ref 76, .ref 77, .ref 78, .ref 79, .ref 80, .int pevs, .int 1])), (73, .inr (.inl (0, pmss))), (74, .inr (.inl (0, pmms))), (75, .inr (.inl (0, pmts))), (76, .inr (.inl (0, psts))), (77, .inr (.inl (0, pwas))), (78, .inr (.inl (0, prss))), (79, .inr (.inl (0, prrs))), (80, .inr (.inl (0, pfas)))] h0 := K.mg K9 rfl rfl
    clear K9
    refine yb1p_k44 L (K.fi [20, 23, 24, 72, 75, 76] rfl rfl) (fun lv h9 L K9 => ?_)
    have K : KN h9 [(20, .inl (3, [.ref 21, .ref 22, .ref 23, .ref 24, .ref 25, .ref 26, .ref 27, .ref 28, .int pev, .int 1])), (21, .inr (.inl (0, (aC (nI pms.length) pmss pms)))), (22, .inr (.inl (0, (aC (nI pmm.length) pmms pmm)))), (23, .inr (.inl (0, (aC (nI pmt.length) pmts pmt)))), (24, .inr (.inl (0, (aC (nI pst.length) psts pst)))), (25, .inr (.inl (0, pwa))), (26, .inr (.inl (0, prs))), (27, .inr (.inl (0, prr))), (28, .inr (.inl (0, pfa))), (72, .inl (3, [.ref 73, .ref 74, .ref 75, .ref 76, .ref 77, .ref 78, .ref 79, .ref 80, .int pevs, .int 1])), (73, .inr (.inl (0, pmss))), (74, .inr (.inl (0, pmms))), (75, .inr (.inl (0, pmts))), (76, .inr (.inl (0, psts))), (77, .inr (.inl (0, pwas))), (78, .inr (.inl (0, prss))), (79, .inr (.inl (0, prrs))), (80, .inr (.inl (0, pfas)))] h0 := K.mg K9 rfl rfl
    clear K9
    refine yb1p_k80 L (K.fi [20, 25, 26, 72, 77, 78] rfl rfl) (fun lv h9 L K9 => ?_)
    have K : KN h9 [(20, .inl (3, [.ref 21, .ref 22, .ref 23, .ref 24, .ref 25, .ref 26, .ref 27, .ref 28, .int pev, .int 1])), (21, .inr (.inl (0, (aC (nI pms.length) pmss pms)))), (22, .inr (.inl (0, (aC (nI pmm.length) pmms pmm)))), (23, .inr (.inl (0, (aC (nI pmt.length) pmts pmt)))), (24, .inr (.inl (0, (aC (nI pst.length) psts pst)))), (25, .inr (.inl (0, (aC (nI pwa.length) pwas pwa)))), (26, .inr (.inl (0, (aC (nI prs.length) prss prs)))), (27, .inr (.inl (0, prr))), (28, .inr (.inl (0, pfa))), (72, .inl (3, [.ref 73, .ref 74, .ref 75, .ref 76, .ref 77, .ref 78, .ref 79, .ref 80, .int pevs, .int 1])), (73, .inr (.inl (0, pmss))), (74, .inr (.inl (0, pmms))), (75, .inr (.inl (0, pmts))), (76, .inr (.inl (0, psts))), (77, .inr (.inl (0, pwas))), (78, .inr (.inl (0, prss))), (79, .inr (.inl (0, prrs))), (80, .inr (.inl (0, pfas)))] h0 := K.mg K9 rfl rfl
    clear K9
    refine yb1p_k116 L (K.fi [20, 27, 28, 72, 79, 80] rfl rfl) (fun lv h9 L K9 => ?_)
    have K : KN h9 [(20, .inl (3, [.ref 21, .ref 22, .ref 23, .ref 24, .ref 25, .ref 26, .ref 27, .ref 28, .int pev, .int 1])), (21, .inr (.inl (0, (aC (nI pms.length) pmss pms)))), (22, .inr (.inl (0, (aC (nI pmm.length) pmms pmm)))), (23, .inr (.inl (0, (aC (nI pmt.length) pmts pmt)))), (24, .inr (.inl (0, (aC (nI pst.length) psts pst)))), (25, .inr (.inl (0, (aC (nI pwa.length) pwas pwa)))), (26, .inr (.inl (0, (aC (nI prs.length) prss prs)))), (27, .inr (.inl (0, (aC (nI prr.length) prrs prr)))), (28, .inr (.inl (0, (aC (nI pfa.length) pfas pfa)))), (72, .inl (3, [.ref 73, .ref 74, .ref 75, .ref 76, .ref 77, .ref 78, .ref 79, .ref 80, .int pevs, .int 1])), (73, .inr (.inl (0, pmss))), (74, .inr (.inl (0, pmms))), (75, .inr (.inl (0, pmts))), (76, .inr (.inl (0, psts))), (77, .inr (.inl (0, pwas))), (78, .inr (.inl (0, prss))), (79, .inr (.inl (0, prrs))), (80, .inr (.inl (0, pfas)))] h0 := K.mg K9 rfl rfl
    clear K9
    refine j_V.ldL yb1p_M yb1p_152 rfl (i := 0) (kd := 2) (v := .ref 20) (pcJ := 153) rfl L rfl rfl rfl ?_
    refine j_V.ldL yb1p_M yb1p_153 rfl (i := 1) (kd := 2) (v := .ref 72) (pcJ := 154) rfl L rfl rfl rfl ?_
    refine j_V.getK yb1p_M yb1p_154 (ci := 3) (j := 8) rfl K rfl rfl ?_
    refine j_V.putK yb1p_M yb1p_157 (ci := 3) (j := 8) (k' := [(20, .inl (3, [.ref 21, .ref 22, .ref 23, .ref 24, .ref 25, .ref 26, .ref 27, .ref 28, .int pevs, .int 1])), (21, .inr (.inl (0, (aC (nI pms.length) pmss pms)))), (22, .inr (.inl (0, (aC (nI pmm.length) pmms pmm)))), (23, .inr (.inl (0, (aC (nI pmt.length) pmts pmt)))), (24, .inr (.inl (0, (aC (nI pst.length) psts pst)))), (25, .inr (.inl (0, (aC (nI pwa.length) pwas pwa)))), (26, .inr (.inl (0, (aC (nI prs.length) prss prs)))), (27, .inr (.inl (0, (aC (nI prr.length) prrs prr)))), (28, .inr (.inl (0, (aC (nI pfa.length) pfas pfa)))), (72, .inl (3, [.ref 73, .ref 74, .ref 75, .ref 76, .ref 77, .ref 78, .ref 79, .ref 80, .int pevs, .int 1])), (73, .inr (.inl (0, pmss))), (74, .inr (.inl (0, pmms))), (75, .inr (.inl (0, pmts))), (76, .inr (.inl (0, psts))), (77, .inr (.inl (0, pwas))), (78, .inr (.inl (0, prss))), (79, .inr (.inl (0, prrs))), (80, .inr (.inl (0, pfas)))]) rfl K rfl (Nat.le_of_ble_eq_true rfl) rfl (Or.inl rfl) rfl rfl (fun h K => ?_)
    exact j_V.ret yb1p_M yb1p_160 rfl rfl ⟨rfl, K⟩
  · replace c4_0 : (1 : Int32) = 0 := jd_nen c4_0
    exact absurd c4_0 (by decide)
set_option maxRecDepth 100000 in
theorem yb1s_M : j_meth jP 61 = some (yX7_copyFrom, cX7_copyFrom, 2, none, 1, false, 7) := rfl
set_option maxRecDepth 100000 in
theorem yb1s_0 : j_code jP 61 0 = some (.aload_n 0) := rfl
set_option maxRecDepth 100000 in
theorem yb1s_1 : j_code jP 61 1 = some (.aload_n 1) := rfl
set_option maxRecDepth 100000 in
theorem yb1s_2 : j_code jP 61 2 = some (.getfield 64) := rfl
set_option maxRecDepth 100000 in
theorem yb1s_5 : j_code jP 61 5 = some (.putfield 64) := rfl
set_option maxRecDepth 100000 in
theorem yb1s_8 : j_code jP 61 8 = some (.aload_n 0) := rfl
set_option maxRecDepth 100000 in
theorem yb1s_9 : j_code jP 61 9 = some (.aload_n 1) := rfl
set_option maxRecDepth 100000 in
theorem yb1s_10 : j_code jP 61 10 = some (.getfield 68) := rfl
set_option maxRecDepth 100000 in
theorem yb1s_13 : j_code jP 61 13 = some (.putfield 68) := rfl
set_option maxRecDepth 100000 in
theorem yb1s_16 : j_code jP 61 16 = some (.aload_n 0) := rfl
set_option maxRecDepth 100000 in
theorem yb1s_17 : j_code jP 61 17 = some (.aload_n 1) := rfl
set_option maxRecDepth 100000 in
theorem yb1s_18 : j_code jP 61 18 = some (.getfield 72) := rfl
set_option maxRecDepth 100000 in
theorem yb1s_21 : j_code jP 61 21 = some (.putfield 72) := rfl
set_option maxRecDepth 100000 in
theorem yb1s_24 : j_code jP 61 24 = some (.aload_n 0) := rfl
set_option maxRecDepth 100000 in
theorem yb1s_25 : j_code jP 61 25 = some (.aload_n 1) := rfl
set_option maxRecDepth 100000 in
theorem yb1s_26 : j_code jP 61 26 = some (.getfield 75) := rfl
set_option maxRecDepth 100000 in
theorem yb1s_29 : j_code jP 61 29 = some (.putfield 75) := rfl
set_option maxRecDepth 100000 in
theorem yb1s_32 : j_code jP 61 32 = some (.aload_n 0) := rfl
set_option maxRecDepth 100000 in
theorem yb1s_33 : j_code jP 61 33 = some (.aload_n 1) := rfl
set_option maxRecDepth 100000 in
theorem yb1s_34 : j_code jP 61 34 = some (.getfield 78) := rfl
set_option maxRecDepth 100000 in
theorem yb1s_37 : j_code jP 61 37 = some (.putfield 78) := rfl
set_option maxRecDepth 100000 in
theorem yb1s_40 : j_code jP 61 40 = some (.aload_n 1) := rfl
set_option maxRecDepth 100000 in
theorem yb1s_41 : j_code jP 61 41 = some (.getfield 9) := rfl
set_option maxRecDepth 100000 in
theorem yb1s_44 : j_code jP 61 44 = some (.iconst 0) := rfl
set_option maxRecDepth 100000 in
theorem yb1s_45 : j_code jP 61 45 = some (.aload_n 0) := rfl
set_option maxRecDepth 100000 in
theorem yb1s_46 : j_code jP 61 46 = some (.getfield 9) := rfl
set_option maxRecDepth 100000 in
theorem yb1s_49 : j_code jP 61 49 = some (.iconst 0) := rfl
set_option maxRecDepth 100000 in
theorem yb1s_50 : j_code jP 61 50 = some (.iconst 5) := rfl
set_option maxRecDepth 100000 in
theorem yb1s_51 : j_code jP 61 51 = some (.invokestatic 84) := rfl
set_option maxRecDepth 100000 in
theorem yb1s_54 : j_code jP 61 54 = some (.aload_n 1) := rfl
set_option maxRecDepth 100000 in
theorem yb1s_55 : j_code jP 61 55 = some (.getfield 15) := rfl
set_option maxRecDepth 100000 in
theorem yb1s_58 : j_code jP 61 58 = some (.iconst 0) := rfl
set_option maxRecDepth 100000 in
theorem yb1s_59 : j_code jP 61 59 = some (.aload_n 0) := rfl
set_option maxRecDepth 100000 in
theorem yb1s_60 : j_code jP 61 60 = some (.getfield 15) := rfl
set_option maxRecDepth 100000 in
theorem yb1s_63 : j_code jP 61 63 = some (.iconst 0) := rfl
set_option maxRecDepth 100000 in
theorem yb1s_64 : j_code jP 61 64 = some (.iconst 5) := rfl
set_option maxRecDepth 100000 in
theorem yb1s_65 : j_code jP 61 65 = some (.invokestatic 84) := rfl
set_option maxRecDepth 100000 in
theorem yb1s_68 : j_code jP 61 68 = some (.aload_n 1) := rfl
set_option maxRecDepth 100000 in
theorem yb1s_69 : j_code jP 61 69 = some (.getfield 18) := rfl
set_option maxRecDepth 100000 in
theorem yb1s_72 : j_code jP 61 72 = some (.iconst 0) := rfl
set_option maxRecDepth 100000 in
theorem yb1s_73 : j_code jP 61 73 = some (.aload_n 0) := rfl
set_option maxRecDepth 100000 in
theorem yb1s_74 : j_code jP 61 74 = some (.getfield 18) := rfl
set_option maxRecDepth 100000 in
theorem yb1s_77 : j_code jP 61 77 = some (.iconst 0) := rfl
set_option maxRecDepth 100000 in
theorem yb1s_78 : j_code jP 61 78 = some (.iconst 5) := rfl
set_option maxRecDepth 100000 in
theorem yb1s_79 : j_code jP 61 79 = some (.invokestatic 84) := rfl
set_option maxRecDepth 100000 in
theorem yb1s_82 : j_code jP 61 82 = some (.aload_n 1) := rfl
set_option maxRecDepth 100000 in
theorem yb1s_83 : j_code jP 61 83 = some (.getfield 21) := rfl
set_option maxRecDepth 100000 in
theorem yb1s_86 : j_code jP 61 86 = some (.iconst 0) := rfl
set_option maxRecDepth 100000 in
theorem yb1s_87 : j_code jP 61 87 = some (.aload_n 0) := rfl
set_option maxRecDepth 100000 in
theorem yb1s_88 : j_code jP 61 88 = some (.getfield 21) := rfl
set_option maxRecDepth 100000 in
theorem yb1s_91 : j_code jP 61 91 = some (.iconst 0) := rfl
set_option maxRecDepth 100000 in
theorem yb1s_92 : j_code jP 61 92 = some (.iconst 5) := rfl
set_option maxRecDepth 100000 in
theorem yb1s_93 : j_code jP 61 93 = some (.invokestatic 84) := rfl
set_option maxRecDepth 100000 in
theorem yb1s_96 : j_code jP 61 96 = some (.aload_n 1) := rfl
set_option maxRecDepth 100000 in
theorem yb1s_97 : j_code jP 61 97 = some (.getfield 24) := rfl
set_option maxRecDepth 100000 in
theorem yb1s_100 : j_code jP 61 100 = some (.iconst 0) := rfl
set_option maxRecDepth 100000 in
theorem yb1s_101 : j_code jP 61 101 = some (.aload_n 0) := rfl
set_option maxRecDepth 100000 in
theorem yb1s_102 : j_code jP 61 102 = some (.getfield 24) := rfl
set_option maxRecDepth 100000 in
theorem yb1s_105 : j_code jP 61 105 = some (.iconst 0) := rfl
set_option maxRecDepth 100000 in
theorem yb1s_106 : j_code jP 61 106 = some (.iconst 5) := rfl
set_option maxRecDepth 100000 in
theorem yb1s_107 : j_code jP 61 107 = some (.invokestatic 84) := rfl
set_option maxRecDepth 100000 in
theorem yb1s_110 : j_code jP 61 110 = some (.aload_n 1) := rfl
set_option maxRecDepth 100000 in
theorem yb1s_111 : j_code jP 61 111 = some (.getfield 27) := rfl
set_option maxRecDepth 100000 in
theorem yb1s_114 : j_code jP 61 114 = some (.iconst 0) := rfl
set_option maxRecDepth 100000 in
theorem yb1s_115 : j_code jP 61 115 = some (.aload_n 0) := rfl
set_option maxRecDepth 100000 in
theorem yb1s_116 : j_code jP 61 116 = some (.getfield 27) := rfl
set_option maxRecDepth 100000 in
theorem yb1s_119 : j_code jP 61 119 = some (.iconst 0) := rfl
set_option maxRecDepth 100000 in
theorem yb1s_120 : j_code jP 61 120 = some (.iconst 5) := rfl
set_option maxRecDepth 100000 in
theorem yb1s_121 : j_code jP 61 121 = some (.invokestatic 84) := rfl
set_option maxRecDepth 100000 in
theorem yb1s_124 : j_code jP 61 124 = some (.aload_n 1) := rfl
set_option maxRecDepth 100000 in
theorem yb1s_125 : j_code jP 61 125 = some (.getfield 30) := rfl
set_option maxRecDepth 100000 in
theorem yb1s_128 : j_code jP 61 128 = some (.iconst 0) := rfl
set_option maxRecDepth 100000 in
theorem yb1s_129 : j_code jP 61 129 = some (.aload_n 0) := rfl
set_option maxRecDepth 100000 in
theorem yb1s_130 : j_code jP 61 130 = some (.getfield 30) := rfl
set_option maxRecDepth 100000 in
theorem yb1s_133 : j_code jP 61 133 = some (.iconst 0) := rfl
set_option maxRecDepth 100000 in
theorem yb1s_134 : j_code jP 61 134 = some (.iconst 5) := rfl
set_option maxRecDepth 100000 in
theorem yb1s_135 : j_code jP 61 135 = some (.invokestatic 84) := rfl
set_option maxRecDepth 100000 in
theorem yb1s_138 : j_code jP 61 138 = some (.aload_n 1) := rfl
set_option maxRecDepth 100000 in
theorem yb1s_139 : j_code jP 61 139 = some (.getfield 33) := rfl
set_option maxRecDepth 100000 in
theorem yb1s_142 : j_code jP 61 142 = some (.iconst 0) := rfl
set_option maxRecDepth 100000 in
theorem yb1s_143 : j_code jP 61 143 = some (.aload_n 0) := rfl
set_option maxRecDepth 100000 in
theorem yb1s_144 : j_code jP 61 144 = some (.getfield 33) := rfl
set_option maxRecDepth 100000 in
theorem yb1s_147 : j_code jP 61 147 = some (.iconst 0) := rfl
set_option maxRecDepth 100000 in
theorem yb1s_148 : j_code jP 61 148 = some (.bipush 6) := rfl
set_option maxRecDepth 100000 in
theorem yb1s_150 : j_code jP 61 150 = some (.invokestatic 84) := rfl
set_option maxRecDepth 100000 in
theorem yb1s_153 : j_code jP 61 153 = some (.aload_n 1) := rfl
set_option maxRecDepth 100000 in
theorem yb1s_154 : j_code jP 61 154 = some (.getfield 36) := rfl
set_option maxRecDepth 100000 in
theorem yb1s_157 : j_code jP 61 157 = some (.iconst 0) := rfl
set_option maxRecDepth 100000 in
theorem yb1s_158 : j_code jP 61 158 = some (.aload_n 0) := rfl
set_option maxRecDepth 100000 in
theorem yb1s_159 : j_code jP 61 159 = some (.getfield 36) := rfl
set_option maxRecDepth 100000 in
theorem yb1s_162 : j_code jP 61 162 = some (.iconst 0) := rfl
set_option maxRecDepth 100000 in
theorem yb1s_163 : j_code jP 61 163 = some (.bipush 6) := rfl
set_option maxRecDepth 100000 in
theorem yb1s_165 : j_code jP 61 165 = some (.invokestatic 84) := rfl
set_option maxRecDepth 100000 in
theorem yb1s_168 : j_code jP 61 168 = some (.aload_n 1) := rfl
set_option maxRecDepth 100000 in
theorem yb1s_169 : j_code jP 61 169 = some (.getfield 39) := rfl
set_option maxRecDepth 100000 in
theorem yb1s_172 : j_code jP 61 172 = some (.iconst 0) := rfl
set_option maxRecDepth 100000 in
theorem yb1s_173 : j_code jP 61 173 = some (.aload_n 0) := rfl
set_option maxRecDepth 100000 in
theorem yb1s_174 : j_code jP 61 174 = some (.getfield 39) := rfl
set_option maxRecDepth 100000 in
theorem yb1s_177 : j_code jP 61 177 = some (.iconst 0) := rfl
set_option maxRecDepth 100000 in
theorem yb1s_178 : j_code jP 61 178 = some (.aload_n 0) := rfl
set_option maxRecDepth 100000 in
theorem yb1s_179 : j_code jP 61 179 = some (.getfield 39) := rfl
set_option maxRecDepth 100000 in
theorem yb1s_182 : j_code jP 61 182 = some (.arraylength) := rfl
set_option maxRecDepth 100000 in
theorem yb1s_183 : j_code jP 61 183 = some (.invokestatic 84) := rfl
set_option maxRecDepth 100000 in
theorem yb1s_186 : j_code jP 61 186 = some (.aload_n 1) := rfl
set_option maxRecDepth 100000 in
theorem yb1s_187 : j_code jP 61 187 = some (.getfield 42) := rfl
set_option maxRecDepth 100000 in
theorem yb1s_190 : j_code jP 61 190 = some (.iconst 0) := rfl
set_option maxRecDepth 100000 in
theorem yb1s_191 : j_code jP 61 191 = some (.aload_n 0) := rfl
set_option maxRecDepth 100000 in
theorem yb1s_192 : j_code jP 61 192 = some (.getfield 42) := rfl
set_option maxRecDepth 100000 in
theorem yb1s_195 : j_code jP 61 195 = some (.iconst 0) := rfl
set_option maxRecDepth 100000 in
theorem yb1s_196 : j_code jP 61 196 = some (.aload_n 0) := rfl
set_option maxRecDepth 100000 in
theorem yb1s_197 : j_code jP 61 197 = some (.getfield 42) := rfl
set_option maxRecDepth 100000 in
theorem yb1s_200 : j_code jP 61 200 = some (.arraylength) := rfl
set_option maxRecDepth 100000 in
theorem yb1s_201 : j_code jP 61 201 = some (.invokestatic 84) := rfl
set_option maxRecDepth 100000 in
theorem yb1s_204 : j_code jP 61 204 = some (.aload_n 1) := rfl
set_option maxRecDepth 100000 in
theorem yb1s_205 : j_code jP 61 205 = some (.getfield 45) := rfl
set_option maxRecDepth 100000 in
theorem yb1s_208 : j_code jP 61 208 = some (.iconst 0) := rfl
set_option maxRecDepth 100000 in
theorem yb1s_209 : j_code jP 61 209 = some (.aload_n 0) := rfl
set_option maxRecDepth 100000 in
theorem yb1s_210 : j_code jP 61 210 = some (.getfield 45) := rfl
set_option maxRecDepth 100000 in
theorem yb1s_213 : j_code jP 61 213 = some (.iconst 0) := rfl
set_option maxRecDepth 100000 in
theorem yb1s_214 : j_code jP 61 214 = some (.aload_n 0) := rfl
set_option maxRecDepth 100000 in
theorem yb1s_215 : j_code jP 61 215 = some (.getfield 45) := rfl
set_option maxRecDepth 100000 in
theorem yb1s_218 : j_code jP 61 218 = some (.arraylength) := rfl
set_option maxRecDepth 100000 in
theorem yb1s_219 : j_code jP 61 219 = some (.invokestatic 84) := rfl
set_option maxRecDepth 100000 in
theorem yb1s_222 : j_code jP 61 222 = some (.aload_n 0) := rfl
set_option maxRecDepth 100000 in
theorem yb1s_223 : j_code jP 61 223 = some (.getfield 60) := rfl
set_option maxRecDepth 100000 in
theorem yb1s_226 : j_code jP 61 226 = some (.aload_n 1) := rfl
set_option maxRecDepth 100000 in
theorem yb1s_227 : j_code jP 61 227 = some (.getfield 60) := rfl
set_option maxRecDepth 100000 in
theorem yb1s_230 : j_code jP 61 230 = some (.invokevirtual 108) := rfl
set_option maxRecDepth 100000 in
theorem yb1s_233 : j_code jP 61 233 = some (.return_) := rfl
set_option maxRecDepth 1000000 in
theorem yb1s_k0 {ly : Value} {mi : Int32} {shu : Int32} {bus : Int32} {lks : Int32} {lys : Nat} {mis : Int32} {shus : Int32} {buss : Int32} {lkss : Int32} {d : Nat} {lv : J_L} {h h0 : J_H} {Q : Option Value → J_H → Prop} (L : LK lv [(0, .ref 4), (1, .ref 56)]) (K : KN h [(4, .inl (7, [ly, .int mi, .int shu, .int bus, .ref 5, .ref 6, .ref 7, .ref 8, .ref 9, .ref 10, .ref 11, .ref 12, .ref 13, .ref 14, .ref 15, .int lks, .ref 16, .ref 17, .ref 20])), (56, .inl (7, [.ref lys, .int mis, .int shus, .int buss, .ref 57, .ref 58, .ref 59, .ref 60, .ref 61, .ref 62, .ref 63, .ref 64, .ref 65, .ref 66, .ref 67, .int lkss, .ref 68, .ref 69, .ref 72]))] h0) (kk : ∀ lv h, LK lv [(0, .ref 4), (1, .ref 56)] → KN h [(4, .inl (7, [.ref lys, .int mis, .int shus, .int buss, .ref 5, .ref 6, .ref 7, .ref 8, .ref 9, .ref 10, .ref 11, .ref 12, .ref 13, .ref 14, .ref 15, .int lkss, .ref 16, .ref 17, .ref 20])), (56, .inl (7, [.ref lys, .int mis, .int shus, .int buss, .ref 57, .ref 58, .ref 59, .ref 60, .ref 61, .ref 62, .ref 63, .ref 64, .ref 65, .ref 66, .ref 67, .int lkss, .ref 68, .ref 69, .ref 72]))] h0 → j_V jP d 61 40 lv [] h Q) : j_V jP d 61 0 lv [] h Q := by
  refine j_V.ldL yb1s_M yb1s_0 rfl (i := 0) (kd := 2) (v := .ref 4) (pcJ := 1) rfl L rfl rfl rfl ?_
  refine j_V.ldL yb1s_M yb1s_1 rfl (i := 1) (kd := 2) (v := .ref 56) (pcJ := 2) rfl L rfl rfl rfl ?_
  refine j_V.getK yb1s_M yb1s_2 (ci := 7) (j := 0) rfl K rfl rfl ?_
  refine j_V.putK yb1s_M yb1s_5 (ci := 7) (j := 0) (k' := [(4, .inl (7, [.ref lys, .int mi, .int shu, .int bus, .ref 5, .ref 6, .ref 7, .ref 8, .ref 9, .ref 10, .ref 11, .ref 12, .ref 13, .ref 14, .ref 15, .int lks, .ref 16, .ref 17, .ref 20])), (56, .inl (7, [.ref lys, .int mis, .int shus, .int buss, .ref 57, .ref 58, .ref 59, .ref 60, .ref 61, .ref 62, .ref 63, .ref 64, .ref 65, .ref 66, .ref 67, .int lkss, .ref 68, .ref 69, .ref 72]))]) rfl K rfl (Nat.le_of_ble_eq_true rfl) rfl (Or.inl rfl) rfl rfl (fun h K => ?_)
  refine j_V.ldL yb1s_M yb1s_8 rfl (i := 0) (kd := 2) (v := .ref 4) (pcJ := 9) rfl L rfl rfl rfl ?_
  refine j_V.ldL yb1s_M yb1s_9 rfl (i := 1) (kd := 2) (v := .ref 56) (pcJ := 10) rfl L rfl rfl rfl ?_
  refine j_V.getK yb1s_M yb1s_10 (ci := 7) (j := 1) rfl K rfl rfl ?_
  refine j_V.putK yb1s_M yb1s_13 (ci := 7) (j := 1) (k' := [(4, .inl (7, [.ref lys, .int mis, .int shu, .int bus, .ref 5, .ref 6, .ref 7, .ref 8, .ref 9, .ref 10, .ref 11, .ref 12, .ref 13, .ref 14, .ref 15, .int lks, .ref 16, .ref 17, .ref 20])), (56, .inl (7, [.ref lys, .int mis, .int shus, .int buss, .ref 57, .ref 58, .ref 59, .ref 60, .ref 61, .ref 62, .ref 63, .ref 64, .ref 65, .ref 66, .ref 67, .int lkss, .ref 68, .ref 69, .ref 72]))]) rfl K rfl (Nat.le_of_ble_eq_true rfl) rfl (Or.inl rfl) rfl rfl (fun h K => ?_)
  refine j_V.ldL yb1s_M yb1s_16 rfl (i := 0) (kd := 2) (v := .ref 4) (pcJ := 17) rfl L rfl rfl rfl ?_
  refine j_V.ldL yb1s_M yb1s_17 rfl (i := 1) (kd := 2) (v := .ref 56) (pcJ := 18) rfl L rfl rfl rfl ?_
  refine j_V.getK yb1s_M yb1s_18 (ci := 7) (j := 2) rfl K rfl rfl ?_
  refine j_V.putK yb1s_M yb1s_21 (ci := 7) (j := 2) (k' := [(4, .inl (7, [.ref lys, .int mis, .int shus, .int bus, .ref 5, .ref 6, .ref 7, .ref 8, .ref 9, .ref 10, .ref 11, .ref 12, .ref 13, .ref 14, .ref 15, .int lks, .ref 16, .ref 17, .ref 20])), (56, .inl (7, [.ref lys, .int mis, .int shus, .int buss, .ref 57, .ref 58, .ref 59, .ref 60, .ref 61, .ref 62, .ref 63, .ref 64, .ref 65, .ref 66, .ref 67, .int lkss, .ref 68, .ref 69, .ref 72]))]) rfl K rfl (Nat.le_of_ble_eq_true rfl) rfl (Or.inl rfl) rfl rfl (fun h K => ?_)
  refine j_V.ldL yb1s_M yb1s_24 rfl (i := 0) (kd := 2) (v := .ref 4) (pcJ := 25) rfl L rfl rfl rfl ?_
  refine j_V.ldL yb1s_M yb1s_25 rfl (i := 1) (kd := 2) (v := .ref 56) (pcJ := 26) rfl L rfl rfl rfl ?_
  refine j_V.getK yb1s_M yb1s_26 (ci := 7) (j := 3) rfl K rfl rfl ?_
  refine j_V.putK yb1s_M yb1s_29 (ci := 7) (j := 3) (k' := [(4, .inl (7, [.ref lys, .int mis, .int shus, .int buss, .ref 5, .ref 6, .ref 7, .ref 8, .ref 9, .ref 10, .ref 11, .ref 12, .ref 13, .ref 14, .ref 15, .int lks, .ref 16, .ref 17, .ref 20])), (56, .inl (7, [.ref lys, .int mis, .int shus, .int buss, .ref 57, .ref 58, .ref 59, .ref 60, .ref 61, .ref 62, .ref 63, .ref 64, .ref 65, .ref 66, .ref 67, .int lkss, .ref 68, .ref 69, .ref 72]))]) rfl K rfl (Nat.le_of_ble_eq_true rfl) rfl (Or.inl rfl) rfl rfl (fun h K => ?_)
  refine j_V.ldL yb1s_M yb1s_32 rfl (i := 0) (kd := 2) (v := .ref 4) (pcJ := 33) rfl L rfl rfl rfl ?_
  refine j_V.ldL yb1s_M yb1s_33 rfl (i := 1) (kd := 2) (v := .ref 56) (pcJ := 34) rfl L rfl rfl rfl ?_
  refine j_V.getK yb1s_M yb1s_34 (ci := 7) (j := 15) rfl K rfl rfl ?_
  refine j_V.putK yb1s_M yb1s_37 (ci := 7) (j := 15) (k' := [(4, .inl (7, [.ref lys, .int mis, .int shus, .int buss, .ref 5, .ref 6, .ref 7, .ref 8, .ref 9, .ref 10, .ref 11, .ref 12, .ref 13, .ref 14, .ref 15, .int lkss, .ref 16, .ref 17, .ref 20])), (56, .inl (7, [.ref lys, .int mis, .int shus, .int buss, .ref 57, .ref 58, .ref 59, .ref 60, .ref 61, .ref 62, .ref 63, .ref 64, .ref 65, .ref 66, .ref 67, .int lkss, .ref 68, .ref 69, .ref 72]))]) rfl K rfl (Nat.le_of_ble_eq_true rfl) rfl (Or.inl rfl) rfl rfl (fun h K => ?_)
  exact kk _ _ L K
set_option maxRecDepth 1000000 in
theorem yb1s_k40 {rk : List Int32} {sta : List Int32} {ph : List Int32} {lys : Nat} {mis : Int32} {shus : Int32} {buss : Int32} {lkss : Int32} {rks : List Int32} {stas : List Int32} {phs : List Int32} {d : Nat} {lv : J_L} {h h0 : J_H} {Q : Option Value → J_H → Prop} (L : LK lv [(0, .ref 4), (1, .ref 56)]) (K : KN h [(4, .inl (7, [.ref lys, .int mis, .int shus, .int buss, .ref 5, .ref 6, .ref 7, .ref 8, .ref 9, .ref 10, .ref 11, .ref 12, .ref 13, .ref 14, .ref 15, .int lkss, .ref 16, .ref 17, .ref 20])), (5, .inr (.inl (0, rk))), (6, .inr (.inl (0, sta))), (7, .inr (.inl (0, ph))), (56, .inl (7, [.ref lys, .int mis, .int shus, .int buss, .ref 57, .ref 58, .ref 59, .ref 60, .ref 61, .ref 62, .ref 63, .ref 64, .ref 65, .ref 66, .ref 67, .int lkss, .ref 68, .ref 69, .ref 72])), (57, .inr (.inl (0, rks))), (58, .inr (.inl (0, stas))), (59, .inr (.inl (0, phs)))] h0) (kk : ∀ lv h, LK lv [(0, .ref 4), (1, .ref 56)] → KN h [(4, .inl (7, [.ref lys, .int mis, .int shus, .int buss, .ref 5, .ref 6, .ref 7, .ref 8, .ref 9, .ref 10, .ref 11, .ref 12, .ref 13, .ref 14, .ref 15, .int lkss, .ref 16, .ref 17, .ref 20])), (5, .inr (.inl (0, (aC 5 rks rk)))), (6, .inr (.inl (0, (aC 5 stas sta)))), (7, .inr (.inl (0, (aC 5 phs ph)))), (56, .inl (7, [.ref lys, .int mis, .int shus, .int buss, .ref 57, .ref 58, .ref 59, .ref 60, .ref 61, .ref 62, .ref 63, .ref 64, .ref 65, .ref 66, .ref 67, .int lkss, .ref 68, .ref 69, .ref 72])), (57, .inr (.inl (0, rks))), (58, .inr (.inl (0, stas))), (59, .inr (.inl (0, phs)))] h0 → j_V jP d 61 82 lv [] h Q) : j_V jP d 61 40 lv [] h Q := by
  refine j_V.ldL yb1s_M yb1s_40 rfl (i := 1) (kd := 2) (v := .ref 56) (pcJ := 41) rfl L rfl rfl rfl ?_
  refine j_V.getK yb1s_M yb1s_41 (ci := 7) (j := 4) rfl K rfl rfl ?_
  refine j_V.one yb1s_M yb1s_44 (by decide) (pcJ := 45) (stJ := [.int 0, .ref 57]) rfl ?_
  refine j_V.ldL yb1s_M yb1s_45 rfl (i := 0) (kd := 2) (v := .ref 4) (pcJ := 46) rfl L rfl rfl rfl ?_
  refine j_V.getK yb1s_M yb1s_46 (ci := 7) (j := 4) rfl K rfl rfl ?_
  refine j_V.one yb1s_M yb1s_49 (by decide) (pcJ := 50) (stJ := [.int 0, .ref 5, .int 0, .ref 57]) rfl ?_
  refine j_V.one yb1s_M yb1s_50 (by decide) (pcJ := 51) (stJ := [.int 5, .int 0, .ref 5, .int 0, .ref 57]) rfl ?_
  refine j_V.acp yb1s_M yb1s_51 rfl rfl K rfl rfl rfl (fun h K => ?_)
  refine j_V.ldL yb1s_M yb1s_54 rfl (i := 1) (kd := 2) (v := .ref 56) (pcJ := 55) rfl L rfl rfl rfl ?_
  refine j_V.getK yb1s_M yb1s_55 (ci := 7) (j := 5) rfl K rfl rfl ?_
  refine j_V.one yb1s_M yb1s_58 (by decide) (pcJ := 59) (stJ := [.int 0, .ref 58]) rfl ?_
  refine j_V.ldL yb1s_M yb1s_59 rfl (i := 0) (kd := 2) (v := .ref 4) (pcJ := 60) rfl L rfl rfl rfl ?_
  refine j_V.getK yb1s_M yb1s_60 (ci := 7) (j := 5) rfl K rfl rfl ?_
  refine j_V.one yb1s_M yb1s_63 (by decide) (pcJ := 64) (stJ := [.int 0, .ref 6, .int 0, .ref 58]) rfl ?_
  refine j_V.one yb1s_M yb1s_64 (by decide) (pcJ := 65) (stJ := [.int 5, .int 0, .ref 6, .int 0, .ref 58]) rfl ?_
  refine j_V.acp yb1s_M yb1s_65 rfl rfl K rfl rfl rfl (fun h K => ?_)
  refine j_V.ldL yb1s_M yb1s_68 rfl (i := 1) (kd := 2) (v := .ref 56) (pcJ := 69) rfl L rfl rfl rfl ?_
  refine j_V.getK yb1s_M yb1s_69 (ci := 7) (j := 6) rfl K rfl rfl ?_
  refine j_V.one yb1s_M yb1s_72 (by decide) (pcJ := 73) (stJ := [.int 0, .ref 59]) rfl ?_
  refine j_V.ldL yb1s_M yb1s_73 rfl (i := 0) (kd := 2) (v := .ref 4) (pcJ := 74) rfl L rfl rfl rfl ?_
  refine j_V.getK yb1s_M yb1s_74 (ci := 7) (j := 6) rfl K rfl rfl ?_
  refine j_V.one yb1s_M yb1s_77 (by decide) (pcJ := 78) (stJ := [.int 0, .ref 7, .int 0, .ref 59]) rfl ?_
  refine j_V.one yb1s_M yb1s_78 (by decide) (pcJ := 79) (stJ := [.int 5, .int 0, .ref 7, .int 0, .ref 59]) rfl ?_
  refine j_V.acp yb1s_M yb1s_79 rfl rfl K rfl rfl rfl (fun h K => ?_)
  exact kk _ _ L K
set_option maxRecDepth 1000000 in
theorem yb1s_k82 {sp : List Int32} {ce : List Int32} {du : List Int32} {lys : Nat} {mis : Int32} {shus : Int32} {buss : Int32} {lkss : Int32} {sps : List Int32} {ces : List Int32} {dus : List Int32} {d : Nat} {lv : J_L} {h h0 : J_H} {Q : Option Value → J_H → Prop} (L : LK lv [(0, .ref 4), (1, .ref 56)]) (K : KN h [(4, .inl (7, [.ref lys, .int mis, .int shus, .int buss, .ref 5, .ref 6, .ref 7, .ref 8, .ref 9, .ref 10, .ref 11, .ref 12, .ref 13, .ref 14, .ref 15, .int lkss, .ref 16, .ref 17, .ref 20])), (8, .inr (.inl (0, sp))), (9, .inr (.inl (0, ce))), (10, .inr (.inl (0, du))), (56, .inl (7, [.ref lys, .int mis, .int shus, .int buss, .ref 57, .ref 58, .ref 59, .ref 60, .ref 61, .ref 62, .ref 63, .ref 64, .ref 65, .ref 66, .ref 67, .int lkss, .ref 68, .ref 69, .ref 72])), (60, .inr (.inl (0, sps))), (61, .inr (.inl (0, ces))), (62, .inr (.inl (0, dus)))] h0) (kk : ∀ lv h, LK lv [(0, .ref 4), (1, .ref 56)] → KN h [(4, .inl (7, [.ref lys, .int mis, .int shus, .int buss, .ref 5, .ref 6, .ref 7, .ref 8, .ref 9, .ref 10, .ref 11, .ref 12, .ref 13, .ref 14, .ref 15, .int lkss, .ref 16, .ref 17, .ref 20])), (8, .inr (.inl (0, (aC 5 sps sp)))), (9, .inr (.inl (0, (aC 5 ces ce)))), (10, .inr (.inl (0, (aC 5 dus du)))), (56, .inl (7, [.ref lys, .int mis, .int shus, .int buss, .ref 57, .ref 58, .ref 59, .ref 60, .ref 61, .ref 62, .ref 63, .ref 64, .ref 65, .ref 66, .ref 67, .int lkss, .ref 68, .ref 69, .ref 72])), (60, .inr (.inl (0, sps))), (61, .inr (.inl (0, ces))), (62, .inr (.inl (0, dus)))] h0 → j_V jP d 61 124 lv [] h Q) : j_V jP d 61 82 lv [] h Q := by
  refine j_V.ldL yb1s_M yb1s_82 rfl (i := 1) (kd := 2) (v := .ref 56) (pcJ := 83) rfl L rfl rfl rfl ?_
  refine j_V.getK yb1s_M yb1s_83 (ci := 7) (j := 7) rfl K rfl rfl ?_
  refine j_V.one yb1s_M yb1s_86 (by decide) (pcJ := 87) (stJ := [.int 0, .ref 60]) rfl ?_
  refine j_V.ldL yb1s_M yb1s_87 rfl (i := 0) (kd := 2) (v := .ref 4) (pcJ := 88) rfl L rfl rfl rfl ?_
  refine j_V.getK yb1s_M yb1s_88 (ci := 7) (j := 7) rfl K rfl rfl ?_
  refine j_V.one yb1s_M yb1s_91 (by decide) (pcJ := 92) (stJ := [.int 0, .ref 8, .int 0, .ref 60]) rfl ?_
  refine j_V.one yb1s_M yb1s_92 (by decide) (pcJ := 93) (stJ := [.int 5, .int 0, .ref 8, .int 0, .ref 60]) rfl ?_
  refine j_V.acp yb1s_M yb1s_93 rfl rfl K rfl rfl rfl (fun h K => ?_)
  refine j_V.ldL yb1s_M yb1s_96 rfl (i := 1) (kd := 2) (v := .ref 56) (pcJ := 97) rfl L rfl rfl rfl ?_
  refine j_V.getK yb1s_M yb1s_97 (ci := 7) (j := 8) rfl K rfl rfl ?_
  refine j_V.one yb1s_M yb1s_100 (by decide) (pcJ := 101) (stJ := [.int 0, .ref 61]) rfl ?_
  refine j_V.ldL yb1s_M yb1s_101 rfl (i := 0) (kd := 2) (v := .ref 4) (pcJ := 102) rfl L rfl rfl rfl ?_
  refine j_V.getK yb1s_M yb1s_102 (ci := 7) (j := 8) rfl K rfl rfl ?_
  refine j_V.one yb1s_M yb1s_105 (by decide) (pcJ := 106) (stJ := [.int 0, .ref 9, .int 0, .ref 61]) rfl ?_
  refine j_V.one yb1s_M yb1s_106 (by decide) (pcJ := 107) (stJ := [.int 5, .int 0, .ref 9, .int 0, .ref 61]) rfl ?_
  refine j_V.acp yb1s_M yb1s_107 rfl rfl K rfl rfl rfl (fun h K => ?_)
  refine j_V.ldL yb1s_M yb1s_110 rfl (i := 1) (kd := 2) (v := .ref 56) (pcJ := 111) rfl L rfl rfl rfl ?_
  refine j_V.getK yb1s_M yb1s_111 (ci := 7) (j := 9) rfl K rfl rfl ?_
  refine j_V.one yb1s_M yb1s_114 (by decide) (pcJ := 115) (stJ := [.int 0, .ref 62]) rfl ?_
  refine j_V.ldL yb1s_M yb1s_115 rfl (i := 0) (kd := 2) (v := .ref 4) (pcJ := 116) rfl L rfl rfl rfl ?_
  refine j_V.getK yb1s_M yb1s_116 (ci := 7) (j := 9) rfl K rfl rfl ?_
  refine j_V.one yb1s_M yb1s_119 (by decide) (pcJ := 120) (stJ := [.int 0, .ref 10, .int 0, .ref 62]) rfl ?_
  refine j_V.one yb1s_M yb1s_120 (by decide) (pcJ := 121) (stJ := [.int 5, .int 0, .ref 10, .int 0, .ref 62]) rfl ?_
  refine j_V.acp yb1s_M yb1s_121 rfl rfl K rfl rfl rfl (fun h K => ?_)
  exact kk _ _ L K
set_option maxRecDepth 1000000 in
theorem yb1s_k124 {he : List Int32} {ri : List Int32} {us : List Int32} {lys : Nat} {mis : Int32} {shus : Int32} {buss : Int32} {lkss : Int32} {hes : List Int32} {ris : List Int32} {uss : List Int32} {d : Nat} {lv : J_L} {h h0 : J_H} {Q : Option Value → J_H → Prop} (L : LK lv [(0, .ref 4), (1, .ref 56)]) (K : KN h [(4, .inl (7, [.ref lys, .int mis, .int shus, .int buss, .ref 5, .ref 6, .ref 7, .ref 8, .ref 9, .ref 10, .ref 11, .ref 12, .ref 13, .ref 14, .ref 15, .int lkss, .ref 16, .ref 17, .ref 20])), (11, .inr (.inl (0, he))), (12, .inr (.inl (0, ri))), (13, .inr (.inl (0, us))), (56, .inl (7, [.ref lys, .int mis, .int shus, .int buss, .ref 57, .ref 58, .ref 59, .ref 60, .ref 61, .ref 62, .ref 63, .ref 64, .ref 65, .ref 66, .ref 67, .int lkss, .ref 68, .ref 69, .ref 72])), (63, .inr (.inl (0, hes))), (64, .inr (.inl (0, ris))), (65, .inr (.inl (0, uss)))] h0) (kk : ∀ lv h, LK lv [(0, .ref 4), (1, .ref 56)] → KN h [(4, .inl (7, [.ref lys, .int mis, .int shus, .int buss, .ref 5, .ref 6, .ref 7, .ref 8, .ref 9, .ref 10, .ref 11, .ref 12, .ref 13, .ref 14, .ref 15, .int lkss, .ref 16, .ref 17, .ref 20])), (11, .inr (.inl (0, (aC 5 hes he)))), (12, .inr (.inl (0, (aC 6 ris ri)))), (13, .inr (.inl (0, (aC 6 uss us)))), (56, .inl (7, [.ref lys, .int mis, .int shus, .int buss, .ref 57, .ref 58, .ref 59, .ref 60, .ref 61, .ref 62, .ref 63, .ref 64, .ref 65, .ref 66, .ref 67, .int lkss, .ref 68, .ref 69, .ref 72])), (63, .inr (.inl (0, hes))), (64, .inr (.inl (0, ris))), (65, .inr (.inl (0, uss)))] h0 → j_V jP d 61 168 lv [] h Q) : j_V jP d 61 124 lv [] h Q := by
  refine j_V.ldL yb1s_M yb1s_124 rfl (i := 1) (kd := 2) (v := .ref 56) (pcJ := 125) rfl L rfl rfl rfl ?_
  refine j_V.getK yb1s_M yb1s_125 (ci := 7) (j := 10) rfl K rfl rfl ?_
  refine j_V.one yb1s_M yb1s_128 (by decide) (pcJ := 129) (stJ := [.int 0, .ref 63]) rfl ?_
  refine j_V.ldL yb1s_M yb1s_129 rfl (i := 0) (kd := 2) (v := .ref 4) (pcJ := 130) rfl L rfl rfl rfl ?_
  refine j_V.getK yb1s_M yb1s_130 (ci := 7) (j := 10) rfl K rfl rfl ?_
  refine j_V.one yb1s_M yb1s_133 (by decide) (pcJ := 134) (stJ := [.int 0, .ref 11, .int 0, .ref 63]) rfl ?_
  refine j_V.one yb1s_M yb1s_134 (by decide) (pcJ := 135) (stJ := [.int 5, .int 0, .ref 11, .int 0, .ref 63]) rfl ?_
  refine j_V.acp yb1s_M yb1s_135 rfl rfl K rfl rfl rfl (fun h K => ?_)
  refine j_V.ldL yb1s_M yb1s_138 rfl (i := 1) (kd := 2) (v := .ref 56) (pcJ := 139) rfl L rfl rfl rfl ?_
  refine j_V.getK yb1s_M yb1s_139 (ci := 7) (j := 11) rfl K rfl rfl ?_
  refine j_V.one yb1s_M yb1s_142 (by decide) (pcJ := 143) (stJ := [.int 0, .ref 64]) rfl ?_
  refine j_V.ldL yb1s_M yb1s_143 rfl (i := 0) (kd := 2) (v := .ref 4) (pcJ := 144) rfl L rfl rfl rfl ?_
  refine j_V.getK yb1s_M yb1s_144 (ci := 7) (j := 11) rfl K rfl rfl ?_
  refine j_V.one yb1s_M yb1s_147 (by decide) (pcJ := 148) (stJ := [.int 0, .ref 12, .int 0, .ref 64]) rfl ?_
  refine j_V.one yb1s_M yb1s_148 (by decide) (pcJ := 150) (stJ := [.int 6, .int 0, .ref 12, .int 0, .ref 64]) rfl ?_
  refine j_V.acp yb1s_M yb1s_150 rfl rfl K rfl rfl rfl (fun h K => ?_)
  refine j_V.ldL yb1s_M yb1s_153 rfl (i := 1) (kd := 2) (v := .ref 56) (pcJ := 154) rfl L rfl rfl rfl ?_
  refine j_V.getK yb1s_M yb1s_154 (ci := 7) (j := 12) rfl K rfl rfl ?_
  refine j_V.one yb1s_M yb1s_157 (by decide) (pcJ := 158) (stJ := [.int 0, .ref 65]) rfl ?_
  refine j_V.ldL yb1s_M yb1s_158 rfl (i := 0) (kd := 2) (v := .ref 4) (pcJ := 159) rfl L rfl rfl rfl ?_
  refine j_V.getK yb1s_M yb1s_159 (ci := 7) (j := 12) rfl K rfl rfl ?_
  refine j_V.one yb1s_M yb1s_162 (by decide) (pcJ := 163) (stJ := [.int 0, .ref 13, .int 0, .ref 65]) rfl ?_
  refine j_V.one yb1s_M yb1s_163 (by decide) (pcJ := 165) (stJ := [.int 6, .int 0, .ref 13, .int 0, .ref 65]) rfl ?_
  refine j_V.acp yb1s_M yb1s_165 rfl rfl K rfl rfl rfl (fun h K => ?_)
  exact kk _ _ L K
set_option maxRecDepth 1000000 in
theorem yb1s_k168 {cm : List Int32} {lf : List Int32} {lkd : List Int32} {lys : Nat} {mis : Int32} {shus : Int32} {buss : Int32} {lkss : Int32} {cms : List Int32} {lfs : List Int32} {lkds : List Int32} {d : Nat} {lv : J_L} {h h0 : J_H} {Q : Option Value → J_H → Prop} (L : LK lv [(0, .ref 4), (1, .ref 56)]) (K : KN h [(4, .inl (7, [.ref lys, .int mis, .int shus, .int buss, .ref 5, .ref 6, .ref 7, .ref 8, .ref 9, .ref 10, .ref 11, .ref 12, .ref 13, .ref 14, .ref 15, .int lkss, .ref 16, .ref 17, .ref 20])), (14, .inr (.inl (0, cm))), (15, .inr (.inl (0, lf))), (16, .inr (.inl (0, lkd))), (56, .inl (7, [.ref lys, .int mis, .int shus, .int buss, .ref 57, .ref 58, .ref 59, .ref 60, .ref 61, .ref 62, .ref 63, .ref 64, .ref 65, .ref 66, .ref 67, .int lkss, .ref 68, .ref 69, .ref 72])), (66, .inr (.inl (0, cms))), (67, .inr (.inl (0, lfs))), (68, .inr (.inl (0, lkds)))] h0) (kk : ∀ lv h, LK lv [(0, .ref 4), (1, .ref 56)] → KN h [(4, .inl (7, [.ref lys, .int mis, .int shus, .int buss, .ref 5, .ref 6, .ref 7, .ref 8, .ref 9, .ref 10, .ref 11, .ref 12, .ref 13, .ref 14, .ref 15, .int lkss, .ref 16, .ref 17, .ref 20])), (14, .inr (.inl (0, (aC (nI cm.length) cms cm)))), (15, .inr (.inl (0, (aC (nI lf.length) lfs lf)))), (16, .inr (.inl (0, (aC (nI lkd.length) lkds lkd)))), (56, .inl (7, [.ref lys, .int mis, .int shus, .int buss, .ref 57, .ref 58, .ref 59, .ref 60, .ref 61, .ref 62, .ref 63, .ref 64, .ref 65, .ref 66, .ref 67, .int lkss, .ref 68, .ref 69, .ref 72])), (66, .inr (.inl (0, cms))), (67, .inr (.inl (0, lfs))), (68, .inr (.inl (0, lkds)))] h0 → j_V jP d 61 222 lv [] h Q) : j_V jP d 61 168 lv [] h Q := by
  refine j_V.ldL yb1s_M yb1s_168 rfl (i := 1) (kd := 2) (v := .ref 56) (pcJ := 169) rfl L rfl rfl rfl ?_
  refine j_V.getK yb1s_M yb1s_169 (ci := 7) (j := 13) rfl K rfl rfl ?_
  refine j_V.one yb1s_M yb1s_172 (by decide) (pcJ := 173) (stJ := [.int 0, .ref 66]) rfl ?_
  refine j_V.ldL yb1s_M yb1s_173 rfl (i := 0) (kd := 2) (v := .ref 4) (pcJ := 174) rfl L rfl rfl rfl ?_
  refine j_V.getK yb1s_M yb1s_174 (ci := 7) (j := 13) rfl K rfl rfl ?_
  refine j_V.one yb1s_M yb1s_177 (by decide) (pcJ := 178) (stJ := [.int 0, .ref 14, .int 0, .ref 66]) rfl ?_
  refine j_V.ldL yb1s_M yb1s_178 rfl (i := 0) (kd := 2) (v := .ref 4) (pcJ := 179) rfl L rfl rfl rfl ?_
  refine j_V.getK yb1s_M yb1s_179 (ci := 7) (j := 13) rfl K rfl rfl ?_
  refine j_V.alnA yb1s_M yb1s_182 K rfl ?_
  refine j_V.acp yb1s_M yb1s_183 rfl rfl K rfl rfl rfl (fun h K => ?_)
  refine j_V.ldL yb1s_M yb1s_186 rfl (i := 1) (kd := 2) (v := .ref 56) (pcJ := 187) rfl L rfl rfl rfl ?_
  refine j_V.getK yb1s_M yb1s_187 (ci := 7) (j := 14) rfl K rfl rfl ?_
  refine j_V.one yb1s_M yb1s_190 (by decide) (pcJ := 191) (stJ := [.int 0, .ref 67]) rfl ?_
  refine j_V.ldL yb1s_M yb1s_191 rfl (i := 0) (kd := 2) (v := .ref 4) (pcJ := 192) rfl L rfl rfl rfl ?_
  refine j_V.getK yb1s_M yb1s_192 (ci := 7) (j := 14) rfl K rfl rfl ?_
  refine j_V.one yb1s_M yb1s_195 (by decide) (pcJ := 196) (stJ := [.int 0, .ref 15, .int 0, .ref 67]) rfl ?_
  refine j_V.ldL yb1s_M yb1s_196 rfl (i := 0) (kd := 2) (v := .ref 4) (pcJ := 197) rfl L rfl rfl rfl ?_
  refine j_V.getK yb1s_M yb1s_197 (ci := 7) (j := 14) rfl K rfl rfl ?_
  refine j_V.alnA yb1s_M yb1s_200 K rfl ?_
  refine j_V.acp yb1s_M yb1s_201 rfl rfl K rfl rfl rfl (fun h K => ?_)
  refine j_V.ldL yb1s_M yb1s_204 rfl (i := 1) (kd := 2) (v := .ref 56) (pcJ := 205) rfl L rfl rfl rfl ?_
  refine j_V.getK yb1s_M yb1s_205 (ci := 7) (j := 16) rfl K rfl rfl ?_
  refine j_V.one yb1s_M yb1s_208 (by decide) (pcJ := 209) (stJ := [.int 0, .ref 68]) rfl ?_
  refine j_V.ldL yb1s_M yb1s_209 rfl (i := 0) (kd := 2) (v := .ref 4) (pcJ := 210) rfl L rfl rfl rfl ?_
  refine j_V.getK yb1s_M yb1s_210 (ci := 7) (j := 16) rfl K rfl rfl ?_
  refine j_V.one yb1s_M yb1s_213 (by decide) (pcJ := 214) (stJ := [.int 0, .ref 16, .int 0, .ref 68]) rfl ?_
  refine j_V.ldL yb1s_M yb1s_214 rfl (i := 0) (kd := 2) (v := .ref 4) (pcJ := 215) rfl L rfl rfl rfl ?_
  refine j_V.getK yb1s_M yb1s_215 (ci := 7) (j := 16) rfl K rfl rfl ?_
  refine j_V.alnA yb1s_M yb1s_218 K rfl ?_
  refine j_V.acp yb1s_M yb1s_219 rfl rfl K rfl rfl rfl (fun h K => ?_)
  exact kk _ _ L K
set_option maxRecDepth 1000000 in
theorem yb1s_ok {ly : Value} {mi : Int32} {shu : Int32} {bus : Int32} {lks : Int32} {rk : List Int32} {sta : List Int32} {ph : List Int32} {sp : List Int32} {ce : List Int32} {du : List Int32} {he : List Int32} {ri : List Int32} {us : List Int32} {cm : List Int32} {lf : List Int32} {lkd : List Int32} {pev : Int32} {pms : List Int32} {pmm : List Int32} {pmt : List Int32} {pst : List Int32} {pwa : List Int32} {prs : List Int32} {prr : List Int32} {pfa : List Int32} {lys : Nat} {mis : Int32} {shus : Int32} {buss : Int32} {lkss : Int32} {rks : List Int32} {stas : List Int32} {phs : List Int32} {sps : List Int32} {ces : List Int32} {dus : List Int32} {hes : List Int32} {ris : List Int32} {uss : List Int32} {cms : List Int32} {lfs : List Int32} {lkds : List Int32} {pevs : Int32} {pmss : List Int32} {pmms : List Int32} {pmts : List Int32} {psts : List Int32} {pwas : List Int32} {prss : List Int32} {prrs : List Int32} {pfas : List Int32} {d : Nat} {h h0 : J_H} (K : KN h [(4, .inl (7, [ly, .int mi, .int shu, .int bus, .ref 5, .ref 6, .ref 7, .ref 8, .ref 9, .ref 10, .ref 11, .ref 12, .ref 13, .ref 14, .ref 15, .int lks, .ref 16, .ref 17, .ref 20])), (5, .inr (.inl (0, rk))), (6, .inr (.inl (0, sta))), (7, .inr (.inl (0, ph))), (8, .inr (.inl (0, sp))), (9, .inr (.inl (0, ce))), (10, .inr (.inl (0, du))), (11, .inr (.inl (0, he))), (12, .inr (.inl (0, ri))), (13, .inr (.inl (0, us))), (14, .inr (.inl (0, cm))), (15, .inr (.inl (0, lf))), (16, .inr (.inl (0, lkd))), (20, .inl (3, [.ref 21, .ref 22, .ref 23, .ref 24, .ref 25, .ref 26, .ref 27, .ref 28, .int pev, .int 1])), (21, .inr (.inl (0, pms))), (22, .inr (.inl (0, pmm))), (23, .inr (.inl (0, pmt))), (24, .inr (.inl (0, pst))), (25, .inr (.inl (0, pwa))), (26, .inr (.inl (0, prs))), (27, .inr (.inl (0, prr))), (28, .inr (.inl (0, pfa))), (56, .inl (7, [.ref lys, .int mis, .int shus, .int buss, .ref 57, .ref 58, .ref 59, .ref 60, .ref 61, .ref 62, .ref 63, .ref 64, .ref 65, .ref 66, .ref 67, .int lkss, .ref 68, .ref 69, .ref 72])), (57, .inr (.inl (0, rks))), (58, .inr (.inl (0, stas))), (59, .inr (.inl (0, phs))), (60, .inr (.inl (0, sps))), (61, .inr (.inl (0, ces))), (62, .inr (.inl (0, dus))), (63, .inr (.inl (0, hes))), (64, .inr (.inl (0, ris))), (65, .inr (.inl (0, uss))), (66, .inr (.inl (0, cms))), (67, .inr (.inl (0, lfs))), (68, .inr (.inl (0, lkds))), (72, .inl (3, [.ref 73, .ref 74, .ref 75, .ref 76, .ref 77, .ref 78, .ref 79, .ref 80, .int pevs, .int 1])), (73, .inr (.inl (0, pmss))), (74, .inr (.inl (0, pmms))), (75, .inr (.inl (0, pmts))), (76, .inr (.inl (0, psts))), (77, .inr (.inl (0, pwas))), (78, .inr (.inl (0, prss))), (79, .inr (.inl (0, prrs))), (80, .inr (.inl (0, pfas)))] h0) : j_V jP d 61 0 (lv_args 0 [.ref 4, .ref 56]) [] h (fun rv h' => rv = none ∧ KN h' [(4, .inl (7, [.ref lys, .int mis, .int shus, .int buss, .ref 5, .ref 6, .ref 7, .ref 8, .ref 9, .ref 10, .ref 11, .ref 12, .ref 13, .ref 14, .ref 15, .int lkss, .ref 16, .ref 17, .ref 20])), (5, .inr (.inl (0, (aC 5 rks rk)))), (6, .inr (.inl (0, (aC 5 stas sta)))), (7, .inr (.inl (0, (aC 5 phs ph)))), (8, .inr (.inl (0, (aC 5 sps sp)))), (9, .inr (.inl (0, (aC 5 ces ce)))), (10, .inr (.inl (0, (aC 5 dus du)))), (11, .inr (.inl (0, (aC 5 hes he)))), (12, .inr (.inl (0, (aC 6 ris ri)))), (13, .inr (.inl (0, (aC 6 uss us)))), (14, .inr (.inl (0, (aC (nI cm.length) cms cm)))), (15, .inr (.inl (0, (aC (nI lf.length) lfs lf)))), (16, .inr (.inl (0, (aC (nI lkd.length) lkds lkd)))), (20, .inl (3, [.ref 21, .ref 22, .ref 23, .ref 24, .ref 25, .ref 26, .ref 27, .ref 28, .int pevs, .int 1])), (21, .inr (.inl (0, (aC (nI pms.length) pmss pms)))), (22, .inr (.inl (0, (aC (nI pmm.length) pmms pmm)))), (23, .inr (.inl (0, (aC (nI pmt.length) pmts pmt)))), (24, .inr (.inl (0, (aC (nI pst.length) psts pst)))), (25, .inr (.inl (0, (aC (nI pwa.length) pwas pwa)))), (26, .inr (.inl (0, (aC (nI prs.length) prss prs)))), (27, .inr (.inl (0, (aC (nI prr.length) prrs prr)))), (28, .inr (.inl (0, (aC (nI pfa.length) pfas pfa)))), (56, .inl (7, [.ref lys, .int mis, .int shus, .int buss, .ref 57, .ref 58, .ref 59, .ref 60, .ref 61, .ref 62, .ref 63, .ref 64, .ref 65, .ref 66, .ref 67, .int lkss, .ref 68, .ref 69, .ref 72])), (57, .inr (.inl (0, rks))), (58, .inr (.inl (0, stas))), (59, .inr (.inl (0, phs))), (60, .inr (.inl (0, sps))), (61, .inr (.inl (0, ces))), (62, .inr (.inl (0, dus))), (63, .inr (.inl (0, hes))), (64, .inr (.inl (0, ris))), (65, .inr (.inl (0, uss))), (66, .inr (.inl (0, cms))), (67, .inr (.inl (0, lfs))), (68, .inr (.inl (0, lkds))), (72, .inl (3, [.ref 73, .ref 74, .ref 75, .ref 76, .ref 77, .ref 78, .ref 79, .ref 80, .int pevs, .int 1])), (73, .inr (.inl (0, pmss))), (74, .inr (.inl (0, pmms))), (75, .inr (.inl (0, pmts))), (76, .inr (.inl (0, psts))), (77, .inr (.inl (0, pwas))), (78, .inr (.inl (0, prss))), (79, .inr (.inl (0, prrs))), (80, .inr (.inl (0, pfas)))] h0) := by
  show j_V jP d 61 0 [(0, .ref 4), (1, .ref 56)] [] h _
  obtain ⟨lv, elv, L⟩ : ∃ lv, lv = [(0, .ref 4), (1, .ref 56)] ∧ LK lv [(0, .ref 4), (1, .ref 56)] := ⟨_, rfl, LK.rf⟩
  rw [← elv]
  clear elv
  refine yb1s_k0 L (K.fi [4, 56] rfl rfl) (fun lv h9 L K9 => ?_)
  have K : KN h9 [(4, .inl (7, [.ref lys, .int mis, .int shus, .int buss, .ref 5, .ref 6, .ref 7, .ref 8, .ref 9, .ref 10, .ref 11, .ref 12, .ref 13, .ref 14, .ref 15, .int lkss, .ref 16, .ref 17, .ref 20])), (5, .inr (.inl (0, rk))), (6, .inr (.inl (0, sta))), (7, .inr (.inl (0, ph))), (8, .inr (.inl (0, sp))), (9, .inr (.inl (0, ce))), (10, .inr (.inl (0, du))), (11, .inr (.inl (0, he))), (12, .inr (.inl (0, ri))), (13, .inr (.inl (0, us))), (14, .inr (.inl (0, cm))), (15, .inr (.inl (0, lf))), (16, .inr (.inl (0, lkd))), (20, .inl (3, [.ref 21, .ref 22, .ref 23, .ref 24, .ref 25, .ref 26, .ref 27, .ref 28, .int pev, .int 1])), (21, .inr (.inl (0, pms))), (22, .inr (.inl (0, pmm))), (23, .inr (.inl (0, pmt))), (24, .inr (.inl (0, pst))), (25, .inr (.inl (0, pwa))), (26, .inr (.inl (0, prs))), (27, .inr (.inl (0, prr))), (28, .inr (.inl (0, pfa))), (56, .inl (7, [.ref lys, .int mis, .int shus, .int buss, .ref 57, .ref 58, .ref 59, .ref 60, .ref 61, .ref 62, .ref 63, .ref 64, .ref 65, .ref 66, .ref 67, .int lkss, .ref 68, .ref 69, .ref 72])), (57, .inr (.inl (0, rks))), (58, .inr (.inl (0, stas))), (59, .inr (.inl (0, phs))), (60, .inr (.inl (0, sps))), (61, .inr (.inl (0, ces))), (62, .inr (.inl (0, dus))), (63, .inr (.inl (0, hes))), (64, .inr (.inl (0, ris))), (65, .inr (.inl (0, uss))), (66, .inr (.inl (0, cms))), (67, .inr (.inl (0, lfs))), (68, .inr (.inl (0, lkds))), (72, .inl (3, [.ref 73, .ref 74, .ref 75, .ref 76, .ref 77, .ref 78, .ref 79, .ref 80, .int pevs, .int 1])), (73, .inr (.inl (0, pmss))), (74, .inr (.inl (0, pmms))), (75, .inr (.inl (0, pmts))), (76, .inr (.inl (0, psts))), (77, .inr (.inl (0, pwas))), (78, .inr (.inl (0, prss))), (79, .inr (.inl (0, prrs))), (80, .inr (.inl (0, pfas)))] h0 := K.mg K9 rfl rfl
  clear K9
  refine yb1s_k40 L (K.fi [4, 5, 6, 7, 56, 57, 58, 59] rfl rfl) (fun lv h9 L K9 => ?_)
  have K : KN h9 [(4, .inl (7, [.ref lys, .int mis, .int shus, .int buss, .ref 5, .ref 6, .ref 7, .ref 8, .ref 9, .ref 10, .ref 11, .ref 12, .ref 13, .ref 14, .ref 15, .int lkss, .ref 16, .ref 17, .ref 20])), (5, .inr (.inl (0, (aC 5 rks rk)))), (6, .inr (.inl (0, (aC 5 stas sta)))), (7, .inr (.inl (0, (aC 5 phs ph)))), (8, .inr (.inl (0, sp))), (9, .inr (.inl (0, ce))), (10, .inr (.inl (0, du))), (11, .inr (.inl (0, he))), (12, .inr (.inl (0, ri))), (13, .inr (.inl (0, us))), (14, .inr (.inl (0, cm))), (15, .inr (.inl (0, lf))), (16, .inr (.inl (0, lkd))), (20, .inl (3, [.ref 21, .ref 22, .ref 23, .ref 24, .ref 25, .ref 26, .ref 27, .ref 28, .int pev, .int 1])), (21, .inr (.inl (0, pms))), (22, .inr (.inl (0, pmm))), (23, .inr (.inl (0, pmt))), (24, .inr (.inl (0, pst))), (25, .inr (.inl (0, pwa))), (26, .inr (.inl (0, prs))), (27, .inr (.inl (0, prr))), (28, .inr (.inl (0, pfa))), (56, .inl (7, [.ref lys, .int mis, .int shus, .int buss, .ref 57, .ref 58, .ref 59, .ref 60, .ref 61, .ref 62, .ref 63, .ref 64, .ref 65, .ref 66, .ref 67, .int lkss, .ref 68, .ref 69, .ref 72])), (57, .inr (.inl (0, rks))), (58, .inr (.inl (0, stas))), (59, .inr (.inl (0, phs))), (60, .inr (.inl (0, sps))), (61, .inr (.inl (0, ces))), (62, .inr (.inl (0, dus))), (63, .inr (.inl (0, hes))), (64, .inr (.inl (0, ris))), (65, .inr (.inl (0, uss))), (66, .inr (.inl (0, cms))), (67, .inr (.inl (0, lfs))), (68, .inr (.inl (0, lkds))), (72, .inl (3, [.ref 73, .ref 74, .ref 75, .ref 76, .ref 77, .ref 78, .ref 79, .ref 80, .int pevs, .int 1])), (73, .inr (.inl (0, pmss))), (74, .inr (.inl (0, pmms))), (75, .inr (.inl (0, pmts))), (76, .inr (.inl (0, psts))), (77, .inr (.inl (0, pwas))), (78, .inr (.inl (0, prss))), (79, .inr (.inl (0, prrs))), (80, .inr (.inl (0, pfas)))] h0 := K.mg K9 rfl rfl
  clear K9
  refine yb1s_k82 L (K.fi [4, 8, 9, 10, 56, 60, 61, 62] rfl rfl) (fun lv h9 L K9 => ?_)
  have K : KN h9 [(4, .inl (7, [.ref lys, .int mis, .int shus, .int buss, .ref 5, .ref 6, .ref 7, .ref 8, .ref 9, .ref 10, .ref 11, .ref 12, .ref 13, .ref 14, .ref 15, .int lkss, .ref 16, .ref 17, .ref 20])), (5, .inr (.inl (0, (aC 5 rks rk)))), (6, .inr (.inl (0, (aC 5 stas sta)))), (7, .inr (.inl (0, (aC 5 phs ph)))), (8, .inr (.inl (0, (aC 5 sps sp)))), (9, .inr (.inl (0, (aC 5 ces ce)))), (10, .inr (.inl (0, (aC 5 dus du)))), (11, .inr (.inl (0, he))), (12, .inr (.inl (0, ri))), (13, .inr (.inl (0, us))), (14, .inr (.inl (0, cm))), (15, .inr (.inl (0, lf))), (16, .inr (.inl (0, lkd))), (20, .inl (3, [.ref 21, .ref 22, .ref 23, .ref 24, .ref 25, .ref 26, .ref 27, .ref 28, .int pev, .int 1])), (21, .inr (.inl (0, pms))), (22, .inr (.inl (0, pmm))), (23, .inr (.inl (0, pmt))), (24, .inr (.inl (0, pst))), (25, .inr (.inl (0, pwa))), (26, .inr (.inl (0, prs))), (27, .inr (.inl (0, prr))), (28, .inr (.inl (0, pfa))), (56, .inl (7, [.ref lys, .int mis, .int shus, .int buss, .ref 57, .ref 58, .ref 59, .ref 60, .ref 61, .ref 62, .ref 63, .ref 64, .ref 65, .ref 66, .ref 67, .int lkss, .ref 68, .ref 69, .ref 72])), (57, .inr (.inl (0, rks))), (58, .inr (.inl (0, stas))), (59, .inr (.inl (0, phs))), (60, .inr (.inl (0, sps))), (61, .inr (.inl (0, ces))), (62, .inr (.inl (0, dus))), (63, .inr (.inl (0, hes))), (64, .inr (.inl (0, ris))), (65, .inr (.inl (0, uss))), (66, .inr (.inl (0, cms))), (67, .inr (.inl (0, lfs))), (68, .inr (.inl (0, lkds))), (72, .inl (3, [.ref 73, .ref 74, .ref 75, .ref 76, .ref 77, .ref 78, .ref 79, .ref 80, .int pevs, .int 1])), (73, .inr (.inl (0, pmss))), (74, .inr (.inl (0, pmms))), (75, .inr (.inl (0, pmts))), (76, .inr (.inl (0, psts))), (77, .inr (.inl (0, pwas))), (78, .inr (.inl (0, prss))), (79, .inr (.inl (0, prrs))), (80, .inr (.inl (0, pfas)))] h0 := K.mg K9 rfl rfl
  clear K9
  refine yb1s_k124 L (K.fi [4, 11, 12, 13, 56, 63, 64, 65] rfl rfl) (fun lv h9 L K9 => ?_)
  have K : KN h9 [(4, .inl (7, [.ref lys, .int mis, .int shus, .int buss, .ref 5, .ref 6, .ref 7, .ref 8, .ref 9, .ref 10, .ref 11, .ref 12, .ref 13, .ref 14, .ref 15, .int lkss, .ref 16, .ref 17, .ref 20])), (5, .inr (.inl (0, (aC 5 rks rk)))), (6, .inr (.inl (0, (aC 5 stas sta)))), (7, .inr (.inl (0, (aC 5 phs ph)))), (8, .inr (.inl (0, (aC 5 sps sp)))), (9, .inr (.inl (0, (aC 5 ces ce)))), (10, .inr (.inl (0, (aC 5 dus du)))), (11, .inr (.inl (0, (aC 5 hes he)))), (12, .inr (.inl (0, (aC 6 ris ri)))), (13, .inr (.inl (0, (aC 6 uss us)))), (14, .inr (.inl (0, cm))), (15, .inr (.inl (0, lf))), (16, .inr (.inl (0, lkd))), (20, .inl (3, [.ref 21, .ref 22, .ref 23, .ref 24, .ref 25, .ref 26, .ref 27, .ref 28, .int pev, .int 1])), (21, .inr (.inl (0, pms))), (22, .inr (.inl (0, pmm))), (23, .inr (.inl (0, pmt))), (24, .inr (.inl (0, pst))), (25, .inr (.inl (0, pwa))), (26, .inr (.inl (0, prs))), (27, .inr (.inl (0, prr))), (28, .inr (.inl (0, pfa))), (56, .inl (7, [.ref lys, .int mis, .int shus, .int buss, .ref 57, .ref 58, .ref 59, .ref 60, .ref 61, .ref 62, .ref 63, .ref 64, .ref 65, .ref 66, .ref 67, .int lkss, .ref 68, .ref 69, .ref 72])), (57, .inr (.inl (0, rks))), (58, .inr (.inl (0, stas))), (59, .inr (.inl (0, phs))), (60, .inr (.inl (0, sps))), (61, .inr (.inl (0, ces))), (62, .inr (.inl (0, dus))), (63, .inr (.inl (0, hes))), (64, .inr (.inl (0, ris))), (65, .inr (.inl (0, uss))), (66, .inr (.inl (0, cms))), (67, .inr (.inl (0, lfs))), (68, .inr (.inl (0, lkds))), (72, .inl (3, [.ref 73, .ref 74, .ref 75, .ref 76, .ref 77, .ref 78, .ref 79, .ref 80, .int pevs, .int 1])), (73, .inr (.inl (0, pmss))), (74, .inr (.inl (0, pmms))), (75, .inr (.inl (0, pmts))), (76, .inr (.inl (0, psts))), (77, .inr (.inl (0, pwas))), (78, .inr (.inl (0, prss))), (79, .inr (.inl (0, prrs))), (80, .inr (.inl (0, pfas)))] h0 := K.mg K9 rfl rfl
  clear K9
  refine yb1s_k168 L (K.fi [4, 14, 15, 16, 56, 66, 67, 68] rfl rfl) (fun lv h9 L K9 => ?_)
  have K : KN h9 [(4, .inl (7, [.ref lys, .int mis, .int shus, .int buss, .ref 5, .ref 6, .ref 7, .ref 8, .ref 9, .ref 10, .ref 11, .ref 12, .ref 13, .ref 14, .ref 15, .int lkss, .ref 16, .ref 17, .ref 20])), (5, .inr (.inl (0, (aC 5 rks rk)))), (6, .inr (.inl (0, (aC 5 stas sta)))), (7, .inr (.inl (0, (aC 5 phs ph)))), (8, .inr (.inl (0, (aC 5 sps sp)))), (9, .inr (.inl (0, (aC 5 ces ce)))), (10, .inr (.inl (0, (aC 5 dus du)))), (11, .inr (.inl (0, (aC 5 hes he)))), (12, .inr (.inl (0, (aC 6 ris ri)))), (13, .inr (.inl (0, (aC 6 uss us)))), (14, .inr (.inl (0, (aC (nI cm.length) cms cm)))), (15, .inr (.inl (0, (aC (nI lf.length) lfs lf)))), (16, .inr (.inl (0, (aC (nI lkd.length) lkds lkd)))), (20, .inl (3, [.ref 21, .ref 22, .ref 23, .ref 24, .ref 25, .ref 26, .ref 27, .ref 28, .int pev, .int 1])), (21, .inr (.inl (0, pms))), (22, .inr (.inl (0, pmm))), (23, .inr (.inl (0, pmt))), (24, .inr (.inl (0, pst))), (25, .inr (.inl (0, pwa))), (26, .inr (.inl (0, prs))), (27, .inr (.inl (0, prr))), (28, .inr (.inl (0, pfa))), (56, .inl (7, [.ref lys, .int mis, .int shus, .int buss, .ref 57, .ref 58, .ref 59, .ref 60, .ref 61, .ref 62, .ref 63, .ref 64, .ref 65, .ref 66, .ref 67, .int lkss, .ref 68, .ref 69, .ref 72])), (57, .inr (.inl (0, rks))), (58, .inr (.inl (0, stas))), (59, .inr (.inl (0, phs))), (60, .inr (.inl (0, sps))), (61, .inr (.inl (0, ces))), (62, .inr (.inl (0, dus))), (63, .inr (.inl (0, hes))), (64, .inr (.inl (0, ris))), (65, .inr (.inl (0, uss))), (66, .inr (.inl (0, cms))), (67, .inr (.inl (0, lfs))), (68, .inr (.inl (0, lkds))), (72, .inl (3, [.ref 73, .ref 74, .ref 75, .ref 76, .ref 77, .ref 78, .ref 79, .ref 80, .int pevs, .int 1])), (73, .inr (.inl (0, pmss))), (74, .inr (.inl (0, pmms))), (75, .inr (.inl (0, pmts))), (76, .inr (.inl (0, psts))), (77, .inr (.inl (0, pwas))), (78, .inr (.inl (0, prss))), (79, .inr (.inl (0, prrs))), (80, .inr (.inl (0, pfas)))] h0 := K.mg K9 rfl rfl
  clear K9
  refine j_V.ldL yb1s_M yb1s_222 rfl (i := 0) (kd := 2) (v := .ref 4) (pcJ := 223) rfl L rfl rfl rfl ?_
  refine j_V.getK yb1s_M yb1s_223 (ci := 7) (j := 18) rfl K rfl rfl ?_
  refine j_V.ldL yb1s_M yb1s_226 rfl (i := 1) (kd := 2) (v := .ref 56) (pcJ := 227) rfl L rfl rfl rfl ?_
  refine j_V.getK yb1s_M yb1s_227 (ci := 7) (j := 18) rfl K rfl rfl ?_
  refine j_V.cl yb1s_M yb1s_230 rfl (md := 3) (mj := 28) rfl (by decide) yb1p_M (As := [.ref 20, .ref 72]) (rest := []) (jk_spl3 (K.at rfl) rfl rfl rfl (Nat.le_of_ble_eq_true rfl) (Nat.le_of_ble_eq_true rfl)) (fun d => yb1p_ok (K.fi [20, 21, 22, 23, 24, 25, 26, 27, 28, 72, 73, 74, 75, 76, 77, 78, 79, 80] rfl rfl)) ?_
  rintro r h9 ⟨rfl, K9⟩
  have K : KN h9 [(4, .inl (7, [.ref lys, .int mis, .int shus, .int buss, .ref 5, .ref 6, .ref 7, .ref 8, .ref 9, .ref 10, .ref 11, .ref 12, .ref 13, .ref 14, .ref 15, .int lkss, .ref 16, .ref 17, .ref 20])), (5, .inr (.inl (0, (aC 5 rks rk)))), (6, .inr (.inl (0, (aC 5 stas sta)))), (7, .inr (.inl (0, (aC 5 phs ph)))), (8, .inr (.inl (0, (aC 5 sps sp)))), (9, .inr (.inl (0, (aC 5 ces ce)))), (10, .inr (.inl (0, (aC 5 dus du)))), (11, .inr (.inl (0, (aC 5 hes he)))), (12, .inr (.inl (0, (aC 6 ris ri)))), (13, .inr (.inl (0, (aC 6 uss us)))), (14, .inr (.inl (0, (aC (nI cm.length) cms cm)))), (15, .inr (.inl (0, (aC (nI lf.length) lfs lf)))), (16, .inr (.inl (0, (aC (nI lkd.length) lkds lkd)))), (20, .inl (3, [.ref 21, .ref 22, .ref 23, .ref 24, .ref 25, .ref 26, .ref 27, .ref 28, .int pevs, .int 1])), (21, .inr (.inl (0, (aC (nI pms.length) pmss pms)))), (22, .inr (.inl (0, (aC (nI pmm.length) pmms pmm)))), (23, .inr (.inl (0, (aC (nI pmt.length) pmts pmt)))), (24, .inr (.inl (0, (aC (nI pst.length) psts pst)))), (25, .inr (.inl (0, (aC (nI pwa.length) pwas pwa)))), (26, .inr (.inl (0, (aC (nI prs.length) prss prs)))), (27, .inr (.inl (0, (aC (nI prr.length) prrs prr)))), (28, .inr (.inl (0, (aC (nI pfa.length) pfas pfa)))), (56, .inl (7, [.ref lys, .int mis, .int shus, .int buss, .ref 57, .ref 58, .ref 59, .ref 60, .ref 61, .ref 62, .ref 63, .ref 64, .ref 65, .ref 66, .ref 67, .int lkss, .ref 68, .ref 69, .ref 72])), (57, .inr (.inl (0, rks))), (58, .inr (.inl (0, stas))), (59, .inr (.inl (0, phs))), (60, .inr (.inl (0, sps))), (61, .inr (.inl (0, ces))), (62, .inr (.inl (0, dus))), (63, .inr (.inl (0, hes))), (64, .inr (.inl (0, ris))), (65, .inr (.inl (0, uss))), (66, .inr (.inl (0, cms))), (67, .inr (.inl (0, lfs))), (68, .inr (.inl (0, lkds))), (72, .inl (3, [.ref 73, .ref 74, .ref 75, .ref 76, .ref 77, .ref 78, .ref 79, .ref 80, .int pevs, .int 1])), (73, .inr (.inl (0, pmss))), (74, .inr (.inl (0, pmms))), (75, .inr (.inl (0, pmts))), (76, .inr (.inl (0, psts))), (77, .inr (.inl (0, pwas))), (78, .inr (.inl (0, prss))), (79, .inr (.inl (0, prrs))), (80, .inr (.inl (0, pfas)))] h0 := K.mg K9 rfl rfl
  clear K9
  show j_V jP _ 61 233 lv [] h9 _
  exact j_V.ret yb1s_M yb1s_233 rfl rfl ⟨rfl, K⟩
set_option maxRecDepth 100000 in
theorem yb1m_M : j_meth jP 3 = some (yX0_takeBack, cX0_takeBack, 2, none, 1, false, 0) := rfl
set_option maxRecDepth 100000 in
theorem yb1m_0 : j_code jP 3 0 = some (.aload_n 0) := rfl
set_option maxRecDepth 100000 in
theorem yb1m_1 : j_code jP 3 1 = some (.aload_n 0) := rfl
set_option maxRecDepth 100000 in
theorem yb1m_2 : j_code jP 3 2 = some (.getfield 24) := rfl
set_option maxRecDepth 100000 in
theorem yb1m_5 : j_code jP 3 5 = some (.bipush 10) := rfl
set_option maxRecDepth 100000 in
theorem yb1m_7 : j_code jP 3 7 = some (.iadd) := rfl
set_option maxRecDepth 100000 in
theorem yb1m_8 : j_code jP 3 8 = some (.iconst 1) := rfl
set_option maxRecDepth 100000 in
theorem yb1m_9 : j_code jP 3 9 = some (.isub) := rfl
set_option maxRecDepth 100000 in
theorem yb1m_10 : j_code jP 3 10 = some (.bipush 10) := rfl
set_option maxRecDepth 100000 in
theorem yb1m_12 : j_code jP 3 12 = some (.irem) := rfl
set_option maxRecDepth 100000 in
theorem yb1m_13 : j_code jP 3 13 = some (.putfield 24) := rfl
set_option maxRecDepth 100000 in
theorem yb1m_16 : j_code jP 3 16 = some (.aload_n 0) := rfl
set_option maxRecDepth 100000 in
theorem yb1m_17 : j_code jP 3 17 = some (.dup) := rfl
set_option maxRecDepth 100000 in
theorem yb1m_18 : j_code jP 3 18 = some (.getfield 20) := rfl
set_option maxRecDepth 100000 in
theorem yb1m_21 : j_code jP 3 21 = some (.iconst 1) := rfl
set_option maxRecDepth 100000 in
theorem yb1m_22 : j_code jP 3 22 = some (.isub) := rfl
set_option maxRecDepth 100000 in
theorem yb1m_23 : j_code jP 3 23 = some (.putfield 20) := rfl
set_option maxRecDepth 100000 in
theorem yb1m_26 : j_code jP 3 26 = some (.aload_n 1) := rfl
set_option maxRecDepth 100000 in
theorem yb1m_27 : j_code jP 3 27 = some (.aload_n 0) := rfl
set_option maxRecDepth 100000 in
theorem yb1m_28 : j_code jP 3 28 = some (.getfield 11) := rfl
set_option maxRecDepth 100000 in
theorem yb1m_31 : j_code jP 3 31 = some (.aload_n 0) := rfl
set_option maxRecDepth 100000 in
theorem yb1m_32 : j_code jP 3 32 = some (.getfield 24) := rfl
set_option maxRecDepth 100000 in
theorem yb1m_35 : j_code jP 3 35 = some (.aaload) := rfl
set_option maxRecDepth 100000 in
theorem yb1m_36 : j_code jP 3 36 = some (.invokevirtual 27) := rfl
set_option maxRecDepth 100000 in
theorem yb1m_39 : j_code jP 3 39 = some (.return_) := rfl
set_option maxRecDepth 1000000 in
theorem yb1m_ok {ly : Value} {mi : Int32} {shu : Int32} {bus : Int32} {lks : Int32} {rk : List Int32} {sta : List Int32} {ph : List Int32} {sp : List Int32} {ce : List Int32} {du : List Int32} {he : List Int32} {ri : List Int32} {us : List Int32} {cm : List Int32} {lf : List Int32} {lkd : List Int32} {pev : Int32} {pms : List Int32} {pmm : List Int32} {pmt : List Int32} {pst : List Int32} {pwa : List Int32} {prs : List Int32} {prr : List Int32} {pfa : List Int32} {lys : Nat} {mis : Int32} {shus : Int32} {buss : Int32} {lkss : Int32} {rks : List Int32} {stas : List Int32} {phs : List Int32} {sps : List Int32} {ces : List Int32} {dus : List Int32} {hes : List Int32} {ris : List Int32} {uss : List Int32} {cms : List Int32} {lfs : List Int32} {lkds : List Int32} {pevs : Int32} {pmss : List Int32} {pmms : List Int32} {pmts : List Int32} {psts : List Int32} {pwas : List Int32} {prss : List Int32} {prrs : List Int32} {pfas : List Int32} {acco : Int32} {d : Nat} {h h0 : J_H} (K : KN h [(4, .inl (7, [ly, .int mi, .int shu, .int bus, .ref 5, .ref 6, .ref 7, .ref 8, .ref 9, .ref 10, .ref 11, .ref 12, .ref 13, .ref 14, .ref 15, .int lks, .ref 16, .ref 17, .ref 20])), (5, .inr (.inl (0, rk))), (6, .inr (.inl (0, sta))), (7, .inr (.inl (0, ph))), (8, .inr (.inl (0, sp))), (9, .inr (.inl (0, ce))), (10, .inr (.inl (0, du))), (11, .inr (.inl (0, he))), (12, .inr (.inl (0, ri))), (13, .inr (.inl (0, us))), (14, .inr (.inl (0, cm))), (15, .inr (.inl (0, lf))), (16, .inr (.inl (0, lkd))), (20, .inl (3, [.ref 21, .ref 22, .ref 23, .ref 24, .ref 25, .ref 26, .ref 27, .ref 28, .int pev, .int 1])), (21, .inr (.inl (0, pms))), (22, .inr (.inl (0, pmm))), (23, .inr (.inl (0, pmt))), (24, .inr (.inl (0, pst))), (25, .inr (.inl (0, pwa))), (26, .inr (.inl (0, prs))), (27, .inr (.inl (0, prr))), (28, .inr (.inl (0, pfa))), (29, .inl (0, [.ref 30, .int 2, .int acco])), (30, .inr (.inr (.inr [some 31, some 56, some 81, some 106, some 131, some 156, some 181, some 206, some 231, some 256]))), (56, .inl (7, [.ref lys, .int mis, .int shus, .int buss, .ref 57, .ref 58, .ref 59, .ref 60, .ref 61, .ref 62, .ref 63, .ref 64, .ref 65, .ref 66, .ref 67, .int lkss, .ref 68, .ref 69, .ref 72])), (57, .inr (.inl (0, rks))), (58, .inr (.inl (0, stas))), (59, .inr (.inl (0, phs))), (60, .inr (.inl (0, sps))), (61, .inr (.inl (0, ces))), (62, .inr (.inl (0, dus))), (63, .inr (.inl (0, hes))), (64, .inr (.inl (0, ris))), (65, .inr (.inl (0, uss))), (66, .inr (.inl (0, cms))), (67, .inr (.inl (0, lfs))), (68, .inr (.inl (0, lkds))), (72, .inl (3, [.ref 73, .ref 74, .ref 75, .ref 76, .ref 77, .ref 78, .ref 79, .ref 80, .int pevs, .int 1])), (73, .inr (.inl (0, pmss))), (74, .inr (.inl (0, pmms))), (75, .inr (.inl (0, pmts))), (76, .inr (.inl (0, psts))), (77, .inr (.inl (0, pwas))), (78, .inr (.inl (0, prss))), (79, .inr (.inl (0, prrs))), (80, .inr (.inl (0, pfas)))] h0) : j_V jP d 3 0 (lv_args 0 [.ref 29, .ref 4]) [] h (fun rv h' => rv = none ∧ KN h' [(4, .inl (7, [.ref lys, .int mis, .int shus, .int buss, .ref 5, .ref 6, .ref 7, .ref 8, .ref 9, .ref 10, .ref 11, .ref 12, .ref 13, .ref 14, .ref 15, .int lkss, .ref 16, .ref 17, .ref 20])), (5, .inr (.inl (0, (aC 5 rks rk)))), (6, .inr (.inl (0, (aC 5 stas sta)))), (7, .inr (.inl (0, (aC 5 phs ph)))), (8, .inr (.inl (0, (aC 5 sps sp)))), (9, .inr (.inl (0, (aC 5 ces ce)))), (10, .inr (.inl (0, (aC 5 dus du)))), (11, .inr (.inl (0, (aC 5 hes he)))), (12, .inr (.inl (0, (aC 6 ris ri)))), (13, .inr (.inl (0, (aC 6 uss us)))), (14, .inr (.inl (0, (aC (nI cm.length) cms cm)))), (15, .inr (.inl (0, (aC (nI lf.length) lfs lf)))), (16, .inr (.inl (0, (aC (nI lkd.length) lkds lkd)))), (20, .inl (3, [.ref 21, .ref 22, .ref 23, .ref 24, .ref 25, .ref 26, .ref 27, .ref 28, .int pevs, .int 1])), (21, .inr (.inl (0, (aC (nI pms.length) pmss pms)))), (22, .inr (.inl (0, (aC (nI pmm.length) pmms pmm)))), (23, .inr (.inl (0, (aC (nI pmt.length) pmts pmt)))), (24, .inr (.inl (0, (aC (nI pst.length) psts pst)))), (25, .inr (.inl (0, (aC (nI pwa.length) pwas pwa)))), (26, .inr (.inl (0, (aC (nI prs.length) prss prs)))), (27, .inr (.inl (0, (aC (nI prr.length) prrs prr)))), (28, .inr (.inl (0, (aC (nI pfa.length) pfas pfa)))), (29, .inl (0, [.ref 30, .int 1, .int (acco - 1)])), (30, .inr (.inr (.inr [some 31, some 56, some 81, some 106, some 131, some 156, some 181, some 206, some 231, some 256]))), (56, .inl (7, [.ref lys, .int mis, .int shus, .int buss, .ref 57, .ref 58, .ref 59, .ref 60, .ref 61, .ref 62, .ref 63, .ref 64, .ref 65, .ref 66, .ref 67, .int lkss, .ref 68, .ref 69, .ref 72])), (57, .inr (.inl (0, rks))), (58, .inr (.inl (0, stas))), (59, .inr (.inl (0, phs))), (60, .inr (.inl (0, sps))), (61, .inr (.inl (0, ces))), (62, .inr (.inl (0, dus))), (63, .inr (.inl (0, hes))), (64, .inr (.inl (0, ris))), (65, .inr (.inl (0, uss))), (66, .inr (.inl (0, cms))), (67, .inr (.inl (0, lfs))), (68, .inr (.inl (0, lkds))), (72, .inl (3, [.ref 73, .ref 74, .ref 75, .ref 76, .ref 77, .ref 78, .ref 79, .ref 80, .int pevs, .int 1])), (73, .inr (.inl (0, pmss))), (74, .inr (.inl (0, pmms))), (75, .inr (.inl (0, pmts))), (76, .inr (.inl (0, psts))), (77, .inr (.inl (0, pwas))), (78, .inr (.inl (0, prss))), (79, .inr (.inl (0, prrs))), (80, .inr (.inl (0, pfas)))] h0) := by
  show j_V jP d 3 0 [(0, .ref 29), (1, .ref 4)] [] h _
  obtain ⟨lv, elv, L⟩ : ∃ lv, lv = [(0, .ref 29), (1, .ref 4)] ∧ LK lv [(0, .ref 29), (1, .ref 4)] := ⟨_, rfl, LK.rf⟩
  rw [← elv]
  clear elv
  refine j_V.ldL yb1m_M yb1m_0 rfl (i := 0) (kd := 2) (v := .ref 29) (pcJ := 1) rfl L rfl rfl rfl ?_
  refine j_V.ldL yb1m_M yb1m_1 rfl (i := 0) (kd := 2) (v := .ref 29) (pcJ := 2) rfl L rfl rfl rfl ?_
  refine j_V.getK yb1m_M yb1m_2 (ci := 0) (j := 1) rfl K rfl rfl ?_
  refine j_V.one yb1m_M yb1m_5 (by decide) (pcJ := 7) (stJ := [.int 10, .int 2, .ref 29]) rfl ?_
  refine j_V.one yb1m_M yb1m_7 (by decide) (pcJ := 8) (stJ := [.int 12, .ref 29]) rfl ?_
  refine j_V.one yb1m_M yb1m_8 (by decide) (pcJ := 9) (stJ := [.int 1, .int 12, .ref 29]) rfl ?_
  refine j_V.one yb1m_M yb1m_9 (by decide) (pcJ := 10) (stJ := [.int 11, .ref 29]) rfl ?_
  refine j_V.one yb1m_M yb1m_10 (by decide) (pcJ := 12) (stJ := [.int 10, .int 11, .ref 29]) rfl ?_
  refine j_V.one yb1m_M yb1m_12 (by decide) (pcJ := 13) (stJ := [.int 1, .ref 29]) rfl ?_
  refine j_V.putK yb1m_M yb1m_13 (ci := 0) (j := 1) (k' := [(4, .inl (7, [ly, .int mi, .int shu, .int bus, .ref 5, .ref 6, .ref 7, .ref 8, .ref 9, .ref 10, .ref 11, .ref 12, .ref 13, .ref 14, .ref 15, .int lks, .ref 16, .ref 17, .ref 20])), (5, .inr (.inl (0, rk))), (6, .inr (.inl (0, sta))), (7, .inr (.inl (0, ph))), (8, .inr (.inl (0, sp))), (9, .inr (.inl (0, ce))), (10, .inr (.inl (0, du))), (11, .inr (.inl (0, he))), (12, .inr (.inl (0, ri))), (13, .inr (.inl (0, us))), (14, .inr (.inl (0, cm))), (15, .inr (.inl (0, lf))), (16, .inr (.inl (0, lkd))), (20, .inl (3, [.ref 21, .ref 22, .ref 23, .ref 24, .ref 25, .ref 26, .ref 27, .ref 28, .int pev, .int 1])), (21, .inr (.inl (0, pms))), (22, .inr (.inl (0, pmm))), (23, .inr (.inl (0, pmt))), (24, .inr (.inl (0, pst))), (25, .inr (.inl (0, pwa))), (26, .inr (.inl (0, prs))), (27, .inr (.inl (0, prr))), (28, .inr (.inl (0, pfa))), (29, .inl (0, [.ref 30, .int 1, .int acco])), (30, .inr (.inr (.inr [some 31, some 56, some 81, some 106, some 131, some 156, some 181, some 206, some 231, some 256]))), (56, .inl (7, [.ref lys, .int mis, .int shus, .int buss, .ref 57, .ref 58, .ref 59, .ref 60, .ref 61, .ref 62, .ref 63, .ref 64, .ref 65, .ref 66, .ref 67, .int lkss, .ref 68, .ref 69, .ref 72])), (57, .inr (.inl (0, rks))), (58, .inr (.inl (0, stas))), (59, .inr (.inl (0, phs))), (60, .inr (.inl (0, sps))), (61, .inr (.inl (0, ces))), (62, .inr (.inl (0, dus))), (63, .inr (.inl (0, hes))), (64, .inr (.inl (0, ris))), (65, .inr (.inl (0, uss))), (66, .inr (.inl (0, cms))), (67, .inr (.inl (0, lfs))), (68, .inr (.inl (0, lkds))), (72, .inl (3, [.ref 73, .ref 74, .ref 75, .ref 76, .ref 77, .ref 78, .ref 79, .ref 80, .int pevs, .int 1])), (73, .inr (.inl (0, pmss))), (74, .inr (.inl (0, pmms))), (75, .inr (.inl (0, pmts))), (76, .inr (.inl (0, psts))), (77, .inr (.inl (0, pwas))), (78, .inr (.inl (0, prss))), (79, .inr (.inl (0, prrs))), (80, .inr (.inl (0, pfas)))]) rfl K rfl (Nat.le_of_ble_eq_true rfl) rfl (Or.inl rfl) rfl rfl (fun h K => ?_)
  refine j_V.ldL yb1m_M yb1m_16 rfl (i := 0) (kd := 2) (v := .ref 29) (pcJ := 17) rfl L rfl rfl rfl ?_
  refine j_V.one yb1m_M yb1m_17 (by decide) (pcJ := 18) (stJ := [.ref 29, .ref 29]) rfl ?_
  refine j_V.getK yb1m_M yb1m_18 (ci := 0) (j := 2) rfl K rfl rfl ?_
  refine j_V.one yb1m_M yb1m_21 (by decide) (pcJ := 22) (stJ := [.int 1, .int acco, .ref 29]) rfl ?_
  refine j_V.one yb1m_M yb1m_22 (by decide) (pcJ := 23) (stJ := [.int (acco - 1), .ref 29]) rfl ?_
  refine j_V.putK yb1m_M yb1m_23 (ci := 0) (j := 2) (k' := [(4, .inl (7, [ly, .int mi, .int shu, .int bus, .ref 5, .ref 6, .ref 7, .ref 8, .ref 9, .ref 10, .ref 11, .ref 12, .ref 13, .ref 14, .ref 15, .int lks, .ref 16, .ref 17, .ref 20])), (5, .inr (.inl (0, rk))), (6, .inr (.inl (0, sta))), (7, .inr (.inl (0, ph))), (8, .inr (.inl (0, sp))), (9, .inr (.inl (0, ce))), (10, .inr (.inl (0, du))), (11, .inr (.inl (0, he))), (12, .inr (.inl (0, ri))), (13, .inr (.inl (0, us))), (14, .inr (.inl (0, cm))), (15, .inr (.inl (0, lf))), (16, .inr (.inl (0, lkd))), (20, .inl (3, [.ref 21, .ref 22, .ref 23, .ref 24, .ref 25, .ref 26, .ref 27, .ref 28, .int pev, .int 1])), (21, .inr (.inl (0, pms))), (22, .inr (.inl (0, pmm))), (23, .inr (.inl (0, pmt))), (24, .inr (.inl (0, pst))), (25, .inr (.inl (0, pwa))), (26, .inr (.inl (0, prs))), (27, .inr (.inl (0, prr))), (28, .inr (.inl (0, pfa))), (29, .inl (0, [.ref 30, .int 1, .int (acco - 1)])), (30, .inr (.inr (.inr [some 31, some 56, some 81, some 106, some 131, some 156, some 181, some 206, some 231, some 256]))), (56, .inl (7, [.ref lys, .int mis, .int shus, .int buss, .ref 57, .ref 58, .ref 59, .ref 60, .ref 61, .ref 62, .ref 63, .ref 64, .ref 65, .ref 66, .ref 67, .int lkss, .ref 68, .ref 69, .ref 72])), (57, .inr (.inl (0, rks))), (58, .inr (.inl (0, stas))), (59, .inr (.inl (0, phs))), (60, .inr (.inl (0, sps))), (61, .inr (.inl (0, ces))), (62, .inr (.inl (0, dus))), (63, .inr (.inl (0, hes))), (64, .inr (.inl (0, ris))), (65, .inr (.inl (0, uss))), (66, .inr (.inl (0, cms))), (67, .inr (.inl (0, lfs))), (68, .inr (.inl (0, lkds))), (72, .inl (3, [.ref 73, .ref 74, .ref 75, .ref 76, .ref 77, .ref 78, .ref 79, .ref 80, .int pevs, .int 1])), (73, .inr (.inl (0, pmss))), (74, .inr (.inl (0, pmms))), (75, .inr (.inl (0, pmts))), (76, .inr (.inl (0, psts))), (77, .inr (.inl (0, pwas))), (78, .inr (.inl (0, prss))), (79, .inr (.inl (0, prrs))), (80, .inr (.inl (0, pfas)))]) rfl K rfl (Nat.le_of_ble_eq_true rfl) rfl (Or.inl rfl) rfl rfl (fun h K => ?_)
  refine j_V.ldL yb1m_M yb1m_26 rfl (i := 1) (kd := 2) (v := .ref 4) (pcJ := 27) rfl L rfl rfl rfl ?_
  refine j_V.ldL yb1m_M yb1m_27 rfl (i := 0) (kd := 2) (v := .ref 29) (pcJ := 28) rfl L rfl rfl rfl ?_
  refine j_V.getK yb1m_M yb1m_28 (ci := 0) (j := 0) rfl K rfl rfl ?_
  refine j_V.ldL yb1m_M yb1m_31 rfl (i := 0) (kd := 2) (v := .ref 29) (pcJ := 32) rfl L rfl rfl rfl ?_
  refine j_V.getK yb1m_M yb1m_32 (ci := 0) (j := 1) rfl K rfl rfl ?_
  refine j_V.aaA yb1m_M yb1m_35 K rfl (i := 1) (v := 56) rfl rfl ?_
  refine j_V.cl yb1m_M yb1m_36 rfl (md := 3) (mj := 61) rfl (by decide) yb1s_M (As := [.ref 4, .ref 56]) (rest := []) (jk_spl3 (K.at rfl) rfl rfl rfl (Nat.le_of_ble_eq_true rfl) (Nat.le_of_ble_eq_true rfl)) (fun d => yb1s_ok (K.fi [4, 5, 6, 7, 8, 9, 10, 11, 12, 13, 14, 15, 16, 20, 21, 22, 23, 24, 25, 26, 27, 28, 56, 57, 58, 59, 60, 61, 62, 63, 64, 65, 66, 67, 68, 72, 73, 74, 75, 76, 77, 78, 79, 80] rfl rfl)) ?_
  rintro r h9 ⟨rfl, K9⟩
  have K : KN h9 [(4, .inl (7, [.ref lys, .int mis, .int shus, .int buss, .ref 5, .ref 6, .ref 7, .ref 8, .ref 9, .ref 10, .ref 11, .ref 12, .ref 13, .ref 14, .ref 15, .int lkss, .ref 16, .ref 17, .ref 20])), (5, .inr (.inl (0, (aC 5 rks rk)))), (6, .inr (.inl (0, (aC 5 stas sta)))), (7, .inr (.inl (0, (aC 5 phs ph)))), (8, .inr (.inl (0, (aC 5 sps sp)))), (9, .inr (.inl (0, (aC 5 ces ce)))), (10, .inr (.inl (0, (aC 5 dus du)))), (11, .inr (.inl (0, (aC 5 hes he)))), (12, .inr (.inl (0, (aC 6 ris ri)))), (13, .inr (.inl (0, (aC 6 uss us)))), (14, .inr (.inl (0, (aC (nI cm.length) cms cm)))), (15, .inr (.inl (0, (aC (nI lf.length) lfs lf)))), (16, .inr (.inl (0, (aC (nI lkd.length) lkds lkd)))), (20, .inl (3, [.ref 21, .ref 22, .ref 23, .ref 24, .ref 25, .ref 26, .ref 27, .ref 28, .int pevs, .int 1])), (21, .inr (.inl (0, (aC (nI pms.length) pmss pms)))), (22, .inr (.inl (0, (aC (nI pmm.length) pmms pmm)))), (23, .inr (.inl (0, (aC (nI pmt.length) pmts pmt)))), (24, .inr (.inl (0, (aC (nI pst.length) psts pst)))), (25, .inr (.inl (0, (aC (nI pwa.length) pwas pwa)))), (26, .inr (.inl (0, (aC (nI prs.length) prss prs)))), (27, .inr (.inl (0, (aC (nI prr.length) prrs prr)))), (28, .inr (.inl (0, (aC (nI pfa.length) pfas pfa)))), (29, .inl (0, [.ref 30, .int 1, .int (acco - 1)])), (30, .inr (.inr (.inr [some 31, some 56, some 81, some 106, some 131, some 156, some 181, some 206, some 231, some 256]))), (56, .inl (7, [.ref lys, .int mis, .int shus, .int buss, .ref 57, .ref 58, .ref 59, .ref 60, .ref 61, .ref 62, .ref 63, .ref 64, .ref 65, .ref 66, .ref 67, .int lkss, .ref 68, .ref 69, .ref 72])), (57, .inr (.inl (0, rks))), (58, .inr (.inl (0, stas))), (59, .inr (.inl (0, phs))), (60, .inr (.inl (0, sps))), (61, .inr (.inl (0, ces))), (62, .inr (.inl (0, dus))), (63, .inr (.inl (0, hes))), (64, .inr (.inl (0, ris))), (65, .inr (.inl (0, uss))), (66, .inr (.inl (0, cms))), (67, .inr (.inl (0, lfs))), (68, .inr (.inl (0, lkds))), (72, .inl (3, [.ref 73, .ref 74, .ref 75, .ref 76, .ref 77, .ref 78, .ref 79, .ref 80, .int pevs, .int 1])), (73, .inr (.inl (0, pmss))), (74, .inr (.inl (0, pmms))), (75, .inr (.inl (0, pmts))), (76, .inr (.inl (0, psts))), (77, .inr (.inl (0, pwas))), (78, .inr (.inl (0, prss))), (79, .inr (.inl (0, prrs))), (80, .inr (.inl (0, pfas)))] h0 := K.mg K9 rfl rfl
  clear K9
  show j_V jP _ 3 39 lv [] h9 _
  exact j_V.ret yb1m_M yb1m_39 rfl rfl ⟨rfl, K⟩
set_option maxRecDepth 100000 in
theorem yb2p_M : j_meth jP 28 = some (yX3_copyFrom, cX3_copyFrom, 2, none, 1, false, 3) := rfl
set_option maxRecDepth 100000 in
theorem yb2p_0 : j_code jP 28 0 = some (.aload_n 0) := rfl
set_option maxRecDepth 100000 in
theorem yb2p_1 : j_code jP 28 1 = some (.getfield 36) := rfl
set_option maxRecDepth 100000 in
theorem yb2p_4 : j_code jP 28 4 = some (.ifCond .ne 4) := rfl
set_option maxRecDepth 100000 in
theorem yb2p_7 : j_code jP 28 7 = some (.return_) := rfl
set_option maxRecDepth 100000 in
theorem yb2p_8 : j_code jP 28 8 = some (.aload_n 1) := rfl
set_option maxRecDepth 100000 in
theorem yb2p_9 : j_code jP 28 9 = some (.getfield 9) := rfl
set_option maxRecDepth 100000 in
theorem yb2p_12 : j_code jP 28 12 = some (.iconst 0) := rfl
set_option maxRecDepth 100000 in
theorem yb2p_13 : j_code jP 28 13 = some (.aload_n 0) := rfl
set_option maxRecDepth 100000 in
theorem yb2p_14 : j_code jP 28 14 = some (.getfield 9) := rfl
set_option maxRecDepth 100000 in
theorem yb2p_17 : j_code jP 28 17 = some (.iconst 0) := rfl
set_option maxRecDepth 100000 in
theorem yb2p_18 : j_code jP 28 18 = some (.aload_n 0) := rfl
set_option maxRecDepth 100000 in
theorem yb2p_19 : j_code jP 28 19 = some (.getfield 9) := rfl
set_option maxRecDepth 100000 in
theorem yb2p_22 : j_code jP 28 22 = some (.arraylength) := rfl
set_option maxRecDepth 100000 in
theorem yb2p_23 : j_code jP 28 23 = some (.invokestatic 50) := rfl
set_option maxRecDepth 100000 in
theorem yb2p_26 : j_code jP 28 26 = some (.aload_n 1) := rfl
set_option maxRecDepth 100000 in
theorem yb2p_27 : j_code jP 28 27 = some (.getfield 15) := rfl
set_option maxRecDepth 100000 in
theorem yb2p_30 : j_code jP 28 30 = some (.iconst 0) := rfl
set_option maxRecDepth 100000 in
theorem yb2p_31 : j_code jP 28 31 = some (.aload_n 0) := rfl
set_option maxRecDepth 100000 in
theorem yb2p_32 : j_code jP 28 32 = some (.getfield 15) := rfl
set_option maxRecDepth 100000 in
theorem yb2p_35 : j_code jP 28 35 = some (.iconst 0) := rfl
set_option maxRecDepth 100000 in
theorem yb2p_36 : j_code jP 28 36 = some (.aload_n 0) := rfl
set_option maxRecDepth 100000 in
theorem yb2p_37 : j_code jP 28 37 = some (.getfield 15) := rfl
set_option maxRecDepth 100000 in
theorem yb2p_40 : j_code jP 28 40 = some (.arraylength) := rfl
set_option maxRecDepth 100000 in
theorem yb2p_41 : j_code jP 28 41 = some (.invokestatic 50) := rfl
set_option maxRecDepth 100000 in
theorem yb2p_44 : j_code jP 28 44 = some (.aload_n 1) := rfl
set_option maxRecDepth 100000 in
theorem yb2p_45 : j_code jP 28 45 = some (.getfield 18) := rfl
set_option maxRecDepth 100000 in
theorem yb2p_48 : j_code jP 28 48 = some (.iconst 0) := rfl
set_option maxRecDepth 100000 in
theorem yb2p_49 : j_code jP 28 49 = some (.aload_n 0) := rfl
set_option maxRecDepth 100000 in
theorem yb2p_50 : j_code jP 28 50 = some (.getfield 18) := rfl
set_option maxRecDepth 100000 in
theorem yb2p_53 : j_code jP 28 53 = some (.iconst 0) := rfl
set_option maxRecDepth 100000 in
theorem yb2p_54 : j_code jP 28 54 = some (.aload_n 0) := rfl
set_option maxRecDepth 100000 in
theorem yb2p_55 : j_code jP 28 55 = some (.getfield 18) := rfl
set_option maxRecDepth 100000 in
theorem yb2p_58 : j_code jP 28 58 = some (.arraylength) := rfl
set_option maxRecDepth 100000 in
theorem yb2p_59 : j_code jP 28 59 = some (.invokestatic 50) := rfl
set_option maxRecDepth 100000 in
theorem yb2p_62 : j_code jP 28 62 = some (.aload_n 1) := rfl
set_option maxRecDepth 100000 in
theorem yb2p_63 : j_code jP 28 63 = some (.getfield 21) := rfl
set_option maxRecDepth 100000 in
theorem yb2p_66 : j_code jP 28 66 = some (.iconst 0) := rfl
set_option maxRecDepth 100000 in
theorem yb2p_67 : j_code jP 28 67 = some (.aload_n 0) := rfl
set_option maxRecDepth 100000 in
theorem yb2p_68 : j_code jP 28 68 = some (.getfield 21) := rfl
set_option maxRecDepth 100000 in
theorem yb2p_71 : j_code jP 28 71 = some (.iconst 0) := rfl
set_option maxRecDepth 100000 in
theorem yb2p_72 : j_code jP 28 72 = some (.aload_n 0) := rfl
set_option maxRecDepth 100000 in
theorem yb2p_73 : j_code jP 28 73 = some (.getfield 21) := rfl
set_option maxRecDepth 100000 in
theorem yb2p_76 : j_code jP 28 76 = some (.arraylength) := rfl
set_option maxRecDepth 100000 in
theorem yb2p_77 : j_code jP 28 77 = some (.invokestatic 50) := rfl
set_option maxRecDepth 100000 in
theorem yb2p_80 : j_code jP 28 80 = some (.aload_n 1) := rfl
set_option maxRecDepth 100000 in
theorem yb2p_81 : j_code jP 28 81 = some (.getfield 24) := rfl
set_option maxRecDepth 100000 in
theorem yb2p_84 : j_code jP 28 84 = some (.iconst 0) := rfl
set_option maxRecDepth 100000 in
theorem yb2p_85 : j_code jP 28 85 = some (.aload_n 0) := rfl
set_option maxRecDepth 100000 in
theorem yb2p_86 : j_code jP 28 86 = some (.getfield 24) := rfl
set_option maxRecDepth 100000 in
theorem yb2p_89 : j_code jP 28 89 = some (.iconst 0) := rfl
set_option maxRecDepth 100000 in
theorem yb2p_90 : j_code jP 28 90 = some (.aload_n 0) := rfl
set_option maxRecDepth 100000 in
theorem yb2p_91 : j_code jP 28 91 = some (.getfield 24) := rfl
set_option maxRecDepth 100000 in
theorem yb2p_94 : j_code jP 28 94 = some (.arraylength) := rfl
set_option maxRecDepth 100000 in
theorem yb2p_95 : j_code jP 28 95 = some (.invokestatic 50) := rfl
set_option maxRecDepth 100000 in
theorem yb2p_98 : j_code jP 28 98 = some (.aload_n 1) := rfl
set_option maxRecDepth 100000 in
theorem yb2p_99 : j_code jP 28 99 = some (.getfield 27) := rfl
set_option maxRecDepth 100000 in
theorem yb2p_102 : j_code jP 28 102 = some (.iconst 0) := rfl
set_option maxRecDepth 100000 in
theorem yb2p_103 : j_code jP 28 103 = some (.aload_n 0) := rfl
set_option maxRecDepth 100000 in
theorem yb2p_104 : j_code jP 28 104 = some (.getfield 27) := rfl
set_option maxRecDepth 100000 in
theorem yb2p_107 : j_code jP 28 107 = some (.iconst 0) := rfl
set_option maxRecDepth 100000 in
theorem yb2p_108 : j_code jP 28 108 = some (.aload_n 0) := rfl
set_option maxRecDepth 100000 in
theorem yb2p_109 : j_code jP 28 109 = some (.getfield 27) := rfl
set_option maxRecDepth 100000 in
theorem yb2p_112 : j_code jP 28 112 = some (.arraylength) := rfl
set_option maxRecDepth 100000 in
theorem yb2p_113 : j_code jP 28 113 = some (.invokestatic 50) := rfl
set_option maxRecDepth 100000 in
theorem yb2p_116 : j_code jP 28 116 = some (.aload_n 1) := rfl
set_option maxRecDepth 100000 in
theorem yb2p_117 : j_code jP 28 117 = some (.getfield 30) := rfl
set_option maxRecDepth 100000 in
theorem yb2p_120 : j_code jP 28 120 = some (.iconst 0) := rfl
set_option maxRecDepth 100000 in
theorem yb2p_121 : j_code jP 28 121 = some (.aload_n 0) := rfl
set_option maxRecDepth 100000 in
theorem yb2p_122 : j_code jP 28 122 = some (.getfield 30) := rfl
set_option maxRecDepth 100000 in
theorem yb2p_125 : j_code jP 28 125 = some (.iconst 0) := rfl
set_option maxRecDepth 100000 in
theorem yb2p_126 : j_code jP 28 126 = some (.aload_n 0) := rfl
set_option maxRecDepth 100000 in
theorem yb2p_127 : j_code jP 28 127 = some (.getfield 30) := rfl
set_option maxRecDepth 100000 in
theorem yb2p_130 : j_code jP 28 130 = some (.arraylength) := rfl
set_option maxRecDepth 100000 in
theorem yb2p_131 : j_code jP 28 131 = some (.invokestatic 50) := rfl
set_option maxRecDepth 100000 in
theorem yb2p_134 : j_code jP 28 134 = some (.aload_n 1) := rfl
set_option maxRecDepth 100000 in
theorem yb2p_135 : j_code jP 28 135 = some (.getfield 33) := rfl
set_option maxRecDepth 100000 in
theorem yb2p_138 : j_code jP 28 138 = some (.iconst 0) := rfl
set_option maxRecDepth 100000 in
theorem yb2p_139 : j_code jP 28 139 = some (.aload_n 0) := rfl
set_option maxRecDepth 100000 in
theorem yb2p_140 : j_code jP 28 140 = some (.getfield 33) := rfl
set_option maxRecDepth 100000 in
theorem yb2p_143 : j_code jP 28 143 = some (.iconst 0) := rfl
set_option maxRecDepth 100000 in
theorem yb2p_144 : j_code jP 28 144 = some (.aload_n 0) := rfl
set_option maxRecDepth 100000 in
theorem yb2p_145 : j_code jP 28 145 = some (.getfield 33) := rfl
set_option maxRecDepth 100000 in
theorem yb2p_148 : j_code jP 28 148 = some (.arraylength) := rfl
set_option maxRecDepth 100000 in
theorem yb2p_149 : j_code jP 28 149 = some (.invokestatic 50) := rfl
set_option maxRecDepth 100000 in
theorem yb2p_152 : j_code jP 28 152 = some (.aload_n 0) := rfl
set_option maxRecDepth 100000 in
theorem yb2p_153 : j_code jP 28 153 = some (.aload_n 1) := rfl
set_option maxRecDepth 100000 in
theorem yb2p_154 : j_code jP 28 154 = some (.getfield 46) := rfl
set_option maxRecDepth 100000 in
theorem yb2p_157 : j_code jP 28 157 = some (.putfield 46) := rfl
set_option maxRecDepth 100000 in
theorem yb2p_160 : j_code jP 28 160 = some (.return_) := rfl
set_option maxRecDepth 1000000 in
theorem yb2p_k8 {pev : Int32} {pms : List Int32} {pmm : List Int32} {pevs : Int32} {pmss : List Int32} {pmms : List Int32} {d : Nat} {lv : J_L} {h h0 : J_H} {Q : Option Value → J_H → Prop} (L : LK lv [(0, .ref 20), (1, .ref 97)]) (K : KN h [(20, .inl (3, [.ref 21, .ref 22, .ref 23, .ref 24, .ref 25, .ref 26, .ref 27, .ref 28, .int pev, .int 1])), (21, .inr (.inl (0, pms))), (22, .inr (.inl (0, pmm))), (97, .inl (3, [.ref 98, .ref 99, .ref 100, .ref 101, .ref 102, .ref 103, .ref 104, .ref 105, .int pevs, .int 1])), (98, .inr (.inl (0, pmss))), (99, .inr (.inl (0, pmms)))] h0) (kk : ∀ lv h, LK lv [(0, .ref 20), (1, .ref 97)] → KN h [(20, .inl (3, [.ref 21, .ref 22, .ref 23, .ref 24, .ref 25, .ref 26, .ref 27, .ref 28, .int pev, .int 1])), (21, .inr (.inl (0, (aC (nI pms.length) pmss pms)))), (22, .inr (.inl (0, (aC (nI pmm.length) pmms pmm)))), (97, .inl (3, [.ref 98, .ref 99, .ref 100, .ref 101, .ref 102, .ref 103, .ref 104, .ref 105, .int pevs, .int 1])), (98, .inr (.inl (0, pmss))), (99, .inr (.inl (0, pmms)))] h0 → j_V jP d 28 44 lv [] h Q) : j_V jP d 28 8 lv [] h Q := by
  refine j_V.ldL yb2p_M yb2p_8 rfl (i := 1) (kd := 2) (v := .ref 97) (pcJ := 9) rfl L rfl rfl rfl ?_
  refine j_V.getK yb2p_M yb2p_9 (ci := 3) (j := 0) rfl K rfl rfl ?_
  refine j_V.one yb2p_M yb2p_12 (by decide) (pcJ := 13) (stJ := [.int 0, .ref 98]) rfl ?_
  refine j_V.ldL yb2p_M yb2p_13 rfl (i := 0) (kd := 2) (v := .ref 20) (pcJ := 14) rfl L rfl rfl rfl ?_
  refine j_V.getK yb2p_M yb2p_14 (ci := 3) (j := 0) rfl K rfl rfl ?_
  refine j_V.one yb2p_M yb2p_17 (by decide) (pcJ := 18) (stJ := [.int 0, .ref 21, .int 0, .ref 98]) rfl ?_
  refine j_V.ldL yb2p_M yb2p_18 rfl (i := 0) (kd := 2) (v := .ref 20) (pcJ := 19) rfl L rfl rfl rfl ?_
  refine j_V.getK yb2p_M yb2p_19 (ci := 3) (j := 0) rfl K rfl rfl ?_
  refine j_V.alnA yb2p_M yb2p_22 K rfl ?_
  refine j_V.acp yb2p_M yb2p_23 rfl rfl K rfl rfl rfl (fun h K => ?_)
  refine j_V.ldL yb2p_M yb2p_26 rfl (i := 1) (kd := 2) (v := .ref 97) (pcJ := 27) rfl L rfl rfl rfl ?_
  refine j_V.getK yb2p_M yb2p_27 (ci := 3) (j := 1) rfl K rfl rfl ?_
  refine j_V.one yb2p_M yb2p_30 (by decide) (pcJ := 31) (stJ := [.int 0, .ref 99]) rfl ?_
  refine j_V.ldL yb2p_M yb2p_31 rfl (i := 0) (kd := 2) (v := .ref 20) (pcJ := 32) rfl L rfl rfl rfl ?_
  refine j_V.getK yb2p_M yb2p_32 (ci := 3) (j := 1) rfl K rfl rfl ?_
  refine j_V.one yb2p_M yb2p_35 (by decide) (pcJ := 36) (stJ := [.int 0, .ref 22, .int 0, .ref 99]) rfl ?_
  refine j_V.ldL yb2p_M yb2p_36 rfl (i := 0) (kd := 2) (v := .ref 20) (pcJ := 37) rfl L rfl rfl rfl ?_
  refine j_V.getK yb2p_M yb2p_37 (ci := 3) (j := 1) rfl K rfl rfl ?_
  refine j_V.alnA yb2p_M yb2p_40 K rfl ?_
  refine j_V.acp yb2p_M yb2p_41 rfl rfl K rfl rfl rfl (fun h K => ?_)
  exact kk _ _ L K
set_option maxRecDepth 1000000 in
theorem yb2p_k44 {pev : Int32} {pmt : List Int32} {pst : List Int32} {pevs : Int32} {pmts : List Int32} {psts : List Int32} {d : Nat} {lv : J_L} {h h0 : J_H} {Q : Option Value → J_H → Prop} (L : LK lv [(0, .ref 20), (1, .ref 97)]) (K : KN h [(20, .inl (3, [.ref 21, .ref 22, .ref 23, .ref 24, .ref 25, .ref 26, .ref 27, .ref 28, .int pev, .int 1])), (23, .inr (.inl (0, pmt))), (24, .inr (.inl (0, pst))), (97, .inl (3, [.ref 98, .ref 99, .ref 100, .ref 101, .ref 102, .ref 103, .ref 104, .ref 105, .int pevs, .int 1])), (100, .inr (.inl (0, pmts))), (101, .inr (.inl (0, psts)))] h0) (kk : ∀ lv h, LK lv [(0, .ref 20), (1, .ref 97)] → KN h [(20, .inl (3, [.ref 21, .ref 22, .ref 23, .ref 24, .ref 25, .ref 26, .ref 27, .ref 28, .int pev, .int 1])), (23, .inr (.inl (0, (aC (nI pmt.length) pmts pmt)))), (24, .inr (.inl (0, (aC (nI pst.length) psts pst)))), (97, .inl (3, [.ref 98, .ref 99, .ref 100, .ref 101, .ref 102, .ref 103, .ref 104, .ref 105, .int pevs, .int 1])), (100, .inr (.inl (0, pmts))), (101, .inr (.inl (0, psts)))] h0 → j_V jP d 28 80 lv [] h Q) : j_V jP d 28 44 lv [] h Q := by
  refine j_V.ldL yb2p_M yb2p_44 rfl (i := 1) (kd := 2) (v := .ref 97) (pcJ := 45) rfl L rfl rfl rfl ?_
  refine j_V.getK yb2p_M yb2p_45 (ci := 3) (j := 2) rfl K rfl rfl ?_
  refine j_V.one yb2p_M yb2p_48 (by decide) (pcJ := 49) (stJ := [.int 0, .ref 100]) rfl ?_
  refine j_V.ldL yb2p_M yb2p_49 rfl (i := 0) (kd := 2) (v := .ref 20) (pcJ := 50) rfl L rfl rfl rfl ?_
  refine j_V.getK yb2p_M yb2p_50 (ci := 3) (j := 2) rfl K rfl rfl ?_
  refine j_V.one yb2p_M yb2p_53 (by decide) (pcJ := 54) (stJ := [.int 0, .ref 23, .int 0, .ref 100]) rfl ?_
  refine j_V.ldL yb2p_M yb2p_54 rfl (i := 0) (kd := 2) (v := .ref 20) (pcJ := 55) rfl L rfl rfl rfl ?_
  refine j_V.getK yb2p_M yb2p_55 (ci := 3) (j := 2) rfl K rfl rfl ?_
  refine j_V.alnA yb2p_M yb2p_58 K rfl ?_
  refine j_V.acp yb2p_M yb2p_59 rfl rfl K rfl rfl rfl (fun h K => ?_)
  refine j_V.ldL yb2p_M yb2p_62 rfl (i := 1) (kd := 2) (v := .ref 97) (pcJ := 63) rfl L rfl rfl rfl ?_
  refine j_V.getK yb2p_M yb2p_63 (ci := 3) (j := 3) rfl K rfl rfl ?_
  refine j_V.one yb2p_M yb2p_66 (by decide) (pcJ := 67) (stJ := [.int 0, .ref 101]) rfl ?_
  refine j_V.ldL yb2p_M yb2p_67 rfl (i := 0) (kd := 2) (v := .ref 20) (pcJ := 68) rfl L rfl rfl rfl ?_
  refine j_V.getK yb2p_M yb2p_68 (ci := 3) (j := 3) rfl K rfl rfl ?_
  refine j_V.one yb2p_M yb2p_71 (by decide) (pcJ := 72) (stJ := [.int 0, .ref 24, .int 0, .ref 101]) rfl ?_
  refine j_V.ldL yb2p_M yb2p_72 rfl (i := 0) (kd := 2) (v := .ref 20) (pcJ := 73) rfl L rfl rfl rfl ?_
  refine j_V.getK yb2p_M yb2p_73 (ci := 3) (j := 3) rfl K rfl rfl ?_
  refine j_V.alnA yb2p_M yb2p_76 K rfl ?_
  refine j_V.acp yb2p_M yb2p_77 rfl rfl K rfl rfl rfl (fun h K => ?_)
  exact kk _ _ L K
set_option maxRecDepth 1000000 in
theorem yb2p_k80 {pev : Int32} {pwa : List Int32} {prs : List Int32} {pevs : Int32} {pwas : List Int32} {prss : List Int32} {d : Nat} {lv : J_L} {h h0 : J_H} {Q : Option Value → J_H → Prop} (L : LK lv [(0, .ref 20), (1, .ref 97)]) (K : KN h [(20, .inl (3, [.ref 21, .ref 22, .ref 23, .ref 24, .ref 25, .ref 26, .ref 27, .ref 28, .int pev, .int 1])), (25, .inr (.inl (0, pwa))), (26, .inr (.inl (0, prs))), (97, .inl (3, [.ref 98, .ref 99, .ref 100, .ref 101, .ref 102, .ref 103, .ref 104, .ref 105, .int pevs, .int 1])), (102, .inr (.inl (0, pwas))), (103, .inr (.inl (0, prss)))] h0) (kk : ∀ lv h, LK lv [(0, .ref 20), (1, .ref 97)] → KN h [(20, .inl (3, [.ref 21, .ref 22, .ref 23, .ref 24, .ref 25, .ref 26, .ref 27, .ref 28, .int pev, .int 1])), (25, .inr (.inl (0, (aC (nI pwa.length) pwas pwa)))), (26, .inr (.inl (0, (aC (nI prs.length) prss prs)))), (97, .inl (3, [.ref 98, .ref 99, .ref 100, .ref 101, .ref 102, .ref 103, .ref 104, .ref 105, .int pevs, .int 1])), (102, .inr (.inl (0, pwas))), (103, .inr (.inl (0, prss)))] h0 → j_V jP d 28 116 lv [] h Q) : j_V jP d 28 80 lv [] h Q := by
  refine j_V.ldL yb2p_M yb2p_80 rfl (i := 1) (kd := 2) (v := .ref 97) (pcJ := 81) rfl L rfl rfl rfl ?_
  refine j_V.getK yb2p_M yb2p_81 (ci := 3) (j := 4) rfl K rfl rfl ?_
  refine j_V.one yb2p_M yb2p_84 (by decide) (pcJ := 85) (stJ := [.int 0, .ref 102]) rfl ?_
  refine j_V.ldL yb2p_M yb2p_85 rfl (i := 0) (kd := 2) (v := .ref 20) (pcJ := 86) rfl L rfl rfl rfl ?_
  refine j_V.getK yb2p_M yb2p_86 (ci := 3) (j := 4) rfl K rfl rfl ?_
  refine j_V.one yb2p_M yb2p_89 (by decide) (pcJ := 90) (stJ := [.int 0, .ref 25, .int 0, .ref 102]) rfl ?_
  refine j_V.ldL yb2p_M yb2p_90 rfl (i := 0) (kd := 2) (v := .ref 20) (pcJ := 91) rfl L rfl rfl rfl ?_
  refine j_V.getK yb2p_M yb2p_91 (ci := 3) (j := 4) rfl K rfl rfl ?_
  refine j_V.alnA yb2p_M yb2p_94 K rfl ?_
  refine j_V.acp yb2p_M yb2p_95 rfl rfl K rfl rfl rfl (fun h K => ?_)
  refine j_V.ldL yb2p_M yb2p_98 rfl (i := 1) (kd := 2) (v := .ref 97) (pcJ := 99) rfl L rfl rfl rfl ?_
  refine j_V.getK yb2p_M yb2p_99 (ci := 3) (j := 5) rfl K rfl rfl ?_
  refine j_V.one yb2p_M yb2p_102 (by decide) (pcJ := 103) (stJ := [.int 0, .ref 103]) rfl ?_
  refine j_V.ldL yb2p_M yb2p_103 rfl (i := 0) (kd := 2) (v := .ref 20) (pcJ := 104) rfl L rfl rfl rfl ?_
  refine j_V.getK yb2p_M yb2p_104 (ci := 3) (j := 5) rfl K rfl rfl ?_
  refine j_V.one yb2p_M yb2p_107 (by decide) (pcJ := 108) (stJ := [.int 0, .ref 26, .int 0, .ref 103]) rfl ?_
  refine j_V.ldL yb2p_M yb2p_108 rfl (i := 0) (kd := 2) (v := .ref 20) (pcJ := 109) rfl L rfl rfl rfl ?_
  refine j_V.getK yb2p_M yb2p_109 (ci := 3) (j := 5) rfl K rfl rfl ?_
  refine j_V.alnA yb2p_M yb2p_112 K rfl ?_
  refine j_V.acp yb2p_M yb2p_113 rfl rfl K rfl rfl rfl (fun h K => ?_)
  exact kk _ _ L K
set_option maxRecDepth 1000000 in
theorem yb2p_k116 {pev : Int32} {prr : List Int32} {pfa : List Int32} {pevs : Int32} {prrs : List Int32} {pfas : List Int32} {d : Nat} {lv : J_L} {h h0 : J_H} {Q : Option Value → J_H → Prop} (L : LK lv [(0, .ref 20), (1, .ref 97)]) (K : KN h [(20, .inl (3, [.ref 21, .ref 22, .ref 23, .ref 24, .ref 25, .ref 26, .ref 27, .ref 28, .int pev, .int 1])), (27, .inr (.inl (0, prr))), (28, .inr (.inl (0, pfa))), (97, .inl (3, [.ref 98, .ref 99, .ref 100, .ref 101, .ref 102, .ref 103, .ref 104, .ref 105, .int pevs, .int 1])), (104, .inr (.inl (0, prrs))), (105, .inr (.inl (0, pfas)))] h0) (kk : ∀ lv h, LK lv [(0, .ref 20), (1, .ref 97)] → KN h [(20, .inl (3, [.ref 21, .ref 22, .ref 23, .ref 24, .ref 25, .ref 26, .ref 27, .ref 28, .int pev, .int 1])), (27, .inr (.inl (0, (aC (nI prr.length) prrs prr)))), (28, .inr (.inl (0, (aC (nI pfa.length) pfas pfa)))), (97, .inl (3, [.ref 98, .ref 99, .ref 100, .ref 101, .ref 102, .ref 103, .ref 104, .ref 105, .int pevs, .int 1])), (104, .inr (.inl (0, prrs))), (105, .inr (.inl (0, pfas)))] h0 → j_V jP d 28 152 lv [] h Q) : j_V jP d 28 116 lv [] h Q := by
  refine j_V.ldL yb2p_M yb2p_116 rfl (i := 1) (kd := 2) (v := .ref 97) (pcJ := 117) rfl L rfl rfl rfl ?_
  refine j_V.getK yb2p_M yb2p_117 (ci := 3) (j := 6) rfl K rfl rfl ?_
  refine j_V.one yb2p_M yb2p_120 (by decide) (pcJ := 121) (stJ := [.int 0, .ref 104]) rfl ?_
  refine j_V.ldL yb2p_M yb2p_121 rfl (i := 0) (kd := 2) (v := .ref 20) (pcJ := 122) rfl L rfl rfl rfl ?_
  refine j_V.getK yb2p_M yb2p_122 (ci := 3) (j := 6) rfl K rfl rfl ?_
  refine j_V.one yb2p_M yb2p_125 (by decide) (pcJ := 126) (stJ := [.int 0, .ref 27, .int 0, .ref 104]) rfl ?_
  refine j_V.ldL yb2p_M yb2p_126 rfl (i := 0) (kd := 2) (v := .ref 20) (pcJ := 127) rfl L rfl rfl rfl ?_
  refine j_V.getK yb2p_M yb2p_127 (ci := 3) (j := 6) rfl K rfl rfl ?_
  refine j_V.alnA yb2p_M yb2p_130 K rfl ?_
  refine j_V.acp yb2p_M yb2p_131 rfl rfl K rfl rfl rfl (fun h K => ?_)
  refine j_V.ldL yb2p_M yb2p_134 rfl (i := 1) (kd := 2) (v := .ref 97) (pcJ := 135) rfl L rfl rfl rfl ?_
  refine j_V.getK yb2p_M yb2p_135 (ci := 3) (j := 7) rfl K rfl rfl ?_
  refine j_V.one yb2p_M yb2p_138 (by decide) (pcJ := 139) (stJ := [.int 0, .ref 105]) rfl ?_
  refine j_V.ldL yb2p_M yb2p_139 rfl (i := 0) (kd := 2) (v := .ref 20) (pcJ := 140) rfl L rfl rfl rfl ?_
  refine j_V.getK yb2p_M yb2p_140 (ci := 3) (j := 7) rfl K rfl rfl ?_
  refine j_V.one yb2p_M yb2p_143 (by decide) (pcJ := 144) (stJ := [.int 0, .ref 28, .int 0, .ref 105]) rfl ?_
  refine j_V.ldL yb2p_M yb2p_144 rfl (i := 0) (kd := 2) (v := .ref 20) (pcJ := 145) rfl L rfl rfl rfl ?_
  refine j_V.getK yb2p_M yb2p_145 (ci := 3) (j := 7) rfl K rfl rfl ?_
  refine j_V.alnA yb2p_M yb2p_148 K rfl ?_
  refine j_V.acp yb2p_M yb2p_149 rfl rfl K rfl rfl rfl (fun h K => ?_)
  exact kk _ _ L K
set_option maxRecDepth 1000000 in
theorem yb2p_ok {pev : Int32} {pms : List Int32} {pmm : List Int32} {pmt : List Int32} {pst : List Int32} {pwa : List Int32} {prs : List Int32} {prr : List Int32} {pfa : List Int32} {pevs : Int32} {pmss : List Int32} {pmms : List Int32} {pmts : List Int32} {psts : List Int32} {pwas : List Int32} {prss : List Int32} {prrs : List Int32} {pfas : List Int32} {d : Nat} {h h0 : J_H} (K : KN h [(20, .inl (3, [.ref 21, .ref 22, .ref 23, .ref 24, .ref 25, .ref 26, .ref 27, .ref 28, .int pev, .int 1])), (21, .inr (.inl (0, pms))), (22, .inr (.inl (0, pmm))), (23, .inr (.inl (0, pmt))), (24, .inr (.inl (0, pst))), (25, .inr (.inl (0, pwa))), (26, .inr (.inl (0, prs))), (27, .inr (.inl (0, prr))), (28, .inr (.inl (0, pfa))), (97, .inl (3, [.ref 98, .ref 99, .ref 100, .ref 101, .ref 102, .ref 103, .ref 104, .ref 105, .int pevs, .int 1])), (98, .inr (.inl (0, pmss))), (99, .inr (.inl (0, pmms))), (100, .inr (.inl (0, pmts))), (101, .inr (.inl (0, psts))), (102, .inr (.inl (0, pwas))), (103, .inr (.inl (0, prss))), (104, .inr (.inl (0, prrs))), (105, .inr (.inl (0, pfas)))] h0) : j_V jP d 28 0 (lv_args 0 [.ref 20, .ref 97]) [] h (fun rv h' => rv = none ∧ KN h' [(20, .inl (3, [.ref 21, .ref 22, .ref 23, .ref 24, .ref 25, .ref 26, .ref 27, .ref 28, .int pevs, .int 1])), (21, .inr (.inl (0, (aC (nI pms.length) pmss pms)))), (22, .inr (.inl (0, (aC (nI pmm.length) pmms pmm)))), (23, .inr (.inl (0, (aC (nI pmt.length) pmts pmt)))), (24, .inr (.inl (0, (aC (nI pst.length) psts pst)))), (25, .inr (.inl (0, (aC (nI pwa.length) pwas pwa)))), (26, .inr (.inl (0, (aC (nI prs.length) prss prs)))), (27, .inr (.inl (0, (aC (nI prr.length) prrs prr)))), (28, .inr (.inl (0, (aC (nI pfa.length) pfas pfa)))), (97, .inl (3, [.ref 98, .ref 99, .ref 100, .ref 101, .ref 102, .ref 103, .ref 104, .ref 105, .int pevs, .int 1])), (98, .inr (.inl (0, pmss))), (99, .inr (.inl (0, pmms))), (100, .inr (.inl (0, pmts))), (101, .inr (.inl (0, psts))), (102, .inr (.inl (0, pwas))), (103, .inr (.inl (0, prss))), (104, .inr (.inl (0, prrs))), (105, .inr (.inl (0, pfas)))] h0) := by
  show j_V jP d 28 0 [(0, .ref 20), (1, .ref 97)] [] h _
  obtain ⟨lv, elv, L⟩ : ∃ lv, lv = [(0, .ref 20), (1, .ref 97)] ∧ LK lv [(0, .ref 20), (1, .ref 97)] := ⟨_, rfl, LK.rf⟩
  rw [← elv]
  clear elv
  refine j_V.ldL yb2p_M yb2p_0 rfl (i := 0) (kd := 2) (v := .ref 20) (pcJ := 1) rfl L rfl rfl rfl ?_
  refine j_V.getK yb2p_M yb2p_1 (ci := 3) (j := 9) rfl K rfl rfl ?_
  refine j_V.ifc yb2p_M yb2p_4 (t := 8) rfl (fun c4_0 => ?_) (fun c4_0 => ?_)
  · replace c4_0 : ¬ ((1 : Int32) = 0) := jd_ne c4_0
    refine yb2p_k8 L (K.fi [20, 21, 22, 97, 98, 99] rfl rfl) (fun lv h9 L K9 => ?_)
    have K : KN h9 [(20, .inl (3, [.ref 21, .ref 22, .ref 23, .ref 24, .ref 25, .ref 26, .ref 27, .ref 28, .int pev, .int 1])), (21, .inr (.inl (0, (aC (nI pms.length) pmss pms)))), (22, .inr (.inl (0, (aC (nI pmm.length) pmms pmm)))), (23, .inr (.inl (0, pmt))), (24, .inr (.inl (0, pst))), (25, .inr (.inl (0, pwa))), (26, .inr (.inl (0, prs))), (27, .inr (.inl (0, prr))), (28, .inr (.inl (0, pfa))), (97, .inl (3, [.ref 98, .ref 99, .ref 100, .ref 101, .ref 102, .ref 103, .ref 104, .ref 105, .int pevs, .int 1])), (98, .inr (.inl (0, pmss))), (99, .inr (.inl (0, pmms))), (100, .inr (.inl (0, pmts))), (101, .inr (.inl (0, psts))), (102, .inr (.inl (0, pwas))), (103, .inr (.inl (0, prss))), (104, .inr (.inl (0, prrs))), (105, .inr (.inl (0, pfas)))] h0 := K.mg K9 rfl rfl
    clear K9
    refine yb2p_k44 L (K.fi [20, 23, 24, 97, 100, 101] rfl rfl) (fun lv h9 L K9 => ?_)
    have K : KN h9 [(20, .inl (3, [.ref 21, .ref 22, .ref 23, .ref 24, .ref 25, .ref 26, .ref 27, .ref 28, .int pev, .int 1])), (21, .inr (.inl (0, (aC (nI pms.length) pmss pms)))), (22, .inr (.inl (0, (aC (nI pmm.length) pmms pmm)))), (23, .inr (.inl (0, (aC (nI pmt.length) pmts pmt)))), (24, .inr (.inl (0, (aC (nI pst.length) psts pst)))), (25, .inr (.inl (0, pwa))), (26, .inr (.inl (0, prs))), (27, .inr (.inl (0, prr))), (28, .inr (.inl (0, pfa))), (97, .inl (3, [.ref 98, .ref 99, .ref 100, .ref 101, .ref 102, .ref 103, .ref 104, .ref 105, .int pevs, .int 1])), (98, .inr (.inl (0, pmss))), (99, .inr (.inl (0, pmms))), (100, .inr (.inl (0, pmts))), (101, .inr (.inl (0, psts))), (102, .inr (.inl (0, pwas))), (103, .inr (.inl (0, prss))), (104, .inr (.inl (0, prrs))), (105, .inr (.inl (0, pfas)))] h0 := K.mg K9 rfl rfl
    clear K9
    refine yb2p_k80 L (K.fi [20, 25, 26, 97, 102, 103] rfl rfl) (fun lv h9 L K9 => ?_)
    have K : KN h9 [(20, .inl (3, [.ref 21, .ref 22, .ref 23, .ref 24, .ref 25, .ref 26, .ref 27, .ref 28, .int pev, .int 1])), (21, .inr (.inl (0, (aC (nI pms.length) pmss pms)))), (22, .inr (.inl (0, (aC (nI pmm.length) pmms pmm)))), (23, .inr (.inl (0, (aC (nI pmt.length) pmts pmt)))), (24, .inr (.inl (0, (aC (nI pst.length) psts pst)))), (25, .inr (.inl (0, (aC (nI pwa.length) pwas pwa)))), (26, .inr (.inl (0, (aC (nI prs.length) prss prs)))), (27, .inr (.inl (0, prr))), (28, .inr (.inl (0, pfa))), (97, .inl (3, [.ref 98, .ref 99, .ref 100, .ref 101, .ref 102, .ref 103, .ref 104, .ref 105, .int pevs, .int 1])), (98, .inr (.inl (0, pmss))), (99, .inr (.inl (0, pmms))), (100, .inr (.inl (0, pmts))), (101, .inr (.inl (0, psts))), (102, .inr (.inl (0, pwas))), (103, .inr (.inl (0, prss))), (104, .inr (.inl (0, prrs))), (105, .inr (.inl (0, pfas)))] h0 := K.mg K9 rfl rfl
    clear K9
    refine yb2p_k116 L (K.fi [20, 27, 28, 97, 104, 105] rfl rfl) (fun lv h9 L K9 => ?_)
    have K : KN h9 [(20, .inl (3, [.ref 21, .ref 22, .ref 23, .ref 24, .ref 25, .ref 26, .ref 27, .ref 28, .int pev, .int 1])), (21, .inr (.inl (0, (aC (nI pms.length) pmss pms)))), (22, .inr (.inl (0, (aC (nI pmm.length) pmms pmm)))), (23, .inr (.inl (0, (aC (nI pmt.length) pmts pmt)))), (24, .inr (.inl (0, (aC (nI pst.length) psts pst)))), (25, .inr (.inl (0, (aC (nI pwa.length) pwas pwa)))), (26, .inr (.inl (0, (aC (nI prs.length) prss prs)))), (27, .inr (.inl (0, (aC (nI prr.length) prrs prr)))), (28, .inr (.inl (0, (aC (nI pfa.length) pfas pfa)))), (97, .inl (3, [.ref 98, .ref 99, .ref 100, .ref 101, .ref 102, .ref 103, .ref 104, .ref 105, .int pevs, .int 1])), (98, .inr (.inl (0, pmss))), (99, .inr (.inl (0, pmms))), (100, .inr (.inl (0, pmts))), (101, .inr (.inl (0, psts))), (102, .inr (.inl (0, pwas))), (103, .inr (.inl (0, prss))), (104, .inr (.inl (0, prrs))), (105, .inr (.inl (0, pfas)))] h0 := K.mg K9 rfl rfl
    clear K9
    refine j_V.ldL yb2p_M yb2p_152 rfl (i := 0) (kd := 2) (v := .ref 20) (pcJ := 153) rfl L rfl rfl rfl ?_
    refine j_V.ldL yb2p_M yb2p_153 rfl (i := 1) (kd := 2) (v := .ref 97) (pcJ := 154) rfl L rfl rfl rfl ?_
    refine j_V.getK yb2p_M yb2p_154 (ci := 3) (j := 8) rfl K rfl rfl ?_
    refine j_V.putK yb2p_M yb2p_157 (ci := 3) (j := 8) (k' := [(20, .inl (3, [.ref 21, .ref 22, .ref 23, .ref 24, .ref 25, .ref 26, .ref 27, .ref 28, .int pevs, .int 1])), (21, .inr (.inl (0, (aC (nI pms.length) pmss pms)))), (22, .inr (.inl (0, (aC (nI pmm.length) pmms pmm)))), (23, .inr (.inl (0, (aC (nI pmt.length) pmts pmt)))), (24, .inr (.inl (0, (aC (nI pst.length) psts pst)))), (25, .inr (.inl (0, (aC (nI pwa.length) pwas pwa)))), (26, .inr (.inl (0, (aC (nI prs.length) prss prs)))), (27, .inr (.inl (0, (aC (nI prr.length) prrs prr)))), (28, .inr (.inl (0, (aC (nI pfa.length) pfas pfa)))), (97, .inl (3, [.ref 98, .ref 99, .ref 100, .ref 101, .ref 102, .ref 103, .ref 104, .ref 105, .int pevs, .int 1])), (98, .inr (.inl (0, pmss))), (99, .inr (.inl (0, pmms))), (100, .inr (.inl (0, pmts))), (101, .inr (.inl (0, psts))), (102, .inr (.inl (0, pwas))), (103, .inr (.inl (0, prss))), (104, .inr (.inl (0, prrs))), (105, .inr (.inl (0, pfas)))]) rfl K rfl (Nat.le_of_ble_eq_true rfl) rfl (Or.inl rfl) rfl rfl (fun h K => ?_)
    exact j_V.ret yb2p_M yb2p_160 rfl rfl ⟨rfl, K⟩
  · replace c4_0 : (1 : Int32) = 0 := jd_nen c4_0
    exact absurd c4_0 (by decide)
set_option maxRecDepth 100000 in
theorem yb2s_M : j_meth jP 61 = some (yX7_copyFrom, cX7_copyFrom, 2, none, 1, false, 7) := rfl
set_option maxRecDepth 100000 in
theorem yb2s_0 : j_code jP 61 0 = some (.aload_n 0) := rfl
set_option maxRecDepth 100000 in
theorem yb2s_1 : j_code jP 61 1 = some (.aload_n 1) := rfl
set_option maxRecDepth 100000 in
theorem yb2s_2 : j_code jP 61 2 = some (.getfield 64) := rfl
set_option maxRecDepth 100000 in
theorem yb2s_5 : j_code jP 61 5 = some (.putfield 64) := rfl
set_option maxRecDepth 100000 in
theorem yb2s_8 : j_code jP 61 8 = some (.aload_n 0) := rfl
set_option maxRecDepth 100000 in
theorem yb2s_9 : j_code jP 61 9 = some (.aload_n 1) := rfl
set_option maxRecDepth 100000 in
theorem yb2s_10 : j_code jP 61 10 = some (.getfield 68) := rfl
set_option maxRecDepth 100000 in
theorem yb2s_13 : j_code jP 61 13 = some (.putfield 68) := rfl
set_option maxRecDepth 100000 in
theorem yb2s_16 : j_code jP 61 16 = some (.aload_n 0) := rfl
set_option maxRecDepth 100000 in
theorem yb2s_17 : j_code jP 61 17 = some (.aload_n 1) := rfl
set_option maxRecDepth 100000 in
theorem yb2s_18 : j_code jP 61 18 = some (.getfield 72) := rfl
set_option maxRecDepth 100000 in
theorem yb2s_21 : j_code jP 61 21 = some (.putfield 72) := rfl
set_option maxRecDepth 100000 in
theorem yb2s_24 : j_code jP 61 24 = some (.aload_n 0) := rfl
set_option maxRecDepth 100000 in
theorem yb2s_25 : j_code jP 61 25 = some (.aload_n 1) := rfl
set_option maxRecDepth 100000 in
theorem yb2s_26 : j_code jP 61 26 = some (.getfield 75) := rfl
set_option maxRecDepth 100000 in
theorem yb2s_29 : j_code jP 61 29 = some (.putfield 75) := rfl
set_option maxRecDepth 100000 in
theorem yb2s_32 : j_code jP 61 32 = some (.aload_n 0) := rfl
set_option maxRecDepth 100000 in
theorem yb2s_33 : j_code jP 61 33 = some (.aload_n 1) := rfl
set_option maxRecDepth 100000 in
theorem yb2s_34 : j_code jP 61 34 = some (.getfield 78) := rfl
set_option maxRecDepth 100000 in
theorem yb2s_37 : j_code jP 61 37 = some (.putfield 78) := rfl
set_option maxRecDepth 100000 in
theorem yb2s_40 : j_code jP 61 40 = some (.aload_n 1) := rfl
set_option maxRecDepth 100000 in
theorem yb2s_41 : j_code jP 61 41 = some (.getfield 9) := rfl
set_option maxRecDepth 100000 in
theorem yb2s_44 : j_code jP 61 44 = some (.iconst 0) := rfl
set_option maxRecDepth 100000 in
theorem yb2s_45 : j_code jP 61 45 = some (.aload_n 0) := rfl
set_option maxRecDepth 100000 in
theorem yb2s_46 : j_code jP 61 46 = some (.getfield 9) := rfl
set_option maxRecDepth 100000 in
theorem yb2s_49 : j_code jP 61 49 = some (.iconst 0) := rfl
set_option maxRecDepth 100000 in
theorem yb2s_50 : j_code jP 61 50 = some (.iconst 5) := rfl
set_option maxRecDepth 100000 in
theorem yb2s_51 : j_code jP 61 51 = some (.invokestatic 84) := rfl
set_option maxRecDepth 100000 in
theorem yb2s_54 : j_code jP 61 54 = some (.aload_n 1) := rfl
set_option maxRecDepth 100000 in
theorem yb2s_55 : j_code jP 61 55 = some (.getfield 15) := rfl
set_option maxRecDepth 100000 in
theorem yb2s_58 : j_code jP 61 58 = some (.iconst 0) := rfl
set_option maxRecDepth 100000 in
theorem yb2s_59 : j_code jP 61 59 = some (.aload_n 0) := rfl
set_option maxRecDepth 100000 in
theorem yb2s_60 : j_code jP 61 60 = some (.getfield 15) := rfl
set_option maxRecDepth 100000 in
theorem yb2s_63 : j_code jP 61 63 = some (.iconst 0) := rfl
set_option maxRecDepth 100000 in
theorem yb2s_64 : j_code jP 61 64 = some (.iconst 5) := rfl
set_option maxRecDepth 100000 in
theorem yb2s_65 : j_code jP 61 65 = some (.invokestatic 84) := rfl
set_option maxRecDepth 100000 in
theorem yb2s_68 : j_code jP 61 68 = some (.aload_n 1) := rfl
set_option maxRecDepth 100000 in
theorem yb2s_69 : j_code jP 61 69 = some (.getfield 18) := rfl
set_option maxRecDepth 100000 in
theorem yb2s_72 : j_code jP 61 72 = some (.iconst 0) := rfl
set_option maxRecDepth 100000 in
theorem yb2s_73 : j_code jP 61 73 = some (.aload_n 0) := rfl
set_option maxRecDepth 100000 in
theorem yb2s_74 : j_code jP 61 74 = some (.getfield 18) := rfl
set_option maxRecDepth 100000 in
theorem yb2s_77 : j_code jP 61 77 = some (.iconst 0) := rfl
set_option maxRecDepth 100000 in
theorem yb2s_78 : j_code jP 61 78 = some (.iconst 5) := rfl
set_option maxRecDepth 100000 in
theorem yb2s_79 : j_code jP 61 79 = some (.invokestatic 84) := rfl
set_option maxRecDepth 100000 in
theorem yb2s_82 : j_code jP 61 82 = some (.aload_n 1) := rfl
set_option maxRecDepth 100000 in
theorem yb2s_83 : j_code jP 61 83 = some (.getfield 21) := rfl
set_option maxRecDepth 100000 in
theorem yb2s_86 : j_code jP 61 86 = some (.iconst 0) := rfl
set_option maxRecDepth 100000 in
theorem yb2s_87 : j_code jP 61 87 = some (.aload_n 0) := rfl
set_option maxRecDepth 100000 in
theorem yb2s_88 : j_code jP 61 88 = some (.getfield 21) := rfl
set_option maxRecDepth 100000 in
theorem yb2s_91 : j_code jP 61 91 = some (.iconst 0) := rfl
set_option maxRecDepth 100000 in
theorem yb2s_92 : j_code jP 61 92 = some (.iconst 5) := rfl
set_option maxRecDepth 100000 in
theorem yb2s_93 : j_code jP 61 93 = some (.invokestatic 84) := rfl
set_option maxRecDepth 100000 in
theorem yb2s_96 : j_code jP 61 96 = some (.aload_n 1) := rfl
set_option maxRecDepth 100000 in
theorem yb2s_97 : j_code jP 61 97 = some (.getfield 24) := rfl
set_option maxRecDepth 100000 in
theorem yb2s_100 : j_code jP 61 100 = some (.iconst 0) := rfl
set_option maxRecDepth 100000 in
theorem yb2s_101 : j_code jP 61 101 = some (.aload_n 0) := rfl
set_option maxRecDepth 100000 in
theorem yb2s_102 : j_code jP 61 102 = some (.getfield 24) := rfl
set_option maxRecDepth 100000 in
theorem yb2s_105 : j_code jP 61 105 = some (.iconst 0) := rfl
set_option maxRecDepth 100000 in
theorem yb2s_106 : j_code jP 61 106 = some (.iconst 5) := rfl
set_option maxRecDepth 100000 in
theorem yb2s_107 : j_code jP 61 107 = some (.invokestatic 84) := rfl
set_option maxRecDepth 100000 in
theorem yb2s_110 : j_code jP 61 110 = some (.aload_n 1) := rfl
set_option maxRecDepth 100000 in
theorem yb2s_111 : j_code jP 61 111 = some (.getfield 27) := rfl
set_option maxRecDepth 100000 in
theorem yb2s_114 : j_code jP 61 114 = some (.iconst 0) := rfl
set_option maxRecDepth 100000 in
theorem yb2s_115 : j_code jP 61 115 = some (.aload_n 0) := rfl
set_option maxRecDepth 100000 in
theorem yb2s_116 : j_code jP 61 116 = some (.getfield 27) := rfl
set_option maxRecDepth 100000 in
theorem yb2s_119 : j_code jP 61 119 = some (.iconst 0) := rfl
set_option maxRecDepth 100000 in
theorem yb2s_120 : j_code jP 61 120 = some (.iconst 5) := rfl
set_option maxRecDepth 100000 in
theorem yb2s_121 : j_code jP 61 121 = some (.invokestatic 84) := rfl
set_option maxRecDepth 100000 in
theorem yb2s_124 : j_code jP 61 124 = some (.aload_n 1) := rfl
set_option maxRecDepth 100000 in
theorem yb2s_125 : j_code jP 61 125 = some (.getfield 30) := rfl
set_option maxRecDepth 100000 in
theorem yb2s_128 : j_code jP 61 128 = some (.iconst 0) := rfl
set_option maxRecDepth 100000 in
theorem yb2s_129 : j_code jP 61 129 = some (.aload_n 0) := rfl
set_option maxRecDepth 100000 in
theorem yb2s_130 : j_code jP 61 130 = some (.getfield 30) := rfl
set_option maxRecDepth 100000 in
theorem yb2s_133 : j_code jP 61 133 = some (.iconst 0) := rfl
set_option maxRecDepth 100000 in
theorem yb2s_134 : j_code jP 61 134 = some (.iconst 5) := rfl
set_option maxRecDepth 100000 in
theorem yb2s_135 : j_code jP 61 135 = some (.invokestatic 84) := rfl
set_option maxRecDepth 100000 in
theorem yb2s_138 : j_code jP 61 138 = some (.aload_n 1) := rfl
set_option maxRecDepth 100000 in
theorem yb2s_139 : j_code jP 61 139 = some (.getfield 33) := rfl
set_option maxRecDepth 100000 in
theorem yb2s_142 : j_code jP 61 142 = some (.iconst 0) := rfl
set_option maxRecDepth 100000 in
theorem yb2s_143 : j_code jP 61 143 = some (.aload_n 0) := rfl
set_option maxRecDepth 100000 in
theorem yb2s_144 : j_code jP 61 144 = some (.getfield 33) := rfl
set_option maxRecDepth 100000 in
theorem yb2s_147 : j_code jP 61 147 = some (.iconst 0) := rfl
set_option maxRecDepth 100000 in
theorem yb2s_148 : j_code jP 61 148 = some (.bipush 6) := rfl
set_option maxRecDepth 100000 in
theorem yb2s_150 : j_code jP 61 150 = some (.invokestatic 84) := rfl
set_option maxRecDepth 100000 in
theorem yb2s_153 : j_code jP 61 153 = some (.aload_n 1) := rfl
set_option maxRecDepth 100000 in
theorem yb2s_154 : j_code jP 61 154 = some (.getfield 36) := rfl
set_option maxRecDepth 100000 in
theorem yb2s_157 : j_code jP 61 157 = some (.iconst 0) := rfl
set_option maxRecDepth 100000 in
theorem yb2s_158 : j_code jP 61 158 = some (.aload_n 0) := rfl
set_option maxRecDepth 100000 in
theorem yb2s_159 : j_code jP 61 159 = some (.getfield 36) := rfl
set_option maxRecDepth 100000 in
theorem yb2s_162 : j_code jP 61 162 = some (.iconst 0) := rfl
set_option maxRecDepth 100000 in
theorem yb2s_163 : j_code jP 61 163 = some (.bipush 6) := rfl
set_option maxRecDepth 100000 in
theorem yb2s_165 : j_code jP 61 165 = some (.invokestatic 84) := rfl
set_option maxRecDepth 100000 in
theorem yb2s_168 : j_code jP 61 168 = some (.aload_n 1) := rfl
set_option maxRecDepth 100000 in
theorem yb2s_169 : j_code jP 61 169 = some (.getfield 39) := rfl
set_option maxRecDepth 100000 in
theorem yb2s_172 : j_code jP 61 172 = some (.iconst 0) := rfl
set_option maxRecDepth 100000 in
theorem yb2s_173 : j_code jP 61 173 = some (.aload_n 0) := rfl
set_option maxRecDepth 100000 in
theorem yb2s_174 : j_code jP 61 174 = some (.getfield 39) := rfl
set_option maxRecDepth 100000 in
theorem yb2s_177 : j_code jP 61 177 = some (.iconst 0) := rfl
set_option maxRecDepth 100000 in
theorem yb2s_178 : j_code jP 61 178 = some (.aload_n 0) := rfl
set_option maxRecDepth 100000 in
theorem yb2s_179 : j_code jP 61 179 = some (.getfield 39) := rfl
set_option maxRecDepth 100000 in
theorem yb2s_182 : j_code jP 61 182 = some (.arraylength) := rfl
set_option maxRecDepth 100000 in
theorem yb2s_183 : j_code jP 61 183 = some (.invokestatic 84) := rfl
set_option maxRecDepth 100000 in
theorem yb2s_186 : j_code jP 61 186 = some (.aload_n 1) := rfl
set_option maxRecDepth 100000 in
theorem yb2s_187 : j_code jP 61 187 = some (.getfield 42) := rfl
set_option maxRecDepth 100000 in
theorem yb2s_190 : j_code jP 61 190 = some (.iconst 0) := rfl
set_option maxRecDepth 100000 in
theorem yb2s_191 : j_code jP 61 191 = some (.aload_n 0) := rfl
set_option maxRecDepth 100000 in
theorem yb2s_192 : j_code jP 61 192 = some (.getfield 42) := rfl
set_option maxRecDepth 100000 in
theorem yb2s_195 : j_code jP 61 195 = some (.iconst 0) := rfl
set_option maxRecDepth 100000 in
theorem yb2s_196 : j_code jP 61 196 = some (.aload_n 0) := rfl
set_option maxRecDepth 100000 in
theorem yb2s_197 : j_code jP 61 197 = some (.getfield 42) := rfl
set_option maxRecDepth 100000 in
theorem yb2s_200 : j_code jP 61 200 = some (.arraylength) := rfl
set_option maxRecDepth 100000 in
theorem yb2s_201 : j_code jP 61 201 = some (.invokestatic 84) := rfl
set_option maxRecDepth 100000 in
theorem yb2s_204 : j_code jP 61 204 = some (.aload_n 1) := rfl
set_option maxRecDepth 100000 in
theorem yb2s_205 : j_code jP 61 205 = some (.getfield 45) := rfl
set_option maxRecDepth 100000 in
theorem yb2s_208 : j_code jP 61 208 = some (.iconst 0) := rfl
set_option maxRecDepth 100000 in
theorem yb2s_209 : j_code jP 61 209 = some (.aload_n 0) := rfl
set_option maxRecDepth 100000 in
theorem yb2s_210 : j_code jP 61 210 = some (.getfield 45) := rfl
set_option maxRecDepth 100000 in
theorem yb2s_213 : j_code jP 61 213 = some (.iconst 0) := rfl
set_option maxRecDepth 100000 in
theorem yb2s_214 : j_code jP 61 214 = some (.aload_n 0) := rfl
set_option maxRecDepth 100000 in
theorem yb2s_215 : j_code jP 61 215 = some (.getfield 45) := rfl
set_option maxRecDepth 100000 in
theorem yb2s_218 : j_code jP 61 218 = some (.arraylength) := rfl
set_option maxRecDepth 100000 in
theorem yb2s_219 : j_code jP 61 219 = some (.invokestatic 84) := rfl
set_option maxRecDepth 100000 in
theorem yb2s_222 : j_code jP 61 222 = some (.aload_n 0) := rfl
set_option maxRecDepth 100000 in
theorem yb2s_223 : j_code jP 61 223 = some (.getfield 60) := rfl
set_option maxRecDepth 100000 in
theorem yb2s_226 : j_code jP 61 226 = some (.aload_n 1) := rfl
set_option maxRecDepth 100000 in
theorem yb2s_227 : j_code jP 61 227 = some (.getfield 60) := rfl
set_option maxRecDepth 100000 in
theorem yb2s_230 : j_code jP 61 230 = some (.invokevirtual 108) := rfl
set_option maxRecDepth 100000 in
theorem yb2s_233 : j_code jP 61 233 = some (.return_) := rfl
set_option maxRecDepth 1000000 in
theorem yb2s_k0 {ly : Value} {mi : Int32} {shu : Int32} {bus : Int32} {lks : Int32} {lys : Nat} {mis : Int32} {shus : Int32} {buss : Int32} {lkss : Int32} {d : Nat} {lv : J_L} {h h0 : J_H} {Q : Option Value → J_H → Prop} (L : LK lv [(0, .ref 4), (1, .ref 81)]) (K : KN h [(4, .inl (7, [ly, .int mi, .int shu, .int bus, .ref 5, .ref 6, .ref 7, .ref 8, .ref 9, .ref 10, .ref 11, .ref 12, .ref 13, .ref 14, .ref 15, .int lks, .ref 16, .ref 17, .ref 20])), (81, .inl (7, [.ref lys, .int mis, .int shus, .int buss, .ref 82, .ref 83, .ref 84, .ref 85, .ref 86, .ref 87, .ref 88, .ref 89, .ref 90, .ref 91, .ref 92, .int lkss, .ref 93, .ref 94, .ref 97]))] h0) (kk : ∀ lv h, LK lv [(0, .ref 4), (1, .ref 81)] → KN h [(4, .inl (7, [.ref lys, .int mis, .int shus, .int buss, .ref 5, .ref 6, .ref 7, .ref 8, .ref 9, .ref 10, .ref 11, .ref 12, .ref 13, .ref 14, .ref 15, .int lkss, .ref 16, .ref 17, .ref 20])), (81, .inl (7, [.ref lys, .int mis, .int shus, .int buss, .ref 82, .ref 83, .ref 84, .ref 85, .ref 86, .ref 87, .ref 88, .ref 89, .ref 90, .ref 91, .ref 92, .int lkss, .ref 93, .ref 94, .ref 97]))] h0 → j_V jP d 61 40 lv [] h Q) : j_V jP d 61 0 lv [] h Q := by
  refine j_V.ldL yb2s_M yb2s_0 rfl (i := 0) (kd := 2) (v := .ref 4) (pcJ := 1) rfl L rfl rfl rfl ?_
  refine j_V.ldL yb2s_M yb2s_1 rfl (i := 1) (kd := 2) (v := .ref 81) (pcJ := 2) rfl L rfl rfl rfl ?_
  refine j_V.getK yb2s_M yb2s_2 (ci := 7) (j := 0) rfl K rfl rfl ?_
  refine j_V.putK yb2s_M yb2s_5 (ci := 7) (j := 0) (k' := [(4, .inl (7, [.ref lys, .int mi, .int shu, .int bus, .ref 5, .ref 6, .ref 7, .ref 8, .ref 9, .ref 10, .ref 11, .ref 12, .ref 13, .ref 14, .ref 15, .int lks, .ref 16, .ref 17, .ref 20])), (81, .inl (7, [.ref lys, .int mis, .int shus, .int buss, .ref 82, .ref 83, .ref 84, .ref 85, .ref 86, .ref 87, .ref 88, .ref 89, .ref 90, .ref 91, .ref 92, .int lkss, .ref 93, .ref 94, .ref 97]))]) rfl K rfl (Nat.le_of_ble_eq_true rfl) rfl (Or.inl rfl) rfl rfl (fun h K => ?_)
  refine j_V.ldL yb2s_M yb2s_8 rfl (i := 0) (kd := 2) (v := .ref 4) (pcJ := 9) rfl L rfl rfl rfl ?_
  refine j_V.ldL yb2s_M yb2s_9 rfl (i := 1) (kd := 2) (v := .ref 81) (pcJ := 10) rfl L rfl rfl rfl ?_
  refine j_V.getK yb2s_M yb2s_10 (ci := 7) (j := 1) rfl K rfl rfl ?_
  refine j_V.putK yb2s_M yb2s_13 (ci := 7) (j := 1) (k' := [(4, .inl (7, [.ref lys, .int mis, .int shu, .int bus, .ref 5, .ref 6, .ref 7, .ref 8, .ref 9, .ref 10, .ref 11, .ref 12, .ref 13, .ref 14, .ref 15, .int lks, .ref 16, .ref 17, .ref 20])), (81, .inl (7, [.ref lys, .int mis, .int shus, .int buss, .ref 82, .ref 83, .ref 84, .ref 85, .ref 86, .ref 87, .ref 88, .ref 89, .ref 90, .ref 91, .ref 92, .int lkss, .ref 93, .ref 94, .ref 97]))]) rfl K rfl (Nat.le_of_ble_eq_true rfl) rfl (Or.inl rfl) rfl rfl (fun h K => ?_)
  refine j_V.ldL yb2s_M yb2s_16 rfl (i := 0) (kd := 2) (v := .ref 4) (pcJ := 17) rfl L rfl rfl rfl ?_
  refine j_V.ldL yb2s_M yb2s_17 rfl (i := 1) (kd := 2) (v := .ref 81) (pcJ := 18) rfl L rfl rfl rfl ?_
  refine j_V.getK yb2s_M yb2s_18 (ci := 7) (j := 2) rfl K rfl rfl ?_
  refine j_V.putK yb2s_M yb2s_21 (ci := 7) (j := 2) (k' := [(4, .inl (7, [.ref lys, .int mis, .int shus, .int bus, .ref 5, .ref 6, .ref 7, .ref 8, .ref 9, .ref 10, .ref 11, .ref 12, .ref 13, .ref 14, .ref 15, .int lks, .ref 16, .ref 17, .ref 20])), (81, .inl (7, [.ref lys, .int mis, .int shus, .int buss, .ref 82, .ref 83, .ref 84, .ref 85, .ref 86, .ref 87, .ref 88, .ref 89, .ref 90, .ref 91, .ref 92, .int lkss, .ref 93, .ref 94, .ref 97]))]) rfl K rfl (Nat.le_of_ble_eq_true rfl) rfl (Or.inl rfl) rfl rfl (fun h K => ?_)
  refine j_V.ldL yb2s_M yb2s_24 rfl (i := 0) (kd := 2) (v := .ref 4) (pcJ := 25) rfl L rfl rfl rfl ?_
  refine j_V.ldL yb2s_M yb2s_25 rfl (i := 1) (kd := 2) (v := .ref 81) (pcJ := 26) rfl L rfl rfl rfl ?_
  refine j_V.getK yb2s_M yb2s_26 (ci := 7) (j := 3) rfl K rfl rfl ?_
  refine j_V.putK yb2s_M yb2s_29 (ci := 7) (j := 3) (k' := [(4, .inl (7, [.ref lys, .int mis, .int shus, .int buss, .ref 5, .ref 6, .ref 7, .ref 8, .ref 9, .ref 10, .ref 11, .ref 12, .ref 13, .ref 14, .ref 15, .int lks, .ref 16, .ref 17, .ref 20])), (81, .inl (7, [.ref lys, .int mis, .int shus, .int buss, .ref 82, .ref 83, .ref 84, .ref 85, .ref 86, .ref 87, .ref 88, .ref 89, .ref 90, .ref 91, .ref 92, .int lkss, .ref 93, .ref 94, .ref 97]))]) rfl K rfl (Nat.le_of_ble_eq_true rfl) rfl (Or.inl rfl) rfl rfl (fun h K => ?_)
  refine j_V.ldL yb2s_M yb2s_32 rfl (i := 0) (kd := 2) (v := .ref 4) (pcJ := 33) rfl L rfl rfl rfl ?_
  refine j_V.ldL yb2s_M yb2s_33 rfl (i := 1) (kd := 2) (v := .ref 81) (pcJ := 34) rfl L rfl rfl rfl ?_
  refine j_V.getK yb2s_M yb2s_34 (ci := 7) (j := 15) rfl K rfl rfl ?_
  refine j_V.putK yb2s_M yb2s_37 (ci := 7) (j := 15) (k' := [(4, .inl (7, [.ref lys, .int mis, .int shus, .int buss, .ref 5, .ref 6, .ref 7, .ref 8, .ref 9, .ref 10, .ref 11, .ref 12, .ref 13, .ref 14, .ref 15, .int lkss, .ref 16, .ref 17, .ref 20])), (81, .inl (7, [.ref lys, .int mis, .int shus, .int buss, .ref 82, .ref 83, .ref 84, .ref 85, .ref 86, .ref 87, .ref 88, .ref 89, .ref 90, .ref 91, .ref 92, .int lkss, .ref 93, .ref 94, .ref 97]))]) rfl K rfl (Nat.le_of_ble_eq_true rfl) rfl (Or.inl rfl) rfl rfl (fun h K => ?_)
  exact kk _ _ L K
set_option maxRecDepth 1000000 in
theorem yb2s_k40 {rk : List Int32} {sta : List Int32} {ph : List Int32} {lys : Nat} {mis : Int32} {shus : Int32} {buss : Int32} {lkss : Int32} {rks : List Int32} {stas : List Int32} {phs : List Int32} {d : Nat} {lv : J_L} {h h0 : J_H} {Q : Option Value → J_H → Prop} (L : LK lv [(0, .ref 4), (1, .ref 81)]) (K : KN h [(4, .inl (7, [.ref lys, .int mis, .int shus, .int buss, .ref 5, .ref 6, .ref 7, .ref 8, .ref 9, .ref 10, .ref 11, .ref 12, .ref 13, .ref 14, .ref 15, .int lkss, .ref 16, .ref 17, .ref 20])), (5, .inr (.inl (0, rk))), (6, .inr (.inl (0, sta))), (7, .inr (.inl (0, ph))), (81, .inl (7, [.ref lys, .int mis, .int shus, .int buss, .ref 82, .ref 83, .ref 84, .ref 85, .ref 86, .ref 87, .ref 88, .ref 89, .ref 90, .ref 91, .ref 92, .int lkss, .ref 93, .ref 94, .ref 97])), (82, .inr (.inl (0, rks))), (83, .inr (.inl (0, stas))), (84, .inr (.inl (0, phs)))] h0) (kk : ∀ lv h, LK lv [(0, .ref 4), (1, .ref 81)] → KN h [(4, .inl (7, [.ref lys, .int mis, .int shus, .int buss, .ref 5, .ref 6, .ref 7, .ref 8, .ref 9, .ref 10, .ref 11, .ref 12, .ref 13, .ref 14, .ref 15, .int lkss, .ref 16, .ref 17, .ref 20])), (5, .inr (.inl (0, (aC 5 rks rk)))), (6, .inr (.inl (0, (aC 5 stas sta)))), (7, .inr (.inl (0, (aC 5 phs ph)))), (81, .inl (7, [.ref lys, .int mis, .int shus, .int buss, .ref 82, .ref 83, .ref 84, .ref 85, .ref 86, .ref 87, .ref 88, .ref 89, .ref 90, .ref 91, .ref 92, .int lkss, .ref 93, .ref 94, .ref 97])), (82, .inr (.inl (0, rks))), (83, .inr (.inl (0, stas))), (84, .inr (.inl (0, phs)))] h0 → j_V jP d 61 82 lv [] h Q) : j_V jP d 61 40 lv [] h Q := by
  refine j_V.ldL yb2s_M yb2s_40 rfl (i := 1) (kd := 2) (v := .ref 81) (pcJ := 41) rfl L rfl rfl rfl ?_
  refine j_V.getK yb2s_M yb2s_41 (ci := 7) (j := 4) rfl K rfl rfl ?_
  refine j_V.one yb2s_M yb2s_44 (by decide) (pcJ := 45) (stJ := [.int 0, .ref 82]) rfl ?_
  refine j_V.ldL yb2s_M yb2s_45 rfl (i := 0) (kd := 2) (v := .ref 4) (pcJ := 46) rfl L rfl rfl rfl ?_
  refine j_V.getK yb2s_M yb2s_46 (ci := 7) (j := 4) rfl K rfl rfl ?_
  refine j_V.one yb2s_M yb2s_49 (by decide) (pcJ := 50) (stJ := [.int 0, .ref 5, .int 0, .ref 82]) rfl ?_
  refine j_V.one yb2s_M yb2s_50 (by decide) (pcJ := 51) (stJ := [.int 5, .int 0, .ref 5, .int 0, .ref 82]) rfl ?_
  refine j_V.acp yb2s_M yb2s_51 rfl rfl K rfl rfl rfl (fun h K => ?_)
  refine j_V.ldL yb2s_M yb2s_54 rfl (i := 1) (kd := 2) (v := .ref 81) (pcJ := 55) rfl L rfl rfl rfl ?_
  refine j_V.getK yb2s_M yb2s_55 (ci := 7) (j := 5) rfl K rfl rfl ?_
  refine j_V.one yb2s_M yb2s_58 (by decide) (pcJ := 59) (stJ := [.int 0, .ref 83]) rfl ?_
  refine j_V.ldL yb2s_M yb2s_59 rfl (i := 0) (kd := 2) (v := .ref 4) (pcJ := 60) rfl L rfl rfl rfl ?_
  refine j_V.getK yb2s_M yb2s_60 (ci := 7) (j := 5) rfl K rfl rfl ?_
  refine j_V.one yb2s_M yb2s_63 (by decide) (pcJ := 64) (stJ := [.int 0, .ref 6, .int 0, .ref 83]) rfl ?_
  refine j_V.one yb2s_M yb2s_64 (by decide) (pcJ := 65) (stJ := [.int 5, .int 0, .ref 6, .int 0, .ref 83]) rfl ?_
  refine j_V.acp yb2s_M yb2s_65 rfl rfl K rfl rfl rfl (fun h K => ?_)
  refine j_V.ldL yb2s_M yb2s_68 rfl (i := 1) (kd := 2) (v := .ref 81) (pcJ := 69) rfl L rfl rfl rfl ?_
  refine j_V.getK yb2s_M yb2s_69 (ci := 7) (j := 6) rfl K rfl rfl ?_
  refine j_V.one yb2s_M yb2s_72 (by decide) (pcJ := 73) (stJ := [.int 0, .ref 84]) rfl ?_
  refine j_V.ldL yb2s_M yb2s_73 rfl (i := 0) (kd := 2) (v := .ref 4) (pcJ := 74) rfl L rfl rfl rfl ?_
  refine j_V.getK yb2s_M yb2s_74 (ci := 7) (j := 6) rfl K rfl rfl ?_
  refine j_V.one yb2s_M yb2s_77 (by decide) (pcJ := 78) (stJ := [.int 0, .ref 7, .int 0, .ref 84]) rfl ?_
  refine j_V.one yb2s_M yb2s_78 (by decide) (pcJ := 79) (stJ := [.int 5, .int 0, .ref 7, .int 0, .ref 84]) rfl ?_
  refine j_V.acp yb2s_M yb2s_79 rfl rfl K rfl rfl rfl (fun h K => ?_)
  exact kk _ _ L K
set_option maxRecDepth 1000000 in
theorem yb2s_k82 {sp : List Int32} {ce : List Int32} {du : List Int32} {lys : Nat} {mis : Int32} {shus : Int32} {buss : Int32} {lkss : Int32} {sps : List Int32} {ces : List Int32} {dus : List Int32} {d : Nat} {lv : J_L} {h h0 : J_H} {Q : Option Value → J_H → Prop} (L : LK lv [(0, .ref 4), (1, .ref 81)]) (K : KN h [(4, .inl (7, [.ref lys, .int mis, .int shus, .int buss, .ref 5, .ref 6, .ref 7, .ref 8, .ref 9, .ref 10, .ref 11, .ref 12, .ref 13, .ref 14, .ref 15, .int lkss, .ref 16, .ref 17, .ref 20])), (8, .inr (.inl (0, sp))), (9, .inr (.inl (0, ce))), (10, .inr (.inl (0, du))), (81, .inl (7, [.ref lys, .int mis, .int shus, .int buss, .ref 82, .ref 83, .ref 84, .ref 85, .ref 86, .ref 87, .ref 88, .ref 89, .ref 90, .ref 91, .ref 92, .int lkss, .ref 93, .ref 94, .ref 97])), (85, .inr (.inl (0, sps))), (86, .inr (.inl (0, ces))), (87, .inr (.inl (0, dus)))] h0) (kk : ∀ lv h, LK lv [(0, .ref 4), (1, .ref 81)] → KN h [(4, .inl (7, [.ref lys, .int mis, .int shus, .int buss, .ref 5, .ref 6, .ref 7, .ref 8, .ref 9, .ref 10, .ref 11, .ref 12, .ref 13, .ref 14, .ref 15, .int lkss, .ref 16, .ref 17, .ref 20])), (8, .inr (.inl (0, (aC 5 sps sp)))), (9, .inr (.inl (0, (aC 5 ces ce)))), (10, .inr (.inl (0, (aC 5 dus du)))), (81, .inl (7, [.ref lys, .int mis, .int shus, .int buss, .ref 82, .ref 83, .ref 84, .ref 85, .ref 86, .ref 87, .ref 88, .ref 89, .ref 90, .ref 91, .ref 92, .int lkss, .ref 93, .ref 94, .ref 97])), (85, .inr (.inl (0, sps))), (86, .inr (.inl (0, ces))), (87, .inr (.inl (0, dus)))] h0 → j_V jP d 61 124 lv [] h Q) : j_V jP d 61 82 lv [] h Q := by
  refine j_V.ldL yb2s_M yb2s_82 rfl (i := 1) (kd := 2) (v := .ref 81) (pcJ := 83) rfl L rfl rfl rfl ?_
  refine j_V.getK yb2s_M yb2s_83 (ci := 7) (j := 7) rfl K rfl rfl ?_
  refine j_V.one yb2s_M yb2s_86 (by decide) (pcJ := 87) (stJ := [.int 0, .ref 85]) rfl ?_
  refine j_V.ldL yb2s_M yb2s_87 rfl (i := 0) (kd := 2) (v := .ref 4) (pcJ := 88) rfl L rfl rfl rfl ?_
  refine j_V.getK yb2s_M yb2s_88 (ci := 7) (j := 7) rfl K rfl rfl ?_
  refine j_V.one yb2s_M yb2s_91 (by decide) (pcJ := 92) (stJ := [.int 0, .ref 8, .int 0, .ref 85]) rfl ?_
  refine j_V.one yb2s_M yb2s_92 (by decide) (pcJ := 93) (stJ := [.int 5, .int 0, .ref 8, .int 0, .ref 85]) rfl ?_
  refine j_V.acp yb2s_M yb2s_93 rfl rfl K rfl rfl rfl (fun h K => ?_)
  refine j_V.ldL yb2s_M yb2s_96 rfl (i := 1) (kd := 2) (v := .ref 81) (pcJ := 97) rfl L rfl rfl rfl ?_
  refine j_V.getK yb2s_M yb2s_97 (ci := 7) (j := 8) rfl K rfl rfl ?_
  refine j_V.one yb2s_M yb2s_100 (by decide) (pcJ := 101) (stJ := [.int 0, .ref 86]) rfl ?_
  refine j_V.ldL yb2s_M yb2s_101 rfl (i := 0) (kd := 2) (v := .ref 4) (pcJ := 102) rfl L rfl rfl rfl ?_
  refine j_V.getK yb2s_M yb2s_102 (ci := 7) (j := 8) rfl K rfl rfl ?_
  refine j_V.one yb2s_M yb2s_105 (by decide) (pcJ := 106) (stJ := [.int 0, .ref 9, .int 0, .ref 86]) rfl ?_
  refine j_V.one yb2s_M yb2s_106 (by decide) (pcJ := 107) (stJ := [.int 5, .int 0, .ref 9, .int 0, .ref 86]) rfl ?_
  refine j_V.acp yb2s_M yb2s_107 rfl rfl K rfl rfl rfl (fun h K => ?_)
  refine j_V.ldL yb2s_M yb2s_110 rfl (i := 1) (kd := 2) (v := .ref 81) (pcJ := 111) rfl L rfl rfl rfl ?_
  refine j_V.getK yb2s_M yb2s_111 (ci := 7) (j := 9) rfl K rfl rfl ?_
  refine j_V.one yb2s_M yb2s_114 (by decide) (pcJ := 115) (stJ := [.int 0, .ref 87]) rfl ?_
  refine j_V.ldL yb2s_M yb2s_115 rfl (i := 0) (kd := 2) (v := .ref 4) (pcJ := 116) rfl L rfl rfl rfl ?_
  refine j_V.getK yb2s_M yb2s_116 (ci := 7) (j := 9) rfl K rfl rfl ?_
  refine j_V.one yb2s_M yb2s_119 (by decide) (pcJ := 120) (stJ := [.int 0, .ref 10, .int 0, .ref 87]) rfl ?_
  refine j_V.one yb2s_M yb2s_120 (by decide) (pcJ := 121) (stJ := [.int 5, .int 0, .ref 10, .int 0, .ref 87]) rfl ?_
  refine j_V.acp yb2s_M yb2s_121 rfl rfl K rfl rfl rfl (fun h K => ?_)
  exact kk _ _ L K
set_option maxRecDepth 1000000 in
theorem yb2s_k124 {he : List Int32} {ri : List Int32} {us : List Int32} {lys : Nat} {mis : Int32} {shus : Int32} {buss : Int32} {lkss : Int32} {hes : List Int32} {ris : List Int32} {uss : List Int32} {d : Nat} {lv : J_L} {h h0 : J_H} {Q : Option Value → J_H → Prop} (L : LK lv [(0, .ref 4), (1, .ref 81)]) (K : KN h [(4, .inl (7, [.ref lys, .int mis, .int shus, .int buss, .ref 5, .ref 6, .ref 7, .ref 8, .ref 9, .ref 10, .ref 11, .ref 12, .ref 13, .ref 14, .ref 15, .int lkss, .ref 16, .ref 17, .ref 20])), (11, .inr (.inl (0, he))), (12, .inr (.inl (0, ri))), (13, .inr (.inl (0, us))), (81, .inl (7, [.ref lys, .int mis, .int shus, .int buss, .ref 82, .ref 83, .ref 84, .ref 85, .ref 86, .ref 87, .ref 88, .ref 89, .ref 90, .ref 91, .ref 92, .int lkss, .ref 93, .ref 94, .ref 97])), (88, .inr (.inl (0, hes))), (89, .inr (.inl (0, ris))), (90, .inr (.inl (0, uss)))] h0) (kk : ∀ lv h, LK lv [(0, .ref 4), (1, .ref 81)] → KN h [(4, .inl (7, [.ref lys, .int mis, .int shus, .int buss, .ref 5, .ref 6, .ref 7, .ref 8, .ref 9, .ref 10, .ref 11, .ref 12, .ref 13, .ref 14, .ref 15, .int lkss, .ref 16, .ref 17, .ref 20])), (11, .inr (.inl (0, (aC 5 hes he)))), (12, .inr (.inl (0, (aC 6 ris ri)))), (13, .inr (.inl (0, (aC 6 uss us)))), (81, .inl (7, [.ref lys, .int mis, .int shus, .int buss, .ref 82, .ref 83, .ref 84, .ref 85, .ref 86, .ref 87, .ref 88, .ref 89, .ref 90, .ref 91, .ref 92, .int lkss, .ref 93, .ref 94, .ref 97])), (88, .inr (.inl (0, hes))), (89, .inr (.inl (0, ris))), (90, .inr (.inl (0, uss)))] h0 → j_V jP d 61 168 lv [] h Q) : j_V jP d 61 124 lv [] h Q := by
  refine j_V.ldL yb2s_M yb2s_124 rfl (i := 1) (kd := 2) (v := .ref 81) (pcJ := 125) rfl L rfl rfl rfl ?_
  refine j_V.getK yb2s_M yb2s_125 (ci := 7) (j := 10) rfl K rfl rfl ?_
  refine j_V.one yb2s_M yb2s_128 (by decide) (pcJ := 129) (stJ := [.int 0, .ref 88]) rfl ?_
  refine j_V.ldL yb2s_M yb2s_129 rfl (i := 0) (kd := 2) (v := .ref 4) (pcJ := 130) rfl L rfl rfl rfl ?_
  refine j_V.getK yb2s_M yb2s_130 (ci := 7) (j := 10) rfl K rfl rfl ?_
  refine j_V.one yb2s_M yb2s_133 (by decide) (pcJ := 134) (stJ := [.int 0, .ref 11, .int 0, .ref 88]) rfl ?_
  refine j_V.one yb2s_M yb2s_134 (by decide) (pcJ := 135) (stJ := [.int 5, .int 0, .ref 11, .int 0, .ref 88]) rfl ?_
  refine j_V.acp yb2s_M yb2s_135 rfl rfl K rfl rfl rfl (fun h K => ?_)
  refine j_V.ldL yb2s_M yb2s_138 rfl (i := 1) (kd := 2) (v := .ref 81) (pcJ := 139) rfl L rfl rfl rfl ?_
  refine j_V.getK yb2s_M yb2s_139 (ci := 7) (j := 11) rfl K rfl rfl ?_
  refine j_V.one yb2s_M yb2s_142 (by decide) (pcJ := 143) (stJ := [.int 0, .ref 89]) rfl ?_
  refine j_V.ldL yb2s_M yb2s_143 rfl (i := 0) (kd := 2) (v := .ref 4) (pcJ := 144) rfl L rfl rfl rfl ?_
  refine j_V.getK yb2s_M yb2s_144 (ci := 7) (j := 11) rfl K rfl rfl ?_
  refine j_V.one yb2s_M yb2s_147 (by decide) (pcJ := 148) (stJ := [.int 0, .ref 12, .int 0, .ref 89]) rfl ?_
  refine j_V.one yb2s_M yb2s_148 (by decide) (pcJ := 150) (stJ := [.int 6, .int 0, .ref 12, .int 0, .ref 89]) rfl ?_
  refine j_V.acp yb2s_M yb2s_150 rfl rfl K rfl rfl rfl (fun h K => ?_)
  refine j_V.ldL yb2s_M yb2s_153 rfl (i := 1) (kd := 2) (v := .ref 81) (pcJ := 154) rfl L rfl rfl rfl ?_
  refine j_V.getK yb2s_M yb2s_154 (ci := 7) (j := 12) rfl K rfl rfl ?_
  refine j_V.one yb2s_M yb2s_157 (by decide) (pcJ := 158) (stJ := [.int 0, .ref 90]) rfl ?_
  refine j_V.ldL yb2s_M yb2s_158 rfl (i := 0) (kd := 2) (v := .ref 4) (pcJ := 159) rfl L rfl rfl rfl ?_
  refine j_V.getK yb2s_M yb2s_159 (ci := 7) (j := 12) rfl K rfl rfl ?_
  refine j_V.one yb2s_M yb2s_162 (by decide) (pcJ := 163) (stJ := [.int 0, .ref 13, .int 0, .ref 90]) rfl ?_
  refine j_V.one yb2s_M yb2s_163 (by decide) (pcJ := 165) (stJ := [.int 6, .int 0, .ref 13, .int 0, .ref 90]) rfl ?_
  refine j_V.acp yb2s_M yb2s_165 rfl rfl K rfl rfl rfl (fun h K => ?_)
  exact kk _ _ L K
set_option maxRecDepth 1000000 in
theorem yb2s_k168 {cm : List Int32} {lf : List Int32} {lkd : List Int32} {lys : Nat} {mis : Int32} {shus : Int32} {buss : Int32} {lkss : Int32} {cms : List Int32} {lfs : List Int32} {lkds : List Int32} {d : Nat} {lv : J_L} {h h0 : J_H} {Q : Option Value → J_H → Prop} (L : LK lv [(0, .ref 4), (1, .ref 81)]) (K : KN h [(4, .inl (7, [.ref lys, .int mis, .int shus, .int buss, .ref 5, .ref 6, .ref 7, .ref 8, .ref 9, .ref 10, .ref 11, .ref 12, .ref 13, .ref 14, .ref 15, .int lkss, .ref 16, .ref 17, .ref 20])), (14, .inr (.inl (0, cm))), (15, .inr (.inl (0, lf))), (16, .inr (.inl (0, lkd))), (81, .inl (7, [.ref lys, .int mis, .int shus, .int buss, .ref 82, .ref 83, .ref 84, .ref 85, .ref 86, .ref 87, .ref 88, .ref 89, .ref 90, .ref 91, .ref 92, .int lkss, .ref 93, .ref 94, .ref 97])), (91, .inr (.inl (0, cms))), (92, .inr (.inl (0, lfs))), (93, .inr (.inl (0, lkds)))] h0) (kk : ∀ lv h, LK lv [(0, .ref 4), (1, .ref 81)] → KN h [(4, .inl (7, [.ref lys, .int mis, .int shus, .int buss, .ref 5, .ref 6, .ref 7, .ref 8, .ref 9, .ref 10, .ref 11, .ref 12, .ref 13, .ref 14, .ref 15, .int lkss, .ref 16, .ref 17, .ref 20])), (14, .inr (.inl (0, (aC (nI cm.length) cms cm)))), (15, .inr (.inl (0, (aC (nI lf.length) lfs lf)))), (16, .inr (.inl (0, (aC (nI lkd.length) lkds lkd)))), (81, .inl (7, [.ref lys, .int mis, .int shus, .int buss, .ref 82, .ref 83, .ref 84, .ref 85, .ref 86, .ref 87, .ref 88, .ref 89, .ref 90, .ref 91, .ref 92, .int lkss, .ref 93, .ref 94, .ref 97])), (91, .inr (.inl (0, cms))), (92, .inr (.inl (0, lfs))), (93, .inr (.inl (0, lkds)))] h0 → j_V jP d 61 222 lv [] h Q) : j_V jP d 61 168 lv [] h Q := by
  refine j_V.ldL yb2s_M yb2s_168 rfl (i := 1) (kd := 2) (v := .ref 81) (pcJ := 169) rfl L rfl rfl rfl ?_
  refine j_V.getK yb2s_M yb2s_169 (ci := 7) (j := 13) rfl K rfl rfl ?_
  refine j_V.one yb2s_M yb2s_172 (by decide) (pcJ := 173) (stJ := [.int 0, .ref 91]) rfl ?_
  refine j_V.ldL yb2s_M yb2s_173 rfl (i := 0) (kd := 2) (v := .ref 4) (pcJ := 174) rfl L rfl rfl rfl ?_
  refine j_V.getK yb2s_M yb2s_174 (ci := 7) (j := 13) rfl K rfl rfl ?_
  refine j_V.one yb2s_M yb2s_177 (by decide) (pcJ := 178) (stJ := [.int 0, .ref 14, .int 0, .ref 91]) rfl ?_
  refine j_V.ldL yb2s_M yb2s_178 rfl (i := 0) (kd := 2) (v := .ref 4) (pcJ := 179) rfl L rfl rfl rfl ?_
  refine j_V.getK yb2s_M yb2s_179 (ci := 7) (j := 13) rfl K rfl rfl ?_
  refine j_V.alnA yb2s_M yb2s_182 K rfl ?_
  refine j_V.acp yb2s_M yb2s_183 rfl rfl K rfl rfl rfl (fun h K => ?_)
  refine j_V.ldL yb2s_M yb2s_186 rfl (i := 1) (kd := 2) (v := .ref 81) (pcJ := 187) rfl L rfl rfl rfl ?_
  refine j_V.getK yb2s_M yb2s_187 (ci := 7) (j := 14) rfl K rfl rfl ?_
  refine j_V.one yb2s_M yb2s_190 (by decide) (pcJ := 191) (stJ := [.int 0, .ref 92]) rfl ?_
  refine j_V.ldL yb2s_M yb2s_191 rfl (i := 0) (kd := 2) (v := .ref 4) (pcJ := 192) rfl L rfl rfl rfl ?_
  refine j_V.getK yb2s_M yb2s_192 (ci := 7) (j := 14) rfl K rfl rfl ?_
  refine j_V.one yb2s_M yb2s_195 (by decide) (pcJ := 196) (stJ := [.int 0, .ref 15, .int 0, .ref 92]) rfl ?_
  refine j_V.ldL yb2s_M yb2s_196 rfl (i := 0) (kd := 2) (v := .ref 4) (pcJ := 197) rfl L rfl rfl rfl ?_
  refine j_V.getK yb2s_M yb2s_197 (ci := 7) (j := 14) rfl K rfl rfl ?_
  refine j_V.alnA yb2s_M yb2s_200 K rfl ?_
  refine j_V.acp yb2s_M yb2s_201 rfl rfl K rfl rfl rfl (fun h K => ?_)
  refine j_V.ldL yb2s_M yb2s_204 rfl (i := 1) (kd := 2) (v := .ref 81) (pcJ := 205) rfl L rfl rfl rfl ?_
  refine j_V.getK yb2s_M yb2s_205 (ci := 7) (j := 16) rfl K rfl rfl ?_
  refine j_V.one yb2s_M yb2s_208 (by decide) (pcJ := 209) (stJ := [.int 0, .ref 93]) rfl ?_
  refine j_V.ldL yb2s_M yb2s_209 rfl (i := 0) (kd := 2) (v := .ref 4) (pcJ := 210) rfl L rfl rfl rfl ?_
  refine j_V.getK yb2s_M yb2s_210 (ci := 7) (j := 16) rfl K rfl rfl ?_
  refine j_V.one yb2s_M yb2s_213 (by decide) (pcJ := 214) (stJ := [.int 0, .ref 16, .int 0, .ref 93]) rfl ?_
  refine j_V.ldL yb2s_M yb2s_214 rfl (i := 0) (kd := 2) (v := .ref 4) (pcJ := 215) rfl L rfl rfl rfl ?_
  refine j_V.getK yb2s_M yb2s_215 (ci := 7) (j := 16) rfl K rfl rfl ?_
  refine j_V.alnA yb2s_M yb2s_218 K rfl ?_
  refine j_V.acp yb2s_M yb2s_219 rfl rfl K rfl rfl rfl (fun h K => ?_)
  exact kk _ _ L K
set_option maxRecDepth 1000000 in
theorem yb2s_ok {ly : Value} {mi : Int32} {shu : Int32} {bus : Int32} {lks : Int32} {rk : List Int32} {sta : List Int32} {ph : List Int32} {sp : List Int32} {ce : List Int32} {du : List Int32} {he : List Int32} {ri : List Int32} {us : List Int32} {cm : List Int32} {lf : List Int32} {lkd : List Int32} {pev : Int32} {pms : List Int32} {pmm : List Int32} {pmt : List Int32} {pst : List Int32} {pwa : List Int32} {prs : List Int32} {prr : List Int32} {pfa : List Int32} {lys : Nat} {mis : Int32} {shus : Int32} {buss : Int32} {lkss : Int32} {rks : List Int32} {stas : List Int32} {phs : List Int32} {sps : List Int32} {ces : List Int32} {dus : List Int32} {hes : List Int32} {ris : List Int32} {uss : List Int32} {cms : List Int32} {lfs : List Int32} {lkds : List Int32} {pevs : Int32} {pmss : List Int32} {pmms : List Int32} {pmts : List Int32} {psts : List Int32} {pwas : List Int32} {prss : List Int32} {prrs : List Int32} {pfas : List Int32} {d : Nat} {h h0 : J_H} (K : KN h [(4, .inl (7, [ly, .int mi, .int shu, .int bus, .ref 5, .ref 6, .ref 7, .ref 8, .ref 9, .ref 10, .ref 11, .ref 12, .ref 13, .ref 14, .ref 15, .int lks, .ref 16, .ref 17, .ref 20])), (5, .inr (.inl (0, rk))), (6, .inr (.inl (0, sta))), (7, .inr (.inl (0, ph))), (8, .inr (.inl (0, sp))), (9, .inr (.inl (0, ce))), (10, .inr (.inl (0, du))), (11, .inr (.inl (0, he))), (12, .inr (.inl (0, ri))), (13, .inr (.inl (0, us))), (14, .inr (.inl (0, cm))), (15, .inr (.inl (0, lf))), (16, .inr (.inl (0, lkd))), (20, .inl (3, [.ref 21, .ref 22, .ref 23, .ref 24, .ref 25, .ref 26, .ref 27, .ref 28, .int pev, .int 1])), (21, .inr (.inl (0, pms))), (22, .inr (.inl (0, pmm))), (23, .inr (.inl (0, pmt))), (24, .inr (.inl (0, pst))), (25, .inr (.inl (0, pwa))), (26, .inr (.inl (0, prs))), (27, .inr (.inl (0, prr))), (28, .inr (.inl (0, pfa))), (81, .inl (7, [.ref lys, .int mis, .int shus, .int buss, .ref 82, .ref 83, .ref 84, .ref 85, .ref 86, .ref 87, .ref 88, .ref 89, .ref 90, .ref 91, .ref 92, .int lkss, .ref 93, .ref 94, .ref 97])), (82, .inr (.inl (0, rks))), (83, .inr (.inl (0, stas))), (84, .inr (.inl (0, phs))), (85, .inr (.inl (0, sps))), (86, .inr (.inl (0, ces))), (87, .inr (.inl (0, dus))), (88, .inr (.inl (0, hes))), (89, .inr (.inl (0, ris))), (90, .inr (.inl (0, uss))), (91, .inr (.inl (0, cms))), (92, .inr (.inl (0, lfs))), (93, .inr (.inl (0, lkds))), (97, .inl (3, [.ref 98, .ref 99, .ref 100, .ref 101, .ref 102, .ref 103, .ref 104, .ref 105, .int pevs, .int 1])), (98, .inr (.inl (0, pmss))), (99, .inr (.inl (0, pmms))), (100, .inr (.inl (0, pmts))), (101, .inr (.inl (0, psts))), (102, .inr (.inl (0, pwas))), (103, .inr (.inl (0, prss))), (104, .inr (.inl (0, prrs))), (105, .inr (.inl (0, pfas)))] h0) : j_V jP d 61 0 (lv_args 0 [.ref 4, .ref 81]) [] h (fun rv h' => rv = none ∧ KN h' [(4, .inl (7, [.ref lys, .int mis, .int shus, .int buss, .ref 5, .ref 6, .ref 7, .ref 8, .ref 9, .ref 10, .ref 11, .ref 12, .ref 13, .ref 14, .ref 15, .int lkss, .ref 16, .ref 17, .ref 20])), (5, .inr (.inl (0, (aC 5 rks rk)))), (6, .inr (.inl (0, (aC 5 stas sta)))), (7, .inr (.inl (0, (aC 5 phs ph)))), (8, .inr (.inl (0, (aC 5 sps sp)))), (9, .inr (.inl (0, (aC 5 ces ce)))), (10, .inr (.inl (0, (aC 5 dus du)))), (11, .inr (.inl (0, (aC 5 hes he)))), (12, .inr (.inl (0, (aC 6 ris ri)))), (13, .inr (.inl (0, (aC 6 uss us)))), (14, .inr (.inl (0, (aC (nI cm.length) cms cm)))), (15, .inr (.inl (0, (aC (nI lf.length) lfs lf)))), (16, .inr (.inl (0, (aC (nI lkd.length) lkds lkd)))), (20, .inl (3, [.ref 21, .ref 22, .ref 23, .ref 24, .ref 25, .ref 26, .ref 27, .ref 28, .int pevs, .int 1])), (21, .inr (.inl (0, (aC (nI pms.length) pmss pms)))), (22, .inr (.inl (0, (aC (nI pmm.length) pmms pmm)))), (23, .inr (.inl (0, (aC (nI pmt.length) pmts pmt)))), (24, .inr (.inl (0, (aC (nI pst.length) psts pst)))), (25, .inr (.inl (0, (aC (nI pwa.length) pwas pwa)))), (26, .inr (.inl (0, (aC (nI prs.length) prss prs)))), (27, .inr (.inl (0, (aC (nI prr.length) prrs prr)))), (28, .inr (.inl (0, (aC (nI pfa.length) pfas pfa)))), (81, .inl (7, [.ref lys, .int mis, .int shus, .int buss, .ref 82, .ref 83, .ref 84, .ref 85, .ref 86, .ref 87, .ref 88, .ref 89, .ref 90, .ref 91, .ref 92, .int lkss, .ref 93, .ref 94, .ref 97])), (82, .inr (.inl (0, rks))), (83, .inr (.inl (0, stas))), (84, .inr (.inl (0, phs))), (85, .inr (.inl (0, sps))), (86, .inr (.inl (0, ces))), (87, .inr (.inl (0, dus))), (88, .inr (.inl (0, hes))), (89, .inr (.inl (0, ris))), (90, .inr (.inl (0, uss))), (91, .inr (.inl (0, cms))), (92, .inr (.inl (0, lfs))), (93, .inr (.inl (0, lkds))), (97, .inl (3, [.ref 98, .ref 99, .ref 100, .ref 101, .ref 102, .ref 103, .ref 104, .ref 105, .int pevs, .int 1])), (98, .inr (.inl (0, pmss))), (99, .inr (.inl (0, pmms))), (100, .inr (.inl (0, pmts))), (101, .inr (.inl (0, psts))), (102, .inr (.inl (0, pwas))), (103, .inr (.inl (0, prss))), (104, .inr (.inl (0, prrs))), (105, .inr (.inl (0, pfas)))] h0) := by
  show j_V jP d 61 0 [(0, .ref 4), (1, .ref 81)] [] h _
  obtain ⟨lv, elv, L⟩ : ∃ lv, lv = [(0, .ref 4), (1, .ref 81)] ∧ LK lv [(0, .ref 4), (1, .ref 81)] := ⟨_, rfl, LK.rf⟩
  rw [← elv]
  clear elv
  refine yb2s_k0 L (K.fi [4, 81] rfl rfl) (fun lv h9 L K9 => ?_)
  have K : KN h9 [(4, .inl (7, [.ref lys, .int mis, .int shus, .int buss, .ref 5, .ref 6, .ref 7, .ref 8, .ref 9, .ref 10, .ref 11, .ref 12, .ref 13, .ref 14, .ref 15, .int lkss, .ref 16, .ref 17, .ref 20])), (5, .inr (.inl (0, rk))), (6, .inr (.inl (0, sta))), (7, .inr (.inl (0, ph))), (8, .inr (.inl (0, sp))), (9, .inr (.inl (0, ce))), (10, .inr (.inl (0, du))), (11, .inr (.inl (0, he))), (12, .inr (.inl (0, ri))), (13, .inr (.inl (0, us))), (14, .inr (.inl (0, cm))), (15, .inr (.inl (0, lf))), (16, .inr (.inl (0, lkd))), (20, .inl (3, [.ref 21, .ref 22, .ref 23, .ref 24, .ref 25, .ref 26, .ref 27, .ref 28, .int pev, .int 1])), (21, .inr (.inl (0, pms))), (22, .inr (.inl (0, pmm))), (23, .inr (.inl (0, pmt))), (24, .inr (.inl (0, pst))), (25, .inr (.inl (0, pwa))), (26, .inr (.inl (0, prs))), (27, .inr (.inl (0, prr))), (28, .inr (.inl (0, pfa))), (81, .inl (7, [.ref lys, .int mis, .int shus, .int buss, .ref 82, .ref 83, .ref 84, .ref 85, .ref 86, .ref 87, .ref 88, .ref 89, .ref 90, .ref 91, .ref 92, .int lkss, .ref 93, .ref 94, .ref 97])), (82, .inr (.inl (0, rks))), (83, .inr (.inl (0, stas))), (84, .inr (.inl (0, phs))), (85, .inr (.inl (0, sps))), (86, .inr (.inl (0, ces))), (87, .inr (.inl (0, dus))), (88, .inr (.inl (0, hes))), (89, .inr (.inl (0, ris))), (90, .inr (.inl (0, uss))), (91, .inr (.inl (0, cms))), (92, .inr (.inl (0, lfs))), (93, .inr (.inl (0, lkds))), (97, .inl (3, [.ref 98, .ref 99, .ref 100, .ref 101, .ref 102, .ref 103, .ref 104, .ref 105, .int pevs, .int 1])), (98, .inr (.inl (0, pmss))), (99, .inr (.inl (0, pmms))), (100, .inr (.inl (0, pmts))), (101, .inr (.inl (0, psts))), (102, .inr (.inl (0, pwas))), (103, .inr (.inl (0, prss))), (104, .inr (.inl (0, prrs))), (105, .inr (.inl (0, pfas)))] h0 := K.mg K9 rfl rfl
  clear K9
  refine yb2s_k40 L (K.fi [4, 5, 6, 7, 81, 82, 83, 84] rfl rfl) (fun lv h9 L K9 => ?_)
  have K : KN h9 [(4, .inl (7, [.ref lys, .int mis, .int shus, .int buss, .ref 5, .ref 6, .ref 7, .ref 8, .ref 9, .ref 10, .ref 11, .ref 12, .ref 13, .ref 14, .ref 15, .int lkss, .ref 16, .ref 17, .ref 20])), (5, .inr (.inl (0, (aC 5 rks rk)))), (6, .inr (.inl (0, (aC 5 stas sta)))), (7, .inr (.inl (0, (aC 5 phs ph)))), (8, .inr (.inl (0, sp))), (9, .inr (.inl (0, ce))), (10, .inr (.inl (0, du))), (11, .inr (.inl (0, he))), (12, .inr (.inl (0, ri))), (13, .inr (.inl (0, us))), (14, .inr (.inl (0, cm))), (15, .inr (.inl (0, lf))), (16, .inr (.inl (0, lkd))), (20, .inl (3, [.ref 21, .ref 22, .ref 23, .ref 24, .ref 25, .ref 26, .ref 27, .ref 28, .int pev, .int 1])), (21, .inr (.inl (0, pms))), (22, .inr (.inl (0, pmm))), (23, .inr (.inl (0, pmt))), (24, .inr (.inl (0, pst))), (25, .inr (.inl (0, pwa))), (26, .inr (.inl (0, prs))), (27, .inr (.inl (0, prr))), (28, .inr (.inl (0, pfa))), (81, .inl (7, [.ref lys, .int mis, .int shus, .int buss, .ref 82, .ref 83, .ref 84, .ref 85, .ref 86, .ref 87, .ref 88, .ref 89, .ref 90, .ref 91, .ref 92, .int lkss, .ref 93, .ref 94, .ref 97])), (82, .inr (.inl (0, rks))), (83, .inr (.inl (0, stas))), (84, .inr (.inl (0, phs))), (85, .inr (.inl (0, sps))), (86, .inr (.inl (0, ces))), (87, .inr (.inl (0, dus))), (88, .inr (.inl (0, hes))), (89, .inr (.inl (0, ris))), (90, .inr (.inl (0, uss))), (91, .inr (.inl (0, cms))), (92, .inr (.inl (0, lfs))), (93, .inr (.inl (0, lkds))), (97, .inl (3, [.ref 98, .ref 99, .ref 100, .ref 101, .ref 102, .ref 103, .ref 104, .ref 105, .int pevs, .int 1])), (98, .inr (.inl (0, pmss))), (99, .inr (.inl (0, pmms))), (100, .inr (.inl (0, pmts))), (101, .inr (.inl (0, psts))), (102, .inr (.inl (0, pwas))), (103, .inr (.inl (0, prss))), (104, .inr (.inl (0, prrs))), (105, .inr (.inl (0, pfas)))] h0 := K.mg K9 rfl rfl
  clear K9
  refine yb2s_k82 L (K.fi [4, 8, 9, 10, 81, 85, 86, 87] rfl rfl) (fun lv h9 L K9 => ?_)
  have K : KN h9 [(4, .inl (7, [.ref lys, .int mis, .int shus, .int buss, .ref 5, .ref 6, .ref 7, .ref 8, .ref 9, .ref 10, .ref 11, .ref 12, .ref 13, .ref 14, .ref 15, .int lkss, .ref 16, .ref 17, .ref 20])), (5, .inr (.inl (0, (aC 5 rks rk)))), (6, .inr (.inl (0, (aC 5 stas sta)))), (7, .inr (.inl (0, (aC 5 phs ph)))), (8, .inr (.inl (0, (aC 5 sps sp)))), (9, .inr (.inl (0, (aC 5 ces ce)))), (10, .inr (.inl (0, (aC 5 dus du)))), (11, .inr (.inl (0, he))), (12, .inr (.inl (0, ri))), (13, .inr (.inl (0, us))), (14, .inr (.inl (0, cm))), (15, .inr (.inl (0, lf))), (16, .inr (.inl (0, lkd))), (20, .inl (3, [.ref 21, .ref 22, .ref 23, .ref 24, .ref 25, .ref 26, .ref 27, .ref 28, .int pev, .int 1])), (21, .inr (.inl (0, pms))), (22, .inr (.inl (0, pmm))), (23, .inr (.inl (0, pmt))), (24, .inr (.inl (0, pst))), (25, .inr (.inl (0, pwa))), (26, .inr (.inl (0, prs))), (27, .inr (.inl (0, prr))), (28, .inr (.inl (0, pfa))), (81, .inl (7, [.ref lys, .int mis, .int shus, .int buss, .ref 82, .ref 83, .ref 84, .ref 85, .ref 86, .ref 87, .ref 88, .ref 89, .ref 90, .ref 91, .ref 92, .int lkss, .ref 93, .ref 94, .ref 97])), (82, .inr (.inl (0, rks))), (83, .inr (.inl (0, stas))), (84, .inr (.inl (0, phs))), (85, .inr (.inl (0, sps))), (86, .inr (.inl (0, ces))), (87, .inr (.inl (0, dus))), (88, .inr (.inl (0, hes))), (89, .inr (.inl (0, ris))), (90, .inr (.inl (0, uss))), (91, .inr (.inl (0, cms))), (92, .inr (.inl (0, lfs))), (93, .inr (.inl (0, lkds))), (97, .inl (3, [.ref 98, .ref 99, .ref 100, .ref 101, .ref 102, .ref 103, .ref 104, .ref 105, .int pevs, .int 1])), (98, .inr (.inl (0, pmss))), (99, .inr (.inl (0, pmms))), (100, .inr (.inl (0, pmts))), (101, .inr (.inl (0, psts))), (102, .inr (.inl (0, pwas))), (103, .inr (.inl (0, prss))), (104, .inr (.inl (0, prrs))), (105, .inr (.inl (0, pfas)))] h0 := K.mg K9 rfl rfl
  clear K9
  refine yb2s_k124 L (K.fi [4, 11, 12, 13, 81, 88, 89, 90] rfl rfl) (fun lv h9 L K9 => ?_)
  have K : KN h9 [(4, .inl (7, [.ref lys, .int mis, .int shus, .int buss, .ref 5, .ref 6, .ref 7, .ref 8, .ref 9, .ref 10, .ref 11, .ref 12, .ref 13, .ref 14, .ref 15, .int lkss, .ref 16, .ref 17, .ref 20])), (5, .inr (.inl (0, (aC 5 rks rk)))), (6, .inr (.inl (0, (aC 5 stas sta)))), (7, .inr (.inl (0, (aC 5 phs ph)))), (8, .inr (.inl (0, (aC 5 sps sp)))), (9, .inr (.inl (0, (aC 5 ces ce)))), (10, .inr (.inl (0, (aC 5 dus du)))), (11, .inr (.inl (0, (aC 5 hes he)))), (12, .inr (.inl (0, (aC 6 ris ri)))), (13, .inr (.inl (0, (aC 6 uss us)))), (14, .inr (.inl (0, cm))), (15, .inr (.inl (0, lf))), (16, .inr (.inl (0, lkd))), (20, .inl (3, [.ref 21, .ref 22, .ref 23, .ref 24, .ref 25, .ref 26, .ref 27, .ref 28, .int pev, .int 1])), (21, .inr (.inl (0, pms))), (22, .inr (.inl (0, pmm))), (23, .inr (.inl (0, pmt))), (24, .inr (.inl (0, pst))), (25, .inr (.inl (0, pwa))), (26, .inr (.inl (0, prs))), (27, .inr (.inl (0, prr))), (28, .inr (.inl (0, pfa))), (81, .inl (7, [.ref lys, .int mis, .int shus, .int buss, .ref 82, .ref 83, .ref 84, .ref 85, .ref 86, .ref 87, .ref 88, .ref 89, .ref 90, .ref 91, .ref 92, .int lkss, .ref 93, .ref 94, .ref 97])), (82, .inr (.inl (0, rks))), (83, .inr (.inl (0, stas))), (84, .inr (.inl (0, phs))), (85, .inr (.inl (0, sps))), (86, .inr (.inl (0, ces))), (87, .inr (.inl (0, dus))), (88, .inr (.inl (0, hes))), (89, .inr (.inl (0, ris))), (90, .inr (.inl (0, uss))), (91, .inr (.inl (0, cms))), (92, .inr (.inl (0, lfs))), (93, .inr (.inl (0, lkds))), (97, .inl (3, [.ref 98, .ref 99, .ref 100, .ref 101, .ref 102, .ref 103, .ref 104, .ref 105, .int pevs, .int 1])), (98, .inr (.inl (0, pmss))), (99, .inr (.inl (0, pmms))), (100, .inr (.inl (0, pmts))), (101, .inr (.inl (0, psts))), (102, .inr (.inl (0, pwas))), (103, .inr (.inl (0, prss))), (104, .inr (.inl (0, prrs))), (105, .inr (.inl (0, pfas)))] h0 := K.mg K9 rfl rfl
  clear K9
  refine yb2s_k168 L (K.fi [4, 14, 15, 16, 81, 91, 92, 93] rfl rfl) (fun lv h9 L K9 => ?_)
  have K : KN h9 [(4, .inl (7, [.ref lys, .int mis, .int shus, .int buss, .ref 5, .ref 6, .ref 7, .ref 8, .ref 9, .ref 10, .ref 11, .ref 12, .ref 13, .ref 14, .ref 15, .int lkss, .ref 16, .ref 17, .ref 20])), (5, .inr (.inl (0, (aC 5 rks rk)))), (6, .inr (.inl (0, (aC 5 stas sta)))), (7, .inr (.inl (0, (aC 5 phs ph)))), (8, .inr (.inl (0, (aC 5 sps sp)))), (9, .inr (.inl (0, (aC 5 ces ce)))), (10, .inr (.inl (0, (aC 5 dus du)))), (11, .inr (.inl (0, (aC 5 hes he)))), (12, .inr (.inl (0, (aC 6 ris ri)))), (13, .inr (.inl (0, (aC 6 uss us)))), (14, .inr (.inl (0, (aC (nI cm.length) cms cm)))), (15, .inr (.inl (0, (aC (nI lf.length) lfs lf)))), (16, .inr (.inl (0, (aC (nI lkd.length) lkds lkd)))), (20, .inl (3, [.ref 21, .ref 22, .ref 23, .ref 24, .ref 25, .ref 26, .ref 27, .ref 28, .int pev, .int 1])), (21, .inr (.inl (0, pms))), (22, .inr (.inl (0, pmm))), (23, .inr (.inl (0, pmt))), (24, .inr (.inl (0, pst))), (25, .inr (.inl (0, pwa))), (26, .inr (.inl (0, prs))), (27, .inr (.inl (0, prr))), (28, .inr (.inl (0, pfa))), (81, .inl (7, [.ref lys, .int mis, .int shus, .int buss, .ref 82, .ref 83, .ref 84, .ref 85, .ref 86, .ref 87, .ref 88, .ref 89, .ref 90, .ref 91, .ref 92, .int lkss, .ref 93, .ref 94, .ref 97])), (82, .inr (.inl (0, rks))), (83, .inr (.inl (0, stas))), (84, .inr (.inl (0, phs))), (85, .inr (.inl (0, sps))), (86, .inr (.inl (0, ces))), (87, .inr (.inl (0, dus))), (88, .inr (.inl (0, hes))), (89, .inr (.inl (0, ris))), (90, .inr (.inl (0, uss))), (91, .inr (.inl (0, cms))), (92, .inr (.inl (0, lfs))), (93, .inr (.inl (0, lkds))), (97, .inl (3, [.ref 98, .ref 99, .ref 100, .ref 101, .ref 102, .ref 103, .ref 104, .ref 105, .int pevs, .int 1])), (98, .inr (.inl (0, pmss))), (99, .inr (.inl (0, pmms))), (100, .inr (.inl (0, pmts))), (101, .inr (.inl (0, psts))), (102, .inr (.inl (0, pwas))), (103, .inr (.inl (0, prss))), (104, .inr (.inl (0, prrs))), (105, .inr (.inl (0, pfas)))] h0 := K.mg K9 rfl rfl
  clear K9
  refine j_V.ldL yb2s_M yb2s_222 rfl (i := 0) (kd := 2) (v := .ref 4) (pcJ := 223) rfl L rfl rfl rfl ?_
  refine j_V.getK yb2s_M yb2s_223 (ci := 7) (j := 18) rfl K rfl rfl ?_
  refine j_V.ldL yb2s_M yb2s_226 rfl (i := 1) (kd := 2) (v := .ref 81) (pcJ := 227) rfl L rfl rfl rfl ?_
  refine j_V.getK yb2s_M yb2s_227 (ci := 7) (j := 18) rfl K rfl rfl ?_
  refine j_V.cl yb2s_M yb2s_230 rfl (md := 3) (mj := 28) rfl (by decide) yb2p_M (As := [.ref 20, .ref 97]) (rest := []) (jk_spl3 (K.at rfl) rfl rfl rfl (Nat.le_of_ble_eq_true rfl) (Nat.le_of_ble_eq_true rfl)) (fun d => yb2p_ok (K.fi [20, 21, 22, 23, 24, 25, 26, 27, 28, 97, 98, 99, 100, 101, 102, 103, 104, 105] rfl rfl)) ?_
  rintro r h9 ⟨rfl, K9⟩
  have K : KN h9 [(4, .inl (7, [.ref lys, .int mis, .int shus, .int buss, .ref 5, .ref 6, .ref 7, .ref 8, .ref 9, .ref 10, .ref 11, .ref 12, .ref 13, .ref 14, .ref 15, .int lkss, .ref 16, .ref 17, .ref 20])), (5, .inr (.inl (0, (aC 5 rks rk)))), (6, .inr (.inl (0, (aC 5 stas sta)))), (7, .inr (.inl (0, (aC 5 phs ph)))), (8, .inr (.inl (0, (aC 5 sps sp)))), (9, .inr (.inl (0, (aC 5 ces ce)))), (10, .inr (.inl (0, (aC 5 dus du)))), (11, .inr (.inl (0, (aC 5 hes he)))), (12, .inr (.inl (0, (aC 6 ris ri)))), (13, .inr (.inl (0, (aC 6 uss us)))), (14, .inr (.inl (0, (aC (nI cm.length) cms cm)))), (15, .inr (.inl (0, (aC (nI lf.length) lfs lf)))), (16, .inr (.inl (0, (aC (nI lkd.length) lkds lkd)))), (20, .inl (3, [.ref 21, .ref 22, .ref 23, .ref 24, .ref 25, .ref 26, .ref 27, .ref 28, .int pevs, .int 1])), (21, .inr (.inl (0, (aC (nI pms.length) pmss pms)))), (22, .inr (.inl (0, (aC (nI pmm.length) pmms pmm)))), (23, .inr (.inl (0, (aC (nI pmt.length) pmts pmt)))), (24, .inr (.inl (0, (aC (nI pst.length) psts pst)))), (25, .inr (.inl (0, (aC (nI pwa.length) pwas pwa)))), (26, .inr (.inl (0, (aC (nI prs.length) prss prs)))), (27, .inr (.inl (0, (aC (nI prr.length) prrs prr)))), (28, .inr (.inl (0, (aC (nI pfa.length) pfas pfa)))), (81, .inl (7, [.ref lys, .int mis, .int shus, .int buss, .ref 82, .ref 83, .ref 84, .ref 85, .ref 86, .ref 87, .ref 88, .ref 89, .ref 90, .ref 91, .ref 92, .int lkss, .ref 93, .ref 94, .ref 97])), (82, .inr (.inl (0, rks))), (83, .inr (.inl (0, stas))), (84, .inr (.inl (0, phs))), (85, .inr (.inl (0, sps))), (86, .inr (.inl (0, ces))), (87, .inr (.inl (0, dus))), (88, .inr (.inl (0, hes))), (89, .inr (.inl (0, ris))), (90, .inr (.inl (0, uss))), (91, .inr (.inl (0, cms))), (92, .inr (.inl (0, lfs))), (93, .inr (.inl (0, lkds))), (97, .inl (3, [.ref 98, .ref 99, .ref 100, .ref 101, .ref 102, .ref 103, .ref 104, .ref 105, .int pevs, .int 1])), (98, .inr (.inl (0, pmss))), (99, .inr (.inl (0, pmms))), (100, .inr (.inl (0, pmts))), (101, .inr (.inl (0, psts))), (102, .inr (.inl (0, pwas))), (103, .inr (.inl (0, prss))), (104, .inr (.inl (0, prrs))), (105, .inr (.inl (0, pfas)))] h0 := K.mg K9 rfl rfl
  clear K9
  show j_V jP _ 61 233 lv [] h9 _
  exact j_V.ret yb2s_M yb2s_233 rfl rfl ⟨rfl, K⟩
set_option maxRecDepth 100000 in
theorem yb2m_M : j_meth jP 3 = some (yX0_takeBack, cX0_takeBack, 2, none, 1, false, 0) := rfl
set_option maxRecDepth 100000 in
theorem yb2m_0 : j_code jP 3 0 = some (.aload_n 0) := rfl
set_option maxRecDepth 100000 in
theorem yb2m_1 : j_code jP 3 1 = some (.aload_n 0) := rfl
set_option maxRecDepth 100000 in
theorem yb2m_2 : j_code jP 3 2 = some (.getfield 24) := rfl
set_option maxRecDepth 100000 in
theorem yb2m_5 : j_code jP 3 5 = some (.bipush 10) := rfl
set_option maxRecDepth 100000 in
theorem yb2m_7 : j_code jP 3 7 = some (.iadd) := rfl
set_option maxRecDepth 100000 in
theorem yb2m_8 : j_code jP 3 8 = some (.iconst 1) := rfl
set_option maxRecDepth 100000 in
theorem yb2m_9 : j_code jP 3 9 = some (.isub) := rfl
set_option maxRecDepth 100000 in
theorem yb2m_10 : j_code jP 3 10 = some (.bipush 10) := rfl
set_option maxRecDepth 100000 in
theorem yb2m_12 : j_code jP 3 12 = some (.irem) := rfl
set_option maxRecDepth 100000 in
theorem yb2m_13 : j_code jP 3 13 = some (.putfield 24) := rfl
set_option maxRecDepth 100000 in
theorem yb2m_16 : j_code jP 3 16 = some (.aload_n 0) := rfl
set_option maxRecDepth 100000 in
theorem yb2m_17 : j_code jP 3 17 = some (.dup) := rfl
set_option maxRecDepth 100000 in
theorem yb2m_18 : j_code jP 3 18 = some (.getfield 20) := rfl
set_option maxRecDepth 100000 in
theorem yb2m_21 : j_code jP 3 21 = some (.iconst 1) := rfl
set_option maxRecDepth 100000 in
theorem yb2m_22 : j_code jP 3 22 = some (.isub) := rfl
set_option maxRecDepth 100000 in
theorem yb2m_23 : j_code jP 3 23 = some (.putfield 20) := rfl
set_option maxRecDepth 100000 in
theorem yb2m_26 : j_code jP 3 26 = some (.aload_n 1) := rfl
set_option maxRecDepth 100000 in
theorem yb2m_27 : j_code jP 3 27 = some (.aload_n 0) := rfl
set_option maxRecDepth 100000 in
theorem yb2m_28 : j_code jP 3 28 = some (.getfield 11) := rfl
set_option maxRecDepth 100000 in
theorem yb2m_31 : j_code jP 3 31 = some (.aload_n 0) := rfl
set_option maxRecDepth 100000 in
theorem yb2m_32 : j_code jP 3 32 = some (.getfield 24) := rfl
set_option maxRecDepth 100000 in
theorem yb2m_35 : j_code jP 3 35 = some (.aaload) := rfl
set_option maxRecDepth 100000 in
theorem yb2m_36 : j_code jP 3 36 = some (.invokevirtual 27) := rfl
set_option maxRecDepth 100000 in
theorem yb2m_39 : j_code jP 3 39 = some (.return_) := rfl
set_option maxRecDepth 1000000 in
theorem yb2m_ok {ly : Value} {mi : Int32} {shu : Int32} {bus : Int32} {lks : Int32} {rk : List Int32} {sta : List Int32} {ph : List Int32} {sp : List Int32} {ce : List Int32} {du : List Int32} {he : List Int32} {ri : List Int32} {us : List Int32} {cm : List Int32} {lf : List Int32} {lkd : List Int32} {pev : Int32} {pms : List Int32} {pmm : List Int32} {pmt : List Int32} {pst : List Int32} {pwa : List Int32} {prs : List Int32} {prr : List Int32} {pfa : List Int32} {lys : Nat} {mis : Int32} {shus : Int32} {buss : Int32} {lkss : Int32} {rks : List Int32} {stas : List Int32} {phs : List Int32} {sps : List Int32} {ces : List Int32} {dus : List Int32} {hes : List Int32} {ris : List Int32} {uss : List Int32} {cms : List Int32} {lfs : List Int32} {lkds : List Int32} {pevs : Int32} {pmss : List Int32} {pmms : List Int32} {pmts : List Int32} {psts : List Int32} {pwas : List Int32} {prss : List Int32} {prrs : List Int32} {pfas : List Int32} {acco : Int32} {d : Nat} {h h0 : J_H} (K : KN h [(4, .inl (7, [ly, .int mi, .int shu, .int bus, .ref 5, .ref 6, .ref 7, .ref 8, .ref 9, .ref 10, .ref 11, .ref 12, .ref 13, .ref 14, .ref 15, .int lks, .ref 16, .ref 17, .ref 20])), (5, .inr (.inl (0, rk))), (6, .inr (.inl (0, sta))), (7, .inr (.inl (0, ph))), (8, .inr (.inl (0, sp))), (9, .inr (.inl (0, ce))), (10, .inr (.inl (0, du))), (11, .inr (.inl (0, he))), (12, .inr (.inl (0, ri))), (13, .inr (.inl (0, us))), (14, .inr (.inl (0, cm))), (15, .inr (.inl (0, lf))), (16, .inr (.inl (0, lkd))), (20, .inl (3, [.ref 21, .ref 22, .ref 23, .ref 24, .ref 25, .ref 26, .ref 27, .ref 28, .int pev, .int 1])), (21, .inr (.inl (0, pms))), (22, .inr (.inl (0, pmm))), (23, .inr (.inl (0, pmt))), (24, .inr (.inl (0, pst))), (25, .inr (.inl (0, pwa))), (26, .inr (.inl (0, prs))), (27, .inr (.inl (0, prr))), (28, .inr (.inl (0, pfa))), (29, .inl (0, [.ref 30, .int 3, .int acco])), (30, .inr (.inr (.inr [some 31, some 56, some 81, some 106, some 131, some 156, some 181, some 206, some 231, some 256]))), (81, .inl (7, [.ref lys, .int mis, .int shus, .int buss, .ref 82, .ref 83, .ref 84, .ref 85, .ref 86, .ref 87, .ref 88, .ref 89, .ref 90, .ref 91, .ref 92, .int lkss, .ref 93, .ref 94, .ref 97])), (82, .inr (.inl (0, rks))), (83, .inr (.inl (0, stas))), (84, .inr (.inl (0, phs))), (85, .inr (.inl (0, sps))), (86, .inr (.inl (0, ces))), (87, .inr (.inl (0, dus))), (88, .inr (.inl (0, hes))), (89, .inr (.inl (0, ris))), (90, .inr (.inl (0, uss))), (91, .inr (.inl (0, cms))), (92, .inr (.inl (0, lfs))), (93, .inr (.inl (0, lkds))), (97, .inl (3, [.ref 98, .ref 99, .ref 100, .ref 101, .ref 102, .ref 103, .ref 104, .ref 105, .int pevs, .int 1])), (98, .inr (.inl (0, pmss))), (99, .inr (.inl (0, pmms))), (100, .inr (.inl (0, pmts))), (101, .inr (.inl (0, psts))), (102, .inr (.inl (0, pwas))), (103, .inr (.inl (0, prss))), (104, .inr (.inl (0, prrs))), (105, .inr (.inl (0, pfas)))] h0) : j_V jP d 3 0 (lv_args 0 [.ref 29, .ref 4]) [] h (fun rv h' => rv = none ∧ KN h' [(4, .inl (7, [.ref lys, .int mis, .int shus, .int buss, .ref 5, .ref 6, .ref 7, .ref 8, .ref 9, .ref 10, .ref 11, .ref 12, .ref 13, .ref 14, .ref 15, .int lkss, .ref 16, .ref 17, .ref 20])), (5, .inr (.inl (0, (aC 5 rks rk)))), (6, .inr (.inl (0, (aC 5 stas sta)))), (7, .inr (.inl (0, (aC 5 phs ph)))), (8, .inr (.inl (0, (aC 5 sps sp)))), (9, .inr (.inl (0, (aC 5 ces ce)))), (10, .inr (.inl (0, (aC 5 dus du)))), (11, .inr (.inl (0, (aC 5 hes he)))), (12, .inr (.inl (0, (aC 6 ris ri)))), (13, .inr (.inl (0, (aC 6 uss us)))), (14, .inr (.inl (0, (aC (nI cm.length) cms cm)))), (15, .inr (.inl (0, (aC (nI lf.length) lfs lf)))), (16, .inr (.inl (0, (aC (nI lkd.length) lkds lkd)))), (20, .inl (3, [.ref 21, .ref 22, .ref 23, .ref 24, .ref 25, .ref 26, .ref 27, .ref 28, .int pevs, .int 1])), (21, .inr (.inl (0, (aC (nI pms.length) pmss pms)))), (22, .inr (.inl (0, (aC (nI pmm.length) pmms pmm)))), (23, .inr (.inl (0, (aC (nI pmt.length) pmts pmt)))), (24, .inr (.inl (0, (aC (nI pst.length) psts pst)))), (25, .inr (.inl (0, (aC (nI pwa.length) pwas pwa)))), (26, .inr (.inl (0, (aC (nI prs.length) prss prs)))), (27, .inr (.inl (0, (aC (nI prr.length) prrs prr)))), (28, .inr (.inl (0, (aC (nI pfa.length) pfas pfa)))), (29, .inl (0, [.ref 30, .int 2, .int (acco - 1)])), (30, .inr (.inr (.inr [some 31, some 56, some 81, some 106, some 131, some 156, some 181, some 206, some 231, some 256]))), (81, .inl (7, [.ref lys, .int mis, .int shus, .int buss, .ref 82, .ref 83, .ref 84, .ref 85, .ref 86, .ref 87, .ref 88, .ref 89, .ref 90, .ref 91, .ref 92, .int lkss, .ref 93, .ref 94, .ref 97])), (82, .inr (.inl (0, rks))), (83, .inr (.inl (0, stas))), (84, .inr (.inl (0, phs))), (85, .inr (.inl (0, sps))), (86, .inr (.inl (0, ces))), (87, .inr (.inl (0, dus))), (88, .inr (.inl (0, hes))), (89, .inr (.inl (0, ris))), (90, .inr (.inl (0, uss))), (91, .inr (.inl (0, cms))), (92, .inr (.inl (0, lfs))), (93, .inr (.inl (0, lkds))), (97, .inl (3, [.ref 98, .ref 99, .ref 100, .ref 101, .ref 102, .ref 103, .ref 104, .ref 105, .int pevs, .int 1])), (98, .inr (.inl (0, pmss))), (99, .inr (.inl (0, pmms))), (100, .inr (.inl (0, pmts))), (101, .inr (.inl (0, psts))), (102, .inr (.inl (0, pwas))), (103, .inr (.inl (0, prss))), (104, .inr (.inl (0, prrs))), (105, .inr (.inl (0, pfas)))] h0) := by
  show j_V jP d 3 0 [(0, .ref 29), (1, .ref 4)] [] h _
  obtain ⟨lv, elv, L⟩ : ∃ lv, lv = [(0, .ref 29), (1, .ref 4)] ∧ LK lv [(0, .ref 29), (1, .ref 4)] := ⟨_, rfl, LK.rf⟩
  rw [← elv]
  clear elv
  refine j_V.ldL yb2m_M yb2m_0 rfl (i := 0) (kd := 2) (v := .ref 29) (pcJ := 1) rfl L rfl rfl rfl ?_
  refine j_V.ldL yb2m_M yb2m_1 rfl (i := 0) (kd := 2) (v := .ref 29) (pcJ := 2) rfl L rfl rfl rfl ?_
  refine j_V.getK yb2m_M yb2m_2 (ci := 0) (j := 1) rfl K rfl rfl ?_
  refine j_V.one yb2m_M yb2m_5 (by decide) (pcJ := 7) (stJ := [.int 10, .int 3, .ref 29]) rfl ?_
  refine j_V.one yb2m_M yb2m_7 (by decide) (pcJ := 8) (stJ := [.int 13, .ref 29]) rfl ?_
  refine j_V.one yb2m_M yb2m_8 (by decide) (pcJ := 9) (stJ := [.int 1, .int 13, .ref 29]) rfl ?_
  refine j_V.one yb2m_M yb2m_9 (by decide) (pcJ := 10) (stJ := [.int 12, .ref 29]) rfl ?_
  refine j_V.one yb2m_M yb2m_10 (by decide) (pcJ := 12) (stJ := [.int 10, .int 12, .ref 29]) rfl ?_
  refine j_V.one yb2m_M yb2m_12 (by decide) (pcJ := 13) (stJ := [.int 2, .ref 29]) rfl ?_
  refine j_V.putK yb2m_M yb2m_13 (ci := 0) (j := 1) (k' := [(4, .inl (7, [ly, .int mi, .int shu, .int bus, .ref 5, .ref 6, .ref 7, .ref 8, .ref 9, .ref 10, .ref 11, .ref 12, .ref 13, .ref 14, .ref 15, .int lks, .ref 16, .ref 17, .ref 20])), (5, .inr (.inl (0, rk))), (6, .inr (.inl (0, sta))), (7, .inr (.inl (0, ph))), (8, .inr (.inl (0, sp))), (9, .inr (.inl (0, ce))), (10, .inr (.inl (0, du))), (11, .inr (.inl (0, he))), (12, .inr (.inl (0, ri))), (13, .inr (.inl (0, us))), (14, .inr (.inl (0, cm))), (15, .inr (.inl (0, lf))), (16, .inr (.inl (0, lkd))), (20, .inl (3, [.ref 21, .ref 22, .ref 23, .ref 24, .ref 25, .ref 26, .ref 27, .ref 28, .int pev, .int 1])), (21, .inr (.inl (0, pms))), (22, .inr (.inl (0, pmm))), (23, .inr (.inl (0, pmt))), (24, .inr (.inl (0, pst))), (25, .inr (.inl (0, pwa))), (26, .inr (.inl (0, prs))), (27, .inr (.inl (0, prr))), (28, .inr (.inl (0, pfa))), (29, .inl (0, [.ref 30, .int 2, .int acco])), (30, .inr (.inr (.inr [some 31, some 56, some 81, some 106, some 131, some 156, some 181, some 206, some 231, some 256]))), (81, .inl (7, [.ref lys, .int mis, .int shus, .int buss, .ref 82, .ref 83, .ref 84, .ref 85, .ref 86, .ref 87, .ref 88, .ref 89, .ref 90, .ref 91, .ref 92, .int lkss, .ref 93, .ref 94, .ref 97])), (82, .inr (.inl (0, rks))), (83, .inr (.inl (0, stas))), (84, .inr (.inl (0, phs))), (85, .inr (.inl (0, sps))), (86, .inr (.inl (0, ces))), (87, .inr (.inl (0, dus))), (88, .inr (.inl (0, hes))), (89, .inr (.inl (0, ris))), (90, .inr (.inl (0, uss))), (91, .inr (.inl (0, cms))), (92, .inr (.inl (0, lfs))), (93, .inr (.inl (0, lkds))), (97, .inl (3, [.ref 98, .ref 99, .ref 100, .ref 101, .ref 102, .ref 103, .ref 104, .ref 105, .int pevs, .int 1])), (98, .inr (.inl (0, pmss))), (99, .inr (.inl (0, pmms))), (100, .inr (.inl (0, pmts))), (101, .inr (.inl (0, psts))), (102, .inr (.inl (0, pwas))), (103, .inr (.inl (0, prss))), (104, .inr (.inl (0, prrs))), (105, .inr (.inl (0, pfas)))]) rfl K rfl (Nat.le_of_ble_eq_true rfl) rfl (Or.inl rfl) rfl rfl (fun h K => ?_)
  refine j_V.ldL yb2m_M yb2m_16 rfl (i := 0) (kd := 2) (v := .ref 29) (pcJ := 17) rfl L rfl rfl rfl ?_
  refine j_V.one yb2m_M yb2m_17 (by decide) (pcJ := 18) (stJ := [.ref 29, .ref 29]) rfl ?_
  refine j_V.getK yb2m_M yb2m_18 (ci := 0) (j := 2) rfl K rfl rfl ?_
  refine j_V.one yb2m_M yb2m_21 (by decide) (pcJ := 22) (stJ := [.int 1, .int acco, .ref 29]) rfl ?_
  refine j_V.one yb2m_M yb2m_22 (by decide) (pcJ := 23) (stJ := [.int (acco - 1), .ref 29]) rfl ?_
  refine j_V.putK yb2m_M yb2m_23 (ci := 0) (j := 2) (k' := [(4, .inl (7, [ly, .int mi, .int shu, .int bus, .ref 5, .ref 6, .ref 7, .ref 8, .ref 9, .ref 10, .ref 11, .ref 12, .ref 13, .ref 14, .ref 15, .int lks, .ref 16, .ref 17, .ref 20])), (5, .inr (.inl (0, rk))), (6, .inr (.inl (0, sta))), (7, .inr (.inl (0, ph))), (8, .inr (.inl (0, sp))), (9, .inr (.inl (0, ce))), (10, .inr (.inl (0, du))), (11, .inr (.inl (0, he))), (12, .inr (.inl (0, ri))), (13, .inr (.inl (0, us))), (14, .inr (.inl (0, cm))), (15, .inr (.inl (0, lf))), (16, .inr (.inl (0, lkd))), (20, .inl (3, [.ref 21, .ref 22, .ref 23, .ref 24, .ref 25, .ref 26, .ref 27, .ref 28, .int pev, .int 1])), (21, .inr (.inl (0, pms))), (22, .inr (.inl (0, pmm))), (23, .inr (.inl (0, pmt))), (24, .inr (.inl (0, pst))), (25, .inr (.inl (0, pwa))), (26, .inr (.inl (0, prs))), (27, .inr (.inl (0, prr))), (28, .inr (.inl (0, pfa))), (29, .inl (0, [.ref 30, .int 2, .int (acco - 1)])), (30, .inr (.inr (.inr [some 31, some 56, some 81, some 106, some 131, some 156, some 181, some 206, some 231, some 256]))), (81, .inl (7, [.ref lys, .int mis, .int shus, .int buss, .ref 82, .ref 83, .ref 84, .ref 85, .ref 86, .ref 87, .ref 88, .ref 89, .ref 90, .ref 91, .ref 92, .int lkss, .ref 93, .ref 94, .ref 97])), (82, .inr (.inl (0, rks))), (83, .inr (.inl (0, stas))), (84, .inr (.inl (0, phs))), (85, .inr (.inl (0, sps))), (86, .inr (.inl (0, ces))), (87, .inr (.inl (0, dus))), (88, .inr (.inl (0, hes))), (89, .inr (.inl (0, ris))), (90, .inr (.inl (0, uss))), (91, .inr (.inl (0, cms))), (92, .inr (.inl (0, lfs))), (93, .inr (.inl (0, lkds))), (97, .inl (3, [.ref 98, .ref 99, .ref 100, .ref 101, .ref 102, .ref 103, .ref 104, .ref 105, .int pevs, .int 1])), (98, .inr (.inl (0, pmss))), (99, .inr (.inl (0, pmms))), (100, .inr (.inl (0, pmts))), (101, .inr (.inl (0, psts))), (102, .inr (.inl (0, pwas))), (103, .inr (.inl (0, prss))), (104, .inr (.inl (0, prrs))), (105, .inr (.inl (0, pfas)))]) rfl K rfl (Nat.le_of_ble_eq_true rfl) rfl (Or.inl rfl) rfl rfl (fun h K => ?_)
  refine j_V.ldL yb2m_M yb2m_26 rfl (i := 1) (kd := 2) (v := .ref 4) (pcJ := 27) rfl L rfl rfl rfl ?_
  refine j_V.ldL yb2m_M yb2m_27 rfl (i := 0) (kd := 2) (v := .ref 29) (pcJ := 28) rfl L rfl rfl rfl ?_
  refine j_V.getK yb2m_M yb2m_28 (ci := 0) (j := 0) rfl K rfl rfl ?_
  refine j_V.ldL yb2m_M yb2m_31 rfl (i := 0) (kd := 2) (v := .ref 29) (pcJ := 32) rfl L rfl rfl rfl ?_
  refine j_V.getK yb2m_M yb2m_32 (ci := 0) (j := 1) rfl K rfl rfl ?_
  refine j_V.aaA yb2m_M yb2m_35 K rfl (i := 2) (v := 81) rfl rfl ?_
  refine j_V.cl yb2m_M yb2m_36 rfl (md := 3) (mj := 61) rfl (by decide) yb2s_M (As := [.ref 4, .ref 81]) (rest := []) (jk_spl3 (K.at rfl) rfl rfl rfl (Nat.le_of_ble_eq_true rfl) (Nat.le_of_ble_eq_true rfl)) (fun d => yb2s_ok (K.fi [4, 5, 6, 7, 8, 9, 10, 11, 12, 13, 14, 15, 16, 20, 21, 22, 23, 24, 25, 26, 27, 28, 81, 82, 83, 84, 85, 86, 87, 88, 89, 90, 91, 92, 93, 97, 98, 99, 100, 101, 102, 103, 104, 105] rfl rfl)) ?_
  rintro r h9 ⟨rfl, K9⟩
  have K : KN h9 [(4, .inl (7, [.ref lys, .int mis, .int shus, .int buss, .ref 5, .ref 6, .ref 7, .ref 8, .ref 9, .ref 10, .ref 11, .ref 12, .ref 13, .ref 14, .ref 15, .int lkss, .ref 16, .ref 17, .ref 20])), (5, .inr (.inl (0, (aC 5 rks rk)))), (6, .inr (.inl (0, (aC 5 stas sta)))), (7, .inr (.inl (0, (aC 5 phs ph)))), (8, .inr (.inl (0, (aC 5 sps sp)))), (9, .inr (.inl (0, (aC 5 ces ce)))), (10, .inr (.inl (0, (aC 5 dus du)))), (11, .inr (.inl (0, (aC 5 hes he)))), (12, .inr (.inl (0, (aC 6 ris ri)))), (13, .inr (.inl (0, (aC 6 uss us)))), (14, .inr (.inl (0, (aC (nI cm.length) cms cm)))), (15, .inr (.inl (0, (aC (nI lf.length) lfs lf)))), (16, .inr (.inl (0, (aC (nI lkd.length) lkds lkd)))), (20, .inl (3, [.ref 21, .ref 22, .ref 23, .ref 24, .ref 25, .ref 26, .ref 27, .ref 28, .int pevs, .int 1])), (21, .inr (.inl (0, (aC (nI pms.length) pmss pms)))), (22, .inr (.inl (0, (aC (nI pmm.length) pmms pmm)))), (23, .inr (.inl (0, (aC (nI pmt.length) pmts pmt)))), (24, .inr (.inl (0, (aC (nI pst.length) psts pst)))), (25, .inr (.inl (0, (aC (nI pwa.length) pwas pwa)))), (26, .inr (.inl (0, (aC (nI prs.length) prss prs)))), (27, .inr (.inl (0, (aC (nI prr.length) prrs prr)))), (28, .inr (.inl (0, (aC (nI pfa.length) pfas pfa)))), (29, .inl (0, [.ref 30, .int 2, .int (acco - 1)])), (30, .inr (.inr (.inr [some 31, some 56, some 81, some 106, some 131, some 156, some 181, some 206, some 231, some 256]))), (81, .inl (7, [.ref lys, .int mis, .int shus, .int buss, .ref 82, .ref 83, .ref 84, .ref 85, .ref 86, .ref 87, .ref 88, .ref 89, .ref 90, .ref 91, .ref 92, .int lkss, .ref 93, .ref 94, .ref 97])), (82, .inr (.inl (0, rks))), (83, .inr (.inl (0, stas))), (84, .inr (.inl (0, phs))), (85, .inr (.inl (0, sps))), (86, .inr (.inl (0, ces))), (87, .inr (.inl (0, dus))), (88, .inr (.inl (0, hes))), (89, .inr (.inl (0, ris))), (90, .inr (.inl (0, uss))), (91, .inr (.inl (0, cms))), (92, .inr (.inl (0, lfs))), (93, .inr (.inl (0, lkds))), (97, .inl (3, [.ref 98, .ref 99, .ref 100, .ref 101, .ref 102, .ref 103, .ref 104, .ref 105, .int pevs, .int 1])), (98, .inr (.inl (0, pmss))), (99, .inr (.inl (0, pmms))), (100, .inr (.inl (0, pmts))), (101, .inr (.inl (0, psts))), (102, .inr (.inl (0, pwas))), (103, .inr (.inl (0, prss))), (104, .inr (.inl (0, prrs))), (105, .inr (.inl (0, pfas)))] h0 := K.mg K9 rfl rfl
  clear K9
  show j_V jP _ 3 39 lv [] h9 _
  exact j_V.ret yb2m_M yb2m_39 rfl rfl ⟨rfl, K⟩
set_option maxRecDepth 100000 in
theorem yb3p_M : j_meth jP 28 = some (yX3_copyFrom, cX3_copyFrom, 2, none, 1, false, 3) := rfl
set_option maxRecDepth 100000 in
theorem yb3p_0 : j_code jP 28 0 = some (.aload_n 0) := rfl
set_option maxRecDepth 100000 in
theorem yb3p_1 : j_code jP 28 1 = some (.getfield 36) := rfl
set_option maxRecDepth 100000 in
theorem yb3p_4 : j_code jP 28 4 = some (.ifCond .ne 4) := rfl
set_option maxRecDepth 100000 in
theorem yb3p_7 : j_code jP 28 7 = some (.return_) := rfl
set_option maxRecDepth 100000 in
theorem yb3p_8 : j_code jP 28 8 = some (.aload_n 1) := rfl
set_option maxRecDepth 100000 in
theorem yb3p_9 : j_code jP 28 9 = some (.getfield 9) := rfl
set_option maxRecDepth 100000 in
theorem yb3p_12 : j_code jP 28 12 = some (.iconst 0) := rfl
set_option maxRecDepth 100000 in
theorem yb3p_13 : j_code jP 28 13 = some (.aload_n 0) := rfl
set_option maxRecDepth 100000 in
theorem yb3p_14 : j_code jP 28 14 = some (.getfield 9) := rfl
set_option maxRecDepth 100000 in
theorem yb3p_17 : j_code jP 28 17 = some (.iconst 0) := rfl
set_option maxRecDepth 100000 in
theorem yb3p_18 : j_code jP 28 18 = some (.aload_n 0) := rfl
set_option maxRecDepth 100000 in
theorem yb3p_19 : j_code jP 28 19 = some (.getfield 9) := rfl
set_option maxRecDepth 100000 in
theorem yb3p_22 : j_code jP 28 22 = some (.arraylength) := rfl
set_option maxRecDepth 100000 in
theorem yb3p_23 : j_code jP 28 23 = some (.invokestatic 50) := rfl
set_option maxRecDepth 100000 in
theorem yb3p_26 : j_code jP 28 26 = some (.aload_n 1) := rfl
set_option maxRecDepth 100000 in
theorem yb3p_27 : j_code jP 28 27 = some (.getfield 15) := rfl
set_option maxRecDepth 100000 in
theorem yb3p_30 : j_code jP 28 30 = some (.iconst 0) := rfl
set_option maxRecDepth 100000 in
theorem yb3p_31 : j_code jP 28 31 = some (.aload_n 0) := rfl
set_option maxRecDepth 100000 in
theorem yb3p_32 : j_code jP 28 32 = some (.getfield 15) := rfl
set_option maxRecDepth 100000 in
theorem yb3p_35 : j_code jP 28 35 = some (.iconst 0) := rfl
set_option maxRecDepth 100000 in
theorem yb3p_36 : j_code jP 28 36 = some (.aload_n 0) := rfl
set_option maxRecDepth 100000 in
theorem yb3p_37 : j_code jP 28 37 = some (.getfield 15) := rfl
set_option maxRecDepth 100000 in
theorem yb3p_40 : j_code jP 28 40 = some (.arraylength) := rfl
set_option maxRecDepth 100000 in
theorem yb3p_41 : j_code jP 28 41 = some (.invokestatic 50) := rfl
set_option maxRecDepth 100000 in
theorem yb3p_44 : j_code jP 28 44 = some (.aload_n 1) := rfl
set_option maxRecDepth 100000 in
theorem yb3p_45 : j_code jP 28 45 = some (.getfield 18) := rfl
set_option maxRecDepth 100000 in
theorem yb3p_48 : j_code jP 28 48 = some (.iconst 0) := rfl
set_option maxRecDepth 100000 in
theorem yb3p_49 : j_code jP 28 49 = some (.aload_n 0) := rfl
set_option maxRecDepth 100000 in
theorem yb3p_50 : j_code jP 28 50 = some (.getfield 18) := rfl
set_option maxRecDepth 100000 in
theorem yb3p_53 : j_code jP 28 53 = some (.iconst 0) := rfl
set_option maxRecDepth 100000 in
theorem yb3p_54 : j_code jP 28 54 = some (.aload_n 0) := rfl
set_option maxRecDepth 100000 in
theorem yb3p_55 : j_code jP 28 55 = some (.getfield 18) := rfl
set_option maxRecDepth 100000 in
theorem yb3p_58 : j_code jP 28 58 = some (.arraylength) := rfl
set_option maxRecDepth 100000 in
theorem yb3p_59 : j_code jP 28 59 = some (.invokestatic 50) := rfl
set_option maxRecDepth 100000 in
theorem yb3p_62 : j_code jP 28 62 = some (.aload_n 1) := rfl
set_option maxRecDepth 100000 in
theorem yb3p_63 : j_code jP 28 63 = some (.getfield 21) := rfl
set_option maxRecDepth 100000 in
theorem yb3p_66 : j_code jP 28 66 = some (.iconst 0) := rfl
set_option maxRecDepth 100000 in
theorem yb3p_67 : j_code jP 28 67 = some (.aload_n 0) := rfl
set_option maxRecDepth 100000 in
theorem yb3p_68 : j_code jP 28 68 = some (.getfield 21) := rfl
set_option maxRecDepth 100000 in
theorem yb3p_71 : j_code jP 28 71 = some (.iconst 0) := rfl
set_option maxRecDepth 100000 in
theorem yb3p_72 : j_code jP 28 72 = some (.aload_n 0) := rfl
set_option maxRecDepth 100000 in
theorem yb3p_73 : j_code jP 28 73 = some (.getfield 21) := rfl
set_option maxRecDepth 100000 in
theorem yb3p_76 : j_code jP 28 76 = some (.arraylength) := rfl
set_option maxRecDepth 100000 in
theorem yb3p_77 : j_code jP 28 77 = some (.invokestatic 50) := rfl
set_option maxRecDepth 100000 in
theorem yb3p_80 : j_code jP 28 80 = some (.aload_n 1) := rfl
set_option maxRecDepth 100000 in
theorem yb3p_81 : j_code jP 28 81 = some (.getfield 24) := rfl
set_option maxRecDepth 100000 in
theorem yb3p_84 : j_code jP 28 84 = some (.iconst 0) := rfl
set_option maxRecDepth 100000 in
theorem yb3p_85 : j_code jP 28 85 = some (.aload_n 0) := rfl
set_option maxRecDepth 100000 in
theorem yb3p_86 : j_code jP 28 86 = some (.getfield 24) := rfl
set_option maxRecDepth 100000 in
theorem yb3p_89 : j_code jP 28 89 = some (.iconst 0) := rfl
set_option maxRecDepth 100000 in
theorem yb3p_90 : j_code jP 28 90 = some (.aload_n 0) := rfl
set_option maxRecDepth 100000 in
theorem yb3p_91 : j_code jP 28 91 = some (.getfield 24) := rfl
set_option maxRecDepth 100000 in
theorem yb3p_94 : j_code jP 28 94 = some (.arraylength) := rfl
set_option maxRecDepth 100000 in
theorem yb3p_95 : j_code jP 28 95 = some (.invokestatic 50) := rfl
set_option maxRecDepth 100000 in
theorem yb3p_98 : j_code jP 28 98 = some (.aload_n 1) := rfl
set_option maxRecDepth 100000 in
theorem yb3p_99 : j_code jP 28 99 = some (.getfield 27) := rfl
set_option maxRecDepth 100000 in
theorem yb3p_102 : j_code jP 28 102 = some (.iconst 0) := rfl
set_option maxRecDepth 100000 in
theorem yb3p_103 : j_code jP 28 103 = some (.aload_n 0) := rfl
set_option maxRecDepth 100000 in
theorem yb3p_104 : j_code jP 28 104 = some (.getfield 27) := rfl
set_option maxRecDepth 100000 in
theorem yb3p_107 : j_code jP 28 107 = some (.iconst 0) := rfl
set_option maxRecDepth 100000 in
theorem yb3p_108 : j_code jP 28 108 = some (.aload_n 0) := rfl
set_option maxRecDepth 100000 in
theorem yb3p_109 : j_code jP 28 109 = some (.getfield 27) := rfl
set_option maxRecDepth 100000 in
theorem yb3p_112 : j_code jP 28 112 = some (.arraylength) := rfl
set_option maxRecDepth 100000 in
theorem yb3p_113 : j_code jP 28 113 = some (.invokestatic 50) := rfl
set_option maxRecDepth 100000 in
theorem yb3p_116 : j_code jP 28 116 = some (.aload_n 1) := rfl
set_option maxRecDepth 100000 in
theorem yb3p_117 : j_code jP 28 117 = some (.getfield 30) := rfl
set_option maxRecDepth 100000 in
theorem yb3p_120 : j_code jP 28 120 = some (.iconst 0) := rfl
set_option maxRecDepth 100000 in
theorem yb3p_121 : j_code jP 28 121 = some (.aload_n 0) := rfl
set_option maxRecDepth 100000 in
theorem yb3p_122 : j_code jP 28 122 = some (.getfield 30) := rfl
set_option maxRecDepth 100000 in
theorem yb3p_125 : j_code jP 28 125 = some (.iconst 0) := rfl
set_option maxRecDepth 100000 in
theorem yb3p_126 : j_code jP 28 126 = some (.aload_n 0) := rfl
set_option maxRecDepth 100000 in
theorem yb3p_127 : j_code jP 28 127 = some (.getfield 30) := rfl
set_option maxRecDepth 100000 in
theorem yb3p_130 : j_code jP 28 130 = some (.arraylength) := rfl
set_option maxRecDepth 100000 in
theorem yb3p_131 : j_code jP 28 131 = some (.invokestatic 50) := rfl
set_option maxRecDepth 100000 in
theorem yb3p_134 : j_code jP 28 134 = some (.aload_n 1) := rfl
set_option maxRecDepth 100000 in
theorem yb3p_135 : j_code jP 28 135 = some (.getfield 33) := rfl
set_option maxRecDepth 100000 in
theorem yb3p_138 : j_code jP 28 138 = some (.iconst 0) := rfl
set_option maxRecDepth 100000 in
theorem yb3p_139 : j_code jP 28 139 = some (.aload_n 0) := rfl
set_option maxRecDepth 100000 in
theorem yb3p_140 : j_code jP 28 140 = some (.getfield 33) := rfl
set_option maxRecDepth 100000 in
theorem yb3p_143 : j_code jP 28 143 = some (.iconst 0) := rfl
set_option maxRecDepth 100000 in
theorem yb3p_144 : j_code jP 28 144 = some (.aload_n 0) := rfl
set_option maxRecDepth 100000 in
theorem yb3p_145 : j_code jP 28 145 = some (.getfield 33) := rfl
set_option maxRecDepth 100000 in
theorem yb3p_148 : j_code jP 28 148 = some (.arraylength) := rfl
set_option maxRecDepth 100000 in
theorem yb3p_149 : j_code jP 28 149 = some (.invokestatic 50) := rfl
set_option maxRecDepth 100000 in
theorem yb3p_152 : j_code jP 28 152 = some (.aload_n 0) := rfl
set_option maxRecDepth 100000 in
theorem yb3p_153 : j_code jP 28 153 = some (.aload_n 1) := rfl
set_option maxRecDepth 100000 in
theorem yb3p_154 : j_code jP 28 154 = some (.getfield 46) := rfl
set_option maxRecDepth 100000 in
theorem yb3p_157 : j_code jP 28 157 = some (.putfield 46) := rfl
set_option maxRecDepth 100000 in
theorem yb3p_160 : j_code jP 28 160 = some (.return_) := rfl
set_option maxRecDepth 1000000 in
theorem yb3p_k8 {pev : Int32} {pms : List Int32} {pmm : List Int32} {pevs : Int32} {pmss : List Int32} {pmms : List Int32} {d : Nat} {lv : J_L} {h h0 : J_H} {Q : Option Value → J_H → Prop} (L : LK lv [(0, .ref 20), (1, .ref 122)]) (K : KN h [(20, .inl (3, [.ref 21, .ref 22, .ref 23, .ref 24, .ref 25, .ref 26, .ref 27, .ref 28, .int pev, .int 1])), (21, .inr (.inl (0, pms))), (22, .inr (.inl (0, pmm))), (122, .inl (3, [.ref 123, .ref 124, .ref 125, .ref 126, .ref 127, .ref 128, .ref 129, .ref 130, .int pevs, .int 1])), (123, .inr (.inl (0, pmss))), (124, .inr (.inl (0, pmms)))] h0) (kk : ∀ lv h, LK lv [(0, .ref 20), (1, .ref 122)] → KN h [(20, .inl (3, [.ref 21, .ref 22, .ref 23, .ref 24, .ref 25, .ref 26, .ref 27, .ref 28, .int pev, .int 1])), (21, .inr (.inl (0, (aC (nI pms.length) pmss pms)))), (22, .inr (.inl (0, (aC (nI pmm.length) pmms pmm)))), (122, .inl (3, [.ref 123, .ref 124, .ref 125, .ref 126, .ref 127, .ref 128, .ref 129, .ref 130, .int pevs, .int 1])), (123, .inr (.inl (0, pmss))), (124, .inr (.inl (0, pmms)))] h0 → j_V jP d 28 44 lv [] h Q) : j_V jP d 28 8 lv [] h Q := by
  refine j_V.ldL yb3p_M yb3p_8 rfl (i := 1) (kd := 2) (v := .ref 122) (pcJ := 9) rfl L rfl rfl rfl ?_
  refine j_V.getK yb3p_M yb3p_9 (ci := 3) (j := 0) rfl K rfl rfl ?_
  refine j_V.one yb3p_M yb3p_12 (by decide) (pcJ := 13) (stJ := [.int 0, .ref 123]) rfl ?_
  refine j_V.ldL yb3p_M yb3p_13 rfl (i := 0) (kd := 2) (v := .ref 20) (pcJ := 14) rfl L rfl rfl rfl ?_
  refine j_V.getK yb3p_M yb3p_14 (ci := 3) (j := 0) rfl K rfl rfl ?_
  refine j_V.one yb3p_M yb3p_17 (by decide) (pcJ := 18) (stJ := [.int 0, .ref 21, .int 0, .ref 123]) rfl ?_
  refine j_V.ldL yb3p_M yb3p_18 rfl (i := 0) (kd := 2) (v := .ref 20) (pcJ := 19) rfl L rfl rfl rfl ?_
  refine j_V.getK yb3p_M yb3p_19 (ci := 3) (j := 0) rfl K rfl rfl ?_
  refine j_V.alnA yb3p_M yb3p_22 K rfl ?_
  refine j_V.acp yb3p_M yb3p_23 rfl rfl K rfl rfl rfl (fun h K => ?_)
  refine j_V.ldL yb3p_M yb3p_26 rfl (i := 1) (kd := 2) (v := .ref 122) (pcJ := 27) rfl L rfl rfl rfl ?_
  refine j_V.getK yb3p_M yb3p_27 (ci := 3) (j := 1) rfl K rfl rfl ?_
  refine j_V.one yb3p_M yb3p_30 (by decide) (pcJ := 31) (stJ := [.int 0, .ref 124]) rfl ?_
  refine j_V.ldL yb3p_M yb3p_31 rfl (i := 0) (kd := 2) (v := .ref 20) (pcJ := 32) rfl L rfl rfl rfl ?_
  refine j_V.getK yb3p_M yb3p_32 (ci := 3) (j := 1) rfl K rfl rfl ?_
  refine j_V.one yb3p_M yb3p_35 (by decide) (pcJ := 36) (stJ := [.int 0, .ref 22, .int 0, .ref 124]) rfl ?_
  refine j_V.ldL yb3p_M yb3p_36 rfl (i := 0) (kd := 2) (v := .ref 20) (pcJ := 37) rfl L rfl rfl rfl ?_
  refine j_V.getK yb3p_M yb3p_37 (ci := 3) (j := 1) rfl K rfl rfl ?_
  refine j_V.alnA yb3p_M yb3p_40 K rfl ?_
  refine j_V.acp yb3p_M yb3p_41 rfl rfl K rfl rfl rfl (fun h K => ?_)
  exact kk _ _ L K
set_option maxRecDepth 1000000 in
theorem yb3p_k44 {pev : Int32} {pmt : List Int32} {pst : List Int32} {pevs : Int32} {pmts : List Int32} {psts : List Int32} {d : Nat} {lv : J_L} {h h0 : J_H} {Q : Option Value → J_H → Prop} (L : LK lv [(0, .ref 20), (1, .ref 122)]) (K : KN h [(20, .inl (3, [.ref 21, .ref 22, .ref 23, .ref 24, .ref 25, .ref 26, .ref 27, .ref 28, .int pev, .int 1])), (23, .inr (.inl (0, pmt))), (24, .inr (.inl (0, pst))), (122, .inl (3, [.ref 123, .ref 124, .ref 125, .ref 126, .ref 127, .ref 128, .ref 129, .ref 130, .int pevs, .int 1])), (125, .inr (.inl (0, pmts))), (126, .inr (.inl (0, psts)))] h0) (kk : ∀ lv h, LK lv [(0, .ref 20), (1, .ref 122)] → KN h [(20, .inl (3, [.ref 21, .ref 22, .ref 23, .ref 24, .ref 25, .ref 26, .ref 27, .ref 28, .int pev, .int 1])), (23, .inr (.inl (0, (aC (nI pmt.length) pmts pmt)))), (24, .inr (.inl (0, (aC (nI pst.length) psts pst)))), (122, .inl (3, [.ref 123, .ref 124, .ref 125, .ref 126, .ref 127, .ref 128, .ref 129, .ref 130, .int pevs, .int 1])), (125, .inr (.inl (0, pmts))), (126, .inr (.inl (0, psts)))] h0 → j_V jP d 28 80 lv [] h Q) : j_V jP d 28 44 lv [] h Q := by
  refine j_V.ldL yb3p_M yb3p_44 rfl (i := 1) (kd := 2) (v := .ref 122) (pcJ := 45) rfl L rfl rfl rfl ?_
  refine j_V.getK yb3p_M yb3p_45 (ci := 3) (j := 2) rfl K rfl rfl ?_
  refine j_V.one yb3p_M yb3p_48 (by decide) (pcJ := 49) (stJ := [.int 0, .ref 125]) rfl ?_
  refine j_V.ldL yb3p_M yb3p_49 rfl (i := 0) (kd := 2) (v := .ref 20) (pcJ := 50) rfl L rfl rfl rfl ?_
  refine j_V.getK yb3p_M yb3p_50 (ci := 3) (j := 2) rfl K rfl rfl ?_
  refine j_V.one yb3p_M yb3p_53 (by decide) (pcJ := 54) (stJ := [.int 0, .ref 23, .int 0, .ref 125]) rfl ?_
  refine j_V.ldL yb3p_M yb3p_54 rfl (i := 0) (kd := 2) (v := .ref 20) (pcJ := 55) rfl L rfl rfl rfl ?_
  refine j_V.getK yb3p_M yb3p_55 (ci := 3) (j := 2) rfl K rfl rfl ?_
  refine j_V.alnA yb3p_M yb3p_58 K rfl ?_
  refine j_V.acp yb3p_M yb3p_59 rfl rfl K rfl rfl rfl (fun h K => ?_)
  refine j_V.ldL yb3p_M yb3p_62 rfl (i := 1) (kd := 2) (v := .ref 122) (pcJ := 63) rfl L rfl rfl rfl ?_
  refine j_V.getK yb3p_M yb3p_63 (ci := 3) (j := 3) rfl K rfl rfl ?_
  refine j_V.one yb3p_M yb3p_66 (by decide) (pcJ := 67) (stJ := [.int 0, .ref 126]) rfl ?_
  refine j_V.ldL yb3p_M yb3p_67 rfl (i := 0) (kd := 2) (v := .ref 20) (pcJ := 68) rfl L rfl rfl rfl ?_
  refine j_V.getK yb3p_M yb3p_68 (ci := 3) (j := 3) rfl K rfl rfl ?_
  refine j_V.one yb3p_M yb3p_71 (by decide) (pcJ := 72) (stJ := [.int 0, .ref 24, .int 0, .ref 126]) rfl ?_
  refine j_V.ldL yb3p_M yb3p_72 rfl (i := 0) (kd := 2) (v := .ref 20) (pcJ := 73) rfl L rfl rfl rfl ?_
  refine j_V.getK yb3p_M yb3p_73 (ci := 3) (j := 3) rfl K rfl rfl ?_
  refine j_V.alnA yb3p_M yb3p_76 K rfl ?_
  refine j_V.acp yb3p_M yb3p_77 rfl rfl K rfl rfl rfl (fun h K => ?_)
  exact kk _ _ L K
set_option maxRecDepth 1000000 in
theorem yb3p_k80 {pev : Int32} {pwa : List Int32} {prs : List Int32} {pevs : Int32} {pwas : List Int32} {prss : List Int32} {d : Nat} {lv : J_L} {h h0 : J_H} {Q : Option Value → J_H → Prop} (L : LK lv [(0, .ref 20), (1, .ref 122)]) (K : KN h [(20, .inl (3, [.ref 21, .ref 22, .ref 23, .ref 24, .ref 25, .ref 26, .ref 27, .ref 28, .int pev, .int 1])), (25, .inr (.inl (0, pwa))), (26, .inr (.inl (0, prs))), (122, .inl (3, [.ref 123, .ref 124, .ref 125, .ref 126, .ref 127, .ref 128, .ref 129, .ref 130, .int pevs, .int 1])), (127, .inr (.inl (0, pwas))), (128, .inr (.inl (0, prss)))] h0) (kk : ∀ lv h, LK lv [(0, .ref 20), (1, .ref 122)] → KN h [(20, .inl (3, [.ref 21, .ref 22, .ref 23, .ref 24, .ref 25, .ref 26, .ref 27, .ref 28, .int pev, .int 1])), (25, .inr (.inl (0, (aC (nI pwa.length) pwas pwa)))), (26, .inr (.inl (0, (aC (nI prs.length) prss prs)))), (122, .inl (3, [.ref 123, .ref 124, .ref 125, .ref 126, .ref 127, .ref 128, .ref 129, .ref 130, .int pevs, .int 1])), (127, .inr (.inl (0, pwas))), (128, .inr (.inl (0, prss)))] h0 → j_V jP d 28 116 lv [] h Q) : j_V jP d 28 80 lv [] h Q := by
  refine j_V.ldL yb3p_M yb3p_80 rfl (i := 1) (kd := 2) (v := .ref 122) (pcJ := 81) rfl L rfl rfl rfl ?_
  refine j_V.getK yb3p_M yb3p_81 (ci := 3) (j := 4) rfl K rfl rfl ?_
  refine j_V.one yb3p_M yb3p_84 (by decide) (pcJ := 85) (stJ := [.int 0, .ref 127]) rfl ?_
  refine j_V.ldL yb3p_M yb3p_85 rfl (i := 0) (kd := 2) (v := .ref 20) (pcJ := 86) rfl L rfl rfl rfl ?_
  refine j_V.getK yb3p_M yb3p_86 (ci := 3) (j := 4) rfl K rfl rfl ?_
  refine j_V.one yb3p_M yb3p_89 (by decide) (pcJ := 90) (stJ := [.int 0, .ref 25, .int 0, .ref 127]) rfl ?_
  refine j_V.ldL yb3p_M yb3p_90 rfl (i := 0) (kd := 2) (v := .ref 20) (pcJ := 91) rfl L rfl rfl rfl ?_
  refine j_V.getK yb3p_M yb3p_91 (ci := 3) (j := 4) rfl K rfl rfl ?_
  refine j_V.alnA yb3p_M yb3p_94 K rfl ?_
  refine j_V.acp yb3p_M yb3p_95 rfl rfl K rfl rfl rfl (fun h K => ?_)
  refine j_V.ldL yb3p_M yb3p_98 rfl (i := 1) (kd := 2) (v := .ref 122) (pcJ := 99) rfl L rfl rfl rfl ?_
  refine j_V.getK yb3p_M yb3p_99 (ci := 3) (j := 5) rfl K rfl rfl ?_
  refine j_V.one yb3p_M yb3p_102 (by decide) (pcJ := 103) (stJ := [.int 0, .ref 128]) rfl ?_
  refine j_V.ldL yb3p_M yb3p_103 rfl (i := 0) (kd := 2) (v := .ref 20) (pcJ := 104) rfl L rfl rfl rfl ?_
  refine j_V.getK yb3p_M yb3p_104 (ci := 3) (j := 5) rfl K rfl rfl ?_
  refine j_V.one yb3p_M yb3p_107 (by decide) (pcJ := 108) (stJ := [.int 0, .ref 26, .int 0, .ref 128]) rfl ?_
  refine j_V.ldL yb3p_M yb3p_108 rfl (i := 0) (kd := 2) (v := .ref 20) (pcJ := 109) rfl L rfl rfl rfl ?_
  refine j_V.getK yb3p_M yb3p_109 (ci := 3) (j := 5) rfl K rfl rfl ?_
  refine j_V.alnA yb3p_M yb3p_112 K rfl ?_
  refine j_V.acp yb3p_M yb3p_113 rfl rfl K rfl rfl rfl (fun h K => ?_)
  exact kk _ _ L K
set_option maxRecDepth 1000000 in
theorem yb3p_k116 {pev : Int32} {prr : List Int32} {pfa : List Int32} {pevs : Int32} {prrs : List Int32} {pfas : List Int32} {d : Nat} {lv : J_L} {h h0 : J_H} {Q : Option Value → J_H → Prop} (L : LK lv [(0, .ref 20), (1, .ref 122)]) (K : KN h [(20, .inl (3, [.ref 21, .ref 22, .ref 23, .ref 24, .ref 25, .ref 26, .ref 27, .ref 28, .int pev, .int 1])), (27, .inr (.inl (0, prr))), (28, .inr (.inl (0, pfa))), (122, .inl (3, [.ref 123, .ref 124, .ref 125, .ref 126, .ref 127, .ref 128, .ref 129, .ref 130, .int pevs, .int 1])), (129, .inr (.inl (0, prrs))), (130, .inr (.inl (0, pfas)))] h0) (kk : ∀ lv h, LK lv [(0, .ref 20), (1, .ref 122)] → KN h [(20, .inl (3, [.ref 21, .ref 22, .ref 23, .ref 24, .ref 25, .ref 26, .ref 27, .ref 28, .int pev, .int 1])), (27, .inr (.inl (0, (aC (nI prr.length) prrs prr)))), (28, .inr (.inl (0, (aC (nI pfa.length) pfas pfa)))), (122, .inl (3, [.ref 123, .ref 124, .ref 125, .ref 126, .ref 127, .ref 128, .ref 129, .ref 130, .int pevs, .int 1])), (129, .inr (.inl (0, prrs))), (130, .inr (.inl (0, pfas)))] h0 → j_V jP d 28 152 lv [] h Q) : j_V jP d 28 116 lv [] h Q := by
  refine j_V.ldL yb3p_M yb3p_116 rfl (i := 1) (kd := 2) (v := .ref 122) (pcJ := 117) rfl L rfl rfl rfl ?_
  refine j_V.getK yb3p_M yb3p_117 (ci := 3) (j := 6) rfl K rfl rfl ?_
  refine j_V.one yb3p_M yb3p_120 (by decide) (pcJ := 121) (stJ := [.int 0, .ref 129]) rfl ?_
  refine j_V.ldL yb3p_M yb3p_121 rfl (i := 0) (kd := 2) (v := .ref 20) (pcJ := 122) rfl L rfl rfl rfl ?_
  refine j_V.getK yb3p_M yb3p_122 (ci := 3) (j := 6) rfl K rfl rfl ?_
  refine j_V.one yb3p_M yb3p_125 (by decide) (pcJ := 126) (stJ := [.int 0, .ref 27, .int 0, .ref 129]) rfl ?_
  refine j_V.ldL yb3p_M yb3p_126 rfl (i := 0) (kd := 2) (v := .ref 20) (pcJ := 127) rfl L rfl rfl rfl ?_
  refine j_V.getK yb3p_M yb3p_127 (ci := 3) (j := 6) rfl K rfl rfl ?_
  refine j_V.alnA yb3p_M yb3p_130 K rfl ?_
  refine j_V.acp yb3p_M yb3p_131 rfl rfl K rfl rfl rfl (fun h K => ?_)
  refine j_V.ldL yb3p_M yb3p_134 rfl (i := 1) (kd := 2) (v := .ref 122) (pcJ := 135) rfl L rfl rfl rfl ?_
  refine j_V.getK yb3p_M yb3p_135 (ci := 3) (j := 7) rfl K rfl rfl ?_
  refine j_V.one yb3p_M yb3p_138 (by decide) (pcJ := 139) (stJ := [.int 0, .ref 130]) rfl ?_
  refine j_V.ldL yb3p_M yb3p_139 rfl (i := 0) (kd := 2) (v := .ref 20) (pcJ := 140) rfl L rfl rfl rfl ?_
  refine j_V.getK yb3p_M yb3p_140 (ci := 3) (j := 7) rfl K rfl rfl ?_
  refine j_V.one yb3p_M yb3p_143 (by decide) (pcJ := 144) (stJ := [.int 0, .ref 28, .int 0, .ref 130]) rfl ?_
  refine j_V.ldL yb3p_M yb3p_144 rfl (i := 0) (kd := 2) (v := .ref 20) (pcJ := 145) rfl L rfl rfl rfl ?_
  refine j_V.getK yb3p_M yb3p_145 (ci := 3) (j := 7) rfl K rfl rfl ?_
  refine j_V.alnA yb3p_M yb3p_148 K rfl ?_
  refine j_V.acp yb3p_M yb3p_149 rfl rfl K rfl rfl rfl (fun h K => ?_)
  exact kk _ _ L K
set_option maxRecDepth 1000000 in
theorem yb3p_ok {pev : Int32} {pms : List Int32} {pmm : List Int32} {pmt : List Int32} {pst : List Int32} {pwa : List Int32} {prs : List Int32} {prr : List Int32} {pfa : List Int32} {pevs : Int32} {pmss : List Int32} {pmms : List Int32} {pmts : List Int32} {psts : List Int32} {pwas : List Int32} {prss : List Int32} {prrs : List Int32} {pfas : List Int32} {d : Nat} {h h0 : J_H} (K : KN h [(20, .inl (3, [.ref 21, .ref 22, .ref 23, .ref 24, .ref 25, .ref 26, .ref 27, .ref 28, .int pev, .int 1])), (21, .inr (.inl (0, pms))), (22, .inr (.inl (0, pmm))), (23, .inr (.inl (0, pmt))), (24, .inr (.inl (0, pst))), (25, .inr (.inl (0, pwa))), (26, .inr (.inl (0, prs))), (27, .inr (.inl (0, prr))), (28, .inr (.inl (0, pfa))), (122, .inl (3, [.ref 123, .ref 124, .ref 125, .ref 126, .ref 127, .ref 128, .ref 129, .ref 130, .int pevs, .int 1])), (123, .inr (.inl (0, pmss))), (124, .inr (.inl (0, pmms))), (125, .inr (.inl (0, pmts))), (126, .inr (.inl (0, psts))), (127, .inr (.inl (0, pwas))), (128, .inr (.inl (0, prss))), (129, .inr (.inl (0, prrs))), (130, .inr (.inl (0, pfas)))] h0) : j_V jP d 28 0 (lv_args 0 [.ref 20, .ref 122]) [] h (fun rv h' => rv = none ∧ KN h' [(20, .inl (3, [.ref 21, .ref 22, .ref 23, .ref 24, .ref 25, .ref 26, .ref 27, .ref 28, .int pevs, .int 1])), (21, .inr (.inl (0, (aC (nI pms.length) pmss pms)))), (22, .inr (.inl (0, (aC (nI pmm.length) pmms pmm)))), (23, .inr (.inl (0, (aC (nI pmt.length) pmts pmt)))), (24, .inr (.inl (0, (aC (nI pst.length) psts pst)))), (25, .inr (.inl (0, (aC (nI pwa.length) pwas pwa)))), (26, .inr (.inl (0, (aC (nI prs.length) prss prs)))), (27, .inr (.inl (0, (aC (nI prr.length) prrs prr)))), (28, .inr (.inl (0, (aC (nI pfa.length) pfas pfa)))), (122, .inl (3, [.ref 123, .ref 124, .ref 125, .ref 126, .ref 127, .ref 128, .ref 129, .ref 130, .int pevs, .int 1])), (123, .inr (.inl (0, pmss))), (124, .inr (.inl (0, pmms))), (125, .inr (.inl (0, pmts))), (126, .inr (.inl (0, psts))), (127, .inr (.inl (0, pwas))), (128, .inr (.inl (0, prss))), (129, .inr (.inl (0, prrs))), (130, .inr (.inl (0, pfas)))] h0) := by
  show j_V jP d 28 0 [(0, .ref 20), (1, .ref 122)] [] h _
  obtain ⟨lv, elv, L⟩ : ∃ lv, lv = [(0, .ref 20), (1, .ref 122)] ∧ LK lv [(0, .ref 20), (1, .ref 122)] := ⟨_, rfl, LK.rf⟩
  rw [← elv]
  clear elv
  refine j_V.ldL yb3p_M yb3p_0 rfl (i := 0) (kd := 2) (v := .ref 20) (pcJ := 1) rfl L rfl rfl rfl ?_
  refine j_V.getK yb3p_M yb3p_1 (ci := 3) (j := 9) rfl K rfl rfl ?_
  refine j_V.ifc yb3p_M yb3p_4 (t := 8) rfl (fun c4_0 => ?_) (fun c4_0 => ?_)
  · replace c4_0 : ¬ ((1 : Int32) = 0) := jd_ne c4_0
    refine yb3p_k8 L (K.fi [20, 21, 22, 122, 123, 124] rfl rfl) (fun lv h9 L K9 => ?_)
    have K : KN h9 [(20, .inl (3, [.ref 21, .ref 22, .ref 23, .ref 24, .ref 25, .ref 26, .ref 27, .ref 28, .int pev, .int 1])), (21, .inr (.inl (0, (aC (nI pms.length) pmss pms)))), (22, .inr (.inl (0, (aC (nI pmm.length) pmms pmm)))), (23, .inr (.inl (0, pmt))), (24, .inr (.inl (0, pst))), (25, .inr (.inl (0, pwa))), (26, .inr (.inl (0, prs))), (27, .inr (.inl (0, prr))), (28, .inr (.inl (0, pfa))), (122, .inl (3, [.ref 123, .ref 124, .ref 125, .ref 126, .ref 127, .ref 128, .ref 129, .ref 130, .int pevs, .int 1])), (123, .inr (.inl (0, pmss))), (124, .inr (.inl (0, pmms))), (125, .inr (.inl (0, pmts))), (126, .inr (.inl (0, psts))), (127, .inr (.inl (0, pwas))), (128, .inr (.inl (0, prss))), (129, .inr (.inl (0, prrs))), (130, .inr (.inl (0, pfas)))] h0 := K.mg K9 rfl rfl
    clear K9
    refine yb3p_k44 L (K.fi [20, 23, 24, 122, 125, 126] rfl rfl) (fun lv h9 L K9 => ?_)
    have K : KN h9 [(20, .inl (3, [.ref 21, .ref 22, .ref 23, .ref 24, .ref 25, .ref 26, .ref 27, .ref 28, .int pev, .int 1])), (21, .inr (.inl (0, (aC (nI pms.length) pmss pms)))), (22, .inr (.inl (0, (aC (nI pmm.length) pmms pmm)))), (23, .inr (.inl (0, (aC (nI pmt.length) pmts pmt)))), (24, .inr (.inl (0, (aC (nI pst.length) psts pst)))), (25, .inr (.inl (0, pwa))), (26, .inr (.inl (0, prs))), (27, .inr (.inl (0, prr))), (28, .inr (.inl (0, pfa))), (122, .inl (3, [.ref 123, .ref 124, .ref 125, .ref 126, .ref 127, .ref 128, .ref 129, .ref 130, .int pevs, .int 1])), (123, .inr (.inl (0, pmss))), (124, .inr (.inl (0, pmms))), (125, .inr (.inl (0, pmts))), (126, .inr (.inl (0, psts))), (127, .inr (.inl (0, pwas))), (128, .inr (.inl (0, prss))), (129, .inr (.inl (0, prrs))), (130, .inr (.inl (0, pfas)))] h0 := K.mg K9 rfl rfl
    clear K9
    refine yb3p_k80 L (K.fi [20, 25, 26, 122, 127, 128] rfl rfl) (fun lv h9 L K9 => ?_)
    have K : KN h9 [(20, .inl (3, [.ref 21, .ref 22, .ref 23, .ref 24, .ref 25, .ref 26, .ref 27, .ref 28, .int pev, .int 1])), (21, .inr (.inl (0, (aC (nI pms.length) pmss pms)))), (22, .inr (.inl (0, (aC (nI pmm.length) pmms pmm)))), (23, .inr (.inl (0, (aC (nI pmt.length) pmts pmt)))), (24, .inr (.inl (0, (aC (nI pst.length) psts pst)))), (25, .inr (.inl (0, (aC (nI pwa.length) pwas pwa)))), (26, .inr (.inl (0, (aC (nI prs.length) prss prs)))), (27, .inr (.inl (0, prr))), (28, .inr (.inl (0, pfa))), (122, .inl (3, [.ref 123, .ref 124, .ref 125, .ref 126, .ref 127, .ref 128, .ref 129, .ref 130, .int pevs, .int 1])), (123, .inr (.inl (0, pmss))), (124, .inr (.inl (0, pmms))), (125, .inr (.inl (0, pmts))), (126, .inr (.inl (0, psts))), (127, .inr (.inl (0, pwas))), (128, .inr (.inl (0, prss))), (129, .inr (.inl (0, prrs))), (130, .inr (.inl (0, pfas)))] h0 := K.mg K9 rfl rfl
    clear K9
    refine yb3p_k116 L (K.fi [20, 27, 28, 122, 129, 130] rfl rfl) (fun lv h9 L K9 => ?_)
    have K : KN h9 [(20, .inl (3, [.ref 21, .ref 22, .ref 23, .ref 24, .ref 25, .ref 26, .ref 27, .ref 28, .int pev, .int 1])), (21, .inr (.inl (0, (aC (nI pms.length) pmss pms)))), (22, .inr (.inl (0, (aC (nI pmm.length) pmms pmm)))), (23, .inr (.inl (0, (aC (nI pmt.length) pmts pmt)))), (24, .inr (.inl (0, (aC (nI pst.length) psts pst)))), (25, .inr (.inl (0, (aC (nI pwa.length) pwas pwa)))), (26, .inr (.inl (0, (aC (nI prs.length) prss prs)))), (27, .inr (.inl (0, (aC (nI prr.length) prrs prr)))), (28, .inr (.inl (0, (aC (nI pfa.length) pfas pfa)))), (122, .inl (3, [.ref 123, .ref 124, .ref 125, .ref 126, .ref 127, .ref 128, .ref 129, .ref 130, .int pevs, .int 1])), (123, .inr (.inl (0, pmss))), (124, .inr (.inl (0, pmms))), (125, .inr (.inl (0, pmts))), (126, .inr (.inl (0, psts))), (127, .inr (.inl (0, pwas))), (128, .inr (.inl (0, prss))), (129, .inr (.inl (0, prrs))), (130, .inr (.inl (0, pfas)))] h0 := K.mg K9 rfl rfl
    clear K9
    refine j_V.ldL yb3p_M yb3p_152 rfl (i := 0) (kd := 2) (v := .ref 20) (pcJ := 153) rfl L rfl rfl rfl ?_
    refine j_V.ldL yb3p_M yb3p_153 rfl (i := 1) (kd := 2) (v := .ref 122) (pcJ := 154) rfl L rfl rfl rfl ?_
    refine j_V.getK yb3p_M yb3p_154 (ci := 3) (j := 8) rfl K rfl rfl ?_
    refine j_V.putK yb3p_M yb3p_157 (ci := 3) (j := 8) (k' := [(20, .inl (3, [.ref 21, .ref 22, .ref 23, .ref 24, .ref 25, .ref 26, .ref 27, .ref 28, .int pevs, .int 1])), (21, .inr (.inl (0, (aC (nI pms.length) pmss pms)))), (22, .inr (.inl (0, (aC (nI pmm.length) pmms pmm)))), (23, .inr (.inl (0, (aC (nI pmt.length) pmts pmt)))), (24, .inr (.inl (0, (aC (nI pst.length) psts pst)))), (25, .inr (.inl (0, (aC (nI pwa.length) pwas pwa)))), (26, .inr (.inl (0, (aC (nI prs.length) prss prs)))), (27, .inr (.inl (0, (aC (nI prr.length) prrs prr)))), (28, .inr (.inl (0, (aC (nI pfa.length) pfas pfa)))), (122, .inl (3, [.ref 123, .ref 124, .ref 125, .ref 126, .ref 127, .ref 128, .ref 129, .ref 130, .int pevs, .int 1])), (123, .inr (.inl (0, pmss))), (124, .inr (.inl (0, pmms))), (125, .inr (.inl (0, pmts))), (126, .inr (.inl (0, psts))), (127, .inr (.inl (0, pwas))), (128, .inr (.inl (0, prss))), (129, .inr (.inl (0, prrs))), (130, .inr (.inl (0, pfas)))]) rfl K rfl (Nat.le_of_ble_eq_true rfl) rfl (Or.inl rfl) rfl rfl (fun h K => ?_)
    exact j_V.ret yb3p_M yb3p_160 rfl rfl ⟨rfl, K⟩
  · replace c4_0 : (1 : Int32) = 0 := jd_nen c4_0
    exact absurd c4_0 (by decide)
set_option maxRecDepth 100000 in
theorem yb3s_M : j_meth jP 61 = some (yX7_copyFrom, cX7_copyFrom, 2, none, 1, false, 7) := rfl
set_option maxRecDepth 100000 in
theorem yb3s_0 : j_code jP 61 0 = some (.aload_n 0) := rfl
set_option maxRecDepth 100000 in
theorem yb3s_1 : j_code jP 61 1 = some (.aload_n 1) := rfl
set_option maxRecDepth 100000 in
theorem yb3s_2 : j_code jP 61 2 = some (.getfield 64) := rfl
set_option maxRecDepth 100000 in
theorem yb3s_5 : j_code jP 61 5 = some (.putfield 64) := rfl
set_option maxRecDepth 100000 in
theorem yb3s_8 : j_code jP 61 8 = some (.aload_n 0) := rfl
set_option maxRecDepth 100000 in
theorem yb3s_9 : j_code jP 61 9 = some (.aload_n 1) := rfl
set_option maxRecDepth 100000 in
theorem yb3s_10 : j_code jP 61 10 = some (.getfield 68) := rfl
set_option maxRecDepth 100000 in
theorem yb3s_13 : j_code jP 61 13 = some (.putfield 68) := rfl
set_option maxRecDepth 100000 in
theorem yb3s_16 : j_code jP 61 16 = some (.aload_n 0) := rfl
set_option maxRecDepth 100000 in
theorem yb3s_17 : j_code jP 61 17 = some (.aload_n 1) := rfl
set_option maxRecDepth 100000 in
theorem yb3s_18 : j_code jP 61 18 = some (.getfield 72) := rfl
set_option maxRecDepth 100000 in
theorem yb3s_21 : j_code jP 61 21 = some (.putfield 72) := rfl
set_option maxRecDepth 100000 in
theorem yb3s_24 : j_code jP 61 24 = some (.aload_n 0) := rfl
set_option maxRecDepth 100000 in
theorem yb3s_25 : j_code jP 61 25 = some (.aload_n 1) := rfl
set_option maxRecDepth 100000 in
theorem yb3s_26 : j_code jP 61 26 = some (.getfield 75) := rfl
set_option maxRecDepth 100000 in
theorem yb3s_29 : j_code jP 61 29 = some (.putfield 75) := rfl
set_option maxRecDepth 100000 in
theorem yb3s_32 : j_code jP 61 32 = some (.aload_n 0) := rfl
set_option maxRecDepth 100000 in
theorem yb3s_33 : j_code jP 61 33 = some (.aload_n 1) := rfl
set_option maxRecDepth 100000 in
theorem yb3s_34 : j_code jP 61 34 = some (.getfield 78) := rfl
set_option maxRecDepth 100000 in
theorem yb3s_37 : j_code jP 61 37 = some (.putfield 78) := rfl
set_option maxRecDepth 100000 in
theorem yb3s_40 : j_code jP 61 40 = some (.aload_n 1) := rfl
set_option maxRecDepth 100000 in
theorem yb3s_41 : j_code jP 61 41 = some (.getfield 9) := rfl
set_option maxRecDepth 100000 in
theorem yb3s_44 : j_code jP 61 44 = some (.iconst 0) := rfl
set_option maxRecDepth 100000 in
theorem yb3s_45 : j_code jP 61 45 = some (.aload_n 0) := rfl
set_option maxRecDepth 100000 in
theorem yb3s_46 : j_code jP 61 46 = some (.getfield 9) := rfl
set_option maxRecDepth 100000 in
theorem yb3s_49 : j_code jP 61 49 = some (.iconst 0) := rfl
set_option maxRecDepth 100000 in
theorem yb3s_50 : j_code jP 61 50 = some (.iconst 5) := rfl
set_option maxRecDepth 100000 in
theorem yb3s_51 : j_code jP 61 51 = some (.invokestatic 84) := rfl
set_option maxRecDepth 100000 in
theorem yb3s_54 : j_code jP 61 54 = some (.aload_n 1) := rfl
set_option maxRecDepth 100000 in
theorem yb3s_55 : j_code jP 61 55 = some (.getfield 15) := rfl
set_option maxRecDepth 100000 in
theorem yb3s_58 : j_code jP 61 58 = some (.iconst 0) := rfl
set_option maxRecDepth 100000 in
theorem yb3s_59 : j_code jP 61 59 = some (.aload_n 0) := rfl
set_option maxRecDepth 100000 in
theorem yb3s_60 : j_code jP 61 60 = some (.getfield 15) := rfl
set_option maxRecDepth 100000 in
theorem yb3s_63 : j_code jP 61 63 = some (.iconst 0) := rfl
set_option maxRecDepth 100000 in
theorem yb3s_64 : j_code jP 61 64 = some (.iconst 5) := rfl
set_option maxRecDepth 100000 in
theorem yb3s_65 : j_code jP 61 65 = some (.invokestatic 84) := rfl
set_option maxRecDepth 100000 in
theorem yb3s_68 : j_code jP 61 68 = some (.aload_n 1) := rfl
set_option maxRecDepth 100000 in
theorem yb3s_69 : j_code jP 61 69 = some (.getfield 18) := rfl
set_option maxRecDepth 100000 in
theorem yb3s_72 : j_code jP 61 72 = some (.iconst 0) := rfl
set_option maxRecDepth 100000 in
theorem yb3s_73 : j_code jP 61 73 = some (.aload_n 0) := rfl
set_option maxRecDepth 100000 in
theorem yb3s_74 : j_code jP 61 74 = some (.getfield 18) := rfl
set_option maxRecDepth 100000 in
theorem yb3s_77 : j_code jP 61 77 = some (.iconst 0) := rfl
set_option maxRecDepth 100000 in
theorem yb3s_78 : j_code jP 61 78 = some (.iconst 5) := rfl
set_option maxRecDepth 100000 in
theorem yb3s_79 : j_code jP 61 79 = some (.invokestatic 84) := rfl
set_option maxRecDepth 100000 in
theorem yb3s_82 : j_code jP 61 82 = some (.aload_n 1) := rfl
set_option maxRecDepth 100000 in
theorem yb3s_83 : j_code jP 61 83 = some (.getfield 21) := rfl
set_option maxRecDepth 100000 in
theorem yb3s_86 : j_code jP 61 86 = some (.iconst 0) := rfl
set_option maxRecDepth 100000 in
theorem yb3s_87 : j_code jP 61 87 = some (.aload_n 0) := rfl
set_option maxRecDepth 100000 in
theorem yb3s_88 : j_code jP 61 88 = some (.getfield 21) := rfl
set_option maxRecDepth 100000 in
theorem yb3s_91 : j_code jP 61 91 = some (.iconst 0) := rfl
set_option maxRecDepth 100000 in
theorem yb3s_92 : j_code jP 61 92 = some (.iconst 5) := rfl
set_option maxRecDepth 100000 in
theorem yb3s_93 : j_code jP 61 93 = some (.invokestatic 84) := rfl
set_option maxRecDepth 100000 in
theorem yb3s_96 : j_code jP 61 96 = some (.aload_n 1) := rfl
set_option maxRecDepth 100000 in
theorem yb3s_97 : j_code jP 61 97 = some (.getfield 24) := rfl
set_option maxRecDepth 100000 in
theorem yb3s_100 : j_code jP 61 100 = some (.iconst 0) := rfl
set_option maxRecDepth 100000 in
theorem yb3s_101 : j_code jP 61 101 = some (.aload_n 0) := rfl
set_option maxRecDepth 100000 in
theorem yb3s_102 : j_code jP 61 102 = some (.getfield 24) := rfl
set_option maxRecDepth 100000 in
theorem yb3s_105 : j_code jP 61 105 = some (.iconst 0) := rfl
set_option maxRecDepth 100000 in
theorem yb3s_106 : j_code jP 61 106 = some (.iconst 5) := rfl
set_option maxRecDepth 100000 in
theorem yb3s_107 : j_code jP 61 107 = some (.invokestatic 84) := rfl
set_option maxRecDepth 100000 in
theorem yb3s_110 : j_code jP 61 110 = some (.aload_n 1) := rfl
set_option maxRecDepth 100000 in
theorem yb3s_111 : j_code jP 61 111 = some (.getfield 27) := rfl
set_option maxRecDepth 100000 in
theorem yb3s_114 : j_code jP 61 114 = some (.iconst 0) := rfl
set_option maxRecDepth 100000 in
theorem yb3s_115 : j_code jP 61 115 = some (.aload_n 0) := rfl
set_option maxRecDepth 100000 in
theorem yb3s_116 : j_code jP 61 116 = some (.getfield 27) := rfl
set_option maxRecDepth 100000 in
theorem yb3s_119 : j_code jP 61 119 = some (.iconst 0) := rfl
set_option maxRecDepth 100000 in
theorem yb3s_120 : j_code jP 61 120 = some (.iconst 5) := rfl
set_option maxRecDepth 100000 in
theorem yb3s_121 : j_code jP 61 121 = some (.invokestatic 84) := rfl
set_option maxRecDepth 100000 in
theorem yb3s_124 : j_code jP 61 124 = some (.aload_n 1) := rfl
set_option maxRecDepth 100000 in
theorem yb3s_125 : j_code jP 61 125 = some (.getfield 30) := rfl
set_option maxRecDepth 100000 in
theorem yb3s_128 : j_code jP 61 128 = some (.iconst 0) := rfl
set_option maxRecDepth 100000 in
theorem yb3s_129 : j_code jP 61 129 = some (.aload_n 0) := rfl
set_option maxRecDepth 100000 in
theorem yb3s_130 : j_code jP 61 130 = some (.getfield 30) := rfl
set_option maxRecDepth 100000 in
theorem yb3s_133 : j_code jP 61 133 = some (.iconst 0) := rfl
set_option maxRecDepth 100000 in
theorem yb3s_134 : j_code jP 61 134 = some (.iconst 5) := rfl
set_option maxRecDepth 100000 in
theorem yb3s_135 : j_code jP 61 135 = some (.invokestatic 84) := rfl
set_option maxRecDepth 100000 in
theorem yb3s_138 : j_code jP 61 138 = some (.aload_n 1) := rfl
set_option maxRecDepth 100000 in
theorem yb3s_139 : j_code jP 61 139 = some (.getfield 33) := rfl
set_option maxRecDepth 100000 in
theorem yb3s_142 : j_code jP 61 142 = some (.iconst 0) := rfl
set_option maxRecDepth 100000 in
theorem yb3s_143 : j_code jP 61 143 = some (.aload_n 0) := rfl
set_option maxRecDepth 100000 in
theorem yb3s_144 : j_code jP 61 144 = some (.getfield 33) := rfl
set_option maxRecDepth 100000 in
theorem yb3s_147 : j_code jP 61 147 = some (.iconst 0) := rfl
set_option maxRecDepth 100000 in
theorem yb3s_148 : j_code jP 61 148 = some (.bipush 6) := rfl
set_option maxRecDepth 100000 in
theorem yb3s_150 : j_code jP 61 150 = some (.invokestatic 84) := rfl
set_option maxRecDepth 100000 in
theorem yb3s_153 : j_code jP 61 153 = some (.aload_n 1) := rfl
set_option maxRecDepth 100000 in
theorem yb3s_154 : j_code jP 61 154 = some (.getfield 36) := rfl
set_option maxRecDepth 100000 in
theorem yb3s_157 : j_code jP 61 157 = some (.iconst 0) := rfl
set_option maxRecDepth 100000 in
theorem yb3s_158 : j_code jP 61 158 = some (.aload_n 0) := rfl
set_option maxRecDepth 100000 in
theorem yb3s_159 : j_code jP 61 159 = some (.getfield 36) := rfl
set_option maxRecDepth 100000 in
theorem yb3s_162 : j_code jP 61 162 = some (.iconst 0) := rfl
set_option maxRecDepth 100000 in
theorem yb3s_163 : j_code jP 61 163 = some (.bipush 6) := rfl
set_option maxRecDepth 100000 in
theorem yb3s_165 : j_code jP 61 165 = some (.invokestatic 84) := rfl
set_option maxRecDepth 100000 in
theorem yb3s_168 : j_code jP 61 168 = some (.aload_n 1) := rfl
set_option maxRecDepth 100000 in
theorem yb3s_169 : j_code jP 61 169 = some (.getfield 39) := rfl
set_option maxRecDepth 100000 in
theorem yb3s_172 : j_code jP 61 172 = some (.iconst 0) := rfl
set_option maxRecDepth 100000 in
theorem yb3s_173 : j_code jP 61 173 = some (.aload_n 0) := rfl
set_option maxRecDepth 100000 in
theorem yb3s_174 : j_code jP 61 174 = some (.getfield 39) := rfl
set_option maxRecDepth 100000 in
theorem yb3s_177 : j_code jP 61 177 = some (.iconst 0) := rfl
set_option maxRecDepth 100000 in
theorem yb3s_178 : j_code jP 61 178 = some (.aload_n 0) := rfl
set_option maxRecDepth 100000 in
theorem yb3s_179 : j_code jP 61 179 = some (.getfield 39) := rfl
set_option maxRecDepth 100000 in
theorem yb3s_182 : j_code jP 61 182 = some (.arraylength) := rfl
set_option maxRecDepth 100000 in
theorem yb3s_183 : j_code jP 61 183 = some (.invokestatic 84) := rfl
set_option maxRecDepth 100000 in
theorem yb3s_186 : j_code jP 61 186 = some (.aload_n 1) := rfl
set_option maxRecDepth 100000 in
theorem yb3s_187 : j_code jP 61 187 = some (.getfield 42) := rfl
set_option maxRecDepth 100000 in
theorem yb3s_190 : j_code jP 61 190 = some (.iconst 0) := rfl
set_option maxRecDepth 100000 in
theorem yb3s_191 : j_code jP 61 191 = some (.aload_n 0) := rfl
set_option maxRecDepth 100000 in
theorem yb3s_192 : j_code jP 61 192 = some (.getfield 42) := rfl
set_option maxRecDepth 100000 in
theorem yb3s_195 : j_code jP 61 195 = some (.iconst 0) := rfl
set_option maxRecDepth 100000 in
theorem yb3s_196 : j_code jP 61 196 = some (.aload_n 0) := rfl
set_option maxRecDepth 100000 in
theorem yb3s_197 : j_code jP 61 197 = some (.getfield 42) := rfl
set_option maxRecDepth 100000 in
theorem yb3s_200 : j_code jP 61 200 = some (.arraylength) := rfl
set_option maxRecDepth 100000 in
theorem yb3s_201 : j_code jP 61 201 = some (.invokestatic 84) := rfl
set_option maxRecDepth 100000 in
theorem yb3s_204 : j_code jP 61 204 = some (.aload_n 1) := rfl
set_option maxRecDepth 100000 in
theorem yb3s_205 : j_code jP 61 205 = some (.getfield 45) := rfl
set_option maxRecDepth 100000 in
theorem yb3s_208 : j_code jP 61 208 = some (.iconst 0) := rfl
set_option maxRecDepth 100000 in
theorem yb3s_209 : j_code jP 61 209 = some (.aload_n 0) := rfl
set_option maxRecDepth 100000 in
theorem yb3s_210 : j_code jP 61 210 = some (.getfield 45) := rfl
set_option maxRecDepth 100000 in
theorem yb3s_213 : j_code jP 61 213 = some (.iconst 0) := rfl
set_option maxRecDepth 100000 in
theorem yb3s_214 : j_code jP 61 214 = some (.aload_n 0) := rfl
set_option maxRecDepth 100000 in
theorem yb3s_215 : j_code jP 61 215 = some (.getfield 45) := rfl
set_option maxRecDepth 100000 in
theorem yb3s_218 : j_code jP 61 218 = some (.arraylength) := rfl
set_option maxRecDepth 100000 in
theorem yb3s_219 : j_code jP 61 219 = some (.invokestatic 84) := rfl
set_option maxRecDepth 100000 in
theorem yb3s_222 : j_code jP 61 222 = some (.aload_n 0) := rfl
set_option maxRecDepth 100000 in
theorem yb3s_223 : j_code jP 61 223 = some (.getfield 60) := rfl
set_option maxRecDepth 100000 in
theorem yb3s_226 : j_code jP 61 226 = some (.aload_n 1) := rfl
set_option maxRecDepth 100000 in
theorem yb3s_227 : j_code jP 61 227 = some (.getfield 60) := rfl
set_option maxRecDepth 100000 in
theorem yb3s_230 : j_code jP 61 230 = some (.invokevirtual 108) := rfl
set_option maxRecDepth 100000 in
theorem yb3s_233 : j_code jP 61 233 = some (.return_) := rfl
set_option maxRecDepth 1000000 in
theorem yb3s_k0 {ly : Value} {mi : Int32} {shu : Int32} {bus : Int32} {lks : Int32} {lys : Nat} {mis : Int32} {shus : Int32} {buss : Int32} {lkss : Int32} {d : Nat} {lv : J_L} {h h0 : J_H} {Q : Option Value → J_H → Prop} (L : LK lv [(0, .ref 4), (1, .ref 106)]) (K : KN h [(4, .inl (7, [ly, .int mi, .int shu, .int bus, .ref 5, .ref 6, .ref 7, .ref 8, .ref 9, .ref 10, .ref 11, .ref 12, .ref 13, .ref 14, .ref 15, .int lks, .ref 16, .ref 17, .ref 20])), (106, .inl (7, [.ref lys, .int mis, .int shus, .int buss, .ref 107, .ref 108, .ref 109, .ref 110, .ref 111, .ref 112, .ref 113, .ref 114, .ref 115, .ref 116, .ref 117, .int lkss, .ref 118, .ref 119, .ref 122]))] h0) (kk : ∀ lv h, LK lv [(0, .ref 4), (1, .ref 106)] → KN h [(4, .inl (7, [.ref lys, .int mis, .int shus, .int buss, .ref 5, .ref 6, .ref 7, .ref 8, .ref 9, .ref 10, .ref 11, .ref 12, .ref 13, .ref 14, .ref 15, .int lkss, .ref 16, .ref 17, .ref 20])), (106, .inl (7, [.ref lys, .int mis, .int shus, .int buss, .ref 107, .ref 108, .ref 109, .ref 110, .ref 111, .ref 112, .ref 113, .ref 114, .ref 115, .ref 116, .ref 117, .int lkss, .ref 118, .ref 119, .ref 122]))] h0 → j_V jP d 61 40 lv [] h Q) : j_V jP d 61 0 lv [] h Q := by
  refine j_V.ldL yb3s_M yb3s_0 rfl (i := 0) (kd := 2) (v := .ref 4) (pcJ := 1) rfl L rfl rfl rfl ?_
  refine j_V.ldL yb3s_M yb3s_1 rfl (i := 1) (kd := 2) (v := .ref 106) (pcJ := 2) rfl L rfl rfl rfl ?_
  refine j_V.getK yb3s_M yb3s_2 (ci := 7) (j := 0) rfl K rfl rfl ?_
  refine j_V.putK yb3s_M yb3s_5 (ci := 7) (j := 0) (k' := [(4, .inl (7, [.ref lys, .int mi, .int shu, .int bus, .ref 5, .ref 6, .ref 7, .ref 8, .ref 9, .ref 10, .ref 11, .ref 12, .ref 13, .ref 14, .ref 15, .int lks, .ref 16, .ref 17, .ref 20])), (106, .inl (7, [.ref lys, .int mis, .int shus, .int buss, .ref 107, .ref 108, .ref 109, .ref 110, .ref 111, .ref 112, .ref 113, .ref 114, .ref 115, .ref 116, .ref 117, .int lkss, .ref 118, .ref 119, .ref 122]))]) rfl K rfl (Nat.le_of_ble_eq_true rfl) rfl (Or.inl rfl) rfl rfl (fun h K => ?_)
  refine j_V.ldL yb3s_M yb3s_8 rfl (i := 0) (kd := 2) (v := .ref 4) (pcJ := 9) rfl L rfl rfl rfl ?_
  refine j_V.ldL yb3s_M yb3s_9 rfl (i := 1) (kd := 2) (v := .ref 106) (pcJ := 10) rfl L rfl rfl rfl ?_
  refine j_V.getK yb3s_M yb3s_10 (ci := 7) (j := 1) rfl K rfl rfl ?_
  refine j_V.putK yb3s_M yb3s_13 (ci := 7) (j := 1) (k' := [(4, .inl (7, [.ref lys, .int mis, .int shu, .int bus, .ref 5, .ref 6, .ref 7, .ref 8, .ref 9, .ref 10, .ref 11, .ref 12, .ref 13, .ref 14, .ref 15, .int lks, .ref 16, .ref 17, .ref 20])), (106, .inl (7, [.ref lys, .int mis, .int shus, .int buss, .ref 107, .ref 108, .ref 109, .ref 110, .ref 111, .ref 112, .ref 113, .ref 114, .ref 115, .ref 116, .ref 117, .int lkss, .ref 118, .ref 119, .ref 122]))]) rfl K rfl (Nat.le_of_ble_eq_true rfl) rfl (Or.inl rfl) rfl rfl (fun h K => ?_)
  refine j_V.ldL yb3s_M yb3s_16 rfl (i := 0) (kd := 2) (v := .ref 4) (pcJ := 17) rfl L rfl rfl rfl ?_
  refine j_V.ldL yb3s_M yb3s_17 rfl (i := 1) (kd := 2) (v := .ref 106) (pcJ := 18) rfl L rfl rfl rfl ?_
  refine j_V.getK yb3s_M yb3s_18 (ci := 7) (j := 2) rfl K rfl rfl ?_
  refine j_V.putK yb3s_M yb3s_21 (ci := 7) (j := 2) (k' := [(4, .inl (7, [.ref lys, .int mis, .int shus, .int bus, .ref 5, .ref 6, .ref 7, .ref 8, .ref 9, .ref 10, .ref 11, .ref 12, .ref 13, .ref 14, .ref 15, .int lks, .ref 16, .ref 17, .ref 20])), (106, .inl (7, [.ref lys, .int mis, .int shus, .int buss, .ref 107, .ref 108, .ref 109, .ref 110, .ref 111, .ref 112, .ref 113, .ref 114, .ref 115, .ref 116, .ref 117, .int lkss, .ref 118, .ref 119, .ref 122]))]) rfl K rfl (Nat.le_of_ble_eq_true rfl) rfl (Or.inl rfl) rfl rfl (fun h K => ?_)
  refine j_V.ldL yb3s_M yb3s_24 rfl (i := 0) (kd := 2) (v := .ref 4) (pcJ := 25) rfl L rfl rfl rfl ?_
  refine j_V.ldL yb3s_M yb3s_25 rfl (i := 1) (kd := 2) (v := .ref 106) (pcJ := 26) rfl L rfl rfl rfl ?_
  refine j_V.getK yb3s_M yb3s_26 (ci := 7) (j := 3) rfl K rfl rfl ?_
  refine j_V.putK yb3s_M yb3s_29 (ci := 7) (j := 3) (k' := [(4, .inl (7, [.ref lys, .int mis, .int shus, .int buss, .ref 5, .ref 6, .ref 7, .ref 8, .ref 9, .ref 10, .ref 11, .ref 12, .ref 13, .ref 14, .ref 15, .int lks, .ref 16, .ref 17, .ref 20])), (106, .inl (7, [.ref lys, .int mis, .int shus, .int buss, .ref 107, .ref 108, .ref 109, .ref 110, .ref 111, .ref 112, .ref 113, .ref 114, .ref 115, .ref 116, .ref 117, .int lkss, .ref 118, .ref 119, .ref 122]))]) rfl K rfl (Nat.le_of_ble_eq_true rfl) rfl (Or.inl rfl) rfl rfl (fun h K => ?_)
  refine j_V.ldL yb3s_M yb3s_32 rfl (i := 0) (kd := 2) (v := .ref 4) (pcJ := 33) rfl L rfl rfl rfl ?_
  refine j_V.ldL yb3s_M yb3s_33 rfl (i := 1) (kd := 2) (v := .ref 106) (pcJ := 34) rfl L rfl rfl rfl ?_
  refine j_V.getK yb3s_M yb3s_34 (ci := 7) (j := 15) rfl K rfl rfl ?_
  refine j_V.putK yb3s_M yb3s_37 (ci := 7) (j := 15) (k' := [(4, .inl (7, [.ref lys, .int mis, .int shus, .int buss, .ref 5, .ref 6, .ref 7, .ref 8, .ref 9, .ref 10, .ref 11, .ref 12, .ref 13, .ref 14, .ref 15, .int lkss, .ref 16, .ref 17, .ref 20])), (106, .inl (7, [.ref lys, .int mis, .int shus, .int buss, .ref 107, .ref 108, .ref 109, .ref 110, .ref 111, .ref 112, .ref 113, .ref 114, .ref 115, .ref 116, .ref 117, .int lkss, .ref 118, .ref 119, .ref 122]))]) rfl K rfl (Nat.le_of_ble_eq_true rfl) rfl (Or.inl rfl) rfl rfl (fun h K => ?_)
  exact kk _ _ L K
set_option maxRecDepth 1000000 in
theorem yb3s_k40 {rk : List Int32} {sta : List Int32} {ph : List Int32} {lys : Nat} {mis : Int32} {shus : Int32} {buss : Int32} {lkss : Int32} {rks : List Int32} {stas : List Int32} {phs : List Int32} {d : Nat} {lv : J_L} {h h0 : J_H} {Q : Option Value → J_H → Prop} (L : LK lv [(0, .ref 4), (1, .ref 106)]) (K : KN h [(4, .inl (7, [.ref lys, .int mis, .int shus, .int buss, .ref 5, .ref 6, .ref 7, .ref 8, .ref 9, .ref 10, .ref 11, .ref 12, .ref 13, .ref 14, .ref 15, .int lkss, .ref 16, .ref 17, .ref 20])), (5, .inr (.inl (0, rk))), (6, .inr (.inl (0, sta))), (7, .inr (.inl (0, ph))), (106, .inl (7, [.ref lys, .int mis, .int shus, .int buss, .ref 107, .ref 108, .ref 109, .ref 110, .ref 111, .ref 112, .ref 113, .ref 114, .ref 115, .ref 116, .ref 117, .int lkss, .ref 118, .ref 119, .ref 122])), (107, .inr (.inl (0, rks))), (108, .inr (.inl (0, stas))), (109, .inr (.inl (0, phs)))] h0) (kk : ∀ lv h, LK lv [(0, .ref 4), (1, .ref 106)] → KN h [(4, .inl (7, [.ref lys, .int mis, .int shus, .int buss, .ref 5, .ref 6, .ref 7, .ref 8, .ref 9, .ref 10, .ref 11, .ref 12, .ref 13, .ref 14, .ref 15, .int lkss, .ref 16, .ref 17, .ref 20])), (5, .inr (.inl (0, (aC 5 rks rk)))), (6, .inr (.inl (0, (aC 5 stas sta)))), (7, .inr (.inl (0, (aC 5 phs ph)))), (106, .inl (7, [.ref lys, .int mis, .int shus, .int buss, .ref 107, .ref 108, .ref 109, .ref 110, .ref 111, .ref 112, .ref 113, .ref 114, .ref 115, .ref 116, .ref 117, .int lkss, .ref 118, .ref 119, .ref 122])), (107, .inr (.inl (0, rks))), (108, .inr (.inl (0, stas))), (109, .inr (.inl (0, phs)))] h0 → j_V jP d 61 82 lv [] h Q) : j_V jP d 61 40 lv [] h Q := by
  refine j_V.ldL yb3s_M yb3s_40 rfl (i := 1) (kd := 2) (v := .ref 106) (pcJ := 41) rfl L rfl rfl rfl ?_
  refine j_V.getK yb3s_M yb3s_41 (ci := 7) (j := 4) rfl K rfl rfl ?_
  refine j_V.one yb3s_M yb3s_44 (by decide) (pcJ := 45) (stJ := [.int 0, .ref 107]) rfl ?_
  refine j_V.ldL yb3s_M yb3s_45 rfl (i := 0) (kd := 2) (v := .ref 4) (pcJ := 46) rfl L rfl rfl rfl ?_
  refine j_V.getK yb3s_M yb3s_46 (ci := 7) (j := 4) rfl K rfl rfl ?_
  refine j_V.one yb3s_M yb3s_49 (by decide) (pcJ := 50) (stJ := [.int 0, .ref 5, .int 0, .ref 107]) rfl ?_
  refine j_V.one yb3s_M yb3s_50 (by decide) (pcJ := 51) (stJ := [.int 5, .int 0, .ref 5, .int 0, .ref 107]) rfl ?_
  refine j_V.acp yb3s_M yb3s_51 rfl rfl K rfl rfl rfl (fun h K => ?_)
  refine j_V.ldL yb3s_M yb3s_54 rfl (i := 1) (kd := 2) (v := .ref 106) (pcJ := 55) rfl L rfl rfl rfl ?_
  refine j_V.getK yb3s_M yb3s_55 (ci := 7) (j := 5) rfl K rfl rfl ?_
  refine j_V.one yb3s_M yb3s_58 (by decide) (pcJ := 59) (stJ := [.int 0, .ref 108]) rfl ?_
  refine j_V.ldL yb3s_M yb3s_59 rfl (i := 0) (kd := 2) (v := .ref 4) (pcJ := 60) rfl L rfl rfl rfl ?_
  refine j_V.getK yb3s_M yb3s_60 (ci := 7) (j := 5) rfl K rfl rfl ?_
  refine j_V.one yb3s_M yb3s_63 (by decide) (pcJ := 64) (stJ := [.int 0, .ref 6, .int 0, .ref 108]) rfl ?_
  refine j_V.one yb3s_M yb3s_64 (by decide) (pcJ := 65) (stJ := [.int 5, .int 0, .ref 6, .int 0, .ref 108]) rfl ?_
  refine j_V.acp yb3s_M yb3s_65 rfl rfl K rfl rfl rfl (fun h K => ?_)
  refine j_V.ldL yb3s_M yb3s_68 rfl (i := 1) (kd := 2) (v := .ref 106) (pcJ := 69) rfl L rfl rfl rfl ?_
  refine j_V.getK yb3s_M yb3s_69 (ci := 7) (j := 6) rfl K rfl rfl ?_
  refine j_V.one yb3s_M yb3s_72 (by decide) (pcJ := 73) (stJ := [.int 0, .ref 109]) rfl ?_
  refine j_V.ldL yb3s_M yb3s_73 rfl (i := 0) (kd := 2) (v := .ref 4) (pcJ := 74) rfl L rfl rfl rfl ?_
  refine j_V.getK yb3s_M yb3s_74 (ci := 7) (j := 6) rfl K rfl rfl ?_
  refine j_V.one yb3s_M yb3s_77 (by decide) (pcJ := 78) (stJ := [.int 0, .ref 7, .int 0, .ref 109]) rfl ?_
  refine j_V.one yb3s_M yb3s_78 (by decide) (pcJ := 79) (stJ := [.int 5, .int 0, .ref 7, .int 0, .ref 109]) rfl ?_
  refine j_V.acp yb3s_M yb3s_79 rfl rfl K rfl rfl rfl (fun h K => ?_)
  exact kk _ _ L K
set_option maxRecDepth 1000000 in
theorem yb3s_k82 {sp : List Int32} {ce : List Int32} {du : List Int32} {lys : Nat} {mis : Int32} {shus : Int32} {buss : Int32} {lkss : Int32} {sps : List Int32} {ces : List Int32} {dus : List Int32} {d : Nat} {lv : J_L} {h h0 : J_H} {Q : Option Value → J_H → Prop} (L : LK lv [(0, .ref 4), (1, .ref 106)]) (K : KN h [(4, .inl (7, [.ref lys, .int mis, .int shus, .int buss, .ref 5, .ref 6, .ref 7, .ref 8, .ref 9, .ref 10, .ref 11, .ref 12, .ref 13, .ref 14, .ref 15, .int lkss, .ref 16, .ref 17, .ref 20])), (8, .inr (.inl (0, sp))), (9, .inr (.inl (0, ce))), (10, .inr (.inl (0, du))), (106, .inl (7, [.ref lys, .int mis, .int shus, .int buss, .ref 107, .ref 108, .ref 109, .ref 110, .ref 111, .ref 112, .ref 113, .ref 114, .ref 115, .ref 116, .ref 117, .int lkss, .ref 118, .ref 119, .ref 122])), (110, .inr (.inl (0, sps))), (111, .inr (.inl (0, ces))), (112, .inr (.inl (0, dus)))] h0) (kk : ∀ lv h, LK lv [(0, .ref 4), (1, .ref 106)] → KN h [(4, .inl (7, [.ref lys, .int mis, .int shus, .int buss, .ref 5, .ref 6, .ref 7, .ref 8, .ref 9, .ref 10, .ref 11, .ref 12, .ref 13, .ref 14, .ref 15, .int lkss, .ref 16, .ref 17, .ref 20])), (8, .inr (.inl (0, (aC 5 sps sp)))), (9, .inr (.inl (0, (aC 5 ces ce)))), (10, .inr (.inl (0, (aC 5 dus du)))), (106, .inl (7, [.ref lys, .int mis, .int shus, .int buss, .ref 107, .ref 108, .ref 109, .ref 110, .ref 111, .ref 112, .ref 113, .ref 114, .ref 115, .ref 116, .ref 117, .int lkss, .ref 118, .ref 119, .ref 122])), (110, .inr (.inl (0, sps))), (111, .inr (.inl (0, ces))), (112, .inr (.inl (0, dus)))] h0 → j_V jP d 61 124 lv [] h Q) : j_V jP d 61 82 lv [] h Q := by
  refine j_V.ldL yb3s_M yb3s_82 rfl (i := 1) (kd := 2) (v := .ref 106) (pcJ := 83) rfl L rfl rfl rfl ?_
  refine j_V.getK yb3s_M yb3s_83 (ci := 7) (j := 7) rfl K rfl rfl ?_
  refine j_V.one yb3s_M yb3s_86 (by decide) (pcJ := 87) (stJ := [.int 0, .ref 110]) rfl ?_
  refine j_V.ldL yb3s_M yb3s_87 rfl (i := 0) (kd := 2) (v := .ref 4) (pcJ := 88) rfl L rfl rfl rfl ?_
  refine j_V.getK yb3s_M yb3s_88 (ci := 7) (j := 7) rfl K rfl rfl ?_
  refine j_V.one yb3s_M yb3s_91 (by decide) (pcJ := 92) (stJ := [.int 0, .ref 8, .int 0, .ref 110]) rfl ?_
  refine j_V.one yb3s_M yb3s_92 (by decide) (pcJ := 93) (stJ := [.int 5, .int 0, .ref 8, .int 0, .ref 110]) rfl ?_
  refine j_V.acp yb3s_M yb3s_93 rfl rfl K rfl rfl rfl (fun h K => ?_)
  refine j_V.ldL yb3s_M yb3s_96 rfl (i := 1) (kd := 2) (v := .ref 106) (pcJ := 97) rfl L rfl rfl rfl ?_
  refine j_V.getK yb3s_M yb3s_97 (ci := 7) (j := 8) rfl K rfl rfl ?_
  refine j_V.one yb3s_M yb3s_100 (by decide) (pcJ := 101) (stJ := [.int 0, .ref 111]) rfl ?_
  refine j_V.ldL yb3s_M yb3s_101 rfl (i := 0) (kd := 2) (v := .ref 4) (pcJ := 102) rfl L rfl rfl rfl ?_
  refine j_V.getK yb3s_M yb3s_102 (ci := 7) (j := 8) rfl K rfl rfl ?_
  refine j_V.one yb3s_M yb3s_105 (by decide) (pcJ := 106) (stJ := [.int 0, .ref 9, .int 0, .ref 111]) rfl ?_
  refine j_V.one yb3s_M yb3s_106 (by decide) (pcJ := 107) (stJ := [.int 5, .int 0, .ref 9, .int 0, .ref 111]) rfl ?_
  refine j_V.acp yb3s_M yb3s_107 rfl rfl K rfl rfl rfl (fun h K => ?_)
  refine j_V.ldL yb3s_M yb3s_110 rfl (i := 1) (kd := 2) (v := .ref 106) (pcJ := 111) rfl L rfl rfl rfl ?_
  refine j_V.getK yb3s_M yb3s_111 (ci := 7) (j := 9) rfl K rfl rfl ?_
  refine j_V.one yb3s_M yb3s_114 (by decide) (pcJ := 115) (stJ := [.int 0, .ref 112]) rfl ?_
  refine j_V.ldL yb3s_M yb3s_115 rfl (i := 0) (kd := 2) (v := .ref 4) (pcJ := 116) rfl L rfl rfl rfl ?_
  refine j_V.getK yb3s_M yb3s_116 (ci := 7) (j := 9) rfl K rfl rfl ?_
  refine j_V.one yb3s_M yb3s_119 (by decide) (pcJ := 120) (stJ := [.int 0, .ref 10, .int 0, .ref 112]) rfl ?_
  refine j_V.one yb3s_M yb3s_120 (by decide) (pcJ := 121) (stJ := [.int 5, .int 0, .ref 10, .int 0, .ref 112]) rfl ?_
  refine j_V.acp yb3s_M yb3s_121 rfl rfl K rfl rfl rfl (fun h K => ?_)
  exact kk _ _ L K
set_option maxRecDepth 1000000 in
theorem yb3s_k124 {he : List Int32} {ri : List Int32} {us : List Int32} {lys : Nat} {mis : Int32} {shus : Int32} {buss : Int32} {lkss : Int32} {hes : List Int32} {ris : List Int32} {uss : List Int32} {d : Nat} {lv : J_L} {h h0 : J_H} {Q : Option Value → J_H → Prop} (L : LK lv [(0, .ref 4), (1, .ref 106)]) (K : KN h [(4, .inl (7, [.ref lys, .int mis, .int shus, .int buss, .ref 5, .ref 6, .ref 7, .ref 8, .ref 9, .ref 10, .ref 11, .ref 12, .ref 13, .ref 14, .ref 15, .int lkss, .ref 16, .ref 17, .ref 20])), (11, .inr (.inl (0, he))), (12, .inr (.inl (0, ri))), (13, .inr (.inl (0, us))), (106, .inl (7, [.ref lys, .int mis, .int shus, .int buss, .ref 107, .ref 108, .ref 109, .ref 110, .ref 111, .ref 112, .ref 113, .ref 114, .ref 115, .ref 116, .ref 117, .int lkss, .ref 118, .ref 119, .ref 122])), (113, .inr (.inl (0, hes))), (114, .inr (.inl (0, ris))), (115, .inr (.inl (0, uss)))] h0) (kk : ∀ lv h, LK lv [(0, .ref 4), (1, .ref 106)] → KN h [(4, .inl (7, [.ref lys, .int mis, .int shus, .int buss, .ref 5, .ref 6, .ref 7, .ref 8, .ref 9, .ref 10, .ref 11, .ref 12, .ref 13, .ref 14, .ref 15, .int lkss, .ref 16, .ref 17, .ref 20])), (11, .inr (.inl (0, (aC 5 hes he)))), (12, .inr (.inl (0, (aC 6 ris ri)))), (13, .inr (.inl (0, (aC 6 uss us)))), (106, .inl (7, [.ref lys, .int mis, .int shus, .int buss, .ref 107, .ref 108, .ref 109, .ref 110, .ref 111, .ref 112, .ref 113, .ref 114, .ref 115, .ref 116, .ref 117, .int lkss, .ref 118, .ref 119, .ref 122])), (113, .inr (.inl (0, hes))), (114, .inr (.inl (0, ris))), (115, .inr (.inl (0, uss)))] h0 → j_V jP d 61 168 lv [] h Q) : j_V jP d 61 124 lv [] h Q := by
  refine j_V.ldL yb3s_M yb3s_124 rfl (i := 1) (kd := 2) (v := .ref 106) (pcJ := 125) rfl L rfl rfl rfl ?_
  refine j_V.getK yb3s_M yb3s_125 (ci := 7) (j := 10) rfl K rfl rfl ?_
  refine j_V.one yb3s_M yb3s_128 (by decide) (pcJ := 129) (stJ := [.int 0, .ref 113]) rfl ?_
  refine j_V.ldL yb3s_M yb3s_129 rfl (i := 0) (kd := 2) (v := .ref 4) (pcJ := 130) rfl L rfl rfl rfl ?_
  refine j_V.getK yb3s_M yb3s_130 (ci := 7) (j := 10) rfl K rfl rfl ?_
  refine j_V.one yb3s_M yb3s_133 (by decide) (pcJ := 134) (stJ := [.int 0, .ref 11, .int 0, .ref 113]) rfl ?_
  refine j_V.one yb3s_M yb3s_134 (by decide) (pcJ := 135) (stJ := [.int 5, .int 0, .ref 11, .int 0, .ref 113]) rfl ?_
  refine j_V.acp yb3s_M yb3s_135 rfl rfl K rfl rfl rfl (fun h K => ?_)
  refine j_V.ldL yb3s_M yb3s_138 rfl (i := 1) (kd := 2) (v := .ref 106) (pcJ := 139) rfl L rfl rfl rfl ?_
  refine j_V.getK yb3s_M yb3s_139 (ci := 7) (j := 11) rfl K rfl rfl ?_
  refine j_V.one yb3s_M yb3s_142 (by decide) (pcJ := 143) (stJ := [.int 0, .ref 114]) rfl ?_
  refine j_V.ldL yb3s_M yb3s_143 rfl (i := 0) (kd := 2) (v := .ref 4) (pcJ := 144) rfl L rfl rfl rfl ?_
  refine j_V.getK yb3s_M yb3s_144 (ci := 7) (j := 11) rfl K rfl rfl ?_
  refine j_V.one yb3s_M yb3s_147 (by decide) (pcJ := 148) (stJ := [.int 0, .ref 12, .int 0, .ref 114]) rfl ?_
  refine j_V.one yb3s_M yb3s_148 (by decide) (pcJ := 150) (stJ := [.int 6, .int 0, .ref 12, .int 0, .ref 114]) rfl ?_
  refine j_V.acp yb3s_M yb3s_150 rfl rfl K rfl rfl rfl (fun h K => ?_)
  refine j_V.ldL yb3s_M yb3s_153 rfl (i := 1) (kd := 2) (v := .ref 106) (pcJ := 154) rfl L rfl rfl rfl ?_
  refine j_V.getK yb3s_M yb3s_154 (ci := 7) (j := 12) rfl K rfl rfl ?_
  refine j_V.one yb3s_M yb3s_157 (by decide) (pcJ := 158) (stJ := [.int 0, .ref 115]) rfl ?_
  refine j_V.ldL yb3s_M yb3s_158 rfl (i := 0) (kd := 2) (v := .ref 4) (pcJ := 159) rfl L rfl rfl rfl ?_
  refine j_V.getK yb3s_M yb3s_159 (ci := 7) (j := 12) rfl K rfl rfl ?_
  refine j_V.one yb3s_M yb3s_162 (by decide) (pcJ := 163) (stJ := [.int 0, .ref 13, .int 0, .ref 115]) rfl ?_
  refine j_V.one yb3s_M yb3s_163 (by decide) (pcJ := 165) (stJ := [.int 6, .int 0, .ref 13, .int 0, .ref 115]) rfl ?_
  refine j_V.acp yb3s_M yb3s_165 rfl rfl K rfl rfl rfl (fun h K => ?_)
  exact kk _ _ L K
set_option maxRecDepth 1000000 in
theorem yb3s_k168 {cm : List Int32} {lf : List Int32} {lkd : List Int32} {lys : Nat} {mis : Int32} {shus : Int32} {buss : Int32} {lkss : Int32} {cms : List Int32} {lfs : List Int32} {lkds : List Int32} {d : Nat} {lv : J_L} {h h0 : J_H} {Q : Option Value → J_H → Prop} (L : LK lv [(0, .ref 4), (1, .ref 106)]) (K : KN h [(4, .inl (7, [.ref lys, .int mis, .int shus, .int buss, .ref 5, .ref 6, .ref 7, .ref 8, .ref 9, .ref 10, .ref 11, .ref 12, .ref 13, .ref 14, .ref 15, .int lkss, .ref 16, .ref 17, .ref 20])), (14, .inr (.inl (0, cm))), (15, .inr (.inl (0, lf))), (16, .inr (.inl (0, lkd))), (106, .inl (7, [.ref lys, .int mis, .int shus, .int buss, .ref 107, .ref 108, .ref 109, .ref 110, .ref 111, .ref 112, .ref 113, .ref 114, .ref 115, .ref 116, .ref 117, .int lkss, .ref 118, .ref 119, .ref 122])), (116, .inr (.inl (0, cms))), (117, .inr (.inl (0, lfs))), (118, .inr (.inl (0, lkds)))] h0) (kk : ∀ lv h, LK lv [(0, .ref 4), (1, .ref 106)] → KN h [(4, .inl (7, [.ref lys, .int mis, .int shus, .int buss, .ref 5, .ref 6, .ref 7, .ref 8, .ref 9, .ref 10, .ref 11, .ref 12, .ref 13, .ref 14, .ref 15, .int lkss, .ref 16, .ref 17, .ref 20])), (14, .inr (.inl (0, (aC (nI cm.length) cms cm)))), (15, .inr (.inl (0, (aC (nI lf.length) lfs lf)))), (16, .inr (.inl (0, (aC (nI lkd.length) lkds lkd)))), (106, .inl (7, [.ref lys, .int mis, .int shus, .int buss, .ref 107, .ref 108, .ref 109, .ref 110, .ref 111, .ref 112, .ref 113, .ref 114, .ref 115, .ref 116, .ref 117, .int lkss, .ref 118, .ref 119, .ref 122])), (116, .inr (.inl (0, cms))), (117, .inr (.inl (0, lfs))), (118, .inr (.inl (0, lkds)))] h0 → j_V jP d 61 222 lv [] h Q) : j_V jP d 61 168 lv [] h Q := by
  refine j_V.ldL yb3s_M yb3s_168 rfl (i := 1) (kd := 2) (v := .ref 106) (pcJ := 169) rfl L rfl rfl rfl ?_
  refine j_V.getK yb3s_M yb3s_169 (ci := 7) (j := 13) rfl K rfl rfl ?_
  refine j_V.one yb3s_M yb3s_172 (by decide) (pcJ := 173) (stJ := [.int 0, .ref 116]) rfl ?_
  refine j_V.ldL yb3s_M yb3s_173 rfl (i := 0) (kd := 2) (v := .ref 4) (pcJ := 174) rfl L rfl rfl rfl ?_
  refine j_V.getK yb3s_M yb3s_174 (ci := 7) (j := 13) rfl K rfl rfl ?_
  refine j_V.one yb3s_M yb3s_177 (by decide) (pcJ := 178) (stJ := [.int 0, .ref 14, .int 0, .ref 116]) rfl ?_
  refine j_V.ldL yb3s_M yb3s_178 rfl (i := 0) (kd := 2) (v := .ref 4) (pcJ := 179) rfl L rfl rfl rfl ?_
  refine j_V.getK yb3s_M yb3s_179 (ci := 7) (j := 13) rfl K rfl rfl ?_
  refine j_V.alnA yb3s_M yb3s_182 K rfl ?_
  refine j_V.acp yb3s_M yb3s_183 rfl rfl K rfl rfl rfl (fun h K => ?_)
  refine j_V.ldL yb3s_M yb3s_186 rfl (i := 1) (kd := 2) (v := .ref 106) (pcJ := 187) rfl L rfl rfl rfl ?_
  refine j_V.getK yb3s_M yb3s_187 (ci := 7) (j := 14) rfl K rfl rfl ?_
  refine j_V.one yb3s_M yb3s_190 (by decide) (pcJ := 191) (stJ := [.int 0, .ref 117]) rfl ?_
  refine j_V.ldL yb3s_M yb3s_191 rfl (i := 0) (kd := 2) (v := .ref 4) (pcJ := 192) rfl L rfl rfl rfl ?_
  refine j_V.getK yb3s_M yb3s_192 (ci := 7) (j := 14) rfl K rfl rfl ?_
  refine j_V.one yb3s_M yb3s_195 (by decide) (pcJ := 196) (stJ := [.int 0, .ref 15, .int 0, .ref 117]) rfl ?_
  refine j_V.ldL yb3s_M yb3s_196 rfl (i := 0) (kd := 2) (v := .ref 4) (pcJ := 197) rfl L rfl rfl rfl ?_
  refine j_V.getK yb3s_M yb3s_197 (ci := 7) (j := 14) rfl K rfl rfl ?_
  refine j_V.alnA yb3s_M yb3s_200 K rfl ?_
  refine j_V.acp yb3s_M yb3s_201 rfl rfl K rfl rfl rfl (fun h K => ?_)
  refine j_V.ldL yb3s_M yb3s_204 rfl (i := 1) (kd := 2) (v := .ref 106) (pcJ := 205) rfl L rfl rfl rfl ?_
  refine j_V.getK yb3s_M yb3s_205 (ci := 7) (j := 16) rfl K rfl rfl ?_
  refine j_V.one yb3s_M yb3s_208 (by decide) (pcJ := 209) (stJ := [.int 0, .ref 118]) rfl ?_
  refine j_V.ldL yb3s_M yb3s_209 rfl (i := 0) (kd := 2) (v := .ref 4) (pcJ := 210) rfl L rfl rfl rfl ?_
  refine j_V.getK yb3s_M yb3s_210 (ci := 7) (j := 16) rfl K rfl rfl ?_
  refine j_V.one yb3s_M yb3s_213 (by decide) (pcJ := 214) (stJ := [.int 0, .ref 16, .int 0, .ref 118]) rfl ?_
  refine j_V.ldL yb3s_M yb3s_214 rfl (i := 0) (kd := 2) (v := .ref 4) (pcJ := 215) rfl L rfl rfl rfl ?_
  refine j_V.getK yb3s_M yb3s_215 (ci := 7) (j := 16) rfl K rfl rfl ?_
  refine j_V.alnA yb3s_M yb3s_218 K rfl ?_
  refine j_V.acp yb3s_M yb3s_219 rfl rfl K rfl rfl rfl (fun h K => ?_)
  exact kk _ _ L K
set_option maxRecDepth 1000000 in
theorem yb3s_ok {ly : Value} {mi : Int32} {shu : Int32} {bus : Int32} {lks : Int32} {rk : List Int32} {sta : List Int32} {ph : List Int32} {sp : List Int32} {ce : List Int32} {du : List Int32} {he : List Int32} {ri : List Int32} {us : List Int32} {cm : List Int32} {lf : List Int32} {lkd : List Int32} {pev : Int32} {pms : List Int32} {pmm : List Int32} {pmt : List Int32} {pst : List Int32} {pwa : List Int32} {prs : List Int32} {prr : List Int32} {pfa : List Int32} {lys : Nat} {mis : Int32} {shus : Int32} {buss : Int32} {lkss : Int32} {rks : List Int32} {stas : List Int32} {phs : List Int32} {sps : List Int32} {ces : List Int32} {dus : List Int32} {hes : List Int32} {ris : List Int32} {uss : List Int32} {cms : List Int32} {lfs : List Int32} {lkds : List Int32} {pevs : Int32} {pmss : List Int32} {pmms : List Int32} {pmts : List Int32} {psts : List Int32} {pwas : List Int32} {prss : List Int32} {prrs : List Int32} {pfas : List Int32} {d : Nat} {h h0 : J_H} (K : KN h [(4, .inl (7, [ly, .int mi, .int shu, .int bus, .ref 5, .ref 6, .ref 7, .ref 8, .ref 9, .ref 10, .ref 11, .ref 12, .ref 13, .ref 14, .ref 15, .int lks, .ref 16, .ref 17, .ref 20])), (5, .inr (.inl (0, rk))), (6, .inr (.inl (0, sta))), (7, .inr (.inl (0, ph))), (8, .inr (.inl (0, sp))), (9, .inr (.inl (0, ce))), (10, .inr (.inl (0, du))), (11, .inr (.inl (0, he))), (12, .inr (.inl (0, ri))), (13, .inr (.inl (0, us))), (14, .inr (.inl (0, cm))), (15, .inr (.inl (0, lf))), (16, .inr (.inl (0, lkd))), (20, .inl (3, [.ref 21, .ref 22, .ref 23, .ref 24, .ref 25, .ref 26, .ref 27, .ref 28, .int pev, .int 1])), (21, .inr (.inl (0, pms))), (22, .inr (.inl (0, pmm))), (23, .inr (.inl (0, pmt))), (24, .inr (.inl (0, pst))), (25, .inr (.inl (0, pwa))), (26, .inr (.inl (0, prs))), (27, .inr (.inl (0, prr))), (28, .inr (.inl (0, pfa))), (106, .inl (7, [.ref lys, .int mis, .int shus, .int buss, .ref 107, .ref 108, .ref 109, .ref 110, .ref 111, .ref 112, .ref 113, .ref 114, .ref 115, .ref 116, .ref 117, .int lkss, .ref 118, .ref 119, .ref 122])), (107, .inr (.inl (0, rks))), (108, .inr (.inl (0, stas))), (109, .inr (.inl (0, phs))), (110, .inr (.inl (0, sps))), (111, .inr (.inl (0, ces))), (112, .inr (.inl (0, dus))), (113, .inr (.inl (0, hes))), (114, .inr (.inl (0, ris))), (115, .inr (.inl (0, uss))), (116, .inr (.inl (0, cms))), (117, .inr (.inl (0, lfs))), (118, .inr (.inl (0, lkds))), (122, .inl (3, [.ref 123, .ref 124, .ref 125, .ref 126, .ref 127, .ref 128, .ref 129, .ref 130, .int pevs, .int 1])), (123, .inr (.inl (0, pmss))), (124, .inr (.inl (0, pmms))), (125, .inr (.inl (0, pmts))), (126, .inr (.inl (0, psts))), (127, .inr (.inl (0, pwas))), (128, .inr (.inl (0, prss))), (129, .inr (.inl (0, prrs))), (130, .inr (.inl (0, pfas)))] h0) : j_V jP d 61 0 (lv_args 0 [.ref 4, .ref 106]) [] h (fun rv h' => rv = none ∧ KN h' [(4, .inl (7, [.ref lys, .int mis, .int shus, .int buss, .ref 5, .ref 6, .ref 7, .ref 8, .ref 9, .ref 10, .ref 11, .ref 12, .ref 13, .ref 14, .ref 15, .int lkss, .ref 16, .ref 17, .ref 20])), (5, .inr (.inl (0, (aC 5 rks rk)))), (6, .inr (.inl (0, (aC 5 stas sta)))), (7, .inr (.inl (0, (aC 5 phs ph)))), (8, .inr (.inl (0, (aC 5 sps sp)))), (9, .inr (.inl (0, (aC 5 ces ce)))), (10, .inr (.inl (0, (aC 5 dus du)))), (11, .inr (.inl (0, (aC 5 hes he)))), (12, .inr (.inl (0, (aC 6 ris ri)))), (13, .inr (.inl (0, (aC 6 uss us)))), (14, .inr (.inl (0, (aC (nI cm.length) cms cm)))), (15, .inr (.inl (0, (aC (nI lf.length) lfs lf)))), (16, .inr (.inl (0, (aC (nI lkd.length) lkds lkd)))), (20, .inl (3, [.ref 21, .ref 22, .ref 23, .ref 24, .ref 25, .ref 26, .ref 27, .ref 28, .int pevs, .int 1])), (21, .inr (.inl (0, (aC (nI pms.length) pmss pms)))), (22, .inr (.inl (0, (aC (nI pmm.length) pmms pmm)))), (23, .inr (.inl (0, (aC (nI pmt.length) pmts pmt)))), (24, .inr (.inl (0, (aC (nI pst.length) psts pst)))), (25, .inr (.inl (0, (aC (nI pwa.length) pwas pwa)))), (26, .inr (.inl (0, (aC (nI prs.length) prss prs)))), (27, .inr (.inl (0, (aC (nI prr.length) prrs prr)))), (28, .inr (.inl (0, (aC (nI pfa.length) pfas pfa)))), (106, .inl (7, [.ref lys, .int mis, .int shus, .int buss, .ref 107, .ref 108, .ref 109, .ref 110, .ref 111, .ref 112, .ref 113, .ref 114, .ref 115, .ref 116, .ref 117, .int lkss, .ref 118, .ref 119, .ref 122])), (107, .inr (.inl (0, rks))), (108, .inr (.inl (0, stas))), (109, .inr (.inl (0, phs))), (110, .inr (.inl (0, sps))), (111, .inr (.inl (0, ces))), (112, .inr (.inl (0, dus))), (113, .inr (.inl (0, hes))), (114, .inr (.inl (0, ris))), (115, .inr (.inl (0, uss))), (116, .inr (.inl (0, cms))), (117, .inr (.inl (0, lfs))), (118, .inr (.inl (0, lkds))), (122, .inl (3, [.ref 123, .ref 124, .ref 125, .ref 126, .ref 127, .ref 128, .ref 129, .ref 130, .int pevs, .int 1])), (123, .inr (.inl (0, pmss))), (124, .inr (.inl (0, pmms))), (125, .inr (.inl (0, pmts))), (126, .inr (.inl (0, psts))), (127, .inr (.inl (0, pwas))), (128, .inr (.inl (0, prss))), (129, .inr (.inl (0, prrs))), (130, .inr (.inl (0, pfas)))] h0) := by
  show j_V jP d 61 0 [(0, .ref 4), (1, .ref 106)] [] h _
  obtain ⟨lv, elv, L⟩ : ∃ lv, lv = [(0, .ref 4), (1, .ref 106)] ∧ LK lv [(0, .ref 4), (1, .ref 106)] := ⟨_, rfl, LK.rf⟩
  rw [← elv]
  clear elv
  refine yb3s_k0 L (K.fi [4, 106] rfl rfl) (fun lv h9 L K9 => ?_)
  have K : KN h9 [(4, .inl (7, [.ref lys, .int mis, .int shus, .int buss, .ref 5, .ref 6, .ref 7, .ref 8, .ref 9, .ref 10, .ref 11, .ref 12, .ref 13, .ref 14, .ref 15, .int lkss, .ref 16, .ref 17, .ref 20])), (5, .inr (.inl (0, rk))), (6, .inr (.inl (0, sta))), (7, .inr (.inl (0, ph))), (8, .inr (.inl (0, sp))), (9, .inr (.inl (0, ce))), (10, .inr (.inl (0, du))), (11, .inr (.inl (0, he))), (12, .inr (.inl (0, ri))), (13, .inr (.inl (0, us))), (14, .inr (.inl (0, cm))), (15, .inr (.inl (0, lf))), (16, .inr (.inl (0, lkd))), (20, .inl (3, [.ref 21, .ref 22, .ref 23, .ref 24, .ref 25, .ref 26, .ref 27, .ref 28, .int pev, .int 1])), (21, .inr (.inl (0, pms))), (22, .inr (.inl (0, pmm))), (23, .inr (.inl (0, pmt))), (24, .inr (.inl (0, pst))), (25, .inr (.inl (0, pwa))), (26, .inr (.inl (0, prs))), (27, .inr (.inl (0, prr))), (28, .inr (.inl (0, pfa))), (106, .inl (7, [.ref lys, .int mis, .int shus, .int buss, .ref 107, .ref 108, .ref 109, .ref 110, .ref 111, .ref 112, .ref 113, .ref 114, .ref 115, .ref 116, .ref 117, .int lkss, .ref 118, .ref 119, .ref 122])), (107, .inr (.inl (0, rks))), (108, .inr (.inl (0, stas))), (109, .inr (.inl (0, phs))), (110, .inr (.inl (0, sps))), (111, .inr (.inl (0, ces))), (112, .inr (.inl (0, dus))), (113, .inr (.inl (0, hes))), (114, .inr (.inl (0, ris))), (115, .inr (.inl (0, uss))), (116, .inr (.inl (0, cms))), (117, .inr (.inl (0, lfs))), (118, .inr (.inl (0, lkds))), (122, .inl (3, [.ref 123, .ref 124, .ref 125, .ref 126, .ref 127, .ref 128, .ref 129, .ref 130, .int pevs, .int 1])), (123, .inr (.inl (0, pmss))), (124, .inr (.inl (0, pmms))), (125, .inr (.inl (0, pmts))), (126, .inr (.inl (0, psts))), (127, .inr (.inl (0, pwas))), (128, .inr (.inl (0, prss))), (129, .inr (.inl (0, prrs))), (130, .inr (.inl (0, pfas)))] h0 := K.mg K9 rfl rfl
  clear K9
  refine yb3s_k40 L (K.fi [4, 5, 6, 7, 106, 107, 108, 109] rfl rfl) (fun lv h9 L K9 => ?_)
  have K : KN h9 [(4, .inl (7, [.ref lys, .int mis, .int shus, .int buss, .ref 5, .ref 6, .ref 7, .ref 8, .ref 9, .ref 10, .ref 11, .ref 12, .ref 13, .ref 14, .ref 15, .int lkss, .ref 16, .ref 17, .ref 20])), (5, .inr (.inl (0, (aC 5 rks rk)))), (6, .inr (.inl (0, (aC 5 stas sta)))), (7, .inr (.inl (0, (aC 5 phs ph)))), (8, .inr (.inl (0, sp))), (9, .inr (.inl (0, ce))), (10, .inr (.inl (0, du))), (11, .inr (.inl (0, he))), (12, .inr (.inl (0, ri))), (13, .inr (.inl (0, us))), (14, .inr (.inl (0, cm))), (15, .inr (.inl (0, lf))), (16, .inr (.inl (0, lkd))), (20, .inl (3, [.ref 21, .ref 22, .ref 23, .ref 24, .ref 25, .ref 26, .ref 27, .ref 28, .int pev, .int 1])), (21, .inr (.inl (0, pms))), (22, .inr (.inl (0, pmm))), (23, .inr (.inl (0, pmt))), (24, .inr (.inl (0, pst))), (25, .inr (.inl (0, pwa))), (26, .inr (.inl (0, prs))), (27, .inr (.inl (0, prr))), (28, .inr (.inl (0, pfa))), (106, .inl (7, [.ref lys, .int mis, .int shus, .int buss, .ref 107, .ref 108, .ref 109, .ref 110, .ref 111, .ref 112, .ref 113, .ref 114, .ref 115, .ref 116, .ref 117, .int lkss, .ref 118, .ref 119, .ref 122])), (107, .inr (.inl (0, rks))), (108, .inr (.inl (0, stas))), (109, .inr (.inl (0, phs))), (110, .inr (.inl (0, sps))), (111, .inr (.inl (0, ces))), (112, .inr (.inl (0, dus))), (113, .inr (.inl (0, hes))), (114, .inr (.inl (0, ris))), (115, .inr (.inl (0, uss))), (116, .inr (.inl (0, cms))), (117, .inr (.inl (0, lfs))), (118, .inr (.inl (0, lkds))), (122, .inl (3, [.ref 123, .ref 124, .ref 125, .ref 126, .ref 127, .ref 128, .ref 129, .ref 130, .int pevs, .int 1])), (123, .inr (.inl (0, pmss))), (124, .inr (.inl (0, pmms))), (125, .inr (.inl (0, pmts))), (126, .inr (.inl (0, psts))), (127, .inr (.inl (0, pwas))), (128, .inr (.inl (0, prss))), (129, .inr (.inl (0, prrs))), (130, .inr (.inl (0, pfas)))] h0 := K.mg K9 rfl rfl
  clear K9
  refine yb3s_k82 L (K.fi [4, 8, 9, 10, 106, 110, 111, 112] rfl rfl) (fun lv h9 L K9 => ?_)
  have K : KN h9 [(4, .inl (7, [.ref lys, .int mis, .int shus, .int buss, .ref 5, .ref 6, .ref 7, .ref 8, .ref 9, .ref 10, .ref 11, .ref 12, .ref 13, .ref 14, .ref 15, .int lkss, .ref 16, .ref 17, .ref 20])), (5, .inr (.inl (0, (aC 5 rks rk)))), (6, .inr (.inl (0, (aC 5 stas sta)))), (7, .inr (.inl (0, (aC 5 phs ph)))), (8, .inr (.inl (0, (aC 5 sps sp)))), (9, .inr (.inl (0, (aC 5 ces ce)))), (10, .inr (.inl (0, (aC 5 dus du)))), (11, .inr (.inl (0, he))), (12, .inr (.inl (0, ri))), (13, .inr (.inl (0, us))), (14, .inr (.inl (0, cm))), (15, .inr (.inl (0, lf))), (16, .inr (.inl (0, lkd))), (20, .inl (3, [.ref 21, .ref 22, .ref 23, .ref 24, .ref 25, .ref 26, .ref 27, .ref 28, .int pev, .int 1])), (21, .inr (.inl (0, pms))), (22, .inr (.inl (0, pmm))), (23, .inr (.inl (0, pmt))), (24, .inr (.inl (0, pst))), (25, .inr (.inl (0, pwa))), (26, .inr (.inl (0, prs))), (27, .inr (.inl (0, prr))), (28, .inr (.inl (0, pfa))), (106, .inl (7, [.ref lys, .int mis, .int shus, .int buss, .ref 107, .ref 108, .ref 109, .ref 110, .ref 111, .ref 112, .ref 113, .ref 114, .ref 115, .ref 116, .ref 117, .int lkss, .ref 118, .ref 119, .ref 122])), (107, .inr (.inl (0, rks))), (108, .inr (.inl (0, stas))), (109, .inr (.inl (0, phs))), (110, .inr (.inl (0, sps))), (111, .inr (.inl (0, ces))), (112, .inr (.inl (0, dus))), (113, .inr (.inl (0, hes))), (114, .inr (.inl (0, ris))), (115, .inr (.inl (0, uss))), (116, .inr (.inl (0, cms))), (117, .inr (.inl (0, lfs))), (118, .inr (.inl (0, lkds))), (122, .inl (3, [.ref 123, .ref 124, .ref 125, .ref 126, .ref 127, .ref 128, .ref 129, .ref 130, .int pevs, .int 1])), (123, .inr (.inl (0, pmss))), (124, .inr (.inl (0, pmms))), (125, .inr (.inl (0, pmts))), (126, .inr (.inl (0, psts))), (127, .inr (.inl (0, pwas))), (128, .inr (.inl (0, prss))), (129, .inr (.inl (0, prrs))), (130, .inr (.inl (0, pfas)))] h0 := K.mg K9 rfl rfl
  clear K9
  refine yb3s_k124 L (K.fi [4, 11, 12, 13, 106, 113, 114, 115] rfl rfl) (fun lv h9 L K9 => ?_)
  have K : KN h9 [(4, .inl (7, [.ref lys, .int mis, .int shus, .int buss, .ref 5, .ref 6, .ref 7, .ref 8, .ref 9, .ref 10, .ref 11, .ref 12, .ref 13, .ref 14, .ref 15, .int lkss, .ref 16, .ref 17, .ref 20])), (5, .inr (.inl (0, (aC 5 rks rk)))), (6, .inr (.inl (0, (aC 5 stas sta)))), (7, .inr (.inl (0, (aC 5 phs ph)))), (8, .inr (.inl (0, (aC 5 sps sp)))), (9, .inr (.inl (0, (aC 5 ces ce)))), (10, .inr (.inl (0, (aC 5 dus du)))), (11, .inr (.inl (0, (aC 5 hes he)))), (12, .inr (.inl (0, (aC 6 ris ri)))), (13, .inr (.inl (0, (aC 6 uss us)))), (14, .inr (.inl (0, cm))), (15, .inr (.inl (0, lf))), (16, .inr (.inl (0, lkd))), (20, .inl (3, [.ref 21, .ref 22, .ref 23, .ref 24, .ref 25, .ref 26, .ref 27, .ref 28, .int pev, .int 1])), (21, .inr (.inl (0, pms))), (22, .inr (.inl (0, pmm))), (23, .inr (.inl (0, pmt))), (24, .inr (.inl (0, pst))), (25, .inr (.inl (0, pwa))), (26, .inr (.inl (0, prs))), (27, .inr (.inl (0, prr))), (28, .inr (.inl (0, pfa))), (106, .inl (7, [.ref lys, .int mis, .int shus, .int buss, .ref 107, .ref 108, .ref 109, .ref 110, .ref 111, .ref 112, .ref 113, .ref 114, .ref 115, .ref 116, .ref 117, .int lkss, .ref 118, .ref 119, .ref 122])), (107, .inr (.inl (0, rks))), (108, .inr (.inl (0, stas))), (109, .inr (.inl (0, phs))), (110, .inr (.inl (0, sps))), (111, .inr (.inl (0, ces))), (112, .inr (.inl (0, dus))), (113, .inr (.inl (0, hes))), (114, .inr (.inl (0, ris))), (115, .inr (.inl (0, uss))), (116, .inr (.inl (0, cms))), (117, .inr (.inl (0, lfs))), (118, .inr (.inl (0, lkds))), (122, .inl (3, [.ref 123, .ref 124, .ref 125, .ref 126, .ref 127, .ref 128, .ref 129, .ref 130, .int pevs, .int 1])), (123, .inr (.inl (0, pmss))), (124, .inr (.inl (0, pmms))), (125, .inr (.inl (0, pmts))), (126, .inr (.inl (0, psts))), (127, .inr (.inl (0, pwas))), (128, .inr (.inl (0, prss))), (129, .inr (.inl (0, prrs))), (130, .inr (.inl (0, pfas)))] h0 := K.mg K9 rfl rfl
  clear K9
  refine yb3s_k168 L (K.fi [4, 14, 15, 16, 106, 116, 117, 118] rfl rfl) (fun lv h9 L K9 => ?_)
  have K : KN h9 [(4, .inl (7, [.ref lys, .int mis, .int shus, .int buss, .ref 5, .ref 6, .ref 7, .ref 8, .ref 9, .ref 10, .ref 11, .ref 12, .ref 13, .ref 14, .ref 15, .int lkss, .ref 16, .ref 17, .ref 20])), (5, .inr (.inl (0, (aC 5 rks rk)))), (6, .inr (.inl (0, (aC 5 stas sta)))), (7, .inr (.inl (0, (aC 5 phs ph)))), (8, .inr (.inl (0, (aC 5 sps sp)))), (9, .inr (.inl (0, (aC 5 ces ce)))), (10, .inr (.inl (0, (aC 5 dus du)))), (11, .inr (.inl (0, (aC 5 hes he)))), (12, .inr (.inl (0, (aC 6 ris ri)))), (13, .inr (.inl (0, (aC 6 uss us)))), (14, .inr (.inl (0, (aC (nI cm.length) cms cm)))), (15, .inr (.inl (0, (aC (nI lf.length) lfs lf)))), (16, .inr (.inl (0, (aC (nI lkd.length) lkds lkd)))), (20, .inl (3, [.ref 21, .ref 22, .ref 23, .ref 24, .ref 25, .ref 26, .ref 27, .ref 28, .int pev, .int 1])), (21, .inr (.inl (0, pms))), (22, .inr (.inl (0, pmm))), (23, .inr (.inl (0, pmt))), (24, .inr (.inl (0, pst))), (25, .inr (.inl (0, pwa))), (26, .inr (.inl (0, prs))), (27, .inr (.inl (0, prr))), (28, .inr (.inl (0, pfa))), (106, .inl (7, [.ref lys, .int mis, .int shus, .int buss, .ref 107, .ref 108, .ref 109, .ref 110, .ref 111, .ref 112, .ref 113, .ref 114, .ref 115, .ref 116, .ref 117, .int lkss, .ref 118, .ref 119, .ref 122])), (107, .inr (.inl (0, rks))), (108, .inr (.inl (0, stas))), (109, .inr (.inl (0, phs))), (110, .inr (.inl (0, sps))), (111, .inr (.inl (0, ces))), (112, .inr (.inl (0, dus))), (113, .inr (.inl (0, hes))), (114, .inr (.inl (0, ris))), (115, .inr (.inl (0, uss))), (116, .inr (.inl (0, cms))), (117, .inr (.inl (0, lfs))), (118, .inr (.inl (0, lkds))), (122, .inl (3, [.ref 123, .ref 124, .ref 125, .ref 126, .ref 127, .ref 128, .ref 129, .ref 130, .int pevs, .int 1])), (123, .inr (.inl (0, pmss))), (124, .inr (.inl (0, pmms))), (125, .inr (.inl (0, pmts))), (126, .inr (.inl (0, psts))), (127, .inr (.inl (0, pwas))), (128, .inr (.inl (0, prss))), (129, .inr (.inl (0, prrs))), (130, .inr (.inl (0, pfas)))] h0 := K.mg K9 rfl rfl
  clear K9
  refine j_V.ldL yb3s_M yb3s_222 rfl (i := 0) (kd := 2) (v := .ref 4) (pcJ := 223) rfl L rfl rfl rfl ?_
  refine j_V.getK yb3s_M yb3s_223 (ci := 7) (j := 18) rfl K rfl rfl ?_
  refine j_V.ldL yb3s_M yb3s_226 rfl (i := 1) (kd := 2) (v := .ref 106) (pcJ := 227) rfl L rfl rfl rfl ?_
  refine j_V.getK yb3s_M yb3s_227 (ci := 7) (j := 18) rfl K rfl rfl ?_
  refine j_V.cl yb3s_M yb3s_230 rfl (md := 3) (mj := 28) rfl (by decide) yb3p_M (As := [.ref 20, .ref 122]) (rest := []) (jk_spl3 (K.at rfl) rfl rfl rfl (Nat.le_of_ble_eq_true rfl) (Nat.le_of_ble_eq_true rfl)) (fun d => yb3p_ok (K.fi [20, 21, 22, 23, 24, 25, 26, 27, 28, 122, 123, 124, 125, 126, 127, 128, 129, 130] rfl rfl)) ?_
  rintro r h9 ⟨rfl, K9⟩
  have K : KN h9 [(4, .inl (7, [.ref lys, .int mis, .int shus, .int buss, .ref 5, .ref 6, .ref 7, .ref 8, .ref 9, .ref 10, .ref 11, .ref 12, .ref 13, .ref 14, .ref 15, .int lkss, .ref 16, .ref 17, .ref 20])), (5, .inr (.inl (0, (aC 5 rks rk)))), (6, .inr (.inl (0, (aC 5 stas sta)))), (7, .inr (.inl (0, (aC 5 phs ph)))), (8, .inr (.inl (0, (aC 5 sps sp)))), (9, .inr (.inl (0, (aC 5 ces ce)))), (10, .inr (.inl (0, (aC 5 dus du)))), (11, .inr (.inl (0, (aC 5 hes he)))), (12, .inr (.inl (0, (aC 6 ris ri)))), (13, .inr (.inl (0, (aC 6 uss us)))), (14, .inr (.inl (0, (aC (nI cm.length) cms cm)))), (15, .inr (.inl (0, (aC (nI lf.length) lfs lf)))), (16, .inr (.inl (0, (aC (nI lkd.length) lkds lkd)))), (20, .inl (3, [.ref 21, .ref 22, .ref 23, .ref 24, .ref 25, .ref 26, .ref 27, .ref 28, .int pevs, .int 1])), (21, .inr (.inl (0, (aC (nI pms.length) pmss pms)))), (22, .inr (.inl (0, (aC (nI pmm.length) pmms pmm)))), (23, .inr (.inl (0, (aC (nI pmt.length) pmts pmt)))), (24, .inr (.inl (0, (aC (nI pst.length) psts pst)))), (25, .inr (.inl (0, (aC (nI pwa.length) pwas pwa)))), (26, .inr (.inl (0, (aC (nI prs.length) prss prs)))), (27, .inr (.inl (0, (aC (nI prr.length) prrs prr)))), (28, .inr (.inl (0, (aC (nI pfa.length) pfas pfa)))), (106, .inl (7, [.ref lys, .int mis, .int shus, .int buss, .ref 107, .ref 108, .ref 109, .ref 110, .ref 111, .ref 112, .ref 113, .ref 114, .ref 115, .ref 116, .ref 117, .int lkss, .ref 118, .ref 119, .ref 122])), (107, .inr (.inl (0, rks))), (108, .inr (.inl (0, stas))), (109, .inr (.inl (0, phs))), (110, .inr (.inl (0, sps))), (111, .inr (.inl (0, ces))), (112, .inr (.inl (0, dus))), (113, .inr (.inl (0, hes))), (114, .inr (.inl (0, ris))), (115, .inr (.inl (0, uss))), (116, .inr (.inl (0, cms))), (117, .inr (.inl (0, lfs))), (118, .inr (.inl (0, lkds))), (122, .inl (3, [.ref 123, .ref 124, .ref 125, .ref 126, .ref 127, .ref 128, .ref 129, .ref 130, .int pevs, .int 1])), (123, .inr (.inl (0, pmss))), (124, .inr (.inl (0, pmms))), (125, .inr (.inl (0, pmts))), (126, .inr (.inl (0, psts))), (127, .inr (.inl (0, pwas))), (128, .inr (.inl (0, prss))), (129, .inr (.inl (0, prrs))), (130, .inr (.inl (0, pfas)))] h0 := K.mg K9 rfl rfl
  clear K9
  show j_V jP _ 61 233 lv [] h9 _
  exact j_V.ret yb3s_M yb3s_233 rfl rfl ⟨rfl, K⟩
set_option maxRecDepth 100000 in
theorem yb3m_M : j_meth jP 3 = some (yX0_takeBack, cX0_takeBack, 2, none, 1, false, 0) := rfl
set_option maxRecDepth 100000 in
theorem yb3m_0 : j_code jP 3 0 = some (.aload_n 0) := rfl
set_option maxRecDepth 100000 in
theorem yb3m_1 : j_code jP 3 1 = some (.aload_n 0) := rfl
set_option maxRecDepth 100000 in
theorem yb3m_2 : j_code jP 3 2 = some (.getfield 24) := rfl
set_option maxRecDepth 100000 in
theorem yb3m_5 : j_code jP 3 5 = some (.bipush 10) := rfl
set_option maxRecDepth 100000 in
theorem yb3m_7 : j_code jP 3 7 = some (.iadd) := rfl
set_option maxRecDepth 100000 in
theorem yb3m_8 : j_code jP 3 8 = some (.iconst 1) := rfl
set_option maxRecDepth 100000 in
theorem yb3m_9 : j_code jP 3 9 = some (.isub) := rfl
set_option maxRecDepth 100000 in
theorem yb3m_10 : j_code jP 3 10 = some (.bipush 10) := rfl
set_option maxRecDepth 100000 in
theorem yb3m_12 : j_code jP 3 12 = some (.irem) := rfl
set_option maxRecDepth 100000 in
theorem yb3m_13 : j_code jP 3 13 = some (.putfield 24) := rfl
set_option maxRecDepth 100000 in
theorem yb3m_16 : j_code jP 3 16 = some (.aload_n 0) := rfl
set_option maxRecDepth 100000 in
theorem yb3m_17 : j_code jP 3 17 = some (.dup) := rfl
set_option maxRecDepth 100000 in
theorem yb3m_18 : j_code jP 3 18 = some (.getfield 20) := rfl
set_option maxRecDepth 100000 in
theorem yb3m_21 : j_code jP 3 21 = some (.iconst 1) := rfl
set_option maxRecDepth 100000 in
theorem yb3m_22 : j_code jP 3 22 = some (.isub) := rfl
set_option maxRecDepth 100000 in
theorem yb3m_23 : j_code jP 3 23 = some (.putfield 20) := rfl
set_option maxRecDepth 100000 in
theorem yb3m_26 : j_code jP 3 26 = some (.aload_n 1) := rfl
set_option maxRecDepth 100000 in
theorem yb3m_27 : j_code jP 3 27 = some (.aload_n 0) := rfl
set_option maxRecDepth 100000 in
theorem yb3m_28 : j_code jP 3 28 = some (.getfield 11) := rfl
set_option maxRecDepth 100000 in
theorem yb3m_31 : j_code jP 3 31 = some (.aload_n 0) := rfl
set_option maxRecDepth 100000 in
theorem yb3m_32 : j_code jP 3 32 = some (.getfield 24) := rfl
set_option maxRecDepth 100000 in
theorem yb3m_35 : j_code jP 3 35 = some (.aaload) := rfl
set_option maxRecDepth 100000 in
theorem yb3m_36 : j_code jP 3 36 = some (.invokevirtual 27) := rfl
set_option maxRecDepth 100000 in
theorem yb3m_39 : j_code jP 3 39 = some (.return_) := rfl
set_option maxRecDepth 1000000 in
theorem yb3m_ok {ly : Value} {mi : Int32} {shu : Int32} {bus : Int32} {lks : Int32} {rk : List Int32} {sta : List Int32} {ph : List Int32} {sp : List Int32} {ce : List Int32} {du : List Int32} {he : List Int32} {ri : List Int32} {us : List Int32} {cm : List Int32} {lf : List Int32} {lkd : List Int32} {pev : Int32} {pms : List Int32} {pmm : List Int32} {pmt : List Int32} {pst : List Int32} {pwa : List Int32} {prs : List Int32} {prr : List Int32} {pfa : List Int32} {lys : Nat} {mis : Int32} {shus : Int32} {buss : Int32} {lkss : Int32} {rks : List Int32} {stas : List Int32} {phs : List Int32} {sps : List Int32} {ces : List Int32} {dus : List Int32} {hes : List Int32} {ris : List Int32} {uss : List Int32} {cms : List Int32} {lfs : List Int32} {lkds : List Int32} {pevs : Int32} {pmss : List Int32} {pmms : List Int32} {pmts : List Int32} {psts : List Int32} {pwas : List Int32} {prss : List Int32} {prrs : List Int32} {pfas : List Int32} {acco : Int32} {d : Nat} {h h0 : J_H} (K : KN h [(4, .inl (7, [ly, .int mi, .int shu, .int bus, .ref 5, .ref 6, .ref 7, .ref 8, .ref 9, .ref 10, .ref 11, .ref 12, .ref 13, .ref 14, .ref 15, .int lks, .ref 16, .ref 17, .ref 20])), (5, .inr (.inl (0, rk))), (6, .inr (.inl (0, sta))), (7, .inr (.inl (0, ph))), (8, .inr (.inl (0, sp))), (9, .inr (.inl (0, ce))), (10, .inr (.inl (0, du))), (11, .inr (.inl (0, he))), (12, .inr (.inl (0, ri))), (13, .inr (.inl (0, us))), (14, .inr (.inl (0, cm))), (15, .inr (.inl (0, lf))), (16, .inr (.inl (0, lkd))), (20, .inl (3, [.ref 21, .ref 22, .ref 23, .ref 24, .ref 25, .ref 26, .ref 27, .ref 28, .int pev, .int 1])), (21, .inr (.inl (0, pms))), (22, .inr (.inl (0, pmm))), (23, .inr (.inl (0, pmt))), (24, .inr (.inl (0, pst))), (25, .inr (.inl (0, pwa))), (26, .inr (.inl (0, prs))), (27, .inr (.inl (0, prr))), (28, .inr (.inl (0, pfa))), (29, .inl (0, [.ref 30, .int 4, .int acco])), (30, .inr (.inr (.inr [some 31, some 56, some 81, some 106, some 131, some 156, some 181, some 206, some 231, some 256]))), (106, .inl (7, [.ref lys, .int mis, .int shus, .int buss, .ref 107, .ref 108, .ref 109, .ref 110, .ref 111, .ref 112, .ref 113, .ref 114, .ref 115, .ref 116, .ref 117, .int lkss, .ref 118, .ref 119, .ref 122])), (107, .inr (.inl (0, rks))), (108, .inr (.inl (0, stas))), (109, .inr (.inl (0, phs))), (110, .inr (.inl (0, sps))), (111, .inr (.inl (0, ces))), (112, .inr (.inl (0, dus))), (113, .inr (.inl (0, hes))), (114, .inr (.inl (0, ris))), (115, .inr (.inl (0, uss))), (116, .inr (.inl (0, cms))), (117, .inr (.inl (0, lfs))), (118, .inr (.inl (0, lkds))), (122, .inl (3, [.ref 123, .ref 124, .ref 125, .ref 126, .ref 127, .ref 128, .ref 129, .ref 130, .int pevs, .int 1])), (123, .inr (.inl (0, pmss))), (124, .inr (.inl (0, pmms))), (125, .inr (.inl (0, pmts))), (126, .inr (.inl (0, psts))), (127, .inr (.inl (0, pwas))), (128, .inr (.inl (0, prss))), (129, .inr (.inl (0, prrs))), (130, .inr (.inl (0, pfas)))] h0) : j_V jP d 3 0 (lv_args 0 [.ref 29, .ref 4]) [] h (fun rv h' => rv = none ∧ KN h' [(4, .inl (7, [.ref lys, .int mis, .int shus, .int buss, .ref 5, .ref 6, .ref 7, .ref 8, .ref 9, .ref 10, .ref 11, .ref 12, .ref 13, .ref 14, .ref 15, .int lkss, .ref 16, .ref 17, .ref 20])), (5, .inr (.inl (0, (aC 5 rks rk)))), (6, .inr (.inl (0, (aC 5 stas sta)))), (7, .inr (.inl (0, (aC 5 phs ph)))), (8, .inr (.inl (0, (aC 5 sps sp)))), (9, .inr (.inl (0, (aC 5 ces ce)))), (10, .inr (.inl (0, (aC 5 dus du)))), (11, .inr (.inl (0, (aC 5 hes he)))), (12, .inr (.inl (0, (aC 6 ris ri)))), (13, .inr (.inl (0, (aC 6 uss us)))), (14, .inr (.inl (0, (aC (nI cm.length) cms cm)))), (15, .inr (.inl (0, (aC (nI lf.length) lfs lf)))), (16, .inr (.inl (0, (aC (nI lkd.length) lkds lkd)))), (20, .inl (3, [.ref 21, .ref 22, .ref 23, .ref 24, .ref 25, .ref 26, .ref 27, .ref 28, .int pevs, .int 1])), (21, .inr (.inl (0, (aC (nI pms.length) pmss pms)))), (22, .inr (.inl (0, (aC (nI pmm.length) pmms pmm)))), (23, .inr (.inl (0, (aC (nI pmt.length) pmts pmt)))), (24, .inr (.inl (0, (aC (nI pst.length) psts pst)))), (25, .inr (.inl (0, (aC (nI pwa.length) pwas pwa)))), (26, .inr (.inl (0, (aC (nI prs.length) prss prs)))), (27, .inr (.inl (0, (aC (nI prr.length) prrs prr)))), (28, .inr (.inl (0, (aC (nI pfa.length) pfas pfa)))), (29, .inl (0, [.ref 30, .int 3, .int (acco - 1)])), (30, .inr (.inr (.inr [some 31, some 56, some 81, some 106, some 131, some 156, some 181, some 206, some 231, some 256]))), (106, .inl (7, [.ref lys, .int mis, .int shus, .int buss, .ref 107, .ref 108, .ref 109, .ref 110, .ref 111, .ref 112, .ref 113, .ref 114, .ref 115, .ref 116, .ref 117, .int lkss, .ref 118, .ref 119, .ref 122])), (107, .inr (.inl (0, rks))), (108, .inr (.inl (0, stas))), (109, .inr (.inl (0, phs))), (110, .inr (.inl (0, sps))), (111, .inr (.inl (0, ces))), (112, .inr (.inl (0, dus))), (113, .inr (.inl (0, hes))), (114, .inr (.inl (0, ris))), (115, .inr (.inl (0, uss))), (116, .inr (.inl (0, cms))), (117, .inr (.inl (0, lfs))), (118, .inr (.inl (0, lkds))), (122, .inl (3, [.ref 123, .ref 124, .ref 125, .ref 126, .ref 127, .ref 128, .ref 129, .ref 130, .int pevs, .int 1])), (123, .inr (.inl (0, pmss))), (124, .inr (.inl (0, pmms))), (125, .inr (.inl (0, pmts))), (126, .inr (.inl (0, psts))), (127, .inr (.inl (0, pwas))), (128, .inr (.inl (0, prss))), (129, .inr (.inl (0, prrs))), (130, .inr (.inl (0, pfas)))] h0) := by
  show j_V jP d 3 0 [(0, .ref 29), (1, .ref 4)] [] h _
  obtain ⟨lv, elv, L⟩ : ∃ lv, lv = [(0, .ref 29), (1, .ref 4)] ∧ LK lv [(0, .ref 29), (1, .ref 4)] := ⟨_, rfl, LK.rf⟩
  rw [← elv]
  clear elv
  refine j_V.ldL yb3m_M yb3m_0 rfl (i := 0) (kd := 2) (v := .ref 29) (pcJ := 1) rfl L rfl rfl rfl ?_
  refine j_V.ldL yb3m_M yb3m_1 rfl (i := 0) (kd := 2) (v := .ref 29) (pcJ := 2) rfl L rfl rfl rfl ?_
  refine j_V.getK yb3m_M yb3m_2 (ci := 0) (j := 1) rfl K rfl rfl ?_
  refine j_V.one yb3m_M yb3m_5 (by decide) (pcJ := 7) (stJ := [.int 10, .int 4, .ref 29]) rfl ?_
  refine j_V.one yb3m_M yb3m_7 (by decide) (pcJ := 8) (stJ := [.int 14, .ref 29]) rfl ?_
  refine j_V.one yb3m_M yb3m_8 (by decide) (pcJ := 9) (stJ := [.int 1, .int 14, .ref 29]) rfl ?_
  refine j_V.one yb3m_M yb3m_9 (by decide) (pcJ := 10) (stJ := [.int 13, .ref 29]) rfl ?_
  refine j_V.one yb3m_M yb3m_10 (by decide) (pcJ := 12) (stJ := [.int 10, .int 13, .ref 29]) rfl ?_
  refine j_V.one yb3m_M yb3m_12 (by decide) (pcJ := 13) (stJ := [.int 3, .ref 29]) rfl ?_
  refine j_V.putK yb3m_M yb3m_13 (ci := 0) (j := 1) (k' := [(4, .inl (7, [ly, .int mi, .int shu, .int bus, .ref 5, .ref 6, .ref 7, .ref 8, .ref 9, .ref 10, .ref 11, .ref 12, .ref 13, .ref 14, .ref 15, .int lks, .ref 16, .ref 17, .ref 20])), (5, .inr (.inl (0, rk))), (6, .inr (.inl (0, sta))), (7, .inr (.inl (0, ph))), (8, .inr (.inl (0, sp))), (9, .inr (.inl (0, ce))), (10, .inr (.inl (0, du))), (11, .inr (.inl (0, he))), (12, .inr (.inl (0, ri))), (13, .inr (.inl (0, us))), (14, .inr (.inl (0, cm))), (15, .inr (.inl (0, lf))), (16, .inr (.inl (0, lkd))), (20, .inl (3, [.ref 21, .ref 22, .ref 23, .ref 24, .ref 25, .ref 26, .ref 27, .ref 28, .int pev, .int 1])), (21, .inr (.inl (0, pms))), (22, .inr (.inl (0, pmm))), (23, .inr (.inl (0, pmt))), (24, .inr (.inl (0, pst))), (25, .inr (.inl (0, pwa))), (26, .inr (.inl (0, prs))), (27, .inr (.inl (0, prr))), (28, .inr (.inl (0, pfa))), (29, .inl (0, [.ref 30, .int 3, .int acco])), (30, .inr (.inr (.inr [some 31, some 56, some 81, some 106, some 131, some 156, some 181, some 206, some 231, some 256]))), (106, .inl (7, [.ref lys, .int mis, .int shus, .int buss, .ref 107, .ref 108, .ref 109, .ref 110, .ref 111, .ref 112, .ref 113, .ref 114, .ref 115, .ref 116, .ref 117, .int lkss, .ref 118, .ref 119, .ref 122])), (107, .inr (.inl (0, rks))), (108, .inr (.inl (0, stas))), (109, .inr (.inl (0, phs))), (110, .inr (.inl (0, sps))), (111, .inr (.inl (0, ces))), (112, .inr (.inl (0, dus))), (113, .inr (.inl (0, hes))), (114, .inr (.inl (0, ris))), (115, .inr (.inl (0, uss))), (116, .inr (.inl (0, cms))), (117, .inr (.inl (0, lfs))), (118, .inr (.inl (0, lkds))), (122, .inl (3, [.ref 123, .ref 124, .ref 125, .ref 126, .ref 127, .ref 128, .ref 129, .ref 130, .int pevs, .int 1])), (123, .inr (.inl (0, pmss))), (124, .inr (.inl (0, pmms))), (125, .inr (.inl (0, pmts))), (126, .inr (.inl (0, psts))), (127, .inr (.inl (0, pwas))), (128, .inr (.inl (0, prss))), (129, .inr (.inl (0, prrs))), (130, .inr (.inl (0, pfas)))]) rfl K rfl (Nat.le_of_ble_eq_true rfl) rfl (Or.inl rfl) rfl rfl (fun h K => ?_)
  refine j_V.ldL yb3m_M yb3m_16 rfl (i := 0) (kd := 2) (v := .ref 29) (pcJ := 17) rfl L rfl rfl rfl ?_
  refine j_V.one yb3m_M yb3m_17 (by decide) (pcJ := 18) (stJ := [.ref 29, .ref 29]) rfl ?_
  refine j_V.getK yb3m_M yb3m_18 (ci := 0) (j := 2) rfl K rfl rfl ?_
  refine j_V.one yb3m_M yb3m_21 (by decide) (pcJ := 22) (stJ := [.int 1, .int acco, .ref 29]) rfl ?_
  refine j_V.one yb3m_M yb3m_22 (by decide) (pcJ := 23) (stJ := [.int (acco - 1), .ref 29]) rfl ?_
  refine j_V.putK yb3m_M yb3m_23 (ci := 0) (j := 2) (k' := [(4, .inl (7, [ly, .int mi, .int shu, .int bus, .ref 5, .ref 6, .ref 7, .ref 8, .ref 9, .ref 10, .ref 11, .ref 12, .ref 13, .ref 14, .ref 15, .int lks, .ref 16, .ref 17, .ref 20])), (5, .inr (.inl (0, rk))), (6, .inr (.inl (0, sta))), (7, .inr (.inl (0, ph))), (8, .inr (.inl (0, sp))), (9, .inr (.inl (0, ce))), (10, .inr (.inl (0, du))), (11, .inr (.inl (0, he))), (12, .inr (.inl (0, ri))), (13, .inr (.inl (0, us))), (14, .inr (.inl (0, cm))), (15, .inr (.inl (0, lf))), (16, .inr (.inl (0, lkd))), (20, .inl (3, [.ref 21, .ref 22, .ref 23, .ref 24, .ref 25, .ref 26, .ref 27, .ref 28, .int pev, .int 1])), (21, .inr (.inl (0, pms))), (22, .inr (.inl (0, pmm))), (23, .inr (.inl (0, pmt))), (24, .inr (.inl (0, pst))), (25, .inr (.inl (0, pwa))), (26, .inr (.inl (0, prs))), (27, .inr (.inl (0, prr))), (28, .inr (.inl (0, pfa))), (29, .inl (0, [.ref 30, .int 3, .int (acco - 1)])), (30, .inr (.inr (.inr [some 31, some 56, some 81, some 106, some 131, some 156, some 181, some 206, some 231, some 256]))), (106, .inl (7, [.ref lys, .int mis, .int shus, .int buss, .ref 107, .ref 108, .ref 109, .ref 110, .ref 111, .ref 112, .ref 113, .ref 114, .ref 115, .ref 116, .ref 117, .int lkss, .ref 118, .ref 119, .ref 122])), (107, .inr (.inl (0, rks))), (108, .inr (.inl (0, stas))), (109, .inr (.inl (0, phs))), (110, .inr (.inl (0, sps))), (111, .inr (.inl (0, ces))), (112, .inr (.inl (0, dus))), (113, .inr (.inl (0, hes))), (114, .inr (.inl (0, ris))), (115, .inr (.inl (0, uss))), (116, .inr (.inl (0, cms))), (117, .inr (.inl (0, lfs))), (118, .inr (.inl (0, lkds))), (122, .inl (3, [.ref 123, .ref 124, .ref 125, .ref 126, .ref 127, .ref 128, .ref 129, .ref 130, .int pevs, .int 1])), (123, .inr (.inl (0, pmss))), (124, .inr (.inl (0, pmms))), (125, .inr (.inl (0, pmts))), (126, .inr (.inl (0, psts))), (127, .inr (.inl (0, pwas))), (128, .inr (.inl (0, prss))), (129, .inr (.inl (0, prrs))), (130, .inr (.inl (0, pfas)))]) rfl K rfl (Nat.le_of_ble_eq_true rfl) rfl (Or.inl rfl) rfl rfl (fun h K => ?_)
  refine j_V.ldL yb3m_M yb3m_26 rfl (i := 1) (kd := 2) (v := .ref 4) (pcJ := 27) rfl L rfl rfl rfl ?_
  refine j_V.ldL yb3m_M yb3m_27 rfl (i := 0) (kd := 2) (v := .ref 29) (pcJ := 28) rfl L rfl rfl rfl ?_
  refine j_V.getK yb3m_M yb3m_28 (ci := 0) (j := 0) rfl K rfl rfl ?_
  refine j_V.ldL yb3m_M yb3m_31 rfl (i := 0) (kd := 2) (v := .ref 29) (pcJ := 32) rfl L rfl rfl rfl ?_
  refine j_V.getK yb3m_M yb3m_32 (ci := 0) (j := 1) rfl K rfl rfl ?_
  refine j_V.aaA yb3m_M yb3m_35 K rfl (i := 3) (v := 106) rfl rfl ?_
  refine j_V.cl yb3m_M yb3m_36 rfl (md := 3) (mj := 61) rfl (by decide) yb3s_M (As := [.ref 4, .ref 106]) (rest := []) (jk_spl3 (K.at rfl) rfl rfl rfl (Nat.le_of_ble_eq_true rfl) (Nat.le_of_ble_eq_true rfl)) (fun d => yb3s_ok (K.fi [4, 5, 6, 7, 8, 9, 10, 11, 12, 13, 14, 15, 16, 20, 21, 22, 23, 24, 25, 26, 27, 28, 106, 107, 108, 109, 110, 111, 112, 113, 114, 115, 116, 117, 118, 122, 123, 124, 125, 126, 127, 128, 129, 130] rfl rfl)) ?_
  rintro r h9 ⟨rfl, K9⟩
  have K : KN h9 [(4, .inl (7, [.ref lys, .int mis, .int shus, .int buss, .ref 5, .ref 6, .ref 7, .ref 8, .ref 9, .ref 10, .ref 11, .ref 12, .ref 13, .ref 14, .ref 15, .int lkss, .ref 16, .ref 17, .ref 20])), (5, .inr (.inl (0, (aC 5 rks rk)))), (6, .inr (.inl (0, (aC 5 stas sta)))), (7, .inr (.inl (0, (aC 5 phs ph)))), (8, .inr (.inl (0, (aC 5 sps sp)))), (9, .inr (.inl (0, (aC 5 ces ce)))), (10, .inr (.inl (0, (aC 5 dus du)))), (11, .inr (.inl (0, (aC 5 hes he)))), (12, .inr (.inl (0, (aC 6 ris ri)))), (13, .inr (.inl (0, (aC 6 uss us)))), (14, .inr (.inl (0, (aC (nI cm.length) cms cm)))), (15, .inr (.inl (0, (aC (nI lf.length) lfs lf)))), (16, .inr (.inl (0, (aC (nI lkd.length) lkds lkd)))), (20, .inl (3, [.ref 21, .ref 22, .ref 23, .ref 24, .ref 25, .ref 26, .ref 27, .ref 28, .int pevs, .int 1])), (21, .inr (.inl (0, (aC (nI pms.length) pmss pms)))), (22, .inr (.inl (0, (aC (nI pmm.length) pmms pmm)))), (23, .inr (.inl (0, (aC (nI pmt.length) pmts pmt)))), (24, .inr (.inl (0, (aC (nI pst.length) psts pst)))), (25, .inr (.inl (0, (aC (nI pwa.length) pwas pwa)))), (26, .inr (.inl (0, (aC (nI prs.length) prss prs)))), (27, .inr (.inl (0, (aC (nI prr.length) prrs prr)))), (28, .inr (.inl (0, (aC (nI pfa.length) pfas pfa)))), (29, .inl (0, [.ref 30, .int 3, .int (acco - 1)])), (30, .inr (.inr (.inr [some 31, some 56, some 81, some 106, some 131, some 156, some 181, some 206, some 231, some 256]))), (106, .inl (7, [.ref lys, .int mis, .int shus, .int buss, .ref 107, .ref 108, .ref 109, .ref 110, .ref 111, .ref 112, .ref 113, .ref 114, .ref 115, .ref 116, .ref 117, .int lkss, .ref 118, .ref 119, .ref 122])), (107, .inr (.inl (0, rks))), (108, .inr (.inl (0, stas))), (109, .inr (.inl (0, phs))), (110, .inr (.inl (0, sps))), (111, .inr (.inl (0, ces))), (112, .inr (.inl (0, dus))), (113, .inr (.inl (0, hes))), (114, .inr (.inl (0, ris))), (115, .inr (.inl (0, uss))), (116, .inr (.inl (0, cms))), (117, .inr (.inl (0, lfs))), (118, .inr (.inl (0, lkds))), (122, .inl (3, [.ref 123, .ref 124, .ref 125, .ref 126, .ref 127, .ref 128, .ref 129, .ref 130, .int pevs, .int 1])), (123, .inr (.inl (0, pmss))), (124, .inr (.inl (0, pmms))), (125, .inr (.inl (0, pmts))), (126, .inr (.inl (0, psts))), (127, .inr (.inl (0, pwas))), (128, .inr (.inl (0, prss))), (129, .inr (.inl (0, prrs))), (130, .inr (.inl (0, pfas)))] h0 := K.mg K9 rfl rfl
  clear K9
  show j_V jP _ 3 39 lv [] h9 _
  exact j_V.ret yb3m_M yb3m_39 rfl rfl ⟨rfl, K⟩
set_option maxRecDepth 100000 in
theorem yb4p_M : j_meth jP 28 = some (yX3_copyFrom, cX3_copyFrom, 2, none, 1, false, 3) := rfl
set_option maxRecDepth 100000 in
theorem yb4p_0 : j_code jP 28 0 = some (.aload_n 0) := rfl
set_option maxRecDepth 100000 in
theorem yb4p_1 : j_code jP 28 1 = some (.getfield 36) := rfl
set_option maxRecDepth 100000 in
theorem yb4p_4 : j_code jP 28 4 = some (.ifCond .ne 4) := rfl
set_option maxRecDepth 100000 in
theorem yb4p_7 : j_code jP 28 7 = some (.return_) := rfl
set_option maxRecDepth 100000 in
theorem yb4p_8 : j_code jP 28 8 = some (.aload_n 1) := rfl
set_option maxRecDepth 100000 in
theorem yb4p_9 : j_code jP 28 9 = some (.getfield 9) := rfl
set_option maxRecDepth 100000 in
theorem yb4p_12 : j_code jP 28 12 = some (.iconst 0) := rfl
set_option maxRecDepth 100000 in
theorem yb4p_13 : j_code jP 28 13 = some (.aload_n 0) := rfl
set_option maxRecDepth 100000 in
theorem yb4p_14 : j_code jP 28 14 = some (.getfield 9) := rfl
set_option maxRecDepth 100000 in
theorem yb4p_17 : j_code jP 28 17 = some (.iconst 0) := rfl
set_option maxRecDepth 100000 in
theorem yb4p_18 : j_code jP 28 18 = some (.aload_n 0) := rfl
set_option maxRecDepth 100000 in
theorem yb4p_19 : j_code jP 28 19 = some (.getfield 9) := rfl
set_option maxRecDepth 100000 in
theorem yb4p_22 : j_code jP 28 22 = some (.arraylength) := rfl
set_option maxRecDepth 100000 in
theorem yb4p_23 : j_code jP 28 23 = some (.invokestatic 50) := rfl
set_option maxRecDepth 100000 in
theorem yb4p_26 : j_code jP 28 26 = some (.aload_n 1) := rfl
set_option maxRecDepth 100000 in
theorem yb4p_27 : j_code jP 28 27 = some (.getfield 15) := rfl
set_option maxRecDepth 100000 in
theorem yb4p_30 : j_code jP 28 30 = some (.iconst 0) := rfl
set_option maxRecDepth 100000 in
theorem yb4p_31 : j_code jP 28 31 = some (.aload_n 0) := rfl
set_option maxRecDepth 100000 in
theorem yb4p_32 : j_code jP 28 32 = some (.getfield 15) := rfl
set_option maxRecDepth 100000 in
theorem yb4p_35 : j_code jP 28 35 = some (.iconst 0) := rfl
set_option maxRecDepth 100000 in
theorem yb4p_36 : j_code jP 28 36 = some (.aload_n 0) := rfl
set_option maxRecDepth 100000 in
theorem yb4p_37 : j_code jP 28 37 = some (.getfield 15) := rfl
set_option maxRecDepth 100000 in
theorem yb4p_40 : j_code jP 28 40 = some (.arraylength) := rfl
set_option maxRecDepth 100000 in
theorem yb4p_41 : j_code jP 28 41 = some (.invokestatic 50) := rfl
set_option maxRecDepth 100000 in
theorem yb4p_44 : j_code jP 28 44 = some (.aload_n 1) := rfl
set_option maxRecDepth 100000 in
theorem yb4p_45 : j_code jP 28 45 = some (.getfield 18) := rfl
set_option maxRecDepth 100000 in
theorem yb4p_48 : j_code jP 28 48 = some (.iconst 0) := rfl
set_option maxRecDepth 100000 in
theorem yb4p_49 : j_code jP 28 49 = some (.aload_n 0) := rfl
set_option maxRecDepth 100000 in
theorem yb4p_50 : j_code jP 28 50 = some (.getfield 18) := rfl
set_option maxRecDepth 100000 in
theorem yb4p_53 : j_code jP 28 53 = some (.iconst 0) := rfl
set_option maxRecDepth 100000 in
theorem yb4p_54 : j_code jP 28 54 = some (.aload_n 0) := rfl
set_option maxRecDepth 100000 in
theorem yb4p_55 : j_code jP 28 55 = some (.getfield 18) := rfl
set_option maxRecDepth 100000 in
theorem yb4p_58 : j_code jP 28 58 = some (.arraylength) := rfl
set_option maxRecDepth 100000 in
theorem yb4p_59 : j_code jP 28 59 = some (.invokestatic 50) := rfl
set_option maxRecDepth 100000 in
theorem yb4p_62 : j_code jP 28 62 = some (.aload_n 1) := rfl
set_option maxRecDepth 100000 in
theorem yb4p_63 : j_code jP 28 63 = some (.getfield 21) := rfl
set_option maxRecDepth 100000 in
theorem yb4p_66 : j_code jP 28 66 = some (.iconst 0) := rfl
set_option maxRecDepth 100000 in
theorem yb4p_67 : j_code jP 28 67 = some (.aload_n 0) := rfl
set_option maxRecDepth 100000 in
theorem yb4p_68 : j_code jP 28 68 = some (.getfield 21) := rfl
set_option maxRecDepth 100000 in
theorem yb4p_71 : j_code jP 28 71 = some (.iconst 0) := rfl
set_option maxRecDepth 100000 in
theorem yb4p_72 : j_code jP 28 72 = some (.aload_n 0) := rfl
set_option maxRecDepth 100000 in
theorem yb4p_73 : j_code jP 28 73 = some (.getfield 21) := rfl
set_option maxRecDepth 100000 in
theorem yb4p_76 : j_code jP 28 76 = some (.arraylength) := rfl
set_option maxRecDepth 100000 in
theorem yb4p_77 : j_code jP 28 77 = some (.invokestatic 50) := rfl
set_option maxRecDepth 100000 in
theorem yb4p_80 : j_code jP 28 80 = some (.aload_n 1) := rfl
set_option maxRecDepth 100000 in
theorem yb4p_81 : j_code jP 28 81 = some (.getfield 24) := rfl
set_option maxRecDepth 100000 in
theorem yb4p_84 : j_code jP 28 84 = some (.iconst 0) := rfl
set_option maxRecDepth 100000 in
theorem yb4p_85 : j_code jP 28 85 = some (.aload_n 0) := rfl
set_option maxRecDepth 100000 in
theorem yb4p_86 : j_code jP 28 86 = some (.getfield 24) := rfl
set_option maxRecDepth 100000 in
theorem yb4p_89 : j_code jP 28 89 = some (.iconst 0) := rfl
set_option maxRecDepth 100000 in
theorem yb4p_90 : j_code jP 28 90 = some (.aload_n 0) := rfl
set_option maxRecDepth 100000 in
theorem yb4p_91 : j_code jP 28 91 = some (.getfield 24) := rfl
set_option maxRecDepth 100000 in
theorem yb4p_94 : j_code jP 28 94 = some (.arraylength) := rfl
set_option maxRecDepth 100000 in
theorem yb4p_95 : j_code jP 28 95 = some (.invokestatic 50) := rfl
set_option maxRecDepth 100000 in
theorem yb4p_98 : j_code jP 28 98 = some (.aload_n 1) := rfl
set_option maxRecDepth 100000 in
theorem yb4p_99 : j_code jP 28 99 = some (.getfield 27) := rfl
set_option maxRecDepth 100000 in
theorem yb4p_102 : j_code jP 28 102 = some (.iconst 0) := rfl
set_option maxRecDepth 100000 in
theorem yb4p_103 : j_code jP 28 103 = some (.aload_n 0) := rfl
set_option maxRecDepth 100000 in
theorem yb4p_104 : j_code jP 28 104 = some (.getfield 27) := rfl
set_option maxRecDepth 100000 in
theorem yb4p_107 : j_code jP 28 107 = some (.iconst 0) := rfl
set_option maxRecDepth 100000 in
theorem yb4p_108 : j_code jP 28 108 = some (.aload_n 0) := rfl
set_option maxRecDepth 100000 in
theorem yb4p_109 : j_code jP 28 109 = some (.getfield 27) := rfl
set_option maxRecDepth 100000 in
theorem yb4p_112 : j_code jP 28 112 = some (.arraylength) := rfl
set_option maxRecDepth 100000 in
theorem yb4p_113 : j_code jP 28 113 = some (.invokestatic 50) := rfl
set_option maxRecDepth 100000 in
theorem yb4p_116 : j_code jP 28 116 = some (.aload_n 1) := rfl
set_option maxRecDepth 100000 in
theorem yb4p_117 : j_code jP 28 117 = some (.getfield 30) := rfl
set_option maxRecDepth 100000 in
theorem yb4p_120 : j_code jP 28 120 = some (.iconst 0) := rfl
set_option maxRecDepth 100000 in
theorem yb4p_121 : j_code jP 28 121 = some (.aload_n 0) := rfl
set_option maxRecDepth 100000 in
theorem yb4p_122 : j_code jP 28 122 = some (.getfield 30) := rfl
set_option maxRecDepth 100000 in
theorem yb4p_125 : j_code jP 28 125 = some (.iconst 0) := rfl
set_option maxRecDepth 100000 in
theorem yb4p_126 : j_code jP 28 126 = some (.aload_n 0) := rfl
set_option maxRecDepth 100000 in
theorem yb4p_127 : j_code jP 28 127 = some (.getfield 30) := rfl
set_option maxRecDepth 100000 in
theorem yb4p_130 : j_code jP 28 130 = some (.arraylength) := rfl
set_option maxRecDepth 100000 in
theorem yb4p_131 : j_code jP 28 131 = some (.invokestatic 50) := rfl
set_option maxRecDepth 100000 in
theorem yb4p_134 : j_code jP 28 134 = some (.aload_n 1) := rfl
set_option maxRecDepth 100000 in
theorem yb4p_135 : j_code jP 28 135 = some (.getfield 33) := rfl
set_option maxRecDepth 100000 in
theorem yb4p_138 : j_code jP 28 138 = some (.iconst 0) := rfl
set_option maxRecDepth 100000 in
theorem yb4p_139 : j_code jP 28 139 = some (.aload_n 0) := rfl
set_option maxRecDepth 100000 in
theorem yb4p_140 : j_code jP 28 140 = some (.getfield 33) := rfl
set_option maxRecDepth 100000 in
theorem yb4p_143 : j_code jP 28 143 = some (.iconst 0) := rfl
set_option maxRecDepth 100000 in
theorem yb4p_144 : j_code jP 28 144 = some (.aload_n 0) := rfl
set_option maxRecDepth 100000 in
theorem yb4p_145 : j_code jP 28 145 = some (.getfield 33) := rfl
set_option maxRecDepth 100000 in
theorem yb4p_148 : j_code jP 28 148 = some (.arraylength) := rfl
set_option maxRecDepth 100000 in
theorem yb4p_149 : j_code jP 28 149 = some (.invokestatic 50) := rfl
set_option maxRecDepth 100000 in
theorem yb4p_152 : j_code jP 28 152 = some (.aload_n 0) := rfl
set_option maxRecDepth 100000 in
theorem yb4p_153 : j_code jP 28 153 = some (.aload_n 1) := rfl
set_option maxRecDepth 100000 in
theorem yb4p_154 : j_code jP 28 154 = some (.getfield 46) := rfl
set_option maxRecDepth 100000 in
theorem yb4p_157 : j_code jP 28 157 = some (.putfield 46) := rfl
set_option maxRecDepth 100000 in
theorem yb4p_160 : j_code jP 28 160 = some (.return_) := rfl
set_option maxRecDepth 1000000 in
theorem yb4p_k8 {pev : Int32} {pms : List Int32} {pmm : List Int32} {pevs : Int32} {pmss : List Int32} {pmms : List Int32} {d : Nat} {lv : J_L} {h h0 : J_H} {Q : Option Value → J_H → Prop} (L : LK lv [(0, .ref 20), (1, .ref 147)]) (K : KN h [(20, .inl (3, [.ref 21, .ref 22, .ref 23, .ref 24, .ref 25, .ref 26, .ref 27, .ref 28, .int pev, .int 1])), (21, .inr (.inl (0, pms))), (22, .inr (.inl (0, pmm))), (147, .inl (3, [.ref 148, .ref 149, .ref 150, .ref 151, .ref 152, .ref 153, .ref 154, .ref 155, .int pevs, .int 1])), (148, .inr (.inl (0, pmss))), (149, .inr (.inl (0, pmms)))] h0) (kk : ∀ lv h, LK lv [(0, .ref 20), (1, .ref 147)] → KN h [(20, .inl (3, [.ref 21, .ref 22, .ref 23, .ref 24, .ref 25, .ref 26, .ref 27, .ref 28, .int pev, .int 1])), (21, .inr (.inl (0, (aC (nI pms.length) pmss pms)))), (22, .inr (.inl (0, (aC (nI pmm.length) pmms pmm)))), (147, .inl (3, [.ref 148, .ref 149, .ref 150, .ref 151, .ref 152, .ref 153, .ref 154, .ref 155, .int pevs, .int 1])), (148, .inr (.inl (0, pmss))), (149, .inr (.inl (0, pmms)))] h0 → j_V jP d 28 44 lv [] h Q) : j_V jP d 28 8 lv [] h Q := by
  refine j_V.ldL yb4p_M yb4p_8 rfl (i := 1) (kd := 2) (v := .ref 147) (pcJ := 9) rfl L rfl rfl rfl ?_
  refine j_V.getK yb4p_M yb4p_9 (ci := 3) (j := 0) rfl K rfl rfl ?_
  refine j_V.one yb4p_M yb4p_12 (by decide) (pcJ := 13) (stJ := [.int 0, .ref 148]) rfl ?_
  refine j_V.ldL yb4p_M yb4p_13 rfl (i := 0) (kd := 2) (v := .ref 20) (pcJ := 14) rfl L rfl rfl rfl ?_
  refine j_V.getK yb4p_M yb4p_14 (ci := 3) (j := 0) rfl K rfl rfl ?_
  refine j_V.one yb4p_M yb4p_17 (by decide) (pcJ := 18) (stJ := [.int 0, .ref 21, .int 0, .ref 148]) rfl ?_
  refine j_V.ldL yb4p_M yb4p_18 rfl (i := 0) (kd := 2) (v := .ref 20) (pcJ := 19) rfl L rfl rfl rfl ?_
  refine j_V.getK yb4p_M yb4p_19 (ci := 3) (j := 0) rfl K rfl rfl ?_
  refine j_V.alnA yb4p_M yb4p_22 K rfl ?_
  refine j_V.acp yb4p_M yb4p_23 rfl rfl K rfl rfl rfl (fun h K => ?_)
  refine j_V.ldL yb4p_M yb4p_26 rfl (i := 1) (kd := 2) (v := .ref 147) (pcJ := 27) rfl L rfl rfl rfl ?_
  refine j_V.getK yb4p_M yb4p_27 (ci := 3) (j := 1) rfl K rfl rfl ?_
  refine j_V.one yb4p_M yb4p_30 (by decide) (pcJ := 31) (stJ := [.int 0, .ref 149]) rfl ?_
  refine j_V.ldL yb4p_M yb4p_31 rfl (i := 0) (kd := 2) (v := .ref 20) (pcJ := 32) rfl L rfl rfl rfl ?_
  refine j_V.getK yb4p_M yb4p_32 (ci := 3) (j := 1) rfl K rfl rfl ?_
  refine j_V.one yb4p_M yb4p_35 (by decide) (pcJ := 36) (stJ := [.int 0, .ref 22, .int 0, .ref 149]) rfl ?_
  refine j_V.ldL yb4p_M yb4p_36 rfl (i := 0) (kd := 2) (v := .ref 20) (pcJ := 37) rfl L rfl rfl rfl ?_
  refine j_V.getK yb4p_M yb4p_37 (ci := 3) (j := 1) rfl K rfl rfl ?_
  refine j_V.alnA yb4p_M yb4p_40 K rfl ?_
  refine j_V.acp yb4p_M yb4p_41 rfl rfl K rfl rfl rfl (fun h K => ?_)
  exact kk _ _ L K
set_option maxRecDepth 1000000 in
theorem yb4p_k44 {pev : Int32} {pmt : List Int32} {pst : List Int32} {pevs : Int32} {pmts : List Int32} {psts : List Int32} {d : Nat} {lv : J_L} {h h0 : J_H} {Q : Option Value → J_H → Prop} (L : LK lv [(0, .ref 20), (1, .ref 147)]) (K : KN h [(20, .inl (3, [.ref 21, .ref 22, .ref 23, .ref 24, .ref 25, .ref 26, .ref 27, .ref 28, .int pev, .int 1])), (23, .inr (.inl (0, pmt))), (24, .inr (.inl (0, pst))), (147, .inl (3, [.ref 148, .ref 149, .ref 150, .ref 151, .ref 152, .ref 153, .ref 154, .ref 155, .int pevs, .int 1])), (150, .inr (.inl (0, pmts))), (151, .inr (.inl (0, psts)))] h0) (kk : ∀ lv h, LK lv [(0, .ref 20), (1, .ref 147)] → KN h [(20, .inl (3, [.ref 21, .ref 22, .ref 23, .ref 24, .ref 25, .ref 26, .ref 27, .ref 28, .int pev, .int 1])), (23, .inr (.inl (0, (aC (nI pmt.length) pmts pmt)))), (24, .inr (.inl (0, (aC (nI pst.length) psts pst)))), (147, .inl (3, [.ref 148, .ref 149, .ref 150, .ref 151, .ref 152, .ref 153, .ref 154, .ref 155, .int pevs, .int 1])), (150, .inr (.inl (0, pmts))), (151, .inr (.inl (0, psts)))] h0 → j_V jP d 28 80 lv [] h Q) : j_V jP d 28 44 lv [] h Q := by
  refine j_V.ldL yb4p_M yb4p_44 rfl (i := 1) (kd := 2) (v := .ref 147) (pcJ := 45) rfl L rfl rfl rfl ?_
  refine j_V.getK yb4p_M yb4p_45 (ci := 3) (j := 2) rfl K rfl rfl ?_
  refine j_V.one yb4p_M yb4p_48 (by decide) (pcJ := 49) (stJ := [.int 0, .ref 150]) rfl ?_
  refine j_V.ldL yb4p_M yb4p_49 rfl (i := 0) (kd := 2) (v := .ref 20) (pcJ := 50) rfl L rfl rfl rfl ?_
  refine j_V.getK yb4p_M yb4p_50 (ci := 3) (j := 2) rfl K rfl rfl ?_
  refine j_V.one yb4p_M yb4p_53 (by decide) (pcJ := 54) (stJ := [.int 0, .ref 23, .int 0, .ref 150]) rfl ?_
  refine j_V.ldL yb4p_M yb4p_54 rfl (i := 0) (kd := 2) (v := .ref 20) (pcJ := 55) rfl L rfl rfl rfl ?_
  refine j_V.getK yb4p_M yb4p_55 (ci := 3) (j := 2) rfl K rfl rfl ?_
  refine j_V.alnA yb4p_M yb4p_58 K rfl ?_
  refine j_V.acp yb4p_M yb4p_59 rfl rfl K rfl rfl rfl (fun h K => ?_)
  refine j_V.ldL yb4p_M yb4p_62 rfl (i := 1) (kd := 2) (v := .ref 147) (pcJ := 63) rfl L rfl rfl rfl ?_
  refine j_V.getK yb4p_M yb4p_63 (ci := 3) (j := 3) rfl K rfl rfl ?_
  refine j_V.one yb4p_M yb4p_66 (by decide) (pcJ := 67) (stJ := [.int 0, .ref 151]) rfl ?_
  refine j_V.ldL yb4p_M yb4p_67 rfl (i := 0) (kd := 2) (v := .ref 20) (pcJ := 68) rfl L rfl rfl rfl ?_
  refine j_V.getK yb4p_M yb4p_68 (ci := 3) (j := 3) rfl K rfl rfl ?_
  refine j_V.one yb4p_M yb4p_71 (by decide) (pcJ := 72) (stJ := [.int 0, .ref 24, .int 0, .ref 151]) rfl ?_
  refine j_V.ldL yb4p_M yb4p_72 rfl (i := 0) (kd := 2) (v := .ref 20) (pcJ := 73) rfl L rfl rfl rfl ?_
  refine j_V.getK yb4p_M yb4p_73 (ci := 3) (j := 3) rfl K rfl rfl ?_
  refine j_V.alnA yb4p_M yb4p_76 K rfl ?_
  refine j_V.acp yb4p_M yb4p_77 rfl rfl K rfl rfl rfl (fun h K => ?_)
  exact kk _ _ L K
set_option maxRecDepth 1000000 in
theorem yb4p_k80 {pev : Int32} {pwa : List Int32} {prs : List Int32} {pevs : Int32} {pwas : List Int32} {prss : List Int32} {d : Nat} {lv : J_L} {h h0 : J_H} {Q : Option Value → J_H → Prop} (L : LK lv [(0, .ref 20), (1, .ref 147)]) (K : KN h [(20, .inl (3, [.ref 21, .ref 22, .ref 23, .ref 24, .ref 25, .ref 26, .ref 27, .ref 28, .int pev, .int 1])), (25, .inr (.inl (0, pwa))), (26, .inr (.inl (0, prs))), (147, .inl (3, [.ref 148, .ref 149, .ref 150, .ref 151, .ref 152, .ref 153, .ref 154, .ref 155, .int pevs, .int 1])), (152, .inr (.inl (0, pwas))), (153, .inr (.inl (0, prss)))] h0) (kk : ∀ lv h, LK lv [(0, .ref 20), (1, .ref 147)] → KN h [(20, .inl (3, [.ref 21, .ref 22, .ref 23, .ref 24, .ref 25, .ref 26, .ref 27, .ref 28, .int pev, .int 1])), (25, .inr (.inl (0, (aC (nI pwa.length) pwas pwa)))), (26, .inr (.inl (0, (aC (nI prs.length) prss prs)))), (147, .inl (3, [.ref 148, .ref 149, .ref 150, .ref 151, .ref 152, .ref 153, .ref 154, .ref 155, .int pevs, .int 1])), (152, .inr (.inl (0, pwas))), (153, .inr (.inl (0, prss)))] h0 → j_V jP d 28 116 lv [] h Q) : j_V jP d 28 80 lv [] h Q := by
  refine j_V.ldL yb4p_M yb4p_80 rfl (i := 1) (kd := 2) (v := .ref 147) (pcJ := 81) rfl L rfl rfl rfl ?_
  refine j_V.getK yb4p_M yb4p_81 (ci := 3) (j := 4) rfl K rfl rfl ?_
  refine j_V.one yb4p_M yb4p_84 (by decide) (pcJ := 85) (stJ := [.int 0, .ref 152]) rfl ?_
  refine j_V.ldL yb4p_M yb4p_85 rfl (i := 0) (kd := 2) (v := .ref 20) (pcJ := 86) rfl L rfl rfl rfl ?_
  refine j_V.getK yb4p_M yb4p_86 (ci := 3) (j := 4) rfl K rfl rfl ?_
  refine j_V.one yb4p_M yb4p_89 (by decide) (pcJ := 90) (stJ := [.int 0, .ref 25, .int 0, .ref 152]) rfl ?_
  refine j_V.ldL yb4p_M yb4p_90 rfl (i := 0) (kd := 2) (v := .ref 20) (pcJ := 91) rfl L rfl rfl rfl ?_
  refine j_V.getK yb4p_M yb4p_91 (ci := 3) (j := 4) rfl K rfl rfl ?_
  refine j_V.alnA yb4p_M yb4p_94 K rfl ?_
  refine j_V.acp yb4p_M yb4p_95 rfl rfl K rfl rfl rfl (fun h K => ?_)
  refine j_V.ldL yb4p_M yb4p_98 rfl (i := 1) (kd := 2) (v := .ref 147) (pcJ := 99) rfl L rfl rfl rfl ?_
  refine j_V.getK yb4p_M yb4p_99 (ci := 3) (j := 5) rfl K rfl rfl ?_
  refine j_V.one yb4p_M yb4p_102 (by decide) (pcJ := 103) (stJ := [.int 0, .ref 153]) rfl ?_
  refine j_V.ldL yb4p_M yb4p_103 rfl (i := 0) (kd := 2) (v := .ref 20) (pcJ := 104) rfl L rfl rfl rfl ?_
  refine j_V.getK yb4p_M yb4p_104 (ci := 3) (j := 5) rfl K rfl rfl ?_
  refine j_V.one yb4p_M yb4p_107 (by decide) (pcJ := 108) (stJ := [.int 0, .ref 26, .int 0, .ref 153]) rfl ?_
  refine j_V.ldL yb4p_M yb4p_108 rfl (i := 0) (kd := 2) (v := .ref 20) (pcJ := 109) rfl L rfl rfl rfl ?_
  refine j_V.getK yb4p_M yb4p_109 (ci := 3) (j := 5) rfl K rfl rfl ?_
  refine j_V.alnA yb4p_M yb4p_112 K rfl ?_
  refine j_V.acp yb4p_M yb4p_113 rfl rfl K rfl rfl rfl (fun h K => ?_)
  exact kk _ _ L K
set_option maxRecDepth 1000000 in
theorem yb4p_k116 {pev : Int32} {prr : List Int32} {pfa : List Int32} {pevs : Int32} {prrs : List Int32} {pfas : List Int32} {d : Nat} {lv : J_L} {h h0 : J_H} {Q : Option Value → J_H → Prop} (L : LK lv [(0, .ref 20), (1, .ref 147)]) (K : KN h [(20, .inl (3, [.ref 21, .ref 22, .ref 23, .ref 24, .ref 25, .ref 26, .ref 27, .ref 28, .int pev, .int 1])), (27, .inr (.inl (0, prr))), (28, .inr (.inl (0, pfa))), (147, .inl (3, [.ref 148, .ref 149, .ref 150, .ref 151, .ref 152, .ref 153, .ref 154, .ref 155, .int pevs, .int 1])), (154, .inr (.inl (0, prrs))), (155, .inr (.inl (0, pfas)))] h0) (kk : ∀ lv h, LK lv [(0, .ref 20), (1, .ref 147)] → KN h [(20, .inl (3, [.ref 21, .ref 22, .ref 23, .ref 24, .ref 25, .ref 26, .ref 27, .ref 28, .int pev, .int 1])), (27, .inr (.inl (0, (aC (nI prr.length) prrs prr)))), (28, .inr (.inl (0, (aC (nI pfa.length) pfas pfa)))), (147, .inl (3, [.ref 148, .ref 149, .ref 150, .ref 151, .ref 152, .ref 153, .ref 154, .ref 155, .int pevs, .int 1])), (154, .inr (.inl (0, prrs))), (155, .inr (.inl (0, pfas)))] h0 → j_V jP d 28 152 lv [] h Q) : j_V jP d 28 116 lv [] h Q := by
  refine j_V.ldL yb4p_M yb4p_116 rfl (i := 1) (kd := 2) (v := .ref 147) (pcJ := 117) rfl L rfl rfl rfl ?_
  refine j_V.getK yb4p_M yb4p_117 (ci := 3) (j := 6) rfl K rfl rfl ?_
  refine j_V.one yb4p_M yb4p_120 (by decide) (pcJ := 121) (stJ := [.int 0, .ref 154]) rfl ?_
  refine j_V.ldL yb4p_M yb4p_121 rfl (i := 0) (kd := 2) (v := .ref 20) (pcJ := 122) rfl L rfl rfl rfl ?_
  refine j_V.getK yb4p_M yb4p_122 (ci := 3) (j := 6) rfl K rfl rfl ?_
  refine j_V.one yb4p_M yb4p_125 (by decide) (pcJ := 126) (stJ := [.int 0, .ref 27, .int 0, .ref 154]) rfl ?_
  refine j_V.ldL yb4p_M yb4p_126 rfl (i := 0) (kd := 2) (v := .ref 20) (pcJ := 127) rfl L rfl rfl rfl ?_
  refine j_V.getK yb4p_M yb4p_127 (ci := 3) (j := 6) rfl K rfl rfl ?_
  refine j_V.alnA yb4p_M yb4p_130 K rfl ?_
  refine j_V.acp yb4p_M yb4p_131 rfl rfl K rfl rfl rfl (fun h K => ?_)
  refine j_V.ldL yb4p_M yb4p_134 rfl (i := 1) (kd := 2) (v := .ref 147) (pcJ := 135) rfl L rfl rfl rfl ?_
  refine j_V.getK yb4p_M yb4p_135 (ci := 3) (j := 7) rfl K rfl rfl ?_
  refine j_V.one yb4p_M yb4p_138 (by decide) (pcJ := 139) (stJ := [.int 0, .ref 155]) rfl ?_
  refine j_V.ldL yb4p_M yb4p_139 rfl (i := 0) (kd := 2) (v := .ref 20) (pcJ := 140) rfl L rfl rfl rfl ?_
  refine j_V.getK yb4p_M yb4p_140 (ci := 3) (j := 7) rfl K rfl rfl ?_
  refine j_V.one yb4p_M yb4p_143 (by decide) (pcJ := 144) (stJ := [.int 0, .ref 28, .int 0, .ref 155]) rfl ?_
  refine j_V.ldL yb4p_M yb4p_144 rfl (i := 0) (kd := 2) (v := .ref 20) (pcJ := 145) rfl L rfl rfl rfl ?_
  refine j_V.getK yb4p_M yb4p_145 (ci := 3) (j := 7) rfl K rfl rfl ?_
  refine j_V.alnA yb4p_M yb4p_148 K rfl ?_
  refine j_V.acp yb4p_M yb4p_149 rfl rfl K rfl rfl rfl (fun h K => ?_)
  exact kk _ _ L K
set_option maxRecDepth 1000000 in
theorem yb4p_ok {pev : Int32} {pms : List Int32} {pmm : List Int32} {pmt : List Int32} {pst : List Int32} {pwa : List Int32} {prs : List Int32} {prr : List Int32} {pfa : List Int32} {pevs : Int32} {pmss : List Int32} {pmms : List Int32} {pmts : List Int32} {psts : List Int32} {pwas : List Int32} {prss : List Int32} {prrs : List Int32} {pfas : List Int32} {d : Nat} {h h0 : J_H} (K : KN h [(20, .inl (3, [.ref 21, .ref 22, .ref 23, .ref 24, .ref 25, .ref 26, .ref 27, .ref 28, .int pev, .int 1])), (21, .inr (.inl (0, pms))), (22, .inr (.inl (0, pmm))), (23, .inr (.inl (0, pmt))), (24, .inr (.inl (0, pst))), (25, .inr (.inl (0, pwa))), (26, .inr (.inl (0, prs))), (27, .inr (.inl (0, prr))), (28, .inr (.inl (0, pfa))), (147, .inl (3, [.ref 148, .ref 149, .ref 150, .ref 151, .ref 152, .ref 153, .ref 154, .ref 155, .int pevs, .int 1])), (148, .inr (.inl (0, pmss))), (149, .inr (.inl (0, pmms))), (150, .inr (.inl (0, pmts))), (151, .inr (.inl (0, psts))), (152, .inr (.inl (0, pwas))), (153, .inr (.inl (0, prss))), (154, .inr (.inl (0, prrs))), (155, .inr (.inl (0, pfas)))] h0) : j_V jP d 28 0 (lv_args 0 [.ref 20, .ref 147]) [] h (fun rv h' => rv = none ∧ KN h' [(20, .inl (3, [.ref 21, .ref 22, .ref 23, .ref 24, .ref 25, .ref 26, .ref 27, .ref 28, .int pevs, .int 1])), (21, .inr (.inl (0, (aC (nI pms.length) pmss pms)))), (22, .inr (.inl (0, (aC (nI pmm.length) pmms pmm)))), (23, .inr (.inl (0, (aC (nI pmt.length) pmts pmt)))), (24, .inr (.inl (0, (aC (nI pst.length) psts pst)))), (25, .inr (.inl (0, (aC (nI pwa.length) pwas pwa)))), (26, .inr (.inl (0, (aC (nI prs.length) prss prs)))), (27, .inr (.inl (0, (aC (nI prr.length) prrs prr)))), (28, .inr (.inl (0, (aC (nI pfa.length) pfas pfa)))), (147, .inl (3, [.ref 148, .ref 149, .ref 150, .ref 151, .ref 152, .ref 153, .ref 154, .ref 155, .int pevs, .int 1])), (148, .inr (.inl (0, pmss))), (149, .inr (.inl (0, pmms))), (150, .inr (.inl (0, pmts))), (151, .inr (.inl (0, psts))), (152, .inr (.inl (0, pwas))), (153, .inr (.inl (0, prss))), (154, .inr (.inl (0, prrs))), (155, .inr (.inl (0, pfas)))] h0) := by
  show j_V jP d 28 0 [(0, .ref 20), (1, .ref 147)] [] h _
  obtain ⟨lv, elv, L⟩ : ∃ lv, lv = [(0, .ref 20), (1, .ref 147)] ∧ LK lv [(0, .ref 20), (1, .ref 147)] := ⟨_, rfl, LK.rf⟩
  rw [← elv]
  clear elv
  refine j_V.ldL yb4p_M yb4p_0 rfl (i := 0) (kd := 2) (v := .ref 20) (pcJ := 1) rfl L rfl rfl rfl ?_
  refine j_V.getK yb4p_M yb4p_1 (ci := 3) (j := 9) rfl K rfl rfl ?_
  refine j_V.ifc yb4p_M yb4p_4 (t := 8) rfl (fun c4_0 => ?_) (fun c4_0 => ?_)
  · replace c4_0 : ¬ ((1 : Int32) = 0) := jd_ne c4_0
    refine yb4p_k8 L (K.fi [20, 21, 22, 147, 148, 149] rfl rfl) (fun lv h9 L K9 => ?_)
    have K : KN h9 [(20, .inl (3, [.ref 21, .ref 22, .ref 23, .ref 24, .ref 25, .ref 26, .ref 27, .ref 28, .int pev, .int 1])), (21, .inr (.inl (0, (aC (nI pms.length) pmss pms)))), (22, .inr (.inl (0, (aC (nI pmm.length) pmms pmm)))), (23, .inr (.inl (0, pmt))), (24, .inr (.inl (0, pst))), (25, .inr (.inl (0, pwa))), (26, .inr (.inl (0, prs))), (27, .inr (.inl (0, prr))), (28, .inr (.inl (0, pfa))), (147, .inl (3, [.ref 148, .ref 149, .ref 150, .ref 151, .ref 152, .ref 153, .ref 154, .ref 155, .int pevs, .int 1])), (148, .inr (.inl (0, pmss))), (149, .inr (.inl (0, pmms))), (150, .inr (.inl (0, pmts))), (151, .inr (.inl (0, psts))), (152, .inr (.inl (0, pwas))), (153, .inr (.inl (0, prss))), (154, .inr (.inl (0, prrs))), (155, .inr (.inl (0, pfas)))] h0 := K.mg K9 rfl rfl
    clear K9
    refine yb4p_k44 L (K.fi [20, 23, 24, 147, 150, 151] rfl rfl) (fun lv h9 L K9 => ?_)
    have K : KN h9 [(20, .inl (3, [.ref 21, .ref 22, .ref 23, .ref 24, .ref 25, .ref 26, .ref 27, .ref 28, .int pev, .int 1])), (21, .inr (.inl (0, (aC (nI pms.length) pmss pms)))), (22, .inr (.inl (0, (aC (nI pmm.length) pmms pmm)))), (23, .inr (.inl (0, (aC (nI pmt.length) pmts pmt)))), (24, .inr (.inl (0, (aC (nI pst.length) psts pst)))), (25, .inr (.inl (0, pwa))), (26, .inr (.inl (0, prs))), (27, .inr (.inl (0, prr))), (28, .inr (.inl (0, pfa))), (147, .inl (3, [.ref 148, .ref 149, .ref 150, .ref 151, .ref 152, .ref 153, .ref 154, .ref 155, .int pevs, .int 1])), (148, .inr (.inl (0, pmss))), (149, .inr (.inl (0, pmms))), (150, .inr (.inl (0, pmts))), (151, .inr (.inl (0, psts))), (152, .inr (.inl (0, pwas))), (153, .inr (.inl (0, prss))), (154, .inr (.inl (0, prrs))), (155, .inr (.inl (0, pfas)))] h0 := K.mg K9 rfl rfl
    clear K9
    refine yb4p_k80 L (K.fi [20, 25, 26, 147, 152, 153] rfl rfl) (fun lv h9 L K9 => ?_)
    have K : KN h9 [(20, .inl (3, [.ref 21, .ref 22, .ref 23, .ref 24, .ref 25, .ref 26, .ref 27, .ref 28, .int pev, .int 1])), (21, .inr (.inl (0, (aC (nI pms.length) pmss pms)))), (22, .inr (.inl (0, (aC (nI pmm.length) pmms pmm)))), (23, .inr (.inl (0, (aC (nI pmt.length) pmts pmt)))), (24, .inr (.inl (0, (aC (nI pst.length) psts pst)))), (25, .inr (.inl (0, (aC (nI pwa.length) pwas pwa)))), (26, .inr (.inl (0, (aC (nI prs.length) prss prs)))), (27, .inr (.inl (0, prr))), (28, .inr (.inl (0, pfa))), (147, .inl (3, [.ref 148, .ref 149, .ref 150, .ref 151, .ref 152, .ref 153, .ref 154, .ref 155, .int pevs, .int 1])), (148, .inr (.inl (0, pmss))), (149, .inr (.inl (0, pmms))), (150, .inr (.inl (0, pmts))), (151, .inr (.inl (0, psts))), (152, .inr (.inl (0, pwas))), (153, .inr (.inl (0, prss))), (154, .inr (.inl (0, prrs))), (155, .inr (.inl (0, pfas)))] h0 := K.mg K9 rfl rfl
    clear K9
    refine yb4p_k116 L (K.fi [20, 27, 28, 147, 154, 155] rfl rfl) (fun lv h9 L K9 => ?_)
    have K : KN h9 [(20, .inl (3, [.ref 21, .ref 22, .ref 23, .ref 24, .ref 25, .ref 26, .ref 27, .ref 28, .int pev, .int 1])), (21, .inr (.inl (0, (aC (nI pms.length) pmss pms)))), (22, .inr (.inl (0, (aC (nI pmm.length) pmms pmm)))), (23, .inr (.inl (0, (aC (nI pmt.length) pmts pmt)))), (24, .inr (.inl (0, (aC (nI pst.length) psts pst)))), (25, .inr (.inl (0, (aC (nI pwa.length) pwas pwa)))), (26, .inr (.inl (0, (aC (nI prs.length) prss prs)))), (27, .inr (.inl (0, (aC (nI prr.length) prrs prr)))), (28, .inr (.inl (0, (aC (nI pfa.length) pfas pfa)))), (147, .inl (3, [.ref 148, .ref 149, .ref 150, .ref 151, .ref 152, .ref 153, .ref 154, .ref 155, .int pevs, .int 1])), (148, .inr (.inl (0, pmss))), (149, .inr (.inl (0, pmms))), (150, .inr (.inl (0, pmts))), (151, .inr (.inl (0, psts))), (152, .inr (.inl (0, pwas))), (153, .inr (.inl (0, prss))), (154, .inr (.inl (0, prrs))), (155, .inr (.inl (0, pfas)))] h0 := K.mg K9 rfl rfl
    clear K9
    refine j_V.ldL yb4p_M yb4p_152 rfl (i := 0) (kd := 2) (v := .ref 20) (pcJ := 153) rfl L rfl rfl rfl ?_
    refine j_V.ldL yb4p_M yb4p_153 rfl (i := 1) (kd := 2) (v := .ref 147) (pcJ := 154) rfl L rfl rfl rfl ?_
    refine j_V.getK yb4p_M yb4p_154 (ci := 3) (j := 8) rfl K rfl rfl ?_
    refine j_V.putK yb4p_M yb4p_157 (ci := 3) (j := 8) (k' := [(20, .inl (3, [.ref 21, .ref 22, .ref 23, .ref 24, .ref 25, .ref 26, .ref 27, .ref 28, .int pevs, .int 1])), (21, .inr (.inl (0, (aC (nI pms.length) pmss pms)))), (22, .inr (.inl (0, (aC (nI pmm.length) pmms pmm)))), (23, .inr (.inl (0, (aC (nI pmt.length) pmts pmt)))), (24, .inr (.inl (0, (aC (nI pst.length) psts pst)))), (25, .inr (.inl (0, (aC (nI pwa.length) pwas pwa)))), (26, .inr (.inl (0, (aC (nI prs.length) prss prs)))), (27, .inr (.inl (0, (aC (nI prr.length) prrs prr)))), (28, .inr (.inl (0, (aC (nI pfa.length) pfas pfa)))), (147, .inl (3, [.ref 148, .ref 149, .ref 150, .ref 151, .ref 152, .ref 153, .ref 154, .ref 155, .int pevs, .int 1])), (148, .inr (.inl (0, pmss))), (149, .inr (.inl (0, pmms))), (150, .inr (.inl (0, pmts))), (151, .inr (.inl (0, psts))), (152, .inr (.inl (0, pwas))), (153, .inr (.inl (0, prss))), (154, .inr (.inl (0, prrs))), (155, .inr (.inl (0, pfas)))]) rfl K rfl (Nat.le_of_ble_eq_true rfl) rfl (Or.inl rfl) rfl rfl (fun h K => ?_)
    exact j_V.ret yb4p_M yb4p_160 rfl rfl ⟨rfl, K⟩
  · replace c4_0 : (1 : Int32) = 0 := jd_nen c4_0
    exact absurd c4_0 (by decide)
set_option maxRecDepth 100000 in
theorem yb4s_M : j_meth jP 61 = some (yX7_copyFrom, cX7_copyFrom, 2, none, 1, false, 7) := rfl
set_option maxRecDepth 100000 in
theorem yb4s_0 : j_code jP 61 0 = some (.aload_n 0) := rfl
set_option maxRecDepth 100000 in
theorem yb4s_1 : j_code jP 61 1 = some (.aload_n 1) := rfl
set_option maxRecDepth 100000 in
theorem yb4s_2 : j_code jP 61 2 = some (.getfield 64) := rfl
set_option maxRecDepth 100000 in
theorem yb4s_5 : j_code jP 61 5 = some (.putfield 64) := rfl
set_option maxRecDepth 100000 in
theorem yb4s_8 : j_code jP 61 8 = some (.aload_n 0) := rfl
set_option maxRecDepth 100000 in
theorem yb4s_9 : j_code jP 61 9 = some (.aload_n 1) := rfl
set_option maxRecDepth 100000 in
theorem yb4s_10 : j_code jP 61 10 = some (.getfield 68) := rfl
set_option maxRecDepth 100000 in
theorem yb4s_13 : j_code jP 61 13 = some (.putfield 68) := rfl
set_option maxRecDepth 100000 in
theorem yb4s_16 : j_code jP 61 16 = some (.aload_n 0) := rfl
set_option maxRecDepth 100000 in
theorem yb4s_17 : j_code jP 61 17 = some (.aload_n 1) := rfl
set_option maxRecDepth 100000 in
theorem yb4s_18 : j_code jP 61 18 = some (.getfield 72) := rfl
set_option maxRecDepth 100000 in
theorem yb4s_21 : j_code jP 61 21 = some (.putfield 72) := rfl
set_option maxRecDepth 100000 in
theorem yb4s_24 : j_code jP 61 24 = some (.aload_n 0) := rfl
set_option maxRecDepth 100000 in
theorem yb4s_25 : j_code jP 61 25 = some (.aload_n 1) := rfl
set_option maxRecDepth 100000 in
theorem yb4s_26 : j_code jP 61 26 = some (.getfield 75) := rfl
set_option maxRecDepth 100000 in
theorem yb4s_29 : j_code jP 61 29 = some (.putfield 75) := rfl
set_option maxRecDepth 100000 in
theorem yb4s_32 : j_code jP 61 32 = some (.aload_n 0) := rfl
set_option maxRecDepth 100000 in
theorem yb4s_33 : j_code jP 61 33 = some (.aload_n 1) := rfl
set_option maxRecDepth 100000 in
theorem yb4s_34 : j_code jP 61 34 = some (.getfield 78) := rfl
set_option maxRecDepth 100000 in
theorem yb4s_37 : j_code jP 61 37 = some (.putfield 78) := rfl
set_option maxRecDepth 100000 in
theorem yb4s_40 : j_code jP 61 40 = some (.aload_n 1) := rfl
set_option maxRecDepth 100000 in
theorem yb4s_41 : j_code jP 61 41 = some (.getfield 9) := rfl
set_option maxRecDepth 100000 in
theorem yb4s_44 : j_code jP 61 44 = some (.iconst 0) := rfl
set_option maxRecDepth 100000 in
theorem yb4s_45 : j_code jP 61 45 = some (.aload_n 0) := rfl
set_option maxRecDepth 100000 in
theorem yb4s_46 : j_code jP 61 46 = some (.getfield 9) := rfl
set_option maxRecDepth 100000 in
theorem yb4s_49 : j_code jP 61 49 = some (.iconst 0) := rfl
set_option maxRecDepth 100000 in
theorem yb4s_50 : j_code jP 61 50 = some (.iconst 5) := rfl
set_option maxRecDepth 100000 in
theorem yb4s_51 : j_code jP 61 51 = some (.invokestatic 84) := rfl
set_option maxRecDepth 100000 in
theorem yb4s_54 : j_code jP 61 54 = some (.aload_n 1) := rfl
set_option maxRecDepth 100000 in
theorem yb4s_55 : j_code jP 61 55 = some (.getfield 15) := rfl
set_option maxRecDepth 100000 in
theorem yb4s_58 : j_code jP 61 58 = some (.iconst 0) := rfl
set_option maxRecDepth 100000 in
theorem yb4s_59 : j_code jP 61 59 = some (.aload_n 0) := rfl
set_option maxRecDepth 100000 in
theorem yb4s_60 : j_code jP 61 60 = some (.getfield 15) := rfl
set_option maxRecDepth 100000 in
theorem yb4s_63 : j_code jP 61 63 = some (.iconst 0) := rfl
set_option maxRecDepth 100000 in
theorem yb4s_64 : j_code jP 61 64 = some (.iconst 5) := rfl
set_option maxRecDepth 100000 in
theorem yb4s_65 : j_code jP 61 65 = some (.invokestatic 84) := rfl
set_option maxRecDepth 100000 in
theorem yb4s_68 : j_code jP 61 68 = some (.aload_n 1) := rfl
set_option maxRecDepth 100000 in
theorem yb4s_69 : j_code jP 61 69 = some (.getfield 18) := rfl
set_option maxRecDepth 100000 in
theorem yb4s_72 : j_code jP 61 72 = some (.iconst 0) := rfl
set_option maxRecDepth 100000 in
theorem yb4s_73 : j_code jP 61 73 = some (.aload_n 0) := rfl
set_option maxRecDepth 100000 in
theorem yb4s_74 : j_code jP 61 74 = some (.getfield 18) := rfl
set_option maxRecDepth 100000 in
theorem yb4s_77 : j_code jP 61 77 = some (.iconst 0) := rfl
set_option maxRecDepth 100000 in
theorem yb4s_78 : j_code jP 61 78 = some (.iconst 5) := rfl
set_option maxRecDepth 100000 in
theorem yb4s_79 : j_code jP 61 79 = some (.invokestatic 84) := rfl
set_option maxRecDepth 100000 in
theorem yb4s_82 : j_code jP 61 82 = some (.aload_n 1) := rfl
set_option maxRecDepth 100000 in
theorem yb4s_83 : j_code jP 61 83 = some (.getfield 21) := rfl
set_option maxRecDepth 100000 in
theorem yb4s_86 : j_code jP 61 86 = some (.iconst 0) := rfl
set_option maxRecDepth 100000 in
theorem yb4s_87 : j_code jP 61 87 = some (.aload_n 0) := rfl
set_option maxRecDepth 100000 in
theorem yb4s_88 : j_code jP 61 88 = some (.getfield 21) := rfl
set_option maxRecDepth 100000 in
theorem yb4s_91 : j_code jP 61 91 = some (.iconst 0) := rfl
set_option maxRecDepth 100000 in
theorem yb4s_92 : j_code jP 61 92 = some (.iconst 5) := rfl
set_option maxRecDepth 100000 in
theorem yb4s_93 : j_code jP 61 93 = some (.invokestatic 84) := rfl
set_option maxRecDepth 100000 in
theorem yb4s_96 : j_code jP 61 96 = some (.aload_n 1) := rfl
set_option maxRecDepth 100000 in
theorem yb4s_97 : j_code jP 61 97 = some (.getfield 24) := rfl
set_option maxRecDepth 100000 in
theorem yb4s_100 : j_code jP 61 100 = some (.iconst 0) := rfl
set_option maxRecDepth 100000 in
theorem yb4s_101 : j_code jP 61 101 = some (.aload_n 0) := rfl
set_option maxRecDepth 100000 in
theorem yb4s_102 : j_code jP 61 102 = some (.getfield 24) := rfl
set_option maxRecDepth 100000 in
theorem yb4s_105 : j_code jP 61 105 = some (.iconst 0) := rfl
set_option maxRecDepth 100000 in
theorem yb4s_106 : j_code jP 61 106 = some (.iconst 5) := rfl
set_option maxRecDepth 100000 in
theorem yb4s_107 : j_code jP 61 107 = some (.invokestatic 84) := rfl
set_option maxRecDepth 100000 in
theorem yb4s_110 : j_code jP 61 110 = some (.aload_n 1) := rfl
set_option maxRecDepth 100000 in
theorem yb4s_111 : j_code jP 61 111 = some (.getfield 27) := rfl
set_option maxRecDepth 100000 in
theorem yb4s_114 : j_code jP 61 114 = some (.iconst 0) := rfl
set_option maxRecDepth 100000 in
theorem yb4s_115 : j_code jP 61 115 = some (.aload_n 0) := rfl
set_option maxRecDepth 100000 in
theorem yb4s_116 : j_code jP 61 116 = some (.getfield 27) := rfl
set_option maxRecDepth 100000 in
theorem yb4s_119 : j_code jP 61 119 = some (.iconst 0) := rfl
set_option maxRecDepth 100000 in
theorem yb4s_120 : j_code jP 61 120 = some (.iconst 5) := rfl
set_option maxRecDepth 100000 in
theorem yb4s_121 : j_code jP 61 121 = some (.invokestatic 84) := rfl
set_option maxRecDepth 100000 in
theorem yb4s_124 : j_code jP 61 124 = some (.aload_n 1) := rfl
set_option maxRecDepth 100000 in
theorem yb4s_125 : j_code jP 61 125 = some (.getfield 30) := rfl
set_option maxRecDepth 100000 in
theorem yb4s_128 : j_code jP 61 128 = some (.iconst 0) := rfl
set_option maxRecDepth 100000 in
theorem yb4s_129 : j_code jP 61 129 = some (.aload_n 0) := rfl
set_option maxRecDepth 100000 in
theorem yb4s_130 : j_code jP 61 130 = some (.getfield 30) := rfl
set_option maxRecDepth 100000 in
theorem yb4s_133 : j_code jP 61 133 = some (.iconst 0) := rfl
set_option maxRecDepth 100000 in
theorem yb4s_134 : j_code jP 61 134 = some (.iconst 5) := rfl
set_option maxRecDepth 100000 in
theorem yb4s_135 : j_code jP 61 135 = some (.invokestatic 84) := rfl
set_option maxRecDepth 100000 in
theorem yb4s_138 : j_code jP 61 138 = some (.aload_n 1) := rfl
set_option maxRecDepth 100000 in
theorem yb4s_139 : j_code jP 61 139 = some (.getfield 33) := rfl
set_option maxRecDepth 100000 in
theorem yb4s_142 : j_code jP 61 142 = some (.iconst 0) := rfl
set_option maxRecDepth 100000 in
theorem yb4s_143 : j_code jP 61 143 = some (.aload_n 0) := rfl
set_option maxRecDepth 100000 in
theorem yb4s_144 : j_code jP 61 144 = some (.getfield 33) := rfl
set_option maxRecDepth 100000 in
theorem yb4s_147 : j_code jP 61 147 = some (.iconst 0) := rfl
set_option maxRecDepth 100000 in
theorem yb4s_148 : j_code jP 61 148 = some (.bipush 6) := rfl
set_option maxRecDepth 100000 in
theorem yb4s_150 : j_code jP 61 150 = some (.invokestatic 84) := rfl
set_option maxRecDepth 100000 in
theorem yb4s_153 : j_code jP 61 153 = some (.aload_n 1) := rfl
set_option maxRecDepth 100000 in
theorem yb4s_154 : j_code jP 61 154 = some (.getfield 36) := rfl
set_option maxRecDepth 100000 in
theorem yb4s_157 : j_code jP 61 157 = some (.iconst 0) := rfl
set_option maxRecDepth 100000 in
theorem yb4s_158 : j_code jP 61 158 = some (.aload_n 0) := rfl
set_option maxRecDepth 100000 in
theorem yb4s_159 : j_code jP 61 159 = some (.getfield 36) := rfl
set_option maxRecDepth 100000 in
theorem yb4s_162 : j_code jP 61 162 = some (.iconst 0) := rfl
set_option maxRecDepth 100000 in
theorem yb4s_163 : j_code jP 61 163 = some (.bipush 6) := rfl
set_option maxRecDepth 100000 in
theorem yb4s_165 : j_code jP 61 165 = some (.invokestatic 84) := rfl
set_option maxRecDepth 100000 in
theorem yb4s_168 : j_code jP 61 168 = some (.aload_n 1) := rfl
set_option maxRecDepth 100000 in
theorem yb4s_169 : j_code jP 61 169 = some (.getfield 39) := rfl
set_option maxRecDepth 100000 in
theorem yb4s_172 : j_code jP 61 172 = some (.iconst 0) := rfl
set_option maxRecDepth 100000 in
theorem yb4s_173 : j_code jP 61 173 = some (.aload_n 0) := rfl
set_option maxRecDepth 100000 in
theorem yb4s_174 : j_code jP 61 174 = some (.getfield 39) := rfl
set_option maxRecDepth 100000 in
theorem yb4s_177 : j_code jP 61 177 = some (.iconst 0) := rfl
set_option maxRecDepth 100000 in
theorem yb4s_178 : j_code jP 61 178 = some (.aload_n 0) := rfl
set_option maxRecDepth 100000 in
theorem yb4s_179 : j_code jP 61 179 = some (.getfield 39) := rfl
set_option maxRecDepth 100000 in
theorem yb4s_182 : j_code jP 61 182 = some (.arraylength) := rfl
set_option maxRecDepth 100000 in
theorem yb4s_183 : j_code jP 61 183 = some (.invokestatic 84) := rfl
set_option maxRecDepth 100000 in
theorem yb4s_186 : j_code jP 61 186 = some (.aload_n 1) := rfl
set_option maxRecDepth 100000 in
theorem yb4s_187 : j_code jP 61 187 = some (.getfield 42) := rfl
set_option maxRecDepth 100000 in
theorem yb4s_190 : j_code jP 61 190 = some (.iconst 0) := rfl
set_option maxRecDepth 100000 in
theorem yb4s_191 : j_code jP 61 191 = some (.aload_n 0) := rfl
set_option maxRecDepth 100000 in
theorem yb4s_192 : j_code jP 61 192 = some (.getfield 42) := rfl
set_option maxRecDepth 100000 in
theorem yb4s_195 : j_code jP 61 195 = some (.iconst 0) := rfl
set_option maxRecDepth 100000 in
theorem yb4s_196 : j_code jP 61 196 = some (.aload_n 0) := rfl
set_option maxRecDepth 100000 in
theorem yb4s_197 : j_code jP 61 197 = some (.getfield 42) := rfl
set_option maxRecDepth 100000 in
theorem yb4s_200 : j_code jP 61 200 = some (.arraylength) := rfl
set_option maxRecDepth 100000 in
theorem yb4s_201 : j_code jP 61 201 = some (.invokestatic 84) := rfl
set_option maxRecDepth 100000 in
theorem yb4s_204 : j_code jP 61 204 = some (.aload_n 1) := rfl
set_option maxRecDepth 100000 in
theorem yb4s_205 : j_code jP 61 205 = some (.getfield 45) := rfl
set_option maxRecDepth 100000 in
theorem yb4s_208 : j_code jP 61 208 = some (.iconst 0) := rfl
set_option maxRecDepth 100000 in
theorem yb4s_209 : j_code jP 61 209 = some (.aload_n 0) := rfl
set_option maxRecDepth 100000 in
theorem yb4s_210 : j_code jP 61 210 = some (.getfield 45) := rfl
set_option maxRecDepth 100000 in
theorem yb4s_213 : j_code jP 61 213 = some (.iconst 0) := rfl
set_option maxRecDepth 100000 in
theorem yb4s_214 : j_code jP 61 214 = some (.aload_n 0) := rfl
set_option maxRecDepth 100000 in
theorem yb4s_215 : j_code jP 61 215 = some (.getfield 45) := rfl
set_option maxRecDepth 100000 in
theorem yb4s_218 : j_code jP 61 218 = some (.arraylength) := rfl
set_option maxRecDepth 100000 in
theorem yb4s_219 : j_code jP 61 219 = some (.invokestatic 84) := rfl
set_option maxRecDepth 100000 in
theorem yb4s_222 : j_code jP 61 222 = some (.aload_n 0) := rfl
set_option maxRecDepth 100000 in
theorem yb4s_223 : j_code jP 61 223 = some (.getfield 60) := rfl
set_option maxRecDepth 100000 in
theorem yb4s_226 : j_code jP 61 226 = some (.aload_n 1) := rfl
set_option maxRecDepth 100000 in
theorem yb4s_227 : j_code jP 61 227 = some (.getfield 60) := rfl
set_option maxRecDepth 100000 in
theorem yb4s_230 : j_code jP 61 230 = some (.invokevirtual 108) := rfl
set_option maxRecDepth 100000 in
theorem yb4s_233 : j_code jP 61 233 = some (.return_) := rfl
set_option maxRecDepth 1000000 in
theorem yb4s_k0 {ly : Value} {mi : Int32} {shu : Int32} {bus : Int32} {lks : Int32} {lys : Nat} {mis : Int32} {shus : Int32} {buss : Int32} {lkss : Int32} {d : Nat} {lv : J_L} {h h0 : J_H} {Q : Option Value → J_H → Prop} (L : LK lv [(0, .ref 4), (1, .ref 131)]) (K : KN h [(4, .inl (7, [ly, .int mi, .int shu, .int bus, .ref 5, .ref 6, .ref 7, .ref 8, .ref 9, .ref 10, .ref 11, .ref 12, .ref 13, .ref 14, .ref 15, .int lks, .ref 16, .ref 17, .ref 20])), (131, .inl (7, [.ref lys, .int mis, .int shus, .int buss, .ref 132, .ref 133, .ref 134, .ref 135, .ref 136, .ref 137, .ref 138, .ref 139, .ref 140, .ref 141, .ref 142, .int lkss, .ref 143, .ref 144, .ref 147]))] h0) (kk : ∀ lv h, LK lv [(0, .ref 4), (1, .ref 131)] → KN h [(4, .inl (7, [.ref lys, .int mis, .int shus, .int buss, .ref 5, .ref 6, .ref 7, .ref 8, .ref 9, .ref 10, .ref 11, .ref 12, .ref 13, .ref 14, .ref 15, .int lkss, .ref 16, .ref 17, .ref 20])), (131, .inl (7, [.ref lys, .int mis, .int shus, .int buss, .ref 132, .ref 133, .ref 134, .ref 135, .ref 136, .ref 137, .ref 138, .ref 139, .ref 140, .ref 141, .ref 142, .int lkss, .ref 143, .ref 144, .ref 147]))] h0 → j_V jP d 61 40 lv [] h Q) : j_V jP d 61 0 lv [] h Q := by
  refine j_V.ldL yb4s_M yb4s_0 rfl (i := 0) (kd := 2) (v := .ref 4) (pcJ := 1) rfl L rfl rfl rfl ?_
  refine j_V.ldL yb4s_M yb4s_1 rfl (i := 1) (kd := 2) (v := .ref 131) (pcJ := 2) rfl L rfl rfl rfl ?_
  refine j_V.getK yb4s_M yb4s_2 (ci := 7) (j := 0) rfl K rfl rfl ?_
  refine j_V.putK yb4s_M yb4s_5 (ci := 7) (j := 0) (k' := [(4, .inl (7, [.ref lys, .int mi, .int shu, .int bus, .ref 5, .ref 6, .ref 7, .ref 8, .ref 9, .ref 10, .ref 11, .ref 12, .ref 13, .ref 14, .ref 15, .int lks, .ref 16, .ref 17, .ref 20])), (131, .inl (7, [.ref lys, .int mis, .int shus, .int buss, .ref 132, .ref 133, .ref 134, .ref 135, .ref 136, .ref 137, .ref 138, .ref 139, .ref 140, .ref 141, .ref 142, .int lkss, .ref 143, .ref 144, .ref 147]))]) rfl K rfl (Nat.le_of_ble_eq_true rfl) rfl (Or.inl rfl) rfl rfl (fun h K => ?_)
  refine j_V.ldL yb4s_M yb4s_8 rfl (i := 0) (kd := 2) (v := .ref 4) (pcJ := 9) rfl L rfl rfl rfl ?_
  refine j_V.ldL yb4s_M yb4s_9 rfl (i := 1) (kd := 2) (v := .ref 131) (pcJ := 10) rfl L rfl rfl rfl ?_
  refine j_V.getK yb4s_M yb4s_10 (ci := 7) (j := 1) rfl K rfl rfl ?_
  refine j_V.putK yb4s_M yb4s_13 (ci := 7) (j := 1) (k' := [(4, .inl (7, [.ref lys, .int mis, .int shu, .int bus, .ref 5, .ref 6, .ref 7, .ref 8, .ref 9, .ref 10, .ref 11, .ref 12, .ref 13, .ref 14, .ref 15, .int lks, .ref 16, .ref 17, .ref 20])), (131, .inl (7, [.ref lys, .int mis, .int shus, .int buss, .ref 132, .ref 133, .ref 134, .ref 135, .ref 136, .ref 137, .ref 138, .ref 139, .ref 140, .ref 141, .ref 142, .int lkss, .ref 143, .ref 144, .ref 147]))]) rfl K rfl (Nat.le_of_ble_eq_true rfl) rfl (Or.inl rfl) rfl rfl (fun h K => ?_)
  refine j_V.ldL yb4s_M yb4s_16 rfl (i := 0) (kd := 2) (v := .ref 4) (pcJ := 17) rfl L rfl rfl rfl ?_
  refine j_V.ldL yb4s_M yb4s_17 rfl (i := 1) (kd := 2) (v := .ref 131) (pcJ := 18) rfl L rfl rfl rfl ?_
  refine j_V.getK yb4s_M yb4s_18 (ci := 7) (j := 2) rfl K rfl rfl ?_
  refine j_V.putK yb4s_M yb4s_21 (ci := 7) (j := 2) (k' := [(4, .inl (7, [.ref lys, .int mis, .int shus, .int bus, .ref 5, .ref 6, .ref 7, .ref 8, .ref 9, .ref 10, .ref 11, .ref 12, .ref 13, .ref 14, .ref 15, .int lks, .ref 16, .ref 17, .ref 20])), (131, .inl (7, [.ref lys, .int mis, .int shus, .int buss, .ref 132, .ref 133, .ref 134, .ref 135, .ref 136, .ref 137, .ref 138, .ref 139, .ref 140, .ref 141, .ref 142, .int lkss, .ref 143, .ref 144, .ref 147]))]) rfl K rfl (Nat.le_of_ble_eq_true rfl) rfl (Or.inl rfl) rfl rfl (fun h K => ?_)
  refine j_V.ldL yb4s_M yb4s_24 rfl (i := 0) (kd := 2) (v := .ref 4) (pcJ := 25) rfl L rfl rfl rfl ?_
  refine j_V.ldL yb4s_M yb4s_25 rfl (i := 1) (kd := 2) (v := .ref 131) (pcJ := 26) rfl L rfl rfl rfl ?_
  refine j_V.getK yb4s_M yb4s_26 (ci := 7) (j := 3) rfl K rfl rfl ?_
  refine j_V.putK yb4s_M yb4s_29 (ci := 7) (j := 3) (k' := [(4, .inl (7, [.ref lys, .int mis, .int shus, .int buss, .ref 5, .ref 6, .ref 7, .ref 8, .ref 9, .ref 10, .ref 11, .ref 12, .ref 13, .ref 14, .ref 15, .int lks, .ref 16, .ref 17, .ref 20])), (131, .inl (7, [.ref lys, .int mis, .int shus, .int buss, .ref 132, .ref 133, .ref 134, .ref 135, .ref 136, .ref 137, .ref 138, .ref 139, .ref 140, .ref 141, .ref 142, .int lkss, .ref 143, .ref 144, .ref 147]))]) rfl K rfl (Nat.le_of_ble_eq_true rfl) rfl (Or.inl rfl) rfl rfl (fun h K => ?_)
  refine j_V.ldL yb4s_M yb4s_32 rfl (i := 0) (kd := 2) (v := .ref 4) (pcJ := 33) rfl L rfl rfl rfl ?_
  refine j_V.ldL yb4s_M yb4s_33 rfl (i := 1) (kd := 2) (v := .ref 131) (pcJ := 34) rfl L rfl rfl rfl ?_
  refine j_V.getK yb4s_M yb4s_34 (ci := 7) (j := 15) rfl K rfl rfl ?_
  refine j_V.putK yb4s_M yb4s_37 (ci := 7) (j := 15) (k' := [(4, .inl (7, [.ref lys, .int mis, .int shus, .int buss, .ref 5, .ref 6, .ref 7, .ref 8, .ref 9, .ref 10, .ref 11, .ref 12, .ref 13, .ref 14, .ref 15, .int lkss, .ref 16, .ref 17, .ref 20])), (131, .inl (7, [.ref lys, .int mis, .int shus, .int buss, .ref 132, .ref 133, .ref 134, .ref 135, .ref 136, .ref 137, .ref 138, .ref 139, .ref 140, .ref 141, .ref 142, .int lkss, .ref 143, .ref 144, .ref 147]))]) rfl K rfl (Nat.le_of_ble_eq_true rfl) rfl (Or.inl rfl) rfl rfl (fun h K => ?_)
  exact kk _ _ L K
set_option maxRecDepth 1000000 in
theorem yb4s_k40 {rk : List Int32} {sta : List Int32} {ph : List Int32} {lys : Nat} {mis : Int32} {shus : Int32} {buss : Int32} {lkss : Int32} {rks : List Int32} {stas : List Int32} {phs : List Int32} {d : Nat} {lv : J_L} {h h0 : J_H} {Q : Option Value → J_H → Prop} (L : LK lv [(0, .ref 4), (1, .ref 131)]) (K : KN h [(4, .inl (7, [.ref lys, .int mis, .int shus, .int buss, .ref 5, .ref 6, .ref 7, .ref 8, .ref 9, .ref 10, .ref 11, .ref 12, .ref 13, .ref 14, .ref 15, .int lkss, .ref 16, .ref 17, .ref 20])), (5, .inr (.inl (0, rk))), (6, .inr (.inl (0, sta))), (7, .inr (.inl (0, ph))), (131, .inl (7, [.ref lys, .int mis, .int shus, .int buss, .ref 132, .ref 133, .ref 134, .ref 135, .ref 136, .ref 137, .ref 138, .ref 139, .ref 140, .ref 141, .ref 142, .int lkss, .ref 143, .ref 144, .ref 147])), (132, .inr (.inl (0, rks))), (133, .inr (.inl (0, stas))), (134, .inr (.inl (0, phs)))] h0) (kk : ∀ lv h, LK lv [(0, .ref 4), (1, .ref 131)] → KN h [(4, .inl (7, [.ref lys, .int mis, .int shus, .int buss, .ref 5, .ref 6, .ref 7, .ref 8, .ref 9, .ref 10, .ref 11, .ref 12, .ref 13, .ref 14, .ref 15, .int lkss, .ref 16, .ref 17, .ref 20])), (5, .inr (.inl (0, (aC 5 rks rk)))), (6, .inr (.inl (0, (aC 5 stas sta)))), (7, .inr (.inl (0, (aC 5 phs ph)))), (131, .inl (7, [.ref lys, .int mis, .int shus, .int buss, .ref 132, .ref 133, .ref 134, .ref 135, .ref 136, .ref 137, .ref 138, .ref 139, .ref 140, .ref 141, .ref 142, .int lkss, .ref 143, .ref 144, .ref 147])), (132, .inr (.inl (0, rks))), (133, .inr (.inl (0, stas))), (134, .inr (.inl (0, phs)))] h0 → j_V jP d 61 82 lv [] h Q) : j_V jP d 61 40 lv [] h Q := by
  refine j_V.ldL yb4s_M yb4s_40 rfl (i := 1) (kd := 2) (v := .ref 131) (pcJ := 41) rfl L rfl rfl rfl ?_
  refine j_V.getK yb4s_M yb4s_41 (ci := 7) (j := 4) rfl K rfl rfl ?_
  refine j_V.one yb4s_M yb4s_44 (by decide) (pcJ := 45) (stJ := [.int 0, .ref 132]) rfl ?_
  refine j_V.ldL yb4s_M yb4s_45 rfl (i := 0) (kd := 2) (v := .ref 4) (pcJ := 46) rfl L rfl rfl rfl ?_
  refine j_V.getK yb4s_M yb4s_46 (ci := 7) (j := 4) rfl K rfl rfl ?_
  refine j_V.one yb4s_M yb4s_49 (by decide) (pcJ := 50) (stJ := [.int 0, .ref 5, .int 0, .ref 132]) rfl ?_
  refine j_V.one yb4s_M yb4s_50 (by decide) (pcJ := 51) (stJ := [.int 5, .int 0, .ref 5, .int 0, .ref 132]) rfl ?_
  refine j_V.acp yb4s_M yb4s_51 rfl rfl K rfl rfl rfl (fun h K => ?_)
  refine j_V.ldL yb4s_M yb4s_54 rfl (i := 1) (kd := 2) (v := .ref 131) (pcJ := 55) rfl L rfl rfl rfl ?_
  refine j_V.getK yb4s_M yb4s_55 (ci := 7) (j := 5) rfl K rfl rfl ?_
  refine j_V.one yb4s_M yb4s_58 (by decide) (pcJ := 59) (stJ := [.int 0, .ref 133]) rfl ?_
  refine j_V.ldL yb4s_M yb4s_59 rfl (i := 0) (kd := 2) (v := .ref 4) (pcJ := 60) rfl L rfl rfl rfl ?_
  refine j_V.getK yb4s_M yb4s_60 (ci := 7) (j := 5) rfl K rfl rfl ?_
  refine j_V.one yb4s_M yb4s_63 (by decide) (pcJ := 64) (stJ := [.int 0, .ref 6, .int 0, .ref 133]) rfl ?_
  refine j_V.one yb4s_M yb4s_64 (by decide) (pcJ := 65) (stJ := [.int 5, .int 0, .ref 6, .int 0, .ref 133]) rfl ?_
  refine j_V.acp yb4s_M yb4s_65 rfl rfl K rfl rfl rfl (fun h K => ?_)
  refine j_V.ldL yb4s_M yb4s_68 rfl (i := 1) (kd := 2) (v := .ref 131) (pcJ := 69) rfl L rfl rfl rfl ?_
  refine j_V.getK yb4s_M yb4s_69 (ci := 7) (j := 6) rfl K rfl rfl ?_
  refine j_V.one yb4s_M yb4s_72 (by decide) (pcJ := 73) (stJ := [.int 0, .ref 134]) rfl ?_
  refine j_V.ldL yb4s_M yb4s_73 rfl (i := 0) (kd := 2) (v := .ref 4) (pcJ := 74) rfl L rfl rfl rfl ?_
  refine j_V.getK yb4s_M yb4s_74 (ci := 7) (j := 6) rfl K rfl rfl ?_
  refine j_V.one yb4s_M yb4s_77 (by decide) (pcJ := 78) (stJ := [.int 0, .ref 7, .int 0, .ref 134]) rfl ?_
  refine j_V.one yb4s_M yb4s_78 (by decide) (pcJ := 79) (stJ := [.int 5, .int 0, .ref 7, .int 0, .ref 134]) rfl ?_
  refine j_V.acp yb4s_M yb4s_79 rfl rfl K rfl rfl rfl (fun h K => ?_)
  exact kk _ _ L K
set_option maxRecDepth 1000000 in
theorem yb4s_k82 {sp : List Int32} {ce : List Int32} {du : List Int32} {lys : Nat} {mis : Int32} {shus : Int32} {buss : Int32} {lkss : Int32} {sps : List Int32} {ces : List Int32} {dus : List Int32} {d : Nat} {lv : J_L} {h h0 : J_H} {Q : Option Value → J_H → Prop} (L : LK lv [(0, .ref 4), (1, .ref 131)]) (K : KN h [(4, .inl (7, [.ref lys, .int mis, .int shus, .int buss, .ref 5, .ref 6, .ref 7, .ref 8, .ref 9, .ref 10, .ref 11, .ref 12, .ref 13, .ref 14, .ref 15, .int lkss, .ref 16, .ref 17, .ref 20])), (8, .inr (.inl (0, sp))), (9, .inr (.inl (0, ce))), (10, .inr (.inl (0, du))), (131, .inl (7, [.ref lys, .int mis, .int shus, .int buss, .ref 132, .ref 133, .ref 134, .ref 135, .ref 136, .ref 137, .ref 138, .ref 139, .ref 140, .ref 141, .ref 142, .int lkss, .ref 143, .ref 144, .ref 147])), (135, .inr (.inl (0, sps))), (136, .inr (.inl (0, ces))), (137, .inr (.inl (0, dus)))] h0) (kk : ∀ lv h, LK lv [(0, .ref 4), (1, .ref 131)] → KN h [(4, .inl (7, [.ref lys, .int mis, .int shus, .int buss, .ref 5, .ref 6, .ref 7, .ref 8, .ref 9, .ref 10, .ref 11, .ref 12, .ref 13, .ref 14, .ref 15, .int lkss, .ref 16, .ref 17, .ref 20])), (8, .inr (.inl (0, (aC 5 sps sp)))), (9, .inr (.inl (0, (aC 5 ces ce)))), (10, .inr (.inl (0, (aC 5 dus du)))), (131, .inl (7, [.ref lys, .int mis, .int shus, .int buss, .ref 132, .ref 133, .ref 134, .ref 135, .ref 136, .ref 137, .ref 138, .ref 139, .ref 140, .ref 141, .ref 142, .int lkss, .ref 143, .ref 144, .ref 147])), (135, .inr (.inl (0, sps))), (136, .inr (.inl (0, ces))), (137, .inr (.inl (0, dus)))] h0 → j_V jP d 61 124 lv [] h Q) : j_V jP d 61 82 lv [] h Q := by
  refine j_V.ldL yb4s_M yb4s_82 rfl (i := 1) (kd := 2) (v := .ref 131) (pcJ := 83) rfl L rfl rfl rfl ?_
  refine j_V.getK yb4s_M yb4s_83 (ci := 7) (j := 7) rfl K rfl rfl ?_
  refine j_V.one yb4s_M yb4s_86 (by decide) (pcJ := 87) (stJ := [.int 0, .ref 135]) rfl ?_
  refine j_V.ldL yb4s_M yb4s_87 rfl (i := 0) (kd := 2) (v := .ref 4) (pcJ := 88) rfl L rfl rfl rfl ?_
  refine j_V.getK yb4s_M yb4s_88 (ci := 7) (j := 7) rfl K rfl rfl ?_
  refine j_V.one yb4s_M yb4s_91 (by decide) (pcJ := 92) (stJ := [.int 0, .ref 8, .int 0, .ref 135]) rfl ?_
  refine j_V.one yb4s_M yb4s_92 (by decide) (pcJ := 93) (stJ := [.int 5, .int 0, .ref 8, .int 0, .ref 135]) rfl ?_
  refine j_V.acp yb4s_M yb4s_93 rfl rfl K rfl rfl rfl (fun h K => ?_)
  refine j_V.ldL yb4s_M yb4s_96 rfl (i := 1) (kd := 2) (v := .ref 131) (pcJ := 97) rfl L rfl rfl rfl ?_
  refine j_V.getK yb4s_M yb4s_97 (ci := 7) (j := 8) rfl K rfl rfl ?_
  refine j_V.one yb4s_M yb4s_100 (by decide) (pcJ := 101) (stJ := [.int 0, .ref 136]) rfl ?_
  refine j_V.ldL yb4s_M yb4s_101 rfl (i := 0) (kd := 2) (v := .ref 4) (pcJ := 102) rfl L rfl rfl rfl ?_
  refine j_V.getK yb4s_M yb4s_102 (ci := 7) (j := 8) rfl K rfl rfl ?_
  refine j_V.one yb4s_M yb4s_105 (by decide) (pcJ := 106) (stJ := [.int 0, .ref 9, .int 0, .ref 136]) rfl ?_
  refine j_V.one yb4s_M yb4s_106 (by decide) (pcJ := 107) (stJ := [.int 5, .int 0, .ref 9, .int 0, .ref 136]) rfl ?_
  refine j_V.acp yb4s_M yb4s_107 rfl rfl K rfl rfl rfl (fun h K => ?_)
  refine j_V.ldL yb4s_M yb4s_110 rfl (i := 1) (kd := 2) (v := .ref 131) (pcJ := 111) rfl L rfl rfl rfl ?_
  refine j_V.getK yb4s_M yb4s_111 (ci := 7) (j := 9) rfl K rfl rfl ?_
  refine j_V.one yb4s_M yb4s_114 (by decide) (pcJ := 115) (stJ := [.int 0, .ref 137]) rfl ?_
  refine j_V.ldL yb4s_M yb4s_115 rfl (i := 0) (kd := 2) (v := .ref 4) (pcJ := 116) rfl L rfl rfl rfl ?_
  refine j_V.getK yb4s_M yb4s_116 (ci := 7) (j := 9) rfl K rfl rfl ?_
  refine j_V.one yb4s_M yb4s_119 (by decide) (pcJ := 120) (stJ := [.int 0, .ref 10, .int 0, .ref 137]) rfl ?_
  refine j_V.one yb4s_M yb4s_120 (by decide) (pcJ := 121) (stJ := [.int 5, .int 0, .ref 10, .int 0, .ref 137]) rfl ?_
  refine j_V.acp yb4s_M yb4s_121 rfl rfl K rfl rfl rfl (fun h K => ?_)
  exact kk _ _ L K
set_option maxRecDepth 1000000 in
theorem yb4s_k124 {he : List Int32} {ri : List Int32} {us : List Int32} {lys : Nat} {mis : Int32} {shus : Int32} {buss : Int32} {lkss : Int32} {hes : List Int32} {ris : List Int32} {uss : List Int32} {d : Nat} {lv : J_L} {h h0 : J_H} {Q : Option Value → J_H → Prop} (L : LK lv [(0, .ref 4), (1, .ref 131)]) (K : KN h [(4, .inl (7, [.ref lys, .int mis, .int shus, .int buss, .ref 5, .ref 6, .ref 7, .ref 8, .ref 9, .ref 10, .ref 11, .ref 12, .ref 13, .ref 14, .ref 15, .int lkss, .ref 16, .ref 17, .ref 20])), (11, .inr (.inl (0, he))), (12, .inr (.inl (0, ri))), (13, .inr (.inl (0, us))), (131, .inl (7, [.ref lys, .int mis, .int shus, .int buss, .ref 132, .ref 133, .ref 134, .ref 135, .ref 136, .ref 137, .ref 138, .ref 139, .ref 140, .ref 141, .ref 142, .int lkss, .ref 143, .ref 144, .ref 147])), (138, .inr (.inl (0, hes))), (139, .inr (.inl (0, ris))), (140, .inr (.inl (0, uss)))] h0) (kk : ∀ lv h, LK lv [(0, .ref 4), (1, .ref 131)] → KN h [(4, .inl (7, [.ref lys, .int mis, .int shus, .int buss, .ref 5, .ref 6, .ref 7, .ref 8, .ref 9, .ref 10, .ref 11, .ref 12, .ref 13, .ref 14, .ref 15, .int lkss, .ref 16, .ref 17, .ref 20])), (11, .inr (.inl (0, (aC 5 hes he)))), (12, .inr (.inl (0, (aC 6 ris ri)))), (13, .inr (.inl (0, (aC 6 uss us)))), (131, .inl (7, [.ref lys, .int mis, .int shus, .int buss, .ref 132, .ref 133, .ref 134, .ref 135, .ref 136, .ref 137, .ref 138, .ref 139, .ref 140, .ref 141, .ref 142, .int lkss, .ref 143, .ref 144, .ref 147])), (138, .inr (.inl (0, hes))), (139, .inr (.inl (0, ris))), (140, .inr (.inl (0, uss)))] h0 → j_V jP d 61 168 lv [] h Q) : j_V jP d 61 124 lv [] h Q := by
  refine j_V.ldL yb4s_M yb4s_124 rfl (i := 1) (kd := 2) (v := .ref 131) (pcJ := 125) rfl L rfl rfl rfl ?_
  refine j_V.getK yb4s_M yb4s_125 (ci := 7) (j := 10) rfl K rfl rfl ?_
  refine j_V.one yb4s_M yb4s_128 (by decide) (pcJ := 129) (stJ := [.int 0, .ref 138]) rfl ?_
  refine j_V.ldL yb4s_M yb4s_129 rfl (i := 0) (kd := 2) (v := .ref 4) (pcJ := 130) rfl L rfl rfl rfl ?_
  refine j_V.getK yb4s_M yb4s_130 (ci := 7) (j := 10) rfl K rfl rfl ?_
  refine j_V.one yb4s_M yb4s_133 (by decide) (pcJ := 134) (stJ := [.int 0, .ref 11, .int 0, .ref 138]) rfl ?_
  refine j_V.one yb4s_M yb4s_134 (by decide) (pcJ := 135) (stJ := [.int 5, .int 0, .ref 11, .int 0, .ref 138]) rfl ?_
  refine j_V.acp yb4s_M yb4s_135 rfl rfl K rfl rfl rfl (fun h K => ?_)
  refine j_V.ldL yb4s_M yb4s_138 rfl (i := 1) (kd := 2) (v := .ref 131) (pcJ := 139) rfl L rfl rfl rfl ?_
  refine j_V.getK yb4s_M yb4s_139 (ci := 7) (j := 11) rfl K rfl rfl ?_
  refine j_V.one yb4s_M yb4s_142 (by decide) (pcJ := 143) (stJ := [.int 0, .ref 139]) rfl ?_
  refine j_V.ldL yb4s_M yb4s_143 rfl (i := 0) (kd := 2) (v := .ref 4) (pcJ := 144) rfl L rfl rfl rfl ?_
  refine j_V.getK yb4s_M yb4s_144 (ci := 7) (j := 11) rfl K rfl rfl ?_
  refine j_V.one yb4s_M yb4s_147 (by decide) (pcJ := 148) (stJ := [.int 0, .ref 12, .int 0, .ref 139]) rfl ?_
  refine j_V.one yb4s_M yb4s_148 (by decide) (pcJ := 150) (stJ := [.int 6, .int 0, .ref 12, .int 0, .ref 139]) rfl ?_
  refine j_V.acp yb4s_M yb4s_150 rfl rfl K rfl rfl rfl (fun h K => ?_)
  refine j_V.ldL yb4s_M yb4s_153 rfl (i := 1) (kd := 2) (v := .ref 131) (pcJ := 154) rfl L rfl rfl rfl ?_
  refine j_V.getK yb4s_M yb4s_154 (ci := 7) (j := 12) rfl K rfl rfl ?_
  refine j_V.one yb4s_M yb4s_157 (by decide) (pcJ := 158) (stJ := [.int 0, .ref 140]) rfl ?_
  refine j_V.ldL yb4s_M yb4s_158 rfl (i := 0) (kd := 2) (v := .ref 4) (pcJ := 159) rfl L rfl rfl rfl ?_
  refine j_V.getK yb4s_M yb4s_159 (ci := 7) (j := 12) rfl K rfl rfl ?_
  refine j_V.one yb4s_M yb4s_162 (by decide) (pcJ := 163) (stJ := [.int 0, .ref 13, .int 0, .ref 140]) rfl ?_
  refine j_V.one yb4s_M yb4s_163 (by decide) (pcJ := 165) (stJ := [.int 6, .int 0, .ref 13, .int 0, .ref 140]) rfl ?_
  refine j_V.acp yb4s_M yb4s_165 rfl rfl K rfl rfl rfl (fun h K => ?_)
  exact kk _ _ L K
set_option maxRecDepth 1000000 in
theorem yb4s_k168 {cm : List Int32} {lf : List Int32} {lkd : List Int32} {lys : Nat} {mis : Int32} {shus : Int32} {buss : Int32} {lkss : Int32} {cms : List Int32} {lfs : List Int32} {lkds : List Int32} {d : Nat} {lv : J_L} {h h0 : J_H} {Q : Option Value → J_H → Prop} (L : LK lv [(0, .ref 4), (1, .ref 131)]) (K : KN h [(4, .inl (7, [.ref lys, .int mis, .int shus, .int buss, .ref 5, .ref 6, .ref 7, .ref 8, .ref 9, .ref 10, .ref 11, .ref 12, .ref 13, .ref 14, .ref 15, .int lkss, .ref 16, .ref 17, .ref 20])), (14, .inr (.inl (0, cm))), (15, .inr (.inl (0, lf))), (16, .inr (.inl (0, lkd))), (131, .inl (7, [.ref lys, .int mis, .int shus, .int buss, .ref 132, .ref 133, .ref 134, .ref 135, .ref 136, .ref 137, .ref 138, .ref 139, .ref 140, .ref 141, .ref 142, .int lkss, .ref 143, .ref 144, .ref 147])), (141, .inr (.inl (0, cms))), (142, .inr (.inl (0, lfs))), (143, .inr (.inl (0, lkds)))] h0) (kk : ∀ lv h, LK lv [(0, .ref 4), (1, .ref 131)] → KN h [(4, .inl (7, [.ref lys, .int mis, .int shus, .int buss, .ref 5, .ref 6, .ref 7, .ref 8, .ref 9, .ref 10, .ref 11, .ref 12, .ref 13, .ref 14, .ref 15, .int lkss, .ref 16, .ref 17, .ref 20])), (14, .inr (.inl (0, (aC (nI cm.length) cms cm)))), (15, .inr (.inl (0, (aC (nI lf.length) lfs lf)))), (16, .inr (.inl (0, (aC (nI lkd.length) lkds lkd)))), (131, .inl (7, [.ref lys, .int mis, .int shus, .int buss, .ref 132, .ref 133, .ref 134, .ref 135, .ref 136, .ref 137, .ref 138, .ref 139, .ref 140, .ref 141, .ref 142, .int lkss, .ref 143, .ref 144, .ref 147])), (141, .inr (.inl (0, cms))), (142, .inr (.inl (0, lfs))), (143, .inr (.inl (0, lkds)))] h0 → j_V jP d 61 222 lv [] h Q) : j_V jP d 61 168 lv [] h Q := by
  refine j_V.ldL yb4s_M yb4s_168 rfl (i := 1) (kd := 2) (v := .ref 131) (pcJ := 169) rfl L rfl rfl rfl ?_
  refine j_V.getK yb4s_M yb4s_169 (ci := 7) (j := 13) rfl K rfl rfl ?_
  refine j_V.one yb4s_M yb4s_172 (by decide) (pcJ := 173) (stJ := [.int 0, .ref 141]) rfl ?_
  refine j_V.ldL yb4s_M yb4s_173 rfl (i := 0) (kd := 2) (v := .ref 4) (pcJ := 174) rfl L rfl rfl rfl ?_
  refine j_V.getK yb4s_M yb4s_174 (ci := 7) (j := 13) rfl K rfl rfl ?_
  refine j_V.one yb4s_M yb4s_177 (by decide) (pcJ := 178) (stJ := [.int 0, .ref 14, .int 0, .ref 141]) rfl ?_
  refine j_V.ldL yb4s_M yb4s_178 rfl (i := 0) (kd := 2) (v := .ref 4) (pcJ := 179) rfl L rfl rfl rfl ?_
  refine j_V.getK yb4s_M yb4s_179 (ci := 7) (j := 13) rfl K rfl rfl ?_
  refine j_V.alnA yb4s_M yb4s_182 K rfl ?_
  refine j_V.acp yb4s_M yb4s_183 rfl rfl K rfl rfl rfl (fun h K => ?_)
  refine j_V.ldL yb4s_M yb4s_186 rfl (i := 1) (kd := 2) (v := .ref 131) (pcJ := 187) rfl L rfl rfl rfl ?_
  refine j_V.getK yb4s_M yb4s_187 (ci := 7) (j := 14) rfl K rfl rfl ?_
  refine j_V.one yb4s_M yb4s_190 (by decide) (pcJ := 191) (stJ := [.int 0, .ref 142]) rfl ?_
  refine j_V.ldL yb4s_M yb4s_191 rfl (i := 0) (kd := 2) (v := .ref 4) (pcJ := 192) rfl L rfl rfl rfl ?_
  refine j_V.getK yb4s_M yb4s_192 (ci := 7) (j := 14) rfl K rfl rfl ?_
  refine j_V.one yb4s_M yb4s_195 (by decide) (pcJ := 196) (stJ := [.int 0, .ref 15, .int 0, .ref 142]) rfl ?_
  refine j_V.ldL yb4s_M yb4s_196 rfl (i := 0) (kd := 2) (v := .ref 4) (pcJ := 197) rfl L rfl rfl rfl ?_
  refine j_V.getK yb4s_M yb4s_197 (ci := 7) (j := 14) rfl K rfl rfl ?_
  refine j_V.alnA yb4s_M yb4s_200 K rfl ?_
  refine j_V.acp yb4s_M yb4s_201 rfl rfl K rfl rfl rfl (fun h K => ?_)
  refine j_V.ldL yb4s_M yb4s_204 rfl (i := 1) (kd := 2) (v := .ref 131) (pcJ := 205) rfl L rfl rfl rfl ?_
  refine j_V.getK yb4s_M yb4s_205 (ci := 7) (j := 16) rfl K rfl rfl ?_
  refine j_V.one yb4s_M yb4s_208 (by decide) (pcJ := 209) (stJ := [.int 0, .ref 143]) rfl ?_
  refine j_V.ldL yb4s_M yb4s_209 rfl (i := 0) (kd := 2) (v := .ref 4) (pcJ := 210) rfl L rfl rfl rfl ?_
  refine j_V.getK yb4s_M yb4s_210 (ci := 7) (j := 16) rfl K rfl rfl ?_
  refine j_V.one yb4s_M yb4s_213 (by decide) (pcJ := 214) (stJ := [.int 0, .ref 16, .int 0, .ref 143]) rfl ?_
  refine j_V.ldL yb4s_M yb4s_214 rfl (i := 0) (kd := 2) (v := .ref 4) (pcJ := 215) rfl L rfl rfl rfl ?_
  refine j_V.getK yb4s_M yb4s_215 (ci := 7) (j := 16) rfl K rfl rfl ?_
  refine j_V.alnA yb4s_M yb4s_218 K rfl ?_
  refine j_V.acp yb4s_M yb4s_219 rfl rfl K rfl rfl rfl (fun h K => ?_)
  exact kk _ _ L K
set_option maxRecDepth 1000000 in
theorem yb4s_ok {ly : Value} {mi : Int32} {shu : Int32} {bus : Int32} {lks : Int32} {rk : List Int32} {sta : List Int32} {ph : List Int32} {sp : List Int32} {ce : List Int32} {du : List Int32} {he : List Int32} {ri : List Int32} {us : List Int32} {cm : List Int32} {lf : List Int32} {lkd : List Int32} {pev : Int32} {pms : List Int32} {pmm : List Int32} {pmt : List Int32} {pst : List Int32} {pwa : List Int32} {prs : List Int32} {prr : List Int32} {pfa : List Int32} {lys : Nat} {mis : Int32} {shus : Int32} {buss : Int32} {lkss : Int32} {rks : List Int32} {stas : List Int32} {phs : List Int32} {sps : List Int32} {ces : List Int32} {dus : List Int32} {hes : List Int32} {ris : List Int32} {uss : List Int32} {cms : List Int32} {lfs : List Int32} {lkds : List Int32} {pevs : Int32} {pmss : List Int32} {pmms : List Int32} {pmts : List Int32} {psts : List Int32} {pwas : List Int32} {prss : List Int32} {prrs : List Int32} {pfas : List Int32} {d : Nat} {h h0 : J_H} (K : KN h [(4, .inl (7, [ly, .int mi, .int shu, .int bus, .ref 5, .ref 6, .ref 7, .ref 8, .ref 9, .ref 10, .ref 11, .ref 12, .ref 13, .ref 14, .ref 15, .int lks, .ref 16, .ref 17, .ref 20])), (5, .inr (.inl (0, rk))), (6, .inr (.inl (0, sta))), (7, .inr (.inl (0, ph))), (8, .inr (.inl (0, sp))), (9, .inr (.inl (0, ce))), (10, .inr (.inl (0, du))), (11, .inr (.inl (0, he))), (12, .inr (.inl (0, ri))), (13, .inr (.inl (0, us))), (14, .inr (.inl (0, cm))), (15, .inr (.inl (0, lf))), (16, .inr (.inl (0, lkd))), (20, .inl (3, [.ref 21, .ref 22, .ref 23, .ref 24, .ref 25, .ref 26, .ref 27, .ref 28, .int pev, .int 1])), (21, .inr (.inl (0, pms))), (22, .inr (.inl (0, pmm))), (23, .inr (.inl (0, pmt))), (24, .inr (.inl (0, pst))), (25, .inr (.inl (0, pwa))), (26, .inr (.inl (0, prs))), (27, .inr (.inl (0, prr))), (28, .inr (.inl (0, pfa))), (131, .inl (7, [.ref lys, .int mis, .int shus, .int buss, .ref 132, .ref 133, .ref 134, .ref 135, .ref 136, .ref 137, .ref 138, .ref 139, .ref 140, .ref 141, .ref 142, .int lkss, .ref 143, .ref 144, .ref 147])), (132, .inr (.inl (0, rks))), (133, .inr (.inl (0, stas))), (134, .inr (.inl (0, phs))), (135, .inr (.inl (0, sps))), (136, .inr (.inl (0, ces))), (137, .inr (.inl (0, dus))), (138, .inr (.inl (0, hes))), (139, .inr (.inl (0, ris))), (140, .inr (.inl (0, uss))), (141, .inr (.inl (0, cms))), (142, .inr (.inl (0, lfs))), (143, .inr (.inl (0, lkds))), (147, .inl (3, [.ref 148, .ref 149, .ref 150, .ref 151, .ref 152, .ref 153, .ref 154, .ref 155, .int pevs, .int 1])), (148, .inr (.inl (0, pmss))), (149, .inr (.inl (0, pmms))), (150, .inr (.inl (0, pmts))), (151, .inr (.inl (0, psts))), (152, .inr (.inl (0, pwas))), (153, .inr (.inl (0, prss))), (154, .inr (.inl (0, prrs))), (155, .inr (.inl (0, pfas)))] h0) : j_V jP d 61 0 (lv_args 0 [.ref 4, .ref 131]) [] h (fun rv h' => rv = none ∧ KN h' [(4, .inl (7, [.ref lys, .int mis, .int shus, .int buss, .ref 5, .ref 6, .ref 7, .ref 8, .ref 9, .ref 10, .ref 11, .ref 12, .ref 13, .ref 14, .ref 15, .int lkss, .ref 16, .ref 17, .ref 20])), (5, .inr (.inl (0, (aC 5 rks rk)))), (6, .inr (.inl (0, (aC 5 stas sta)))), (7, .inr (.inl (0, (aC 5 phs ph)))), (8, .inr (.inl (0, (aC 5 sps sp)))), (9, .inr (.inl (0, (aC 5 ces ce)))), (10, .inr (.inl (0, (aC 5 dus du)))), (11, .inr (.inl (0, (aC 5 hes he)))), (12, .inr (.inl (0, (aC 6 ris ri)))), (13, .inr (.inl (0, (aC 6 uss us)))), (14, .inr (.inl (0, (aC (nI cm.length) cms cm)))), (15, .inr (.inl (0, (aC (nI lf.length) lfs lf)))), (16, .inr (.inl (0, (aC (nI lkd.length) lkds lkd)))), (20, .inl (3, [.ref 21, .ref 22, .ref 23, .ref 24, .ref 25, .ref 26, .ref 27, .ref 28, .int pevs, .int 1])), (21, .inr (.inl (0, (aC (nI pms.length) pmss pms)))), (22, .inr (.inl (0, (aC (nI pmm.length) pmms pmm)))), (23, .inr (.inl (0, (aC (nI pmt.length) pmts pmt)))), (24, .inr (.inl (0, (aC (nI pst.length) psts pst)))), (25, .inr (.inl (0, (aC (nI pwa.length) pwas pwa)))), (26, .inr (.inl (0, (aC (nI prs.length) prss prs)))), (27, .inr (.inl (0, (aC (nI prr.length) prrs prr)))), (28, .inr (.inl (0, (aC (nI pfa.length) pfas pfa)))), (131, .inl (7, [.ref lys, .int mis, .int shus, .int buss, .ref 132, .ref 133, .ref 134, .ref 135, .ref 136, .ref 137, .ref 138, .ref 139, .ref 140, .ref 141, .ref 142, .int lkss, .ref 143, .ref 144, .ref 147])), (132, .inr (.inl (0, rks))), (133, .inr (.inl (0, stas))), (134, .inr (.inl (0, phs))), (135, .inr (.inl (0, sps))), (136, .inr (.inl (0, ces))), (137, .inr (.inl (0, dus))), (138, .inr (.inl (0, hes))), (139, .inr (.inl (0, ris))), (140, .inr (.inl (0, uss))), (141, .inr (.inl (0, cms))), (142, .inr (.inl (0, lfs))), (143, .inr (.inl (0, lkds))), (147, .inl (3, [.ref 148, .ref 149, .ref 150, .ref 151, .ref 152, .ref 153, .ref 154, .ref 155, .int pevs, .int 1])), (148, .inr (.inl (0, pmss))), (149, .inr (.inl (0, pmms))), (150, .inr (.inl (0, pmts))), (151, .inr (.inl (0, psts))), (152, .inr (.inl (0, pwas))), (153, .inr (.inl (0, prss))), (154, .inr (.inl (0, prrs))), (155, .inr (.inl (0, pfas)))] h0) := by
  show j_V jP d 61 0 [(0, .ref 4), (1, .ref 131)] [] h _
  obtain ⟨lv, elv, L⟩ : ∃ lv, lv = [(0, .ref 4), (1, .ref 131)] ∧ LK lv [(0, .ref 4), (1, .ref 131)] := ⟨_, rfl, LK.rf⟩
  rw [← elv]
  clear elv
  refine yb4s_k0 L (K.fi [4, 131] rfl rfl) (fun lv h9 L K9 => ?_)
  have K : KN h9 [(4, .inl (7, [.ref lys, .int mis, .int shus, .int buss, .ref 5, .ref 6, .ref 7, .ref 8, .ref 9, .ref 10, .ref 11, .ref 12, .ref 13, .ref 14, .ref 15, .int lkss, .ref 16, .ref 17, .ref 20])), (5, .inr (.inl (0, rk))), (6, .inr (.inl (0, sta))), (7, .inr (.inl (0, ph))), (8, .inr (.inl (0, sp))), (9, .inr (.inl (0, ce))), (10, .inr (.inl (0, du))), (11, .inr (.inl (0, he))), (12, .inr (.inl (0, ri))), (13, .inr (.inl (0, us))), (14, .inr (.inl (0, cm))), (15, .inr (.inl (0, lf))), (16, .inr (.inl (0, lkd))), (20, .inl (3, [.ref 21, .ref 22, .ref 23, .ref 24, .ref 25, .ref 26, .ref 27, .ref 28, .int pev, .int 1])), (21, .inr (.inl (0, pms))), (22, .inr (.inl (0, pmm))), (23, .inr (.inl (0, pmt))), (24, .inr (.inl (0, pst))), (25, .inr (.inl (0, pwa))), (26, .inr (.inl (0, prs))), (27, .inr (.inl (0, prr))), (28, .inr (.inl (0, pfa))), (131, .inl (7, [.ref lys, .int mis, .int shus, .int buss, .ref 132, .ref 133, .ref 134, .ref 135, .ref 136, .ref 137, .ref 138, .ref 139, .ref 140, .ref 141, .ref 142, .int lkss, .ref 143, .ref 144, .ref 147])), (132, .inr (.inl (0, rks))), (133, .inr (.inl (0, stas))), (134, .inr (.inl (0, phs))), (135, .inr (.inl (0, sps))), (136, .inr (.inl (0, ces))), (137, .inr (.inl (0, dus))), (138, .inr (.inl (0, hes))), (139, .inr (.inl (0, ris))), (140, .inr (.inl (0, uss))), (141, .inr (.inl (0, cms))), (142, .inr (.inl (0, lfs))), (143, .inr (.inl (0, lkds))), (147, .inl (3, [.ref 148, .ref 149, .ref 150, .ref 151, .ref 152, .ref 153, .ref 154, .ref 155, .int pevs, .int 1])), (148, .inr (.inl (0, pmss))), (149, .inr (.inl (0, pmms))), (150, .inr (.inl (0, pmts))), (151, .inr (.inl (0, psts))), (152, .inr (.inl (0, pwas))), (153, .inr (.inl (0, prss))), (154, .inr (.inl (0, prrs))), (155, .inr (.inl (0, pfas)))] h0 := K.mg K9 rfl rfl
  clear K9
  refine yb4s_k40 L (K.fi [4, 5, 6, 7, 131, 132, 133, 134] rfl rfl) (fun lv h9 L K9 => ?_)
  have K : KN h9 [(4, .inl (7, [.ref lys, .int mis, .int shus, .int buss, .ref 5, .ref 6, .ref 7, .ref 8, .ref 9, .ref 10, .ref 11, .ref 12, .ref 13, .ref 14, .ref 15, .int lkss, .ref 16, .ref 17, .ref 20])), (5, .inr (.inl (0, (aC 5 rks rk)))), (6, .inr (.inl (0, (aC 5 stas sta)))), (7, .inr (.inl (0, (aC 5 phs ph)))), (8, .inr (.inl (0, sp))), (9, .inr (.inl (0, ce))), (10, .inr (.inl (0, du))), (11, .inr (.inl (0, he))), (12, .inr (.inl (0, ri))), (13, .inr (.inl (0, us))), (14, .inr (.inl (0, cm))), (15, .inr (.inl (0, lf))), (16, .inr (.inl (0, lkd))), (20, .inl (3, [.ref 21, .ref 22, .ref 23, .ref 24, .ref 25, .ref 26, .ref 27, .ref 28, .int pev, .int 1])), (21, .inr (.inl (0, pms))), (22, .inr (.inl (0, pmm))), (23, .inr (.inl (0, pmt))), (24, .inr (.inl (0, pst))), (25, .inr (.inl (0, pwa))), (26, .inr (.inl (0, prs))), (27, .inr (.inl (0, prr))), (28, .inr (.inl (0, pfa))), (131, .inl (7, [.ref lys, .int mis, .int shus, .int buss, .ref 132, .ref 133, .ref 134, .ref 135, .ref 136, .ref 137, .ref 138, .ref 139, .ref 140, .ref 141, .ref 142, .int lkss, .ref 143, .ref 144, .ref 147])), (132, .inr (.inl (0, rks))), (133, .inr (.inl (0, stas))), (134, .inr (.inl (0, phs))), (135, .inr (.inl (0, sps))), (136, .inr (.inl (0, ces))), (137, .inr (.inl (0, dus))), (138, .inr (.inl (0, hes))), (139, .inr (.inl (0, ris))), (140, .inr (.inl (0, uss))), (141, .inr (.inl (0, cms))), (142, .inr (.inl (0, lfs))), (143, .inr (.inl (0, lkds))), (147, .inl (3, [.ref 148, .ref 149, .ref 150, .ref 151, .ref 152, .ref 153, .ref 154, .ref 155, .int pevs, .int 1])), (148, .inr (.inl (0, pmss))), (149, .inr (.inl (0, pmms))), (150, .inr (.inl (0, pmts))), (151, .inr (.inl (0, psts))), (152, .inr (.inl (0, pwas))), (153, .inr (.inl (0, prss))), (154, .inr (.inl (0, prrs))), (155, .inr (.inl (0, pfas)))] h0 := K.mg K9 rfl rfl
  clear K9
  refine yb4s_k82 L (K.fi [4, 8, 9, 10, 131, 135, 136, 137] rfl rfl) (fun lv h9 L K9 => ?_)
  have K : KN h9 [(4, .inl (7, [.ref lys, .int mis, .int shus, .int buss, .ref 5, .ref 6, .ref 7, .ref 8, .ref 9, .ref 10, .ref 11, .ref 12, .ref 13, .ref 14, .ref 15, .int lkss, .ref 16, .ref 17, .ref 20])), (5, .inr (.inl (0, (aC 5 rks rk)))), (6, .inr (.inl (0, (aC 5 stas sta)))), (7, .inr (.inl (0, (aC 5 phs ph)))), (8, .inr (.inl (0, (aC 5 sps sp)))), (9, .inr (.inl (0, (aC 5 ces ce)))), (10, .inr (.inl (0, (aC 5 dus du)))), (11, .inr (.inl (0, he))), (12, .inr (.inl (0, ri))), (13, .inr (.inl (0, us))), (14, .inr (.inl (0, cm))), (15, .inr (.inl (0, lf))), (16, .inr (.inl (0, lkd))), (20, .inl (3, [.ref 21, .ref 22, .ref 23, .ref 24, .ref 25, .ref 26, .ref 27, .ref 28, .int pev, .int 1])), (21, .inr (.inl (0, pms))), (22, .inr (.inl (0, pmm))), (23, .inr (.inl (0, pmt))), (24, .inr (.inl (0, pst))), (25, .inr (.inl (0, pwa))), (26, .inr (.inl (0, prs))), (27, .inr (.inl (0, prr))), (28, .inr (.inl (0, pfa))), (131, .inl (7, [.ref lys, .int mis, .int shus, .int buss, .ref 132, .ref 133, .ref 134, .ref 135, .ref 136, .ref 137, .ref 138, .ref 139, .ref 140, .ref 141, .ref 142, .int lkss, .ref 143, .ref 144, .ref 147])), (132, .inr (.inl (0, rks))), (133, .inr (.inl (0, stas))), (134, .inr (.inl (0, phs))), (135, .inr (.inl (0, sps))), (136, .inr (.inl (0, ces))), (137, .inr (.inl (0, dus))), (138, .inr (.inl (0, hes))), (139, .inr (.inl (0, ris))), (140, .inr (.inl (0, uss))), (141, .inr (.inl (0, cms))), (142, .inr (.inl (0, lfs))), (143, .inr (.inl (0, lkds))), (147, .inl (3, [.ref 148, .ref 149, .ref 150, .ref 151, .ref 152, .ref 153, .ref 154, .ref 155, .int pevs, .int 1])), (148, .inr (.inl (0, pmss))), (149, .inr (.inl (0, pmms))), (150, .inr (.inl (0, pmts))), (151, .inr (.inl (0, psts))), (152, .inr (.inl (0, pwas))), (153, .inr (.inl (0, prss))), (154, .inr (.inl (0, prrs))), (155, .inr (.inl (0, pfas)))] h0 := K.mg K9 rfl rfl
  clear K9
  refine yb4s_k124 L (K.fi [4, 11, 12, 13, 131, 138, 139, 140] rfl rfl) (fun lv h9 L K9 => ?_)
  have K : KN h9 [(4, .inl (7, [.ref lys, .int mis, .int shus, .int buss, .ref 5, .ref 6, .ref 7, .ref 8, .ref 9, .ref 10, .ref 11, .ref 12, .ref 13, .ref 14, .ref 15, .int lkss, .ref 16, .ref 17, .ref 20])), (5, .inr (.inl (0, (aC 5 rks rk)))), (6, .inr (.inl (0, (aC 5 stas sta)))), (7, .inr (.inl (0, (aC 5 phs ph)))), (8, .inr (.inl (0, (aC 5 sps sp)))), (9, .inr (.inl (0, (aC 5 ces ce)))), (10, .inr (.inl (0, (aC 5 dus du)))), (11, .inr (.inl (0, (aC 5 hes he)))), (12, .inr (.inl (0, (aC 6 ris ri)))), (13, .inr (.inl (0, (aC 6 uss us)))), (14, .inr (.inl (0, cm))), (15, .inr (.inl (0, lf))), (16, .inr (.inl (0, lkd))), (20, .inl (3, [.ref 21, .ref 22, .ref 23, .ref 24, .ref 25, .ref 26, .ref 27, .ref 28, .int pev, .int 1])), (21, .inr (.inl (0, pms))), (22, .inr (.inl (0, pmm))), (23, .inr (.inl (0, pmt))), (24, .inr (.inl (0, pst))), (25, .inr (.inl (0, pwa))), (26, .inr (.inl (0, prs))), (27, .inr (.inl (0, prr))), (28, .inr (.inl (0, pfa))), (131, .inl (7, [.ref lys, .int mis, .int shus, .int buss, .ref 132, .ref 133, .ref 134, .ref 135, .ref 136, .ref 137, .ref 138, .ref 139, .ref 140, .ref 141, .ref 142, .int lkss, .ref 143, .ref 144, .ref 147])), (132, .inr (.inl (0, rks))), (133, .inr (.inl (0, stas))), (134, .inr (.inl (0, phs))), (135, .inr (.inl (0, sps))), (136, .inr (.inl (0, ces))), (137, .inr (.inl (0, dus))), (138, .inr (.inl (0, hes))), (139, .inr (.inl (0, ris))), (140, .inr (.inl (0, uss))), (141, .inr (.inl (0, cms))), (142, .inr (.inl (0, lfs))), (143, .inr (.inl (0, lkds))), (147, .inl (3, [.ref 148, .ref 149, .ref 150, .ref 151, .ref 152, .ref 153, .ref 154, .ref 155, .int pevs, .int 1])), (148, .inr (.inl (0, pmss))), (149, .inr (.inl (0, pmms))), (150, .inr (.inl (0, pmts))), (151, .inr (.inl (0, psts))), (152, .inr (.inl (0, pwas))), (153, .inr (.inl (0, prss))), (154, .inr (.inl (0, prrs))), (155, .inr (.inl (0, pfas)))] h0 := K.mg K9 rfl rfl
  clear K9
  refine yb4s_k168 L (K.fi [4, 14, 15, 16, 131, 141, 142, 143] rfl rfl) (fun lv h9 L K9 => ?_)
  have K : KN h9 [(4, .inl (7, [.ref lys, .int mis, .int shus, .int buss, .ref 5, .ref 6, .ref 7, .ref 8, .ref 9, .ref 10, .ref 11, .ref 12, .ref 13, .ref 14, .ref 15, .int lkss, .ref 16, .ref 17, .ref 20])), (5, .inr (.inl (0, (aC 5 rks rk)))), (6, .inr (.inl (0, (aC 5 stas sta)))), (7, .inr (.inl (0, (aC 5 phs ph)))), (8, .inr (.inl (0, (aC 5 sps sp)))), (9, .inr (.inl (0, (aC 5 ces ce)))), (10, .inr (.inl (0, (aC 5 dus du)))), (11, .inr (.inl (0, (aC 5 hes he)))), (12, .inr (.inl (0, (aC 6 ris ri)))), (13, .inr (.inl (0, (aC 6 uss us)))), (14, .inr (.inl (0, (aC (nI cm.length) cms cm)))), (15, .inr (.inl (0, (aC (nI lf.length) lfs lf)))), (16, .inr (.inl (0, (aC (nI lkd.length) lkds lkd)))), (20, .inl (3, [.ref 21, .ref 22, .ref 23, .ref 24, .ref 25, .ref 26, .ref 27, .ref 28, .int pev, .int 1])), (21, .inr (.inl (0, pms))), (22, .inr (.inl (0, pmm))), (23, .inr (.inl (0, pmt))), (24, .inr (.inl (0, pst))), (25, .inr (.inl (0, pwa))), (26, .inr (.inl (0, prs))), (27, .inr (.inl (0, prr))), (28, .inr (.inl (0, pfa))), (131, .inl (7, [.ref lys, .int mis, .int shus, .int buss, .ref 132, .ref 133, .ref 134, .ref 135, .ref 136, .ref 137, .ref 138, .ref 139, .ref 140, .ref 141, .ref 142, .int lkss, .ref 143, .ref 144, .ref 147])), (132, .inr (.inl (0, rks))), (133, .inr (.inl (0, stas))), (134, .inr (.inl (0, phs))), (135, .inr (.inl (0, sps))), (136, .inr (.inl (0, ces))), (137, .inr (.inl (0, dus))), (138, .inr (.inl (0, hes))), (139, .inr (.inl (0, ris))), (140, .inr (.inl (0, uss))), (141, .inr (.inl (0, cms))), (142, .inr (.inl (0, lfs))), (143, .inr (.inl (0, lkds))), (147, .inl (3, [.ref 148, .ref 149, .ref 150, .ref 151, .ref 152, .ref 153, .ref 154, .ref 155, .int pevs, .int 1])), (148, .inr (.inl (0, pmss))), (149, .inr (.inl (0, pmms))), (150, .inr (.inl (0, pmts))), (151, .inr (.inl (0, psts))), (152, .inr (.inl (0, pwas))), (153, .inr (.inl (0, prss))), (154, .inr (.inl (0, prrs))), (155, .inr (.inl (0, pfas)))] h0 := K.mg K9 rfl rfl
  clear K9
  refine j_V.ldL yb4s_M yb4s_222 rfl (i := 0) (kd := 2) (v := .ref 4) (pcJ := 223) rfl L rfl rfl rfl ?_
  refine j_V.getK yb4s_M yb4s_223 (ci := 7) (j := 18) rfl K rfl rfl ?_
  refine j_V.ldL yb4s_M yb4s_226 rfl (i := 1) (kd := 2) (v := .ref 131) (pcJ := 227) rfl L rfl rfl rfl ?_
  refine j_V.getK yb4s_M yb4s_227 (ci := 7) (j := 18) rfl K rfl rfl ?_
  refine j_V.cl yb4s_M yb4s_230 rfl (md := 3) (mj := 28) rfl (by decide) yb4p_M (As := [.ref 20, .ref 147]) (rest := []) (jk_spl3 (K.at rfl) rfl rfl rfl (Nat.le_of_ble_eq_true rfl) (Nat.le_of_ble_eq_true rfl)) (fun d => yb4p_ok (K.fi [20, 21, 22, 23, 24, 25, 26, 27, 28, 147, 148, 149, 150, 151, 152, 153, 154, 155] rfl rfl)) ?_
  rintro r h9 ⟨rfl, K9⟩
  have K : KN h9 [(4, .inl (7, [.ref lys, .int mis, .int shus, .int buss, .ref 5, .ref 6, .ref 7, .ref 8, .ref 9, .ref 10, .ref 11, .ref 12, .ref 13, .ref 14, .ref 15, .int lkss, .ref 16, .ref 17, .ref 20])), (5, .inr (.inl (0, (aC 5 rks rk)))), (6, .inr (.inl (0, (aC 5 stas sta)))), (7, .inr (.inl (0, (aC 5 phs ph)))), (8, .inr (.inl (0, (aC 5 sps sp)))), (9, .inr (.inl (0, (aC 5 ces ce)))), (10, .inr (.inl (0, (aC 5 dus du)))), (11, .inr (.inl (0, (aC 5 hes he)))), (12, .inr (.inl (0, (aC 6 ris ri)))), (13, .inr (.inl (0, (aC 6 uss us)))), (14, .inr (.inl (0, (aC (nI cm.length) cms cm)))), (15, .inr (.inl (0, (aC (nI lf.length) lfs lf)))), (16, .inr (.inl (0, (aC (nI lkd.length) lkds lkd)))), (20, .inl (3, [.ref 21, .ref 22, .ref 23, .ref 24, .ref 25, .ref 26, .ref 27, .ref 28, .int pevs, .int 1])), (21, .inr (.inl (0, (aC (nI pms.length) pmss pms)))), (22, .inr (.inl (0, (aC (nI pmm.length) pmms pmm)))), (23, .inr (.inl (0, (aC (nI pmt.length) pmts pmt)))), (24, .inr (.inl (0, (aC (nI pst.length) psts pst)))), (25, .inr (.inl (0, (aC (nI pwa.length) pwas pwa)))), (26, .inr (.inl (0, (aC (nI prs.length) prss prs)))), (27, .inr (.inl (0, (aC (nI prr.length) prrs prr)))), (28, .inr (.inl (0, (aC (nI pfa.length) pfas pfa)))), (131, .inl (7, [.ref lys, .int mis, .int shus, .int buss, .ref 132, .ref 133, .ref 134, .ref 135, .ref 136, .ref 137, .ref 138, .ref 139, .ref 140, .ref 141, .ref 142, .int lkss, .ref 143, .ref 144, .ref 147])), (132, .inr (.inl (0, rks))), (133, .inr (.inl (0, stas))), (134, .inr (.inl (0, phs))), (135, .inr (.inl (0, sps))), (136, .inr (.inl (0, ces))), (137, .inr (.inl (0, dus))), (138, .inr (.inl (0, hes))), (139, .inr (.inl (0, ris))), (140, .inr (.inl (0, uss))), (141, .inr (.inl (0, cms))), (142, .inr (.inl (0, lfs))), (143, .inr (.inl (0, lkds))), (147, .inl (3, [.ref 148, .ref 149, .ref 150, .ref 151, .ref 152, .ref 153, .ref 154, .ref 155, .int pevs, .int 1])), (148, .inr (.inl (0, pmss))), (149, .inr (.inl (0, pmms))), (150, .inr (.inl (0, pmts))), (151, .inr (.inl (0, psts))), (152, .inr (.inl (0, pwas))), (153, .inr (.inl (0, prss))), (154, .inr (.inl (0, prrs))), (155, .inr (.inl (0, pfas)))] h0 := K.mg K9 rfl rfl
  clear K9
  show j_V jP _ 61 233 lv [] h9 _
  exact j_V.ret yb4s_M yb4s_233 rfl rfl ⟨rfl, K⟩
set_option maxRecDepth 100000 in
theorem yb4m_M : j_meth jP 3 = some (yX0_takeBack, cX0_takeBack, 2, none, 1, false, 0) := rfl
set_option maxRecDepth 100000 in
theorem yb4m_0 : j_code jP 3 0 = some (.aload_n 0) := rfl
set_option maxRecDepth 100000 in
theorem yb4m_1 : j_code jP 3 1 = some (.aload_n 0) := rfl
set_option maxRecDepth 100000 in
theorem yb4m_2 : j_code jP 3 2 = some (.getfield 24) := rfl
set_option maxRecDepth 100000 in
theorem yb4m_5 : j_code jP 3 5 = some (.bipush 10) := rfl
set_option maxRecDepth 100000 in
theorem yb4m_7 : j_code jP 3 7 = some (.iadd) := rfl
set_option maxRecDepth 100000 in
theorem yb4m_8 : j_code jP 3 8 = some (.iconst 1) := rfl
set_option maxRecDepth 100000 in
theorem yb4m_9 : j_code jP 3 9 = some (.isub) := rfl
set_option maxRecDepth 100000 in
theorem yb4m_10 : j_code jP 3 10 = some (.bipush 10) := rfl
set_option maxRecDepth 100000 in
theorem yb4m_12 : j_code jP 3 12 = some (.irem) := rfl
set_option maxRecDepth 100000 in
theorem yb4m_13 : j_code jP 3 13 = some (.putfield 24) := rfl
set_option maxRecDepth 100000 in
theorem yb4m_16 : j_code jP 3 16 = some (.aload_n 0) := rfl
set_option maxRecDepth 100000 in
theorem yb4m_17 : j_code jP 3 17 = some (.dup) := rfl
set_option maxRecDepth 100000 in
theorem yb4m_18 : j_code jP 3 18 = some (.getfield 20) := rfl
set_option maxRecDepth 100000 in
theorem yb4m_21 : j_code jP 3 21 = some (.iconst 1) := rfl
set_option maxRecDepth 100000 in
theorem yb4m_22 : j_code jP 3 22 = some (.isub) := rfl
set_option maxRecDepth 100000 in
theorem yb4m_23 : j_code jP 3 23 = some (.putfield 20) := rfl
set_option maxRecDepth 100000 in
theorem yb4m_26 : j_code jP 3 26 = some (.aload_n 1) := rfl
set_option maxRecDepth 100000 in
theorem yb4m_27 : j_code jP 3 27 = some (.aload_n 0) := rfl
set_option maxRecDepth 100000 in
theorem yb4m_28 : j_code jP 3 28 = some (.getfield 11) := rfl
set_option maxRecDepth 100000 in
theorem yb4m_31 : j_code jP 3 31 = some (.aload_n 0) := rfl
set_option maxRecDepth 100000 in
theorem yb4m_32 : j_code jP 3 32 = some (.getfield 24) := rfl
set_option maxRecDepth 100000 in
theorem yb4m_35 : j_code jP 3 35 = some (.aaload) := rfl
set_option maxRecDepth 100000 in
theorem yb4m_36 : j_code jP 3 36 = some (.invokevirtual 27) := rfl
set_option maxRecDepth 100000 in
theorem yb4m_39 : j_code jP 3 39 = some (.return_) := rfl
set_option maxRecDepth 1000000 in
theorem yb4m_ok {ly : Value} {mi : Int32} {shu : Int32} {bus : Int32} {lks : Int32} {rk : List Int32} {sta : List Int32} {ph : List Int32} {sp : List Int32} {ce : List Int32} {du : List Int32} {he : List Int32} {ri : List Int32} {us : List Int32} {cm : List Int32} {lf : List Int32} {lkd : List Int32} {pev : Int32} {pms : List Int32} {pmm : List Int32} {pmt : List Int32} {pst : List Int32} {pwa : List Int32} {prs : List Int32} {prr : List Int32} {pfa : List Int32} {lys : Nat} {mis : Int32} {shus : Int32} {buss : Int32} {lkss : Int32} {rks : List Int32} {stas : List Int32} {phs : List Int32} {sps : List Int32} {ces : List Int32} {dus : List Int32} {hes : List Int32} {ris : List Int32} {uss : List Int32} {cms : List Int32} {lfs : List Int32} {lkds : List Int32} {pevs : Int32} {pmss : List Int32} {pmms : List Int32} {pmts : List Int32} {psts : List Int32} {pwas : List Int32} {prss : List Int32} {prrs : List Int32} {pfas : List Int32} {acco : Int32} {d : Nat} {h h0 : J_H} (K : KN h [(4, .inl (7, [ly, .int mi, .int shu, .int bus, .ref 5, .ref 6, .ref 7, .ref 8, .ref 9, .ref 10, .ref 11, .ref 12, .ref 13, .ref 14, .ref 15, .int lks, .ref 16, .ref 17, .ref 20])), (5, .inr (.inl (0, rk))), (6, .inr (.inl (0, sta))), (7, .inr (.inl (0, ph))), (8, .inr (.inl (0, sp))), (9, .inr (.inl (0, ce))), (10, .inr (.inl (0, du))), (11, .inr (.inl (0, he))), (12, .inr (.inl (0, ri))), (13, .inr (.inl (0, us))), (14, .inr (.inl (0, cm))), (15, .inr (.inl (0, lf))), (16, .inr (.inl (0, lkd))), (20, .inl (3, [.ref 21, .ref 22, .ref 23, .ref 24, .ref 25, .ref 26, .ref 27, .ref 28, .int pev, .int 1])), (21, .inr (.inl (0, pms))), (22, .inr (.inl (0, pmm))), (23, .inr (.inl (0, pmt))), (24, .inr (.inl (0, pst))), (25, .inr (.inl (0, pwa))), (26, .inr (.inl (0, prs))), (27, .inr (.inl (0, prr))), (28, .inr (.inl (0, pfa))), (29, .inl (0, [.ref 30, .int 5, .int acco])), (30, .inr (.inr (.inr [some 31, some 56, some 81, some 106, some 131, some 156, some 181, some 206, some 231, some 256]))), (131, .inl (7, [.ref lys, .int mis, .int shus, .int buss, .ref 132, .ref 133, .ref 134, .ref 135, .ref 136, .ref 137, .ref 138, .ref 139, .ref 140, .ref 141, .ref 142, .int lkss, .ref 143, .ref 144, .ref 147])), (132, .inr (.inl (0, rks))), (133, .inr (.inl (0, stas))), (134, .inr (.inl (0, phs))), (135, .inr (.inl (0, sps))), (136, .inr (.inl (0, ces))), (137, .inr (.inl (0, dus))), (138, .inr (.inl (0, hes))), (139, .inr (.inl (0, ris))), (140, .inr (.inl (0, uss))), (141, .inr (.inl (0, cms))), (142, .inr (.inl (0, lfs))), (143, .inr (.inl (0, lkds))), (147, .inl (3, [.ref 148, .ref 149, .ref 150, .ref 151, .ref 152, .ref 153, .ref 154, .ref 155, .int pevs, .int 1])), (148, .inr (.inl (0, pmss))), (149, .inr (.inl (0, pmms))), (150, .inr (.inl (0, pmts))), (151, .inr (.inl (0, psts))), (152, .inr (.inl (0, pwas))), (153, .inr (.inl (0, prss))), (154, .inr (.inl (0, prrs))), (155, .inr (.inl (0, pfas)))] h0) : j_V jP d 3 0 (lv_args 0 [.ref 29, .ref 4]) [] h (fun rv h' => rv = none ∧ KN h' [(4, .inl (7, [.ref lys, .int mis, .int shus, .int buss, .ref 5, .ref 6, .ref 7, .ref 8, .ref 9, .ref 10, .ref 11, .ref 12, .ref 13, .ref 14, .ref 15, .int lkss, .ref 16, .ref 17, .ref 20])), (5, .inr (.inl (0, (aC 5 rks rk)))), (6, .inr (.inl (0, (aC 5 stas sta)))), (7, .inr (.inl (0, (aC 5 phs ph)))), (8, .inr (.inl (0, (aC 5 sps sp)))), (9, .inr (.inl (0, (aC 5 ces ce)))), (10, .inr (.inl (0, (aC 5 dus du)))), (11, .inr (.inl (0, (aC 5 hes he)))), (12, .inr (.inl (0, (aC 6 ris ri)))), (13, .inr (.inl (0, (aC 6 uss us)))), (14, .inr (.inl (0, (aC (nI cm.length) cms cm)))), (15, .inr (.inl (0, (aC (nI lf.length) lfs lf)))), (16, .inr (.inl (0, (aC (nI lkd.length) lkds lkd)))), (20, .inl (3, [.ref 21, .ref 22, .ref 23, .ref 24, .ref 25, .ref 26, .ref 27, .ref 28, .int pevs, .int 1])), (21, .inr (.inl (0, (aC (nI pms.length) pmss pms)))), (22, .inr (.inl (0, (aC (nI pmm.length) pmms pmm)))), (23, .inr (.inl (0, (aC (nI pmt.length) pmts pmt)))), (24, .inr (.inl (0, (aC (nI pst.length) psts pst)))), (25, .inr (.inl (0, (aC (nI pwa.length) pwas pwa)))), (26, .inr (.inl (0, (aC (nI prs.length) prss prs)))), (27, .inr (.inl (0, (aC (nI prr.length) prrs prr)))), (28, .inr (.inl (0, (aC (nI pfa.length) pfas pfa)))), (29, .inl (0, [.ref 30, .int 4, .int (acco - 1)])), (30, .inr (.inr (.inr [some 31, some 56, some 81, some 106, some 131, some 156, some 181, some 206, some 231, some 256]))), (131, .inl (7, [.ref lys, .int mis, .int shus, .int buss, .ref 132, .ref 133, .ref 134, .ref 135, .ref 136, .ref 137, .ref 138, .ref 139, .ref 140, .ref 141, .ref 142, .int lkss, .ref 143, .ref 144, .ref 147])), (132, .inr (.inl (0, rks))), (133, .inr (.inl (0, stas))), (134, .inr (.inl (0, phs))), (135, .inr (.inl (0, sps))), (136, .inr (.inl (0, ces))), (137, .inr (.inl (0, dus))), (138, .inr (.inl (0, hes))), (139, .inr (.inl (0, ris))), (140, .inr (.inl (0, uss))), (141, .inr (.inl (0, cms))), (142, .inr (.inl (0, lfs))), (143, .inr (.inl (0, lkds))), (147, .inl (3, [.ref 148, .ref 149, .ref 150, .ref 151, .ref 152, .ref 153, .ref 154, .ref 155, .int pevs, .int 1])), (148, .inr (.inl (0, pmss))), (149, .inr (.inl (0, pmms))), (150, .inr (.inl (0, pmts))), (151, .inr (.inl (0, psts))), (152, .inr (.inl (0, pwas))), (153, .inr (.inl (0, prss))), (154, .inr (.inl (0, prrs))), (155, .inr (.inl (0, pfas)))] h0) := by
  show j_V jP d 3 0 [(0, .ref 29), (1, .ref 4)] [] h _
  obtain ⟨lv, elv, L⟩ : ∃ lv, lv = [(0, .ref 29), (1, .ref 4)] ∧ LK lv [(0, .ref 29), (1, .ref 4)] := ⟨_, rfl, LK.rf⟩
  rw [← elv]
  clear elv
  refine j_V.ldL yb4m_M yb4m_0 rfl (i := 0) (kd := 2) (v := .ref 29) (pcJ := 1) rfl L rfl rfl rfl ?_
  refine j_V.ldL yb4m_M yb4m_1 rfl (i := 0) (kd := 2) (v := .ref 29) (pcJ := 2) rfl L rfl rfl rfl ?_
  refine j_V.getK yb4m_M yb4m_2 (ci := 0) (j := 1) rfl K rfl rfl ?_
  refine j_V.one yb4m_M yb4m_5 (by decide) (pcJ := 7) (stJ := [.int 10, .int 5, .ref 29]) rfl ?_
  refine j_V.one yb4m_M yb4m_7 (by decide) (pcJ := 8) (stJ := [.int 15, .ref 29]) rfl ?_
  refine j_V.one yb4m_M yb4m_8 (by decide) (pcJ := 9) (stJ := [.int 1, .int 15, .ref 29]) rfl ?_
  refine j_V.one yb4m_M yb4m_9 (by decide) (pcJ := 10) (stJ := [.int 14, .ref 29]) rfl ?_
  refine j_V.one yb4m_M yb4m_10 (by decide) (pcJ := 12) (stJ := [.int 10, .int 14, .ref 29]) rfl ?_
  refine j_V.one yb4m_M yb4m_12 (by decide) (pcJ := 13) (stJ := [.int 4, .ref 29]) rfl ?_
  refine j_V.putK yb4m_M yb4m_13 (ci := 0) (j := 1) (k' := [(4, .inl (7, [ly, .int mi, .int shu, .int bus, .ref 5, .ref 6, .ref 7, .ref 8, .ref 9, .ref 10, .ref 11, .ref 12, .ref 13, .ref 14, .ref 15, .int lks, .ref 16, .ref 17, .ref 20])), (5, .inr (.inl (0, rk))), (6, .inr (.inl (0, sta))), (7, .inr (.inl (0, ph))), (8, .inr (.inl (0, sp))), (9, .inr (.inl (0, ce))), (10, .inr (.inl (0, du))), (11, .inr (.inl (0, he))), (12, .inr (.inl (0, ri))), (13, .inr (.inl (0, us))), (14, .inr (.inl (0, cm))), (15, .inr (.inl (0, lf))), (16, .inr (.inl (0, lkd))), (20, .inl (3, [.ref 21, .ref 22, .ref 23, .ref 24, .ref 25, .ref 26, .ref 27, .ref 28, .int pev, .int 1])), (21, .inr (.inl (0, pms))), (22, .inr (.inl (0, pmm))), (23, .inr (.inl (0, pmt))), (24, .inr (.inl (0, pst))), (25, .inr (.inl (0, pwa))), (26, .inr (.inl (0, prs))), (27, .inr (.inl (0, prr))), (28, .inr (.inl (0, pfa))), (29, .inl (0, [.ref 30, .int 4, .int acco])), (30, .inr (.inr (.inr [some 31, some 56, some 81, some 106, some 131, some 156, some 181, some 206, some 231, some 256]))), (131, .inl (7, [.ref lys, .int mis, .int shus, .int buss, .ref 132, .ref 133, .ref 134, .ref 135, .ref 136, .ref 137, .ref 138, .ref 139, .ref 140, .ref 141, .ref 142, .int lkss, .ref 143, .ref 144, .ref 147])), (132, .inr (.inl (0, rks))), (133, .inr (.inl (0, stas))), (134, .inr (.inl (0, phs))), (135, .inr (.inl (0, sps))), (136, .inr (.inl (0, ces))), (137, .inr (.inl (0, dus))), (138, .inr (.inl (0, hes))), (139, .inr (.inl (0, ris))), (140, .inr (.inl (0, uss))), (141, .inr (.inl (0, cms))), (142, .inr (.inl (0, lfs))), (143, .inr (.inl (0, lkds))), (147, .inl (3, [.ref 148, .ref 149, .ref 150, .ref 151, .ref 152, .ref 153, .ref 154, .ref 155, .int pevs, .int 1])), (148, .inr (.inl (0, pmss))), (149, .inr (.inl (0, pmms))), (150, .inr (.inl (0, pmts))), (151, .inr (.inl (0, psts))), (152, .inr (.inl (0, pwas))), (153, .inr (.inl (0, prss))), (154, .inr (.inl (0, prrs))), (155, .inr (.inl (0, pfas)))]) rfl K rfl (Nat.le_of_ble_eq_true rfl) rfl (Or.inl rfl) rfl rfl (fun h K => ?_)
  refine j_V.ldL yb4m_M yb4m_16 rfl (i := 0) (kd := 2) (v := .ref 29) (pcJ := 17) rfl L rfl rfl rfl ?_
  refine j_V.one yb4m_M yb4m_17 (by decide) (pcJ := 18) (stJ := [.ref 29, .ref 29]) rfl ?_
  refine j_V.getK yb4m_M yb4m_18 (ci := 0) (j := 2) rfl K rfl rfl ?_
  refine j_V.one yb4m_M yb4m_21 (by decide) (pcJ := 22) (stJ := [.int 1, .int acco, .ref 29]) rfl ?_
  refine j_V.one yb4m_M yb4m_22 (by decide) (pcJ := 23) (stJ := [.int (acco - 1), .ref 29]) rfl ?_
  refine j_V.putK yb4m_M yb4m_23 (ci := 0) (j := 2) (k' := [(4, .inl (7, [ly, .int mi, .int shu, .int bus, .ref 5, .ref 6, .ref 7, .ref 8, .ref 9, .ref 10, .ref 11, .ref 12, .ref 13, .ref 14, .ref 15, .int lks, .ref 16, .ref 17, .ref 20])), (5, .inr (.inl (0, rk))), (6, .inr (.inl (0, sta))), (7, .inr (.inl (0, ph))), (8, .inr (.inl (0, sp))), (9, .inr (.inl (0, ce))), (10, .inr (.inl (0, du))), (11, .inr (.inl (0, he))), (12, .inr (.inl (0, ri))), (13, .inr (.inl (0, us))), (14, .inr (.inl (0, cm))), (15, .inr (.inl (0, lf))), (16, .inr (.inl (0, lkd))), (20, .inl (3, [.ref 21, .ref 22, .ref 23, .ref 24, .ref 25, .ref 26, .ref 27, .ref 28, .int pev, .int 1])), (21, .inr (.inl (0, pms))), (22, .inr (.inl (0, pmm))), (23, .inr (.inl (0, pmt))), (24, .inr (.inl (0, pst))), (25, .inr (.inl (0, pwa))), (26, .inr (.inl (0, prs))), (27, .inr (.inl (0, prr))), (28, .inr (.inl (0, pfa))), (29, .inl (0, [.ref 30, .int 4, .int (acco - 1)])), (30, .inr (.inr (.inr [some 31, some 56, some 81, some 106, some 131, some 156, some 181, some 206, some 231, some 256]))), (131, .inl (7, [.ref lys, .int mis, .int shus, .int buss, .ref 132, .ref 133, .ref 134, .ref 135, .ref 136, .ref 137, .ref 138, .ref 139, .ref 140, .ref 141, .ref 142, .int lkss, .ref 143, .ref 144, .ref 147])), (132, .inr (.inl (0, rks))), (133, .inr (.inl (0, stas))), (134, .inr (.inl (0, phs))), (135, .inr (.inl (0, sps))), (136, .inr (.inl (0, ces))), (137, .inr (.inl (0, dus))), (138, .inr (.inl (0, hes))), (139, .inr (.inl (0, ris))), (140, .inr (.inl (0, uss))), (141, .inr (.inl (0, cms))), (142, .inr (.inl (0, lfs))), (143, .inr (.inl (0, lkds))), (147, .inl (3, [.ref 148, .ref 149, .ref 150, .ref 151, .ref 152, .ref 153, .ref 154, .ref 155, .int pevs, .int 1])), (148, .inr (.inl (0, pmss))), (149, .inr (.inl (0, pmms))), (150, .inr (.inl (0, pmts))), (151, .inr (.inl (0, psts))), (152, .inr (.inl (0, pwas))), (153, .inr (.inl (0, prss))), (154, .inr (.inl (0, prrs))), (155, .inr (.inl (0, pfas)))]) rfl K rfl (Nat.le_of_ble_eq_true rfl) rfl (Or.inl rfl) rfl rfl (fun h K => ?_)
  refine j_V.ldL yb4m_M yb4m_26 rfl (i := 1) (kd := 2) (v := .ref 4) (pcJ := 27) rfl L rfl rfl rfl ?_
  refine j_V.ldL yb4m_M yb4m_27 rfl (i := 0) (kd := 2) (v := .ref 29) (pcJ := 28) rfl L rfl rfl rfl ?_
  refine j_V.getK yb4m_M yb4m_28 (ci := 0) (j := 0) rfl K rfl rfl ?_
  refine j_V.ldL yb4m_M yb4m_31 rfl (i := 0) (kd := 2) (v := .ref 29) (pcJ := 32) rfl L rfl rfl rfl ?_
  refine j_V.getK yb4m_M yb4m_32 (ci := 0) (j := 1) rfl K rfl rfl ?_
  refine j_V.aaA yb4m_M yb4m_35 K rfl (i := 4) (v := 131) rfl rfl ?_
  refine j_V.cl yb4m_M yb4m_36 rfl (md := 3) (mj := 61) rfl (by decide) yb4s_M (As := [.ref 4, .ref 131]) (rest := []) (jk_spl3 (K.at rfl) rfl rfl rfl (Nat.le_of_ble_eq_true rfl) (Nat.le_of_ble_eq_true rfl)) (fun d => yb4s_ok (K.fi [4, 5, 6, 7, 8, 9, 10, 11, 12, 13, 14, 15, 16, 20, 21, 22, 23, 24, 25, 26, 27, 28, 131, 132, 133, 134, 135, 136, 137, 138, 139, 140, 141, 142, 143, 147, 148, 149, 150, 151, 152, 153, 154, 155] rfl rfl)) ?_
  rintro r h9 ⟨rfl, K9⟩
  have K : KN h9 [(4, .inl (7, [.ref lys, .int mis, .int shus, .int buss, .ref 5, .ref 6, .ref 7, .ref 8, .ref 9, .ref 10, .ref 11, .ref 12, .ref 13, .ref 14, .ref 15, .int lkss, .ref 16, .ref 17, .ref 20])), (5, .inr (.inl (0, (aC 5 rks rk)))), (6, .inr (.inl (0, (aC 5 stas sta)))), (7, .inr (.inl (0, (aC 5 phs ph)))), (8, .inr (.inl (0, (aC 5 sps sp)))), (9, .inr (.inl (0, (aC 5 ces ce)))), (10, .inr (.inl (0, (aC 5 dus du)))), (11, .inr (.inl (0, (aC 5 hes he)))), (12, .inr (.inl (0, (aC 6 ris ri)))), (13, .inr (.inl (0, (aC 6 uss us)))), (14, .inr (.inl (0, (aC (nI cm.length) cms cm)))), (15, .inr (.inl (0, (aC (nI lf.length) lfs lf)))), (16, .inr (.inl (0, (aC (nI lkd.length) lkds lkd)))), (20, .inl (3, [.ref 21, .ref 22, .ref 23, .ref 24, .ref 25, .ref 26, .ref 27, .ref 28, .int pevs, .int 1])), (21, .inr (.inl (0, (aC (nI pms.length) pmss pms)))), (22, .inr (.inl (0, (aC (nI pmm.length) pmms pmm)))), (23, .inr (.inl (0, (aC (nI pmt.length) pmts pmt)))), (24, .inr (.inl (0, (aC (nI pst.length) psts pst)))), (25, .inr (.inl (0, (aC (nI pwa.length) pwas pwa)))), (26, .inr (.inl (0, (aC (nI prs.length) prss prs)))), (27, .inr (.inl (0, (aC (nI prr.length) prrs prr)))), (28, .inr (.inl (0, (aC (nI pfa.length) pfas pfa)))), (29, .inl (0, [.ref 30, .int 4, .int (acco - 1)])), (30, .inr (.inr (.inr [some 31, some 56, some 81, some 106, some 131, some 156, some 181, some 206, some 231, some 256]))), (131, .inl (7, [.ref lys, .int mis, .int shus, .int buss, .ref 132, .ref 133, .ref 134, .ref 135, .ref 136, .ref 137, .ref 138, .ref 139, .ref 140, .ref 141, .ref 142, .int lkss, .ref 143, .ref 144, .ref 147])), (132, .inr (.inl (0, rks))), (133, .inr (.inl (0, stas))), (134, .inr (.inl (0, phs))), (135, .inr (.inl (0, sps))), (136, .inr (.inl (0, ces))), (137, .inr (.inl (0, dus))), (138, .inr (.inl (0, hes))), (139, .inr (.inl (0, ris))), (140, .inr (.inl (0, uss))), (141, .inr (.inl (0, cms))), (142, .inr (.inl (0, lfs))), (143, .inr (.inl (0, lkds))), (147, .inl (3, [.ref 148, .ref 149, .ref 150, .ref 151, .ref 152, .ref 153, .ref 154, .ref 155, .int pevs, .int 1])), (148, .inr (.inl (0, pmss))), (149, .inr (.inl (0, pmms))), (150, .inr (.inl (0, pmts))), (151, .inr (.inl (0, psts))), (152, .inr (.inl (0, pwas))), (153, .inr (.inl (0, prss))), (154, .inr (.inl (0, prrs))), (155, .inr (.inl (0, pfas)))] h0 := K.mg K9 rfl rfl
  clear K9
  show j_V jP _ 3 39 lv [] h9 _
  exact j_V.ret yb4m_M yb4m_39 rfl rfl ⟨rfl, K⟩
set_option maxRecDepth 100000 in
theorem yb5p_M : j_meth jP 28 = some (yX3_copyFrom, cX3_copyFrom, 2, none, 1, false, 3) := rfl
set_option maxRecDepth 100000 in
theorem yb5p_0 : j_code jP 28 0 = some (.aload_n 0) := rfl
set_option maxRecDepth 100000 in
theorem yb5p_1 : j_code jP 28 1 = some (.getfield 36) := rfl
set_option maxRecDepth 100000 in
theorem yb5p_4 : j_code jP 28 4 = some (.ifCond .ne 4) := rfl
set_option maxRecDepth 100000 in
theorem yb5p_7 : j_code jP 28 7 = some (.return_) := rfl
set_option maxRecDepth 100000 in
theorem yb5p_8 : j_code jP 28 8 = some (.aload_n 1) := rfl
set_option maxRecDepth 100000 in
theorem yb5p_9 : j_code jP 28 9 = some (.getfield 9) := rfl
set_option maxRecDepth 100000 in
theorem yb5p_12 : j_code jP 28 12 = some (.iconst 0) := rfl
set_option maxRecDepth 100000 in
theorem yb5p_13 : j_code jP 28 13 = some (.aload_n 0) := rfl
set_option maxRecDepth 100000 in
theorem yb5p_14 : j_code jP 28 14 = some (.getfield 9) := rfl
set_option maxRecDepth 100000 in
theorem yb5p_17 : j_code jP 28 17 = some (.iconst 0) := rfl
set_option maxRecDepth 100000 in
theorem yb5p_18 : j_code jP 28 18 = some (.aload_n 0) := rfl
set_option maxRecDepth 100000 in
theorem yb5p_19 : j_code jP 28 19 = some (.getfield 9) := rfl
set_option maxRecDepth 100000 in
theorem yb5p_22 : j_code jP 28 22 = some (.arraylength) := rfl
set_option maxRecDepth 100000 in
theorem yb5p_23 : j_code jP 28 23 = some (.invokestatic 50) := rfl
set_option maxRecDepth 100000 in
theorem yb5p_26 : j_code jP 28 26 = some (.aload_n 1) := rfl
set_option maxRecDepth 100000 in
theorem yb5p_27 : j_code jP 28 27 = some (.getfield 15) := rfl
set_option maxRecDepth 100000 in
theorem yb5p_30 : j_code jP 28 30 = some (.iconst 0) := rfl
set_option maxRecDepth 100000 in
theorem yb5p_31 : j_code jP 28 31 = some (.aload_n 0) := rfl
set_option maxRecDepth 100000 in
theorem yb5p_32 : j_code jP 28 32 = some (.getfield 15) := rfl
set_option maxRecDepth 100000 in
theorem yb5p_35 : j_code jP 28 35 = some (.iconst 0) := rfl
set_option maxRecDepth 100000 in
theorem yb5p_36 : j_code jP 28 36 = some (.aload_n 0) := rfl
set_option maxRecDepth 100000 in
theorem yb5p_37 : j_code jP 28 37 = some (.getfield 15) := rfl
set_option maxRecDepth 100000 in
theorem yb5p_40 : j_code jP 28 40 = some (.arraylength) := rfl
set_option maxRecDepth 100000 in
theorem yb5p_41 : j_code jP 28 41 = some (.invokestatic 50) := rfl
set_option maxRecDepth 100000 in
theorem yb5p_44 : j_code jP 28 44 = some (.aload_n 1) := rfl
set_option maxRecDepth 100000 in
theorem yb5p_45 : j_code jP 28 45 = some (.getfield 18) := rfl
set_option maxRecDepth 100000 in
theorem yb5p_48 : j_code jP 28 48 = some (.iconst 0) := rfl
set_option maxRecDepth 100000 in
theorem yb5p_49 : j_code jP 28 49 = some (.aload_n 0) := rfl
set_option maxRecDepth 100000 in
theorem yb5p_50 : j_code jP 28 50 = some (.getfield 18) := rfl
set_option maxRecDepth 100000 in
theorem yb5p_53 : j_code jP 28 53 = some (.iconst 0) := rfl
set_option maxRecDepth 100000 in
theorem yb5p_54 : j_code jP 28 54 = some (.aload_n 0) := rfl
set_option maxRecDepth 100000 in
theorem yb5p_55 : j_code jP 28 55 = some (.getfield 18) := rfl
set_option maxRecDepth 100000 in
theorem yb5p_58 : j_code jP 28 58 = some (.arraylength) := rfl
set_option maxRecDepth 100000 in
theorem yb5p_59 : j_code jP 28 59 = some (.invokestatic 50) := rfl
set_option maxRecDepth 100000 in
theorem yb5p_62 : j_code jP 28 62 = some (.aload_n 1) := rfl
set_option maxRecDepth 100000 in
theorem yb5p_63 : j_code jP 28 63 = some (.getfield 21) := rfl
set_option maxRecDepth 100000 in
theorem yb5p_66 : j_code jP 28 66 = some (.iconst 0) := rfl
set_option maxRecDepth 100000 in
theorem yb5p_67 : j_code jP 28 67 = some (.aload_n 0) := rfl
set_option maxRecDepth 100000 in
theorem yb5p_68 : j_code jP 28 68 = some (.getfield 21) := rfl
set_option maxRecDepth 100000 in
theorem yb5p_71 : j_code jP 28 71 = some (.iconst 0) := rfl
set_option maxRecDepth 100000 in
theorem yb5p_72 : j_code jP 28 72 = some (.aload_n 0) := rfl
set_option maxRecDepth 100000 in
theorem yb5p_73 : j_code jP 28 73 = some (.getfield 21) := rfl
set_option maxRecDepth 100000 in
theorem yb5p_76 : j_code jP 28 76 = some (.arraylength) := rfl
set_option maxRecDepth 100000 in
theorem yb5p_77 : j_code jP 28 77 = some (.invokestatic 50) := rfl
set_option maxRecDepth 100000 in
theorem yb5p_80 : j_code jP 28 80 = some (.aload_n 1) := rfl
set_option maxRecDepth 100000 in
theorem yb5p_81 : j_code jP 28 81 = some (.getfield 24) := rfl
set_option maxRecDepth 100000 in
theorem yb5p_84 : j_code jP 28 84 = some (.iconst 0) := rfl
set_option maxRecDepth 100000 in
theorem yb5p_85 : j_code jP 28 85 = some (.aload_n 0) := rfl
set_option maxRecDepth 100000 in
theorem yb5p_86 : j_code jP 28 86 = some (.getfield 24) := rfl
set_option maxRecDepth 100000 in
theorem yb5p_89 : j_code jP 28 89 = some (.iconst 0) := rfl
set_option maxRecDepth 100000 in
theorem yb5p_90 : j_code jP 28 90 = some (.aload_n 0) := rfl
set_option maxRecDepth 100000 in
theorem yb5p_91 : j_code jP 28 91 = some (.getfield 24) := rfl
set_option maxRecDepth 100000 in
theorem yb5p_94 : j_code jP 28 94 = some (.arraylength) := rfl
set_option maxRecDepth 100000 in
theorem yb5p_95 : j_code jP 28 95 = some (.invokestatic 50) := rfl
set_option maxRecDepth 100000 in
theorem yb5p_98 : j_code jP 28 98 = some (.aload_n 1) := rfl
set_option maxRecDepth 100000 in
theorem yb5p_99 : j_code jP 28 99 = some (.getfield 27) := rfl
set_option maxRecDepth 100000 in
theorem yb5p_102 : j_code jP 28 102 = some (.iconst 0) := rfl
set_option maxRecDepth 100000 in
theorem yb5p_103 : j_code jP 28 103 = some (.aload_n 0) := rfl
set_option maxRecDepth 100000 in
theorem yb5p_104 : j_code jP 28 104 = some (.getfield 27) := rfl
set_option maxRecDepth 100000 in
theorem yb5p_107 : j_code jP 28 107 = some (.iconst 0) := rfl
set_option maxRecDepth 100000 in
theorem yb5p_108 : j_code jP 28 108 = some (.aload_n 0) := rfl
set_option maxRecDepth 100000 in
theorem yb5p_109 : j_code jP 28 109 = some (.getfield 27) := rfl
set_option maxRecDepth 100000 in
theorem yb5p_112 : j_code jP 28 112 = some (.arraylength) := rfl
set_option maxRecDepth 100000 in
theorem yb5p_113 : j_code jP 28 113 = some (.invokestatic 50) := rfl
set_option maxRecDepth 100000 in
theorem yb5p_116 : j_code jP 28 116 = some (.aload_n 1) := rfl
set_option maxRecDepth 100000 in
theorem yb5p_117 : j_code jP 28 117 = some (.getfield 30) := rfl
set_option maxRecDepth 100000 in
theorem yb5p_120 : j_code jP 28 120 = some (.iconst 0) := rfl
set_option maxRecDepth 100000 in
theorem yb5p_121 : j_code jP 28 121 = some (.aload_n 0) := rfl
set_option maxRecDepth 100000 in
theorem yb5p_122 : j_code jP 28 122 = some (.getfield 30) := rfl
set_option maxRecDepth 100000 in
theorem yb5p_125 : j_code jP 28 125 = some (.iconst 0) := rfl
set_option maxRecDepth 100000 in
theorem yb5p_126 : j_code jP 28 126 = some (.aload_n 0) := rfl
set_option maxRecDepth 100000 in
theorem yb5p_127 : j_code jP 28 127 = some (.getfield 30) := rfl
set_option maxRecDepth 100000 in
theorem yb5p_130 : j_code jP 28 130 = some (.arraylength) := rfl
set_option maxRecDepth 100000 in
theorem yb5p_131 : j_code jP 28 131 = some (.invokestatic 50) := rfl
set_option maxRecDepth 100000 in
theorem yb5p_134 : j_code jP 28 134 = some (.aload_n 1) := rfl
set_option maxRecDepth 100000 in
theorem yb5p_135 : j_code jP 28 135 = some (.getfield 33) := rfl
set_option maxRecDepth 100000 in
theorem yb5p_138 : j_code jP 28 138 = some (.iconst 0) := rfl
set_option maxRecDepth 100000 in
theorem yb5p_139 : j_code jP 28 139 = some (.aload_n 0) := rfl
set_option maxRecDepth 100000 in
theorem yb5p_140 : j_code jP 28 140 = some (.getfield 33) := rfl
set_option maxRecDepth 100000 in
theorem yb5p_143 : j_code jP 28 143 = some (.iconst 0) := rfl
set_option maxRecDepth 100000 in
theorem yb5p_144 : j_code jP 28 144 = some (.aload_n 0) := rfl
set_option maxRecDepth 100000 in
theorem yb5p_145 : j_code jP 28 145 = some (.getfield 33) := rfl
set_option maxRecDepth 100000 in
theorem yb5p_148 : j_code jP 28 148 = some (.arraylength) := rfl
set_option maxRecDepth 100000 in
theorem yb5p_149 : j_code jP 28 149 = some (.invokestatic 50) := rfl
set_option maxRecDepth 100000 in
theorem yb5p_152 : j_code jP 28 152 = some (.aload_n 0) := rfl
set_option maxRecDepth 100000 in
theorem yb5p_153 : j_code jP 28 153 = some (.aload_n 1) := rfl
set_option maxRecDepth 100000 in
theorem yb5p_154 : j_code jP 28 154 = some (.getfield 46) := rfl
set_option maxRecDepth 100000 in
theorem yb5p_157 : j_code jP 28 157 = some (.putfield 46) := rfl
set_option maxRecDepth 100000 in
theorem yb5p_160 : j_code jP 28 160 = some (.return_) := rfl
set_option maxRecDepth 1000000 in
theorem yb5p_k8 {pev : Int32} {pms : List Int32} {pmm : List Int32} {pevs : Int32} {pmss : List Int32} {pmms : List Int32} {d : Nat} {lv : J_L} {h h0 : J_H} {Q : Option Value → J_H → Prop} (L : LK lv [(0, .ref 20), (1, .ref 172)]) (K : KN h [(20, .inl (3, [.ref 21, .ref 22, .ref 23, .ref 24, .ref 25, .ref 26, .ref 27, .ref 28, .int pev, .int 1])), (21, .inr (.inl (0, pms))), (22, .inr (.inl (0, pmm))), (172, .inl (3, [.ref 173, .ref 174, .ref 175, .ref 176, .ref 177, .ref 178, .ref 179, .ref 180, .int pevs, .int 1])), (173, .inr (.inl (0, pmss))), (174, .inr (.inl (0, pmms)))] h0) (kk : ∀ lv h, LK lv [(0, .ref 20), (1, .ref 172)] → KN h [(20, .inl (3, [.ref 21, .ref 22, .ref 23, .ref 24, .ref 25, .ref 26, .ref 27, .ref 28, .int pev, .int 1])), (21, .inr (.inl (0, (aC (nI pms.length) pmss pms)))), (22, .inr (.inl (0, (aC (nI pmm.length) pmms pmm)))), (172, .inl (3, [.ref 173, .ref 174, .ref 175, .ref 176, .ref 177, .ref 178, .ref 179, .ref 180, .int pevs, .int 1])), (173, .inr (.inl (0, pmss))), (174, .inr (.inl (0, pmms)))] h0 → j_V jP d 28 44 lv [] h Q) : j_V jP d 28 8 lv [] h Q := by
  refine j_V.ldL yb5p_M yb5p_8 rfl (i := 1) (kd := 2) (v := .ref 172) (pcJ := 9) rfl L rfl rfl rfl ?_
  refine j_V.getK yb5p_M yb5p_9 (ci := 3) (j := 0) rfl K rfl rfl ?_
  refine j_V.one yb5p_M yb5p_12 (by decide) (pcJ := 13) (stJ := [.int 0, .ref 173]) rfl ?_
  refine j_V.ldL yb5p_M yb5p_13 rfl (i := 0) (kd := 2) (v := .ref 20) (pcJ := 14) rfl L rfl rfl rfl ?_
  refine j_V.getK yb5p_M yb5p_14 (ci := 3) (j := 0) rfl K rfl rfl ?_
  refine j_V.one yb5p_M yb5p_17 (by decide) (pcJ := 18) (stJ := [.int 0, .ref 21, .int 0, .ref 173]) rfl ?_
  refine j_V.ldL yb5p_M yb5p_18 rfl (i := 0) (kd := 2) (v := .ref 20) (pcJ := 19) rfl L rfl rfl rfl ?_
  refine j_V.getK yb5p_M yb5p_19 (ci := 3) (j := 0) rfl K rfl rfl ?_
  refine j_V.alnA yb5p_M yb5p_22 K rfl ?_
  refine j_V.acp yb5p_M yb5p_23 rfl rfl K rfl rfl rfl (fun h K => ?_)
  refine j_V.ldL yb5p_M yb5p_26 rfl (i := 1) (kd := 2) (v := .ref 172) (pcJ := 27) rfl L rfl rfl rfl ?_
  refine j_V.getK yb5p_M yb5p_27 (ci := 3) (j := 1) rfl K rfl rfl ?_
  refine j_V.one yb5p_M yb5p_30 (by decide) (pcJ := 31) (stJ := [.int 0, .ref 174]) rfl ?_
  refine j_V.ldL yb5p_M yb5p_31 rfl (i := 0) (kd := 2) (v := .ref 20) (pcJ := 32) rfl L rfl rfl rfl ?_
  refine j_V.getK yb5p_M yb5p_32 (ci := 3) (j := 1) rfl K rfl rfl ?_
  refine j_V.one yb5p_M yb5p_35 (by decide) (pcJ := 36) (stJ := [.int 0, .ref 22, .int 0, .ref 174]) rfl ?_
  refine j_V.ldL yb5p_M yb5p_36 rfl (i := 0) (kd := 2) (v := .ref 20) (pcJ := 37) rfl L rfl rfl rfl ?_
  refine j_V.getK yb5p_M yb5p_37 (ci := 3) (j := 1) rfl K rfl rfl ?_
  refine j_V.alnA yb5p_M yb5p_40 K rfl ?_
  refine j_V.acp yb5p_M yb5p_41 rfl rfl K rfl rfl rfl (fun h K => ?_)
  exact kk _ _ L K
set_option maxRecDepth 1000000 in
theorem yb5p_k44 {pev : Int32} {pmt : List Int32} {pst : List Int32} {pevs : Int32} {pmts : List Int32} {psts : List Int32} {d : Nat} {lv : J_L} {h h0 : J_H} {Q : Option Value → J_H → Prop} (L : LK lv [(0, .ref 20), (1, .ref 172)]) (K : KN h [(20, .inl (3, [.ref 21, .ref 22, .ref 23, .ref 24, .ref 25, .ref 26, .ref 27, .ref 28, .int pev, .int 1])), (23, .inr (.inl (0, pmt))), (24, .inr (.inl (0, pst))), (172, .inl (3, [.ref 173, .ref 174, .ref 175, .ref 176, .ref 177, .ref 178, .ref 179, .ref 180, .int pevs, .int 1])), (175, .inr (.inl (0, pmts))), (176, .inr (.inl (0, psts)))] h0) (kk : ∀ lv h, LK lv [(0, .ref 20), (1, .ref 172)] → KN h [(20, .inl (3, [.ref 21, .ref 22, .ref 23, .ref 24, .ref 25, .ref 26, .ref 27, .ref 28, .int pev, .int 1])), (23, .inr (.inl (0, (aC (nI pmt.length) pmts pmt)))), (24, .inr (.inl (0, (aC (nI pst.length) psts pst)))), (172, .inl (3, [.ref 173, .ref 174, .ref 175, .ref 176, .ref 177, .ref 178, .ref 179, .ref 180, .int pevs, .int 1])), (175, .inr (.inl (0, pmts))), (176, .inr (.inl (0, psts)))] h0 → j_V jP d 28 80 lv [] h Q) : j_V jP d 28 44 lv [] h Q := by
  refine j_V.ldL yb5p_M yb5p_44 rfl (i := 1) (kd := 2) (v := .ref 172) (pcJ := 45) rfl L rfl rfl rfl ?_
  refine j_V.getK yb5p_M yb5p_45 (ci := 3) (j := 2) rfl K rfl rfl ?_
  refine j_V.one yb5p_M yb5p_48 (by decide) (pcJ := 49) (stJ := [.int 0, .ref 175]) rfl ?_
  refine j_V.ldL yb5p_M yb5p_49 rfl (i := 0) (kd := 2) (v := .ref 20) (pcJ := 50) rfl L rfl rfl rfl ?_
  refine j_V.getK yb5p_M yb5p_50 (ci := 3) (j := 2) rfl K rfl rfl ?_
  refine j_V.one yb5p_M yb5p_53 (by decide) (pcJ := 54) (stJ := [.int 0, .ref 23, .int 0, .ref 175]) rfl ?_
  refine j_V.ldL yb5p_M yb5p_54 rfl (i := 0) (kd := 2) (v := .ref 20) (pcJ := 55) rfl L rfl rfl rfl ?_
  refine j_V.getK yb5p_M yb5p_55 (ci := 3) (j := 2) rfl K rfl rfl ?_
  refine j_V.alnA yb5p_M yb5p_58 K rfl ?_
  refine j_V.acp yb5p_M yb5p_59 rfl rfl K rfl rfl rfl (fun h K => ?_)
  refine j_V.ldL yb5p_M yb5p_62 rfl (i := 1) (kd := 2) (v := .ref 172) (pcJ := 63) rfl L rfl rfl rfl ?_
  refine j_V.getK yb5p_M yb5p_63 (ci := 3) (j := 3) rfl K rfl rfl ?_
  refine j_V.one yb5p_M yb5p_66 (by decide) (pcJ := 67) (stJ := [.int 0, .ref 176]) rfl ?_
  refine j_V.ldL yb5p_M yb5p_67 rfl (i := 0) (kd := 2) (v := .ref 20) (pcJ := 68) rfl L rfl rfl rfl ?_
  refine j_V.getK yb5p_M yb5p_68 (ci := 3) (j := 3) rfl K rfl rfl ?_
  refine j_V.one yb5p_M yb5p_71 (by decide) (pcJ := 72) (stJ := [.int 0, .ref 24, .int 0, .ref 176]) rfl ?_
  refine j_V.ldL yb5p_M yb5p_72 rfl (i := 0) (kd := 2) (v := .ref 20) (pcJ := 73) rfl L rfl rfl rfl ?_
  refine j_V.getK yb5p_M yb5p_73 (ci := 3) (j := 3) rfl K rfl rfl ?_
  refine j_V.alnA yb5p_M yb5p_76 K rfl ?_
  refine j_V.acp yb5p_M yb5p_77 rfl rfl K rfl rfl rfl (fun h K => ?_)
  exact kk _ _ L K
set_option maxRecDepth 1000000 in
theorem yb5p_k80 {pev : Int32} {pwa : List Int32} {prs : List Int32} {pevs : Int32} {pwas : List Int32} {prss : List Int32} {d : Nat} {lv : J_L} {h h0 : J_H} {Q : Option Value → J_H → Prop} (L : LK lv [(0, .ref 20), (1, .ref 172)]) (K : KN h [(20, .inl (3, [.ref 21, .ref 22, .ref 23, .ref 24, .ref 25, .ref 26, .ref 27, .ref 28, .int pev, .int 1])), (25, .inr (.inl (0, pwa))), (26, .inr (.inl (0, prs))), (172, .inl (3, [.ref 173, .ref 174, .ref 175, .ref 176, .ref 177, .ref 178, .ref 179, .ref 180, .int pevs, .int 1])), (177, .inr (.inl (0, pwas))), (178, .inr (.inl (0, prss)))] h0) (kk : ∀ lv h, LK lv [(0, .ref 20), (1, .ref 172)] → KN h [(20, .inl (3, [.ref 21, .ref 22, .ref 23, .ref 24, .ref 25, .ref 26, .ref 27, .ref 28, .int pev, .int 1])), (25, .inr (.inl (0, (aC (nI pwa.length) pwas pwa)))), (26, .inr (.inl (0, (aC (nI prs.length) prss prs)))), (172, .inl (3, [.ref 173, .ref 174, .ref 175, .ref 176, .ref 177, .ref 178, .ref 179, .ref 180, .int pevs, .int 1])), (177, .inr (.inl (0, pwas))), (178, .inr (.inl (0, prss)))] h0 → j_V jP d 28 116 lv [] h Q) : j_V jP d 28 80 lv [] h Q := by
  refine j_V.ldL yb5p_M yb5p_80 rfl (i := 1) (kd := 2) (v := .ref 172) (pcJ := 81) rfl L rfl rfl rfl ?_
  refine j_V.getK yb5p_M yb5p_81 (ci := 3) (j := 4) rfl K rfl rfl ?_
  refine j_V.one yb5p_M yb5p_84 (by decide) (pcJ := 85) (stJ := [.int 0, .ref 177]) rfl ?_
  refine j_V.ldL yb5p_M yb5p_85 rfl (i := 0) (kd := 2) (v := .ref 20) (pcJ := 86) rfl L rfl rfl rfl ?_
  refine j_V.getK yb5p_M yb5p_86 (ci := 3) (j := 4) rfl K rfl rfl ?_
  refine j_V.one yb5p_M yb5p_89 (by decide) (pcJ := 90) (stJ := [.int 0, .ref 25, .int 0, .ref 177]) rfl ?_
  refine j_V.ldL yb5p_M yb5p_90 rfl (i := 0) (kd := 2) (v := .ref 20) (pcJ := 91) rfl L rfl rfl rfl ?_
  refine j_V.getK yb5p_M yb5p_91 (ci := 3) (j := 4) rfl K rfl rfl ?_
  refine j_V.alnA yb5p_M yb5p_94 K rfl ?_
  refine j_V.acp yb5p_M yb5p_95 rfl rfl K rfl rfl rfl (fun h K => ?_)
  refine j_V.ldL yb5p_M yb5p_98 rfl (i := 1) (kd := 2) (v := .ref 172) (pcJ := 99) rfl L rfl rfl rfl ?_
  refine j_V.getK yb5p_M yb5p_99 (ci := 3) (j := 5) rfl K rfl rfl ?_
  refine j_V.one yb5p_M yb5p_102 (by decide) (pcJ := 103) (stJ := [.int 0, .ref 178]) rfl ?_
  refine j_V.ldL yb5p_M yb5p_103 rfl (i := 0) (kd := 2) (v := .ref 20) (pcJ := 104) rfl L rfl rfl rfl ?_
  refine j_V.getK yb5p_M yb5p_104 (ci := 3) (j := 5) rfl K rfl rfl ?_
  refine j_V.one yb5p_M yb5p_107 (by decide) (pcJ := 108) (stJ := [.int 0, .ref 26, .int 0, .ref 178]) rfl ?_
  refine j_V.ldL yb5p_M yb5p_108 rfl (i := 0) (kd := 2) (v := .ref 20) (pcJ := 109) rfl L rfl rfl rfl ?_
  refine j_V.getK yb5p_M yb5p_109 (ci := 3) (j := 5) rfl K rfl rfl ?_
  refine j_V.alnA yb5p_M yb5p_112 K rfl ?_
  refine j_V.acp yb5p_M yb5p_113 rfl rfl K rfl rfl rfl (fun h K => ?_)
  exact kk _ _ L K
set_option maxRecDepth 1000000 in
theorem yb5p_k116 {pev : Int32} {prr : List Int32} {pfa : List Int32} {pevs : Int32} {prrs : List Int32} {pfas : List Int32} {d : Nat} {lv : J_L} {h h0 : J_H} {Q : Option Value → J_H → Prop} (L : LK lv [(0, .ref 20), (1, .ref 172)]) (K : KN h [(20, .inl (3, [.ref 21, .ref 22, .ref 23, .ref 24, .ref 25, .ref 26, .ref 27, .ref 28, .int pev, .int 1])), (27, .inr (.inl (0, prr))), (28, .inr (.inl (0, pfa))), (172, .inl (3, [.ref 173, .ref 174, .ref 175, .ref 176, .ref 177, .ref 178, .ref 179, .ref 180, .int pevs, .int 1])), (179, .inr (.inl (0, prrs))), (180, .inr (.inl (0, pfas)))] h0) (kk : ∀ lv h, LK lv [(0, .ref 20), (1, .ref 172)] → KN h [(20, .inl (3, [.ref 21, .ref 22, .ref 23, .ref 24, .ref 25, .ref 26, .ref 27, .ref 28, .int pev, .int 1])), (27, .inr (.inl (0, (aC (nI prr.length) prrs prr)))), (28, .inr (.inl (0, (aC (nI pfa.length) pfas pfa)))), (172, .inl (3, [.ref 173, .ref 174, .ref 175, .ref 176, .ref 177, .ref 178, .ref 179, .ref 180, .int pevs, .int 1])), (179, .inr (.inl (0, prrs))), (180, .inr (.inl (0, pfas)))] h0 → j_V jP d 28 152 lv [] h Q) : j_V jP d 28 116 lv [] h Q := by
  refine j_V.ldL yb5p_M yb5p_116 rfl (i := 1) (kd := 2) (v := .ref 172) (pcJ := 117) rfl L rfl rfl rfl ?_
  refine j_V.getK yb5p_M yb5p_117 (ci := 3) (j := 6) rfl K rfl rfl ?_
  refine j_V.one yb5p_M yb5p_120 (by decide) (pcJ := 121) (stJ := [.int 0, .ref 179]) rfl ?_
  refine j_V.ldL yb5p_M yb5p_121 rfl (i := 0) (kd := 2) (v := .ref 20) (pcJ := 122) rfl L rfl rfl rfl ?_
  refine j_V.getK yb5p_M yb5p_122 (ci := 3) (j := 6) rfl K rfl rfl ?_
  refine j_V.one yb5p_M yb5p_125 (by decide) (pcJ := 126) (stJ := [.int 0, .ref 27, .int 0, .ref 179]) rfl ?_
  refine j_V.ldL yb5p_M yb5p_126 rfl (i := 0) (kd := 2) (v := .ref 20) (pcJ := 127) rfl L rfl rfl rfl ?_
  refine j_V.getK yb5p_M yb5p_127 (ci := 3) (j := 6) rfl K rfl rfl ?_
  refine j_V.alnA yb5p_M yb5p_130 K rfl ?_
  refine j_V.acp yb5p_M yb5p_131 rfl rfl K rfl rfl rfl (fun h K => ?_)
  refine j_V.ldL yb5p_M yb5p_134 rfl (i := 1) (kd := 2) (v := .ref 172) (pcJ := 135) rfl L rfl rfl rfl ?_
  refine j_V.getK yb5p_M yb5p_135 (ci := 3) (j := 7) rfl K rfl rfl ?_
  refine j_V.one yb5p_M yb5p_138 (by decide) (pcJ := 139) (stJ := [.int 0, .ref 180]) rfl ?_
  refine j_V.ldL yb5p_M yb5p_139 rfl (i := 0) (kd := 2) (v := .ref 20) (pcJ := 140) rfl L rfl rfl rfl ?_
  refine j_V.getK yb5p_M yb5p_140 (ci := 3) (j := 7) rfl K rfl rfl ?_
  refine j_V.one yb5p_M yb5p_143 (by decide) (pcJ := 144) (stJ := [.int 0, .ref 28, .int 0, .ref 180]) rfl ?_
  refine j_V.ldL yb5p_M yb5p_144 rfl (i := 0) (kd := 2) (v := .ref 20) (pcJ := 145) rfl L rfl rfl rfl ?_
  refine j_V.getK yb5p_M yb5p_145 (ci := 3) (j := 7) rfl K rfl rfl ?_
  refine j_V.alnA yb5p_M yb5p_148 K rfl ?_
  refine j_V.acp yb5p_M yb5p_149 rfl rfl K rfl rfl rfl (fun h K => ?_)
  exact kk _ _ L K
set_option maxRecDepth 1000000 in
theorem yb5p_ok {pev : Int32} {pms : List Int32} {pmm : List Int32} {pmt : List Int32} {pst : List Int32} {pwa : List Int32} {prs : List Int32} {prr : List Int32} {pfa : List Int32} {pevs : Int32} {pmss : List Int32} {pmms : List Int32} {pmts : List Int32} {psts : List Int32} {pwas : List Int32} {prss : List Int32} {prrs : List Int32} {pfas : List Int32} {d : Nat} {h h0 : J_H} (K : KN h [(20, .inl (3, [.ref 21, .ref 22, .ref 23, .ref 24, .ref 25, .ref 26, .ref 27, .ref 28, .int pev, .int 1])), (21, .inr (.inl (0, pms))), (22, .inr (.inl (0, pmm))), (23, .inr (.inl (0, pmt))), (24, .inr (.inl (0, pst))), (25, .inr (.inl (0, pwa))), (26, .inr (.inl (0, prs))), (27, .inr (.inl (0, prr))), (28, .inr (.inl (0, pfa))), (172, .inl (3, [.ref 173, .ref 174, .ref 175, .ref 176, .ref 177, .ref 178, .ref 179, .ref 180, .int pevs, .int 1])), (173, .inr (.inl (0, pmss))), (174, .inr (.inl (0, pmms))), (175, .inr (.inl (0, pmts))), (176, .inr (.inl (0, psts))), (177, .inr (.inl (0, pwas))), (178, .inr (.inl (0, prss))), (179, .inr (.inl (0, prrs))), (180, .inr (.inl (0, pfas)))] h0) : j_V jP d 28 0 (lv_args 0 [.ref 20, .ref 172]) [] h (fun rv h' => rv = none ∧ KN h' [(20, .inl (3, [.ref 21, .ref 22, .ref 23, .ref 24, .ref 25, .ref 26, .ref 27, .ref 28, .int pevs, .int 1])), (21, .inr (.inl (0, (aC (nI pms.length) pmss pms)))), (22, .inr (.inl (0, (aC (nI pmm.length) pmms pmm)))), (23, .inr (.inl (0, (aC (nI pmt.length) pmts pmt)))), (24, .inr (.inl (0, (aC (nI pst.length) psts pst)))), (25, .inr (.inl (0, (aC (nI pwa.length) pwas pwa)))), (26, .inr (.inl (0, (aC (nI prs.length) prss prs)))), (27, .inr (.inl (0, (aC (nI prr.length) prrs prr)))), (28, .inr (.inl (0, (aC (nI pfa.length) pfas pfa)))), (172, .inl (3, [.ref 173, .ref 174, .ref 175, .ref 176, .ref 177, .ref 178, .ref 179, .ref 180, .int pevs, .int 1])), (173, .inr (.inl (0, pmss))), (174, .inr (.inl (0, pmms))), (175, .inr (.inl (0, pmts))), (176, .inr (.inl (0, psts))), (177, .inr (.inl (0, pwas))), (178, .inr (.inl (0, prss))), (179, .inr (.inl (0, prrs))), (180, .inr (.inl (0, pfas)))] h0) := by
  show j_V jP d 28 0 [(0, .ref 20), (1, .ref 172)] [] h _
  obtain ⟨lv, elv, L⟩ : ∃ lv, lv = [(0, .ref 20), (1, .ref 172)] ∧ LK lv [(0, .ref 20), (1, .ref 172)] := ⟨_, rfl, LK.rf⟩
  rw [← elv]
  clear elv
  refine j_V.ldL yb5p_M yb5p_0 rfl (i := 0) (kd := 2) (v := .ref 20) (pcJ := 1) rfl L rfl rfl rfl ?_
  refine j_V.getK yb5p_M yb5p_1 (ci := 3) (j := 9) rfl K rfl rfl ?_
  refine j_V.ifc yb5p_M yb5p_4 (t := 8) rfl (fun c4_0 => ?_) (fun c4_0 => ?_)
  · replace c4_0 : ¬ ((1 : Int32) = 0) := jd_ne c4_0
    refine yb5p_k8 L (K.fi [20, 21, 22, 172, 173, 174] rfl rfl) (fun lv h9 L K9 => ?_)
    have K : KN h9 [(20, .inl (3, [.ref 21, .ref 22, .ref 23, .ref 24, .ref 25, .ref 26, .ref 27, .ref 28, .int pev, .int 1])), (21, .inr (.inl (0, (aC (nI pms.length) pmss pms)))), (22, .inr (.inl (0, (aC (nI pmm.length) pmms pmm)))), (23, .inr (.inl (0, pmt))), (24, .inr (.inl (0, pst))), (25, .inr (.inl (0, pwa))), (26, .inr (.inl (0, prs))), (27, .inr (.inl (0, prr))), (28, .inr (.inl (0, pfa))), (172, .inl (3, [.ref 173, .ref 174, .ref 175, .ref 176, .ref 177, .ref 178, .ref 179, .ref 180, .int pevs, .int 1])), (173, .inr (.inl (0, pmss))), (174, .inr (.inl (0, pmms))), (175, .inr (.inl (0, pmts))), (176, .inr (.inl (0, psts))), (177, .inr (.inl (0, pwas))), (178, .inr (.inl (0, prss))), (179, .inr (.inl (0, prrs))), (180, .inr (.inl (0, pfas)))] h0 := K.mg K9 rfl rfl
    clear K9
    refine yb5p_k44 L (K.fi [20, 23, 24, 172, 175, 176] rfl rfl) (fun lv h9 L K9 => ?_)
    have K : KN h9 [(20, .inl (3, [.ref 21, .ref 22, .ref 23, .ref 24, .ref 25, .ref 26, .ref 27, .ref 28, .int pev, .int 1])), (21, .inr (.inl (0, (aC (nI pms.length) pmss pms)))), (22, .inr (.inl (0, (aC (nI pmm.length) pmms pmm)))), (23, .inr (.inl (0, (aC (nI pmt.length) pmts pmt)))), (24, .inr (.inl (0, (aC (nI pst.length) psts pst)))), (25, .inr (.inl (0, pwa))), (26, .inr (.inl (0, prs))), (27, .inr (.inl (0, prr))), (28, .inr (.inl (0, pfa))), (172, .inl (3, [.ref 173, .ref 174, .ref 175, .ref 176, .ref 177, .ref 178, .ref 179, .ref 180, .int pevs, .int 1])), (173, .inr (.inl (0, pmss))), (174, .inr (.inl (0, pmms))), (175, .inr (.inl (0, pmts))), (176, .inr (.inl (0, psts))), (177, .inr (.inl (0, pwas))), (178, .inr (.inl (0, prss))), (179, .inr (.inl (0, prrs))), (180, .inr (.inl (0, pfas)))] h0 := K.mg K9 rfl rfl
    clear K9
    refine yb5p_k80 L (K.fi [20, 25, 26, 172, 177, 178] rfl rfl) (fun lv h9 L K9 => ?_)
    have K : KN h9 [(20, .inl (3, [.ref 21, .ref 22, .ref 23, .ref 24, .ref 25, .ref 26, .ref 27, .ref 28, .int pev, .int 1])), (21, .inr (.inl (0, (aC (nI pms.length) pmss pms)))), (22, .inr (.inl (0, (aC (nI pmm.length) pmms pmm)))), (23, .inr (.inl (0, (aC (nI pmt.length) pmts pmt)))), (24, .inr (.inl (0, (aC (nI pst.length) psts pst)))), (25, .inr (.inl (0, (aC (nI pwa.length) pwas pwa)))), (26, .inr (.inl (0, (aC (nI prs.length) prss prs)))), (27, .inr (.inl (0, prr))), (28, .inr (.inl (0, pfa))), (172, .inl (3, [.ref 173, .ref 174, .ref 175, .ref 176, .ref 177, .ref 178, .ref 179, .ref 180, .int pevs, .int 1])), (173, .inr (.inl (0, pmss))), (174, .inr (.inl (0, pmms))), (175, .inr (.inl (0, pmts))), (176, .inr (.inl (0, psts))), (177, .inr (.inl (0, pwas))), (178, .inr (.inl (0, prss))), (179, .inr (.inl (0, prrs))), (180, .inr (.inl (0, pfas)))] h0 := K.mg K9 rfl rfl
    clear K9
    refine yb5p_k116 L (K.fi [20, 27, 28, 172, 179, 180] rfl rfl) (fun lv h9 L K9 => ?_)
    have K : KN h9 [(20, .inl (3, [.ref 21, .ref 22, .ref 23, .ref 24, .ref 25, .ref 26, .ref 27, .ref 28, .int pev, .int 1])), (21, .inr (.inl (0, (aC (nI pms.length) pmss pms)))), (22, .inr (.inl (0, (aC (nI pmm.length) pmms pmm)))), (23, .inr (.inl (0, (aC (nI pmt.length) pmts pmt)))), (24, .inr (.inl (0, (aC (nI pst.length) psts pst)))), (25, .inr (.inl (0, (aC (nI pwa.length) pwas pwa)))), (26, .inr (.inl (0, (aC (nI prs.length) prss prs)))), (27, .inr (.inl (0, (aC (nI prr.length) prrs prr)))), (28, .inr (.inl (0, (aC (nI pfa.length) pfas pfa)))), (172, .inl (3, [.ref 173, .ref 174, .ref 175, .ref 176, .ref 177, .ref 178, .ref 179, .ref 180, .int pevs, .int 1])), (173, .inr (.inl (0, pmss))), (174, .inr (.inl (0, pmms))), (175, .inr (.inl (0, pmts))), (176, .inr (.inl (0, psts))), (177, .inr (.inl (0, pwas))), (178, .inr (.inl (0, prss))), (179, .inr (.inl (0, prrs))), (180, .inr (.inl (0, pfas)))] h0 := K.mg K9 rfl rfl
    clear K9
    refine j_V.ldL yb5p_M yb5p_152 rfl (i := 0) (kd := 2) (v := .ref 20) (pcJ := 153) rfl L rfl rfl rfl ?_
    refine j_V.ldL yb5p_M yb5p_153 rfl (i := 1) (kd := 2) (v := .ref 172) (pcJ := 154) rfl L rfl rfl rfl ?_
    refine j_V.getK yb5p_M yb5p_154 (ci := 3) (j := 8) rfl K rfl rfl ?_
    refine j_V.putK yb5p_M yb5p_157 (ci := 3) (j := 8) (k' := [(20, .inl (3, [.ref 21, .ref 22, .ref 23, .ref 24, .ref 25, .ref 26, .ref 27, .ref 28, .int pevs, .int 1])), (21, .inr (.inl (0, (aC (nI pms.length) pmss pms)))), (22, .inr (.inl (0, (aC (nI pmm.length) pmms pmm)))), (23, .inr (.inl (0, (aC (nI pmt.length) pmts pmt)))), (24, .inr (.inl (0, (aC (nI pst.length) psts pst)))), (25, .inr (.inl (0, (aC (nI pwa.length) pwas pwa)))), (26, .inr (.inl (0, (aC (nI prs.length) prss prs)))), (27, .inr (.inl (0, (aC (nI prr.length) prrs prr)))), (28, .inr (.inl (0, (aC (nI pfa.length) pfas pfa)))), (172, .inl (3, [.ref 173, .ref 174, .ref 175, .ref 176, .ref 177, .ref 178, .ref 179, .ref 180, .int pevs, .int 1])), (173, .inr (.inl (0, pmss))), (174, .inr (.inl (0, pmms))), (175, .inr (.inl (0, pmts))), (176, .inr (.inl (0, psts))), (177, .inr (.inl (0, pwas))), (178, .inr (.inl (0, prss))), (179, .inr (.inl (0, prrs))), (180, .inr (.inl (0, pfas)))]) rfl K rfl (Nat.le_of_ble_eq_true rfl) rfl (Or.inl rfl) rfl rfl (fun h K => ?_)
    exact j_V.ret yb5p_M yb5p_160 rfl rfl ⟨rfl, K⟩
  · replace c4_0 : (1 : Int32) = 0 := jd_nen c4_0
    exact absurd c4_0 (by decide)
set_option maxRecDepth 100000 in
theorem yb5s_M : j_meth jP 61 = some (yX7_copyFrom, cX7_copyFrom, 2, none, 1, false, 7) := rfl
set_option maxRecDepth 100000 in
theorem yb5s_0 : j_code jP 61 0 = some (.aload_n 0) := rfl
set_option maxRecDepth 100000 in
theorem yb5s_1 : j_code jP 61 1 = some (.aload_n 1) := rfl
set_option maxRecDepth 100000 in
theorem yb5s_2 : j_code jP 61 2 = some (.getfield 64) := rfl
set_option maxRecDepth 100000 in
theorem yb5s_5 : j_code jP 61 5 = some (.putfield 64) := rfl
set_option maxRecDepth 100000 in
theorem yb5s_8 : j_code jP 61 8 = some (.aload_n 0) := rfl
set_option maxRecDepth 100000 in
theorem yb5s_9 : j_code jP 61 9 = some (.aload_n 1) := rfl
set_option maxRecDepth 100000 in
theorem yb5s_10 : j_code jP 61 10 = some (.getfield 68) := rfl
set_option maxRecDepth 100000 in
theorem yb5s_13 : j_code jP 61 13 = some (.putfield 68) := rfl
set_option maxRecDepth 100000 in
theorem yb5s_16 : j_code jP 61 16 = some (.aload_n 0) := rfl
set_option maxRecDepth 100000 in
theorem yb5s_17 : j_code jP 61 17 = some (.aload_n 1) := rfl
set_option maxRecDepth 100000 in
theorem yb5s_18 : j_code jP 61 18 = some (.getfield 72) := rfl
set_option maxRecDepth 100000 in
theorem yb5s_21 : j_code jP 61 21 = some (.putfield 72) := rfl
set_option maxRecDepth 100000 in
theorem yb5s_24 : j_code jP 61 24 = some (.aload_n 0) := rfl
set_option maxRecDepth 100000 in
theorem yb5s_25 : j_code jP 61 25 = some (.aload_n 1) := rfl
set_option maxRecDepth 100000 in
theorem yb5s_26 : j_code jP 61 26 = some (.getfield 75) := rfl
set_option maxRecDepth 100000 in
theorem yb5s_29 : j_code jP 61 29 = some (.putfield 75) := rfl
set_option maxRecDepth 100000 in
theorem yb5s_32 : j_code jP 61 32 = some (.aload_n 0) := rfl
set_option maxRecDepth 100000 in
theorem yb5s_33 : j_code jP 61 33 = some (.aload_n 1) := rfl
set_option maxRecDepth 100000 in
theorem yb5s_34 : j_code jP 61 34 = some (.getfield 78) := rfl
set_option maxRecDepth 100000 in
theorem yb5s_37 : j_code jP 61 37 = some (.putfield 78) := rfl
set_option maxRecDepth 100000 in
theorem yb5s_40 : j_code jP 61 40 = some (.aload_n 1) := rfl
set_option maxRecDepth 100000 in
theorem yb5s_41 : j_code jP 61 41 = some (.getfield 9) := rfl
set_option maxRecDepth 100000 in
theorem yb5s_44 : j_code jP 61 44 = some (.iconst 0) := rfl
set_option maxRecDepth 100000 in
theorem yb5s_45 : j_code jP 61 45 = some (.aload_n 0) := rfl
set_option maxRecDepth 100000 in
theorem yb5s_46 : j_code jP 61 46 = some (.getfield 9) := rfl
set_option maxRecDepth 100000 in
theorem yb5s_49 : j_code jP 61 49 = some (.iconst 0) := rfl
set_option maxRecDepth 100000 in
theorem yb5s_50 : j_code jP 61 50 = some (.iconst 5) := rfl
set_option maxRecDepth 100000 in
theorem yb5s_51 : j_code jP 61 51 = some (.invokestatic 84) := rfl
set_option maxRecDepth 100000 in
theorem yb5s_54 : j_code jP 61 54 = some (.aload_n 1) := rfl
set_option maxRecDepth 100000 in
theorem yb5s_55 : j_code jP 61 55 = some (.getfield 15) := rfl
set_option maxRecDepth 100000 in
theorem yb5s_58 : j_code jP 61 58 = some (.iconst 0) := rfl
set_option maxRecDepth 100000 in
theorem yb5s_59 : j_code jP 61 59 = some (.aload_n 0) := rfl
set_option maxRecDepth 100000 in
theorem yb5s_60 : j_code jP 61 60 = some (.getfield 15) := rfl
set_option maxRecDepth 100000 in
theorem yb5s_63 : j_code jP 61 63 = some (.iconst 0) := rfl
set_option maxRecDepth 100000 in
theorem yb5s_64 : j_code jP 61 64 = some (.iconst 5) := rfl
set_option maxRecDepth 100000 in
theorem yb5s_65 : j_code jP 61 65 = some (.invokestatic 84) := rfl
set_option maxRecDepth 100000 in
theorem yb5s_68 : j_code jP 61 68 = some (.aload_n 1) := rfl
set_option maxRecDepth 100000 in
theorem yb5s_69 : j_code jP 61 69 = some (.getfield 18) := rfl
set_option maxRecDepth 100000 in
theorem yb5s_72 : j_code jP 61 72 = some (.iconst 0) := rfl
set_option maxRecDepth 100000 in
theorem yb5s_73 : j_code jP 61 73 = some (.aload_n 0) := rfl
set_option maxRecDepth 100000 in
theorem yb5s_74 : j_code jP 61 74 = some (.getfield 18) := rfl
set_option maxRecDepth 100000 in
theorem yb5s_77 : j_code jP 61 77 = some (.iconst 0) := rfl
set_option maxRecDepth 100000 in
theorem yb5s_78 : j_code jP 61 78 = some (.iconst 5) := rfl
set_option maxRecDepth 100000 in
theorem yb5s_79 : j_code jP 61 79 = some (.invokestatic 84) := rfl
set_option maxRecDepth 100000 in
theorem yb5s_82 : j_code jP 61 82 = some (.aload_n 1) := rfl
set_option maxRecDepth 100000 in
theorem yb5s_83 : j_code jP 61 83 = some (.getfield 21) := rfl
set_option maxRecDepth 100000 in
theorem yb5s_86 : j_code jP 61 86 = some (.iconst 0) := rfl
set_option maxRecDepth 100000 in
theorem yb5s_87 : j_code jP 61 87 = some (.aload_n 0) := rfl
set_option maxRecDepth 100000 in
theorem yb5s_88 : j_code jP 61 88 = some (.getfield 21) := rfl
set_option maxRecDepth 100000 in
theorem yb5s_91 : j_code jP 61 91 = some (.iconst 0) := rfl
set_option maxRecDepth 100000 in
theorem yb5s_92 : j_code jP 61 92 = some (.iconst 5) := rfl
set_option maxRecDepth 100000 in
theorem yb5s_93 : j_code jP 61 93 = some (.invokestatic 84) := rfl
set_option maxRecDepth 100000 in
theorem yb5s_96 : j_code jP 61 96 = some (.aload_n 1) := rfl
set_option maxRecDepth 100000 in
theorem yb5s_97 : j_code jP 61 97 = some (.getfield 24) := rfl
set_option maxRecDepth 100000 in
theorem yb5s_100 : j_code jP 61 100 = some (.iconst 0) := rfl
set_option maxRecDepth 100000 in
theorem yb5s_101 : j_code jP 61 101 = some (.aload_n 0) := rfl
set_option maxRecDepth 100000 in
theorem yb5s_102 : j_code jP 61 102 = some (.getfield 24) := rfl
set_option maxRecDepth 100000 in
theorem yb5s_105 : j_code jP 61 105 = some (.iconst 0) := rfl
set_option maxRecDepth 100000 in
theorem yb5s_106 : j_code jP 61 106 = some (.iconst 5) := rfl
set_option maxRecDepth 100000 in
theorem yb5s_107 : j_code jP 61 107 = some (.invokestatic 84) := rfl
set_option maxRecDepth 100000 in
theorem yb5s_110 : j_code jP 61 110 = some (.aload_n 1) := rfl
set_option maxRecDepth 100000 in
theorem yb5s_111 : j_code jP 61 111 = some (.getfield 27) := rfl
set_option maxRecDepth 100000 in
theorem yb5s_114 : j_code jP 61 114 = some (.iconst 0) := rfl
set_option maxRecDepth 100000 in
theorem yb5s_115 : j_code jP 61 115 = some (.aload_n 0) := rfl
set_option maxRecDepth 100000 in
theorem yb5s_116 : j_code jP 61 116 = some (.getfield 27) := rfl
set_option maxRecDepth 100000 in
theorem yb5s_119 : j_code jP 61 119 = some (.iconst 0) := rfl
set_option maxRecDepth 100000 in
theorem yb5s_120 : j_code jP 61 120 = some (.iconst 5) := rfl
set_option maxRecDepth 100000 in
theorem yb5s_121 : j_code jP 61 121 = some (.invokestatic 84) := rfl
set_option maxRecDepth 100000 in
theorem yb5s_124 : j_code jP 61 124 = some (.aload_n 1) := rfl
set_option maxRecDepth 100000 in
theorem yb5s_125 : j_code jP 61 125 = some (.getfield 30) := rfl
set_option maxRecDepth 100000 in
theorem yb5s_128 : j_code jP 61 128 = some (.iconst 0) := rfl
set_option maxRecDepth 100000 in
theorem yb5s_129 : j_code jP 61 129 = some (.aload_n 0) := rfl
set_option maxRecDepth 100000 in
theorem yb5s_130 : j_code jP 61 130 = some (.getfield 30) := rfl
set_option maxRecDepth 100000 in
theorem yb5s_133 : j_code jP 61 133 = some (.iconst 0) := rfl
set_option maxRecDepth 100000 in
theorem yb5s_134 : j_code jP 61 134 = some (.iconst 5) := rfl
set_option maxRecDepth 100000 in
theorem yb5s_135 : j_code jP 61 135 = some (.invokestatic 84) := rfl
set_option maxRecDepth 100000 in
theorem yb5s_138 : j_code jP 61 138 = some (.aload_n 1) := rfl
set_option maxRecDepth 100000 in
theorem yb5s_139 : j_code jP 61 139 = some (.getfield 33) := rfl
set_option maxRecDepth 100000 in
theorem yb5s_142 : j_code jP 61 142 = some (.iconst 0) := rfl
set_option maxRecDepth 100000 in
theorem yb5s_143 : j_code jP 61 143 = some (.aload_n 0) := rfl
set_option maxRecDepth 100000 in
theorem yb5s_144 : j_code jP 61 144 = some (.getfield 33) := rfl
set_option maxRecDepth 100000 in
theorem yb5s_147 : j_code jP 61 147 = some (.iconst 0) := rfl
set_option maxRecDepth 100000 in
theorem yb5s_148 : j_code jP 61 148 = some (.bipush 6) := rfl
set_option maxRecDepth 100000 in
theorem yb5s_150 : j_code jP 61 150 = some (.invokestatic 84) := rfl
set_option maxRecDepth 100000 in
theorem yb5s_153 : j_code jP 61 153 = some (.aload_n 1) := rfl
set_option maxRecDepth 100000 in
theorem yb5s_154 : j_code jP 61 154 = some (.getfield 36) := rfl
set_option maxRecDepth 100000 in
theorem yb5s_157 : j_code jP 61 157 = some (.iconst 0) := rfl
set_option maxRecDepth 100000 in
theorem yb5s_158 : j_code jP 61 158 = some (.aload_n 0) := rfl
set_option maxRecDepth 100000 in
theorem yb5s_159 : j_code jP 61 159 = some (.getfield 36) := rfl
set_option maxRecDepth 100000 in
theorem yb5s_162 : j_code jP 61 162 = some (.iconst 0) := rfl
set_option maxRecDepth 100000 in
theorem yb5s_163 : j_code jP 61 163 = some (.bipush 6) := rfl
set_option maxRecDepth 100000 in
theorem yb5s_165 : j_code jP 61 165 = some (.invokestatic 84) := rfl
set_option maxRecDepth 100000 in
theorem yb5s_168 : j_code jP 61 168 = some (.aload_n 1) := rfl
set_option maxRecDepth 100000 in
theorem yb5s_169 : j_code jP 61 169 = some (.getfield 39) := rfl
set_option maxRecDepth 100000 in
theorem yb5s_172 : j_code jP 61 172 = some (.iconst 0) := rfl
set_option maxRecDepth 100000 in
theorem yb5s_173 : j_code jP 61 173 = some (.aload_n 0) := rfl
set_option maxRecDepth 100000 in
theorem yb5s_174 : j_code jP 61 174 = some (.getfield 39) := rfl
set_option maxRecDepth 100000 in
theorem yb5s_177 : j_code jP 61 177 = some (.iconst 0) := rfl
set_option maxRecDepth 100000 in
theorem yb5s_178 : j_code jP 61 178 = some (.aload_n 0) := rfl
set_option maxRecDepth 100000 in
theorem yb5s_179 : j_code jP 61 179 = some (.getfield 39) := rfl
set_option maxRecDepth 100000 in
theorem yb5s_182 : j_code jP 61 182 = some (.arraylength) := rfl
set_option maxRecDepth 100000 in
theorem yb5s_183 : j_code jP 61 183 = some (.invokestatic 84) := rfl
set_option maxRecDepth 100000 in
theorem yb5s_186 : j_code jP 61 186 = some (.aload_n 1) := rfl
set_option maxRecDepth 100000 in
theorem yb5s_187 : j_code jP 61 187 = some (.getfield 42) := rfl
set_option maxRecDepth 100000 in
theorem yb5s_190 : j_code jP 61 190 = some (.iconst 0) := rfl
set_option maxRecDepth 100000 in
theorem yb5s_191 : j_code jP 61 191 = some (.aload_n 0) := rfl
set_option maxRecDepth 100000 in
theorem yb5s_192 : j_code jP 61 192 = some (.getfield 42) := rfl
set_option maxRecDepth 100000 in
theorem yb5s_195 : j_code jP 61 195 = some (.iconst 0) := rfl
set_option maxRecDepth 100000 in
theorem yb5s_196 : j_code jP 61 196 = some (.aload_n 0) := rfl
set_option maxRecDepth 100000 in
theorem yb5s_197 : j_code jP 61 197 = some (.getfield 42) := rfl
set_option maxRecDepth 100000 in
theorem yb5s_200 : j_code jP 61 200 = some (.arraylength) := rfl
set_option maxRecDepth 100000 in
theorem yb5s_201 : j_code jP 61 201 = some (.invokestatic 84) := rfl
set_option maxRecDepth 100000 in
theorem yb5s_204 : j_code jP 61 204 = some (.aload_n 1) := rfl
set_option maxRecDepth 100000 in
theorem yb5s_205 : j_code jP 61 205 = some (.getfield 45) := rfl
set_option maxRecDepth 100000 in
theorem yb5s_208 : j_code jP 61 208 = some (.iconst 0) := rfl
set_option maxRecDepth 100000 in
theorem yb5s_209 : j_code jP 61 209 = some (.aload_n 0) := rfl
set_option maxRecDepth 100000 in
theorem yb5s_210 : j_code jP 61 210 = some (.getfield 45) := rfl
set_option maxRecDepth 100000 in
theorem yb5s_213 : j_code jP 61 213 = some (.iconst 0) := rfl
set_option maxRecDepth 100000 in
theorem yb5s_214 : j_code jP 61 214 = some (.aload_n 0) := rfl
set_option maxRecDepth 100000 in
theorem yb5s_215 : j_code jP 61 215 = some (.getfield 45) := rfl
set_option maxRecDepth 100000 in
theorem yb5s_218 : j_code jP 61 218 = some (.arraylength) := rfl
set_option maxRecDepth 100000 in
theorem yb5s_219 : j_code jP 61 219 = some (.invokestatic 84) := rfl
set_option maxRecDepth 100000 in
theorem yb5s_222 : j_code jP 61 222 = some (.aload_n 0) := rfl
set_option maxRecDepth 100000 in
theorem yb5s_223 : j_code jP 61 223 = some (.getfield 60) := rfl
set_option maxRecDepth 100000 in
theorem yb5s_226 : j_code jP 61 226 = some (.aload_n 1) := rfl
set_option maxRecDepth 100000 in
theorem yb5s_227 : j_code jP 61 227 = some (.getfield 60) := rfl
set_option maxRecDepth 100000 in
theorem yb5s_230 : j_code jP 61 230 = some (.invokevirtual 108) := rfl
set_option maxRecDepth 100000 in
theorem yb5s_233 : j_code jP 61 233 = some (.return_) := rfl
set_option maxRecDepth 1000000 in
theorem yb5s_k0 {ly : Value} {mi : Int32} {shu : Int32} {bus : Int32} {lks : Int32} {lys : Nat} {mis : Int32} {shus : Int32} {buss : Int32} {lkss : Int32} {d : Nat} {lv : J_L} {h h0 : J_H} {Q : Option Value → J_H → Prop} (L : LK lv [(0, .ref 4), (1, .ref 156)]) (K : KN h [(4, .inl (7, [ly, .int mi, .int shu, .int bus, .ref 5, .ref 6, .ref 7, .ref 8, .ref 9, .ref 10, .ref 11, .ref 12, .ref 13, .ref 14, .ref 15, .int lks, .ref 16, .ref 17, .ref 20])), (156, .inl (7, [.ref lys, .int mis, .int shus, .int buss, .ref 157, .ref 158, .ref 159, .ref 160, .ref 161, .ref 162, .ref 163, .ref 164, .ref 165, .ref 166, .ref 167, .int lkss, .ref 168, .ref 169, .ref 172]))] h0) (kk : ∀ lv h, LK lv [(0, .ref 4), (1, .ref 156)] → KN h [(4, .inl (7, [.ref lys, .int mis, .int shus, .int buss, .ref 5, .ref 6, .ref 7, .ref 8, .ref 9, .ref 10, .ref 11, .ref 12, .ref 13, .ref 14, .ref 15, .int lkss, .ref 16, .ref 17, .ref 20])), (156, .inl (7, [.ref lys, .int mis, .int shus, .int buss, .ref 157, .ref 158, .ref 159, .ref 160, .ref 161, .ref 162, .ref 163, .ref 164, .ref 165, .ref 166, .ref 167, .int lkss, .ref 168, .ref 169, .ref 172]))] h0 → j_V jP d 61 40 lv [] h Q) : j_V jP d 61 0 lv [] h Q := by
  refine j_V.ldL yb5s_M yb5s_0 rfl (i := 0) (kd := 2) (v := .ref 4) (pcJ := 1) rfl L rfl rfl rfl ?_
  refine j_V.ldL yb5s_M yb5s_1 rfl (i := 1) (kd := 2) (v := .ref 156) (pcJ := 2) rfl L rfl rfl rfl ?_
  refine j_V.getK yb5s_M yb5s_2 (ci := 7) (j := 0) rfl K rfl rfl ?_
  refine j_V.putK yb5s_M yb5s_5 (ci := 7) (j := 0) (k' := [(4, .inl (7, [.ref lys, .int mi, .int shu, .int bus, .ref 5, .ref 6, .ref 7, .ref 8, .ref 9, .ref 10, .ref 11, .ref 12, .ref 13, .ref 14, .ref 15, .int lks, .ref 16, .ref 17, .ref 20])), (156, .inl (7, [.ref lys, .int mis, .int shus, .int buss, .ref 157, .ref 158, .ref 159, .ref 160, .ref 161, .ref 162, .ref 163, .ref 164, .ref 165, .ref 166, .ref 167, .int lkss, .ref 168, .ref 169, .ref 172]))]) rfl K rfl (Nat.le_of_ble_eq_true rfl) rfl (Or.inl rfl) rfl rfl (fun h K => ?_)
  refine j_V.ldL yb5s_M yb5s_8 rfl (i := 0) (kd := 2) (v := .ref 4) (pcJ := 9) rfl L rfl rfl rfl ?_
  refine j_V.ldL yb5s_M yb5s_9 rfl (i := 1) (kd := 2) (v := .ref 156) (pcJ := 10) rfl L rfl rfl rfl ?_
  refine j_V.getK yb5s_M yb5s_10 (ci := 7) (j := 1) rfl K rfl rfl ?_
  refine j_V.putK yb5s_M yb5s_13 (ci := 7) (j := 1) (k' := [(4, .inl (7, [.ref lys, .int mis, .int shu, .int bus, .ref 5, .ref 6, .ref 7, .ref 8, .ref 9, .ref 10, .ref 11, .ref 12, .ref 13, .ref 14, .ref 15, .int lks, .ref 16, .ref 17, .ref 20])), (156, .inl (7, [.ref lys, .int mis, .int shus, .int buss, .ref 157, .ref 158, .ref 159, .ref 160, .ref 161, .ref 162, .ref 163, .ref 164, .ref 165, .ref 166, .ref 167, .int lkss, .ref 168, .ref 169, .ref 172]))]) rfl K rfl (Nat.le_of_ble_eq_true rfl) rfl (Or.inl rfl) rfl rfl (fun h K => ?_)
  refine j_V.ldL yb5s_M yb5s_16 rfl (i := 0) (kd := 2) (v := .ref 4) (pcJ := 17) rfl L rfl rfl rfl ?_
  refine j_V.ldL yb5s_M yb5s_17 rfl (i := 1) (kd := 2) (v := .ref 156) (pcJ := 18) rfl L rfl rfl rfl ?_
  refine j_V.getK yb5s_M yb5s_18 (ci := 7) (j := 2) rfl K rfl rfl ?_
  refine j_V.putK yb5s_M yb5s_21 (ci := 7) (j := 2) (k' := [(4, .inl (7, [.ref lys, .int mis, .int shus, .int bus, .ref 5, .ref 6, .ref 7, .ref 8, .ref 9, .ref 10, .ref 11, .ref 12, .ref 13, .ref 14, .ref 15, .int lks, .ref 16, .ref 17, .ref 20])), (156, .inl (7, [.ref lys, .int mis, .int shus, .int buss, .ref 157, .ref 158, .ref 159, .ref 160, .ref 161, .ref 162, .ref 163, .ref 164, .ref 165, .ref 166, .ref 167, .int lkss, .ref 168, .ref 169, .ref 172]))]) rfl K rfl (Nat.le_of_ble_eq_true rfl) rfl (Or.inl rfl) rfl rfl (fun h K => ?_)
  refine j_V.ldL yb5s_M yb5s_24 rfl (i := 0) (kd := 2) (v := .ref 4) (pcJ := 25) rfl L rfl rfl rfl ?_
  refine j_V.ldL yb5s_M yb5s_25 rfl (i := 1) (kd := 2) (v := .ref 156) (pcJ := 26) rfl L rfl rfl rfl ?_
  refine j_V.getK yb5s_M yb5s_26 (ci := 7) (j := 3) rfl K rfl rfl ?_
  refine j_V.putK yb5s_M yb5s_29 (ci := 7) (j := 3) (k' := [(4, .inl (7, [.ref lys, .int mis, .int shus, .int buss, .ref 5, .ref 6, .ref 7, .ref 8, .ref 9, .ref 10, .ref 11, .ref 12, .ref 13, .ref 14, .ref 15, .int lks, .ref 16, .ref 17, .ref 20])), (156, .inl (7, [.ref lys, .int mis, .int shus, .int buss, .ref 157, .ref 158, .ref 159, .ref 160, .ref 161, .ref 162, .ref 163, .ref 164, .ref 165, .ref 166, .ref 167, .int lkss, .ref 168, .ref 169, .ref 172]))]) rfl K rfl (Nat.le_of_ble_eq_true rfl) rfl (Or.inl rfl) rfl rfl (fun h K => ?_)
  refine j_V.ldL yb5s_M yb5s_32 rfl (i := 0) (kd := 2) (v := .ref 4) (pcJ := 33) rfl L rfl rfl rfl ?_
  refine j_V.ldL yb5s_M yb5s_33 rfl (i := 1) (kd := 2) (v := .ref 156) (pcJ := 34) rfl L rfl rfl rfl ?_
  refine j_V.getK yb5s_M yb5s_34 (ci := 7) (j := 15) rfl K rfl rfl ?_
  refine j_V.putK yb5s_M yb5s_37 (ci := 7) (j := 15) (k' := [(4, .inl (7, [.ref lys, .int mis, .int shus, .int buss, .ref 5, .ref 6, .ref 7, .ref 8, .ref 9, .ref 10, .ref 11, .ref 12, .ref 13, .ref 14, .ref 15, .int lkss, .ref 16, .ref 17, .ref 20])), (156, .inl (7, [.ref lys, .int mis, .int shus, .int buss, .ref 157, .ref 158, .ref 159, .ref 160, .ref 161, .ref 162, .ref 163, .ref 164, .ref 165, .ref 166, .ref 167, .int lkss, .ref 168, .ref 169, .ref 172]))]) rfl K rfl (Nat.le_of_ble_eq_true rfl) rfl (Or.inl rfl) rfl rfl (fun h K => ?_)
  exact kk _ _ L K
set_option maxRecDepth 1000000 in
theorem yb5s_k40 {rk : List Int32} {sta : List Int32} {ph : List Int32} {lys : Nat} {mis : Int32} {shus : Int32} {buss : Int32} {lkss : Int32} {rks : List Int32} {stas : List Int32} {phs : List Int32} {d : Nat} {lv : J_L} {h h0 : J_H} {Q : Option Value → J_H → Prop} (L : LK lv [(0, .ref 4), (1, .ref 156)]) (K : KN h [(4, .inl (7, [.ref lys, .int mis, .int shus, .int buss, .ref 5, .ref 6, .ref 7, .ref 8, .ref 9, .ref 10, .ref 11, .ref 12, .ref 13, .ref 14, .ref 15, .int lkss, .ref 16, .ref 17, .ref 20])), (5, .inr (.inl (0, rk))), (6, .inr (.inl (0, sta))), (7, .inr (.inl (0, ph))), (156, .inl (7, [.ref lys, .int mis, .int shus, .int buss, .ref 157, .ref 158, .ref 159, .ref 160, .ref 161, .ref 162, .ref 163, .ref 164, .ref 165, .ref 166, .ref 167, .int lkss, .ref 168, .ref 169, .ref 172])), (157, .inr (.inl (0, rks))), (158, .inr (.inl (0, stas))), (159, .inr (.inl (0, phs)))] h0) (kk : ∀ lv h, LK lv [(0, .ref 4), (1, .ref 156)] → KN h [(4, .inl (7, [.ref lys, .int mis, .int shus, .int buss, .ref 5, .ref 6, .ref 7, .ref 8, .ref 9, .ref 10, .ref 11, .ref 12, .ref 13, .ref 14, .ref 15, .int lkss, .ref 16, .ref 17, .ref 20])), (5, .inr (.inl (0, (aC 5 rks rk)))), (6, .inr (.inl (0, (aC 5 stas sta)))), (7, .inr (.inl (0, (aC 5 phs ph)))), (156, .inl (7, [.ref lys, .int mis, .int shus, .int buss, .ref 157, .ref 158, .ref 159, .ref 160, .ref 161, .ref 162, .ref 163, .ref 164, .ref 165, .ref 166, .ref 167, .int lkss, .ref 168, .ref 169, .ref 172])), (157, .inr (.inl (0, rks))), (158, .inr (.inl (0, stas))), (159, .inr (.inl (0, phs)))] h0 → j_V jP d 61 82 lv [] h Q) : j_V jP d 61 40 lv [] h Q := by
  refine j_V.ldL yb5s_M yb5s_40 rfl (i := 1) (kd := 2) (v := .ref 156) (pcJ := 41) rfl L rfl rfl rfl ?_
  refine j_V.getK yb5s_M yb5s_41 (ci := 7) (j := 4) rfl K rfl rfl ?_
  refine j_V.one yb5s_M yb5s_44 (by decide) (pcJ := 45) (stJ := [.int 0, .ref 157]) rfl ?_
  refine j_V.ldL yb5s_M yb5s_45 rfl (i := 0) (kd := 2) (v := .ref 4) (pcJ := 46) rfl L rfl rfl rfl ?_
  refine j_V.getK yb5s_M yb5s_46 (ci := 7) (j := 4) rfl K rfl rfl ?_
  refine j_V.one yb5s_M yb5s_49 (by decide) (pcJ := 50) (stJ := [.int 0, .ref 5, .int 0, .ref 157]) rfl ?_
  refine j_V.one yb5s_M yb5s_50 (by decide) (pcJ := 51) (stJ := [.int 5, .int 0, .ref 5, .int 0, .ref 157]) rfl ?_
  refine j_V.acp yb5s_M yb5s_51 rfl rfl K rfl rfl rfl (fun h K => ?_)
  refine j_V.ldL yb5s_M yb5s_54 rfl (i := 1) (kd := 2) (v := .ref 156) (pcJ := 55) rfl L rfl rfl rfl ?_
  refine j_V.getK yb5s_M yb5s_55 (ci := 7) (j := 5) rfl K rfl rfl ?_
  refine j_V.one yb5s_M yb5s_58 (by decide) (pcJ := 59) (stJ := [.int 0, .ref 158]) rfl ?_
  refine j_V.ldL yb5s_M yb5s_59 rfl (i := 0) (kd := 2) (v := .ref 4) (pcJ := 60) rfl L rfl rfl rfl ?_
  refine j_V.getK yb5s_M yb5s_60 (ci := 7) (j := 5) rfl K rfl rfl ?_
  refine j_V.one yb5s_M yb5s_63 (by decide) (pcJ := 64) (stJ := [.int 0, .ref 6, .int 0, .ref 158]) rfl ?_
  refine j_V.one yb5s_M yb5s_64 (by decide) (pcJ := 65) (stJ := [.int 5, .int 0, .ref 6, .int 0, .ref 158]) rfl ?_
  refine j_V.acp yb5s_M yb5s_65 rfl rfl K rfl rfl rfl (fun h K => ?_)
  refine j_V.ldL yb5s_M yb5s_68 rfl (i := 1) (kd := 2) (v := .ref 156) (pcJ := 69) rfl L rfl rfl rfl ?_
  refine j_V.getK yb5s_M yb5s_69 (ci := 7) (j := 6) rfl K rfl rfl ?_
  refine j_V.one yb5s_M yb5s_72 (by decide) (pcJ := 73) (stJ := [.int 0, .ref 159]) rfl ?_
  refine j_V.ldL yb5s_M yb5s_73 rfl (i := 0) (kd := 2) (v := .ref 4) (pcJ := 74) rfl L rfl rfl rfl ?_
  refine j_V.getK yb5s_M yb5s_74 (ci := 7) (j := 6) rfl K rfl rfl ?_
  refine j_V.one yb5s_M yb5s_77 (by decide) (pcJ := 78) (stJ := [.int 0, .ref 7, .int 0, .ref 159]) rfl ?_
  refine j_V.one yb5s_M yb5s_78 (by decide) (pcJ := 79) (stJ := [.int 5, .int 0, .ref 7, .int 0, .ref 159]) rfl ?_
  refine j_V.acp yb5s_M yb5s_79 rfl rfl K rfl rfl rfl (fun h K => ?_)
  exact kk _ _ L K
set_option maxRecDepth 1000000 in
theorem yb5s_k82 {sp : List Int32} {ce : List Int32} {du : List Int32} {lys : Nat} {mis : Int32} {shus : Int32} {buss : Int32} {lkss : Int32} {sps : List Int32} {ces : List Int32} {dus : List Int32} {d : Nat} {lv : J_L} {h h0 : J_H} {Q : Option Value → J_H → Prop} (L : LK lv [(0, .ref 4), (1, .ref 156)]) (K : KN h [(4, .inl (7, [.ref lys, .int mis, .int shus, .int buss, .ref 5, .ref 6, .ref 7, .ref 8, .ref 9, .ref 10, .ref 11, .ref 12, .ref 13, .ref 14, .ref 15, .int lkss, .ref 16, .ref 17, .ref 20])), (8, .inr (.inl (0, sp))), (9, .inr (.inl (0, ce))), (10, .inr (.inl (0, du))), (156, .inl (7, [.ref lys, .int mis, .int shus, .int buss, .ref 157, .ref 158, .ref 159, .ref 160, .ref 161, .ref 162, .ref 163, .ref 164, .ref 165, .ref 166, .ref 167, .int lkss, .ref 168, .ref 169, .ref 172])), (160, .inr (.inl (0, sps))), (161, .inr (.inl (0, ces))), (162, .inr (.inl (0, dus)))] h0) (kk : ∀ lv h, LK lv [(0, .ref 4), (1, .ref 156)] → KN h [(4, .inl (7, [.ref lys, .int mis, .int shus, .int buss, .ref 5, .ref 6, .ref 7, .ref 8, .ref 9, .ref 10, .ref 11, .ref 12, .ref 13, .ref 14, .ref 15, .int lkss, .ref 16, .ref 17, .ref 20])), (8, .inr (.inl (0, (aC 5 sps sp)))), (9, .inr (.inl (0, (aC 5 ces ce)))), (10, .inr (.inl (0, (aC 5 dus du)))), (156, .inl (7, [.ref lys, .int mis, .int shus, .int buss, .ref 157, .ref 158, .ref 159, .ref 160, .ref 161, .ref 162, .ref 163, .ref 164, .ref 165, .ref 166, .ref 167, .int lkss, .ref 168, .ref 169, .ref 172])), (160, .inr (.inl (0, sps))), (161, .inr (.inl (0, ces))), (162, .inr (.inl (0, dus)))] h0 → j_V jP d 61 124 lv [] h Q) : j_V jP d 61 82 lv [] h Q := by
  refine j_V.ldL yb5s_M yb5s_82 rfl (i := 1) (kd := 2) (v := .ref 156) (pcJ := 83) rfl L rfl rfl rfl ?_
  refine j_V.getK yb5s_M yb5s_83 (ci := 7) (j := 7) rfl K rfl rfl ?_
  refine j_V.one yb5s_M yb5s_86 (by decide) (pcJ := 87) (stJ := [.int 0, .ref 160]) rfl ?_
  refine j_V.ldL yb5s_M yb5s_87 rfl (i := 0) (kd := 2) (v := .ref 4) (pcJ := 88) rfl L rfl rfl rfl ?_
  refine j_V.getK yb5s_M yb5s_88 (ci := 7) (j := 7) rfl K rfl rfl ?_
  refine j_V.one yb5s_M yb5s_91 (by decide) (pcJ := 92) (stJ := [.int 0, .ref 8, .int 0, .ref 160]) rfl ?_
  refine j_V.one yb5s_M yb5s_92 (by decide) (pcJ := 93) (stJ := [.int 5, .int 0, .ref 8, .int 0, .ref 160]) rfl ?_
  refine j_V.acp yb5s_M yb5s_93 rfl rfl K rfl rfl rfl (fun h K => ?_)
  refine j_V.ldL yb5s_M yb5s_96 rfl (i := 1) (kd := 2) (v := .ref 156) (pcJ := 97) rfl L rfl rfl rfl ?_
  refine j_V.getK yb5s_M yb5s_97 (ci := 7) (j := 8) rfl K rfl rfl ?_
  refine j_V.one yb5s_M yb5s_100 (by decide) (pcJ := 101) (stJ := [.int 0, .ref 161]) rfl ?_
  refine j_V.ldL yb5s_M yb5s_101 rfl (i := 0) (kd := 2) (v := .ref 4) (pcJ := 102) rfl L rfl rfl rfl ?_
  refine j_V.getK yb5s_M yb5s_102 (ci := 7) (j := 8) rfl K rfl rfl ?_
  refine j_V.one yb5s_M yb5s_105 (by decide) (pcJ := 106) (stJ := [.int 0, .ref 9, .int 0, .ref 161]) rfl ?_
  refine j_V.one yb5s_M yb5s_106 (by decide) (pcJ := 107) (stJ := [.int 5, .int 0, .ref 9, .int 0, .ref 161]) rfl ?_
  refine j_V.acp yb5s_M yb5s_107 rfl rfl K rfl rfl rfl (fun h K => ?_)
  refine j_V.ldL yb5s_M yb5s_110 rfl (i := 1) (kd := 2) (v := .ref 156) (pcJ := 111) rfl L rfl rfl rfl ?_
  refine j_V.getK yb5s_M yb5s_111 (ci := 7) (j := 9) rfl K rfl rfl ?_
  refine j_V.one yb5s_M yb5s_114 (by decide) (pcJ := 115) (stJ := [.int 0, .ref 162]) rfl ?_
  refine j_V.ldL yb5s_M yb5s_115 rfl (i := 0) (kd := 2) (v := .ref 4) (pcJ := 116) rfl L rfl rfl rfl ?_
  refine j_V.getK yb5s_M yb5s_116 (ci := 7) (j := 9) rfl K rfl rfl ?_
  refine j_V.one yb5s_M yb5s_119 (by decide) (pcJ := 120) (stJ := [.int 0, .ref 10, .int 0, .ref 162]) rfl ?_
  refine j_V.one yb5s_M yb5s_120 (by decide) (pcJ := 121) (stJ := [.int 5, .int 0, .ref 10, .int 0, .ref 162]) rfl ?_
  refine j_V.acp yb5s_M yb5s_121 rfl rfl K rfl rfl rfl (fun h K => ?_)
  exact kk _ _ L K
set_option maxRecDepth 1000000 in
theorem yb5s_k124 {he : List Int32} {ri : List Int32} {us : List Int32} {lys : Nat} {mis : Int32} {shus : Int32} {buss : Int32} {lkss : Int32} {hes : List Int32} {ris : List Int32} {uss : List Int32} {d : Nat} {lv : J_L} {h h0 : J_H} {Q : Option Value → J_H → Prop} (L : LK lv [(0, .ref 4), (1, .ref 156)]) (K : KN h [(4, .inl (7, [.ref lys, .int mis, .int shus, .int buss, .ref 5, .ref 6, .ref 7, .ref 8, .ref 9, .ref 10, .ref 11, .ref 12, .ref 13, .ref 14, .ref 15, .int lkss, .ref 16, .ref 17, .ref 20])), (11, .inr (.inl (0, he))), (12, .inr (.inl (0, ri))), (13, .inr (.inl (0, us))), (156, .inl (7, [.ref lys, .int mis, .int shus, .int buss, .ref 157, .ref 158, .ref 159, .ref 160, .ref 161, .ref 162, .ref 163, .ref 164, .ref 165, .ref 166, .ref 167, .int lkss, .ref 168, .ref 169, .ref 172])), (163, .inr (.inl (0, hes))), (164, .inr (.inl (0, ris))), (165, .inr (.inl (0, uss)))] h0) (kk : ∀ lv h, LK lv [(0, .ref 4), (1, .ref 156)] → KN h [(4, .inl (7, [.ref lys, .int mis, .int shus, .int buss, .ref 5, .ref 6, .ref 7, .ref 8, .ref 9, .ref 10, .ref 11, .ref 12, .ref 13, .ref 14, .ref 15, .int lkss, .ref 16, .ref 17, .ref 20])), (11, .inr (.inl (0, (aC 5 hes he)))), (12, .inr (.inl (0, (aC 6 ris ri)))), (13, .inr (.inl (0, (aC 6 uss us)))), (156, .inl (7, [.ref lys, .int mis, .int shus, .int buss, .ref 157, .ref 158, .ref 159, .ref 160, .ref 161, .ref 162, .ref 163, .ref 164, .ref 165, .ref 166, .ref 167, .int lkss, .ref 168, .ref 169, .ref 172])), (163, .inr (.inl (0, hes))), (164, .inr (.inl (0, ris))), (165, .inr (.inl (0, uss)))] h0 → j_V jP d 61 168 lv [] h Q) : j_V jP d 61 124 lv [] h Q := by
  refine j_V.ldL yb5s_M yb5s_124 rfl (i := 1) (kd := 2) (v := .ref 156) (pcJ := 125) rfl L rfl rfl rfl ?_
  refine j_V.getK yb5s_M yb5s_125 (ci := 7) (j := 10) rfl K rfl rfl ?_
  refine j_V.one yb5s_M yb5s_128 (by decide) (pcJ := 129) (stJ := [.int 0, .ref 163]) rfl ?_
  refine j_V.ldL yb5s_M yb5s_129 rfl (i := 0) (kd := 2) (v := .ref 4) (pcJ := 130) rfl L rfl rfl rfl ?_
  refine j_V.getK yb5s_M yb5s_130 (ci := 7) (j := 10) rfl K rfl rfl ?_
  refine j_V.one yb5s_M yb5s_133 (by decide) (pcJ := 134) (stJ := [.int 0, .ref 11, .int 0, .ref 163]) rfl ?_
  refine j_V.one yb5s_M yb5s_134 (by decide) (pcJ := 135) (stJ := [.int 5, .int 0, .ref 11, .int 0, .ref 163]) rfl ?_
  refine j_V.acp yb5s_M yb5s_135 rfl rfl K rfl rfl rfl (fun h K => ?_)
  refine j_V.ldL yb5s_M yb5s_138 rfl (i := 1) (kd := 2) (v := .ref 156) (pcJ := 139) rfl L rfl rfl rfl ?_
  refine j_V.getK yb5s_M yb5s_139 (ci := 7) (j := 11) rfl K rfl rfl ?_
  refine j_V.one yb5s_M yb5s_142 (by decide) (pcJ := 143) (stJ := [.int 0, .ref 164]) rfl ?_
  refine j_V.ldL yb5s_M yb5s_143 rfl (i := 0) (kd := 2) (v := .ref 4) (pcJ := 144) rfl L rfl rfl rfl ?_
  refine j_V.getK yb5s_M yb5s_144 (ci := 7) (j := 11) rfl K rfl rfl ?_
  refine j_V.one yb5s_M yb5s_147 (by decide) (pcJ := 148) (stJ := [.int 0, .ref 12, .int 0, .ref 164]) rfl ?_
  refine j_V.one yb5s_M yb5s_148 (by decide) (pcJ := 150) (stJ := [.int 6, .int 0, .ref 12, .int 0, .ref 164]) rfl ?_
  refine j_V.acp yb5s_M yb5s_150 rfl rfl K rfl rfl rfl (fun h K => ?_)
  refine j_V.ldL yb5s_M yb5s_153 rfl (i := 1) (kd := 2) (v := .ref 156) (pcJ := 154) rfl L rfl rfl rfl ?_
  refine j_V.getK yb5s_M yb5s_154 (ci := 7) (j := 12) rfl K rfl rfl ?_
  refine j_V.one yb5s_M yb5s_157 (by decide) (pcJ := 158) (stJ := [.int 0, .ref 165]) rfl ?_
  refine j_V.ldL yb5s_M yb5s_158 rfl (i := 0) (kd := 2) (v := .ref 4) (pcJ := 159) rfl L rfl rfl rfl ?_
  refine j_V.getK yb5s_M yb5s_159 (ci := 7) (j := 12) rfl K rfl rfl ?_
  refine j_V.one yb5s_M yb5s_162 (by decide) (pcJ := 163) (stJ := [.int 0, .ref 13, .int 0, .ref 165]) rfl ?_
  refine j_V.one yb5s_M yb5s_163 (by decide) (pcJ := 165) (stJ := [.int 6, .int 0, .ref 13, .int 0, .ref 165]) rfl ?_
  refine j_V.acp yb5s_M yb5s_165 rfl rfl K rfl rfl rfl (fun h K => ?_)
  exact kk _ _ L K
set_option maxRecDepth 1000000 in
theorem yb5s_k168 {cm : List Int32} {lf : List Int32} {lkd : List Int32} {lys : Nat} {mis : Int32} {shus : Int32} {buss : Int32} {lkss : Int32} {cms : List Int32} {lfs : List Int32} {lkds : List Int32} {d : Nat} {lv : J_L} {h h0 : J_H} {Q : Option Value → J_H → Prop} (L : LK lv [(0, .ref 4), (1, .ref 156)]) (K : KN h [(4, .inl (7, [.ref lys, .int mis, .int shus, .int buss, .ref 5, .ref 6, .ref 7, .ref 8, .ref 9, .ref 10, .ref 11, .ref 12, .ref 13, .ref 14, .ref 15, .int lkss, .ref 16, .ref 17, .ref 20])), (14, .inr (.inl (0, cm))), (15, .inr (.inl (0, lf))), (16, .inr (.inl (0, lkd))), (156, .inl (7, [.ref lys, .int mis, .int shus, .int buss, .ref 157, .ref 158, .ref 159, .ref 160, .ref 161, .ref 162, .ref 163, .ref 164, .ref 165, .ref 166, .ref 167, .int lkss, .ref 168, .ref 169, .ref 172])), (166, .inr (.inl (0, cms))), (167, .inr (.inl (0, lfs))), (168, .inr (.inl (0, lkds)))] h0) (kk : ∀ lv h, LK lv [(0, .ref 4), (1, .ref 156)] → KN h [(4, .inl (7, [.ref lys, .int mis, .int shus, .int buss, .ref 5, .ref 6, .ref 7, .ref 8, .ref 9, .ref 10, .ref 11, .ref 12, .ref 13, .ref 14, .ref 15, .int lkss, .ref 16, .ref 17, .ref 20])), (14, .inr (.inl (0, (aC (nI cm.length) cms cm)))), (15, .inr (.inl (0, (aC (nI lf.length) lfs lf)))), (16, .inr (.inl (0, (aC (nI lkd.length) lkds lkd)))), (156, .inl (7, [.ref lys, .int mis, .int shus, .int buss, .ref 157, .ref 158, .ref 159, .ref 160, .ref 161, .ref 162, .ref 163, .ref 164, .ref 165, .ref 166, .ref 167, .int lkss, .ref 168, .ref 169, .ref 172])), (166, .inr (.inl (0, cms))), (167, .inr (.inl (0, lfs))), (168, .inr (.inl (0, lkds)))] h0 → j_V jP d 61 222 lv [] h Q) : j_V jP d 61 168 lv [] h Q := by
  refine j_V.ldL yb5s_M yb5s_168 rfl (i := 1) (kd := 2) (v := .ref 156) (pcJ := 169) rfl L rfl rfl rfl ?_
  refine j_V.getK yb5s_M yb5s_169 (ci := 7) (j := 13) rfl K rfl rfl ?_
  refine j_V.one yb5s_M yb5s_172 (by decide) (pcJ := 173) (stJ := [.int 0, .ref 166]) rfl ?_
  refine j_V.ldL yb5s_M yb5s_173 rfl (i := 0) (kd := 2) (v := .ref 4) (pcJ := 174) rfl L rfl rfl rfl ?_
  refine j_V.getK yb5s_M yb5s_174 (ci := 7) (j := 13) rfl K rfl rfl ?_
  refine j_V.one yb5s_M yb5s_177 (by decide) (pcJ := 178) (stJ := [.int 0, .ref 14, .int 0, .ref 166]) rfl ?_
  refine j_V.ldL yb5s_M yb5s_178 rfl (i := 0) (kd := 2) (v := .ref 4) (pcJ := 179) rfl L rfl rfl rfl ?_
  refine j_V.getK yb5s_M yb5s_179 (ci := 7) (j := 13) rfl K rfl rfl ?_
  refine j_V.alnA yb5s_M yb5s_182 K rfl ?_
  refine j_V.acp yb5s_M yb5s_183 rfl rfl K rfl rfl rfl (fun h K => ?_)
  refine j_V.ldL yb5s_M yb5s_186 rfl (i := 1) (kd := 2) (v := .ref 156) (pcJ := 187) rfl L rfl rfl rfl ?_
  refine j_V.getK yb5s_M yb5s_187 (ci := 7) (j := 14) rfl K rfl rfl ?_
  refine j_V.one yb5s_M yb5s_190 (by decide) (pcJ := 191) (stJ := [.int 0, .ref 167]) rfl ?_
  refine j_V.ldL yb5s_M yb5s_191 rfl (i := 0) (kd := 2) (v := .ref 4) (pcJ := 192) rfl L rfl rfl rfl ?_
  refine j_V.getK yb5s_M yb5s_192 (ci := 7) (j := 14) rfl K rfl rfl ?_
  refine j_V.one yb5s_M yb5s_195 (by decide) (pcJ := 196) (stJ := [.int 0, .ref 15, .int 0, .ref 167]) rfl ?_
  refine j_V.ldL yb5s_M yb5s_196 rfl (i := 0) (kd := 2) (v := .ref 4) (pcJ := 197) rfl L rfl rfl rfl ?_
  refine j_V.getK yb5s_M yb5s_197 (ci := 7) (j := 14) rfl K rfl rfl ?_
  refine j_V.alnA yb5s_M yb5s_200 K rfl ?_
  refine j_V.acp yb5s_M yb5s_201 rfl rfl K rfl rfl rfl (fun h K => ?_)
  refine j_V.ldL yb5s_M yb5s_204 rfl (i := 1) (kd := 2) (v := .ref 156) (pcJ := 205) rfl L rfl rfl rfl ?_
  refine j_V.getK yb5s_M yb5s_205 (ci := 7) (j := 16) rfl K rfl rfl ?_
  refine j_V.one yb5s_M yb5s_208 (by decide) (pcJ := 209) (stJ := [.int 0, .ref 168]) rfl ?_
  refine j_V.ldL yb5s_M yb5s_209 rfl (i := 0) (kd := 2) (v := .ref 4) (pcJ := 210) rfl L rfl rfl rfl ?_
  refine j_V.getK yb5s_M yb5s_210 (ci := 7) (j := 16) rfl K rfl rfl ?_
  refine j_V.one yb5s_M yb5s_213 (by decide) (pcJ := 214) (stJ := [.int 0, .ref 16, .int 0, .ref 168]) rfl ?_
  refine j_V.ldL yb5s_M yb5s_214 rfl (i := 0) (kd := 2) (v := .ref 4) (pcJ := 215) rfl L rfl rfl rfl ?_
  refine j_V.getK yb5s_M yb5s_215 (ci := 7) (j := 16) rfl K rfl rfl ?_
  refine j_V.alnA yb5s_M yb5s_218 K rfl ?_
  refine j_V.acp yb5s_M yb5s_219 rfl rfl K rfl rfl rfl (fun h K => ?_)
  exact kk _ _ L K
set_option maxRecDepth 1000000 in
theorem yb5s_ok {ly : Value} {mi : Int32} {shu : Int32} {bus : Int32} {lks : Int32} {rk : List Int32} {sta : List Int32} {ph : List Int32} {sp : List Int32} {ce : List Int32} {du : List Int32} {he : List Int32} {ri : List Int32} {us : List Int32} {cm : List Int32} {lf : List Int32} {lkd : List Int32} {pev : Int32} {pms : List Int32} {pmm : List Int32} {pmt : List Int32} {pst : List Int32} {pwa : List Int32} {prs : List Int32} {prr : List Int32} {pfa : List Int32} {lys : Nat} {mis : Int32} {shus : Int32} {buss : Int32} {lkss : Int32} {rks : List Int32} {stas : List Int32} {phs : List Int32} {sps : List Int32} {ces : List Int32} {dus : List Int32} {hes : List Int32} {ris : List Int32} {uss : List Int32} {cms : List Int32} {lfs : List Int32} {lkds : List Int32} {pevs : Int32} {pmss : List Int32} {pmms : List Int32} {pmts : List Int32} {psts : List Int32} {pwas : List Int32} {prss : List Int32} {prrs : List Int32} {pfas : List Int32} {d : Nat} {h h0 : J_H} (K : KN h [(4, .inl (7, [ly, .int mi, .int shu, .int bus, .ref 5, .ref 6, .ref 7, .ref 8, .ref 9, .ref 10, .ref 11, .ref 12, .ref 13, .ref 14, .ref 15, .int lks, .ref 16, .ref 17, .ref 20])), (5, .inr (.inl (0, rk))), (6, .inr (.inl (0, sta))), (7, .inr (.inl (0, ph))), (8, .inr (.inl (0, sp))), (9, .inr (.inl (0, ce))), (10, .inr (.inl (0, du))), (11, .inr (.inl (0, he))), (12, .inr (.inl (0, ri))), (13, .inr (.inl (0, us))), (14, .inr (.inl (0, cm))), (15, .inr (.inl (0, lf))), (16, .inr (.inl (0, lkd))), (20, .inl (3, [.ref 21, .ref 22, .ref 23, .ref 24, .ref 25, .ref 26, .ref 27, .ref 28, .int pev, .int 1])), (21, .inr (.inl (0, pms))), (22, .inr (.inl (0, pmm))), (23, .inr (.inl (0, pmt))), (24, .inr (.inl (0, pst))), (25, .inr (.inl (0, pwa))), (26, .inr (.inl (0, prs))), (27, .inr (.inl (0, prr))), (28, .inr (.inl (0, pfa))), (156, .inl (7, [.ref lys, .int mis, .int shus, .int buss, .ref 157, .ref 158, .ref 159, .ref 160, .ref 161, .ref 162, .ref 163, .ref 164, .ref 165, .ref 166, .ref 167, .int lkss, .ref 168, .ref 169, .ref 172])), (157, .inr (.inl (0, rks))), (158, .inr (.inl (0, stas))), (159, .inr (.inl (0, phs))), (160, .inr (.inl (0, sps))), (161, .inr (.inl (0, ces))), (162, .inr (.inl (0, dus))), (163, .inr (.inl (0, hes))), (164, .inr (.inl (0, ris))), (165, .inr (.inl (0, uss))), (166, .inr (.inl (0, cms))), (167, .inr (.inl (0, lfs))), (168, .inr (.inl (0, lkds))), (172, .inl (3, [.ref 173, .ref 174, .ref 175, .ref 176, .ref 177, .ref 178, .ref 179, .ref 180, .int pevs, .int 1])), (173, .inr (.inl (0, pmss))), (174, .inr (.inl (0, pmms))), (175, .inr (.inl (0, pmts))), (176, .inr (.inl (0, psts))), (177, .inr (.inl (0, pwas))), (178, .inr (.inl (0, prss))), (179, .inr (.inl (0, prrs))), (180, .inr (.inl (0, pfas)))] h0) : j_V jP d 61 0 (lv_args 0 [.ref 4, .ref 156]) [] h (fun rv h' => rv = none ∧ KN h' [(4, .inl (7, [.ref lys, .int mis, .int shus, .int buss, .ref 5, .ref 6, .ref 7, .ref 8, .ref 9, .ref 10, .ref 11, .ref 12, .ref 13, .ref 14, .ref 15, .int lkss, .ref 16, .ref 17, .ref 20])), (5, .inr (.inl (0, (aC 5 rks rk)))), (6, .inr (.inl (0, (aC 5 stas sta)))), (7, .inr (.inl (0, (aC 5 phs ph)))), (8, .inr (.inl (0, (aC 5 sps sp)))), (9, .inr (.inl (0, (aC 5 ces ce)))), (10, .inr (.inl (0, (aC 5 dus du)))), (11, .inr (.inl (0, (aC 5 hes he)))), (12, .inr (.inl (0, (aC 6 ris ri)))), (13, .inr (.inl (0, (aC 6 uss us)))), (14, .inr (.inl (0, (aC (nI cm.length) cms cm)))), (15, .inr (.inl (0, (aC (nI lf.length) lfs lf)))), (16, .inr (.inl (0, (aC (nI lkd.length) lkds lkd)))), (20, .inl (3, [.ref 21, .ref 22, .ref 23, .ref 24, .ref 25, .ref 26, .ref 27, .ref 28, .int pevs, .int 1])), (21, .inr (.inl (0, (aC (nI pms.length) pmss pms)))), (22, .inr (.inl (0, (aC (nI pmm.length) pmms pmm)))), (23, .inr (.inl (0, (aC (nI pmt.length) pmts pmt)))), (24, .inr (.inl (0, (aC (nI pst.length) psts pst)))), (25, .inr (.inl (0, (aC (nI pwa.length) pwas pwa)))), (26, .inr (.inl (0, (aC (nI prs.length) prss prs)))), (27, .inr (.inl (0, (aC (nI prr.length) prrs prr)))), (28, .inr (.inl (0, (aC (nI pfa.length) pfas pfa)))), (156, .inl (7, [.ref lys, .int mis, .int shus, .int buss, .ref 157, .ref 158, .ref 159, .ref 160, .ref 161, .ref 162, .ref 163, .ref 164, .ref 165, .ref 166, .ref 167, .int lkss, .ref 168, .ref 169, .ref 172])), (157, .inr (.inl (0, rks))), (158, .inr (.inl (0, stas))), (159, .inr (.inl (0, phs))), (160, .inr (.inl (0, sps))), (161, .inr (.inl (0, ces))), (162, .inr (.inl (0, dus))), (163, .inr (.inl (0, hes))), (164, .inr (.inl (0, ris))), (165, .inr (.inl (0, uss))), (166, .inr (.inl (0, cms))), (167, .inr (.inl (0, lfs))), (168, .inr (.inl (0, lkds))), (172, .inl (3, [.ref 173, .ref 174, .ref 175, .ref 176, .ref 177, .ref 178, .ref 179, .ref 180, .int pevs, .int 1])), (173, .inr (.inl (0, pmss))), (174, .inr (.inl (0, pmms))), (175, .inr (.inl (0, pmts))), (176, .inr (.inl (0, psts))), (177, .inr (.inl (0, pwas))), (178, .inr (.inl (0, prss))), (179, .inr (.inl (0, prrs))), (180, .inr (.inl (0, pfas)))] h0) := by
  show j_V jP d 61 0 [(0, .ref 4), (1, .ref 156)] [] h _
  obtain ⟨lv, elv, L⟩ : ∃ lv, lv = [(0, .ref 4), (1, .ref 156)] ∧ LK lv [(0, .ref 4), (1, .ref 156)] := ⟨_, rfl, LK.rf⟩
  rw [← elv]
  clear elv
  refine yb5s_k0 L (K.fi [4, 156] rfl rfl) (fun lv h9 L K9 => ?_)
  have K : KN h9 [(4, .inl (7, [.ref lys, .int mis, .int shus, .int buss, .ref 5, .ref 6, .ref 7, .ref 8, .ref 9, .ref 10, .ref 11, .ref 12, .ref 13, .ref 14, .ref 15, .int lkss, .ref 16, .ref 17, .ref 20])), (5, .inr (.inl (0, rk))), (6, .inr (.inl (0, sta))), (7, .inr (.inl (0, ph))), (8, .inr (.inl (0, sp))), (9, .inr (.inl (0, ce))), (10, .inr (.inl (0, du))), (11, .inr (.inl (0, he))), (12, .inr (.inl (0, ri))), (13, .inr (.inl (0, us))), (14, .inr (.inl (0, cm))), (15, .inr (.inl (0, lf))), (16, .inr (.inl (0, lkd))), (20, .inl (3, [.ref 21, .ref 22, .ref 23, .ref 24, .ref 25, .ref 26, .ref 27, .ref 28, .int pev, .int 1])), (21, .inr (.inl (0, pms))), (22, .inr (.inl (0, pmm))), (23, .inr (.inl (0, pmt))), (24, .inr (.inl (0, pst))), (25, .inr (.inl (0, pwa))), (26, .inr (.inl (0, prs))), (27, .inr (.inl (0, prr))), (28, .inr (.inl (0, pfa))), (156, .inl (7, [.ref lys, .int mis, .int shus, .int buss, .ref 157, .ref 158, .ref 159, .ref 160, .ref 161, .ref 162, .ref 163, .ref 164, .ref 165, .ref 166, .ref 167, .int lkss, .ref 168, .ref 169, .ref 172])), (157, .inr (.inl (0, rks))), (158, .inr (.inl (0, stas))), (159, .inr (.inl (0, phs))), (160, .inr (.inl (0, sps))), (161, .inr (.inl (0, ces))), (162, .inr (.inl (0, dus))), (163, .inr (.inl (0, hes))), (164, .inr (.inl (0, ris))), (165, .inr (.inl (0, uss))), (166, .inr (.inl (0, cms))), (167, .inr (.inl (0, lfs))), (168, .inr (.inl (0, lkds))), (172, .inl (3, [.ref 173, .ref 174, .ref 175, .ref 176, .ref 177, .ref 178, .ref 179, .ref 180, .int pevs, .int 1])), (173, .inr (.inl (0, pmss))), (174, .inr (.inl (0, pmms))), (175, .inr (.inl (0, pmts))), (176, .inr (.inl (0, psts))), (177, .inr (.inl (0, pwas))), (178, .inr (.inl (0, prss))), (179, .inr (.inl (0, prrs))), (180, .inr (.inl (0, pfas)))] h0 := K.mg K9 rfl rfl
  clear K9
  refine yb5s_k40 L (K.fi [4, 5, 6, 7, 156, 157, 158, 159] rfl rfl) (fun lv h9 L K9 => ?_)
  have K : KN h9 [(4, .inl (7, [.ref lys, .int mis, .int shus, .int buss, .ref 5, .ref 6, .ref 7, .ref 8, .ref 9, .ref 10, .ref 11, .ref 12, .ref 13, .ref 14, .ref 15, .int lkss, .ref 16, .ref 17, .ref 20])), (5, .inr (.inl (0, (aC 5 rks rk)))), (6, .inr (.inl (0, (aC 5 stas sta)))), (7, .inr (.inl (0, (aC 5 phs ph)))), (8, .inr (.inl (0, sp))), (9, .inr (.inl (0, ce))), (10, .inr (.inl (0, du))), (11, .inr (.inl (0, he))), (12, .inr (.inl (0, ri))), (13, .inr (.inl (0, us))), (14, .inr (.inl (0, cm))), (15, .inr (.inl (0, lf))), (16, .inr (.inl (0, lkd))), (20, .inl (3, [.ref 21, .ref 22, .ref 23, .ref 24, .ref 25, .ref 26, .ref 27, .ref 28, .int pev, .int 1])), (21, .inr (.inl (0, pms))), (22, .inr (.inl (0, pmm))), (23, .inr (.inl (0, pmt))), (24, .inr (.inl (0, pst))), (25, .inr (.inl (0, pwa))), (26, .inr (.inl (0, prs))), (27, .inr (.inl (0, prr))), (28, .inr (.inl (0, pfa))), (156, .inl (7, [.ref lys, .int mis, .int shus, .int buss, .ref 157, .ref 158, .ref 159, .ref 160, .ref 161, .ref 162, .ref 163, .ref 164, .ref 165, .ref 166, .ref 167, .int lkss, .ref 168, .ref 169, .ref 172])), (157, .inr (.inl (0, rks))), (158, .inr (.inl (0, stas))), (159, .inr (.inl (0, phs))), (160, .inr (.inl (0, sps))), (161, .inr (.inl (0, ces))), (162, .inr (.inl (0, dus))), (163, .inr (.inl (0, hes))), (164, .inr (.inl (0, ris))), (165, .inr (.inl (0, uss))), (166, .inr (.inl (0, cms))), (167, .inr (.inl (0, lfs))), (168, .inr (.inl (0, lkds))), (172, .inl (3, [.ref 173, .ref 174, .ref 175, .ref 176, .ref 177, .ref 178, .ref 179, .ref 180, .int pevs, .int 1])), (173, .inr (.inl (0, pmss))), (174, .inr (.inl (0, pmms))), (175, .inr (.inl (0, pmts))), (176, .inr (.inl (0, psts))), (177, .inr (.inl (0, pwas))), (178, .inr (.inl (0, prss))), (179, .inr (.inl (0, prrs))), (180, .inr (.inl (0, pfas)))] h0 := K.mg K9 rfl rfl
  clear K9
  refine yb5s_k82 L (K.fi [4, 8, 9, 10, 156, 160, 161, 162] rfl rfl) (fun lv h9 L K9 => ?_)
  have K : KN h9 [(4, .inl (7, [.ref lys, .int mis, .int shus, .int buss, .ref 5, .ref 6, .ref 7, .ref 8, .ref 9, .ref 10, .ref 11, .ref 12, .ref 13, .ref 14, .ref 15, .int lkss, .ref 16, .ref 17, .ref 20])), (5, .inr (.inl (0, (aC 5 rks rk)))), (6, .inr (.inl (0, (aC 5 stas sta)))), (7, .inr (.inl (0, (aC 5 phs ph)))), (8, .inr (.inl (0, (aC 5 sps sp)))), (9, .inr (.inl (0, (aC 5 ces ce)))), (10, .inr (.inl (0, (aC 5 dus du)))), (11, .inr (.inl (0, he))), (12, .inr (.inl (0, ri))), (13, .inr (.inl (0, us))), (14, .inr (.inl (0, cm))), (15, .inr (.inl (0, lf))), (16, .inr (.inl (0, lkd))), (20, .inl (3, [.ref 21, .ref 22, .ref 23, .ref 24, .ref 25, .ref 26, .ref 27, .ref 28, .int pev, .int 1])), (21, .inr (.inl (0, pms))), (22, .inr (.inl (0, pmm))), (23, .inr (.inl (0, pmt))), (24, .inr (.inl (0, pst))), (25, .inr (.inl (0, pwa))), (26, .inr (.inl (0, prs))), (27, .inr (.inl (0, prr))), (28, .inr (.inl (0, pfa))), (156, .inl (7, [.ref lys, .int mis, .int shus, .int buss, .ref 157, .ref 158, .ref 159, .ref 160, .ref 161, .ref 162, .ref 163, .ref 164, .ref 165, .ref 166, .ref 167, .int lkss, .ref 168, .ref 169, .ref 172])), (157, .inr (.inl (0, rks))), (158, .inr (.inl (0, stas))), (159, .inr (.inl (0, phs))), (160, .inr (.inl (0, sps))), (161, .inr (.inl (0, ces))), (162, .inr (.inl (0, dus))), (163, .inr (.inl (0, hes))), (164, .inr (.inl (0, ris))), (165, .inr (.inl (0, uss))), (166, .inr (.inl (0, cms))), (167, .inr (.inl (0, lfs))), (168, .inr (.inl (0, lkds))), (172, .inl (3, [.ref 173, .ref 174, .ref 175, .ref 176, .ref 177, .ref 178, .ref 179, .ref 180, .int pevs, .int 1])), (173, .inr (.inl (0, pmss))), (174, .inr (.inl (0, pmms))), (175, .inr (.inl (0, pmts))), (176, .inr (.inl (0, psts))), (177, .inr (.inl (0, pwas))), (178, .inr (.inl (0, prss))), (179, .inr (.inl (0, prrs))), (180, .inr (.inl (0, pfas)))] h0 := K.mg K9 rfl rfl
  clear K9
  refine yb5s_k124 L (K.fi [4, 11, 12, 13, 156, 163, 164, 165] rfl rfl) (fun lv h9 L K9 => ?_)
  have K : KN h9 [(4, .inl (7, [.ref lys, .int mis, .int shus, .int buss, .ref 5, .ref 6, .ref 7, .ref 8, .ref 9, .ref 10, .ref 11, .ref 12, .ref 13, .ref 14, .ref 15, .int lkss, .ref 16, .ref 17, .ref 20])), (5, .inr (.inl (0, (aC 5 rks rk)))), (6, .inr (.inl (0, (aC 5 stas sta)))), (7, .inr (.inl (0, (aC 5 phs ph)))), (8, .inr (.inl (0, (aC 5 sps sp)))), (9, .inr (.inl (0, (aC 5 ces ce)))), (10, .inr (.inl (0, (aC 5 dus du)))), (11, .inr (.inl (0, (aC 5 hes he)))), (12, .inr (.inl (0, (aC 6 ris ri)))), (13, .inr (.inl (0, (aC 6 uss us)))), (14, .inr (.inl (0, cm))), (15, .inr (.inl (0, lf))), (16, .inr (.inl (0, lkd))), (20, .inl (3, [.ref 21, .ref 22, .ref 23, .ref 24, .ref 25, .ref 26, .ref 27, .ref 28, .int pev, .int 1])), (21, .inr (.inl (0, pms))), (22, .inr (.inl (0, pmm))), (23, .inr (.inl (0, pmt))), (24, .inr (.inl (0, pst))), (25, .inr (.inl (0, pwa))), (26, .inr (.inl (0, prs))), (27, .inr (.inl (0, prr))), (28, .inr (.inl (0, pfa))), (156, .inl (7, [.ref lys, .int mis, .int shus, .int buss, .ref 157, .ref 158, .ref 159, .ref 160, .ref 161, .ref 162, .ref 163, .ref 164, .ref 165, .ref 166, .ref 167, .int lkss, .ref 168, .ref 169, .ref 172])), (157, .inr (.inl (0, rks))), (158, .inr (.inl (0, stas))), (159, .inr (.inl (0, phs))), (160, .inr (.inl (0, sps))), (161, .inr (.inl (0, ces))), (162, .inr (.inl (0, dus))), (163, .inr (.inl (0, hes))), (164, .inr (.inl (0, ris))), (165, .inr (.inl (0, uss))), (166, .inr (.inl (0, cms))), (167, .inr (.inl (0, lfs))), (168, .inr (.inl (0, lkds))), (172, .inl (3, [.ref 173, .ref 174, .ref 175, .ref 176, .ref 177, .ref 178, .ref 179, .ref 180, .int pevs, .int 1])), (173, .inr (.inl (0, pmss))), (174, .inr (.inl (0, pmms))), (175, .inr (.inl (0, pmts))), (176, .inr (.inl (0, psts))), (177, .inr (.inl (0, pwas))), (178, .inr (.inl (0, prss))), (179, .inr (.inl (0, prrs))), (180, .inr (.inl (0, pfas)))] h0 := K.mg K9 rfl rfl
  clear K9
  refine yb5s_k168 L (K.fi [4, 14, 15, 16, 156, 166, 167, 168] rfl rfl) (fun lv h9 L K9 => ?_)
  have K : KN h9 [(4, .inl (7, [.ref lys, .int mis, .int shus, .int buss, .ref 5, .ref 6, .ref 7, .ref 8, .ref 9, .ref 10, .ref 11, .ref 12, .ref 13, .ref 14, .ref 15, .int lkss, .ref 16, .ref 17, .ref 20])), (5, .inr (.inl (0, (aC 5 rks rk)))), (6, .inr (.inl (0, (aC 5 stas sta)))), (7, .inr (.inl (0, (aC 5 phs ph)))), (8, .inr (.inl (0, (aC 5 sps sp)))), (9, .inr (.inl (0, (aC 5 ces ce)))), (10, .inr (.inl (0, (aC 5 dus du)))), (11, .inr (.inl (0, (aC 5 hes he)))), (12, .inr (.inl (0, (aC 6 ris ri)))), (13, .inr (.inl (0, (aC 6 uss us)))), (14, .inr (.inl (0, (aC (nI cm.length) cms cm)))), (15, .inr (.inl (0, (aC (nI lf.length) lfs lf)))), (16, .inr (.inl (0, (aC (nI lkd.length) lkds lkd)))), (20, .inl (3, [.ref 21, .ref 22, .ref 23, .ref 24, .ref 25, .ref 26, .ref 27, .ref 28, .int pev, .int 1])), (21, .inr (.inl (0, pms))), (22, .inr (.inl (0, pmm))), (23, .inr (.inl (0, pmt))), (24, .inr (.inl (0, pst))), (25, .inr (.inl (0, pwa))), (26, .inr (.inl (0, prs))), (27, .inr (.inl (0, prr))), (28, .inr (.inl (0, pfa))), (156, .inl (7, [.ref lys, .int mis, .int shus, .int buss, .ref 157, .ref 158, .ref 159, .ref 160, .ref 161, .ref 162, .ref 163, .ref 164, .ref 165, .ref 166, .ref 167, .int lkss, .ref 168, .ref 169, .ref 172])), (157, .inr (.inl (0, rks))), (158, .inr (.inl (0, stas))), (159, .inr (.inl (0, phs))), (160, .inr (.inl (0, sps))), (161, .inr (.inl (0, ces))), (162, .inr (.inl (0, dus))), (163, .inr (.inl (0, hes))), (164, .inr (.inl (0, ris))), (165, .inr (.inl (0, uss))), (166, .inr (.inl (0, cms))), (167, .inr (.inl (0, lfs))), (168, .inr (.inl (0, lkds))), (172, .inl (3, [.ref 173, .ref 174, .ref 175, .ref 176, .ref 177, .ref 178, .ref 179, .ref 180, .int pevs, .int 1])), (173, .inr (.inl (0, pmss))), (174, .inr (.inl (0, pmms))), (175, .inr (.inl (0, pmts))), (176, .inr (.inl (0, psts))), (177, .inr (.inl (0, pwas))), (178, .inr (.inl (0, prss))), (179, .inr (.inl (0, prrs))), (180, .inr (.inl (0, pfas)))] h0 := K.mg K9 rfl rfl
  clear K9
  refine j_V.ldL yb5s_M yb5s_222 rfl (i := 0) (kd := 2) (v := .ref 4) (pcJ := 223) rfl L rfl rfl rfl ?_
  refine j_V.getK yb5s_M yb5s_223 (ci := 7) (j := 18) rfl K rfl rfl ?_
  refine j_V.ldL yb5s_M yb5s_226 rfl (i := 1) (kd := 2) (v := .ref 156) (pcJ := 227) rfl L rfl rfl rfl ?_
  refine j_V.getK yb5s_M yb5s_227 (ci := 7) (j := 18) rfl K rfl rfl ?_
  refine j_V.cl yb5s_M yb5s_230 rfl (md := 3) (mj := 28) rfl (by decide) yb5p_M (As := [.ref 20, .ref 172]) (rest := []) (jk_spl3 (K.at rfl) rfl rfl rfl (Nat.le_of_ble_eq_true rfl) (Nat.le_of_ble_eq_true rfl)) (fun d => yb5p_ok (K.fi [20, 21, 22, 23, 24, 25, 26, 27, 28, 172, 173, 174, 175, 176, 177, 178, 179, 180] rfl rfl)) ?_
  rintro r h9 ⟨rfl, K9⟩
  have K : KN h9 [(4, .inl (7, [.ref lys, .int mis, .int shus, .int buss, .ref 5, .ref 6, .ref 7, .ref 8, .ref 9, .ref 10, .ref 11, .ref 12, .ref 13, .ref 14, .ref 15, .int lkss, .ref 16, .ref 17, .ref 20])), (5, .inr (.inl (0, (aC 5 rks rk)))), (6, .inr (.inl (0, (aC 5 stas sta)))), (7, .inr (.inl (0, (aC 5 phs ph)))), (8, .inr (.inl (0, (aC 5 sps sp)))), (9, .inr (.inl (0, (aC 5 ces ce)))), (10, .inr (.inl (0, (aC 5 dus du)))), (11, .inr (.inl (0, (aC 5 hes he)))), (12, .inr (.inl (0, (aC 6 ris ri)))), (13, .inr (.inl (0, (aC 6 uss us)))), (14, .inr (.inl (0, (aC (nI cm.length) cms cm)))), (15, .inr (.inl (0, (aC (nI lf.length) lfs lf)))), (16, .inr (.inl (0, (aC (nI lkd.length) lkds lkd)))), (20, .inl (3, [.ref 21, .ref 22, .ref 23, .ref 24, .ref 25, .ref 26, .ref 27, .ref 28, .int pevs, .int 1])), (21, .inr (.inl (0, (aC (nI pms.length) pmss pms)))), (22, .inr (.inl (0, (aC (nI pmm.length) pmms pmm)))), (23, .inr (.inl (0, (aC (nI pmt.length) pmts pmt)))), (24, .inr (.inl (0, (aC (nI pst.length) psts pst)))), (25, .inr (.inl (0, (aC (nI pwa.length) pwas pwa)))), (26, .inr (.inl (0, (aC (nI prs.length) prss prs)))), (27, .inr (.inl (0, (aC (nI prr.length) prrs prr)))), (28, .inr (.inl (0, (aC (nI pfa.length) pfas pfa)))), (156, .inl (7, [.ref lys, .int mis, .int shus, .int buss, .ref 157, .ref 158, .ref 159, .ref 160, .ref 161, .ref 162, .ref 163, .ref 164, .ref 165, .ref 166, .ref 167, .int lkss, .ref 168, .ref 169, .ref 172])), (157, .inr (.inl (0, rks))), (158, .inr (.inl (0, stas))), (159, .inr (.inl (0, phs))), (160, .inr (.inl (0, sps))), (161, .inr (.inl (0, ces))), (162, .inr (.inl (0, dus))), (163, .inr (.inl (0, hes))), (164, .inr (.inl (0, ris))), (165, .inr (.inl (0, uss))), (166, .inr (.inl (0, cms))), (167, .inr (.inl (0, lfs))), (168, .inr (.inl (0, lkds))), (172, .inl (3, [.ref 173, .ref 174, .ref 175, .ref 176, .ref 177, .ref 178, .ref 179, .ref 180, .int pevs, .int 1])), (173, .inr (.inl (0, pmss))), (174, .inr (.inl (0, pmms))), (175, .inr (.inl (0, pmts))), (176, .inr (.inl (0, psts))), (177, .inr (.inl (0, pwas))), (178, .inr (.inl (0, prss))), (179, .inr (.inl (0, prrs))), (180, .inr (.inl (0, pfas)))] h0 := K.mg K9 rfl rfl
  clear K9
  show j_V jP _ 61 233 lv [] h9 _
  exact j_V.ret yb5s_M yb5s_233 rfl rfl ⟨rfl, K⟩
set_option maxRecDepth 100000 in
theorem yb5m_M : j_meth jP 3 = some (yX0_takeBack, cX0_takeBack, 2, none, 1, false, 0) := rfl
set_option maxRecDepth 100000 in
theorem yb5m_0 : j_code jP 3 0 = some (.aload_n 0) := rfl
set_option maxRecDepth 100000 in
theorem yb5m_1 : j_code jP 3 1 = some (.aload_n 0) := rfl
set_option maxRecDepth 100000 in
theorem yb5m_2 : j_code jP 3 2 = some (.getfield 24) := rfl
set_option maxRecDepth 100000 in
theorem yb5m_5 : j_code jP 3 5 = some (.bipush 10) := rfl
set_option maxRecDepth 100000 in
theorem yb5m_7 : j_code jP 3 7 = some (.iadd) := rfl
set_option maxRecDepth 100000 in
theorem yb5m_8 : j_code jP 3 8 = some (.iconst 1) := rfl
set_option maxRecDepth 100000 in
theorem yb5m_9 : j_code jP 3 9 = some (.isub) := rfl
set_option maxRecDepth 100000 in
theorem yb5m_10 : j_code jP 3 10 = some (.bipush 10) := rfl
set_option maxRecDepth 100000 in
theorem yb5m_12 : j_code jP 3 12 = some (.irem) := rfl
set_option maxRecDepth 100000 in
theorem yb5m_13 : j_code jP 3 13 = some (.putfield 24) := rfl
set_option maxRecDepth 100000 in
theorem yb5m_16 : j_code jP 3 16 = some (.aload_n 0) := rfl
set_option maxRecDepth 100000 in
theorem yb5m_17 : j_code jP 3 17 = some (.dup) := rfl
set_option maxRecDepth 100000 in
theorem yb5m_18 : j_code jP 3 18 = some (.getfield 20) := rfl
set_option maxRecDepth 100000 in
theorem yb5m_21 : j_code jP 3 21 = some (.iconst 1) := rfl
set_option maxRecDepth 100000 in
theorem yb5m_22 : j_code jP 3 22 = some (.isub) := rfl
set_option maxRecDepth 100000 in
theorem yb5m_23 : j_code jP 3 23 = some (.putfield 20) := rfl
set_option maxRecDepth 100000 in
theorem yb5m_26 : j_code jP 3 26 = some (.aload_n 1) := rfl
set_option maxRecDepth 100000 in
theorem yb5m_27 : j_code jP 3 27 = some (.aload_n 0) := rfl
set_option maxRecDepth 100000 in
theorem yb5m_28 : j_code jP 3 28 = some (.getfield 11) := rfl
set_option maxRecDepth 100000 in
theorem yb5m_31 : j_code jP 3 31 = some (.aload_n 0) := rfl
set_option maxRecDepth 100000 in
theorem yb5m_32 : j_code jP 3 32 = some (.getfield 24) := rfl
set_option maxRecDepth 100000 in
theorem yb5m_35 : j_code jP 3 35 = some (.aaload) := rfl
set_option maxRecDepth 100000 in
theorem yb5m_36 : j_code jP 3 36 = some (.invokevirtual 27) := rfl
set_option maxRecDepth 100000 in
theorem yb5m_39 : j_code jP 3 39 = some (.return_) := rfl
set_option maxRecDepth 1000000 in
theorem yb5m_ok {ly : Value} {mi : Int32} {shu : Int32} {bus : Int32} {lks : Int32} {rk : List Int32} {sta : List Int32} {ph : List Int32} {sp : List Int32} {ce : List Int32} {du : List Int32} {he : List Int32} {ri : List Int32} {us : List Int32} {cm : List Int32} {lf : List Int32} {lkd : List Int32} {pev : Int32} {pms : List Int32} {pmm : List Int32} {pmt : List Int32} {pst : List Int32} {pwa : List Int32} {prs : List Int32} {prr : List Int32} {pfa : List Int32} {lys : Nat} {mis : Int32} {shus : Int32} {buss : Int32} {lkss : Int32} {rks : List Int32} {stas : List Int32} {phs : List Int32} {sps : List Int32} {ces : List Int32} {dus : List Int32} {hes : List Int32} {ris : List Int32} {uss : List Int32} {cms : List Int32} {lfs : List Int32} {lkds : List Int32} {pevs : Int32} {pmss : List Int32} {pmms : List Int32} {pmts : List Int32} {psts : List Int32} {pwas : List Int32} {prss : List Int32} {prrs : List Int32} {pfas : List Int32} {acco : Int32} {d : Nat} {h h0 : J_H} (K : KN h [(4, .inl (7, [ly, .int mi, .int shu, .int bus, .ref 5, .ref 6, .ref 7, .ref 8, .ref 9, .ref 10, .ref 11, .ref 12, .ref 13, .ref 14, .ref 15, .int lks, .ref 16, .ref 17, .ref 20])), (5, .inr (.inl (0, rk))), (6, .inr (.inl (0, sta))), (7, .inr (.inl (0, ph))), (8, .inr (.inl (0, sp))), (9, .inr (.inl (0, ce))), (10, .inr (.inl (0, du))), (11, .inr (.inl (0, he))), (12, .inr (.inl (0, ri))), (13, .inr (.inl (0, us))), (14, .inr (.inl (0, cm))), (15, .inr (.inl (0, lf))), (16, .inr (.inl (0, lkd))), (20, .inl (3, [.ref 21, .ref 22, .ref 23, .ref 24, .ref 25, .ref 26, .ref 27, .ref 28, .int pev, .int 1])), (21, .inr (.inl (0, pms))), (22, .inr (.inl (0, pmm))), (23, .inr (.inl (0, pmt))), (24, .inr (.inl (0, pst))), (25, .inr (.inl (0, pwa))), (26, .inr (.inl (0, prs))), (27, .inr (.inl (0, prr))), (28, .inr (.inl (0, pfa))), (29, .inl (0, [.ref 30, .int 6, .int acco])), (30, .inr (.inr (.inr [some 31, some 56, some 81, some 106, some 131, some 156, some 181, some 206, some 231, some 256]))), (156, .inl (7, [.ref lys, .int mis, .int shus, .int buss, .ref 157, .ref 158, .ref 159, .ref 160, .ref 161, .ref 162, .ref 163, .ref 164, .ref 165, .ref 166, .ref 167, .int lkss, .ref 168, .ref 169, .ref 172])), (157, .inr (.inl (0, rks))), (158, .inr (.inl (0, stas))), (159, .inr (.inl (0, phs))), (160, .inr (.inl (0, sps))), (161, .inr (.inl (0, ces))), (162, .inr (.inl (0, dus))), (163, .inr (.inl (0, hes))), (164, .inr (.inl (0, ris))), (165, .inr (.inl (0, uss))), (166, .inr (.inl (0, cms))), (167, .inr (.inl (0, lfs))), (168, .inr (.inl (0, lkds))), (172, .inl (3, [.ref 173, .ref 174, .ref 175, .ref 176, .ref 177, .ref 178, .ref 179, .ref 180, .int pevs, .int 1])), (173, .inr (.inl (0, pmss))), (174, .inr (.inl (0, pmms))), (175, .inr (.inl (0, pmts))), (176, .inr (.inl (0, psts))), (177, .inr (.inl (0, pwas))), (178, .inr (.inl (0, prss))), (179, .inr (.inl (0, prrs))), (180, .inr (.inl (0, pfas)))] h0) : j_V jP d 3 0 (lv_args 0 [.ref 29, .ref 4]) [] h (fun rv h' => rv = none ∧ KN h' [(4, .inl (7, [.ref lys, .int mis, .int shus, .int buss, .ref 5, .ref 6, .ref 7, .ref 8, .ref 9, .ref 10, .ref 11, .ref 12, .ref 13, .ref 14, .ref 15, .int lkss, .ref 16, .ref 17, .ref 20])), (5, .inr (.inl (0, (aC 5 rks rk)))), (6, .inr (.inl (0, (aC 5 stas sta)))), (7, .inr (.inl (0, (aC 5 phs ph)))), (8, .inr (.inl (0, (aC 5 sps sp)))), (9, .inr (.inl (0, (aC 5 ces ce)))), (10, .inr (.inl (0, (aC 5 dus du)))), (11, .inr (.inl (0, (aC 5 hes he)))), (12, .inr (.inl (0, (aC 6 ris ri)))), (13, .inr (.inl (0, (aC 6 uss us)))), (14, .inr (.inl (0, (aC (nI cm.length) cms cm)))), (15, .inr (.inl (0, (aC (nI lf.length) lfs lf)))), (16, .inr (.inl (0, (aC (nI lkd.length) lkds lkd)))), (20, .inl (3, [.ref 21, .ref 22, .ref 23, .ref 24, .ref 25, .ref 26, .ref 27, .ref 28, .int pevs, .int 1])), (21, .inr (.inl (0, (aC (nI pms.length) pmss pms)))), (22, .inr (.inl (0, (aC (nI pmm.length) pmms pmm)))), (23, .inr (.inl (0, (aC (nI pmt.length) pmts pmt)))), (24, .inr (.inl (0, (aC (nI pst.length) psts pst)))), (25, .inr (.inl (0, (aC (nI pwa.length) pwas pwa)))), (26, .inr (.inl (0, (aC (nI prs.length) prss prs)))), (27, .inr (.inl (0, (aC (nI prr.length) prrs prr)))), (28, .inr (.inl (0, (aC (nI pfa.length) pfas pfa)))), (29, .inl (0, [.ref 30, .int 5, .int (acco - 1)])), (30, .inr (.inr (.inr [some 31, some 56, some 81, some 106, some 131, some 156, some 181, some 206, some 231, some 256]))), (156, .inl (7, [.ref lys, .int mis, .int shus, .int buss, .ref 157, .ref 158, .ref 159, .ref 160, .ref 161, .ref 162, .ref 163, .ref 164, .ref 165, .ref 166, .ref 167, .int lkss, .ref 168, .ref 169, .ref 172])), (157, .inr (.inl (0, rks))), (158, .inr (.inl (0, stas))), (159, .inr (.inl (0, phs))), (160, .inr (.inl (0, sps))), (161, .inr (.inl (0, ces))), (162, .inr (.inl (0, dus))), (163, .inr (.inl (0, hes))), (164, .inr (.inl (0, ris))), (165, .inr (.inl (0, uss))), (166, .inr (.inl (0, cms))), (167, .inr (.inl (0, lfs))), (168, .inr (.inl (0, lkds))), (172, .inl (3, [.ref 173, .ref 174, .ref 175, .ref 176, .ref 177, .ref 178, .ref 179, .ref 180, .int pevs, .int 1])), (173, .inr (.inl (0, pmss))), (174, .inr (.inl (0, pmms))), (175, .inr (.inl (0, pmts))), (176, .inr (.inl (0, psts))), (177, .inr (.inl (0, pwas))), (178, .inr (.inl (0, prss))), (179, .inr (.inl (0, prrs))), (180, .inr (.inl (0, pfas)))] h0) := by
  show j_V jP d 3 0 [(0, .ref 29), (1, .ref 4)] [] h _
  obtain ⟨lv, elv, L⟩ : ∃ lv, lv = [(0, .ref 29), (1, .ref 4)] ∧ LK lv [(0, .ref 29), (1, .ref 4)] := ⟨_, rfl, LK.rf⟩
  rw [← elv]
  clear elv
  refine j_V.ldL yb5m_M yb5m_0 rfl (i := 0) (kd := 2) (v := .ref 29) (pcJ := 1) rfl L rfl rfl rfl ?_
  refine j_V.ldL yb5m_M yb5m_1 rfl (i := 0) (kd := 2) (v := .ref 29) (pcJ := 2) rfl L rfl rfl rfl ?_
  refine j_V.getK yb5m_M yb5m_2 (ci := 0) (j := 1) rfl K rfl rfl ?_
  refine j_V.one yb5m_M yb5m_5 (by decide) (pcJ := 7) (stJ := [.int 10, .int 6, .ref 29]) rfl ?_
  refine j_V.one yb5m_M yb5m_7 (by decide) (pcJ := 8) (stJ := [.int 16, .ref 29]) rfl ?_
  refine j_V.one yb5m_M yb5m_8 (by decide) (pcJ := 9) (stJ := [.int 1, .int 16, .ref 29]) rfl ?_
  refine j_V.one yb5m_M yb5m_9 (by decide) (pcJ := 10) (stJ := [.int 15, .ref 29]) rfl ?_
  refine j_V.one yb5m_M yb5m_10 (by decide) (pcJ := 12) (stJ := [.int 10, .int 15, .ref 29]) rfl ?_
  refine j_V.one yb5m_M yb5m_12 (by decide) (pcJ := 13) (stJ := [.int 5, .ref 29]) rfl ?_
  refine j_V.putK yb5m_M yb5m_13 (ci := 0) (j := 1) (k' := [(4, .inl (7, [ly, .int mi, .int shu, .int bus, .ref 5, .ref 6, .ref 7, .ref 8, .ref 9, .ref 10, .ref 11, .ref 12, .ref 13, .ref 14, .ref 15, .int lks, .ref 16, .ref 17, .ref 20])), (5, .inr (.inl (0, rk))), (6, .inr (.inl (0, sta))), (7, .inr (.inl (0, ph))), (8, .inr (.inl (0, sp))), (9, .inr (.inl (0, ce))), (10, .inr (.inl (0, du))), (11, .inr (.inl (0, he))), (12, .inr (.inl (0, ri))), (13, .inr (.inl (0, us))), (14, .inr (.inl (0, cm))), (15, .inr (.inl (0, lf))), (16, .inr (.inl (0, lkd))), (20, .inl (3, [.ref 21, .ref 22, .ref 23, .ref 24, .ref 25, .ref 26, .ref 27, .ref 28, .int pev, .int 1])), (21, .inr (.inl (0, pms))), (22, .inr (.inl (0, pmm))), (23, .inr (.inl (0, pmt))), (24, .inr (.inl (0, pst))), (25, .inr (.inl (0, pwa))), (26, .inr (.inl (0, prs))), (27, .inr (.inl (0, prr))), (28, .inr (.inl (0, pfa))), (29, .inl (0, [.ref 30, .int 5, .int acco])), (30, .inr (.inr (.inr [some 31, some 56, some 81, some 106, some 131, some 156, some 181, some 206, some 231, some 256]))), (156, .inl (7, [.ref lys, .int mis, .int shus, .int buss, .ref 157, .ref 158, .ref 159, .ref 160, .ref 161, .ref 162, .ref 163, .ref 164, .ref 165, .ref 166, .ref 167, .int lkss, .ref 168, .ref 169, .ref 172])), (157, .inr (.inl (0, rks))), (158, .inr (.inl (0, stas))), (159, .inr (.inl (0, phs))), (160, .inr (.inl (0, sps))), (161, .inr (.inl (0, ces))), (162, .inr (.inl (0, dus))), (163, .inr (.inl (0, hes))), (164, .inr (.inl (0, ris))), (165, .inr (.inl (0, uss))), (166, .inr (.inl (0, cms))), (167, .inr (.inl (0, lfs))), (168, .inr (.inl (0, lkds))), (172, .inl (3, [.ref 173, .ref 174, .ref 175, .ref 176, .ref 177, .ref 178, .ref 179, .ref 180, .int pevs, .int 1])), (173, .inr (.inl (0, pmss))), (174, .inr (.inl (0, pmms))), (175, .inr (.inl (0, pmts))), (176, .inr (.inl (0, psts))), (177, .inr (.inl (0, pwas))), (178, .inr (.inl (0, prss))), (179, .inr (.inl (0, prrs))), (180, .inr (.inl (0, pfas)))]) rfl K rfl (Nat.le_of_ble_eq_true rfl) rfl (Or.inl rfl) rfl rfl (fun h K => ?_)
  refine j_V.ldL yb5m_M yb5m_16 rfl (i := 0) (kd := 2) (v := .ref 29) (pcJ := 17) rfl L rfl rfl rfl ?_
  refine j_V.one yb5m_M yb5m_17 (by decide) (pcJ := 18) (stJ := [.ref 29, .ref 29]) rfl ?_
  refine j_V.getK yb5m_M yb5m_18 (ci := 0) (j := 2) rfl K rfl rfl ?_
  refine j_V.one yb5m_M yb5m_21 (by decide) (pcJ := 22) (stJ := [.int 1, .int acco, .ref 29]) rfl ?_
  refine j_V.one yb5m_M yb5m_22 (by decide) (pcJ := 23) (stJ := [.int (acco - 1), .ref 29]) rfl ?_
  refine j_V.putK yb5m_M yb5m_23 (ci := 0) (j := 2) (k' := [(4, .inl (7, [ly, .int mi, .int shu, .int bus, .ref 5, .ref 6, .ref 7, .ref 8, .ref 9, .ref 10, .ref 11, .ref 12, .ref 13, .ref 14, .ref 15, .int lks, .ref 16, .ref 17, .ref 20])), (5, .inr (.inl (0, rk))), (6, .inr (.inl (0, sta))), (7, .inr (.inl (0, ph))), (8, .inr (.inl (0, sp))), (9, .inr (.inl (0, ce))), (10, .inr (.inl (0, du))), (11, .inr (.inl (0, he))), (12, .inr (.inl (0, ri))), (13, .inr (.inl (0, us))), (14, .inr (.inl (0, cm))), (15, .inr (.inl (0, lf))), (16, .inr (.inl (0, lkd))), (20, .inl (3, [.ref 21, .ref 22, .ref 23, .ref 24, .ref 25, .ref 26, .ref 27, .ref 28, .int pev, .int 1])), (21, .inr (.inl (0, pms))), (22, .inr (.inl (0, pmm))), (23, .inr (.inl (0, pmt))), (24, .inr (.inl (0, pst))), (25, .inr (.inl (0, pwa))), (26, .inr (.inl (0, prs))), (27, .inr (.inl (0, prr))), (28, .inr (.inl (0, pfa))), (29, .inl (0, [.ref 30, .int 5, .int (acco - 1)])), (30, .inr (.inr (.inr [some 31, some 56, some 81, some 106, some 131, some 156, some 181, some 206, some 231, some 256]))), (156, .inl (7, [.ref lys, .int mis, .int shus, .int buss, .ref 157, .ref 158, .ref 159, .ref 160, .ref 161, .ref 162, .ref 163, .ref 164, .ref 165, .ref 166, .ref 167, .int lkss, .ref 168, .ref 169, .ref 172])), (157, .inr (.inl (0, rks))), (158, .inr (.inl (0, stas))), (159, .inr (.inl (0, phs))), (160, .inr (.inl (0, sps))), (161, .inr (.inl (0, ces))), (162, .inr (.inl (0, dus))), (163, .inr (.inl (0, hes))), (164, .inr (.inl (0, ris))), (165, .inr (.inl (0, uss))), (166, .inr (.inl (0, cms))), (167, .inr (.inl (0, lfs))), (168, .inr (.inl (0, lkds))), (172, .inl (3, [.ref 173, .ref 174, .ref 175, .ref 176, .ref 177, .ref 178, .ref 179, .ref 180, .int pevs, .int 1])), (173, .inr (.inl (0, pmss))), (174, .inr (.inl (0, pmms))), (175, .inr (.inl (0, pmts))), (176, .inr (.inl (0, psts))), (177, .inr (.inl (0, pwas))), (178, .inr (.inl (0, prss))), (179, .inr (.inl (0, prrs))), (180, .inr (.inl (0, pfas)))]) rfl K rfl (Nat.le_of_ble_eq_true rfl) rfl (Or.inl rfl) rfl rfl (fun h K => ?_)
  refine j_V.ldL yb5m_M yb5m_26 rfl (i := 1) (kd := 2) (v := .ref 4) (pcJ := 27) rfl L rfl rfl rfl ?_
  refine j_V.ldL yb5m_M yb5m_27 rfl (i := 0) (kd := 2) (v := .ref 29) (pcJ := 28) rfl L rfl rfl rfl ?_
  refine j_V.getK yb5m_M yb5m_28 (ci := 0) (j := 0) rfl K rfl rfl ?_
  refine j_V.ldL yb5m_M yb5m_31 rfl (i := 0) (kd := 2) (v := .ref 29) (pcJ := 32) rfl L rfl rfl rfl ?_
  refine j_V.getK yb5m_M yb5m_32 (ci := 0) (j := 1) rfl K rfl rfl ?_
  refine j_V.aaA yb5m_M yb5m_35 K rfl (i := 5) (v := 156) rfl rfl ?_
  refine j_V.cl yb5m_M yb5m_36 rfl (md := 3) (mj := 61) rfl (by decide) yb5s_M (As := [.ref 4, .ref 156]) (rest := []) (jk_spl3 (K.at rfl) rfl rfl rfl (Nat.le_of_ble_eq_true rfl) (Nat.le_of_ble_eq_true rfl)) (fun d => yb5s_ok (K.fi [4, 5, 6, 7, 8, 9, 10, 11, 12, 13, 14, 15, 16, 20, 21, 22, 23, 24, 25, 26, 27, 28, 156, 157, 158, 159, 160, 161, 162, 163, 164, 165, 166, 167, 168, 172, 173, 174, 175, 176, 177, 178, 179, 180] rfl rfl)) ?_
  rintro r h9 ⟨rfl, K9⟩
  have K : KN h9 [(4, .inl (7, [.ref lys, .int mis, .int shus, .int buss, .ref 5, .ref 6, .ref 7, .ref 8, .ref 9, .ref 10, .ref 11, .ref 12, .ref 13, .ref 14, .ref 15, .int lkss, .ref 16, .ref 17, .ref 20])), (5, .inr (.inl (0, (aC 5 rks rk)))), (6, .inr (.inl (0, (aC 5 stas sta)))), (7, .inr (.inl (0, (aC 5 phs ph)))), (8, .inr (.inl (0, (aC 5 sps sp)))), (9, .inr (.inl (0, (aC 5 ces ce)))), (10, .inr (.inl (0, (aC 5 dus du)))), (11, .inr (.inl (0, (aC 5 hes he)))), (12, .inr (.inl (0, (aC 6 ris ri)))), (13, .inr (.inl (0, (aC 6 uss us)))), (14, .inr (.inl (0, (aC (nI cm.length) cms cm)))), (15, .inr (.inl (0, (aC (nI lf.length) lfs lf)))), (16, .inr (.inl (0, (aC (nI lkd.length) lkds lkd)))), (20, .inl (3, [.ref 21, .ref 22, .ref 23, .ref 24, .ref 25, .ref 26, .ref 27, .ref 28, .int pevs, .int 1])), (21, .inr (.inl (0, (aC (nI pms.length) pmss pms)))), (22, .inr (.inl (0, (aC (nI pmm.length) pmms pmm)))), (23, .inr (.inl (0, (aC (nI pmt.length) pmts pmt)))), (24, .inr (.inl (0, (aC (nI pst.length) psts pst)))), (25, .inr (.inl (0, (aC (nI pwa.length) pwas pwa)))), (26, .inr (.inl (0, (aC (nI prs.length) prss prs)))), (27, .inr (.inl (0, (aC (nI prr.length) prrs prr)))), (28, .inr (.inl (0, (aC (nI pfa.length) pfas pfa)))), (29, .inl (0, [.ref 30, .int 5, .int (acco - 1)])), (30, .inr (.inr (.inr [some 31, some 56, some 81, some 106, some 131, some 156, some 181, some 206, some 231, some 256]))), (156, .inl (7, [.ref lys, .int mis, .int shus, .int buss, .ref 157, .ref 158, .ref 159, .ref 160, .ref 161, .ref 162, .ref 163, .ref 164, .ref 165, .ref 166, .ref 167, .int lkss, .ref 168, .ref 169, .ref 172])), (157, .inr (.inl (0, rks))), (158, .inr (.inl (0, stas))), (159, .inr (.inl (0, phs))), (160, .inr (.inl (0, sps))), (161, .inr (.inl (0, ces))), (162, .inr (.inl (0, dus))), (163, .inr (.inl (0, hes))), (164, .inr (.inl (0, ris))), (165, .inr (.inl (0, uss))), (166, .inr (.inl (0, cms))), (167, .inr (.inl (0, lfs))), (168, .inr (.inl (0, lkds))), (172, .inl (3, [.ref 173, .ref 174, .ref 175, .ref 176, .ref 177, .ref 178, .ref 179, .ref 180, .int pevs, .int 1])), (173, .inr (.inl (0, pmss))), (174, .inr (.inl (0, pmms))), (175, .inr (.inl (0, pmts))), (176, .inr (.inl (0, psts))), (177, .inr (.inl (0, pwas))), (178, .inr (.inl (0, prss))), (179, .inr (.inl (0, prrs))), (180, .inr (.inl (0, pfas)))] h0 := K.mg K9 rfl rfl
  clear K9
  show j_V jP _ 3 39 lv [] h9 _
  exact j_V.ret yb5m_M yb5m_39 rfl rfl ⟨rfl, K⟩
set_option maxRecDepth 100000 in
theorem yb6p_M : j_meth jP 28 = some (yX3_copyFrom, cX3_copyFrom, 2, none, 1, false, 3) := rfl
set_option maxRecDepth 100000 in
theorem yb6p_0 : j_code jP 28 0 = some (.aload_n 0) := rfl
set_option maxRecDepth 100000 in
theorem yb6p_1 : j_code jP 28 1 = some (.getfield 36) := rfl
set_option maxRecDepth 100000 in
theorem yb6p_4 : j_code jP 28 4 = some (.ifCond .ne 4) := rfl
set_option maxRecDepth 100000 in
theorem yb6p_7 : j_code jP 28 7 = some (.return_) := rfl
set_option maxRecDepth 100000 in
theorem yb6p_8 : j_code jP 28 8 = some (.aload_n 1) := rfl
set_option maxRecDepth 100000 in
theorem yb6p_9 : j_code jP 28 9 = some (.getfield 9) := rfl
set_option maxRecDepth 100000 in
theorem yb6p_12 : j_code jP 28 12 = some (.iconst 0) := rfl
set_option maxRecDepth 100000 in
theorem yb6p_13 : j_code jP 28 13 = some (.aload_n 0) := rfl
set_option maxRecDepth 100000 in
theorem yb6p_14 : j_code jP 28 14 = some (.getfield 9) := rfl
set_option maxRecDepth 100000 in
theorem yb6p_17 : j_code jP 28 17 = some (.iconst 0) := rfl
set_option maxRecDepth 100000 in
theorem yb6p_18 : j_code jP 28 18 = some (.aload_n 0) := rfl
set_option maxRecDepth 100000 in
theorem yb6p_19 : j_code jP 28 19 = some (.getfield 9) := rfl
set_option maxRecDepth 100000 in
theorem yb6p_22 : j_code jP 28 22 = some (.arraylength) := rfl
set_option maxRecDepth 100000 in
theorem yb6p_23 : j_code jP 28 23 = some (.invokestatic 50) := rfl
set_option maxRecDepth 100000 in
theorem yb6p_26 : j_code jP 28 26 = some (.aload_n 1) := rfl
set_option maxRecDepth 100000 in
theorem yb6p_27 : j_code jP 28 27 = some (.getfield 15) := rfl
set_option maxRecDepth 100000 in
theorem yb6p_30 : j_code jP 28 30 = some (.iconst 0) := rfl
set_option maxRecDepth 100000 in
theorem yb6p_31 : j_code jP 28 31 = some (.aload_n 0) := rfl
set_option maxRecDepth 100000 in
theorem yb6p_32 : j_code jP 28 32 = some (.getfield 15) := rfl
set_option maxRecDepth 100000 in
theorem yb6p_35 : j_code jP 28 35 = some (.iconst 0) := rfl
set_option maxRecDepth 100000 in
theorem yb6p_36 : j_code jP 28 36 = some (.aload_n 0) := rfl
set_option maxRecDepth 100000 in
theorem yb6p_37 : j_code jP 28 37 = some (.getfield 15) := rfl
set_option maxRecDepth 100000 in
theorem yb6p_40 : j_code jP 28 40 = some (.arraylength) := rfl
set_option maxRecDepth 100000 in
theorem yb6p_41 : j_code jP 28 41 = some (.invokestatic 50) := rfl
set_option maxRecDepth 100000 in
theorem yb6p_44 : j_code jP 28 44 = some (.aload_n 1) := rfl
set_option maxRecDepth 100000 in
theorem yb6p_45 : j_code jP 28 45 = some (.getfield 18) := rfl
set_option maxRecDepth 100000 in
theorem yb6p_48 : j_code jP 28 48 = some (.iconst 0) := rfl
set_option maxRecDepth 100000 in
theorem yb6p_49 : j_code jP 28 49 = some (.aload_n 0) := rfl
set_option maxRecDepth 100000 in
theorem yb6p_50 : j_code jP 28 50 = some (.getfield 18) := rfl
set_option maxRecDepth 100000 in
theorem yb6p_53 : j_code jP 28 53 = some (.iconst 0) := rfl
set_option maxRecDepth 100000 in
theorem yb6p_54 : j_code jP 28 54 = some (.aload_n 0) := rfl
set_option maxRecDepth 100000 in
theorem yb6p_55 : j_code jP 28 55 = some (.getfield 18) := rfl
set_option maxRecDepth 100000 in
theorem yb6p_58 : j_code jP 28 58 = some (.arraylength) := rfl
set_option maxRecDepth 100000 in
theorem yb6p_59 : j_code jP 28 59 = some (.invokestatic 50) := rfl
set_option maxRecDepth 100000 in
theorem yb6p_62 : j_code jP 28 62 = some (.aload_n 1) := rfl
set_option maxRecDepth 100000 in
theorem yb6p_63 : j_code jP 28 63 = some (.getfield 21) := rfl
set_option maxRecDepth 100000 in
theorem yb6p_66 : j_code jP 28 66 = some (.iconst 0) := rfl
set_option maxRecDepth 100000 in
theorem yb6p_67 : j_code jP 28 67 = some (.aload_n 0) := rfl
set_option maxRecDepth 100000 in
theorem yb6p_68 : j_code jP 28 68 = some (.getfield 21) := rfl
set_option maxRecDepth 100000 in
theorem yb6p_71 : j_code jP 28 71 = some (.iconst 0) := rfl
set_option maxRecDepth 100000 in
theorem yb6p_72 : j_code jP 28 72 = some (.aload_n 0) := rfl
set_option maxRecDepth 100000 in
theorem yb6p_73 : j_code jP 28 73 = some (.getfield 21) := rfl
set_option maxRecDepth 100000 in
theorem yb6p_76 : j_code jP 28 76 = some (.arraylength) := rfl
set_option maxRecDepth 100000 in
theorem yb6p_77 : j_code jP 28 77 = some (.invokestatic 50) := rfl
set_option maxRecDepth 100000 in
theorem yb6p_80 : j_code jP 28 80 = some (.aload_n 1) := rfl
set_option maxRecDepth 100000 in
theorem yb6p_81 : j_code jP 28 81 = some (.getfield 24) := rfl
set_option maxRecDepth 100000 in
theorem yb6p_84 : j_code jP 28 84 = some (.iconst 0) := rfl
set_option maxRecDepth 100000 in
theorem yb6p_85 : j_code jP 28 85 = some (.aload_n 0) := rfl
set_option maxRecDepth 100000 in
theorem yb6p_86 : j_code jP 28 86 = some (.getfield 24) := rfl
set_option maxRecDepth 100000 in
theorem yb6p_89 : j_code jP 28 89 = some (.iconst 0) := rfl
set_option maxRecDepth 100000 in
theorem yb6p_90 : j_code jP 28 90 = some (.aload_n 0) := rfl
set_option maxRecDepth 100000 in
theorem yb6p_91 : j_code jP 28 91 = some (.getfield 24) := rfl
set_option maxRecDepth 100000 in
theorem yb6p_94 : j_code jP 28 94 = some (.arraylength) := rfl
set_option maxRecDepth 100000 in
theorem yb6p_95 : j_code jP 28 95 = some (.invokestatic 50) := rfl
set_option maxRecDepth 100000 in
theorem yb6p_98 : j_code jP 28 98 = some (.aload_n 1) := rfl
set_option maxRecDepth 100000 in
theorem yb6p_99 : j_code jP 28 99 = some (.getfield 27) := rfl
set_option maxRecDepth 100000 in
theorem yb6p_102 : j_code jP 28 102 = some (.iconst 0) := rfl
set_option maxRecDepth 100000 in
theorem yb6p_103 : j_code jP 28 103 = some (.aload_n 0) := rfl
set_option maxRecDepth 100000 in
theorem yb6p_104 : j_code jP 28 104 = some (.getfield 27) := rfl
set_option maxRecDepth 100000 in
theorem yb6p_107 : j_code jP 28 107 = some (.iconst 0) := rfl
set_option maxRecDepth 100000 in
theorem yb6p_108 : j_code jP 28 108 = some (.aload_n 0) := rfl
set_option maxRecDepth 100000 in
theorem yb6p_109 : j_code jP 28 109 = some (.getfield 27) := rfl
set_option maxRecDepth 100000 in
theorem yb6p_112 : j_code jP 28 112 = some (.arraylength) := rfl
set_option maxRecDepth 100000 in
theorem yb6p_113 : j_code jP 28 113 = some (.invokestatic 50) := rfl
set_option maxRecDepth 100000 in
theorem yb6p_116 : j_code jP 28 116 = some (.aload_n 1) := rfl
set_option maxRecDepth 100000 in
theorem yb6p_117 : j_code jP 28 117 = some (.getfield 30) := rfl
set_option maxRecDepth 100000 in
theorem yb6p_120 : j_code jP 28 120 = some (.iconst 0) := rfl
set_option maxRecDepth 100000 in
theorem yb6p_121 : j_code jP 28 121 = some (.aload_n 0) := rfl
set_option maxRecDepth 100000 in
theorem yb6p_122 : j_code jP 28 122 = some (.getfield 30) := rfl
set_option maxRecDepth 100000 in
theorem yb6p_125 : j_code jP 28 125 = some (.iconst 0) := rfl
set_option maxRecDepth 100000 in
theorem yb6p_126 : j_code jP 28 126 = some (.aload_n 0) := rfl
set_option maxRecDepth 100000 in
theorem yb6p_127 : j_code jP 28 127 = some (.getfield 30) := rfl
set_option maxRecDepth 100000 in
theorem yb6p_130 : j_code jP 28 130 = some (.arraylength) := rfl
set_option maxRecDepth 100000 in
theorem yb6p_131 : j_code jP 28 131 = some (.invokestatic 50) := rfl
set_option maxRecDepth 100000 in
theorem yb6p_134 : j_code jP 28 134 = some (.aload_n 1) := rfl
set_option maxRecDepth 100000 in
theorem yb6p_135 : j_code jP 28 135 = some (.getfield 33) := rfl
set_option maxRecDepth 100000 in
theorem yb6p_138 : j_code jP 28 138 = some (.iconst 0) := rfl
set_option maxRecDepth 100000 in
theorem yb6p_139 : j_code jP 28 139 = some (.aload_n 0) := rfl
set_option maxRecDepth 100000 in
theorem yb6p_140 : j_code jP 28 140 = some (.getfield 33) := rfl
set_option maxRecDepth 100000 in
theorem yb6p_143 : j_code jP 28 143 = some (.iconst 0) := rfl
set_option maxRecDepth 100000 in
theorem yb6p_144 : j_code jP 28 144 = some (.aload_n 0) := rfl
set_option maxRecDepth 100000 in
theorem yb6p_145 : j_code jP 28 145 = some (.getfield 33) := rfl
set_option maxRecDepth 100000 in
theorem yb6p_148 : j_code jP 28 148 = some (.arraylength) := rfl
set_option maxRecDepth 100000 in
theorem yb6p_149 : j_code jP 28 149 = some (.invokestatic 50) := rfl
set_option maxRecDepth 100000 in
theorem yb6p_152 : j_code jP 28 152 = some (.aload_n 0) := rfl
set_option maxRecDepth 100000 in
theorem yb6p_153 : j_code jP 28 153 = some (.aload_n 1) := rfl
set_option maxRecDepth 100000 in
theorem yb6p_154 : j_code jP 28 154 = some (.getfield 46) := rfl
set_option maxRecDepth 100000 in
theorem yb6p_157 : j_code jP 28 157 = some (.putfield 46) := rfl
set_option maxRecDepth 100000 in
theorem yb6p_160 : j_code jP 28 160 = some (.return_) := rfl
set_option maxRecDepth 1000000 in
theorem yb6p_k8 {pev : Int32} {pms : List Int32} {pmm : List Int32} {pevs : Int32} {pmss : List Int32} {pmms : List Int32} {d : Nat} {lv : J_L} {h h0 : J_H} {Q : Option Value → J_H → Prop} (L : LK lv [(0, .ref 20), (1, .ref 197)]) (K : KN h [(20, .inl (3, [.ref 21, .ref 22, .ref 23, .ref 24, .ref 25, .ref 26, .ref 27, .ref 28, .int pev, .int 1])), (21, .inr (.inl (0, pms))), (22, .inr (.inl (0, pmm))), (197, .inl (3, [.ref 198, .ref 199, .ref 200, .ref 201, .ref 202, .ref 203, .ref 204, .ref 205, .int pevs, .int 1])), (198, .inr (.inl (0, pmss))), (199, .inr (.inl (0, pmms)))] h0) (kk : ∀ lv h, LK lv [(0, .ref 20), (1, .ref 197)] → KN h [(20, .inl (3, [.ref 21, .ref 22, .ref 23, .ref 24, .ref 25, .ref 26, .ref 27, .ref 28, .int pev, .int 1])), (21, .inr (.inl (0, (aC (nI pms.length) pmss pms)))), (22, .inr (.inl (0, (aC (nI pmm.length) pmms pmm)))), (197, .inl (3, [.ref 198, .ref 199, .ref 200, .ref 201, .ref 202, .ref 203, .ref 204, .ref 205, .int pevs, .int 1])), (198, .inr (.inl (0, pmss))), (199, .inr (.inl (0, pmms)))] h0 → j_V jP d 28 44 lv [] h Q) : j_V jP d 28 8 lv [] h Q := by
  refine j_V.ldL yb6p_M yb6p_8 rfl (i := 1) (kd := 2) (v := .ref 197) (pcJ := 9) rfl L rfl rfl rfl ?_
  refine j_V.getK yb6p_M yb6p_9 (ci := 3) (j := 0) rfl K rfl rfl ?_
  refine j_V.one yb6p_M yb6p_12 (by decide) (pcJ := 13) (stJ := [.int 0, .ref 198]) rfl ?_
  refine j_V.ldL yb6p_M yb6p_13 rfl (i := 0) (kd := 2) (v := .ref 20) (pcJ := 14) rfl L rfl rfl rfl ?_
  refine j_V.getK yb6p_M yb6p_14 (ci := 3) (j := 0) rfl K rfl rfl ?_
  refine j_V.one yb6p_M yb6p_17 (by decide) (pcJ := 18) (stJ := [.int 0, .ref 21, .int 0, .ref 198]) rfl ?_
  refine j_V.ldL yb6p_M yb6p_18 rfl (i := 0) (kd := 2) (v := .ref 20) (pcJ := 19) rfl L rfl rfl rfl ?_
  refine j_V.getK yb6p_M yb6p_19 (ci := 3) (j := 0) rfl K rfl rfl ?_
  refine j_V.alnA yb6p_M yb6p_22 K rfl ?_
  refine j_V.acp yb6p_M yb6p_23 rfl rfl K rfl rfl rfl (fun h K => ?_)
  refine j_V.ldL yb6p_M yb6p_26 rfl (i := 1) (kd := 2) (v := .ref 197) (pcJ := 27) rfl L rfl rfl rfl ?_
  refine j_V.getK yb6p_M yb6p_27 (ci := 3) (j := 1) rfl K rfl rfl ?_
  refine j_V.one yb6p_M yb6p_30 (by decide) (pcJ := 31) (stJ := [.int 0, .ref 199]) rfl ?_
  refine j_V.ldL yb6p_M yb6p_31 rfl (i := 0) (kd := 2) (v := .ref 20) (pcJ := 32) rfl L rfl rfl rfl ?_
  refine j_V.getK yb6p_M yb6p_32 (ci := 3) (j := 1) rfl K rfl rfl ?_
  refine j_V.one yb6p_M yb6p_35 (by decide) (pcJ := 36) (stJ := [.int 0, .ref 22, .int 0, .ref 199]) rfl ?_
  refine j_V.ldL yb6p_M yb6p_36 rfl (i := 0) (kd := 2) (v := .ref 20) (pcJ := 37) rfl L rfl rfl rfl ?_
  refine j_V.getK yb6p_M yb6p_37 (ci := 3) (j := 1) rfl K rfl rfl ?_
  refine j_V.alnA yb6p_M yb6p_40 K rfl ?_
  refine j_V.acp yb6p_M yb6p_41 rfl rfl K rfl rfl rfl (fun h K => ?_)
  exact kk _ _ L K
set_option maxRecDepth 1000000 in
theorem yb6p_k44 {pev : Int32} {pmt : List Int32} {pst : List Int32} {pevs : Int32} {pmts : List Int32} {psts : List Int32} {d : Nat} {lv : J_L} {h h0 : J_H} {Q : Option Value → J_H → Prop} (L : LK lv [(0, .ref 20), (1, .ref 197)]) (K : KN h [(20, .inl (3, [.ref 21, .ref 22, .ref 23, .ref 24, .ref 25, .ref 26, .ref 27, .ref 28, .int pev, .int 1])), (23, .inr (.inl (0, pmt))), (24, .inr (.inl (0, pst))), (197, .inl (3, [.ref 198, .ref 199, .ref 200, .ref 201, .ref 202, .ref 203, .ref 204, .ref 205, .int pevs, .int 1])), (200, .inr (.inl (0, pmts))), (201, .inr (.inl (0, psts)))] h0) (kk : ∀ lv h, LK lv [(0, .ref 20), (1, .ref 197)] → KN h [(20, .inl (3, [.ref 21, .ref 22, .ref 23, .ref 24, .ref 25, .ref 26, .ref 27, .ref 28, .int pev, .int 1])), (23, .inr (.inl (0, (aC (nI pmt.length) pmts pmt)))), (24, .inr (.inl (0, (aC (nI pst.length) psts pst)))), (197, .inl (3, [.ref 198, .ref 199, .ref 200, .ref 201, .ref 202, .ref 203, .ref 204, .ref 205, .int pevs, .int 1])), (200, .inr (.inl (0, pmts))), (201, .inr (.inl (0, psts)))] h0 → j_V jP d 28 80 lv [] h Q) : j_V jP d 28 44 lv [] h Q := by
  refine j_V.ldL yb6p_M yb6p_44 rfl (i := 1) (kd := 2) (v := .ref 197) (pcJ := 45) rfl L rfl rfl rfl ?_
  refine j_V.getK yb6p_M yb6p_45 (ci := 3) (j := 2) rfl K rfl rfl ?_
  refine j_V.one yb6p_M yb6p_48 (by decide) (pcJ := 49) (stJ := [.int 0, .ref 200]) rfl ?_
  refine j_V.ldL yb6p_M yb6p_49 rfl (i := 0) (kd := 2) (v := .ref 20) (pcJ := 50) rfl L rfl rfl rfl ?_
  refine j_V.getK yb6p_M yb6p_50 (ci := 3) (j := 2) rfl K rfl rfl ?_
  refine j_V.one yb6p_M yb6p_53 (by decide) (pcJ := 54) (stJ := [.int 0, .ref 23, .int 0, .ref 200]) rfl ?_
  refine j_V.ldL yb6p_M yb6p_54 rfl (i := 0) (kd := 2) (v := .ref 20) (pcJ := 55) rfl L rfl rfl rfl ?_
  refine j_V.getK yb6p_M yb6p_55 (ci := 3) (j := 2) rfl K rfl rfl ?_
  refine j_V.alnA yb6p_M yb6p_58 K rfl ?_
  refine j_V.acp yb6p_M yb6p_59 rfl rfl K rfl rfl rfl (fun h K => ?_)
  refine j_V.ldL yb6p_M yb6p_62 rfl (i := 1) (kd := 2) (v := .ref 197) (pcJ := 63) rfl L rfl rfl rfl ?_
  refine j_V.getK yb6p_M yb6p_63 (ci := 3) (j := 3) rfl K rfl rfl ?_
  refine j_V.one yb6p_M yb6p_66 (by decide) (pcJ := 67) (stJ := [.int 0, .ref 201]) rfl ?_
  refine j_V.ldL yb6p_M yb6p_67 rfl (i := 0) (kd := 2) (v := .ref 20) (pcJ := 68) rfl L rfl rfl rfl ?_
  refine j_V.getK yb6p_M yb6p_68 (ci := 3) (j := 3) rfl K rfl rfl ?_
  refine j_V.one yb6p_M yb6p_71 (by decide) (pcJ := 72) (stJ := [.int 0, .ref 24, .int 0, .ref 201]) rfl ?_
  refine j_V.ldL yb6p_M yb6p_72 rfl (i := 0) (kd := 2) (v := .ref 20) (pcJ := 73) rfl L rfl rfl rfl ?_
  refine j_V.getK yb6p_M yb6p_73 (ci := 3) (j := 3) rfl K rfl rfl ?_
  refine j_V.alnA yb6p_M yb6p_76 K rfl ?_
  refine j_V.acp yb6p_M yb6p_77 rfl rfl K rfl rfl rfl (fun h K => ?_)
  exact kk _ _ L K
set_option maxRecDepth 1000000 in
theorem yb6p_k80 {pev : Int32} {pwa : List Int32} {prs : List Int32} {pevs : Int32} {pwas : List Int32} {prss : List Int32} {d : Nat} {lv : J_L} {h h0 : J_H} {Q : Option Value → J_H → Prop} (L : LK lv [(0, .ref 20), (1, .ref 197)]) (K : KN h [(20, .inl (3, [.ref 21, .ref 22, .ref 23, .ref 24, .ref 25, .ref 26, .ref 27, .ref 28, .int pev, .int 1])), (25, .inr (.inl (0, pwa))), (26, .inr (.inl (0, prs))), (197, .inl (3, [.ref 198, .ref 199, .ref 200, .ref 201, .ref 202, .ref 203, .ref 204, .ref 205, .int pevs, .int 1])), (202, .inr (.inl (0, pwas))), (203, .inr (.inl (0, prss)))] h0) (kk : ∀ lv h, LK lv [(0, .ref 20), (1, .ref 197)] → KN h [(20, .inl (3, [.ref 21, .ref 22, .ref 23, .ref 24, .ref 25, .ref 26, .ref 27, .ref 28, .int pev, .int 1])), (25, .inr (.inl (0, (aC (nI pwa.length) pwas pwa)))), (26, .inr (.inl (0, (aC (nI prs.length) prss prs)))), (197, .inl (3, [.ref 198, .ref 199, .ref 200, .ref 201, .ref 202, .ref 203, .ref 204, .ref 205, .int pevs, .int 1])), (202, .inr (.inl (0, pwas))), (203, .inr (.inl (0, prss)))] h0 → j_V jP d 28 116 lv [] h Q) : j_V jP d 28 80 lv [] h Q := by
  refine j_V.ldL yb6p_M yb6p_80 rfl (i := 1) (kd := 2) (v := .ref 197) (pcJ := 81) rfl L rfl rfl rfl ?_
  refine j_V.getK yb6p_M yb6p_81 (ci := 3) (j := 4) rfl K rfl rfl ?_
  refine j_V.one yb6p_M yb6p_84 (by decide) (pcJ := 85) (stJ := [.int 0, .ref 202]) rfl ?_
  refine j_V.ldL yb6p_M yb6p_85 rfl (i := 0) (kd := 2) (v := .ref 20) (pcJ := 86) rfl L rfl rfl rfl ?_
  refine j_V.getK yb6p_M yb6p_86 (ci := 3) (j := 4) rfl K rfl rfl ?_
  refine j_V.one yb6p_M yb6p_89 (by decide) (pcJ := 90) (stJ := [.int 0, .ref 25, .int 0, .ref 202]) rfl ?_
  refine j_V.ldL yb6p_M yb6p_90 rfl (i := 0) (kd := 2) (v := .ref 20) (pcJ := 91) rfl L rfl rfl rfl ?_
  refine j_V.getK yb6p_M yb6p_91 (ci := 3) (j := 4) rfl K rfl rfl ?_
  refine j_V.alnA yb6p_M yb6p_94 K rfl ?_
  refine j_V.acp yb6p_M yb6p_95 rfl rfl K rfl rfl rfl (fun h K => ?_)
  refine j_V.ldL yb6p_M yb6p_98 rfl (i := 1) (kd := 2) (v := .ref 197) (pcJ := 99) rfl L rfl rfl rfl ?_
  refine j_V.getK yb6p_M yb6p_99 (ci := 3) (j := 5) rfl K rfl rfl ?_
  refine j_V.one yb6p_M yb6p_102 (by decide) (pcJ := 103) (stJ := [.int 0, .ref 203]) rfl ?_
  refine j_V.ldL yb6p_M yb6p_103 rfl (i := 0) (kd := 2) (v := .ref 20) (pcJ := 104) rfl L rfl rfl rfl ?_
  refine j_V.getK yb6p_M yb6p_104 (ci := 3) (j := 5) rfl K rfl rfl ?_
  refine j_V.one yb6p_M yb6p_107 (by decide) (pcJ := 108) (stJ := [.int 0, .ref 26, .int 0, .ref 203]) rfl ?_
  refine j_V.ldL yb6p_M yb6p_108 rfl (i := 0) (kd := 2) (v := .ref 20) (pcJ := 109) rfl L rfl rfl rfl ?_
  refine j_V.getK yb6p_M yb6p_109 (ci := 3) (j := 5) rfl K rfl rfl ?_
  refine j_V.alnA yb6p_M yb6p_112 K rfl ?_
  refine j_V.acp yb6p_M yb6p_113 rfl rfl K rfl rfl rfl (fun h K => ?_)
  exact kk _ _ L K
set_option maxRecDepth 1000000 in
theorem yb6p_k116 {pev : Int32} {prr : List Int32} {pfa : List Int32} {pevs : Int32} {prrs : List Int32} {pfas : List Int32} {d : Nat} {lv : J_L} {h h0 : J_H} {Q : Option Value → J_H → Prop} (L : LK lv [(0, .ref 20), (1, .ref 197)]) (K : KN h [(20, .inl (3, [.ref 21, .ref 22, .ref 23, .ref 24, .ref 25, .ref 26, .ref 27, .ref 28, .int pev, .int 1])), (27, .inr (.inl (0, prr))), (28, .inr (.inl (0, pfa))), (197, .inl (3, [.ref 198, .ref 199, .ref 200, .ref 201, .ref 202, .ref 203, .ref 204, .ref 205, .int pevs, .int 1])), (204, .inr (.inl (0, prrs))), (205, .inr (.inl (0, pfas)))] h0) (kk : ∀ lv h, LK lv [(0, .ref 20), (1, .ref 197)] → KN h [(20, .inl (3, [.ref 21, .ref 22, .ref 23, .ref 24, .ref 25, .ref 26, .ref 27, .ref 28, .int pev, .int 1])), (27, .inr (.inl (0, (aC (nI prr.length) prrs prr)))), (28, .inr (.inl (0, (aC (nI pfa.length) pfas pfa)))), (197, .inl (3, [.ref 198, .ref 199, .ref 200, .ref 201, .ref 202, .ref 203, .ref 204, .ref 205, .int pevs, .int 1])), (204, .inr (.inl (0, prrs))), (205, .inr (.inl (0, pfas)))] h0 → j_V jP d 28 152 lv [] h Q) : j_V jP d 28 116 lv [] h Q := by
  refine j_V.ldL yb6p_M yb6p_116 rfl (i := 1) (kd := 2) (v := .ref 197) (pcJ := 117) rfl L rfl rfl rfl ?_
  refine j_V.getK yb6p_M yb6p_117 (ci := 3) (j := 6) rfl K rfl rfl ?_
  refine j_V.one yb6p_M yb6p_120 (by decide) (pcJ := 121) (stJ := [.int 0, .ref 204]) rfl ?_
  refine j_V.ldL yb6p_M yb6p_121 rfl (i := 0) (kd := 2) (v := .ref 20) (pcJ := 122) rfl L rfl rfl rfl ?_
  refine j_V.getK yb6p_M yb6p_122 (ci := 3) (j := 6) rfl K rfl rfl ?_
  refine j_V.one yb6p_M yb6p_125 (by decide) (pcJ := 126) (stJ := [.int 0, .ref 27, .int 0, .ref 204]) rfl ?_
  refine j_V.ldL yb6p_M yb6p_126 rfl (i := 0) (kd := 2) (v := .ref 20) (pcJ := 127) rfl L rfl rfl rfl ?_
  refine j_V.getK yb6p_M yb6p_127 (ci := 3) (j := 6) rfl K rfl rfl ?_
  refine j_V.alnA yb6p_M yb6p_130 K rfl ?_
  refine j_V.acp yb6p_M yb6p_131 rfl rfl K rfl rfl rfl (fun h K => ?_)
  refine j_V.ldL yb6p_M yb6p_134 rfl (i := 1) (kd := 2) (v := .ref 197) (pcJ := 135) rfl L rfl rfl rfl ?_
  refine j_V.getK yb6p_M yb6p_135 (ci := 3) (j := 7) rfl K rfl rfl ?_
  refine j_V.one yb6p_M yb6p_138 (by decide) (pcJ := 139) (stJ := [.int 0, .ref 205]) rfl ?_
  refine j_V.ldL yb6p_M yb6p_139 rfl (i := 0) (kd := 2) (v := .ref 20) (pcJ := 140) rfl L rfl rfl rfl ?_
  refine j_V.getK yb6p_M yb6p_140 (ci := 3) (j := 7) rfl K rfl rfl ?_
  refine j_V.one yb6p_M yb6p_143 (by decide) (pcJ := 144) (stJ := [.int 0, .ref 28, .int 0, .ref 205]) rfl ?_
  refine j_V.ldL yb6p_M yb6p_144 rfl (i := 0) (kd := 2) (v := .ref 20) (pcJ := 145) rfl L rfl rfl rfl ?_
  refine j_V.getK yb6p_M yb6p_145 (ci := 3) (j := 7) rfl K rfl rfl ?_
  refine j_V.alnA yb6p_M yb6p_148 K rfl ?_
  refine j_V.acp yb6p_M yb6p_149 rfl rfl K rfl rfl rfl (fun h K => ?_)
  exact kk _ _ L K
set_option maxRecDepth 1000000 in
theorem yb6p_ok {pev : Int32} {pms : List Int32} {pmm : List Int32} {pmt : List Int32} {pst : List Int32} {pwa : List Int32} {prs : List Int32} {prr : List Int32} {pfa : List Int32} {pevs : Int32} {pmss : List Int32} {pmms : List Int32} {pmts : List Int32} {psts : List Int32} {pwas : List Int32} {prss : List Int32} {prrs : List Int32} {pfas : List Int32} {d : Nat} {h h0 : J_H} (K : KN h [(20, .inl (3, [.ref 21, .ref 22, .ref 23, .ref 24, .ref 25, .ref 26, .ref 27, .ref 28, .int pev, .int 1])), (21, .inr (.inl (0, pms))), (22, .inr (.inl (0, pmm))), (23, .inr (.inl (0, pmt))), (24, .inr (.inl (0, pst))), (25, .inr (.inl (0, pwa))), (26, .inr (.inl (0, prs))), (27, .inr (.inl (0, prr))), (28, .inr (.inl (0, pfa))), (197, .inl (3, [.ref 198, .ref 199, .ref 200, .ref 201, .ref 202, .ref 203, .ref 204, .ref 205, .int pevs, .int 1])), (198, .inr (.inl (0, pmss))), (199, .inr (.inl (0, pmms))), (200, .inr (.inl (0, pmts))), (201, .inr (.inl (0, psts))), (202, .inr (.inl (0, pwas))), (203, .inr (.inl (0, prss))), (204, .inr (.inl (0, prrs))), (205, .inr (.inl (0, pfas)))] h0) : j_V jP d 28 0 (lv_args 0 [.ref 20, .ref 197]) [] h (fun rv h' => rv = none ∧ KN h' [(20, .inl (3, [.ref 21, .ref 22, .ref 23, .ref 24, .ref 25, .ref 26, .ref 27, .ref 28, .int pevs, .int 1])), (21, .inr (.inl (0, (aC (nI pms.length) pmss pms)))), (22, .inr (.inl (0, (aC (nI pmm.length) pmms pmm)))), (23, .inr (.inl (0, (aC (nI pmt.length) pmts pmt)))), (24, .inr (.inl (0, (aC (nI pst.length) psts pst)))), (25, .inr (.inl (0, (aC (nI pwa.length) pwas pwa)))), (26, .inr (.inl (0, (aC (nI prs.length) prss prs)))), (27, .inr (.inl (0, (aC (nI prr.length) prrs prr)))), (28, .inr (.inl (0, (aC (nI pfa.length) pfas pfa)))), (197, .inl (3, [.ref 198, .ref 199, .ref 200, .ref 201, .ref 202, .ref 203, .ref 204, .ref 205, .int pevs, .int 1])), (198, .inr (.inl (0, pmss))), (199, .inr (.inl (0, pmms))), (200, .inr (.inl (0, pmts))), (201, .inr (.inl (0, psts))), (202, .inr (.inl (0, pwas))), (203, .inr (.inl (0, prss))), (204, .inr (.inl (0, prrs))), (205, .inr (.inl (0, pfas)))] h0) := by
  show j_V jP d 28 0 [(0, .ref 20), (1, .ref 197)] [] h _
  obtain ⟨lv, elv, L⟩ : ∃ lv, lv = [(0, .ref 20), (1, .ref 197)] ∧ LK lv [(0, .ref 20), (1, .ref 197)] := ⟨_, rfl, LK.rf⟩
  rw [← elv]
  clear elv
  refine j_V.ldL yb6p_M yb6p_0 rfl (i := 0) (kd := 2) (v := .ref 20) (pcJ := 1) rfl L rfl rfl rfl ?_
  refine j_V.getK yb6p_M yb6p_1 (ci := 3) (j := 9) rfl K rfl rfl ?_
  refine j_V.ifc yb6p_M yb6p_4 (t := 8) rfl (fun c4_0 => ?_) (fun c4_0 => ?_)
  · replace c4_0 : ¬ ((1 : Int32) = 0) := jd_ne c4_0
    refine yb6p_k8 L (K.fi [20, 21, 22, 197, 198, 199] rfl rfl) (fun lv h9 L K9 => ?_)
    have K : KN h9 [(20, .inl (3, [.ref 21, .ref 22, .ref 23, .ref 24, .ref 25, .ref 26, .ref 27, .ref 28, .int pev, .int 1])), (21, .inr (.inl (0, (aC (nI pms.length) pmss pms)))), (22, .inr (.inl (0, (aC (nI pmm.length) pmms pmm)))), (23, .inr (.inl (0, pmt))), (24, .inr (.inl (0, pst))), (25, .inr (.inl (0, pwa))), (26, .inr (.inl (0, prs))), (27, .inr (.inl (0, prr))), (28, .inr (.inl (0, pfa))), (197, .inl (3, [.ref 198, .ref 199, .ref 200, .ref 201, .ref 202, .ref 203, .ref 204, .ref 205, .int pevs, .int 1])), (198, .inr (.inl (0, pmss))), (199, .inr (.inl (0, pmms))), (200, .inr (.inl (0, pmts))), (201, .inr (.inl (0, psts))), (202, .inr (.inl (0, pwas))), (203, .inr (.inl (0, prss))), (204, .inr (.inl (0, prrs))), (205, .inr (.inl (0, pfas)))] h0 := K.mg K9 rfl rfl
    clear K9
    refine yb6p_k44 L (K.fi [20, 23, 24, 197, 200, 201] rfl rfl) (fun lv h9 L K9 => ?_)
    have K : KN h9 [(20, .inl (3, [.ref 21, .ref 22, .ref 23, .ref 24, .ref 25, .ref 26, .ref 27, .ref 28, .int pev, .int 1])), (21, .inr (.inl (0, (aC (nI pms.length) pmss pms)))), (22, .inr (.inl (0, (aC (nI pmm.length) pmms pmm)))), (23, .inr (.inl (0, (aC (nI pmt.length) pmts pmt)))), (24, .inr (.inl (0, (aC (nI pst.length) psts pst)))), (25, .inr (.inl (0, pwa))), (26, .inr (.inl (0, prs))), (27, .inr (.inl (0, prr))), (28, .inr (.inl (0, pfa))), (197, .inl (3, [.ref 198, .ref 199, .ref 200, .ref 201, .ref 202, .ref 203, .ref 204, .ref 205, .int pevs, .int 1])), (198, .inr (.inl (0, pmss))), (199, .inr (.inl (0, pmms))), (200, .inr (.inl (0, pmts))), (201, .inr (.inl (0, psts))), (202, .inr (.inl (0, pwas))), (203, .inr (.inl (0, prss))), (204, .inr (.inl (0, prrs))), (205, .inr (.inl (0, pfas)))] h0 := K.mg K9 rfl rfl
    clear K9
    refine yb6p_k80 L (K.fi [20, 25, 26, 197, 202, 203] rfl rfl) (fun lv h9 L K9 => ?_)
    have K : KN h9 [(20, .inl (3, [.ref 21, .ref 22, .ref 23, .ref 24, .ref 25, .ref 26, .ref 27, .ref 28, .int pev, .int 1])), (21, .inr (.inl (0, (aC (nI pms.length) pmss pms)))), (22, .inr (.inl (0, (aC (nI pmm.length) pmms pmm)))), (23, .inr (.inl (0, (aC (nI pmt.length) pmts pmt)))), (24, .inr (.inl (0, (aC (nI pst.length) psts pst)))), (25, .inr (.inl (0, (aC (nI pwa.length) pwas pwa)))), (26, .inr (.inl (0, (aC (nI prs.length) prss prs)))), (27, .inr (.inl (0, prr))), (28, .inr (.inl (0, pfa))), (197, .inl (3, [.ref 198, .ref 199, .ref 200, .ref 201, .ref 202, .ref 203, .ref 204, .ref 205, .int pevs, .int 1])), (198, .inr (.inl (0, pmss))), (199, .inr (.inl (0, pmms))), (200, .inr (.inl (0, pmts))), (201, .inr (.inl (0, psts))), (202, .inr (.inl (0, pwas))), (203, .inr (.inl (0, prss))), (204, .inr (.inl (0, prrs))), (205, .inr (.inl (0, pfas)))] h0 := K.mg K9 rfl rfl
    clear K9
    refine yb6p_k116 L (K.fi [20, 27, 28, 197, 204, 205] rfl rfl) (fun lv h9 L K9 => ?_)
    have K : KN h9 [(20, .inl (3, [.ref 21, .ref 22, .ref 23, .ref 24, .ref 25, .ref 26, .ref 27, .ref 28, .int pev, .int 1])), (21, .inr (.inl (0, (aC (nI pms.length) pmss pms)))), (22, .inr (.inl (0, (aC (nI pmm.length) pmms pmm)))), (23, .inr (.inl (0, (aC (nI pmt.length) pmts pmt)))), (24, .inr (.inl (0, (aC (nI pst.length) psts pst)))), (25, .inr (.inl (0, (aC (nI pwa.length) pwas pwa)))), (26, .inr (.inl (0, (aC (nI prs.length) prss prs)))), (27, .inr (.inl (0, (aC (nI prr.length) prrs prr)))), (28, .inr (.inl (0, (aC (nI pfa.length) pfas pfa)))), (197, .inl (3, [.ref 198, .ref 199, .ref 200, .ref 201, .ref 202, .ref 203, .ref 204, .ref 205, .int pevs, .int 1])), (198, .inr (.inl (0, pmss))), (199, .inr (.inl (0, pmms))), (200, .inr (.inl (0, pmts))), (201, .inr (.inl (0, psts))), (202, .inr (.inl (0, pwas))), (203, .inr (.inl (0, prss))), (204, .inr (.inl (0, prrs))), (205, .inr (.inl (0, pfas)))] h0 := K.mg K9 rfl rfl
    clear K9
    refine j_V.ldL yb6p_M yb6p_152 rfl (i := 0) (kd := 2) (v := .ref 20) (pcJ := 153) rfl L rfl rfl rfl ?_
    refine j_V.ldL yb6p_M yb6p_153 rfl (i := 1) (kd := 2) (v := .ref 197) (pcJ := 154) rfl L rfl rfl rfl ?_
    refine j_V.getK yb6p_M yb6p_154 (ci := 3) (j := 8) rfl K rfl rfl ?_
    refine j_V.putK yb6p_M yb6p_157 (ci := 3) (j := 8) (k' := [(20, .inl (3, [.ref 21, .ref 22, .ref 23, .ref 24, .ref 25, .ref 26, .ref 27, .ref 28, .int pevs, .int 1])), (21, .inr (.inl (0, (aC (nI pms.length) pmss pms)))), (22, .inr (.inl (0, (aC (nI pmm.length) pmms pmm)))), (23, .inr (.inl (0, (aC (nI pmt.length) pmts pmt)))), (24, .inr (.inl (0, (aC (nI pst.length) psts pst)))), (25, .inr (.inl (0, (aC (nI pwa.length) pwas pwa)))), (26, .inr (.inl (0, (aC (nI prs.length) prss prs)))), (27, .inr (.inl (0, (aC (nI prr.length) prrs prr)))), (28, .inr (.inl (0, (aC (nI pfa.length) pfas pfa)))), (197, .inl (3, [.ref 198, .ref 199, .ref 200, .ref 201, .ref 202, .ref 203, .ref 204, .ref 205, .int pevs, .int 1])), (198, .inr (.inl (0, pmss))), (199, .inr (.inl (0, pmms))), (200, .inr (.inl (0, pmts))), (201, .inr (.inl (0, psts))), (202, .inr (.inl (0, pwas))), (203, .inr (.inl (0, prss))), (204, .inr (.inl (0, prrs))), (205, .inr (.inl (0, pfas)))]) rfl K rfl (Nat.le_of_ble_eq_true rfl) rfl (Or.inl rfl) rfl rfl (fun h K => ?_)
    exact j_V.ret yb6p_M yb6p_160 rfl rfl ⟨rfl, K⟩
  · replace c4_0 : (1 : Int32) = 0 := jd_nen c4_0
    exact absurd c4_0 (by decide)
set_option maxRecDepth 100000 in
theorem yb6s_M : j_meth jP 61 = some (yX7_copyFrom, cX7_copyFrom, 2, none, 1, false, 7) := rfl
set_option maxRecDepth 100000 in
theorem yb6s_0 : j_code jP 61 0 = some (.aload_n 0) := rfl
set_option maxRecDepth 100000 in
theorem yb6s_1 : j_code jP 61 1 = some (.aload_n 1) := rfl
set_option maxRecDepth 100000 in
theorem yb6s_2 : j_code jP 61 2 = some (.getfield 64) := rfl
set_option maxRecDepth 100000 in
theorem yb6s_5 : j_code jP 61 5 = some (.putfield 64) := rfl
set_option maxRecDepth 100000 in
theorem yb6s_8 : j_code jP 61 8 = some (.aload_n 0) := rfl
set_option maxRecDepth 100000 in
theorem yb6s_9 : j_code jP 61 9 = some (.aload_n 1) := rfl
set_option maxRecDepth 100000 in
theorem yb6s_10 : j_code jP 61 10 = some (.getfield 68) := rfl
set_option maxRecDepth 100000 in
theorem yb6s_13 : j_code jP 61 13 = some (.putfield 68) := rfl
set_option maxRecDepth 100000 in
theorem yb6s_16 : j_code jP 61 16 = some (.aload_n 0) := rfl
set_option maxRecDepth 100000 in
theorem yb6s_17 : j_code jP 61 17 = some (.aload_n 1) := rfl
set_option maxRecDepth 100000 in
theorem yb6s_18 : j_code jP 61 18 = some (.getfield 72) := rfl
set_option maxRecDepth 100000 in
theorem yb6s_21 : j_code jP 61 21 = some (.putfield 72) := rfl
set_option maxRecDepth 100000 in
theorem yb6s_24 : j_code jP 61 24 = some (.aload_n 0) := rfl
set_option maxRecDepth 100000 in
theorem yb6s_25 : j_code jP 61 25 = some (.aload_n 1) := rfl
set_option maxRecDepth 100000 in
theorem yb6s_26 : j_code jP 61 26 = some (.getfield 75) := rfl
set_option maxRecDepth 100000 in
theorem yb6s_29 : j_code jP 61 29 = some (.putfield 75) := rfl
set_option maxRecDepth 100000 in
theorem yb6s_32 : j_code jP 61 32 = some (.aload_n 0) := rfl
set_option maxRecDepth 100000 in
theorem yb6s_33 : j_code jP 61 33 = some (.aload_n 1) := rfl
set_option maxRecDepth 100000 in
theorem yb6s_34 : j_code jP 61 34 = some (.getfield 78) := rfl
set_option maxRecDepth 100000 in
theorem yb6s_37 : j_code jP 61 37 = some (.putfield 78) := rfl
set_option maxRecDepth 100000 in
theorem yb6s_40 : j_code jP 61 40 = some (.aload_n 1) := rfl
set_option maxRecDepth 100000 in
theorem yb6s_41 : j_code jP 61 41 = some (.getfield 9) := rfl
set_option maxRecDepth 100000 in
theorem yb6s_44 : j_code jP 61 44 = some (.iconst 0) := rfl
set_option maxRecDepth 100000 in
theorem yb6s_45 : j_code jP 61 45 = some (.aload_n 0) := rfl
set_option maxRecDepth 100000 in
theorem yb6s_46 : j_code jP 61 46 = some (.getfield 9) := rfl
set_option maxRecDepth 100000 in
theorem yb6s_49 : j_code jP 61 49 = some (.iconst 0) := rfl
set_option maxRecDepth 100000 in
theorem yb6s_50 : j_code jP 61 50 = some (.iconst 5) := rfl
set_option maxRecDepth 100000 in
theorem yb6s_51 : j_code jP 61 51 = some (.invokestatic 84) := rfl
set_option maxRecDepth 100000 in
theorem yb6s_54 : j_code jP 61 54 = some (.aload_n 1) := rfl
set_option maxRecDepth 100000 in
theorem yb6s_55 : j_code jP 61 55 = some (.getfield 15) := rfl
set_option maxRecDepth 100000 in
theorem yb6s_58 : j_code jP 61 58 = some (.iconst 0) := rfl
set_option maxRecDepth 100000 in
theorem yb6s_59 : j_code jP 61 59 = some (.aload_n 0) := rfl
set_option maxRecDepth 100000 in
theorem yb6s_60 : j_code jP 61 60 = some (.getfield 15) := rfl
set_option maxRecDepth 100000 in
theorem yb6s_63 : j_code jP 61 63 = some (.iconst 0) := rfl
set_option maxRecDepth 100000 in
theorem yb6s_64 : j_code jP 61 64 = some (.iconst 5) := rfl
set_option maxRecDepth 100000 in
theorem yb6s_65 : j_code jP 61 65 = some (.invokestatic 84) := rfl
set_option maxRecDepth 100000 in
theorem yb6s_68 : j_code jP 61 68 = some (.aload_n 1) := rfl
set_option maxRecDepth 100000 in
theorem yb6s_69 : j_code jP 61 69 = some (.getfield 18) := rfl
set_option maxRecDepth 100000 in
theorem yb6s_72 : j_code jP 61 72 = some (.iconst 0) := rfl
set_option maxRecDepth 100000 in
theorem yb6s_73 : j_code jP 61 73 = some (.aload_n 0) := rfl
set_option maxRecDepth 100000 in
theorem yb6s_74 : j_code jP 61 74 = some (.getfield 18) := rfl
set_option maxRecDepth 100000 in
theorem yb6s_77 : j_code jP 61 77 = some (.iconst 0) := rfl
set_option maxRecDepth 100000 in
theorem yb6s_78 : j_code jP 61 78 = some (.iconst 5) := rfl
set_option maxRecDepth 100000 in
theorem yb6s_79 : j_code jP 61 79 = some (.invokestatic 84) := rfl
set_option maxRecDepth 100000 in
theorem yb6s_82 : j_code jP 61 82 = some (.aload_n 1) := rfl
set_option maxRecDepth 100000 in
theorem yb6s_83 : j_code jP 61 83 = some (.getfield 21) := rfl
set_option maxRecDepth 100000 in
theorem yb6s_86 : j_code jP 61 86 = some (.iconst 0) := rfl
set_option maxRecDepth 100000 in
theorem yb6s_87 : j_code jP 61 87 = some (.aload_n 0) := rfl
set_option maxRecDepth 100000 in
theorem yb6s_88 : j_code jP 61 88 = some (.getfield 21) := rfl
set_option maxRecDepth 100000 in
theorem yb6s_91 : j_code jP 61 91 = some (.iconst 0) := rfl
set_option maxRecDepth 100000 in
theorem yb6s_92 : j_code jP 61 92 = some (.iconst 5) := rfl
set_option maxRecDepth 100000 in
theorem yb6s_93 : j_code jP 61 93 = some (.invokestatic 84) := rfl
set_option maxRecDepth 100000 in
theorem yb6s_96 : j_code jP 61 96 = some (.aload_n 1) := rfl
set_option maxRecDepth 100000 in
theorem yb6s_97 : j_code jP 61 97 = some (.getfield 24) := rfl
set_option maxRecDepth 100000 in
theorem yb6s_100 : j_code jP 61 100 = some (.iconst 0) := rfl
set_option maxRecDepth 100000 in
theorem yb6s_101 : j_code jP 61 101 = some (.aload_n 0) := rfl
set_option maxRecDepth 100000 in
theorem yb6s_102 : j_code jP 61 102 = some (.getfield 24) := rfl
set_option maxRecDepth 100000 in
theorem yb6s_105 : j_code jP 61 105 = some (.iconst 0) := rfl
set_option maxRecDepth 100000 in
theorem yb6s_106 : j_code jP 61 106 = some (.iconst 5) := rfl
set_option maxRecDepth 100000 in
theorem yb6s_107 : j_code jP 61 107 = some (.invokestatic 84) := rfl
set_option maxRecDepth 100000 in
theorem yb6s_110 : j_code jP 61 110 = some (.aload_n 1) := rfl
set_option maxRecDepth 100000 in
theorem yb6s_111 : j_code jP 61 111 = some (.getfield 27) := rfl
set_option maxRecDepth 100000 in
theorem yb6s_114 : j_code jP 61 114 = some (.iconst 0) := rfl
set_option maxRecDepth 100000 in
theorem yb6s_115 : j_code jP 61 115 = some (.aload_n 0) := rfl
set_option maxRecDepth 100000 in
theorem yb6s_116 : j_code jP 61 116 = some (.getfield 27) := rfl
set_option maxRecDepth 100000 in
theorem yb6s_119 : j_code jP 61 119 = some (.iconst 0) := rfl
set_option maxRecDepth 100000 in
theorem yb6s_120 : j_code jP 61 120 = some (.iconst 5) := rfl
set_option maxRecDepth 100000 in
theorem yb6s_121 : j_code jP 61 121 = some (.invokestatic 84) := rfl
set_option maxRecDepth 100000 in
theorem yb6s_124 : j_code jP 61 124 = some (.aload_n 1) := rfl
set_option maxRecDepth 100000 in
theorem yb6s_125 : j_code jP 61 125 = some (.getfield 30) := rfl
set_option maxRecDepth 100000 in
theorem yb6s_128 : j_code jP 61 128 = some (.iconst 0) := rfl
set_option maxRecDepth 100000 in
theorem yb6s_129 : j_code jP 61 129 = some (.aload_n 0) := rfl
set_option maxRecDepth 100000 in
theorem yb6s_130 : j_code jP 61 130 = some (.getfield 30) := rfl
set_option maxRecDepth 100000 in
theorem yb6s_133 : j_code jP 61 133 = some (.iconst 0) := rfl
set_option maxRecDepth 100000 in
theorem yb6s_134 : j_code jP 61 134 = some (.iconst 5) := rfl
set_option maxRecDepth 100000 in
theorem yb6s_135 : j_code jP 61 135 = some (.invokestatic 84) := rfl
set_option maxRecDepth 100000 in
theorem yb6s_138 : j_code jP 61 138 = some (.aload_n 1) := rfl
set_option maxRecDepth 100000 in
theorem yb6s_139 : j_code jP 61 139 = some (.getfield 33) := rfl
set_option maxRecDepth 100000 in
theorem yb6s_142 : j_code jP 61 142 = some (.iconst 0) := rfl
set_option maxRecDepth 100000 in
theorem yb6s_143 : j_code jP 61 143 = some (.aload_n 0) := rfl
set_option maxRecDepth 100000 in
theorem yb6s_144 : j_code jP 61 144 = some (.getfield 33) := rfl
set_option maxRecDepth 100000 in
theorem yb6s_147 : j_code jP 61 147 = some (.iconst 0) := rfl
set_option maxRecDepth 100000 in
theorem yb6s_148 : j_code jP 61 148 = some (.bipush 6) := rfl
set_option maxRecDepth 100000 in
theorem yb6s_150 : j_code jP 61 150 = some (.invokestatic 84) := rfl
set_option maxRecDepth 100000 in
theorem yb6s_153 : j_code jP 61 153 = some (.aload_n 1) := rfl
set_option maxRecDepth 100000 in
theorem yb6s_154 : j_code jP 61 154 = some (.getfield 36) := rfl
set_option maxRecDepth 100000 in
theorem yb6s_157 : j_code jP 61 157 = some (.iconst 0) := rfl
set_option maxRecDepth 100000 in
theorem yb6s_158 : j_code jP 61 158 = some (.aload_n 0) := rfl
set_option maxRecDepth 100000 in
theorem yb6s_159 : j_code jP 61 159 = some (.getfield 36) := rfl
set_option maxRecDepth 100000 in
theorem yb6s_162 : j_code jP 61 162 = some (.iconst 0) := rfl
set_option maxRecDepth 100000 in
theorem yb6s_163 : j_code jP 61 163 = some (.bipush 6) := rfl
set_option maxRecDepth 100000 in
theorem yb6s_165 : j_code jP 61 165 = some (.invokestatic 84) := rfl
set_option maxRecDepth 100000 in
theorem yb6s_168 : j_code jP 61 168 = some (.aload_n 1) := rfl
set_option maxRecDepth 100000 in
theorem yb6s_169 : j_code jP 61 169 = some (.getfield 39) := rfl
set_option maxRecDepth 100000 in
theorem yb6s_172 : j_code jP 61 172 = some (.iconst 0) := rfl
set_option maxRecDepth 100000 in
theorem yb6s_173 : j_code jP 61 173 = some (.aload_n 0) := rfl
set_option maxRecDepth 100000 in
theorem yb6s_174 : j_code jP 61 174 = some (.getfield 39) := rfl
set_option maxRecDepth 100000 in
theorem yb6s_177 : j_code jP 61 177 = some (.iconst 0) := rfl
set_option maxRecDepth 100000 in
theorem yb6s_178 : j_code jP 61 178 = some (.aload_n 0) := rfl
set_option maxRecDepth 100000 in
theorem yb6s_179 : j_code jP 61 179 = some (.getfield 39) := rfl
set_option maxRecDepth 100000 in
theorem yb6s_182 : j_code jP 61 182 = some (.arraylength) := rfl
set_option maxRecDepth 100000 in
theorem yb6s_183 : j_code jP 61 183 = some (.invokestatic 84) := rfl
set_option maxRecDepth 100000 in
theorem yb6s_186 : j_code jP 61 186 = some (.aload_n 1) := rfl
set_option maxRecDepth 100000 in
theorem yb6s_187 : j_code jP 61 187 = some (.getfield 42) := rfl
set_option maxRecDepth 100000 in
theorem yb6s_190 : j_code jP 61 190 = some (.iconst 0) := rfl
set_option maxRecDepth 100000 in
theorem yb6s_191 : j_code jP 61 191 = some (.aload_n 0) := rfl
set_option maxRecDepth 100000 in
theorem yb6s_192 : j_code jP 61 192 = some (.getfield 42) := rfl
set_option maxRecDepth 100000 in
theorem yb6s_195 : j_code jP 61 195 = some (.iconst 0) := rfl
set_option maxRecDepth 100000 in
theorem yb6s_196 : j_code jP 61 196 = some (.aload_n 0) := rfl
set_option maxRecDepth 100000 in
theorem yb6s_197 : j_code jP 61 197 = some (.getfield 42) := rfl
set_option maxRecDepth 100000 in
theorem yb6s_200 : j_code jP 61 200 = some (.arraylength) := rfl
set_option maxRecDepth 100000 in
theorem yb6s_201 : j_code jP 61 201 = some (.invokestatic 84) := rfl
set_option maxRecDepth 100000 in
theorem yb6s_204 : j_code jP 61 204 = some (.aload_n 1) := rfl
set_option maxRecDepth 100000 in
theorem yb6s_205 : j_code jP 61 205 = some (.getfield 45) := rfl
set_option maxRecDepth 100000 in
theorem yb6s_208 : j_code jP 61 208 = some (.iconst 0) := rfl
set_option maxRecDepth 100000 in
theorem yb6s_209 : j_code jP 61 209 = some (.aload_n 0) := rfl
set_option maxRecDepth 100000 in
theorem yb6s_210 : j_code jP 61 210 = some (.getfield 45) := rfl
set_option maxRecDepth 100000 in
theorem yb6s_213 : j_code jP 61 213 = some (.iconst 0) := rfl
set_option maxRecDepth 100000 in
theorem yb6s_214 : j_code jP 61 214 = some (.aload_n 0) := rfl
set_option maxRecDepth 100000 in
theorem yb6s_215 : j_code jP 61 215 = some (.getfield 45) := rfl
set_option maxRecDepth 100000 in
theorem yb6s_218 : j_code jP 61 218 = some (.arraylength) := rfl
set_option maxRecDepth 100000 in
theorem yb6s_219 : j_code jP 61 219 = some (.invokestatic 84) := rfl
set_option maxRecDepth 100000 in
theorem yb6s_222 : j_code jP 61 222 = some (.aload_n 0) := rfl
set_option maxRecDepth 100000 in
theorem yb6s_223 : j_code jP 61 223 = some (.getfield 60) := rfl
set_option maxRecDepth 100000 in
theorem yb6s_226 : j_code jP 61 226 = some (.aload_n 1) := rfl
set_option maxRecDepth 100000 in
theorem yb6s_227 : j_code jP 61 227 = some (.getfield 60) := rfl
set_option maxRecDepth 100000 in
theorem yb6s_230 : j_code jP 61 230 = some (.invokevirtual 108) := rfl
set_option maxRecDepth 100000 in
theorem yb6s_233 : j_code jP 61 233 = some (.return_) := rfl
set_option maxRecDepth 1000000 in
theorem yb6s_k0 {ly : Value} {mi : Int32} {shu : Int32} {bus : Int32} {lks : Int32} {lys : Nat} {mis : Int32} {shus : Int32} {buss : Int32} {lkss : Int32} {d : Nat} {lv : J_L} {h h0 : J_H} {Q : Option Value → J_H → Prop} (L : LK lv [(0, .ref 4), (1, .ref 181)]) (K : KN h [(4, .inl (7, [ly, .int mi, .int shu, .int bus, .ref 5, .ref 6, .ref 7, .ref 8, .ref 9, .ref 10, .ref 11, .ref 12, .ref 13, .ref 14, .ref 15, .int lks, .ref 16, .ref 17, .ref 20])), (181, .inl (7, [.ref lys, .int mis, .int shus, .int buss, .ref 182, .ref 183, .ref 184, .ref 185, .ref 186, .ref 187, .ref 188, .ref 189, .ref 190, .ref 191, .ref 192, .int lkss, .ref 193, .ref 194, .ref 197]))] h0) (kk : ∀ lv h, LK lv [(0, .ref 4), (1, .ref 181)] → KN h [(4, .inl (7, [.ref lys, .int mis, .int shus, .int buss, .ref 5, .ref 6, .ref 7, .ref 8, .ref 9, .ref 10, .ref 11, .ref 12, .ref 13, .ref 14, .ref 15, .int lkss, .ref 16, .ref 17, .ref 20])), (181, .inl (7, [.ref lys, .int mis, .int shus, .int buss, .ref 182, .ref 183, .ref 184, .ref 185, .ref 186, .ref 187, .ref 188, .ref 189, .ref 190, .ref 191, .ref 192, .int lkss, .ref 193, .ref 194, .ref 197]))] h0 → j_V jP d 61 40 lv [] h Q) : j_V jP d 61 0 lv [] h Q := by
  refine j_V.ldL yb6s_M yb6s_0 rfl (i := 0) (kd := 2) (v := .ref 4) (pcJ := 1) rfl L rfl rfl rfl ?_
  refine j_V.ldL yb6s_M yb6s_1 rfl (i := 1) (kd := 2) (v := .ref 181) (pcJ := 2) rfl L rfl rfl rfl ?_
  refine j_V.getK yb6s_M yb6s_2 (ci := 7) (j := 0) rfl K rfl rfl ?_
  refine j_V.putK yb6s_M yb6s_5 (ci := 7) (j := 0) (k' := [(4, .inl (7, [.ref lys, .int mi, .int shu, .int bus, .ref 5, .ref 6, .ref 7, .ref 8, .ref 9, .ref 10, .ref 11, .ref 12, .ref 13, .ref 14, .ref 15, .int lks, .ref 16, .ref 17, .ref 20])), (181, .inl (7, [.ref lys, .int mis, .int shus, .int buss, .ref 182, .ref 183, .ref 184, .ref 185, .ref 186, .ref 187, .ref 188, .ref 189, .ref 190, .ref 191, .ref 192, .int lkss, .ref 193, .ref 194, .ref 197]))]) rfl K rfl (Nat.le_of_ble_eq_true rfl) rfl (Or.inl rfl) rfl rfl (fun h K => ?_)
  refine j_V.ldL yb6s_M yb6s_8 rfl (i := 0) (kd := 2) (v := .ref 4) (pcJ := 9) rfl L rfl rfl rfl ?_
  refine j_V.ldL yb6s_M yb6s_9 rfl (i := 1) (kd := 2) (v := .ref 181) (pcJ := 10) rfl L rfl rfl rfl ?_
  refine j_V.getK yb6s_M yb6s_10 (ci := 7) (j := 1) rfl K rfl rfl ?_
  refine j_V.putK yb6s_M yb6s_13 (ci := 7) (j := 1) (k' := [(4, .inl (7, [.ref lys, .int mis, .int shu, .int bus, .ref 5, .ref 6, .ref 7, .ref 8, .ref 9, .ref 10, .ref 11, .ref 12, .ref 13, .ref 14, .ref 15, .int lks, .ref 16, .ref 17, .ref 20])), (181, .inl (7, [.ref lys, .int mis, .int shus, .int buss, .ref 182, .ref 183, .ref 184, .ref 185, .ref 186, .ref 187, .ref 188, .ref 189, .ref 190, .ref 191, .ref 192, .int lkss, .ref 193, .ref 194, .ref 197]))]) rfl K rfl (Nat.le_of_ble_eq_true rfl) rfl (Or.inl rfl) rfl rfl (fun h K => ?_)
  refine j_V.ldL yb6s_M yb6s_16 rfl (i := 0) (kd := 2) (v := .ref 4) (pcJ := 17) rfl L rfl rfl rfl ?_
  refine j_V.ldL yb6s_M yb6s_17 rfl (i := 1) (kd := 2) (v := .ref 181) (pcJ := 18) rfl L rfl rfl rfl ?_
  refine j_V.getK yb6s_M yb6s_18 (ci := 7) (j := 2) rfl K rfl rfl ?_
  refine j_V.putK yb6s_M yb6s_21 (ci := 7) (j := 2) (k' := [(4, .inl (7, [.ref lys, .int mis, .int shus, .int bus, .ref 5, .ref 6, .ref 7, .ref 8, .ref 9, .ref 10, .ref 11, .ref 12, .ref 13, .ref 14, .ref 15, .int lks, .ref 16, .ref 17, .ref 20])), (181, .inl (7, [.ref lys, .int mis, .int shus, .int buss, .ref 182, .ref 183, .ref 184, .ref 185, .ref 186, .ref 187, .ref 188, .ref 189, .ref 190, .ref 191, .ref 192, .int lkss, .ref 193, .ref 194, .ref 197]))]) rfl K rfl (Nat.le_of_ble_eq_true rfl) rfl (Or.inl rfl) rfl rfl (fun h K => ?_)
  refine j_V.ldL yb6s_M yb6s_24 rfl (i := 0) (kd := 2) (v := .ref 4) (pcJ := 25) rfl L rfl rfl rfl ?_
  refine j_V.ldL yb6s_M yb6s_25 rfl (i := 1) (kd := 2) (v := .ref 181) (pcJ := 26) rfl L rfl rfl rfl ?_
  refine j_V.getK yb6s_M yb6s_26 (ci := 7) (j := 3) rfl K rfl rfl ?_
  refine j_V.putK yb6s_M yb6s_29 (ci := 7) (j := 3) (k' := [(4, .inl (7, [.ref lys, .int mis, .int shus, .int buss, .ref 5, .ref 6, .ref 7, .ref 8, .ref 9, .ref 10, .ref 11, .ref 12, .ref 13, .ref 14, .ref 15, .int lks, .ref 16, .ref 17, .ref 20])), (181, .inl (7, [.ref lys, .int mis, .int shus, .int buss, .ref 182, .ref 183, .ref 184, .ref 185, .ref 186, .ref 187, .ref 188, .ref 189, .ref 190, .ref 191, .ref 192, .int lkss, .ref 193, .ref 194, .ref 197]))]) rfl K rfl (Nat.le_of_ble_eq_true rfl) rfl (Or.inl rfl) rfl rfl (fun h K => ?_)
  refine j_V.ldL yb6s_M yb6s_32 rfl (i := 0) (kd := 2) (v := .ref 4) (pcJ := 33) rfl L rfl rfl rfl ?_
  refine j_V.ldL yb6s_M yb6s_33 rfl (i := 1) (kd := 2) (v := .ref 181) (pcJ := 34) rfl L rfl rfl rfl ?_
  refine j_V.getK yb6s_M yb6s_34 (ci := 7) (j := 15) rfl K rfl rfl ?_
  refine j_V.putK yb6s_M yb6s_37 (ci := 7) (j := 15) (k' := [(4, .inl (7, [.ref lys, .int mis, .int shus, .int buss, .ref 5, .ref 6, .ref 7, .ref 8, .ref 9, .ref 10, .ref 11, .ref 12, .ref 13, .ref 14, .ref 15, .int lkss, .ref 16, .ref 17, .ref 20])), (181, .inl (7, [.ref lys, .int mis, .int shus, .int buss, .ref 182, .ref 183, .ref 184, .ref 185, .ref 186, .ref 187, .ref 188, .ref 189, .ref 190, .ref 191, .ref 192, .int lkss, .ref 193, .ref 194, .ref 197]))]) rfl K rfl (Nat.le_of_ble_eq_true rfl) rfl (Or.inl rfl) rfl rfl (fun h K => ?_)
  exact kk _ _ L K
set_option maxRecDepth 1000000 in
theorem yb6s_k40 {rk : List Int32} {sta : List Int32} {ph : List Int32} {lys : Nat} {mis : Int32} {shus : Int32} {buss : Int32} {lkss : Int32} {rks : List Int32} {stas : List Int32} {phs : List Int32} {d : Nat} {lv : J_L} {h h0 : J_H} {Q : Option Value → J_H → Prop} (L : LK lv [(0, .ref 4), (1, .ref 181)]) (K : KN h [(4, .inl (7, [.ref lys, .int mis, .int shus, .int buss, .ref 5, .ref 6, .ref 7, .ref 8, .ref 9, .ref 10, .ref 11, .ref 12, .ref 13, .ref 14, .ref 15, .int lkss, .ref 16, .ref 17, .ref 20])), (5, .inr (.inl (0, rk))), (6, .inr (.inl (0, sta))), (7, .inr (.inl (0, ph))), (181, .inl (7, [.ref lys, .int mis, .int shus, .int buss, .ref 182, .ref 183, .ref 184, .ref 185, .ref 186, .ref 187, .ref 188, .ref 189, .ref 190, .ref 191, .ref 192, .int lkss, .ref 193, .ref 194, .ref 197])), (182, .inr (.inl (0, rks))), (183, .inr (.inl (0, stas))), (184, .inr (.inl (0, phs)))] h0) (kk : ∀ lv h, LK lv [(0, .ref 4), (1, .ref 181)] → KN h [(4, .inl (7, [.ref lys, .int mis, .int shus, .int buss, .ref 5, .ref 6, .ref 7, .ref 8, .ref 9, .ref 10, .ref 11, .ref 12, .ref 13, .ref 14, .ref 15, .int lkss, .ref 16, .ref 17, .ref 20])), (5, .inr (.inl (0, (aC 5 rks rk)))), (6, .inr (.inl (0, (aC 5 stas sta)))), (7, .inr (.inl (0, (aC 5 phs ph)))), (181, .inl (7, [.ref lys, .int mis, .int shus, .int buss, .ref 182, .ref 183, .ref 184, .ref 185, .ref 186, .ref 187, .ref 188, .ref 189, .ref 190, .ref 191, .ref 192, .int lkss, .ref 193, .ref 194, .ref 197])), (182, .inr (.inl (0, rks))), (183, .inr (.inl (0, stas))), (184, .inr (.inl (0, phs)))] h0 → j_V jP d 61 82 lv [] h Q) : j_V jP d 61 40 lv [] h Q := by
  refine j_V.ldL yb6s_M yb6s_40 rfl (i := 1) (kd := 2) (v := .ref 181) (pcJ := 41) rfl L rfl rfl rfl ?_
  refine j_V.getK yb6s_M yb6s_41 (ci := 7) (j := 4) rfl K rfl rfl ?_
  refine j_V.one yb6s_M yb6s_44 (by decide) (pcJ := 45) (stJ := [.int 0, .ref 182]) rfl ?_
  refine j_V.ldL yb6s_M yb6s_45 rfl (i := 0) (kd := 2) (v := .ref 4) (pcJ := 46) rfl L rfl rfl rfl ?_
  refine j_V.getK yb6s_M yb6s_46 (ci := 7) (j := 4) rfl K rfl rfl ?_
  refine j_V.one yb6s_M yb6s_49 (by decide) (pcJ := 50) (stJ := [.int 0, .ref 5, .int 0, .ref 182]) rfl ?_
  refine j_V.one yb6s_M yb6s_50 (by decide) (pcJ := 51) (stJ := [.int 5, .int 0, .ref 5, .int 0, .ref 182]) rfl ?_
  refine j_V.acp yb6s_M yb6s_51 rfl rfl K rfl rfl rfl (fun h K => ?_)
  refine j_V.ldL yb6s_M yb6s_54 rfl (i := 1) (kd := 2) (v := .ref 181) (pcJ := 55) rfl L rfl rfl rfl ?_
  refine j_V.getK yb6s_M yb6s_55 (ci := 7) (j := 5) rfl K rfl rfl ?_
  refine j_V.one yb6s_M yb6s_58 (by decide) (pcJ := 59) (stJ := [.int 0, .ref 183]) rfl ?_
  refine j_V.ldL yb6s_M yb6s_59 rfl (i := 0) (kd := 2) (v := .ref 4) (pcJ := 60) rfl L rfl rfl rfl ?_
  refine j_V.getK yb6s_M yb6s_60 (ci := 7) (j := 5) rfl K rfl rfl ?_
  refine j_V.one yb6s_M yb6s_63 (by decide) (pcJ := 64) (stJ := [.int 0, .ref 6, .int 0, .ref 183]) rfl ?_
  refine j_V.one yb6s_M yb6s_64 (by decide) (pcJ := 65) (stJ := [.int 5, .int 0, .ref 6, .int 0, .ref 183]) rfl ?_
  refine j_V.acp yb6s_M yb6s_65 rfl rfl K rfl rfl rfl (fun h K => ?_)
  refine j_V.ldL yb6s_M yb6s_68 rfl (i := 1) (kd := 2) (v := .ref 181) (pcJ := 69) rfl L rfl rfl rfl ?_
  refine j_V.getK yb6s_M yb6s_69 (ci := 7) (j := 6) rfl K rfl rfl ?_
  refine j_V.one yb6s_M yb6s_72 (by decide) (pcJ := 73) (stJ := [.int 0, .ref 184]) rfl ?_
  refine j_V.ldL yb6s_M yb6s_73 rfl (i := 0) (kd := 2) (v := .ref 4) (pcJ := 74) rfl L rfl rfl rfl ?_
  refine j_V.getK yb6s_M yb6s_74 (ci := 7) (j := 6) rfl K rfl rfl ?_
  refine j_V.one yb6s_M yb6s_77 (by decide) (pcJ := 78) (stJ := [.int 0, .ref 7, .int 0, .ref 184]) rfl ?_
  refine j_V.one yb6s_M yb6s_78 (by decide) (pcJ := 79) (stJ := [.int 5, .int 0, .ref 7, .int 0, .ref 184]) rfl ?_
  refine j_V.acp yb6s_M yb6s_79 rfl rfl K rfl rfl rfl (fun h K => ?_)
  exact kk _ _ L K
set_option maxRecDepth 1000000 in
theorem yb6s_k82 {sp : List Int32} {ce : List Int32} {du : List Int32} {lys : Nat} {mis : Int32} {shus : Int32} {buss : Int32} {lkss : Int32} {sps : List Int32} {ces : List Int32} {dus : List Int32} {d : Nat} {lv : J_L} {h h0 : J_H} {Q : Option Value → J_H → Prop} (L : LK lv [(0, .ref 4), (1, .ref 181)]) (K : KN h [(4, .inl (7, [.ref lys, .int mis, .int shus, .int buss, .ref 5, .ref 6, .ref 7, .ref 8, .ref 9, .ref 10, .ref 11, .ref 12, .ref 13, .ref 14, .ref 15, .int lkss, .ref 16, .ref 17, .ref 20])), (8, .inr (.inl (0, sp))), (9, .inr (.inl (0, ce))), (10, .inr (.inl (0, du))), (181, .inl (7, [.ref lys, .int mis, .int shus, .int buss, .ref 182, .ref 183, .ref 184, .ref 185, .ref 186, .ref 187, .ref 188, .ref 189, .ref 190, .ref 191, .ref 192, .int lkss, .ref 193, .ref 194, .ref 197])), (185, .inr (.inl (0, sps))), (186, .inr (.inl (0, ces))), (187, .inr (.inl (0, dus)))] h0) (kk : ∀ lv h, LK lv [(0, .ref 4), (1, .ref 181)] → KN h [(4, .inl (7, [.ref lys, .int mis, .int shus, .int buss, .ref 5, .ref 6, .ref 7, .ref 8, .ref 9, .ref 10, .ref 11, .ref 12, .ref 13, .ref 14, .ref 15, .int lkss, .ref 16, .ref 17, .ref 20])), (8, .inr (.inl (0, (aC 5 sps sp)))), (9, .inr (.inl (0, (aC 5 ces ce)))), (10, .inr (.inl (0, (aC 5 dus du)))), (181, .inl (7, [.ref lys, .int mis, .int shus, .int buss, .ref 182, .ref 183, .ref 184, .ref 185, .ref 186, .ref 187, .ref 188, .ref 189, .ref 190, .ref 191, .ref 192, .int lkss, .ref 193, .ref 194, .ref 197])), (185, .inr (.inl (0, sps))), (186, .inr (.inl (0, ces))), (187, .inr (.inl (0, dus)))] h0 → j_V jP d 61 124 lv [] h Q) : j_V jP d 61 82 lv [] h Q := by
  refine j_V.ldL yb6s_M yb6s_82 rfl (i := 1) (kd := 2) (v := .ref 181) (pcJ := 83) rfl L rfl rfl rfl ?_
  refine j_V.getK yb6s_M yb6s_83 (ci := 7) (j := 7) rfl K rfl rfl ?_
  refine j_V.one yb6s_M yb6s_86 (by decide) (pcJ := 87) (stJ := [.int 0, .ref 185]) rfl ?_
  refine j_V.ldL yb6s_M yb6s_87 rfl (i := 0) (kd := 2) (v := .ref 4) (pcJ := 88) rfl L rfl rfl rfl ?_
  refine j_V.getK yb6s_M yb6s_88 (ci := 7) (j := 7) rfl K rfl rfl ?_
  refine j_V.one yb6s_M yb6s_91 (by decide) (pcJ := 92) (stJ := [.int 0, .ref 8, .int 0, .ref 185]) rfl ?_
  refine j_V.one yb6s_M yb6s_92 (by decide) (pcJ := 93) (stJ := [.int 5, .int 0, .ref 8, .int 0, .ref 185]) rfl ?_
  refine j_V.acp yb6s_M yb6s_93 rfl rfl K rfl rfl rfl (fun h K => ?_)
  refine j_V.ldL yb6s_M yb6s_96 rfl (i := 1) (kd := 2) (v := .ref 181) (pcJ := 97) rfl L rfl rfl rfl ?_
  refine j_V.getK yb6s_M yb6s_97 (ci := 7) (j := 8) rfl K rfl rfl ?_
  refine j_V.one yb6s_M yb6s_100 (by decide) (pcJ := 101) (stJ := [.int 0, .ref 186]) rfl ?_
  refine j_V.ldL yb6s_M yb6s_101 rfl (i := 0) (kd := 2) (v := .ref 4) (pcJ := 102) rfl L rfl rfl rfl ?_
  refine j_V.getK yb6s_M yb6s_102 (ci := 7) (j := 8) rfl K rfl rfl ?_
  refine j_V.one yb6s_M yb6s_105 (by decide) (pcJ := 106) (stJ := [.int 0, .ref 9, .int 0, .ref 186]) rfl ?_
  refine j_V.one yb6s_M yb6s_106 (by decide) (pcJ := 107) (stJ := [.int 5, .int 0, .ref 9, .int 0, .ref 186]) rfl ?_
  refine j_V.acp yb6s_M yb6s_107 rfl rfl K rfl rfl rfl (fun h K => ?_)
  refine j_V.ldL yb6s_M yb6s_110 rfl (i := 1) (kd := 2) (v := .ref 181) (pcJ := 111) rfl L rfl rfl rfl ?_
  refine j_V.getK yb6s_M yb6s_111 (ci := 7) (j := 9) rfl K rfl rfl ?_
  refine j_V.one yb6s_M yb6s_114 (by decide) (pcJ := 115) (stJ := [.int 0, .ref 187]) rfl ?_
  refine j_V.ldL yb6s_M yb6s_115 rfl (i := 0) (kd := 2) (v := .ref 4) (pcJ := 116) rfl L rfl rfl rfl ?_
  refine j_V.getK yb6s_M yb6s_116 (ci := 7) (j := 9) rfl K rfl rfl ?_
  refine j_V.one yb6s_M yb6s_119 (by decide) (pcJ := 120) (stJ := [.int 0, .ref 10, .int 0, .ref 187]) rfl ?_
  refine j_V.one yb6s_M yb6s_120 (by decide) (pcJ := 121) (stJ := [.int 5, .int 0, .ref 10, .int 0, .ref 187]) rfl ?_
  refine j_V.acp yb6s_M yb6s_121 rfl rfl K rfl rfl rfl (fun h K => ?_)
  exact kk _ _ L K
set_option maxRecDepth 1000000 in
theorem yb6s_k124 {he : List Int32} {ri : List Int32} {us : List Int32} {lys : Nat} {mis : Int32} {shus : Int32} {buss : Int32} {lkss : Int32} {hes : List Int32} {ris : List Int32} {uss : List Int32} {d : Nat} {lv : J_L} {h h0 : J_H} {Q : Option Value → J_H → Prop} (L : LK lv [(0, .ref 4), (1, .ref 181)]) (K : KN h [(4, .inl (7, [.ref lys, .int mis, .int shus, .int buss, .ref 5, .ref 6, .ref 7, .ref 8, .ref 9, .ref 10, .ref 11, .ref 12, .ref 13, .ref 14, .ref 15, .int lkss, .ref 16, .ref 17, .ref 20])), (11, .inr (.inl (0, he))), (12, .inr (.inl (0, ri))), (13, .inr (.inl (0, us))), (181, .inl (7, [.ref lys, .int mis, .int shus, .int buss, .ref 182, .ref 183, .ref 184, .ref 185, .ref 186, .ref 187, .ref 188, .ref 189, .ref 190, .ref 191, .ref 192, .int lkss, .ref 193, .ref 194, .ref 197])), (188, .inr (.inl (0, hes))), (189, .inr (.inl (0, ris))), (190, .inr (.inl (0, uss)))] h0) (kk : ∀ lv h, LK lv [(0, .ref 4), (1, .ref 181)] → KN h [(4, .inl (7, [.ref lys, .int mis, .int shus, .int buss, .ref 5, .ref 6, .ref 7, .ref 8, .ref 9, .ref 10, .ref 11, .ref 12, .ref 13, .ref 14, .ref 15, .int lkss, .ref 16, .ref 17, .ref 20])), (11, .inr (.inl (0, (aC 5 hes he)))), (12, .inr (.inl (0, (aC 6 ris ri)))), (13, .inr (.inl (0, (aC 6 uss us)))), (181, .inl (7, [.ref lys, .int mis, .int shus, .int buss, .ref 182, .ref 183, .ref 184, .ref 185, .ref 186, .ref 187, .ref 188, .ref 189, .ref 190, .ref 191, .ref 192, .int lkss, .ref 193, .ref 194, .ref 197])), (188, .inr (.inl (0, hes))), (189, .inr (.inl (0, ris))), (190, .inr (.inl (0, uss)))] h0 → j_V jP d 61 168 lv [] h Q) : j_V jP d 61 124 lv [] h Q := by
  refine j_V.ldL yb6s_M yb6s_124 rfl (i := 1) (kd := 2) (v := .ref 181) (pcJ := 125) rfl L rfl rfl rfl ?_
  refine j_V.getK yb6s_M yb6s_125 (ci := 7) (j := 10) rfl K rfl rfl ?_
  refine j_V.one yb6s_M yb6s_128 (by decide) (pcJ := 129) (stJ := [.int 0, .ref 188]) rfl ?_
  refine j_V.ldL yb6s_M yb6s_129 rfl (i := 0) (kd := 2) (v := .ref 4) (pcJ := 130) rfl L rfl rfl rfl ?_
  refine j_V.getK yb6s_M yb6s_130 (ci := 7) (j := 10) rfl K rfl rfl ?_
  refine j_V.one yb6s_M yb6s_133 (by decide) (pcJ := 134) (stJ := [.int 0, .ref 11, .int 0, .ref 188]) rfl ?_
  refine j_V.one yb6s_M yb6s_134 (by decide) (pcJ := 135) (stJ := [.int 5, .int 0, .ref 11, .int 0, .ref 188]) rfl ?_
  refine j_V.acp yb6s_M yb6s_135 rfl rfl K rfl rfl rfl (fun h K => ?_)
  refine j_V.ldL yb6s_M yb6s_138 rfl (i := 1) (kd := 2) (v := .ref 181) (pcJ := 139) rfl L rfl rfl rfl ?_
  refine j_V.getK yb6s_M yb6s_139 (ci := 7) (j := 11) rfl K rfl rfl ?_
  refine j_V.one yb6s_M yb6s_142 (by decide) (pcJ := 143) (stJ := [.int 0, .ref 189]) rfl ?_
  refine j_V.ldL yb6s_M yb6s_143 rfl (i := 0) (kd := 2) (v := .ref 4) (pcJ := 144) rfl L rfl rfl rfl ?_
  refine j_V.getK yb6s_M yb6s_144 (ci := 7) (j := 11) rfl K rfl rfl ?_
  refine j_V.one yb6s_M yb6s_147 (by decide) (pcJ := 148) (stJ := [.int 0, .ref 12, .int 0, .ref 189]) rfl ?_
  refine j_V.one yb6s_M yb6s_148 (by decide) (pcJ := 150) (stJ := [.int 6, .int 0, .ref 12, .int 0, .ref 189]) rfl ?_
  refine j_V.acp yb6s_M yb6s_150 rfl rfl K rfl rfl rfl (fun h K => ?_)
  refine j_V.ldL yb6s_M yb6s_153 rfl (i := 1) (kd := 2) (v := .ref 181) (pcJ := 154) rfl L rfl rfl rfl ?_
  refine j_V.getK yb6s_M yb6s_154 (ci := 7) (j := 12) rfl K rfl rfl ?_
  refine j_V.one yb6s_M yb6s_157 (by decide) (pcJ := 158) (stJ := [.int 0, .ref 190]) rfl ?_
  refine j_V.ldL yb6s_M yb6s_158 rfl (i := 0) (kd := 2) (v := .ref 4) (pcJ := 159) rfl L rfl rfl rfl ?_
  refine j_V.getK yb6s_M yb6s_159 (ci := 7) (j := 12) rfl K rfl rfl ?_
  refine j_V.one yb6s_M yb6s_162 (by decide) (pcJ := 163) (stJ := [.int 0, .ref 13, .int 0, .ref 190]) rfl ?_
  refine j_V.one yb6s_M yb6s_163 (by decide) (pcJ := 165) (stJ := [.int 6, .int 0, .ref 13, .int 0, .ref 190]) rfl ?_
  refine j_V.acp yb6s_M yb6s_165 rfl rfl K rfl rfl rfl (fun h K => ?_)
  exact kk _ _ L K
set_option maxRecDepth 1000000 in
theorem yb6s_k168 {cm : List Int32} {lf : List Int32} {lkd : List Int32} {lys : Nat} {mis : Int32} {shus : Int32} {buss : Int32} {lkss : Int32} {cms : List Int32} {lfs : List Int32} {lkds : List Int32} {d : Nat} {lv : J_L} {h h0 : J_H} {Q : Option Value → J_H → Prop} (L : LK lv [(0, .ref 4), (1, .ref 181)]) (K : KN h [(4, .inl (7, [.ref lys, .int mis, .int shus, .int buss, .ref 5, .ref 6, .ref 7, .ref 8, .ref 9, .ref 10, .ref 11, .ref 12, .ref 13, .ref 14, .ref 15, .int lkss, .ref 16, .ref 17, .ref 20])), (14, .inr (.inl (0, cm))), (15, .inr (.inl (0, lf))), (16, .inr (.inl (0, lkd))), (181, .inl (7, [.ref lys, .int mis, .int shus, .int buss, .ref 182, .ref 183, .ref 184, .ref 185, .ref 186, .ref 187, .ref 188, .ref 189, .ref 190, .ref 191, .ref 192, .int lkss, .ref 193, .ref 194, .ref 197])), (191, .inr (.inl (0, cms))), (192, .inr (.inl (0, lfs))), (193, .inr (.inl (0, lkds)))] h0) (kk : ∀ lv h, LK lv [(0, .ref 4), (1, .ref 181)] → KN h [(4, .inl (7, [.ref lys, .int mis, .int shus, .int buss, .ref 5, .ref 6, .ref 7, .ref 8, .ref 9, .ref 10, .ref 11, .ref 12, .ref 13, .ref 14, .ref 15, .int lkss, .ref 16, .ref 17, .ref 20])), (14, .inr (.inl (0, (aC (nI cm.length) cms cm)))), (15, .inr (.inl (0, (aC (nI lf.length) lfs lf)))), (16, .inr (.inl (0, (aC (nI lkd.length) lkds lkd)))), (181, .inl (7, [.ref lys, .int mis, .int shus, .int buss, .ref 182, .ref 183, .ref 184, .ref 185, .ref 186, .ref 187, .ref 188, .ref 189, .ref 190, .ref 191, .ref 192, .int lkss, .ref 193, .ref 194, .ref 197])), (191, .inr (.inl (0, cms))), (192, .inr (.inl (0, lfs))), (193, .inr (.inl (0, lkds)))] h0 → j_V jP d 61 222 lv [] h Q) : j_V jP d 61 168 lv [] h Q := by
  refine j_V.ldL yb6s_M yb6s_168 rfl (i := 1) (kd := 2) (v := .ref 181) (pcJ := 169) rfl L rfl rfl rfl ?_
  refine j_V.getK yb6s_M yb6s_169 (ci := 7) (j := 13) rfl K rfl rfl ?_
  refine j_V.one yb6s_M yb6s_172 (by decide) (pcJ := 173) (stJ := [.int 0, .ref 191]) rfl ?_
  refine j_V.ldL yb6s_M yb6s_173 rfl (i := 0) (kd := 2) (v := .ref 4) (pcJ := 174) rfl L rfl rfl rfl ?_
  refine j_V.getK yb6s_M yb6s_174 (ci := 7) (j := 13) rfl K rfl rfl ?_
  refine j_V.one yb6s_M yb6s_177 (by decide) (pcJ := 178) (stJ := [.int 0, .ref 14, .int 0, .ref 191]) rfl ?_
  refine j_V.ldL yb6s_M yb6s_178 rfl (i := 0) (kd := 2) (v := .ref 4) (pcJ := 179) rfl L rfl rfl rfl ?_
  refine j_V.getK yb6s_M yb6s_179 (ci := 7) (j := 13) rfl K rfl rfl ?_
  refine j_V.alnA yb6s_M yb6s_182 K rfl ?_
  refine j_V.acp yb6s_M yb6s_183 rfl rfl K rfl rfl rfl (fun h K => ?_)
  refine j_V.ldL yb6s_M yb6s_186 rfl (i := 1) (kd := 2) (v := .ref 181) (pcJ := 187) rfl L rfl rfl rfl ?_
  refine j_V.getK yb6s_M yb6s_187 (ci := 7) (j := 14) rfl K rfl rfl ?_
  refine j_V.one yb6s_M yb6s_190 (by decide) (pcJ := 191) (stJ := [.int 0, .ref 192]) rfl ?_
  refine j_V.ldL yb6s_M yb6s_191 rfl (i := 0) (kd := 2) (v := .ref 4) (pcJ := 192) rfl L rfl rfl rfl ?_
  refine j_V.getK yb6s_M yb6s_192 (ci := 7) (j := 14) rfl K rfl rfl ?_
  refine j_V.one yb6s_M yb6s_195 (by decide) (pcJ := 196) (stJ := [.int 0, .ref 15, .int 0, .ref 192]) rfl ?_
  refine j_V.ldL yb6s_M yb6s_196 rfl (i := 0) (kd := 2) (v := .ref 4) (pcJ := 197) rfl L rfl rfl rfl ?_
  refine j_V.getK yb6s_M yb6s_197 (ci := 7) (j := 14) rfl K rfl rfl ?_
  refine j_V.alnA yb6s_M yb6s_200 K rfl ?_
  refine j_V.acp yb6s_M yb6s_201 rfl rfl K rfl rfl rfl (fun h K => ?_)
  refine j_V.ldL yb6s_M yb6s_204 rfl (i := 1) (kd := 2) (v := .ref 181) (pcJ := 205) rfl L rfl rfl rfl ?_
  refine j_V.getK yb6s_M yb6s_205 (ci := 7) (j := 16) rfl K rfl rfl ?_
  refine j_V.one yb6s_M yb6s_208 (by decide) (pcJ := 209) (stJ := [.int 0, .ref 193]) rfl ?_
  refine j_V.ldL yb6s_M yb6s_209 rfl (i := 0) (kd := 2) (v := .ref 4) (pcJ := 210) rfl L rfl rfl rfl ?_
  refine j_V.getK yb6s_M yb6s_210 (ci := 7) (j := 16) rfl K rfl rfl ?_
  refine j_V.one yb6s_M yb6s_213 (by decide) (pcJ := 214) (stJ := [.int 0, .ref 16, .int 0, .ref 193]) rfl ?_
  refine j_V.ldL yb6s_M yb6s_214 rfl (i := 0) (kd := 2) (v := .ref 4) (pcJ := 215) rfl L rfl rfl rfl ?_
  refine j_V.getK yb6s_M yb6s_215 (ci := 7) (j := 16) rfl K rfl rfl ?_
  refine j_V.alnA yb6s_M yb6s_218 K rfl ?_
  refine j_V.acp yb6s_M yb6s_219 rfl rfl K rfl rfl rfl (fun h K => ?_)
  exact kk _ _ L K
set_option maxRecDepth 1000000 in
theorem yb6s_ok {ly : Value} {mi : Int32} {shu : Int32} {bus : Int32} {lks : Int32} {rk : List Int32} {sta : List Int32} {ph : List Int32} {sp : List Int32} {ce : List Int32} {du : List Int32} {he : List Int32} {ri : List Int32} {us : List Int32} {cm : List Int32} {lf : List Int32} {lkd : List Int32} {pev : Int32} {pms : List Int32} {pmm : List Int32} {pmt : List Int32} {pst : List Int32} {pwa : List Int32} {prs : List Int32} {prr : List Int32} {pfa : List Int32} {lys : Nat} {mis : Int32} {shus : Int32} {buss : Int32} {lkss : Int32} {rks : List Int32} {stas : List Int32} {phs : List Int32} {sps : List Int32} {ces : List Int32} {dus : List Int32} {hes : List Int32} {ris : List Int32} {uss : List Int32} {cms : List Int32} {lfs : List Int32} {lkds : List Int32} {pevs : Int32} {pmss : List Int32} {pmms : List Int32} {pmts : List Int32} {psts : List Int32} {pwas : List Int32} {prss : List Int32} {prrs : List Int32} {pfas : List Int32} {d : Nat} {h h0 : J_H} (K : KN h [(4, .inl (7, [ly, .int mi, .int shu, .int bus, .ref 5, .ref 6, .ref 7, .ref 8, .ref 9, .ref 10, .ref 11, .ref 12, .ref 13, .ref 14, .ref 15, .int lks, .ref 16, .ref 17, .ref 20])), (5, .inr (.inl (0, rk))), (6, .inr (.inl (0, sta))), (7, .inr (.inl (0, ph))), (8, .inr (.inl (0, sp))), (9, .inr (.inl (0, ce))), (10, .inr (.inl (0, du))), (11, .inr (.inl (0, he))), (12, .inr (.inl (0, ri))), (13, .inr (.inl (0, us))), (14, .inr (.inl (0, cm))), (15, .inr (.inl (0, lf))), (16, .inr (.inl (0, lkd))), (20, .inl (3, [.ref 21, .ref 22, .ref 23, .ref 24, .ref 25, .ref 26, .ref 27, .ref 28, .int pev, .int 1])), (21, .inr (.inl (0, pms))), (22, .inr (.inl (0, pmm))), (23, .inr (.inl (0, pmt))), (24, .inr (.inl (0, pst))), (25, .inr (.inl (0, pwa))), (26, .inr (.inl (0, prs))), (27, .inr (.inl (0, prr))), (28, .inr (.inl (0, pfa))), (181, .inl (7, [.ref lys, .int mis, .int shus, .int buss, .ref 182, .ref 183, .ref 184, .ref 185, .ref 186, .ref 187, .ref 188, .ref 189, .ref 190, .ref 191, .ref 192, .int lkss, .ref 193, .ref 194, .ref 197])), (182, .inr (.inl (0, rks))), (183, .inr (.inl (0, stas))), (184, .inr (.inl (0, phs))), (185, .inr (.inl (0, sps))), (186, .inr (.inl (0, ces))), (187, .inr (.inl (0, dus))), (188, .inr (.inl (0, hes))), (189, .inr (.inl (0, ris))), (190, .inr (.inl (0, uss))), (191, .inr (.inl (0, cms))), (192, .inr (.inl (0, lfs))), (193, .inr (.inl (0, lkds))), (197, .inl (3, [.ref 198, .ref 199, .ref 200, .ref 201, .ref 202, .ref 203, .ref 204, .ref 205, .int pevs, .int 1])), (198, .inr (.inl (0, pmss))), (199, .inr (.inl (0, pmms))), (200, .inr (.inl (0, pmts))), (201, .inr (.inl (0, psts))), (202, .inr (.inl (0, pwas))), (203, .inr (.inl (0, prss))), (204, .inr (.inl (0, prrs))), (205, .inr (.inl (0, pfas)))] h0) : j_V jP d 61 0 (lv_args 0 [.ref 4, .ref 181]) [] h (fun rv h' => rv = none ∧ KN h' [(4, .inl (7, [.ref lys, .int mis, .int shus, .int buss, .ref 5, .ref 6, .ref 7, .ref 8, .ref 9, .ref 10, .ref 11, .ref 12, .ref 13, .ref 14, .ref 15, .int lkss, .ref 16, .ref 17, .ref 20])), (5, .inr (.inl (0, (aC 5 rks rk)))), (6, .inr (.inl (0, (aC 5 stas sta)))), (7, .inr (.inl (0, (aC 5 phs ph)))), (8, .inr (.inl (0, (aC 5 sps sp)))), (9, .inr (.inl (0, (aC 5 ces ce)))), (10, .inr (.inl (0, (aC 5 dus du)))), (11, .inr (.inl (0, (aC 5 hes he)))), (12, .inr (.inl (0, (aC 6 ris ri)))), (13, .inr (.inl (0, (aC 6 uss us)))), (14, .inr (.inl (0, (aC (nI cm.length) cms cm)))), (15, .inr (.inl (0, (aC (nI lf.length) lfs lf)))), (16, .inr (.inl (0, (aC (nI lkd.length) lkds lkd)))), (20, .inl (3, [.ref 21, .ref 22, .ref 23, .ref 24, .ref 25, .ref 26, .ref 27, .ref 28, .int pevs, .int 1])), (21, .inr (.inl (0, (aC (nI pms.length) pmss pms)))), (22, .inr (.inl (0, (aC (nI pmm.length) pmms pmm)))), (23, .inr (.inl (0, (aC (nI pmt.length) pmts pmt)))), (24, .inr (.inl (0, (aC (nI pst.length) psts pst)))), (25, .inr (.inl (0, (aC (nI pwa.length) pwas pwa)))), (26, .inr (.inl (0, (aC (nI prs.length) prss prs)))), (27, .inr (.inl (0, (aC (nI prr.length) prrs prr)))), (28, .inr (.inl (0, (aC (nI pfa.length) pfas pfa)))), (181, .inl (7, [.ref lys, .int mis, .int shus, .int buss, .ref 182, .ref 183, .ref 184, .ref 185, .ref 186, .ref 187, .ref 188, .ref 189, .ref 190, .ref 191, .ref 192, .int lkss, .ref 193, .ref 194, .ref 197])), (182, .inr (.inl (0, rks))), (183, .inr (.inl (0, stas))), (184, .inr (.inl (0, phs))), (185, .inr (.inl (0, sps))), (186, .inr (.inl (0, ces))), (187, .inr (.inl (0, dus))), (188, .inr (.inl (0, hes))), (189, .inr (.inl (0, ris))), (190, .inr (.inl (0, uss))), (191, .inr (.inl (0, cms))), (192, .inr (.inl (0, lfs))), (193, .inr (.inl (0, lkds))), (197, .inl (3, [.ref 198, .ref 199, .ref 200, .ref 201, .ref 202, .ref 203, .ref 204, .ref 205, .int pevs, .int 1])), (198, .inr (.inl (0, pmss))), (199, .inr (.inl (0, pmms))), (200, .inr (.inl (0, pmts))), (201, .inr (.inl (0, psts))), (202, .inr (.inl (0, pwas))), (203, .inr (.inl (0, prss))), (204, .inr (.inl (0, prrs))), (205, .inr (.inl (0, pfas)))] h0) := by
  show j_V jP d 61 0 [(0, .ref 4), (1, .ref 181)] [] h _
  obtain ⟨lv, elv, L⟩ : ∃ lv, lv = [(0, .ref 4), (1, .ref 181)] ∧ LK lv [(0, .ref 4), (1, .ref 181)] := ⟨_, rfl, LK.rf⟩
  rw [← elv]
  clear elv
  refine yb6s_k0 L (K.fi [4, 181] rfl rfl) (fun lv h9 L K9 => ?_)
  have K : KN h9 [(4, .inl (7, [.ref lys, .int mis, .int shus, .int buss, .ref 5, .ref 6, .ref 7, .ref 8, .ref 9, .ref 10, .ref 11, .ref 12, .ref 13, .ref 14, .ref 15, .int lkss, .ref 16, .ref 17, .ref 20])), (5, .inr (.inl (0, rk))), (6, .inr (.inl (0, sta))), (7, .inr (.inl (0, ph))), (8, .inr (.inl (0, sp))), (9, .inr (.inl (0, ce))), (10, .inr (.inl (0, du))), (11, .inr (.inl (0, he))), (12, .inr (.inl (0, ri))), (13, .inr (.inl (0, us))), (14, .inr (.inl (0, cm))), (15, .inr (.inl (0, lf))), (16, .inr (.inl (0, lkd))), (20, .inl (3, [.ref 21, .ref 22, .ref 23, .ref 24, .ref 25, .ref 26, .ref 27, .ref 28, .int pev, .int 1])), (21, .inr (.inl (0, pms))), (22, .inr (.inl (0, pmm))), (23, .inr (.inl (0, pmt))), (24, .inr (.inl (0, pst))), (25, .inr (.inl (0, pwa))), (26, .inr (.inl (0, prs))), (27, .inr (.inl (0, prr))), (28, .inr (.inl (0, pfa))), (181, .inl (7, [.ref lys, .int mis, .int shus, .int buss, .ref 182, .ref 183, .ref 184, .ref 185, .ref 186, .ref 187, .ref 188, .ref 189, .ref 190, .ref 191, .ref 192, .int lkss, .ref 193, .ref 194, .ref 197])), (182, .inr (.inl (0, rks))), (183, .inr (.inl (0, stas))), (184, .inr (.inl (0, phs))), (185, .inr (.inl (0, sps))), (186, .inr (.inl (0, ces))), (187, .inr (.inl (0, dus))), (188, .inr (.inl (0, hes))), (189, .inr (.inl (0, ris))), (190, .inr (.inl (0, uss))), (191, .inr (.inl (0, cms))), (192, .inr (.inl (0, lfs))), (193, .inr (.inl (0, lkds))), (197, .inl (3, [.ref 198, .ref 199, .ref 200, .ref 201, .ref 202, .ref 203, .ref 204, .ref 205, .int pevs, .int 1])), (198, .inr (.inl (0, pmss))), (199, .inr (.inl (0, pmms))), (200, .inr (.inl (0, pmts))), (201, .inr (.inl (0, psts))), (202, .inr (.inl (0, pwas))), (203, .inr (.inl (0, prss))), (204, .inr (.inl (0, prrs))), (205, .inr (.inl (0, pfas)))] h0 := K.mg K9 rfl rfl
  clear K9
  refine yb6s_k40 L (K.fi [4, 5, 6, 7, 181, 182, 183, 184] rfl rfl) (fun lv h9 L K9 => ?_)
  have K : KN h9 [(4, .inl (7, [.ref lys, .int mis, .int shus, .int buss, .ref 5, .ref 6, .ref 7, .ref 8, .ref 9, .ref 10, .ref 11, .ref 12, .ref 13, .ref 14, .ref 15, .int lkss, .ref 16, .ref 17, .ref 20])), (5, .inr (.inl (0, (aC 5 rks rk)))), (6, .inr (.inl (0, (aC 5 stas sta)))), (7, .inr (.inl (0, (aC 5 phs ph)))), (8, .inr (.inl (0, sp))), (9, .inr (.inl (0, ce))), (10, .inr (.inl (0, du))), (11, .inr (.inl (0, he))), (12, .inr (.inl (0, ri))), (13, .inr (.inl (0, us))), (14, .inr (.inl (0, cm))), (15, .inr (.inl (0, lf))), (16, .inr (.inl (0, lkd))), (20, .inl (3, [.ref 21, .ref 22, .ref 23, .ref 24, .ref 25, .ref 26, .ref 27, .ref 28, .int pev, .int 1])), (21, .inr (.inl (0, pms))), (22, .inr (.inl (0, pmm))), (23, .inr (.inl (0, pmt))), (24, .inr (.inl (0, pst))), (25, .inr (.inl (0, pwa))), (26, .inr (.inl (0, prs))), (27, .inr (.inl (0, prr))), (28, .inr (.inl (0, pfa))), (181, .inl (7, [.ref lys, .int mis, .int shus, .int buss, .ref 182, .ref 183, .ref 184, .ref 185, .ref 186, .ref 187, .ref 188, .ref 189, .ref 190, .ref 191, .ref 192, .int lkss, .ref 193, .ref 194, .ref 197])), (182, .inr (.inl (0, rks))), (183, .inr (.inl (0, stas))), (184, .inr (.inl (0, phs))), (185, .inr (.inl (0, sps))), (186, .inr (.inl (0, ces))), (187, .inr (.inl (0, dus))), (188, .inr (.inl (0, hes))), (189, .inr (.inl (0, ris))), (190, .inr (.inl (0, uss))), (191, .inr (.inl (0, cms))), (192, .inr (.inl (0, lfs))), (193, .inr (.inl (0, lkds))), (197, .inl (3, [.ref 198, .ref 199, .ref 200, .ref 201, .ref 202, .ref 203, .ref 204, .ref 205, .int pevs, .int 1])), (198, .inr (.inl (0, pmss))), (199, .inr (.inl (0, pmms))), (200, .inr (.inl (0, pmts))), (201, .inr (.inl (0, psts))), (202, .inr (.inl (0, pwas))), (203, .inr (.inl (0, prss))), (204, .inr (.inl (0, prrs))), (205, .inr (.inl (0, pfas)))] h0 := K.mg K9 rfl rfl
  clear K9
  refine yb6s_k82 L (K.fi [4, 8, 9, 10, 181, 185, 186, 187] rfl rfl) (fun lv h9 L K9 => ?_)
  have K : KN h9 [(4, .inl (7, [.ref lys, .int mis, .int shus, .int buss, .ref 5, .ref 6, .ref 7, .ref 8, .ref 9, .ref 10, .ref 11, .ref 12, .ref 13, .ref 14, .ref 15, .int lkss, .ref 16, .ref 17, .ref 20])), (5, .inr (.inl (0, (aC 5 rks rk)))), (6, .inr (.inl (0, (aC 5 stas sta)))), (7, .inr (.inl (0, (aC 5 phs ph)))), (8, .inr (.inl (0, (aC 5 sps sp)))), (9, .inr (.inl (0, (aC 5 ces ce)))), (10, .inr (.inl (0, (aC 5 dus du)))), (11, .inr (.inl (0, he))), (12, .inr (.inl (0, ri))), (13, .inr (.inl (0, us))), (14, .inr (.inl (0, cm))), (15, .inr (.inl (0, lf))), (16, .inr (.inl (0, lkd))), (20, .inl (3, [.ref 21, .ref 22, .ref 23, .ref 24, .ref 25, .ref 26, .ref 27, .ref 28, .int pev, .int 1])), (21, .inr (.inl (0, pms))), (22, .inr (.inl (0, pmm))), (23, .inr (.inl (0, pmt))), (24, .inr (.inl (0, pst))), (25, .inr (.inl (0, pwa))), (26, .inr (.inl (0, prs))), (27, .inr (.inl (0, prr))), (28, .inr (.inl (0, pfa))), (181, .inl (7, [.ref lys, .int mis, .int shus, .int buss, .ref 182, .ref 183, .ref 184, .ref 185, .ref 186, .ref 187, .ref 188, .ref 189, .ref 190, .ref 191, .ref 192, .int lkss, .ref 193, .ref 194, .ref 197])), (182, .inr (.inl (0, rks))), (183, .inr (.inl (0, stas))), (184, .inr (.inl (0, phs))), (185, .inr (.inl (0, sps))), (186, .inr (.inl (0, ces))), (187, .inr (.inl (0, dus))), (188, .inr (.inl (0, hes))), (189, .inr (.inl (0, ris))), (190, .inr (.inl (0, uss))), (191, .inr (.inl (0, cms))), (192, .inr (.inl (0, lfs))), (193, .inr (.inl (0, lkds))), (197, .inl (3, [.ref 198, .ref 199, .ref 200, .ref 201, .ref 202, .ref 203, .ref 204, .ref 205, .int pevs, .int 1])), (198, .inr (.inl (0, pmss))), (199, .inr (.inl (0, pmms))), (200, .inr (.inl (0, pmts))), (201, .inr (.inl (0, psts))), (202, .inr (.inl (0, pwas))), (203, .inr (.inl (0, prss))), (204, .inr (.inl (0, prrs))), (205, .inr (.inl (0, pfas)))] h0 := K.mg K9 rfl rfl
  clear K9
  refine yb6s_k124 L (K.fi [4, 11, 12, 13, 181, 188, 189, 190] rfl rfl) (fun lv h9 L K9 => ?_)
  have K : KN h9 [(4, .inl (7, [.ref lys, .int mis, .int shus, .int buss, .ref 5, .ref 6, .ref 7, .ref 8, .ref 9, .ref 10, .ref 11, .ref 12, .ref 13, .ref 14, .ref 15, .int lkss, .ref 16, .ref 17, .ref 20])), (5, .inr (.inl (0, (aC 5 rks rk)))), (6, .inr (.inl (0, (aC 5 stas sta)))), (7, .inr (.inl (0, (aC 5 phs ph)))), (8, .inr (.inl (0, (aC 5 sps sp)))), (9, .inr (.inl (0, (aC 5 ces ce)))), (10, .inr (.inl (0, (aC 5 dus du)))), (11, .inr (.inl (0, (aC 5 hes he)))), (12, .inr (.inl (0, (aC 6 ris ri)))), (13, .inr (.inl (0, (aC 6 uss us)))), (14, .inr (.inl (0, cm))), (15, .inr (.inl (0, lf))), (16, .inr (.inl (0, lkd))), (20, .inl (3, [.ref 21, .ref 22, .ref 23, .ref 24, .ref 25, .ref 26, .ref 27, .ref 28, .int pev, .int 1])), (21, .inr (.inl (0, pms))), (22, .inr (.inl (0, pmm))), (23, .inr (.inl (0, pmt))), (24, .inr (.inl (0, pst))), (25, .inr (.inl (0, pwa))), (26, .inr (.inl (0, prs))), (27, .inr (.inl (0, prr))), (28, .inr (.inl (0, pfa))), (181, .inl (7, [.ref lys, .int mis, .int shus, .int buss, .ref 182, .ref 183, .ref 184, .ref 185, .ref 186, .ref 187, .ref 188, .ref 189, .ref 190, .ref 191, .ref 192, .int lkss, .ref 193, .ref 194, .ref 197])), (182, .inr (.inl (0, rks))), (183, .inr (.inl (0, stas))), (184, .inr (.inl (0, phs))), (185, .inr (.inl (0, sps))), (186, .inr (.inl (0, ces))), (187, .inr (.inl (0, dus))), (188, .inr (.inl (0, hes))), (189, .inr (.inl (0, ris))), (190, .inr (.inl (0, uss))), (191, .inr (.inl (0, cms))), (192, .inr (.inl (0, lfs))), (193, .inr (.inl (0, lkds))), (197, .inl (3, [.ref 198, .ref 199, .ref 200, .ref 201, .ref 202, .ref 203, .ref 204, .ref 205, .int pevs, .int 1])), (198, .inr (.inl (0, pmss))), (199, .inr (.inl (0, pmms))), (200, .inr (.inl (0, pmts))), (201, .inr (.inl (0, psts))), (202, .inr (.inl (0, pwas))), (203, .inr (.inl (0, prss))), (204, .inr (.inl (0, prrs))), (205, .inr (.inl (0, pfas)))] h0 := K.mg K9 rfl rfl
  clear K9
  refine yb6s_k168 L (K.fi [4, 14, 15, 16, 181, 191, 192, 193] rfl rfl) (fun lv h9 L K9 => ?_)
  have K : KN h9 [(4, .inl (7, [.ref lys, .int mis, .int shus, .int buss, .ref 5, .ref 6, .ref 7, .ref 8, .ref 9, .ref 10, .ref 11, .ref 12, .ref 13, .ref 14, .ref 15, .int lkss, .ref 16, .ref 17, .ref 20])), (5, .inr (.inl (0, (aC 5 rks rk)))), (6, .inr (.inl (0, (aC 5 stas sta)))), (7, .inr (.inl (0, (aC 5 phs ph)))), (8, .inr (.inl (0, (aC 5 sps sp)))), (9, .inr (.inl (0, (aC 5 ces ce)))), (10, .inr (.inl (0, (aC 5 dus du)))), (11, .inr (.inl (0, (aC 5 hes he)))), (12, .inr (.inl (0, (aC 6 ris ri)))), (13, .inr (.inl (0, (aC 6 uss us)))), (14, .inr (.inl (0, (aC (nI cm.length) cms cm)))), (15, .inr (.inl (0, (aC (nI lf.length) lfs lf)))), (16, .inr (.inl (0, (aC (nI lkd.length) lkds lkd)))), (20, .inl (3, [.ref 21, .ref 22, .ref 23, .ref 24, .ref 25, .ref 26, .ref 27, .ref 28, .int pev, .int 1])), (21, .inr (.inl (0, pms))), (22, .inr (.inl (0, pmm))), (23, .inr (.inl (0, pmt))), (24, .inr (.inl (0, pst))), (25, .inr (.inl (0, pwa))), (26, .inr (.inl (0, prs))), (27, .inr (.inl (0, prr))), (28, .inr (.inl (0, pfa))), (181, .inl (7, [.ref lys, .int mis, .int shus, .int buss, .ref 182, .ref 183, .ref 184, .ref 185, .ref 186, .ref 187, .ref 188, .ref 189, .ref 190, .ref 191, .ref 192, .int lkss, .ref 193, .ref 194, .ref 197])), (182, .inr (.inl (0, rks))), (183, .inr (.inl (0, stas))), (184, .inr (.inl (0, phs))), (185, .inr (.inl (0, sps))), (186, .inr (.inl (0, ces))), (187, .inr (.inl (0, dus))), (188, .inr (.inl (0, hes))), (189, .inr (.inl (0, ris))), (190, .inr (.inl (0, uss))), (191, .inr (.inl (0, cms))), (192, .inr (.inl (0, lfs))), (193, .inr (.inl (0, lkds))), (197, .inl (3, [.ref 198, .ref 199, .ref 200, .ref 201, .ref 202, .ref 203, .ref 204, .ref 205, .int pevs, .int 1])), (198, .inr (.inl (0, pmss))), (199, .inr (.inl (0, pmms))), (200, .inr (.inl (0, pmts))), (201, .inr (.inl (0, psts))), (202, .inr (.inl (0, pwas))), (203, .inr (.inl (0, prss))), (204, .inr (.inl (0, prrs))), (205, .inr (.inl (0, pfas)))] h0 := K.mg K9 rfl rfl
  clear K9
  refine j_V.ldL yb6s_M yb6s_222 rfl (i := 0) (kd := 2) (v := .ref 4) (pcJ := 223) rfl L rfl rfl rfl ?_
  refine j_V.getK yb6s_M yb6s_223 (ci := 7) (j := 18) rfl K rfl rfl ?_
  refine j_V.ldL yb6s_M yb6s_226 rfl (i := 1) (kd := 2) (v := .ref 181) (pcJ := 227) rfl L rfl rfl rfl ?_
  refine j_V.getK yb6s_M yb6s_227 (ci := 7) (j := 18) rfl K rfl rfl ?_
  refine j_V.cl yb6s_M yb6s_230 rfl (md := 3) (mj := 28) rfl (by decide) yb6p_M (As := [.ref 20, .ref 197]) (rest := []) (jk_spl3 (K.at rfl) rfl rfl rfl (Nat.le_of_ble_eq_true rfl) (Nat.le_of_ble_eq_true rfl)) (fun d => yb6p_ok (K.fi [20, 21, 22, 23, 24, 25, 26, 27, 28, 197, 198, 199, 200, 201, 202, 203, 204, 205] rfl rfl)) ?_
  rintro r h9 ⟨rfl, K9⟩
  have K : KN h9 [(4, .inl (7, [.ref lys, .int mis, .int shus, .int buss, .ref 5, .ref 6, .ref 7, .ref 8, .ref 9, .ref 10, .ref 11, .ref 12, .ref 13, .ref 14, .ref 15, .int lkss, .ref 16, .ref 17, .ref 20])), (5, .inr (.inl (0, (aC 5 rks rk)))), (6, .inr (.inl (0, (aC 5 stas sta)))), (7, .inr (.inl (0, (aC 5 phs ph)))), (8, .inr (.inl (0, (aC 5 sps sp)))), (9, .inr (.inl (0, (aC 5 ces ce)))), (10, .inr (.inl (0, (aC 5 dus du)))), (11, .inr (.inl (0, (aC 5 hes he)))), (12, .inr (.inl (0, (aC 6 ris ri)))), (13, .inr (.inl (0, (aC 6 uss us)))), (14, .inr (.inl (0, (aC (nI cm.length) cms cm)))), (15, .inr (.inl (0, (aC (nI lf.length) lfs lf)))), (16, .inr (.inl (0, (aC (nI lkd.length) lkds lkd)))), (20, .inl (3, [.ref 21, .ref 22, .ref 23, .ref 24, .ref 25, .ref 26, .ref 27, .ref 28, .int pevs, .int 1])), (21, .inr (.inl (0, (aC (nI pms.length) pmss pms)))), (22, .inr (.inl (0, (aC (nI pmm.length) pmms pmm)))), (23, .inr (.inl (0, (aC (nI pmt.length) pmts pmt)))), (24, .inr (.inl (0, (aC (nI pst.length) psts pst)))), (25, .inr (.inl (0, (aC (nI pwa.length) pwas pwa)))), (26, .inr (.inl (0, (aC (nI prs.length) prss prs)))), (27, .inr (.inl (0, (aC (nI prr.length) prrs prr)))), (28, .inr (.inl (0, (aC (nI pfa.length) pfas pfa)))), (181, .inl (7, [.ref lys, .int mis, .int shus, .int buss, .ref 182, .ref 183, .ref 184, .ref 185, .ref 186, .ref 187, .ref 188, .ref 189, .ref 190, .ref 191, .ref 192, .int lkss, .ref 193, .ref 194, .ref 197])), (182, .inr (.inl (0, rks))), (183, .inr (.inl (0, stas))), (184, .inr (.inl (0, phs))), (185, .inr (.inl (0, sps))), (186, .inr (.inl (0, ces))), (187, .inr (.inl (0, dus))), (188, .inr (.inl (0, hes))), (189, .inr (.inl (0, ris))), (190, .inr (.inl (0, uss))), (191, .inr (.inl (0, cms))), (192, .inr (.inl (0, lfs))), (193, .inr (.inl (0, lkds))), (197, .inl (3, [.ref 198, .ref 199, .ref 200, .ref 201, .ref 202, .ref 203, .ref 204, .ref 205, .int pevs, .int 1])), (198, .inr (.inl (0, pmss))), (199, .inr (.inl (0, pmms))), (200, .inr (.inl (0, pmts))), (201, .inr (.inl (0, psts))), (202, .inr (.inl (0, pwas))), (203, .inr (.inl (0, prss))), (204, .inr (.inl (0, prrs))), (205, .inr (.inl (0, pfas)))] h0 := K.mg K9 rfl rfl
  clear K9
  show j_V jP _ 61 233 lv [] h9 _
  exact j_V.ret yb6s_M yb6s_233 rfl rfl ⟨rfl, K⟩
set_option maxRecDepth 100000 in
theorem yb6m_M : j_meth jP 3 = some (yX0_takeBack, cX0_takeBack, 2, none, 1, false, 0) := rfl
set_option maxRecDepth 100000 in
theorem yb6m_0 : j_code jP 3 0 = some (.aload_n 0) := rfl
set_option maxRecDepth 100000 in
theorem yb6m_1 : j_code jP 3 1 = some (.aload_n 0) := rfl
set_option maxRecDepth 100000 in
theorem yb6m_2 : j_code jP 3 2 = some (.getfield 24) := rfl
set_option maxRecDepth 100000 in
theorem yb6m_5 : j_code jP 3 5 = some (.bipush 10) := rfl
set_option maxRecDepth 100000 in
theorem yb6m_7 : j_code jP 3 7 = some (.iadd) := rfl
set_option maxRecDepth 100000 in
theorem yb6m_8 : j_code jP 3 8 = some (.iconst 1) := rfl
set_option maxRecDepth 100000 in
theorem yb6m_9 : j_code jP 3 9 = some (.isub) := rfl
set_option maxRecDepth 100000 in
theorem yb6m_10 : j_code jP 3 10 = some (.bipush 10) := rfl
set_option maxRecDepth 100000 in
theorem yb6m_12 : j_code jP 3 12 = some (.irem) := rfl
set_option maxRecDepth 100000 in
theorem yb6m_13 : j_code jP 3 13 = some (.putfield 24) := rfl
set_option maxRecDepth 100000 in
theorem yb6m_16 : j_code jP 3 16 = some (.aload_n 0) := rfl
set_option maxRecDepth 100000 in
theorem yb6m_17 : j_code jP 3 17 = some (.dup) := rfl
set_option maxRecDepth 100000 in
theorem yb6m_18 : j_code jP 3 18 = some (.getfield 20) := rfl
set_option maxRecDepth 100000 in
theorem yb6m_21 : j_code jP 3 21 = some (.iconst 1) := rfl
set_option maxRecDepth 100000 in
theorem yb6m_22 : j_code jP 3 22 = some (.isub) := rfl
set_option maxRecDepth 100000 in
theorem yb6m_23 : j_code jP 3 23 = some (.putfield 20) := rfl
set_option maxRecDepth 100000 in
theorem yb6m_26 : j_code jP 3 26 = some (.aload_n 1) := rfl
set_option maxRecDepth 100000 in
theorem yb6m_27 : j_code jP 3 27 = some (.aload_n 0) := rfl
set_option maxRecDepth 100000 in
theorem yb6m_28 : j_code jP 3 28 = some (.getfield 11) := rfl
set_option maxRecDepth 100000 in
theorem yb6m_31 : j_code jP 3 31 = some (.aload_n 0) := rfl
set_option maxRecDepth 100000 in
theorem yb6m_32 : j_code jP 3 32 = some (.getfield 24) := rfl
set_option maxRecDepth 100000 in
theorem yb6m_35 : j_code jP 3 35 = some (.aaload) := rfl
set_option maxRecDepth 100000 in
theorem yb6m_36 : j_code jP 3 36 = some (.invokevirtual 27) := rfl
set_option maxRecDepth 100000 in
theorem yb6m_39 : j_code jP 3 39 = some (.return_) := rfl
set_option maxRecDepth 1000000 in
theorem yb6m_ok {ly : Value} {mi : Int32} {shu : Int32} {bus : Int32} {lks : Int32} {rk : List Int32} {sta : List Int32} {ph : List Int32} {sp : List Int32} {ce : List Int32} {du : List Int32} {he : List Int32} {ri : List Int32} {us : List Int32} {cm : List Int32} {lf : List Int32} {lkd : List Int32} {pev : Int32} {pms : List Int32} {pmm : List Int32} {pmt : List Int32} {pst : List Int32} {pwa : List Int32} {prs : List Int32} {prr : List Int32} {pfa : List Int32} {lys : Nat} {mis : Int32} {shus : Int32} {buss : Int32} {lkss : Int32} {rks : List Int32} {stas : List Int32} {phs : List Int32} {sps : List Int32} {ces : List Int32} {dus : List Int32} {hes : List Int32} {ris : List Int32} {uss : List Int32} {cms : List Int32} {lfs : List Int32} {lkds : List Int32} {pevs : Int32} {pmss : List Int32} {pmms : List Int32} {pmts : List Int32} {psts : List Int32} {pwas : List Int32} {prss : List Int32} {prrs : List Int32} {pfas : List Int32} {acco : Int32} {d : Nat} {h h0 : J_H} (K : KN h [(4, .inl (7, [ly, .int mi, .int shu, .int bus, .ref 5, .ref 6, .ref 7, .ref 8, .ref 9, .ref 10, .ref 11, .ref 12, .ref 13, .ref 14, .ref 15, .int lks, .ref 16, .ref 17, .ref 20])), (5, .inr (.inl (0, rk))), (6, .inr (.inl (0, sta))), (7, .inr (.inl (0, ph))), (8, .inr (.inl (0, sp))), (9, .inr (.inl (0, ce))), (10, .inr (.inl (0, du))), (11, .inr (.inl (0, he))), (12, .inr (.inl (0, ri))), (13, .inr (.inl (0, us))), (14, .inr (.inl (0, cm))), (15, .inr (.inl (0, lf))), (16, .inr (.inl (0, lkd))), (20, .inl (3, [.ref 21, .ref 22, .ref 23, .ref 24, .ref 25, .ref 26, .ref 27, .ref 28, .int pev, .int 1])), (21, .inr (.inl (0, pms))), (22, .inr (.inl (0, pmm))), (23, .inr (.inl (0, pmt))), (24, .inr (.inl (0, pst))), (25, .inr (.inl (0, pwa))), (26, .inr (.inl (0, prs))), (27, .inr (.inl (0, prr))), (28, .inr (.inl (0, pfa))), (29, .inl (0, [.ref 30, .int 7, .int acco])), (30, .inr (.inr (.inr [some 31, some 56, some 81, some 106, some 131, some 156, some 181, some 206, some 231, some 256]))), (181, .inl (7, [.ref lys, .int mis, .int shus, .int buss, .ref 182, .ref 183, .ref 184, .ref 185, .ref 186, .ref 187, .ref 188, .ref 189, .ref 190, .ref 191, .ref 192, .int lkss, .ref 193, .ref 194, .ref 197])), (182, .inr (.inl (0, rks))), (183, .inr (.inl (0, stas))), (184, .inr (.inl (0, phs))), (185, .inr (.inl (0, sps))), (186, .inr (.inl (0, ces))), (187, .inr (.inl (0, dus))), (188, .inr (.inl (0, hes))), (189, .inr (.inl (0, ris))), (190, .inr (.inl (0, uss))), (191, .inr (.inl (0, cms))), (192, .inr (.inl (0, lfs))), (193, .inr (.inl (0, lkds))), (197, .inl (3, [.ref 198, .ref 199, .ref 200, .ref 201, .ref 202, .ref 203, .ref 204, .ref 205, .int pevs, .int 1])), (198, .inr (.inl (0, pmss))), (199, .inr (.inl (0, pmms))), (200, .inr (.inl (0, pmts))), (201, .inr (.inl (0, psts))), (202, .inr (.inl (0, pwas))), (203, .inr (.inl (0, prss))), (204, .inr (.inl (0, prrs))), (205, .inr (.inl (0, pfas)))] h0) : j_V jP d 3 0 (lv_args 0 [.ref 29, .ref 4]) [] h (fun rv h' => rv = none ∧ KN h' [(4, .inl (7, [.ref lys, .int mis, .int shus, .int buss, .ref 5, .ref 6, .ref 7, .ref 8, .ref 9, .ref 10, .ref 11, .ref 12, .ref 13, .ref 14, .ref 15, .int lkss, .ref 16, .ref 17, .ref 20])), (5, .inr (.inl (0, (aC 5 rks rk)))), (6, .inr (.inl (0, (aC 5 stas sta)))), (7, .inr (.inl (0, (aC 5 phs ph)))), (8, .inr (.inl (0, (aC 5 sps sp)))), (9, .inr (.inl (0, (aC 5 ces ce)))), (10, .inr (.inl (0, (aC 5 dus du)))), (11, .inr (.inl (0, (aC 5 hes he)))), (12, .inr (.inl (0, (aC 6 ris ri)))), (13, .inr (.inl (0, (aC 6 uss us)))), (14, .inr (.inl (0, (aC (nI cm.length) cms cm)))), (15, .inr (.inl (0, (aC (nI lf.length) lfs lf)))), (16, .inr (.inl (0, (aC (nI lkd.length) lkds lkd)))), (20, .inl (3, [.ref 21, .ref 22, .ref 23, .ref 24, .ref 25, .ref 26, .ref 27, .ref 28, .int pevs, .int 1])), (21, .inr (.inl (0, (aC (nI pms.length) pmss pms)))), (22, .inr (.inl (0, (aC (nI pmm.length) pmms pmm)))), (23, .inr (.inl (0, (aC (nI pmt.length) pmts pmt)))), (24, .inr (.inl (0, (aC (nI pst.length) psts pst)))), (25, .inr (.inl (0, (aC (nI pwa.length) pwas pwa)))), (26, .inr (.inl (0, (aC (nI prs.length) prss prs)))), (27, .inr (.inl (0, (aC (nI prr.length) prrs prr)))), (28, .inr (.inl (0, (aC (nI pfa.length) pfas pfa)))), (29, .inl (0, [.ref 30, .int 6, .int (acco - 1)])), (30, .inr (.inr (.inr [some 31, some 56, some 81, some 106, some 131, some 156, some 181, some 206, some 231, some 256]))), (181, .inl (7, [.ref lys, .int mis, .int shus, .int buss, .ref 182, .ref 183, .ref 184, .ref 185, .ref 186, .ref 187, .ref 188, .ref 189, .ref 190, .ref 191, .ref 192, .int lkss, .ref 193, .ref 194, .ref 197])), (182, .inr (.inl (0, rks))), (183, .inr (.inl (0, stas))), (184, .inr (.inl (0, phs))), (185, .inr (.inl (0, sps))), (186, .inr (.inl (0, ces))), (187, .inr (.inl (0, dus))), (188, .inr (.inl (0, hes))), (189, .inr (.inl (0, ris))), (190, .inr (.inl (0, uss))), (191, .inr (.inl (0, cms))), (192, .inr (.inl (0, lfs))), (193, .inr (.inl (0, lkds))), (197, .inl (3, [.ref 198, .ref 199, .ref 200, .ref 201, .ref 202, .ref 203, .ref 204, .ref 205, .int pevs, .int 1])), (198, .inr (.inl (0, pmss))), (199, .inr (.inl (0, pmms))), (200, .inr (.inl (0, pmts))), (201, .inr (.inl (0, psts))), (202, .inr (.inl (0, pwas))), (203, .inr (.inl (0, prss))), (204, .inr (.inl (0, prrs))), (205, .inr (.inl (0, pfas)))] h0) := by
  show j_V jP d 3 0 [(0, .ref 29), (1, .ref 4)] [] h _
  obtain ⟨lv, elv, L⟩ : ∃ lv, lv = [(0, .ref 29), (1, .ref 4)] ∧ LK lv [(0, .ref 29), (1, .ref 4)] := ⟨_, rfl, LK.rf⟩
  rw [← elv]
  clear elv
  refine j_V.ldL yb6m_M yb6m_0 rfl (i := 0) (kd := 2) (v := .ref 29) (pcJ := 1) rfl L rfl rfl rfl ?_
  refine j_V.ldL yb6m_M yb6m_1 rfl (i := 0) (kd := 2) (v := .ref 29) (pcJ := 2) rfl L rfl rfl rfl ?_
  refine j_V.getK yb6m_M yb6m_2 (ci := 0) (j := 1) rfl K rfl rfl ?_
  refine j_V.one yb6m_M yb6m_5 (by decide) (pcJ := 7) (stJ := [.int 10, .int 7, .ref 29]) rfl ?_
  refine j_V.one yb6m_M yb6m_7 (by decide) (pcJ := 8) (stJ := [.int 17, .ref 29]) rfl ?_
  refine j_V.one yb6m_M yb6m_8 (by decide) (pcJ := 9) (stJ := [.int 1, .int 17, .ref 29]) rfl ?_
  refine j_V.one yb6m_M yb6m_9 (by decide) (pcJ := 10) (stJ := [.int 16, .ref 29]) rfl ?_
  refine j_V.one yb6m_M yb6m_10 (by decide) (pcJ := 12) (stJ := [.int 10, .int 16, .ref 29]) rfl ?_
  refine j_V.one yb6m_M yb6m_12 (by decide) (pcJ := 13) (stJ := [.int 6, .ref 29]) rfl ?_
  refine j_V.putK yb6m_M yb6m_13 (ci := 0) (j := 1) (k' := [(4, .inl (7, [ly, .int mi, .int shu, .int bus, .ref 5, .ref 6, .ref 7, .ref 8, .ref 9, .ref 10, .ref 11, .ref 12, .ref 13, .ref 14, .ref 15, .int lks, .ref 16, .ref 17, .ref 20])), (5, .inr (.inl (0, rk))), (6, .inr (.inl (0, sta))), (7, .inr (.inl (0, ph))), (8, .inr (.inl (0, sp))), (9, .inr (.inl (0, ce))), (10, .inr (.inl (0, du))), (11, .inr (.inl (0, he))), (12, .inr (.inl (0, ri))), (13, .inr (.inl (0, us))), (14, .inr (.inl (0, cm))), (15, .inr (.inl (0, lf))), (16, .inr (.inl (0, lkd))), (20, .inl (3, [.ref 21, .ref 22, .ref 23, .ref 24, .ref 25, .ref 26, .ref 27, .ref 28, .int pev, .int 1])), (21, .inr (.inl (0, pms))), (22, .inr (.inl (0, pmm))), (23, .inr (.inl (0, pmt))), (24, .inr (.inl (0, pst))), (25, .inr (.inl (0, pwa))), (26, .inr (.inl (0, prs))), (27, .inr (.inl (0, prr))), (28, .inr (.inl (0, pfa))), (29, .inl (0, [.ref 30, .int 6, .int acco])), (30, .inr (.inr (.inr [some 31, some 56, some 81, some 106, some 131, some 156, some 181, some 206, some 231, some 256]))), (181, .inl (7, [.ref lys, .int mis, .int shus, .int buss, .ref 182, .ref 183, .ref 184, .ref 185, .ref 186, .ref 187, .ref 188, .ref 189, .ref 190, .ref 191, .ref 192, .int lkss, .ref 193, .ref 194, .ref 197])), (182, .inr (.inl (0, rks))), (183, .inr (.inl (0, stas))), (184, .inr (.inl (0, phs))), (185, .inr (.inl (0, sps))), (186, .inr (.inl (0, ces))), (187, .inr (.inl (0, dus))), (188, .inr (.inl (0, hes))), (189, .inr (.inl (0, ris))), (190, .inr (.inl (0, uss))), (191, .inr (.inl (0, cms))), (192, .inr (.inl (0, lfs))), (193, .inr (.inl (0, lkds))), (197, .inl (3, [.ref 198, .ref 199, .ref 200, .ref 201, .ref 202, .ref 203, .ref 204, .ref 205, .int pevs, .int 1])), (198, .inr (.inl (0, pmss))), (199, .inr (.inl (0, pmms))), (200, .inr (.inl (0, pmts))), (201, .inr (.inl (0, psts))), (202, .inr (.inl (0, pwas))), (203, .inr (.inl (0, prss))), (204, .inr (.inl (0, prrs))), (205, .inr (.inl (0, pfas)))]) rfl K rfl (Nat.le_of_ble_eq_true rfl) rfl (Or.inl rfl) rfl rfl (fun h K => ?_)
  refine j_V.ldL yb6m_M yb6m_16 rfl (i := 0) (kd := 2) (v := .ref 29) (pcJ := 17) rfl L rfl rfl rfl ?_
  refine j_V.one yb6m_M yb6m_17 (by decide) (pcJ := 18) (stJ := [.ref 29, .ref 29]) rfl ?_
  refine j_V.getK yb6m_M yb6m_18 (ci := 0) (j := 2) rfl K rfl rfl ?_
  refine j_V.one yb6m_M yb6m_21 (by decide) (pcJ := 22) (stJ := [.int 1, .int acco, .ref 29]) rfl ?_
  refine j_V.one yb6m_M yb6m_22 (by decide) (pcJ := 23) (stJ := [.int (acco - 1), .ref 29]) rfl ?_
  refine j_V.putK yb6m_M yb6m_23 (ci := 0) (j := 2) (k' := [(4, .inl (7, [ly, .int mi, .int shu, .int bus, .ref 5, .ref 6, .ref 7, .ref 8, .ref 9, .ref 10, .ref 11, .ref 12, .ref 13, .ref 14, .ref 15, .int lks, .ref 16, .ref 17, .ref 20])), (5, .inr (.inl (0, rk))), (6, .inr (.inl (0, sta))), (7, .inr (.inl (0, ph))), (8, .inr (.inl (0, sp))), (9, .inr (.inl (0, ce))), (10, .inr (.inl (0, du))), (11, .inr (.inl (0, he))), (12, .inr (.inl (0, ri))), (13, .inr (.inl (0, us))), (14, .inr (.inl (0, cm))), (15, .inr (.inl (0, lf))), (16, .inr (.inl (0, lkd))), (20, .inl (3, [.ref 21, .ref 22, .ref 23, .ref 24, .ref 25, .ref 26, .ref 27, .ref 28, .int pev, .int 1])), (21, .inr (.inl (0, pms))), (22, .inr (.inl (0, pmm))), (23, .inr (.inl (0, pmt))), (24, .inr (.inl (0, pst))), (25, .inr (.inl (0, pwa))), (26, .inr (.inl (0, prs))), (27, .inr (.inl (0, prr))), (28, .inr (.inl (0, pfa))), (29, .inl (0, [.ref 30, .int 6, .int (acco - 1)])), (30, .inr (.inr (.inr [some 31, some 56, some 81, some 106, some 131, some 156, some 181, some 206, some 231, some 256]))), (181, .inl (7, [.ref lys, .int mis, .int shus, .int buss, .ref 182, .ref 183, .ref 184, .ref 185, .ref 186, .ref 187, .ref 188, .ref 189, .ref 190, .ref 191, .ref 192, .int lkss, .ref 193, .ref 194, .ref 197])), (182, .inr (.inl (0, rks))), (183, .inr (.inl (0, stas))), (184, .inr (.inl (0, phs))), (185, .inr (.inl (0, sps))), (186, .inr (.inl (0, ces))), (187, .inr (.inl (0, dus))), (188, .inr (.inl (0, hes))), (189, .inr (.inl (0, ris))), (190, .inr (.inl (0, uss))), (191, .inr (.inl (0, cms))), (192, .inr (.inl (0, lfs))), (193, .inr (.inl (0, lkds))), (197, .inl (3, [.ref 198, .ref 199, .ref 200, .ref 201, .ref 202, .ref 203, .ref 204, .ref 205, .int pevs, .int 1])), (198, .inr (.inl (0, pmss))), (199, .inr (.inl (0, pmms))), (200, .inr (.inl (0, pmts))), (201, .inr (.inl (0, psts))), (202, .inr (.inl (0, pwas))), (203, .inr (.inl (0, prss))), (204, .inr (.inl (0, prrs))), (205, .inr (.inl (0, pfas)))]) rfl K rfl (Nat.le_of_ble_eq_true rfl) rfl (Or.inl rfl) rfl rfl (fun h K => ?_)
  refine j_V.ldL yb6m_M yb6m_26 rfl (i := 1) (kd := 2) (v := .ref 4) (pcJ := 27) rfl L rfl rfl rfl ?_
  refine j_V.ldL yb6m_M yb6m_27 rfl (i := 0) (kd := 2) (v := .ref 29) (pcJ := 28) rfl L rfl rfl rfl ?_
  refine j_V.getK yb6m_M yb6m_28 (ci := 0) (j := 0) rfl K rfl rfl ?_
  refine j_V.ldL yb6m_M yb6m_31 rfl (i := 0) (kd := 2) (v := .ref 29) (pcJ := 32) rfl L rfl rfl rfl ?_
  refine j_V.getK yb6m_M yb6m_32 (ci := 0) (j := 1) rfl K rfl rfl ?_
  refine j_V.aaA yb6m_M yb6m_35 K rfl (i := 6) (v := 181) rfl rfl ?_
  refine j_V.cl yb6m_M yb6m_36 rfl (md := 3) (mj := 61) rfl (by decide) yb6s_M (As := [.ref 4, .ref 181]) (rest := []) (jk_spl3 (K.at rfl) rfl rfl rfl (Nat.le_of_ble_eq_true rfl) (Nat.le_of_ble_eq_true rfl)) (fun d => yb6s_ok (K.fi [4, 5, 6, 7, 8, 9, 10, 11, 12, 13, 14, 15, 16, 20, 21, 22, 23, 24, 25, 26, 27, 28, 181, 182, 183, 184, 185, 186, 187, 188, 189, 190, 191, 192, 193, 197, 198, 199, 200, 201, 202, 203, 204, 205] rfl rfl)) ?_
  rintro r h9 ⟨rfl, K9⟩
  have K : KN h9 [(4, .inl (7, [.ref lys, .int mis, .int shus, .int buss, .ref 5, .ref 6, .ref 7, .ref 8, .ref 9, .ref 10, .ref 11, .ref 12, .ref 13, .ref 14, .ref 15, .int lkss, .ref 16, .ref 17, .ref 20])), (5, .inr (.inl (0, (aC 5 rks rk)))), (6, .inr (.inl (0, (aC 5 stas sta)))), (7, .inr (.inl (0, (aC 5 phs ph)))), (8, .inr (.inl (0, (aC 5 sps sp)))), (9, .inr (.inl (0, (aC 5 ces ce)))), (10, .inr (.inl (0, (aC 5 dus du)))), (11, .inr (.inl (0, (aC 5 hes he)))), (12, .inr (.inl (0, (aC 6 ris ri)))), (13, .inr (.inl (0, (aC 6 uss us)))), (14, .inr (.inl (0, (aC (nI cm.length) cms cm)))), (15, .inr (.inl (0, (aC (nI lf.length) lfs lf)))), (16, .inr (.inl (0, (aC (nI lkd.length) lkds lkd)))), (20, .inl (3, [.ref 21, .ref 22, .ref 23, .ref 24, .ref 25, .ref 26, .ref 27, .ref 28, .int pevs, .int 1])), (21, .inr (.inl (0, (aC (nI pms.length) pmss pms)))), (22, .inr (.inl (0, (aC (nI pmm.length) pmms pmm)))), (23, .inr (.inl (0, (aC (nI pmt.length) pmts pmt)))), (24, .inr (.inl (0, (aC (nI pst.length) psts pst)))), (25, .inr (.inl (0, (aC (nI pwa.length) pwas pwa)))), (26, .inr (.inl (0, (aC (nI prs.length) prss prs)))), (27, .inr (.inl (0, (aC (nI prr.length) prrs prr)))), (28, .inr (.inl (0, (aC (nI pfa.length) pfas pfa)))), (29, .inl (0, [.ref 30, .int 6, .int (acco - 1)])), (30, .inr (.inr (.inr [some 31, some 56, some 81, some 106, some 131, some 156, some 181, some 206, some 231, some 256]))), (181, .inl (7, [.ref lys, .int mis, .int shus, .int buss, .ref 182, .ref 183, .ref 184, .ref 185, .ref 186, .ref 187, .ref 188, .ref 189, .ref 190, .ref 191, .ref 192, .int lkss, .ref 193, .ref 194, .ref 197])), (182, .inr (.inl (0, rks))), (183, .inr (.inl (0, stas))), (184, .inr (.inl (0, phs))), (185, .inr (.inl (0, sps))), (186, .inr (.inl (0, ces))), (187, .inr (.inl (0, dus))), (188, .inr (.inl (0, hes))), (189, .inr (.inl (0, ris))), (190, .inr (.inl (0, uss))), (191, .inr (.inl (0, cms))), (192, .inr (.inl (0, lfs))), (193, .inr (.inl (0, lkds))), (197, .inl (3, [.ref 198, .ref 199, .ref 200, .ref 201, .ref 202, .ref 203, .ref 204, .ref 205, .int pevs, .int 1])), (198, .inr (.inl (0, pmss))), (199, .inr (.inl (0, pmms))), (200, .inr (.inl (0, pmts))), (201, .inr (.inl (0, psts))), (202, .inr (.inl (0, pwas))), (203, .inr (.inl (0, prss))), (204, .inr (.inl (0, prrs))), (205, .inr (.inl (0, pfas)))] h0 := K.mg K9 rfl rfl
  clear K9
  show j_V jP _ 3 39 lv [] h9 _
  exact j_V.ret yb6m_M yb6m_39 rfl rfl ⟨rfl, K⟩
set_option maxRecDepth 100000 in
theorem yb7p_M : j_meth jP 28 = some (yX3_copyFrom, cX3_copyFrom, 2, none, 1, false, 3) := rfl
set_option maxRecDepth 100000 in
theorem yb7p_0 : j_code jP 28 0 = some (.aload_n 0) := rfl
set_option maxRecDepth 100000 in
theorem yb7p_1 : j_code jP 28 1 = some (.getfield 36) := rfl
set_option maxRecDepth 100000 in
theorem yb7p_4 : j_code jP 28 4 = some (.ifCond .ne 4) := rfl
set_option maxRecDepth 100000 in
theorem yb7p_7 : j_code jP 28 7 = some (.return_) := rfl
set_option maxRecDepth 100000 in
theorem yb7p_8 : j_code jP 28 8 = some (.aload_n 1) := rfl
set_option maxRecDepth 100000 in
theorem yb7p_9 : j_code jP 28 9 = some (.getfield 9) := rfl
set_option maxRecDepth 100000 in
theorem yb7p_12 : j_code jP 28 12 = some (.iconst 0) := rfl
set_option maxRecDepth 100000 in
theorem yb7p_13 : j_code jP 28 13 = some (.aload_n 0) := rfl
set_option maxRecDepth 100000 in
theorem yb7p_14 : j_code jP 28 14 = some (.getfield 9) := rfl
set_option maxRecDepth 100000 in
theorem yb7p_17 : j_code jP 28 17 = some (.iconst 0) := rfl
set_option maxRecDepth 100000 in
theorem yb7p_18 : j_code jP 28 18 = some (.aload_n 0) := rfl
set_option maxRecDepth 100000 in
theorem yb7p_19 : j_code jP 28 19 = some (.getfield 9) := rfl
set_option maxRecDepth 100000 in
theorem yb7p_22 : j_code jP 28 22 = some (.arraylength) := rfl
set_option maxRecDepth 100000 in
theorem yb7p_23 : j_code jP 28 23 = some (.invokestatic 50) := rfl
set_option maxRecDepth 100000 in
theorem yb7p_26 : j_code jP 28 26 = some (.aload_n 1) := rfl
set_option maxRecDepth 100000 in
theorem yb7p_27 : j_code jP 28 27 = some (.getfield 15) := rfl
set_option maxRecDepth 100000 in
theorem yb7p_30 : j_code jP 28 30 = some (.iconst 0) := rfl
set_option maxRecDepth 100000 in
theorem yb7p_31 : j_code jP 28 31 = some (.aload_n 0) := rfl
set_option maxRecDepth 100000 in
theorem yb7p_32 : j_code jP 28 32 = some (.getfield 15) := rfl
set_option maxRecDepth 100000 in
theorem yb7p_35 : j_code jP 28 35 = some (.iconst 0) := rfl
set_option maxRecDepth 100000 in
theorem yb7p_36 : j_code jP 28 36 = some (.aload_n 0) := rfl
set_option maxRecDepth 100000 in
theorem yb7p_37 : j_code jP 28 37 = some (.getfield 15) := rfl
set_option maxRecDepth 100000 in
theorem yb7p_40 : j_code jP 28 40 = some (.arraylength) := rfl
set_option maxRecDepth 100000 in
theorem yb7p_41 : j_code jP 28 41 = some (.invokestatic 50) := rfl
set_option maxRecDepth 100000 in
theorem yb7p_44 : j_code jP 28 44 = some (.aload_n 1) := rfl
set_option maxRecDepth 100000 in
theorem yb7p_45 : j_code jP 28 45 = some (.getfield 18) := rfl
set_option maxRecDepth 100000 in
theorem yb7p_48 : j_code jP 28 48 = some (.iconst 0) := rfl
set_option maxRecDepth 100000 in
theorem yb7p_49 : j_code jP 28 49 = some (.aload_n 0) := rfl
set_option maxRecDepth 100000 in
theorem yb7p_50 : j_code jP 28 50 = some (.getfield 18) := rfl
set_option maxRecDepth 100000 in
theorem yb7p_53 : j_code jP 28 53 = some (.iconst 0) := rfl
set_option maxRecDepth 100000 in
theorem yb7p_54 : j_code jP 28 54 = some (.aload_n 0) := rfl
set_option maxRecDepth 100000 in
theorem yb7p_55 : j_code jP 28 55 = some (.getfield 18) := rfl
set_option maxRecDepth 100000 in
theorem yb7p_58 : j_code jP 28 58 = some (.arraylength) := rfl
set_option maxRecDepth 100000 in
theorem yb7p_59 : j_code jP 28 59 = some (.invokestatic 50) := rfl
set_option maxRecDepth 100000 in
theorem yb7p_62 : j_code jP 28 62 = some (.aload_n 1) := rfl
set_option maxRecDepth 100000 in
theorem yb7p_63 : j_code jP 28 63 = some (.getfield 21) := rfl
set_option maxRecDepth 100000 in
theorem yb7p_66 : j_code jP 28 66 = some (.iconst 0) := rfl
set_option maxRecDepth 100000 in
theorem yb7p_67 : j_code jP 28 67 = some (.aload_n 0) := rfl
set_option maxRecDepth 100000 in
theorem yb7p_68 : j_code jP 28 68 = some (.getfield 21) := rfl
set_option maxRecDepth 100000 in
theorem yb7p_71 : j_code jP 28 71 = some (.iconst 0) := rfl
set_option maxRecDepth 100000 in
theorem yb7p_72 : j_code jP 28 72 = some (.aload_n 0) := rfl
set_option maxRecDepth 100000 in
theorem yb7p_73 : j_code jP 28 73 = some (.getfield 21) := rfl
set_option maxRecDepth 100000 in
theorem yb7p_76 : j_code jP 28 76 = some (.arraylength) := rfl
set_option maxRecDepth 100000 in
theorem yb7p_77 : j_code jP 28 77 = some (.invokestatic 50) := rfl
set_option maxRecDepth 100000 in
theorem yb7p_80 : j_code jP 28 80 = some (.aload_n 1) := rfl
set_option maxRecDepth 100000 in
theorem yb7p_81 : j_code jP 28 81 = some (.getfield 24) := rfl
set_option maxRecDepth 100000 in
theorem yb7p_84 : j_code jP 28 84 = some (.iconst 0) := rfl
set_option maxRecDepth 100000 in
theorem yb7p_85 : j_code jP 28 85 = some (.aload_n 0) := rfl
set_option maxRecDepth 100000 in
theorem yb7p_86 : j_code jP 28 86 = some (.getfield 24) := rfl
set_option maxRecDepth 100000 in
theorem yb7p_89 : j_code jP 28 89 = some (.iconst 0) := rfl
set_option maxRecDepth 100000 in
theorem yb7p_90 : j_code jP 28 90 = some (.aload_n 0) := rfl
set_option maxRecDepth 100000 in
theorem yb7p_91 : j_code jP 28 91 = some (.getfield 24) := rfl
set_option maxRecDepth 100000 in
theorem yb7p_94 : j_code jP 28 94 = some (.arraylength) := rfl
set_option maxRecDepth 100000 in
theorem yb7p_95 : j_code jP 28 95 = some (.invokestatic 50) := rfl
set_option maxRecDepth 100000 in
theorem yb7p_98 : j_code jP 28 98 = some (.aload_n 1) := rfl
set_option maxRecDepth 100000 in
theorem yb7p_99 : j_code jP 28 99 = some (.getfield 27) := rfl
set_option maxRecDepth 100000 in
theorem yb7p_102 : j_code jP 28 102 = some (.iconst 0) := rfl
set_option maxRecDepth 100000 in
theorem yb7p_103 : j_code jP 28 103 = some (.aload_n 0) := rfl
set_option maxRecDepth 100000 in
theorem yb7p_104 : j_code jP 28 104 = some (.getfield 27) := rfl
set_option maxRecDepth 100000 in
theorem yb7p_107 : j_code jP 28 107 = some (.iconst 0) := rfl
set_option maxRecDepth 100000 in
theorem yb7p_108 : j_code jP 28 108 = some (.aload_n 0) := rfl
set_option maxRecDepth 100000 in
theorem yb7p_109 : j_code jP 28 109 = some (.getfield 27) := rfl
set_option maxRecDepth 100000 in
theorem yb7p_112 : j_code jP 28 112 = some (.arraylength) := rfl
set_option maxRecDepth 100000 in
theorem yb7p_113 : j_code jP 28 113 = some (.invokestatic 50) := rfl
set_option maxRecDepth 100000 in
theorem yb7p_116 : j_code jP 28 116 = some (.aload_n 1) := rfl
set_option maxRecDepth 100000 in
theorem yb7p_117 : j_code jP 28 117 = some (.getfield 30) := rfl
set_option maxRecDepth 100000 in
theorem yb7p_120 : j_code jP 28 120 = some (.iconst 0) := rfl
set_option maxRecDepth 100000 in
theorem yb7p_121 : j_code jP 28 121 = some (.aload_n 0) := rfl
set_option maxRecDepth 100000 in
theorem yb7p_122 : j_code jP 28 122 = some (.getfield 30) := rfl
set_option maxRecDepth 100000 in
theorem yb7p_125 : j_code jP 28 125 = some (.iconst 0) := rfl
set_option maxRecDepth 100000 in
theorem yb7p_126 : j_code jP 28 126 = some (.aload_n 0) := rfl
set_option maxRecDepth 100000 in
theorem yb7p_127 : j_code jP 28 127 = some (.getfield 30) := rfl
set_option maxRecDepth 100000 in
theorem yb7p_130 : j_code jP 28 130 = some (.arraylength) := rfl
set_option maxRecDepth 100000 in
theorem yb7p_131 : j_code jP 28 131 = some (.invokestatic 50) := rfl
set_option maxRecDepth 100000 in
theorem yb7p_134 : j_code jP 28 134 = some (.aload_n 1) := rfl
set_option maxRecDepth 100000 in
theorem yb7p_135 : j_code jP 28 135 = some (.getfield 33) := rfl
set_option maxRecDepth 100000 in
theorem yb7p_138 : j_code jP 28 138 = some (.iconst 0) := rfl
set_option maxRecDepth 100000 in
theorem yb7p_139 : j_code jP 28 139 = some (.aload_n 0) := rfl
set_option maxRecDepth 100000 in
theorem yb7p_140 : j_code jP 28 140 = some (.getfield 33) := rfl
set_option maxRecDepth 100000 in
theorem yb7p_143 : j_code jP 28 143 = some (.iconst 0) := rfl
set_option maxRecDepth 100000 in
theorem yb7p_144 : j_code jP 28 144 = some (.aload_n 0) := rfl
set_option maxRecDepth 100000 in
theorem yb7p_145 : j_code jP 28 145 = some (.getfield 33) := rfl
set_option maxRecDepth 100000 in
theorem yb7p_148 : j_code jP 28 148 = some (.arraylength) := rfl
set_option maxRecDepth 100000 in
theorem yb7p_149 : j_code jP 28 149 = some (.invokestatic 50) := rfl
set_option maxRecDepth 100000 in
theorem yb7p_152 : j_code jP 28 152 = some (.aload_n 0) := rfl
set_option maxRecDepth 100000 in
theorem yb7p_153 : j_code jP 28 153 = some (.aload_n 1) := rfl
set_option maxRecDepth 100000 in
theorem yb7p_154 : j_code jP 28 154 = some (.getfield 46) := rfl
set_option maxRecDepth 100000 in
theorem yb7p_157 : j_code jP 28 157 = some (.putfield 46) := rfl
set_option maxRecDepth 100000 in
theorem yb7p_160 : j_code jP 28 160 = some (.return_) := rfl
set_option maxRecDepth 1000000 in
theorem yb7p_k8 {pev : Int32} {pms : List Int32} {pmm : List Int32} {pevs : Int32} {pmss : List Int32} {pmms : List Int32} {d : Nat} {lv : J_L} {h h0 : J_H} {Q : Option Value → J_H → Prop} (L : LK lv [(0, .ref 20), (1, .ref 222)]) (K : KN h [(20, .inl (3, [.ref 21, .ref 22, .ref 23, .ref 24, .ref 25, .ref 26, .ref 27, .ref 28, .int pev, .int 1])), (21, .inr (.inl (0, pms))), (22, .inr (.inl (0, pmm))), (222, .inl (3, [.ref 223, .ref 224, .ref 225, .ref 226, .ref 227, .ref 228, .ref 229, .ref 230, .int pevs, .int 1])), (223, .inr (.inl (0, pmss))), (224, .inr (.inl (0, pmms)))] h0) (kk : ∀ lv h, LK lv [(0, .ref 20), (1, .ref 222)] → KN h [(20, .inl (3, [.ref 21, .ref 22, .ref 23, .ref 24, .ref 25, .ref 26, .ref 27, .ref 28, .int pev, .int 1])), (21, .inr (.inl (0, (aC (nI pms.length) pmss pms)))), (22, .inr (.inl (0, (aC (nI pmm.length) pmms pmm)))), (222, .inl (3, [.ref 223, .ref 224, .ref 225, .ref 226, .ref 227, .ref 228, .ref 229, .ref 230, .int pevs, .int 1])), (223, .inr (.inl (0, pmss))), (224, .inr (.inl (0, pmms)))] h0 → j_V jP d 28 44 lv [] h Q) : j_V jP d 28 8 lv [] h Q := by
  refine j_V.ldL yb7p_M yb7p_8 rfl (i := 1) (kd := 2) (v := .ref 222) (pcJ := 9) rfl L rfl rfl rfl ?_
  refine j_V.getK yb7p_M yb7p_9 (ci := 3) (j := 0) rfl K rfl rfl ?_
  refine j_V.one yb7p_M yb7p_12 (by decide) (pcJ := 13) (stJ := [.int 0, .ref 223]) rfl ?_
  refine j_V.ldL yb7p_M yb7p_13 rfl (i := 0) (kd := 2) (v := .ref 20) (pcJ := 14) rfl L rfl rfl rfl ?_
  refine j_V.getK yb7p_M yb7p_14 (ci := 3) (j := 0) rfl K rfl rfl ?_
  refine j_V.one yb7p_M yb7p_17 (by decide) (pcJ := 18) (stJ := [.int 0, .ref 21, .int 0, .ref 223]) rfl ?_
  refine j_V.ldL yb7p_M yb7p_18 rfl (i := 0) (kd := 2) (v := .ref 20) (pcJ := 19) rfl L rfl rfl rfl ?_
  refine j_V.getK yb7p_M yb7p_19 (ci := 3) (j := 0) rfl K rfl rfl ?_
  refine j_V.alnA yb7p_M yb7p_22 K rfl ?_
  refine j_V.acp yb7p_M yb7p_23 rfl rfl K rfl rfl rfl (fun h K => ?_)
  refine j_V.ldL yb7p_M yb7p_26 rfl (i := 1) (kd := 2) (v := .ref 222) (pcJ := 27) rfl L rfl rfl rfl ?_
  refine j_V.getK yb7p_M yb7p_27 (ci := 3) (j := 1) rfl K rfl rfl ?_
  refine j_V.one yb7p_M yb7p_30 (by decide) (pcJ := 31) (stJ := [.int 0, .ref 224]) rfl ?_
  refine j_V.ldL yb7p_M yb7p_31 rfl (i := 0) (kd := 2) (v := .ref 20) (pcJ := 32) rfl L rfl rfl rfl ?_
  refine j_V.getK yb7p_M yb7p_32 (ci := 3) (j := 1) rfl K rfl rfl ?_
  refine j_V.one yb7p_M yb7p_35 (by decide) (pcJ := 36) (stJ := [.int 0, .ref 22, .int 0, .ref 224]) rfl ?_
  refine j_V.ldL yb7p_M yb7p_36 rfl (i := 0) (kd := 2) (v := .ref 20) (pcJ := 37) rfl L rfl rfl rfl ?_
  refine j_V.getK yb7p_M yb7p_37 (ci := 3) (j := 1) rfl K rfl rfl ?_
  refine j_V.alnA yb7p_M yb7p_40 K rfl ?_
  refine j_V.acp yb7p_M yb7p_41 rfl rfl K rfl rfl rfl (fun h K => ?_)
  exact kk _ _ L K
set_option maxRecDepth 1000000 in
theorem yb7p_k44 {pev : Int32} {pmt : List Int32} {pst : List Int32} {pevs : Int32} {pmts : List Int32} {psts : List Int32} {d : Nat} {lv : J_L} {h h0 : J_H} {Q : Option Value → J_H → Prop} (L : LK lv [(0, .ref 20), (1, .ref 222)]) (K : KN h [(20, .inl (3, [.ref 21, .ref 22, .ref 23, .ref 24, .ref 25, .ref 26, .ref 27, .ref 28, .int pev, .int 1])), (23, .inr (.inl (0, pmt))), (24, .inr (.inl (0, pst))), (222, .inl (3, [.ref 223, .ref 224, .ref 225, .ref 226, .ref 227, .ref 228, .ref 229, .ref 230, .int pevs, .int 1])), (225, .inr (.inl (0, pmts))), (226, .inr (.inl (0, psts)))] h0) (kk : ∀ lv h, LK lv [(0, .ref 20), (1, .ref 222)] → KN h [(20, .inl (3, [.ref 21, .ref 22, .ref 23, .ref 24, .ref 25, .ref 26, .ref 27, .ref 28, .int pev, .int 1])), (23, .inr (.inl (0, (aC (nI pmt.length) pmts pmt)))), (24, .inr (.inl (0, (aC (nI pst.length) psts pst)))), (222, .inl (3, [.ref 223, .ref 224, .ref 225, .ref 226, .ref 227, .ref 228, .ref 229, .ref 230, .int pevs, .int 1])), (225, .inr (.inl (0, pmts))), (226, .inr (.inl (0, psts)))] h0 → j_V jP d 28 80 lv [] h Q) : j_V jP d 28 44 lv [] h Q := by
  refine j_V.ldL yb7p_M yb7p_44 rfl (i := 1) (kd := 2) (v := .ref 222) (pcJ := 45) rfl L rfl rfl rfl ?_
  refine j_V.getK yb7p_M yb7p_45 (ci := 3) (j := 2) rfl K rfl rfl ?_
  refine j_V.one yb7p_M yb7p_48 (by decide) (pcJ := 49) (stJ := [.int 0, .ref 225]) rfl ?_
  refine j_V.ldL yb7p_M yb7p_49 rfl (i := 0) (kd := 2) (v := .ref 20) (pcJ := 50) rfl L rfl rfl rfl ?_
  refine j_V.getK yb7p_M yb7p_50 (ci := 3) (j := 2) rfl K rfl rfl ?_
  refine j_V.one yb7p_M yb7p_53 (by decide) (pcJ := 54) (stJ := [.int 0, .ref 23, .int 0, .ref 225]) rfl ?_
  refine j_V.ldL yb7p_M yb7p_54 rfl (i := 0) (kd := 2) (v := .ref 20) (pcJ := 55) rfl L rfl rfl rfl ?_
  refine j_V.getK yb7p_M yb7p_55 (ci := 3) (j := 2) rfl K rfl rfl ?_
  refine j_V.alnA yb7p_M yb7p_58 K rfl ?_
  refine j_V.acp yb7p_M yb7p_59 rfl rfl K rfl rfl rfl (fun h K => ?_)
  refine j_V.ldL yb7p_M yb7p_62 rfl (i := 1) (kd := 2) (v := .ref 222) (pcJ := 63) rfl L rfl rfl rfl ?_
  refine j_V.getK yb7p_M yb7p_63 (ci := 3) (j := 3) rfl K rfl rfl ?_
  refine j_V.one yb7p_M yb7p_66 (by decide) (pcJ := 67) (stJ := [.int 0, .ref 226]) rfl ?_
  refine j_V.ldL yb7p_M yb7p_67 rfl (i := 0) (kd := 2) (v := .ref 20) (pcJ := 68) rfl L rfl rfl rfl ?_
  refine j_V.getK yb7p_M yb7p_68 (ci := 3) (j := 3) rfl K rfl rfl ?_
  refine j_V.one yb7p_M yb7p_71 (by decide) (pcJ := 72) (stJ := [.int 0, .ref 24, .int 0, .ref 226]) rfl ?_
  refine j_V.ldL yb7p_M yb7p_72 rfl (i := 0) (kd := 2) (v := .ref 20) (pcJ := 73) rfl L rfl rfl rfl ?_
  refine j_V.getK yb7p_M yb7p_73 (ci := 3) (j := 3) rfl K rfl rfl ?_
  refine j_V.alnA yb7p_M yb7p_76 K rfl ?_
  refine j_V.acp yb7p_M yb7p_77 rfl rfl K rfl rfl rfl (fun h K => ?_)
  exact kk _ _ L K
set_option maxRecDepth 1000000 in
theorem yb7p_k80 {pev : Int32} {pwa : List Int32} {prs : List Int32} {pevs : Int32} {pwas : List Int32} {prss : List Int32} {d : Nat} {lv : J_L} {h h0 : J_H} {Q : Option Value → J_H → Prop} (L : LK lv [(0, .ref 20), (1, .ref 222)]) (K : KN h [(20, .inl (3, [.ref 21, .ref 22, .ref 23, .ref 24, .ref 25, .ref 26, .ref 27, .ref 28, .int pev, .int 1])), (25, .inr (.inl (0, pwa))), (26, .inr (.inl (0, prs))), (222, .inl (3, [.ref 223, .ref 224, .ref 225, .ref 226, .ref 227, .ref 228, .ref 229, .ref 230, .int pevs, .int 1])), (227, .inr (.inl (0, pwas))), (228, .inr (.inl (0, prss)))] h0) (kk : ∀ lv h, LK lv [(0, .ref 20), (1, .ref 222)] → KN h [(20, .inl (3, [.ref 21, .ref 22, .ref 23, .ref 24, .ref 25, .ref 26, .ref 27, .ref 28, .int pev, .int 1])), (25, .inr (.inl (0, (aC (nI pwa.length) pwas pwa)))), (26, .inr (.inl (0, (aC (nI prs.length) prss prs)))), (222, .inl (3, [.ref 223, .ref 224, .ref 225, .ref 226, .ref 227, .ref 228, .ref 229, .ref 230, .int pevs, .int 1])), (227, .inr (.inl (0, pwas))), (228, .inr (.inl (0, prss)))] h0 → j_V jP d 28 116 lv [] h Q) : j_V jP d 28 80 lv [] h Q := by
  refine j_V.ldL yb7p_M yb7p_80 rfl (i := 1) (kd := 2) (v := .ref 222) (pcJ := 81) rfl L rfl rfl rfl ?_
  refine j_V.getK yb7p_M yb7p_81 (ci := 3) (j := 4) rfl K rfl rfl ?_
  refine j_V.one yb7p_M yb7p_84 (by decide) (pcJ := 85) (stJ := [.int 0, .ref 227]) rfl ?_
  refine j_V.ldL yb7p_M yb7p_85 rfl (i := 0) (kd := 2) (v := .ref 20) (pcJ := 86) rfl L rfl rfl rfl ?_
  refine j_V.getK yb7p_M yb7p_86 (ci := 3) (j := 4) rfl K rfl rfl ?_
  refine j_V.one yb7p_M yb7p_89 (by decide) (pcJ := 90) (stJ := [.int 0, .ref 25, .int 0, .ref 227]) rfl ?_
  refine j_V.ldL yb7p_M yb7p_90 rfl (i := 0) (kd := 2) (v := .ref 20) (pcJ := 91) rfl L rfl rfl rfl ?_
  refine j_V.getK yb7p_M yb7p_91 (ci := 3) (j := 4) rfl K rfl rfl ?_
  refine j_V.alnA yb7p_M yb7p_94 K rfl ?_
  refine j_V.acp yb7p_M yb7p_95 rfl rfl K rfl rfl rfl (fun h K => ?_)
  refine j_V.ldL yb7p_M yb7p_98 rfl (i := 1) (kd := 2) (v := .ref 222) (pcJ := 99) rfl L rfl rfl rfl ?_
  refine j_V.getK yb7p_M yb7p_99 (ci := 3) (j := 5) rfl K rfl rfl ?_
  refine j_V.one yb7p_M yb7p_102 (by decide) (pcJ := 103) (stJ := [.int 0, .ref 228]) rfl ?_
  refine j_V.ldL yb7p_M yb7p_103 rfl (i := 0) (kd := 2) (v := .ref 20) (pcJ := 104) rfl L rfl rfl rfl ?_
  refine j_V.getK yb7p_M yb7p_104 (ci := 3) (j := 5) rfl K rfl rfl ?_
  refine j_V.one yb7p_M yb7p_107 (by decide) (pcJ := 108) (stJ := [.int 0, .ref 26, .int 0, .ref 228]) rfl ?_
  refine j_V.ldL yb7p_M yb7p_108 rfl (i := 0) (kd := 2) (v := .ref 20) (pcJ := 109) rfl L rfl rfl rfl ?_
  refine j_V.getK yb7p_M yb7p_109 (ci := 3) (j := 5) rfl K rfl rfl ?_
  refine j_V.alnA yb7p_M yb7p_112 K rfl ?_
  refine j_V.acp yb7p_M yb7p_113 rfl rfl K rfl rfl rfl (fun h K => ?_)
  exact kk _ _ L K
set_option maxRecDepth 1000000 in
theorem yb7p_k116 {pev : Int32} {prr : List Int32} {pfa : List Int32} {pevs : Int32} {prrs : List Int32} {pfas : List Int32} {d : Nat} {lv : J_L} {h h0 : J_H} {Q : Option Value → J_H → Prop} (L : LK lv [(0, .ref 20), (1, .ref 222)]) (K : KN h [(20, .inl (3, [.ref 21, .ref 22, .ref 23, .ref 24, .ref 25, .ref 26, .ref 27, .ref 28, .int pev, .int 1])), (27, .inr (.inl (0, prr))), (28, .inr (.inl (0, pfa))), (222, .inl (3, [.ref 223, .ref 224, .ref 225, .ref 226, .ref 227, .ref 228, .ref 229, .ref 230, .int pevs, .int 1])), (229, .inr (.inl (0, prrs))), (230, .inr (.inl (0, pfas)))] h0) (kk : ∀ lv h, LK lv [(0, .ref 20), (1, .ref 222)] → KN h [(20, .inl (3, [.ref 21, .ref 22, .ref 23, .ref 24, .ref 25, .ref 26, .ref 27, .ref 28, .int pev, .int 1])), (27, .inr (.inl (0, (aC (nI prr.length) prrs prr)))), (28, .inr (.inl (0, (aC (nI pfa.length) pfas pfa)))), (222, .inl (3, [.ref 223, .ref 224, .ref 225, .ref 226, .ref 227, .ref 228, .ref 229, .ref 230, .int pevs, .int 1])), (229, .inr (.inl (0, prrs))), (230, .inr (.inl (0, pfas)))] h0 → j_V jP d 28 152 lv [] h Q) : j_V jP d 28 116 lv [] h Q := by
  refine j_V.ldL yb7p_M yb7p_116 rfl (i := 1) (kd := 2) (v := .ref 222) (pcJ := 117) rfl L rfl rfl rfl ?_
  refine j_V.getK yb7p_M yb7p_117 (ci := 3) (j := 6) rfl K rfl rfl ?_
  refine j_V.one yb7p_M yb7p_120 (by decide) (pcJ := 121) (stJ := [.int 0, .ref 229]) rfl ?_
  refine j_V.ldL yb7p_M yb7p_121 rfl (i := 0) (kd := 2) (v := .ref 20) (pcJ := 122) rfl L rfl rfl rfl ?_
  refine j_V.getK yb7p_M yb7p_122 (ci := 3) (j := 6) rfl K rfl rfl ?_
  refine j_V.one yb7p_M yb7p_125 (by decide) (pcJ := 126) (stJ := [.int 0, .ref 27, .int 0, .ref 229]) rfl ?_
  refine j_V.ldL yb7p_M yb7p_126 rfl (i := 0) (kd := 2) (v := .ref 20) (pcJ := 127) rfl L rfl rfl rfl ?_
  refine j_V.getK yb7p_M yb7p_127 (ci := 3) (j := 6) rfl K rfl rfl ?_
  refine j_V.alnA yb7p_M yb7p_130 K rfl ?_
  refine j_V.acp yb7p_M yb7p_131 rfl rfl K rfl rfl rfl (fun h K => ?_)
  refine j_V.ldL yb7p_M yb7p_134 rfl (i := 1) (kd := 2) (v := .ref 222) (pcJ := 135) rfl L rfl rfl rfl ?_
  refine j_V.getK yb7p_M yb7p_135 (ci := 3) (j := 7) rfl K rfl rfl ?_
  refine j_V.one yb7p_M yb7p_138 (by decide) (pcJ := 139) (stJ := [.int 0, .ref 230]) rfl ?_
  refine j_V.ldL yb7p_M yb7p_139 rfl (i := 0) (kd := 2) (v := .ref 20) (pcJ := 140) rfl L rfl rfl rfl ?_
  refine j_V.getK yb7p_M yb7p_140 (ci := 3) (j := 7) rfl K rfl rfl ?_
  refine j_V.one yb7p_M yb7p_143 (by decide) (pcJ := 144) (stJ := [.int 0, .ref 28, .int 0, .ref 230]) rfl ?_
  refine j_V.ldL yb7p_M yb7p_144 rfl (i := 0) (kd := 2) (v := .ref 20) (pcJ := 145) rfl L rfl rfl rfl ?_
  refine j_V.getK yb7p_M yb7p_145 (ci := 3) (j := 7) rfl K rfl rfl ?_
  refine j_V.alnA yb7p_M yb7p_148 K rfl ?_
  refine j_V.acp yb7p_M yb7p_149 rfl rfl K rfl rfl rfl (fun h K => ?_)
  exact kk _ _ L K
set_option maxRecDepth 1000000 in
theorem yb7p_ok {pev : Int32} {pms : List Int32} {pmm : List Int32} {pmt : List Int32} {pst : List Int32} {pwa : List Int32} {prs : List Int32} {prr : List Int32} {pfa : List Int32} {pevs : Int32} {pmss : List Int32} {pmms : List Int32} {pmts : List Int32} {psts : List Int32} {pwas : List Int32} {prss : List Int32} {prrs : List Int32} {pfas : List Int32} {d : Nat} {h h0 : J_H} (K : KN h [(20, .inl (3, [.ref 21, .ref 22, .ref 23, .ref 24, .ref 25, .ref 26, .ref 27, .ref 28, .int pev, .int 1])), (21, .inr (.inl (0, pms))), (22, .inr (.inl (0, pmm))), (23, .inr (.inl (0, pmt))), (24, .inr (.inl (0, pst))), (25, .inr (.inl (0, pwa))), (26, .inr (.inl (0, prs))), (27, .inr (.inl (0, prr))), (28, .inr (.inl (0, pfa))), (222, .inl (3, [.ref 223, .ref 224, .ref 225, .ref 226, .ref 227, .ref 228, .ref 229, .ref 230, .int pevs, .int 1])), (223, .inr (.inl (0, pmss))), (224, .inr (.inl (0, pmms))), (225, .inr (.inl (0, pmts))), (226, .inr (.inl (0, psts))), (227, .inr (.inl (0, pwas))), (228, .inr (.inl (0, prss))), (229, .inr (.inl (0, prrs))), (230, .inr (.inl (0, pfas)))] h0) : j_V jP d 28 0 (lv_args 0 [.ref 20, .ref 222]) [] h (fun rv h' => rv = none ∧ KN h' [(20, .inl (3, [.ref 21, .ref 22, .ref 23, .ref 24, .ref 25, .ref 26, .ref 27, .ref 28, .int pevs, .int 1])), (21, .inr (.inl (0, (aC (nI pms.length) pmss pms)))), (22, .inr (.inl (0, (aC (nI pmm.length) pmms pmm)))), (23, .inr (.inl (0, (aC (nI pmt.length) pmts pmt)))), (24, .inr (.inl (0, (aC (nI pst.length) psts pst)))), (25, .inr (.inl (0, (aC (nI pwa.length) pwas pwa)))), (26, .inr (.inl (0, (aC (nI prs.length) prss prs)))), (27, .inr (.inl (0, (aC (nI prr.length) prrs prr)))), (28, .inr (.inl (0, (aC (nI pfa.length) pfas pfa)))), (222, .inl (3, [.ref 223, .ref 224, .ref 225, .ref 226, .ref 227, .ref 228, .ref 229, .ref 230, .int pevs, .int 1])), (223, .inr (.inl (0, pmss))), (224, .inr (.inl (0, pmms))), (225, .inr (.inl (0, pmts))), (226, .inr (.inl (0, psts))), (227, .inr (.inl (0, pwas))), (228, .inr (.inl (0, prss))), (229, .inr (.inl (0, prrs))), (230, .inr (.inl (0, pfas)))] h0) := by
  show j_V jP d 28 0 [(0, .ref 20), (1, .ref 222)] [] h _
  obtain ⟨lv, elv, L⟩ : ∃ lv, lv = [(0, .ref 20), (1, .ref 222)] ∧ LK lv [(0, .ref 20), (1, .ref 222)] := ⟨_, rfl, LK.rf⟩
  rw [← elv]
  clear elv
  refine j_V.ldL yb7p_M yb7p_0 rfl (i := 0) (kd := 2) (v := .ref 20) (pcJ := 1) rfl L rfl rfl rfl ?_
  refine j_V.getK yb7p_M yb7p_1 (ci := 3) (j := 9) rfl K rfl rfl ?_
  refine j_V.ifc yb7p_M yb7p_4 (t := 8) rfl (fun c4_0 => ?_) (fun c4_0 => ?_)
  · replace c4_0 : ¬ ((1 : Int32) = 0) := jd_ne c4_0
    refine yb7p_k8 L (K.fi [20, 21, 22, 222, 223, 224] rfl rfl) (fun lv h9 L K9 => ?_)
    have K : KN h9 [(20, .inl (3, [.ref 21, .ref 22, .ref 23, .ref 24, .ref 25, .ref 26, .ref 27, .ref 28, .int pev, .int 1])), (21, .inr (.inl (0, (aC (nI pms.length) pmss pms)))), (22, .inr (.inl (0, (aC (nI pmm.length) pmms pmm)))), (23, .inr (.inl (0, pmt))), (24, .inr (.inl (0, pst))), (25, .inr (.inl (0, pwa))), (26, .inr (.inl (0, prs))), (27, .inr (.inl (0, prr))), (28, .inr (.inl (0, pfa))), (222, .inl (3, [.ref 223, .ref 224, .ref 225, .ref 226, .ref 227, .ref 228, .ref 229, .ref 230, .int pevs, .int 1])), (223, .inr (.inl (0, pmss))), (224, .inr (.inl (0, pmms))), (225, .inr (.inl (0, pmts))), (226, .inr (.inl (0, psts))), (227, .inr (.inl (0, pwas))), (228, .inr (.inl (0, prss))), (229, .inr (.inl (0, prrs))), (230, .inr (.inl (0, pfas)))] h0 := K.mg K9 rfl rfl
    clear K9
    refine yb7p_k44 L (K.fi [20, 23, 24, 222, 225, 226] rfl rfl) (fun lv h9 L K9 => ?_)
    have K : KN h9 [(20, .inl (3, [.ref 21, .ref 22, .ref 23, .ref 24, .ref 25, .ref 26, .ref 27, .ref 28, .int pev, .int 1])), (21, .inr (.inl (0, (aC (nI pms.length) pmss pms)))), (22, .inr (.inl (0, (aC (nI pmm.length) pmms pmm)))), (23, .inr (.inl (0, (aC (nI pmt.length) pmts pmt)))), (24, .inr (.inl (0, (aC (nI pst.length) psts pst)))), (25, .inr (.inl (0, pwa))), (26, .inr (.inl (0, prs))), (27, .inr (.inl (0, prr))), (28, .inr (.inl (0, pfa))), (222, .inl (3, [.ref 223, .ref 224, .ref 225, .ref 226, .ref 227, .ref 228, .ref 229, .ref 230, .int pevs, .int 1])), (223, .inr (.inl (0, pmss))), (224, .inr (.inl (0, pmms))), (225, .inr (.inl (0, pmts))), (226, .inr (.inl (0, psts))), (227, .inr (.inl (0, pwas))), (228, .inr (.inl (0, prss))), (229, .inr (.inl (0, prrs))), (230, .inr (.inl (0, pfas)))] h0 := K.mg K9 rfl rfl
    clear K9
    refine yb7p_k80 L (K.fi [20, 25, 26, 222, 227, 228] rfl rfl) (fun lv h9 L K9 => ?_)
    have K : KN h9 [(20, .inl (3, [.ref 21, .ref 22, .ref 23, .ref 24, .ref 25, .ref 26, .ref 27, .ref 28, .int pev, .int 1])), (21, .inr (.inl (0, (aC (nI pms.length) pmss pms)))), (22, .inr (.inl (0, (aC (nI pmm.length) pmms pmm)))), (23, .inr (.inl (0, (aC (nI pmt.length) pmts pmt)))), (24, .inr (.inl (0, (aC (nI pst.length) psts pst)))), (25, .inr (.inl (0, (aC (nI pwa.length) pwas pwa)))), (26, .inr (.inl (0, (aC (nI prs.length) prss prs)))), (27, .inr (.inl (0, prr))), (28, .inr (.inl (0, pfa))), (222, .inl (3, [.ref 223, .ref 224, .ref 225, .ref 226, .ref 227, .ref 228, .ref 229, .ref 230, .int pevs, .int 1])), (223, .inr (.inl (0, pmss))), (224, .inr (.inl (0, pmms))), (225, .inr (.inl (0, pmts))), (226, .inr (.inl (0, psts))), (227, .inr (.inl (0, pwas))), (228, .inr (.inl (0, prss))), (229, .inr (.inl (0, prrs))), (230, .inr (.inl (0, pfas)))] h0 := K.mg K9 rfl rfl
    clear K9
    refine yb7p_k116 L (K.fi [20, 27, 28, 222, 229, 230] rfl rfl) (fun lv h9 L K9 => ?_)
    have K : KN h9 [(20, .inl (3, [.ref 21, .ref 22, .ref 23, .ref 24, .ref 25, .ref 26, .ref 27, .ref 28, .int pev, .int 1])), (21, .inr (.inl (0, (aC (nI pms.length) pmss pms)))), (22, .inr (.inl (0, (aC (nI pmm.length) pmms pmm)))), (23, .inr (.inl (0, (aC (nI pmt.length) pmts pmt)))), (24, .inr (.inl (0, (aC (nI pst.length) psts pst)))), (25, .inr (.inl (0, (aC (nI pwa.length) pwas pwa)))), (26, .inr (.inl (0, (aC (nI prs.length) prss prs)))), (27, .inr (.inl (0, (aC (nI prr.length) prrs prr)))), (28, .inr (.inl (0, (aC (nI pfa.length) pfas pfa)))), (222, .inl (3, [.ref 223, .ref 224, .ref 225, .ref 226, .ref 227, .ref 228, .ref 229, .ref 230, .int pevs, .int 1])), (223, .inr (.inl (0, pmss))), (224, .inr (.inl (0, pmms))), (225, .inr (.inl (0, pmts))), (226, .inr (.inl (0, psts))), (227, .inr (.inl (0, pwas))), (228, .inr (.inl (0, prss))), (229, .inr (.inl (0, prrs))), (230, .inr (.inl (0, pfas)))] h0 := K.mg K9 rfl rfl
    clear K9
    refine j_V.ldL yb7p_M yb7p_152 rfl (i := 0) (kd := 2) (v := .ref 20) (pcJ := 153) rfl L rfl rfl rfl ?_
    refine j_V.ldL yb7p_M yb7p_153 rfl (i := 1) (kd := 2) (v := .ref 222) (pcJ := 154) rfl L rfl rfl rfl ?_
    refine j_V.getK yb7p_M yb7p_154 (ci := 3) (j := 8) rfl K rfl rfl ?_
    refine j_V.putK yb7p_M yb7p_157 (ci := 3) (j := 8) (k' := [(20, .inl (3, [.ref 21, .ref 22, .ref 23, .ref 24, .ref 25, .ref 26, .ref 27, .ref 28, .int pevs, .int 1])), (21, .inr (.inl (0, (aC (nI pms.length) pmss pms)))), (22, .inr (.inl (0, (aC (nI pmm.length) pmms pmm)))), (23, .inr (.inl (0, (aC (nI pmt.length) pmts pmt)))), (24, .inr (.inl (0, (aC (nI pst.length) psts pst)))), (25, .inr (.inl (0, (aC (nI pwa.length) pwas pwa)))), (26, .inr (.inl (0, (aC (nI prs.length) prss prs)))), (27, .inr (.inl (0, (aC (nI prr.length) prrs prr)))), (28, .inr (.inl (0, (aC (nI pfa.length) pfas pfa)))), (222, .inl (3, [.ref 223, .ref 224, .ref 225, .ref 226, .ref 227, .ref 228, .ref 229, .ref 230, .int pevs, .int 1])), (223, .inr (.inl (0, pmss))), (224, .inr (.inl (0, pmms))), (225, .inr (.inl (0, pmts))), (226, .inr (.inl (0, psts))), (227, .inr (.inl (0, pwas))), (228, .inr (.inl (0, prss))), (229, .inr (.inl (0, prrs))), (230, .inr (.inl (0, pfas)))]) rfl K rfl (Nat.le_of_ble_eq_true rfl) rfl (Or.inl rfl) rfl rfl (fun h K => ?_)
    exact j_V.ret yb7p_M yb7p_160 rfl rfl ⟨rfl, K⟩
  · replace c4_0 : (1 : Int32) = 0 := jd_nen c4_0
    exact absurd c4_0 (by decide)
set_option maxRecDepth 100000 in
theorem yb7s_M : j_meth jP 61 = some (yX7_copyFrom, cX7_copyFrom, 2, none, 1, false, 7) := rfl
set_option maxRecDepth 100000 in
theorem yb7s_0 : j_code jP 61 0 = some (.aload_n 0) := rfl
set_option maxRecDepth 100000 in
theorem yb7s_1 : j_code jP 61 1 = some (.aload_n 1) := rfl
set_option maxRecDepth 100000 in
theorem yb7s_2 : j_code jP 61 2 = some (.getfield 64) := rfl
set_option maxRecDepth 100000 in
theorem yb7s_5 : j_code jP 61 5 = some (.putfield 64) := rfl
set_option maxRecDepth 100000 in
theorem yb7s_8 : j_code jP 61 8 = some (.aload_n 0) := rfl
set_option maxRecDepth 100000 in
theorem yb7s_9 : j_code jP 61 9 = some (.aload_n 1) := rfl
set_option maxRecDepth 100000 in
theorem yb7s_10 : j_code jP 61 10 = some (.getfield 68) := rfl
set_option maxRecDepth 100000 in
theorem yb7s_13 : j_code jP 61 13 = some (.putfield 68) := rfl
set_option maxRecDepth 100000 in
theorem yb7s_16 : j_code jP 61 16 = some (.aload_n 0) := rfl
set_option maxRecDepth 100000 in
theorem yb7s_17 : j_code jP 61 17 = some (.aload_n 1) := rfl
set_option maxRecDepth 100000 in
theorem yb7s_18 : j_code jP 61 18 = some (.getfield 72) := rfl
set_option maxRecDepth 100000 in
theorem yb7s_21 : j_code jP 61 21 = some (.putfield 72) := rfl
set_option maxRecDepth 100000 in
theorem yb7s_24 : j_code jP 61 24 = some (.aload_n 0) := rfl
set_option maxRecDepth 100000 in
theorem yb7s_25 : j_code jP 61 25 = some (.aload_n 1) := rfl
set_option maxRecDepth 100000 in
theorem yb7s_26 : j_code jP 61 26 = some (.getfield 75) := rfl
set_option maxRecDepth 100000 in
theorem yb7s_29 : j_code jP 61 29 = some (.putfield 75) := rfl
set_option maxRecDepth 100000 in
theorem yb7s_32 : j_code jP 61 32 = some (.aload_n 0) := rfl
set_option maxRecDepth 100000 in
theorem yb7s_33 : j_code jP 61 33 = some (.aload_n 1) := rfl
set_option maxRecDepth 100000 in
theorem yb7s_34 : j_code jP 61 34 = some (.getfield 78) := rfl
set_option maxRecDepth 100000 in
theorem yb7s_37 : j_code jP 61 37 = some (.putfield 78) := rfl
set_option maxRecDepth 100000 in
theorem yb7s_40 : j_code jP 61 40 = some (.aload_n 1) := rfl
set_option maxRecDepth 100000 in
theorem yb7s_41 : j_code jP 61 41 = some (.getfield 9) := rfl
set_option maxRecDepth 100000 in
theorem yb7s_44 : j_code jP 61 44 = some (.iconst 0) := rfl
set_option maxRecDepth 100000 in
theorem yb7s_45 : j_code jP 61 45 = some (.aload_n 0) := rfl
set_option maxRecDepth 100000 in
theorem yb7s_46 : j_code jP 61 46 = some (.getfield 9) := rfl
set_option maxRecDepth 100000 in
theorem yb7s_49 : j_code jP 61 49 = some (.iconst 0) := rfl
set_option maxRecDepth 100000 in
theorem yb7s_50 : j_code jP 61 50 = some (.iconst 5) := rfl
set_option maxRecDepth 100000 in
theorem yb7s_51 : j_code jP 61 51 = some (.invokestatic 84) := rfl
set_option maxRecDepth 100000 in
theorem yb7s_54 : j_code jP 61 54 = some (.aload_n 1) := rfl
set_option maxRecDepth 100000 in
theorem yb7s_55 : j_code jP 61 55 = some (.getfield 15) := rfl
set_option maxRecDepth 100000 in
theorem yb7s_58 : j_code jP 61 58 = some (.iconst 0) := rfl
set_option maxRecDepth 100000 in
theorem yb7s_59 : j_code jP 61 59 = some (.aload_n 0) := rfl
set_option maxRecDepth 100000 in
theorem yb7s_60 : j_code jP 61 60 = some (.getfield 15) := rfl
set_option maxRecDepth 100000 in
theorem yb7s_63 : j_code jP 61 63 = some (.iconst 0) := rfl
set_option maxRecDepth 100000 in
theorem yb7s_64 : j_code jP 61 64 = some (.iconst 5) := rfl
set_option maxRecDepth 100000 in
theorem yb7s_65 : j_code jP 61 65 = some (.invokestatic 84) := rfl
set_option maxRecDepth 100000 in
theorem yb7s_68 : j_code jP 61 68 = some (.aload_n 1) := rfl
set_option maxRecDepth 100000 in
theorem yb7s_69 : j_code jP 61 69 = some (.getfield 18) := rfl
set_option maxRecDepth 100000 in
theorem yb7s_72 : j_code jP 61 72 = some (.iconst 0) := rfl
set_option maxRecDepth 100000 in
theorem yb7s_73 : j_code jP 61 73 = some (.aload_n 0) := rfl
set_option maxRecDepth 100000 in
theorem yb7s_74 : j_code jP 61 74 = some (.getfield 18) := rfl
set_option maxRecDepth 100000 in
theorem yb7s_77 : j_code jP 61 77 = some (.iconst 0) := rfl
set_option maxRecDepth 100000 in
theorem yb7s_78 : j_code jP 61 78 = some (.iconst 5) := rfl
set_option maxRecDepth 100000 in
theorem yb7s_79 : j_code jP 61 79 = some (.invokestatic 84) := rfl
set_option maxRecDepth 100000 in
theorem yb7s_82 : j_code jP 61 82 = some (.aload_n 1) := rfl
set_option maxRecDepth 100000 in
theorem yb7s_83 : j_code jP 61 83 = some (.getfield 21) := rfl
set_option maxRecDepth 100000 in
theorem yb7s_86 : j_code jP 61 86 = some (.iconst 0) := rfl
set_option maxRecDepth 100000 in
theorem yb7s_87 : j_code jP 61 87 = some (.aload_n 0) := rfl
set_option maxRecDepth 100000 in
theorem yb7s_88 : j_code jP 61 88 = some (.getfield 21) := rfl
set_option maxRecDepth 100000 in
theorem yb7s_91 : j_code jP 61 91 = some (.iconst 0) := rfl
set_option maxRecDepth 100000 in
theorem yb7s_92 : j_code jP 61 92 = some (.iconst 5) := rfl
set_option maxRecDepth 100000 in
theorem yb7s_93 : j_code jP 61 93 = some (.invokestatic 84) := rfl
set_option maxRecDepth 100000 in
theorem yb7s_96 : j_code jP 61 96 = some (.aload_n 1) := rfl
set_option maxRecDepth 100000 in
theorem yb7s_97 : j_code jP 61 97 = some (.getfield 24) := rfl
set_option maxRecDepth 100000 in
theorem yb7s_100 : j_code jP 61 100 = some (.iconst 0) := rfl
set_option maxRecDepth 100000 in
theorem yb7s_101 : j_code jP 61 101 = some (.aload_n 0) := rfl
set_option maxRecDepth 100000 in
theorem yb7s_102 : j_code jP 61 102 = some (.getfield 24) := rfl
set_option maxRecDepth 100000 in
theorem yb7s_105 : j_code jP 61 105 = some (.iconst 0) := rfl
set_option maxRecDepth 100000 in
theorem yb7s_106 : j_code jP 61 106 = some (.iconst 5) := rfl
set_option maxRecDepth 100000 in
theorem yb7s_107 : j_code jP 61 107 = some (.invokestatic 84) := rfl
set_option maxRecDepth 100000 in
theorem yb7s_110 : j_code jP 61 110 = some (.aload_n 1) := rfl
set_option maxRecDepth 100000 in
theorem yb7s_111 : j_code jP 61 111 = some (.getfield 27) := rfl
set_option maxRecDepth 100000 in
theorem yb7s_114 : j_code jP 61 114 = some (.iconst 0) := rfl
set_option maxRecDepth 100000 in
theorem yb7s_115 : j_code jP 61 115 = some (.aload_n 0) := rfl
set_option maxRecDepth 100000 in
theorem yb7s_116 : j_code jP 61 116 = some (.getfield 27) := rfl
set_option maxRecDepth 100000 in
theorem yb7s_119 : j_code jP 61 119 = some (.iconst 0) := rfl
set_option maxRecDepth 100000 in
theorem yb7s_120 : j_code jP 61 120 = some (.iconst 5) := rfl
set_option maxRecDepth 100000 in
theorem yb7s_121 : j_code jP 61 121 = some (.invokestatic 84) := rfl
set_option maxRecDepth 100000 in
theorem yb7s_124 : j_code jP 61 124 = some (.aload_n 1) := rfl
set_option maxRecDepth 100000 in
theorem yb7s_125 : j_code jP 61 125 = some (.getfield 30) := rfl
set_option maxRecDepth 100000 in
theorem yb7s_128 : j_code jP 61 128 = some (.iconst 0) := rfl
set_option maxRecDepth 100000 in
theorem yb7s_129 : j_code jP 61 129 = some (.aload_n 0) := rfl
set_option maxRecDepth 100000 in
theorem yb7s_130 : j_code jP 61 130 = some (.getfield 30) := rfl
set_option maxRecDepth 100000 in
theorem yb7s_133 : j_code jP 61 133 = some (.iconst 0) := rfl
set_option maxRecDepth 100000 in
theorem yb7s_134 : j_code jP 61 134 = some (.iconst 5) := rfl
set_option maxRecDepth 100000 in
theorem yb7s_135 : j_code jP 61 135 = some (.invokestatic 84) := rfl
set_option maxRecDepth 100000 in
theorem yb7s_138 : j_code jP 61 138 = some (.aload_n 1) := rfl
set_option maxRecDepth 100000 in
theorem yb7s_139 : j_code jP 61 139 = some (.getfield 33) := rfl
set_option maxRecDepth 100000 in
theorem yb7s_142 : j_code jP 61 142 = some (.iconst 0) := rfl
set_option maxRecDepth 100000 in
theorem yb7s_143 : j_code jP 61 143 = some (.aload_n 0) := rfl
set_option maxRecDepth 100000 in
theorem yb7s_144 : j_code jP 61 144 = some (.getfield 33) := rfl
set_option maxRecDepth 100000 in
theorem yb7s_147 : j_code jP 61 147 = some (.iconst 0) := rfl
set_option maxRecDepth 100000 in
theorem yb7s_148 : j_code jP 61 148 = some (.bipush 6) := rfl
set_option maxRecDepth 100000 in
theorem yb7s_150 : j_code jP 61 150 = some (.invokestatic 84) := rfl
set_option maxRecDepth 100000 in
theorem yb7s_153 : j_code jP 61 153 = some (.aload_n 1) := rfl
set_option maxRecDepth 100000 in
theorem yb7s_154 : j_code jP 61 154 = some (.getfield 36) := rfl
set_option maxRecDepth 100000 in
theorem yb7s_157 : j_code jP 61 157 = some (.iconst 0) := rfl
set_option maxRecDepth 100000 in
theorem yb7s_158 : j_code jP 61 158 = some (.aload_n 0) := rfl
set_option maxRecDepth 100000 in
theorem yb7s_159 : j_code jP 61 159 = some (.getfield 36) := rfl
set_option maxRecDepth 100000 in
theorem yb7s_162 : j_code jP 61 162 = some (.iconst 0) := rfl
set_option maxRecDepth 100000 in
theorem yb7s_163 : j_code jP 61 163 = some (.bipush 6) := rfl
set_option maxRecDepth 100000 in
theorem yb7s_165 : j_code jP 61 165 = some (.invokestatic 84) := rfl
set_option maxRecDepth 100000 in
theorem yb7s_168 : j_code jP 61 168 = some (.aload_n 1) := rfl
set_option maxRecDepth 100000 in
theorem yb7s_169 : j_code jP 61 169 = some (.getfield 39) := rfl
set_option maxRecDepth 100000 in
theorem yb7s_172 : j_code jP 61 172 = some (.iconst 0) := rfl
set_option maxRecDepth 100000 in
theorem yb7s_173 : j_code jP 61 173 = some (.aload_n 0) := rfl
set_option maxRecDepth 100000 in
theorem yb7s_174 : j_code jP 61 174 = some (.getfield 39) := rfl
set_option maxRecDepth 100000 in
theorem yb7s_177 : j_code jP 61 177 = some (.iconst 0) := rfl
set_option maxRecDepth 100000 in
theorem yb7s_178 : j_code jP 61 178 = some (.aload_n 0) := rfl
set_option maxRecDepth 100000 in
theorem yb7s_179 : j_code jP 61 179 = some (.getfield 39) := rfl
set_option maxRecDepth 100000 in
theorem yb7s_182 : j_code jP 61 182 = some (.arraylength) := rfl
set_option maxRecDepth 100000 in
theorem yb7s_183 : j_code jP 61 183 = some (.invokestatic 84) := rfl
set_option maxRecDepth 100000 in
theorem yb7s_186 : j_code jP 61 186 = some (.aload_n 1) := rfl
set_option maxRecDepth 100000 in
theorem yb7s_187 : j_code jP 61 187 = some (.getfield 42) := rfl
set_option maxRecDepth 100000 in
theorem yb7s_190 : j_code jP 61 190 = some (.iconst 0) := rfl
set_option maxRecDepth 100000 in
theorem yb7s_191 : j_code jP 61 191 = some (.aload_n 0) := rfl
set_option maxRecDepth 100000 in
theorem yb7s_192 : j_code jP 61 192 = some (.getfield 42) := rfl
set_option maxRecDepth 100000 in
theorem yb7s_195 : j_code jP 61 195 = some (.iconst 0) := rfl
set_option maxRecDepth 100000 in
theorem yb7s_196 : j_code jP 61 196 = some (.aload_n 0) := rfl
set_option maxRecDepth 100000 in
theorem yb7s_197 : j_code jP 61 197 = some (.getfield 42) := rfl
set_option maxRecDepth 100000 in
theorem yb7s_200 : j_code jP 61 200 = some (.arraylength) := rfl
set_option maxRecDepth 100000 in
theorem yb7s_201 : j_code jP 61 201 = some (.invokestatic 84) := rfl
set_option maxRecDepth 100000 in
theorem yb7s_204 : j_code jP 61 204 = some (.aload_n 1) := rfl
set_option maxRecDepth 100000 in
theorem yb7s_205 : j_code jP 61 205 = some (.getfield 45) := rfl
set_option maxRecDepth 100000 in
theorem yb7s_208 : j_code jP 61 208 = some (.iconst 0) := rfl
set_option maxRecDepth 100000 in
theorem yb7s_209 : j_code jP 61 209 = some (.aload_n 0) := rfl
set_option maxRecDepth 100000 in
theorem yb7s_210 : j_code jP 61 210 = some (.getfield 45) := rfl
set_option maxRecDepth 100000 in
theorem yb7s_213 : j_code jP 61 213 = some (.iconst 0) := rfl
set_option maxRecDepth 100000 in
theorem yb7s_214 : j_code jP 61 214 = some (.aload_n 0) := rfl
set_option maxRecDepth 100000 in
theorem yb7s_215 : j_code jP 61 215 = some (.getfield 45) := rfl
set_option maxRecDepth 100000 in
theorem yb7s_218 : j_code jP 61 218 = some (.arraylength) := rfl
set_option maxRecDepth 100000 in
theorem yb7s_219 : j_code jP 61 219 = some (.invokestatic 84) := rfl
set_option maxRecDepth 100000 in
theorem yb7s_222 : j_code jP 61 222 = some (.aload_n 0) := rfl
set_option maxRecDepth 100000 in
theorem yb7s_223 : j_code jP 61 223 = some (.getfield 60) := rfl
set_option maxRecDepth 100000 in
theorem yb7s_226 : j_code jP 61 226 = some (.aload_n 1) := rfl
set_option maxRecDepth 100000 in
theorem yb7s_227 : j_code jP 61 227 = some (.getfield 60) := rfl
set_option maxRecDepth 100000 in
theorem yb7s_230 : j_code jP 61 230 = some (.invokevirtual 108) := rfl
set_option maxRecDepth 100000 in
theorem yb7s_233 : j_code jP 61 233 = some (.return_) := rfl
set_option maxRecDepth 1000000 in
theorem yb7s_k0 {ly : Value} {mi : Int32} {shu : Int32} {bus : Int32} {lks : Int32} {lys : Nat} {mis : Int32} {shus : Int32} {buss : Int32} {lkss : Int32} {d : Nat} {lv : J_L} {h h0 : J_H} {Q : Option Value → J_H → Prop} (L : LK lv [(0, .ref 4), (1, .ref 206)]) (K : KN h [(4, .inl (7, [ly, .int mi, .int shu, .int bus, .ref 5, .ref 6, .ref 7, .ref 8, .ref 9, .ref 10, .ref 11, .ref 12, .ref 13, .ref 14, .ref 15, .int lks, .ref 16, .ref 17, .ref 20])), (206, .inl (7, [.ref lys, .int mis, .int shus, .int buss, .ref 207, .ref 208, .ref 209, .ref 210, .ref 211, .ref 212, .ref 213, .ref 214, .ref 215, .ref 216, .ref 217, .int lkss, .ref 218, .ref 219, .ref 222]))] h0) (kk : ∀ lv h, LK lv [(0, .ref 4), (1, .ref 206)] → KN h [(4, .inl (7, [.ref lys, .int mis, .int shus, .int buss, .ref 5, .ref 6, .ref 7, .ref 8, .ref 9, .ref 10, .ref 11, .ref 12, .ref 13, .ref 14, .ref 15, .int lkss, .ref 16, .ref 17, .ref 20])), (206, .inl (7, [.ref lys, .int mis, .int shus, .int buss, .ref 207, .ref 208, .ref 209, .ref 210, .ref 211, .ref 212, .ref 213, .ref 214, .ref 215, .ref 216, .ref 217, .int lkss, .ref 218, .ref 219, .ref 222]))] h0 → j_V jP d 61 40 lv [] h Q) : j_V jP d 61 0 lv [] h Q := by
  refine j_V.ldL yb7s_M yb7s_0 rfl (i := 0) (kd := 2) (v := .ref 4) (pcJ := 1) rfl L rfl rfl rfl ?_
  refine j_V.ldL yb7s_M yb7s_1 rfl (i := 1) (kd := 2) (v := .ref 206) (pcJ := 2) rfl L rfl rfl rfl ?_
  refine j_V.getK yb7s_M yb7s_2 (ci := 7) (j := 0) rfl K rfl rfl ?_
  refine j_V.putK yb7s_M yb7s_5 (ci := 7) (j := 0) (k' := [(4, .inl (7, [.ref lys, .int mi, .int shu, .int bus, .ref 5, .ref 6, .ref 7, .ref 8, .ref 9, .ref 10, .ref 11, .ref 12, .ref 13, .ref 14, .ref 15, .int lks, .ref 16, .ref 17, .ref 20])), (206, .inl (7, [.ref lys, .int mis, .int shus, .int buss, .ref 207, .ref 208, .ref 209, .ref 210, .ref 211, .ref 212, .ref 213, .ref 214, .ref 215, .ref 216, .ref 217, .int lkss, .ref 218, .ref 219, .ref 222]))]) rfl K rfl (Nat.le_of_ble_eq_true rfl) rfl (Or.inl rfl) rfl rfl (fun h K => ?_)
  refine j_V.ldL yb7s_M yb7s_8 rfl (i := 0) (kd := 2) (v := .ref 4) (pcJ := 9) rfl L rfl rfl rfl ?_
  refine j_V.ldL yb7s_M yb7s_9 rfl (i := 1) (kd := 2) (v := .ref 206) (pcJ := 10) rfl L rfl rfl rfl ?_
  refine j_V.getK yb7s_M yb7s_10 (ci := 7) (j := 1) rfl K rfl rfl ?_
  refine j_V.putK yb7s_M yb7s_13 (ci := 7) (j := 1) (k' := [(4, .inl (7, [.ref lys, .int mis, .int shu, .int bus, .ref 5, .ref 6, .ref 7, .ref 8, .ref 9, .ref 10, .ref 11, .ref 12, .ref 13, .ref 14, .ref 15, .int lks, .ref 16, .ref 17, .ref 20])), (206, .inl (7, [.ref lys, .int mis, .int shus, .int buss, .ref 207, .ref 208, .ref 209, .ref 210, .ref 211, .ref 212, .ref 213, .ref 214, .ref 215, .ref 216, .ref 217, .int lkss, .ref 218, .ref 219, .ref 222]))]) rfl K rfl (Nat.le_of_ble_eq_true rfl) rfl (Or.inl rfl) rfl rfl (fun h K => ?_)
  refine j_V.ldL yb7s_M yb7s_16 rfl (i := 0) (kd := 2) (v := .ref 4) (pcJ := 17) rfl L rfl rfl rfl ?_
  refine j_V.ldL yb7s_M yb7s_17 rfl (i := 1) (kd := 2) (v := .ref 206) (pcJ := 18) rfl L rfl rfl rfl ?_
  refine j_V.getK yb7s_M yb7s_18 (ci := 7) (j := 2) rfl K rfl rfl ?_
  refine j_V.putK yb7s_M yb7s_21 (ci := 7) (j := 2) (k' := [(4, .inl (7, [.ref lys, .int mis, .int shus, .int bus, .ref 5, .ref 6, .ref 7, .ref 8, .ref 9, .ref 10, .ref 11, .ref 12, .ref 13, .ref 14, .ref 15, .int lks, .ref 16, .ref 17, .ref 20])), (206, .inl (7, [.ref lys, .int mis, .int shus, .int buss, .ref 207, .ref 208, .ref 209, .ref 210, .ref 211, .ref 212, .ref 213, .ref 214, .ref 215, .ref 216, .ref 217, .int lkss, .ref 218, .ref 219, .ref 222]))]) rfl K rfl (Nat.le_of_ble_eq_true rfl) rfl (Or.inl rfl) rfl rfl (fun h K => ?_)
  refine j_V.ldL yb7s_M yb7s_24 rfl (i := 0) (kd := 2) (v := .ref 4) (pcJ := 25) rfl L rfl rfl rfl ?_
  refine j_V.ldL yb7s_M yb7s_25 rfl (i := 1) (kd := 2) (v := .ref 206) (pcJ := 26) rfl L rfl rfl rfl ?_
  refine j_V.getK yb7s_M yb7s_26 (ci := 7) (j := 3) rfl K rfl rfl ?_
  refine j_V.putK yb7s_M yb7s_29 (ci := 7) (j := 3) (k' := [(4, .inl (7, [.ref lys, .int mis, .int shus, .int buss, .ref 5, .ref 6, .ref 7, .ref 8, .ref 9, .ref 10, .ref 11, .ref 12, .ref 13, .ref 14, .ref 15, .int lks, .ref 16, .ref 17, .ref 20])), (206, .inl (7, [.ref lys, .int mis, .int shus, .int buss, .ref 207, .ref 208, .ref 209, .ref 210, .ref 211, .ref 212, .ref 213, .ref 214, .ref 215, .ref 216, .ref 217, .int lkss, .ref 218, .ref 219, .ref 222]))]) rfl K rfl (Nat.le_of_ble_eq_true rfl) rfl (Or.inl rfl) rfl rfl (fun h K => ?_)
  refine j_V.ldL yb7s_M yb7s_32 rfl (i := 0) (kd := 2) (v := .ref 4) (pcJ := 33) rfl L rfl rfl rfl ?_
  refine j_V.ldL yb7s_M yb7s_33 rfl (i := 1) (kd := 2) (v := .ref 206) (pcJ := 34) rfl L rfl rfl rfl ?_
  refine j_V.getK yb7s_M yb7s_34 (ci := 7) (j := 15) rfl K rfl rfl ?_
  refine j_V.putK yb7s_M yb7s_37 (ci := 7) (j := 15) (k' := [(4, .inl (7, [.ref lys, .int mis, .int shus, .int buss, .ref 5, .ref 6, .ref 7, .ref 8, .ref 9, .ref 10, .ref 11, .ref 12, .ref 13, .ref 14, .ref 15, .int lkss, .ref 16, .ref 17, .ref 20])), (206, .inl (7, [.ref lys, .int mis, .int shus, .int buss, .ref 207, .ref 208, .ref 209, .ref 210, .ref 211, .ref 212, .ref 213, .ref 214, .ref 215, .ref 216, .ref 217, .int lkss, .ref 218, .ref 219, .ref 222]))]) rfl K rfl (Nat.le_of_ble_eq_true rfl) rfl (Or.inl rfl) rfl rfl (fun h K => ?_)
  exact kk _ _ L K
set_option maxRecDepth 1000000 in
theorem yb7s_k40 {rk : List Int32} {sta : List Int32} {ph : List Int32} {lys : Nat} {mis : Int32} {shus : Int32} {buss : Int32} {lkss : Int32} {rks : List Int32} {stas : List Int32} {phs : List Int32} {d : Nat} {lv : J_L} {h h0 : J_H} {Q : Option Value → J_H → Prop} (L : LK lv [(0, .ref 4), (1, .ref 206)]) (K : KN h [(4, .inl (7, [.ref lys, .int mis, .int shus, .int buss, .ref 5, .ref 6, .ref 7, .ref 8, .ref 9, .ref 10, .ref 11, .ref 12, .ref 13, .ref 14, .ref 15, .int lkss, .ref 16, .ref 17, .ref 20])), (5, .inr (.inl (0, rk))), (6, .inr (.inl (0, sta))), (7, .inr (.inl (0, ph))), (206, .inl (7, [.ref lys, .int mis, .int shus, .int buss, .ref 207, .ref 208, .ref 209, .ref 210, .ref 211, .ref 212, .ref 213, .ref 214, .ref 215, .ref 216, .ref 217, .int lkss, .ref 218, .ref 219, .ref 222])), (207, .inr (.inl (0, rks))), (208, .inr (.inl (0, stas))), (209, .inr (.inl (0, phs)))] h0) (kk : ∀ lv h, LK lv [(0, .ref 4), (1, .ref 206)] → KN h [(4, .inl (7, [.ref lys, .int mis, .int shus, .int buss, .ref 5, .ref 6, .ref 7, .ref 8, .ref 9, .ref 10, .ref 11, .ref 12, .ref 13, .ref 14, .ref 15, .int lkss, .ref 16, .ref 17, .ref 20])), (5, .inr (.inl (0, (aC 5 rks rk)))), (6, .inr (.inl (0, (aC 5 stas sta)))), (7, .inr (.inl (0, (aC 5 phs ph)))), (206, .inl (7, [.ref lys, .int mis, .int shus, .int buss, .ref 207, .ref 208, .ref 209, .ref 210, .ref 211, .ref 212, .ref 213, .ref 214, .ref 215, .ref 216, .ref 217, .int lkss, .ref 218, .ref 219, .ref 222])), (207, .inr (.inl (0, rks))), (208, .inr (.inl (0, stas))), (209, .inr (.inl (0, phs)))] h0 → j_V jP d 61 82 lv [] h Q) : j_V jP d 61 40 lv [] h Q := by
  refine j_V.ldL yb7s_M yb7s_40 rfl (i := 1) (kd := 2) (v := .ref 206) (pcJ := 41) rfl L rfl rfl rfl ?_
  refine j_V.getK yb7s_M yb7s_41 (ci := 7) (j := 4) rfl K rfl rfl ?_
  refine j_V.one yb7s_M yb7s_44 (by decide) (pcJ := 45) (stJ := [.int 0, .ref 207]) rfl ?_
  refine j_V.ldL yb7s_M yb7s_45 rfl (i := 0) (kd := 2) (v := .ref 4) (pcJ := 46) rfl L rfl rfl rfl ?_
  refine j_V.getK yb7s_M yb7s_46 (ci := 7) (j := 4) rfl K rfl rfl ?_
  refine j_V.one yb7s_M yb7s_49 (by decide) (pcJ := 50) (stJ := [.int 0, .ref 5, .int 0, .ref 207]) rfl ?_
  refine j_V.one yb7s_M yb7s_50 (by decide) (pcJ := 51) (stJ := [.int 5, .int 0, .ref 5, .int 0, .ref 207]) rfl ?_
  refine j_V.acp yb7s_M yb7s_51 rfl rfl K rfl rfl rfl (fun h K => ?_)
  refine j_V.ldL yb7s_M yb7s_54 rfl (i := 1) (kd := 2) (v := .ref 206) (pcJ := 55) rfl L rfl rfl rfl ?_
  refine j_V.getK yb7s_M yb7s_55 (ci := 7) (j := 5) rfl K rfl rfl ?_
  refine j_V.one yb7s_M yb7s_58 (by decide) (pcJ := 59) (stJ := [.int 0, .ref 208]) rfl ?_
  refine j_V.ldL yb7s_M yb7s_59 rfl (i := 0) (kd := 2) (v := .ref 4) (pcJ := 60) rfl L rfl rfl rfl ?_
  refine j_V.getK yb7s_M yb7s_60 (ci := 7) (j := 5) rfl K rfl rfl ?_
  refine j_V.one yb7s_M yb7s_63 (by decide) (pcJ := 64) (stJ := [.int 0, .ref 6, .int 0, .ref 208]) rfl ?_
  refine j_V.one yb7s_M yb7s_64 (by decide) (pcJ := 65) (stJ := [.int 5, .int 0, .ref 6, .int 0, .ref 208]) rfl ?_
  refine j_V.acp yb7s_M yb7s_65 rfl rfl K rfl rfl rfl (fun h K => ?_)
  refine j_V.ldL yb7s_M yb7s_68 rfl (i := 1) (kd := 2) (v := .ref 206) (pcJ := 69) rfl L rfl rfl rfl ?_
  refine j_V.getK yb7s_M yb7s_69 (ci := 7) (j := 6) rfl K rfl rfl ?_
  refine j_V.one yb7s_M yb7s_72 (by decide) (pcJ := 73) (stJ := [.int 0, .ref 209]) rfl ?_
  refine j_V.ldL yb7s_M yb7s_73 rfl (i := 0) (kd := 2) (v := .ref 4) (pcJ := 74) rfl L rfl rfl rfl ?_
  refine j_V.getK yb7s_M yb7s_74 (ci := 7) (j := 6) rfl K rfl rfl ?_
  refine j_V.one yb7s_M yb7s_77 (by decide) (pcJ := 78) (stJ := [.int 0, .ref 7, .int 0, .ref 209]) rfl ?_
  refine j_V.one yb7s_M yb7s_78 (by decide) (pcJ := 79) (stJ := [.int 5, .int 0, .ref 7, .int 0, .ref 209]) rfl ?_
  refine j_V.acp yb7s_M yb7s_79 rfl rfl K rfl rfl rfl (fun h K => ?_)
  exact kk _ _ L K
set_option maxRecDepth 1000000 in
theorem yb7s_k82 {sp : List Int32} {ce : List Int32} {du : List Int32} {lys : Nat} {mis : Int32} {shus : Int32} {buss : Int32} {lkss : Int32} {sps : List Int32} {ces : List Int32} {dus : List Int32} {d : Nat} {lv : J_L} {h h0 : J_H} {Q : Option Value → J_H → Prop} (L : LK lv [(0, .ref 4), (1, .ref 206)]) (K : KN h [(4, .inl (7, [.ref lys, .int mis, .int shus, .int buss, .ref 5, .ref 6, .ref 7, .ref 8, .ref 9, .ref 10, .ref 11, .ref 12, .ref 13, .ref 14, .ref 15, .int lkss, .ref 16, .ref 17, .ref 20])), (8, .inr (.inl (0, sp))), (9, .inr (.inl (0, ce))), (10, .inr (.inl (0, du))), (206, .inl (7, [.ref lys, .int mis, .int shus, .int buss, .ref 207, .ref 208, .ref 209, .ref 210, .ref 211, .ref 212, .ref 213, .ref 214, .ref 215, .ref 216, .ref 217, .int lkss, .ref 218, .ref 219, .ref 222])), (210, .inr (.inl (0, sps))), (211, .inr (.inl (0, ces))), (212, .inr (.inl (0, dus)))] h0) (kk : ∀ lv h, LK lv [(0, .ref 4), (1, .ref 206)] → KN h [(4, .inl (7, [.ref lys, .int mis, .int shus, .int buss, .ref 5, .ref 6, .ref 7, .ref 8, .ref 9, .ref 10, .ref 11, .ref 12, .ref 13, .ref 14, .ref 15, .int lkss, .ref 16, .ref 17, .ref 20])), (8, .inr (.inl (0, (aC 5 sps sp)))), (9, .inr (.inl (0, (aC 5 ces ce)))), (10, .inr (.inl (0, (aC 5 dus du)))), (206, .inl (7, [.ref lys, .int mis, .int shus, .int buss, .ref 207, .ref 208, .ref 209, .ref 210, .ref 211, .ref 212, .ref 213, .ref 214, .ref 215, .ref 216, .ref 217, .int lkss, .ref 218, .ref 219, .ref 222])), (210, .inr (.inl (0, sps))), (211, .inr (.inl (0, ces))), (212, .inr (.inl (0, dus)))] h0 → j_V jP d 61 124 lv [] h Q) : j_V jP d 61 82 lv [] h Q := by
  refine j_V.ldL yb7s_M yb7s_82 rfl (i := 1) (kd := 2) (v := .ref 206) (pcJ := 83) rfl L rfl rfl rfl ?_
  refine j_V.getK yb7s_M yb7s_83 (ci := 7) (j := 7) rfl K rfl rfl ?_
  refine j_V.one yb7s_M yb7s_86 (by decide) (pcJ := 87) (stJ := [.int 0, .ref 210]) rfl ?_
  refine j_V.ldL yb7s_M yb7s_87 rfl (i := 0) (kd := 2) (v := .ref 4) (pcJ := 88) rfl L rfl rfl rfl ?_
  refine j_V.getK yb7s_M yb7s_88 (ci := 7) (j := 7) rfl K rfl rfl ?_
  refine j_V.one yb7s_M yb7s_91 (by decide) (pcJ := 92) (stJ := [.int 0, .ref 8, .int 0, .ref 210]) rfl ?_
  refine j_V.one yb7s_M yb7s_92 (by decide) (pcJ := 93) (stJ := [.int 5, .int 0, .ref 8, .int 0, .ref 210]) rfl ?_
  refine j_V.acp yb7s_M yb7s_93 rfl rfl K rfl rfl rfl (fun h K => ?_)
  refine j_V.ldL yb7s_M yb7s_96 rfl (i := 1) (kd := 2) (v := .ref 206) (pcJ := 97) rfl L rfl rfl rfl ?_
  refine j_V.getK yb7s_M yb7s_97 (ci := 7) (j := 8) rfl K rfl rfl ?_
  refine j_V.one yb7s_M yb7s_100 (by decide) (pcJ := 101) (stJ := [.int 0, .ref 211]) rfl ?_
  refine j_V.ldL yb7s_M yb7s_101 rfl (i := 0) (kd := 2) (v := .ref 4) (pcJ := 102) rfl L rfl rfl rfl ?_
  refine j_V.getK yb7s_M yb7s_102 (ci := 7) (j := 8) rfl K rfl rfl ?_
  refine j_V.one yb7s_M yb7s_105 (by decide) (pcJ := 106) (stJ := [.int 0, .ref 9, .int 0, .ref 211]) rfl ?_
  refine j_V.one yb7s_M yb7s_106 (by decide) (pcJ := 107) (stJ := [.int 5, .int 0, .ref 9, .int 0, .ref 211]) rfl ?_
  refine j_V.acp yb7s_M yb7s_107 rfl rfl K rfl rfl rfl (fun h K => ?_)
  refine j_V.ldL yb7s_M yb7s_110 rfl (i := 1) (kd := 2) (v := .ref 206) (pcJ := 111) rfl L rfl rfl rfl ?_
  refine j_V.getK yb7s_M yb7s_111 (ci := 7) (j := 9) rfl K rfl rfl ?_
  refine j_V.one yb7s_M yb7s_114 (by decide) (pcJ := 115) (stJ := [.int 0, .ref 212]) rfl ?_
  refine j_V.ldL yb7s_M yb7s_115 rfl (i := 0) (kd := 2) (v := .ref 4) (pcJ := 116) rfl L rfl rfl rfl ?_
  refine j_V.getK yb7s_M yb7s_116 (ci := 7) (j := 9) rfl K rfl rfl ?_
  refine j_V.one yb7s_M yb7s_119 (by decide) (pcJ := 120) (stJ := [.int 0, .ref 10, .int 0, .ref 212]) rfl ?_
  refine j_V.one yb7s_M yb7s_120 (by decide) (pcJ := 121) (stJ := [.int 5, .int 0, .ref 10, .int 0, .ref 212]) rfl ?_
  refine j_V.acp yb7s_M yb7s_121 rfl rfl K rfl rfl rfl (fun h K => ?_)
  exact kk _ _ L K
set_option maxRecDepth 1000000 in
theorem yb7s_k124 {he : List Int32} {ri : List Int32} {us : List Int32} {lys : Nat} {mis : Int32} {shus : Int32} {buss : Int32} {lkss : Int32} {hes : List Int32} {ris : List Int32} {uss : List Int32} {d : Nat} {lv : J_L} {h h0 : J_H} {Q : Option Value → J_H → Prop} (L : LK lv [(0, .ref 4), (1, .ref 206)]) (K : KN h [(4, .inl (7, [.ref lys, .int mis, .int shus, .int buss, .ref 5, .ref 6, .ref 7, .ref 8, .ref 9, .ref 10, .ref 11, .ref 12, .ref 13, .ref 14, .ref 15, .int lkss, .ref 16, .ref 17, .ref 20])), (11, .inr (.inl (0, he))), (12, .inr (.inl (0, ri))), (13, .inr (.inl (0, us))), (206, .inl (7, [.ref lys, .int mis, .int shus, .int buss, .ref 207, .ref 208, .ref 209, .ref 210, .ref 211, .ref 212, .ref 213, .ref 214, .ref 215, .ref 216, .ref 217, .int lkss, .ref 218, .ref 219, .ref 222])), (213, .inr (.inl (0, hes))), (214, .inr (.inl (0, ris))), (215, .inr (.inl (0, uss)))] h0) (kk : ∀ lv h, LK lv [(0, .ref 4), (1, .ref 206)] → KN h [(4, .inl (7, [.ref lys, .int mis, .int shus, .int buss, .ref 5, .ref 6, .ref 7, .ref 8, .ref 9, .ref 10, .ref 11, .ref 12, .ref 13, .ref 14, .ref 15, .int lkss, .ref 16, .ref 17, .ref 20])), (11, .inr (.inl (0, (aC 5 hes he)))), (12, .inr (.inl (0, (aC 6 ris ri)))), (13, .inr (.inl (0, (aC 6 uss us)))), (206, .inl (7, [.ref lys, .int mis, .int shus, .int buss, .ref 207, .ref 208, .ref 209, .ref 210, .ref 211, .ref 212, .ref 213, .ref 214, .ref 215, .ref 216, .ref 217, .int lkss, .ref 218, .ref 219, .ref 222])), (213, .inr (.inl (0, hes))), (214, .inr (.inl (0, ris))), (215, .inr (.inl (0, uss)))] h0 → j_V jP d 61 168 lv [] h Q) : j_V jP d 61 124 lv [] h Q := by
  refine j_V.ldL yb7s_M yb7s_124 rfl (i := 1) (kd := 2) (v := .ref 206) (pcJ := 125) rfl L rfl rfl rfl ?_
  refine j_V.getK yb7s_M yb7s_125 (ci := 7) (j := 10) rfl K rfl rfl ?_
  refine j_V.one yb7s_M yb7s_128 (by decide) (pcJ := 129) (stJ := [.int 0, .ref 213]) rfl ?_
  refine j_V.ldL yb7s_M yb7s_129 rfl (i := 0) (kd := 2) (v := .ref 4) (pcJ := 130) rfl L rfl rfl rfl ?_
  refine j_V.getK yb7s_M yb7s_130 (ci := 7) (j := 10) rfl K rfl rfl ?_
  refine j_V.one yb7s_M yb7s_133 (by decide) (pcJ := 134) (stJ := [.int 0, .ref 11, .int 0, .ref 213]) rfl ?_
  refine j_V.one yb7s_M yb7s_134 (by decide) (pcJ := 135) (stJ := [.int 5, .int 0, .ref 11, .int 0, .ref 213]) rfl ?_
  refine j_V.acp yb7s_M yb7s_135 rfl rfl K rfl rfl rfl (fun h K => ?_)
  refine j_V.ldL yb7s_M yb7s_138 rfl (i := 1) (kd := 2) (v := .ref 206) (pcJ := 139) rfl L rfl rfl rfl ?_
  refine j_V.getK yb7s_M yb7s_139 (ci := 7) (j := 11) rfl K rfl rfl ?_
  refine j_V.one yb7s_M yb7s_142 (by decide) (pcJ := 143) (stJ := [.int 0, .ref 214]) rfl ?_
  refine j_V.ldL yb7s_M yb7s_143 rfl (i := 0) (kd := 2) (v := .ref 4) (pcJ := 144) rfl L rfl rfl rfl ?_
  refine j_V.getK yb7s_M yb7s_144 (ci := 7) (j := 11) rfl K rfl rfl ?_
  refine j_V.one yb7s_M yb7s_147 (by decide) (pcJ := 148) (stJ := [.int 0, .ref 12, .int 0, .ref 214]) rfl ?_
  refine j_V.one yb7s_M yb7s_148 (by decide) (pcJ := 150) (stJ := [.int 6, .int 0, .ref 12, .int 0, .ref 214]) rfl ?_
  refine j_V.acp yb7s_M yb7s_150 rfl rfl K rfl rfl rfl (fun h K => ?_)
  refine j_V.ldL yb7s_M yb7s_153 rfl (i := 1) (kd := 2) (v := .ref 206) (pcJ := 154) rfl L rfl rfl rfl ?_
  refine j_V.getK yb7s_M yb7s_154 (ci := 7) (j := 12) rfl K rfl rfl ?_
  refine j_V.one yb7s_M yb7s_157 (by decide) (pcJ := 158) (stJ := [.int 0, .ref 215]) rfl ?_
  refine j_V.ldL yb7s_M yb7s_158 rfl (i := 0) (kd := 2) (v := .ref 4) (pcJ := 159) rfl L rfl rfl rfl ?_
  refine j_V.getK yb7s_M yb7s_159 (ci := 7) (j := 12) rfl K rfl rfl ?_
  refine j_V.one yb7s_M yb7s_162 (by decide) (pcJ := 163) (stJ := [.int 0, .ref 13, .int 0, .ref 215]) rfl ?_
  refine j_V.one yb7s_M yb7s_163 (by decide) (pcJ := 165) (stJ := [.int 6, .int 0, .ref 13, .int 0, .ref 215]) rfl ?_
  refine j_V.acp yb7s_M yb7s_165 rfl rfl K rfl rfl rfl (fun h K => ?_)
  exact kk _ _ L K
set_option maxRecDepth 1000000 in
theorem yb7s_k168 {cm : List Int32} {lf : List Int32} {lkd : List Int32} {lys : Nat} {mis : Int32} {shus : Int32} {buss : Int32} {lkss : Int32} {cms : List Int32} {lfs : List Int32} {lkds : List Int32} {d : Nat} {lv : J_L} {h h0 : J_H} {Q : Option Value → J_H → Prop} (L : LK lv [(0, .ref 4), (1, .ref 206)]) (K : KN h [(4, .inl (7, [.ref lys, .int mis, .int shus, .int buss, .ref 5, .ref 6, .ref 7, .ref 8, .ref 9, .ref 10, .ref 11, .ref 12, .ref 13, .ref 14, .ref 15, .int lkss, .ref 16, .ref 17, .ref 20])), (14, .inr (.inl (0, cm))), (15, .inr (.inl (0, lf))), (16, .inr (.inl (0, lkd))), (206, .inl (7, [.ref lys, .int mis, .int shus, .int buss, .ref 207, .ref 208, .ref 209, .ref 210, .ref 211, .ref 212, .ref 213, .ref 214, .ref 215, .ref 216, .ref 217, .int lkss, .ref 218, .ref 219, .ref 222])), (216, .inr (.inl (0, cms))), (217, .inr (.inl (0, lfs))), (218, .inr (.inl (0, lkds)))] h0) (kk : ∀ lv h, LK lv [(0, .ref 4), (1, .ref 206)] → KN h [(4, .inl (7, [.ref lys, .int mis, .int shus, .int buss, .ref 5, .ref 6, .ref 7, .ref 8, .ref 9, .ref 10, .ref 11, .ref 12, .ref 13, .ref 14, .ref 15, .int lkss, .ref 16, .ref 17, .ref 20])), (14, .inr (.inl (0, (aC (nI cm.length) cms cm)))), (15, .inr (.inl (0, (aC (nI lf.length) lfs lf)))), (16, .inr (.inl (0, (aC (nI lkd.length) lkds lkd)))), (206, .inl (7, [.ref lys, .int mis, .int shus, .int buss, .ref 207, .ref 208, .ref 209, .ref 210, .ref 211, .ref 212, .ref 213, .ref 214, .ref 215, .ref 216, .ref 217, .int lkss, .ref 218, .ref 219, .ref 222])), (216, .inr (.inl (0, cms))), (217, .inr (.inl (0, lfs))), (218, .inr (.inl (0, lkds)))] h0 → j_V jP d 61 222 lv [] h Q) : j_V jP d 61 168 lv [] h Q := by
  refine j_V.ldL yb7s_M yb7s_168 rfl (i := 1) (kd := 2) (v := .ref 206) (pcJ := 169) rfl L rfl rfl rfl ?_
  refine j_V.getK yb7s_M yb7s_169 (ci := 7) (j := 13) rfl K rfl rfl ?_
  refine j_V.one yb7s_M yb7s_172 (by decide) (pcJ := 173) (stJ := [.int 0, .ref 216]) rfl ?_
  refine j_V.ldL yb7s_M yb7s_173 rfl (i := 0) (kd := 2) (v := .ref 4) (pcJ := 174) rfl L rfl rfl rfl ?_
  refine j_V.getK yb7s_M yb7s_174 (ci := 7) (j := 13) rfl K rfl rfl ?_
  refine j_V.one yb7s_M yb7s_177 (by decide) (pcJ := 178) (stJ := [.int 0, .ref 14, .int 0, .ref 216]) rfl ?_
  refine j_V.ldL yb7s_M yb7s_178 rfl (i := 0) (kd := 2) (v := .ref 4) (pcJ := 179) rfl L rfl rfl rfl ?_
  refine j_V.getK yb7s_M yb7s_179 (ci := 7) (j := 13) rfl K rfl rfl ?_
  refine j_V.alnA yb7s_M yb7s_182 K rfl ?_
  refine j_V.acp yb7s_M yb7s_183 rfl rfl K rfl rfl rfl (fun h K => ?_)
  refine j_V.ldL yb7s_M yb7s_186 rfl (i := 1) (kd := 2) (v := .ref 206) (pcJ := 187) rfl L rfl rfl rfl ?_
  refine j_V.getK yb7s_M yb7s_187 (ci := 7) (j := 14) rfl K rfl rfl ?_
  refine j_V.one yb7s_M yb7s_190 (by decide) (pcJ := 191) (stJ := [.int 0, .ref 217]) rfl ?_
  refine j_V.ldL yb7s_M yb7s_191 rfl (i := 0) (kd := 2) (v := .ref 4) (pcJ := 192) rfl L rfl rfl rfl ?_
  refine j_V.getK yb7s_M yb7s_192 (ci := 7) (j := 14) rfl K rfl rfl ?_
  refine j_V.one yb7s_M yb7s_195 (by decide) (pcJ := 196) (stJ := [.int 0, .ref 15, .int 0, .ref 217]) rfl ?_
  refine j_V.ldL yb7s_M yb7s_196 rfl (i := 0) (kd := 2) (v := .ref 4) (pcJ := 197) rfl L rfl rfl rfl ?_
  refine j_V.getK yb7s_M yb7s_197 (ci := 7) (j := 14) rfl K rfl rfl ?_
  refine j_V.alnA yb7s_M yb7s_200 K rfl ?_
  refine j_V.acp yb7s_M yb7s_201 rfl rfl K rfl rfl rfl (fun h K => ?_)
  refine j_V.ldL yb7s_M yb7s_204 rfl (i := 1) (kd := 2) (v := .ref 206) (pcJ := 205) rfl L rfl rfl rfl ?_
  refine j_V.getK yb7s_M yb7s_205 (ci := 7) (j := 16) rfl K rfl rfl ?_
  refine j_V.one yb7s_M yb7s_208 (by decide) (pcJ := 209) (stJ := [.int 0, .ref 218]) rfl ?_
  refine j_V.ldL yb7s_M yb7s_209 rfl (i := 0) (kd := 2) (v := .ref 4) (pcJ := 210) rfl L rfl rfl rfl ?_
  refine j_V.getK yb7s_M yb7s_210 (ci := 7) (j := 16) rfl K rfl rfl ?_
  refine j_V.one yb7s_M yb7s_213 (by decide) (pcJ := 214) (stJ := [.int 0, .ref 16, .int 0, .ref 218]) rfl ?_
  refine j_V.ldL yb7s_M yb7s_214 rfl (i := 0) (kd := 2) (v := .ref 4) (pcJ := 215) rfl L rfl rfl rfl ?_
  refine j_V.getK yb7s_M yb7s_215 (ci := 7) (j := 16) rfl K rfl rfl ?_
  refine j_V.alnA yb7s_M yb7s_218 K rfl ?_
  refine j_V.acp yb7s_M yb7s_219 rfl rfl K rfl rfl rfl (fun h K => ?_)
  exact kk _ _ L K
set_option maxRecDepth 1000000 in
theorem yb7s_ok {ly : Value} {mi : Int32} {shu : Int32} {bus : Int32} {lks : Int32} {rk : List Int32} {sta : List Int32} {ph : List Int32} {sp : List Int32} {ce : List Int32} {du : List Int32} {he : List Int32} {ri : List Int32} {us : List Int32} {cm : List Int32} {lf : List Int32} {lkd : List Int32} {pev : Int32} {pms : List Int32} {pmm : List Int32} {pmt : List Int32} {pst : List Int32} {pwa : List Int32} {prs : List Int32} {prr : List Int32} {pfa : List Int32} {lys : Nat} {mis : Int32} {shus : Int32} {buss : Int32} {lkss : Int32} {rks : List Int32} {stas : List Int32} {phs : List Int32} {sps : List Int32} {ces : List Int32} {dus : List Int32} {hes : List Int32} {ris : List Int32} {uss : List Int32} {cms : List Int32} {lfs : List Int32} {lkds : List Int32} {pevs : Int32} {pmss : List Int32} {pmms : List Int32} {pmts : List Int32} {psts : List Int32} {pwas : List Int32} {prss : List Int32} {prrs : List Int32} {pfas : List Int32} {d : Nat} {h h0 : J_H} (K : KN h [(4, .inl (7, [ly, .int mi, .int shu, .int bus, .ref 5, .ref 6, .ref 7, .ref 8, .ref 9, .ref 10, .ref 11, .ref 12, .ref 13, .ref 14, .ref 15, .int lks, .ref 16, .ref 17, .ref 20])), (5, .inr (.inl (0, rk))), (6, .inr (.inl (0, sta))), (7, .inr (.inl (0, ph))), (8, .inr (.inl (0, sp))), (9, .inr (.inl (0, ce))), (10, .inr (.inl (0, du))), (11, .inr (.inl (0, he))), (12, .inr (.inl (0, ri))), (13, .inr (.inl (0, us))), (14, .inr (.inl (0, cm))), (15, .inr (.inl (0, lf))), (16, .inr (.inl (0, lkd))), (20, .inl (3, [.ref 21, .ref 22, .ref 23, .ref 24, .ref 25, .ref 26, .ref 27, .ref 28, .int pev, .int 1])), (21, .inr (.inl (0, pms))), (22, .inr (.inl (0, pmm))), (23, .inr (.inl (0, pmt))), (24, .inr (.inl (0, pst))), (25, .inr (.inl (0, pwa))), (26, .inr (.inl (0, prs))), (27, .inr (.inl (0, prr))), (28, .inr (.inl (0, pfa))), (206, .inl (7, [.ref lys, .int mis, .int shus, .int buss, .ref 207, .ref 208, .ref 209, .ref 210, .ref 211, .ref 212, .ref 213, .ref 214, .ref 215, .ref 216, .ref 217, .int lkss, .ref 218, .ref 219, .ref 222])), (207, .inr (.inl (0, rks))), (208, .inr (.inl (0, stas))), (209, .inr (.inl (0, phs))), (210, .inr (.inl (0, sps))), (211, .inr (.inl (0, ces))), (212, .inr (.inl (0, dus))), (213, .inr (.inl (0, hes))), (214, .inr (.inl (0, ris))), (215, .inr (.inl (0, uss))), (216, .inr (.inl (0, cms))), (217, .inr (.inl (0, lfs))), (218, .inr (.inl (0, lkds))), (222, .inl (3, [.ref 223, .ref 224, .ref 225, .ref 226, .ref 227, .ref 228, .ref 229, .ref 230, .int pevs, .int 1])), (223, .inr (.inl (0, pmss))), (224, .inr (.inl (0, pmms))), (225, .inr (.inl (0, pmts))), (226, .inr (.inl (0, psts))), (227, .inr (.inl (0, pwas))), (228, .inr (.inl (0, prss))), (229, .inr (.inl (0, prrs))), (230, .inr (.inl (0, pfas)))] h0) : j_V jP d 61 0 (lv_args 0 [.ref 4, .ref 206]) [] h (fun rv h' => rv = none ∧ KN h' [(4, .inl (7, [.ref lys, .int mis, .int shus, .int buss, .ref 5, .ref 6, .ref 7, .ref 8, .ref 9, .ref 10, .ref 11, .ref 12, .ref 13, .ref 14, .ref 15, .int lkss, .ref 16, .ref 17, .ref 20])), (5, .inr (.inl (0, (aC 5 rks rk)))), (6, .inr (.inl (0, (aC 5 stas sta)))), (7, .inr (.inl (0, (aC 5 phs ph)))), (8, .inr (.inl (0, (aC 5 sps sp)))), (9, .inr (.inl (0, (aC 5 ces ce)))), (10, .inr (.inl (0, (aC 5 dus du)))), (11, .inr (.inl (0, (aC 5 hes he)))), (12, .inr (.inl (0, (aC 6 ris ri)))), (13, .inr (.inl (0, (aC 6 uss us)))), (14, .inr (.inl (0, (aC (nI cm.length) cms cm)))), (15, .inr (.inl (0, (aC (nI lf.length) lfs lf)))), (16, .inr (.inl (0, (aC (nI lkd.length) lkds lkd)))), (20, .inl (3, [.ref 21, .ref 22, .ref 23, .ref 24, .ref 25, .ref 26, .ref 27, .ref 28, .int pevs, .int 1])), (21, .inr (.inl (0, (aC (nI pms.length) pmss pms)))), (22, .inr (.inl (0, (aC (nI pmm.length) pmms pmm)))), (23, .inr (.inl (0, (aC (nI pmt.length) pmts pmt)))), (24, .inr (.inl (0, (aC (nI pst.length) psts pst)))), (25, .inr (.inl (0, (aC (nI pwa.length) pwas pwa)))), (26, .inr (.inl (0, (aC (nI prs.length) prss prs)))), (27, .inr (.inl (0, (aC (nI prr.length) prrs prr)))), (28, .inr (.inl (0, (aC (nI pfa.length) pfas pfa)))), (206, .inl (7, [.ref lys, .int mis, .int shus, .int buss, .ref 207, .ref 208, .ref 209, .ref 210, .ref 211, .ref 212, .ref 213, .ref 214, .ref 215, .ref 216, .ref 217, .int lkss, .ref 218, .ref 219, .ref 222])), (207, .inr (.inl (0, rks))), (208, .inr (.inl (0, stas))), (209, .inr (.inl (0, phs))), (210, .inr (.inl (0, sps))), (211, .inr (.inl (0, ces))), (212, .inr (.inl (0, dus))), (213, .inr (.inl (0, hes))), (214, .inr (.inl (0, ris))), (215, .inr (.inl (0, uss))), (216, .inr (.inl (0, cms))), (217, .inr (.inl (0, lfs))), (218, .inr (.inl (0, lkds))), (222, .inl (3, [.ref 223, .ref 224, .ref 225, .ref 226, .ref 227, .ref 228, .ref 229, .ref 230, .int pevs, .int 1])), (223, .inr (.inl (0, pmss))), (224, .inr (.inl (0, pmms))), (225, .inr (.inl (0, pmts))), (226, .inr (.inl (0, psts))), (227, .inr (.inl (0, pwas))), (228, .inr (.inl (0, prss))), (229, .inr (.inl (0, prrs))), (230, .inr (.inl (0, pfas)))] h0) := by
  show j_V jP d 61 0 [(0, .ref 4), (1, .ref 206)] [] h _
  obtain ⟨lv, elv, L⟩ : ∃ lv, lv = [(0, .ref 4), (1, .ref 206)] ∧ LK lv [(0, .ref 4), (1, .ref 206)] := ⟨_, rfl, LK.rf⟩
  rw [← elv]
  clear elv
  refine yb7s_k0 L (K.fi [4, 206] rfl rfl) (fun lv h9 L K9 => ?_)
  have K : KN h9 [(4, .inl (7, [.ref lys, .int mis, .int shus, .int buss, .ref 5, .ref 6, .ref 7, .ref 8, .ref 9, .ref 10, .ref 11, .ref 12, .ref 13, .ref 14, .ref 15, .int lkss, .ref 16, .ref 17, .ref 20])), (5, .inr (.inl (0, rk))), (6, .inr (.inl (0, sta))), (7, .inr (.inl (0, ph))), (8, .inr (.inl (0, sp))), (9, .inr (.inl (0, ce))), (10, .inr (.inl (0, du))), (11, .inr (.inl (0, he))), (12, .inr (.inl (0, ri))), (13, .inr (.inl (0, us))), (14, .inr (.inl (0, cm))), (15, .inr (.inl (0, lf))), (16, .inr (.inl (0, lkd))), (20, .inl (3, [.ref 21, .ref 22, .ref 23, .ref 24, .ref 25, .ref 26, .ref 27, .ref 28, .int pev, .int 1])), (21, .inr (.inl (0, pms))), (22, .inr (.inl (0, pmm))), (23, .inr (.inl (0, pmt))), (24, .inr (.inl (0, pst))), (25, .inr (.inl (0, pwa))), (26, .inr (.inl (0, prs))), (27, .inr (.inl (0, prr))), (28, .inr (.inl (0, pfa))), (206, .inl (7, [.ref lys, .int mis, .int shus, .int buss, .ref 207, .ref 208, .ref 209, .ref 210, .ref 211, .ref 212, .ref 213, .ref 214, .ref 215, .ref 216, .ref 217, .int lkss, .ref 218, .ref 219, .ref 222])), (207, .inr (.inl (0, rks))), (208, .inr (.inl (0, stas))), (209, .inr (.inl (0, phs))), (210, .inr (.inl (0, sps))), (211, .inr (.inl (0, ces))), (212, .inr (.inl (0, dus))), (213, .inr (.inl (0, hes))), (214, .inr (.inl (0, ris))), (215, .inr (.inl (0, uss))), (216, .inr (.inl (0, cms))), (217, .inr (.inl (0, lfs))), (218, .inr (.inl (0, lkds))), (222, .inl (3, [.ref 223, .ref 224, .ref 225, .ref 226, .ref 227, .ref 228, .ref 229, .ref 230, .int pevs, .int 1])), (223, .inr (.inl (0, pmss))), (224, .inr (.inl (0, pmms))), (225, .inr (.inl (0, pmts))), (226, .inr (.inl (0, psts))), (227, .inr (.inl (0, pwas))), (228, .inr (.inl (0, prss))), (229, .inr (.inl (0, prrs))), (230, .inr (.inl (0, pfas)))] h0 := K.mg K9 rfl rfl
  clear K9
  refine yb7s_k40 L (K.fi [4, 5, 6, 7, 206, 207, 208, 209] rfl rfl) (fun lv h9 L K9 => ?_)
  have K : KN h9 [(4, .inl (7, [.ref lys, .int mis, .int shus, .int buss, .ref 5, .ref 6, .ref 7, .ref 8, .ref 9, .ref 10, .ref 11, .ref 12, .ref 13, .ref 14, .ref 15, .int lkss, .ref 16, .ref 17, .ref 20])), (5, .inr (.inl (0, (aC 5 rks rk)))), (6, .inr (.inl (0, (aC 5 stas sta)))), (7, .inr (.inl (0, (aC 5 phs ph)))), (8, .inr (.inl (0, sp))), (9, .inr (.inl (0, ce))), (10, .inr (.inl (0, du))), (11, .inr (.inl (0, he))), (12, .inr (.inl (0, ri))), (13, .inr (.inl (0, us))), (14, .inr (.inl (0, cm))), (15, .inr (.inl (0, lf))), (16, .inr (.inl (0, lkd))), (20, .inl (3, [.ref 21, .ref 22, .ref 23, .ref 24, .ref 25, .ref 26, .ref 27, .ref 28, .int pev, .int 1])), (21, .inr (.inl (0, pms))), (22, .inr (.inl (0, pmm))), (23, .inr (.inl (0, pmt))), (24, .inr (.inl (0, pst))), (25, .inr (.inl (0, pwa))), (26, .inr (.inl (0, prs))), (27, .inr (.inl (0, prr))), (28, .inr (.inl (0, pfa))), (206, .inl (7, [.ref lys, .int mis, .int shus, .int buss, .ref 207, .ref 208, .ref 209, .ref 210, .ref 211, .ref 212, .ref 213, .ref 214, .ref 215, .ref 216, .ref 217, .int lkss, .ref 218, .ref 219, .ref 222])), (207, .inr (.inl (0, rks))), (208, .inr (.inl (0, stas))), (209, .inr (.inl (0, phs))), (210, .inr (.inl (0, sps))), (211, .inr (.inl (0, ces))), (212, .inr (.inl (0, dus))), (213, .inr (.inl (0, hes))), (214, .inr (.inl (0, ris))), (215, .inr (.inl (0, uss))), (216, .inr (.inl (0, cms))), (217, .inr (.inl (0, lfs))), (218, .inr (.inl (0, lkds))), (222, .inl (3, [.ref 223, .ref 224, .ref 225, .ref 226, .ref 227, .ref 228, .ref 229, .ref 230, .int pevs, .int 1])), (223, .inr (.inl (0, pmss))), (224, .inr (.inl (0, pmms))), (225, .inr (.inl (0, pmts))), (226, .inr (.inl (0, psts))), (227, .inr (.inl (0, pwas))), (228, .inr (.inl (0, prss))), (229, .inr (.inl (0, prrs))), (230, .inr (.inl (0, pfas)))] h0 := K.mg K9 rfl rfl
  clear K9
  refine yb7s_k82 L (K.fi [4, 8, 9, 10, 206, 210, 211, 212] rfl rfl) (fun lv h9 L K9 => ?_)
  have K : KN h9 [(4, .inl (7, [.ref lys, .int mis, .int shus, .int buss, .ref 5, .ref 6, .ref 7, .ref 8, .ref 9, .ref 10, .ref 11, .ref 12, .ref 13, .ref 14, .ref 15, .int lkss, .ref 16, .ref 17, .ref 20])), (5, .inr (.inl (0, (aC 5 rks rk)))), (6, .inr (.inl (0, (aC 5 stas sta)))), (7, .inr (.inl (0, (aC 5 phs ph)))), (8, .inr (.inl (0, (aC 5 sps sp)))), (9, .inr (.inl (0, (aC 5 ces ce)))), (10, .inr (.inl (0, (aC 5 dus du)))), (11, .inr (.inl (0, he))), (12, .inr (.inl (0, ri))), (13, .inr (.inl (0, us))), (14, .inr (.inl (0, cm))), (15, .inr (.inl (0, lf))), (16, .inr (.inl (0, lkd))), (20, .inl (3, [.ref 21, .ref 22, .ref 23, .ref 24, .ref 25, .ref 26, .ref 27, .ref 28, .int pev, .int 1])), (21, .inr (.inl (0, pms))), (22, .inr (.inl (0, pmm))), (23, .inr (.inl (0, pmt))), (24, .inr (.inl (0, pst))), (25, .inr (.inl (0, pwa))), (26, .inr (.inl (0, prs))), (27, .inr (.inl (0, prr))), (28, .inr (.inl (0, pfa))), (206, .inl (7, [.ref lys, .int mis, .int shus, .int buss, .ref 207, .ref 208, .ref 209, .ref 210, .ref 211, .ref 212, .ref 213, .ref 214, .ref 215, .ref 216, .ref 217, .int lkss, .ref 218, .ref 219, .ref 222])), (207, .inr (.inl (0, rks))), (208, .inr (.inl (0, stas))), (209, .inr (.inl (0, phs))), (210, .inr (.inl (0, sps))), (211, .inr (.inl (0, ces))), (212, .inr (.inl (0, dus))), (213, .inr (.inl (0, hes))), (214, .inr (.inl (0, ris))), (215, .inr (.inl (0, uss))), (216, .inr (.inl (0, cms))), (217, .inr (.inl (0, lfs))), (218, .inr (.inl (0, lkds))), (222, .inl (3, [.ref 223, .ref 224, .ref 225, .ref 226, .ref 227, .ref 228, .ref 229, .ref 230, .int pevs, .int 1])), (223, .inr (.inl (0, pmss))), (224, .inr (.inl (0, pmms))), (225, .inr (.inl (0, pmts))), (226, .inr (.inl (0, psts))), (227, .inr (.inl (0, pwas))), (228, .inr (.inl (0, prss))), (229, .inr (.inl (0, prrs))), (230, .inr (.inl (0, pfas)))] h0 := K.mg K9 rfl rfl
  clear K9
  refine yb7s_k124 L (K.fi [4, 11, 12, 13, 206, 213, 214, 215] rfl rfl) (fun lv h9 L K9 => ?_)
  have K : KN h9 [(4, .inl (7, [.ref lys, .int mis, .int shus, .int buss, .ref 5, .ref 6, .ref 7, .ref 8, .ref 9, .ref 10, .ref 11, .ref 12, .ref 13, .ref 14, .ref 15, .int lkss, .ref 16, .ref 17, .ref 20])), (5, .inr (.inl (0, (aC 5 rks rk)))), (6, .inr (.inl (0, (aC 5 stas sta)))), (7, .inr (.inl (0, (aC 5 phs ph)))), (8, .inr (.inl (0, (aC 5 sps sp)))), (9, .inr (.inl (0, (aC 5 ces ce)))), (10, .inr (.inl (0, (aC 5 dus du)))), (11, .inr (.inl (0, (aC 5 hes he)))), (12, .inr (.inl (0, (aC 6 ris ri)))), (13, .inr (.inl (0, (aC 6 uss us)))), (14, .inr (.inl (0, cm))), (15, .inr (.inl (0, lf))), (16, .inr (.inl (0, lkd))), (20, .inl (3, [.ref 21, .ref 22, .ref 23, .ref 24, .ref 25, .ref 26, .ref 27, .ref 28, .int pev, .int 1])), (21, .inr (.inl (0, pms))), (22, .inr (.inl (0, pmm))), (23, .inr (.inl (0, pmt))), (24, .inr (.inl (0, pst))), (25, .inr (.inl (0, pwa))), (26, .inr (.inl (0, prs))), (27, .inr (.inl (0, prr))), (28, .inr (.inl (0, pfa))), (206, .inl (7, [.ref lys, .int mis, .int shus, .int buss, .ref 207, .ref 208, .ref 209, .ref 210, .ref 211, .ref 212, .ref 213, .ref 214, .ref 215, .ref 216, .ref 217, .int lkss, .ref 218, .ref 219, .ref 222])), (207, .inr (.inl (0, rks))), (208, .inr (.inl (0, stas))), (209, .inr (.inl (0, phs))), (210, .inr (.inl (0, sps))), (211, .inr (.inl (0, ces))), (212, .inr (.inl (0, dus))), (213, .inr (.inl (0, hes))), (214, .inr (.inl (0, ris))), (215, .inr (.inl (0, uss))), (216, .inr (.inl (0, cms))), (217, .inr (.inl (0, lfs))), (218, .inr (.inl (0, lkds))), (222, .inl (3, [.ref 223, .ref 224, .ref 225, .ref 226, .ref 227, .ref 228, .ref 229, .ref 230, .int pevs, .int 1])), (223, .inr (.inl (0, pmss))), (224, .inr (.inl (0, pmms))), (225, .inr (.inl (0, pmts))), (226, .inr (.inl (0, psts))), (227, .inr (.inl (0, pwas))), (228, .inr (.inl (0, prss))), (229, .inr (.inl (0, prrs))), (230, .inr (.inl (0, pfas)))] h0 := K.mg K9 rfl rfl
  clear K9
  refine yb7s_k168 L (K.fi [4, 14, 15, 16, 206, 216, 217, 218] rfl rfl) (fun lv h9 L K9 => ?_)
  have K : KN h9 [(4, .inl (7, [.ref lys, .int mis, .int shus, .int buss, .ref 5, .ref 6, .ref 7, .ref 8, .ref 9, .ref 10, .ref 11, .ref 12, .ref 13, .ref 14, .ref 15, .int lkss, .ref 16, .ref 17, .ref 20])), (5, .inr (.inl (0, (aC 5 rks rk)))), (6, .inr (.inl (0, (aC 5 stas sta)))), (7, .inr (.inl (0, (aC 5 phs ph)))), (8, .inr (.inl (0, (aC 5 sps sp)))), (9, .inr (.inl (0, (aC 5 ces ce)))), (10, .inr (.inl (0, (aC 5 dus du)))), (11, .inr (.inl (0, (aC 5 hes he)))), (12, .inr (.inl (0, (aC 6 ris ri)))), (13, .inr (.inl (0, (aC 6 uss us)))), (14, .inr (.inl (0, (aC (nI cm.length) cms cm)))), (15, .inr (.inl (0, (aC (nI lf.length) lfs lf)))), (16, .inr (.inl (0, (aC (nI lkd.length) lkds lkd)))), (20, .inl (3, [.ref 21, .ref 22, .ref 23, .ref 24, .ref 25, .ref 26, .ref 27, .ref 28, .int pev, .int 1])), (21, .inr (.inl (0, pms))), (22, .inr (.inl (0, pmm))), (23, .inr (.inl (0, pmt))), (24, .inr (.inl (0, pst))), (25, .inr (.inl (0, pwa))), (26, .inr (.inl (0, prs))), (27, .inr (.inl (0, prr))), (28, .inr (.inl (0, pfa))), (206, .inl (7, [.ref lys, .int mis, .int shus, .int buss, .ref 207, .ref 208, .ref 209, .ref 210, .ref 211, .ref 212, .ref 213, .ref 214, .ref 215, .ref 216, .ref 217, .int lkss, .ref 218, .ref 219, .ref 222])), (207, .inr (.inl (0, rks))), (208, .inr (.inl (0, stas))), (209, .inr (.inl (0, phs))), (210, .inr (.inl (0, sps))), (211, .inr (.inl (0, ces))), (212, .inr (.inl (0, dus))), (213, .inr (.inl (0, hes))), (214, .inr (.inl (0, ris))), (215, .inr (.inl (0, uss))), (216, .inr (.inl (0, cms))), (217, .inr (.inl (0, lfs))), (218, .inr (.inl (0, lkds))), (222, .inl (3, [.ref 223, .ref 224, .ref 225, .ref 226, .ref 227, .ref 228, .ref 229, .ref 230, .int pevs, .int 1])), (223, .inr (.inl (0, pmss))), (224, .inr (.inl (0, pmms))), (225, .inr (.inl (0, pmts))), (226, .inr (.inl (0, psts))), (227, .inr (.inl (0, pwas))), (228, .inr (.inl (0, prss))), (229, .inr (.inl (0, prrs))), (230, .inr (.inl (0, pfas)))] h0 := K.mg K9 rfl rfl
  clear K9
  refine j_V.ldL yb7s_M yb7s_222 rfl (i := 0) (kd := 2) (v := .ref 4) (pcJ := 223) rfl L rfl rfl rfl ?_
  refine j_V.getK yb7s_M yb7s_223 (ci := 7) (j := 18) rfl K rfl rfl ?_
  refine j_V.ldL yb7s_M yb7s_226 rfl (i := 1) (kd := 2) (v := .ref 206) (pcJ := 227) rfl L rfl rfl rfl ?_
  refine j_V.getK yb7s_M yb7s_227 (ci := 7) (j := 18) rfl K rfl rfl ?_
  refine j_V.cl yb7s_M yb7s_230 rfl (md := 3) (mj := 28) rfl (by decide) yb7p_M (As := [.ref 20, .ref 222]) (rest := []) (jk_spl3 (K.at rfl) rfl rfl rfl (Nat.le_of_ble_eq_true rfl) (Nat.le_of_ble_eq_true rfl)) (fun d => yb7p_ok (K.fi [20, 21, 22, 23, 24, 25, 26, 27, 28, 222, 223, 224, 225, 226, 227, 228, 229, 230] rfl rfl)) ?_
  rintro r h9 ⟨rfl, K9⟩
  have K : KN h9 [(4, .inl (7, [.ref lys, .int mis, .int shus, .int buss, .ref 5, .ref 6, .ref 7, .ref 8, .ref 9, .ref 10, .ref 11, .ref 12, .ref 13, .ref 14, .ref 15, .int lkss, .ref 16, .ref 17, .ref 20])), (5, .inr (.inl (0, (aC 5 rks rk)))), (6, .inr (.inl (0, (aC 5 stas sta)))), (7, .inr (.inl (0, (aC 5 phs ph)))), (8, .inr (.inl (0, (aC 5 sps sp)))), (9, .inr (.inl (0, (aC 5 ces ce)))), (10, .inr (.inl (0, (aC 5 dus du)))), (11, .inr (.inl (0, (aC 5 hes he)))), (12, .inr (.inl (0, (aC 6 ris ri)))), (13, .inr (.inl (0, (aC 6 uss us)))), (14, .inr (.inl (0, (aC (nI cm.length) cms cm)))), (15, .inr (.inl (0, (aC (nI lf.length) lfs lf)))), (16, .inr (.inl (0, (aC (nI lkd.length) lkds lkd)))), (20, .inl (3, [.ref 21, .ref 22, .ref 23, .ref 24, .ref 25, .ref 26, .ref 27, .ref 28, .int pevs, .int 1])), (21, .inr (.inl (0, (aC (nI pms.length) pmss pms)))), (22, .inr (.inl (0, (aC (nI pmm.length) pmms pmm)))), (23, .inr (.inl (0, (aC (nI pmt.length) pmts pmt)))), (24, .inr (.inl (0, (aC (nI pst.length) psts pst)))), (25, .inr (.inl (0, (aC (nI pwa.length) pwas pwa)))), (26, .inr (.inl (0, (aC (nI prs.length) prss prs)))), (27, .inr (.inl (0, (aC (nI prr.length) prrs prr)))), (28, .inr (.inl (0, (aC (nI pfa.length) pfas pfa)))), (206, .inl (7, [.ref lys, .int mis, .int shus, .int buss, .ref 207, .ref 208, .ref 209, .ref 210, .ref 211, .ref 212, .ref 213, .ref 214, .ref 215, .ref 216, .ref 217, .int lkss, .ref 218, .ref 219, .ref 222])), (207, .inr (.inl (0, rks))), (208, .inr (.inl (0, stas))), (209, .inr (.inl (0, phs))), (210, .inr (.inl (0, sps))), (211, .inr (.inl (0, ces))), (212, .inr (.inl (0, dus))), (213, .inr (.inl (0, hes))), (214, .inr (.inl (0, ris))), (215, .inr (.inl (0, uss))), (216, .inr (.inl (0, cms))), (217, .inr (.inl (0, lfs))), (218, .inr (.inl (0, lkds))), (222, .inl (3, [.ref 223, .ref 224, .ref 225, .ref 226, .ref 227, .ref 228, .ref 229, .ref 230, .int pevs, .int 1])), (223, .inr (.inl (0, pmss))), (224, .inr (.inl (0, pmms))), (225, .inr (.inl (0, pmts))), (226, .inr (.inl (0, psts))), (227, .inr (.inl (0, pwas))), (228, .inr (.inl (0, prss))), (229, .inr (.inl (0, prrs))), (230, .inr (.inl (0, pfas)))] h0 := K.mg K9 rfl rfl
  clear K9
  show j_V jP _ 61 233 lv [] h9 _
  exact j_V.ret yb7s_M yb7s_233 rfl rfl ⟨rfl, K⟩
set_option maxRecDepth 100000 in
theorem yb7m_M : j_meth jP 3 = some (yX0_takeBack, cX0_takeBack, 2, none, 1, false, 0) := rfl
set_option maxRecDepth 100000 in
theorem yb7m_0 : j_code jP 3 0 = some (.aload_n 0) := rfl
set_option maxRecDepth 100000 in
theorem yb7m_1 : j_code jP 3 1 = some (.aload_n 0) := rfl
set_option maxRecDepth 100000 in
theorem yb7m_2 : j_code jP 3 2 = some (.getfield 24) := rfl
set_option maxRecDepth 100000 in
theorem yb7m_5 : j_code jP 3 5 = some (.bipush 10) := rfl
set_option maxRecDepth 100000 in
theorem yb7m_7 : j_code jP 3 7 = some (.iadd) := rfl
set_option maxRecDepth 100000 in
theorem yb7m_8 : j_code jP 3 8 = some (.iconst 1) := rfl
set_option maxRecDepth 100000 in
theorem yb7m_9 : j_code jP 3 9 = some (.isub) := rfl
set_option maxRecDepth 100000 in
theorem yb7m_10 : j_code jP 3 10 = some (.bipush 10) := rfl
set_option maxRecDepth 100000 in
theorem yb7m_12 : j_code jP 3 12 = some (.irem) := rfl
set_option maxRecDepth 100000 in
theorem yb7m_13 : j_code jP 3 13 = some (.putfield 24) := rfl
set_option maxRecDepth 100000 in
theorem yb7m_16 : j_code jP 3 16 = some (.aload_n 0) := rfl
set_option maxRecDepth 100000 in
theorem yb7m_17 : j_code jP 3 17 = some (.dup) := rfl
set_option maxRecDepth 100000 in
theorem yb7m_18 : j_code jP 3 18 = some (.getfield 20) := rfl
set_option maxRecDepth 100000 in
theorem yb7m_21 : j_code jP 3 21 = some (.iconst 1) := rfl
set_option maxRecDepth 100000 in
theorem yb7m_22 : j_code jP 3 22 = some (.isub) := rfl
set_option maxRecDepth 100000 in
theorem yb7m_23 : j_code jP 3 23 = some (.putfield 20) := rfl
set_option maxRecDepth 100000 in
theorem yb7m_26 : j_code jP 3 26 = some (.aload_n 1) := rfl
set_option maxRecDepth 100000 in
theorem yb7m_27 : j_code jP 3 27 = some (.aload_n 0) := rfl
set_option maxRecDepth 100000 in
theorem yb7m_28 : j_code jP 3 28 = some (.getfield 11) := rfl
set_option maxRecDepth 100000 in
theorem yb7m_31 : j_code jP 3 31 = some (.aload_n 0) := rfl
set_option maxRecDepth 100000 in
theorem yb7m_32 : j_code jP 3 32 = some (.getfield 24) := rfl
set_option maxRecDepth 100000 in
theorem yb7m_35 : j_code jP 3 35 = some (.aaload) := rfl
set_option maxRecDepth 100000 in
theorem yb7m_36 : j_code jP 3 36 = some (.invokevirtual 27) := rfl
set_option maxRecDepth 100000 in
theorem yb7m_39 : j_code jP 3 39 = some (.return_) := rfl
set_option maxRecDepth 1000000 in
theorem yb7m_ok {ly : Value} {mi : Int32} {shu : Int32} {bus : Int32} {lks : Int32} {rk : List Int32} {sta : List Int32} {ph : List Int32} {sp : List Int32} {ce : List Int32} {du : List Int32} {he : List Int32} {ri : List Int32} {us : List Int32} {cm : List Int32} {lf : List Int32} {lkd : List Int32} {pev : Int32} {pms : List Int32} {pmm : List Int32} {pmt : List Int32} {pst : List Int32} {pwa : List Int32} {prs : List Int32} {prr : List Int32} {pfa : List Int32} {lys : Nat} {mis : Int32} {shus : Int32} {buss : Int32} {lkss : Int32} {rks : List Int32} {stas : List Int32} {phs : List Int32} {sps : List Int32} {ces : List Int32} {dus : List Int32} {hes : List Int32} {ris : List Int32} {uss : List Int32} {cms : List Int32} {lfs : List Int32} {lkds : List Int32} {pevs : Int32} {pmss : List Int32} {pmms : List Int32} {pmts : List Int32} {psts : List Int32} {pwas : List Int32} {prss : List Int32} {prrs : List Int32} {pfas : List Int32} {acco : Int32} {d : Nat} {h h0 : J_H} (K : KN h [(4, .inl (7, [ly, .int mi, .int shu, .int bus, .ref 5, .ref 6, .ref 7, .ref 8, .ref 9, .ref 10, .ref 11, .ref 12, .ref 13, .ref 14, .ref 15, .int lks, .ref 16, .ref 17, .ref 20])), (5, .inr (.inl (0, rk))), (6, .inr (.inl (0, sta))), (7, .inr (.inl (0, ph))), (8, .inr (.inl (0, sp))), (9, .inr (.inl (0, ce))), (10, .inr (.inl (0, du))), (11, .inr (.inl (0, he))), (12, .inr (.inl (0, ri))), (13, .inr (.inl (0, us))), (14, .inr (.inl (0, cm))), (15, .inr (.inl (0, lf))), (16, .inr (.inl (0, lkd))), (20, .inl (3, [.ref 21, .ref 22, .ref 23, .ref 24, .ref 25, .ref 26, .ref 27, .ref 28, .int pev, .int 1])), (21, .inr (.inl (0, pms))), (22, .inr (.inl (0, pmm))), (23, .inr (.inl (0, pmt))), (24, .inr (.inl (0, pst))), (25, .inr (.inl (0, pwa))), (26, .inr (.inl (0, prs))), (27, .inr (.inl (0, prr))), (28, .inr (.inl (0, pfa))), (29, .inl (0, [.ref 30, .int 8, .int acco])), (30, .inr (.inr (.inr [some 31, some 56, some 81, some 106, some 131, some 156, some 181, some 206, some 231, some 256]))), (206, .inl (7, [.ref lys, .int mis, .int shus, .int buss, .ref 207, .ref 208, .ref 209, .ref 210, .ref 211, .ref 212, .ref 213, .ref 214, .ref 215, .ref 216, .ref 217, .int lkss, .ref 218, .ref 219, .ref 222])), (207, .inr (.inl (0, rks))), (208, .inr (.inl (0, stas))), (209, .inr (.inl (0, phs))), (210, .inr (.inl (0, sps))), (211, .inr (.inl (0, ces))), (212, .inr (.inl (0, dus))), (213, .inr (.inl (0, hes))), (214, .inr (.inl (0, ris))), (215, .inr (.inl (0, uss))), (216, .inr (.inl (0, cms))), (217, .inr (.inl (0, lfs))), (218, .inr (.inl (0, lkds))), (222, .inl (3, [.ref 223, .ref 224, .ref 225, .ref 226, .ref 227, .ref 228, .ref 229, .ref 230, .int pevs, .int 1])), (223, .inr (.inl (0, pmss))), (224, .inr (.inl (0, pmms))), (225, .inr (.inl (0, pmts))), (226, .inr (.inl (0, psts))), (227, .inr (.inl (0, pwas))), (228, .inr (.inl (0, prss))), (229, .inr (.inl (0, prrs))), (230, .inr (.inl (0, pfas)))] h0) : j_V jP d 3 0 (lv_args 0 [.ref 29, .ref 4]) [] h (fun rv h' => rv = none ∧ KN h' [(4, .inl (7, [.ref lys, .int mis, .int shus, .int buss, .ref 5, .ref 6, .ref 7, .ref 8, .ref 9, .ref 10, .ref 11, .ref 12, .ref 13, .ref 14, .ref 15, .int lkss, .ref 16, .ref 17, .ref 20])), (5, .inr (.inl (0, (aC 5 rks rk)))), (6, .inr (.inl (0, (aC 5 stas sta)))), (7, .inr (.inl (0, (aC 5 phs ph)))), (8, .inr (.inl (0, (aC 5 sps sp)))), (9, .inr (.inl (0, (aC 5 ces ce)))), (10, .inr (.inl (0, (aC 5 dus du)))), (11, .inr (.inl (0, (aC 5 hes he)))), (12, .inr (.inl (0, (aC 6 ris ri)))), (13, .inr (.inl (0, (aC 6 uss us)))), (14, .inr (.inl (0, (aC (nI cm.length) cms cm)))), (15, .inr (.inl (0, (aC (nI lf.length) lfs lf)))), (16, .inr (.inl (0, (aC (nI lkd.length) lkds lkd)))), (20, .inl (3, [.ref 21, .ref 22, .ref 23, .ref 24, .ref 25, .ref 26, .ref 27, .ref 28, .int pevs, .int 1])), (21, .inr (.inl (0, (aC (nI pms.length) pmss pms)))), (22, .inr (.inl (0, (aC (nI pmm.length) pmms pmm)))), (23, .inr (.inl (0, (aC (nI pmt.length) pmts pmt)))), (24, .inr (.inl (0, (aC (nI pst.length) psts pst)))), (25, .inr (.inl (0, (aC (nI pwa.length) pwas pwa)))), (26, .inr (.inl (0, (aC (nI prs.length) prss prs)))), (27, .inr (.inl (0, (aC (nI prr.length) prrs prr)))), (28, .inr (.inl (0, (aC (nI pfa.length) pfas pfa)))), (29, .inl (0, [.ref 30, .int 7, .int (acco - 1)])), (30, .inr (.inr (.inr [some 31, some 56, some 81, some 106, some 131, some 156, some 181, some 206, some 231, some 256]))), (206, .inl (7, [.ref lys, .int mis, .int shus, .int buss, .ref 207, .ref 208, .ref 209, .ref 210, .ref 211, .ref 212, .ref 213, .ref 214, .ref 215, .ref 216, .ref 217, .int lkss, .ref 218, .ref 219, .ref 222])), (207, .inr (.inl (0, rks))), (208, .inr (.inl (0, stas))), (209, .inr (.inl (0, phs))), (210, .inr (.inl (0, sps))), (211, .inr (.inl (0, ces))), (212, .inr (.inl (0, dus))), (213, .inr (.inl (0, hes))), (214, .inr (.inl (0, ris))), (215, .inr (.inl (0, uss))), (216, .inr (.inl (0, cms))), (217, .inr (.inl (0, lfs))), (218, .inr (.inl (0, lkds))), (222, .inl (3, [.ref 223, .ref 224, .ref 225, .ref 226, .ref 227, .ref 228, .ref 229, .ref 230, .int pevs, .int 1])), (223, .inr (.inl (0, pmss))), (224, .inr (.inl (0, pmms))), (225, .inr (.inl (0, pmts))), (226, .inr (.inl (0, psts))), (227, .inr (.inl (0, pwas))), (228, .inr (.inl (0, prss))), (229, .inr (.inl (0, prrs))), (230, .inr (.inl (0, pfas)))] h0) := by
  show j_V jP d 3 0 [(0, .ref 29), (1, .ref 4)] [] h _
  obtain ⟨lv, elv, L⟩ : ∃ lv, lv = [(0, .ref 29), (1, .ref 4)] ∧ LK lv [(0, .ref 29), (1, .ref 4)] := ⟨_, rfl, LK.rf⟩
  rw [← elv]
  clear elv
  refine j_V.ldL yb7m_M yb7m_0 rfl (i := 0) (kd := 2) (v := .ref 29) (pcJ := 1) rfl L rfl rfl rfl ?_
  refine j_V.ldL yb7m_M yb7m_1 rfl (i := 0) (kd := 2) (v := .ref 29) (pcJ := 2) rfl L rfl rfl rfl ?_
  refine j_V.getK yb7m_M yb7m_2 (ci := 0) (j := 1) rfl K rfl rfl ?_
  refine j_V.one yb7m_M yb7m_5 (by decide) (pcJ := 7) (stJ := [.int 10, .int 8, .ref 29]) rfl ?_
  refine j_V.one yb7m_M yb7m_7 (by decide) (pcJ := 8) (stJ := [.int 18, .ref 29]) rfl ?_
  refine j_V.one yb7m_M yb7m_8 (by decide) (pcJ := 9) (stJ := [.int 1, .int 18, .ref 29]) rfl ?_
  refine j_V.one yb7m_M yb7m_9 (by decide) (pcJ := 10) (stJ := [.int 17, .ref 29]) rfl ?_
  refine j_V.one yb7m_M yb7m_10 (by decide) (pcJ := 12) (stJ := [.int 10, .int 17, .ref 29]) rfl ?_
  refine j_V.one yb7m_M yb7m_12 (by decide) (pcJ := 13) (stJ := [.int 7, .ref 29]) rfl ?_
  refine j_V.putK yb7m_M yb7m_13 (ci := 0) (j := 1) (k' := [(4, .inl (7, [ly, .int mi, .int shu, .int bus, .ref 5, .ref 6, .ref 7, .ref 8, .ref 9, .ref 10, .ref 11, .ref 12, .ref 13, .ref 14, .ref 15, .int lks, .ref 16, .ref 17, .ref 20])), (5, .inr (.inl (0, rk))), (6, .inr (.inl (0, sta))), (7, .inr (.inl (0, ph))), (8, .inr (.inl (0, sp))), (9, .inr (.inl (0, ce))), (10, .inr (.inl (0, du))), (11, .inr (.inl (0, he))), (12, .inr (.inl (0, ri))), (13, .inr (.inl (0, us))), (14, .inr (.inl (0, cm))), (15, .inr (.inl (0, lf))), (16, .inr (.inl (0, lkd))), (20, .inl (3, [.ref 21, .ref 22, .ref 23, .ref 24, .ref 25, .ref 26, .ref 27, .ref 28, .int pev, .int 1])), (21, .inr (.inl (0, pms))), (22, .inr (.inl (0, pmm))), (23, .inr (.inl (0, pmt))), (24, .inr (.inl (0, pst))), (25, .inr (.inl (0, pwa))), (26, .inr (.inl (0, prs))), (27, .inr (.inl (0, prr))), (28, .inr (.inl (0, pfa))), (29, .inl (0, [.ref 30, .int 7, .int acco])), (30, .inr (.inr (.inr [some 31, some 56, some 81, some 106, some 131, some 156, some 181, some 206, some 231, some 256]))), (206, .inl (7, [.ref lys, .int mis, .int shus, .int buss, .ref 207, .ref 208, .ref 209, .ref 210, .ref 211, .ref 212, .ref 213, .ref 214, .ref 215, .ref 216, .ref 217, .int lkss, .ref 218, .ref 219, .ref 222])), (207, .inr (.inl (0, rks))), (208, .inr (.inl (0, stas))), (209, .inr (.inl (0, phs))), (210, .inr (.inl (0, sps))), (211, .inr (.inl (0, ces))), (212, .inr (.inl (0, dus))), (213, .inr (.inl (0, hes))), (214, .inr (.inl (0, ris))), (215, .inr (.inl (0, uss))), (216, .inr (.inl (0, cms))), (217, .inr (.inl (0, lfs))), (218, .inr (.inl (0, lkds))), (222, .inl (3, [.ref 223, .ref 224, .ref 225, .ref 226, .ref 227, .ref 228, .ref 229, .ref 230, .int pevs, .int 1])), (223, .inr (.inl (0, pmss))), (224, .inr (.inl (0, pmms))), (225, .inr (.inl (0, pmts))), (226, .inr (.inl (0, psts))), (227, .inr (.inl (0, pwas))), (228, .inr (.inl (0, prss))), (229, .inr (.inl (0, prrs))), (230, .inr (.inl (0, pfas)))]) rfl K rfl (Nat.le_of_ble_eq_true rfl) rfl (Or.inl rfl) rfl rfl (fun h K => ?_)
  refine j_V.ldL yb7m_M yb7m_16 rfl (i := 0) (kd := 2) (v := .ref 29) (pcJ := 17) rfl L rfl rfl rfl ?_
  refine j_V.one yb7m_M yb7m_17 (by decide) (pcJ := 18) (stJ := [.ref 29, .ref 29]) rfl ?_
  refine j_V.getK yb7m_M yb7m_18 (ci := 0) (j := 2) rfl K rfl rfl ?_
  refine j_V.one yb7m_M yb7m_21 (by decide) (pcJ := 22) (stJ := [.int 1, .int acco, .ref 29]) rfl ?_
  refine j_V.one yb7m_M yb7m_22 (by decide) (pcJ := 23) (stJ := [.int (acco - 1), .ref 29]) rfl ?_
  refine j_V.putK yb7m_M yb7m_23 (ci := 0) (j := 2) (k' := [(4, .inl (7, [ly, .int mi, .int shu, .int bus, .ref 5, .ref 6, .ref 7, .ref 8, .ref 9, .ref 10, .ref 11, .ref 12, .ref 13, .ref 14, .ref 15, .int lks, .ref 16, .ref 17, .ref 20])), (5, .inr (.inl (0, rk))), (6, .inr (.inl (0, sta))), (7, .inr (.inl (0, ph))), (8, .inr (.inl (0, sp))), (9, .inr (.inl (0, ce))), (10, .inr (.inl (0, du))), (11, .inr (.inl (0, he))), (12, .inr (.inl (0, ri))), (13, .inr (.inl (0, us))), (14, .inr (.inl (0, cm))), (15, .inr (.inl (0, lf))), (16, .inr (.inl (0, lkd))), (20, .inl (3, [.ref 21, .ref 22, .ref 23, .ref 24, .ref 25, .ref 26, .ref 27, .ref 28, .int pev, .int 1])), (21, .inr (.inl (0, pms))), (22, .inr (.inl (0, pmm))), (23, .inr (.inl (0, pmt))), (24, .inr (.inl (0, pst))), (25, .inr (.inl (0, pwa))), (26, .inr (.inl (0, prs))), (27, .inr (.inl (0, prr))), (28, .inr (.inl (0, pfa))), (29, .inl (0, [.ref 30, .int 7, .int (acco - 1)])), (30, .inr (.inr (.inr [some 31, some 56, some 81, some 106, some 131, some 156, some 181, some 206, some 231, some 256]))), (206, .inl (7, [.ref lys, .int mis, .int shus, .int buss, .ref 207, .ref 208, .ref 209, .ref 210, .ref 211, .ref 212, .ref 213, .ref 214, .ref 215, .ref 216, .ref 217, .int lkss, .ref 218, .ref 219, .ref 222])), (207, .inr (.inl (0, rks))), (208, .inr (.inl (0, stas))), (209, .inr (.inl (0, phs))), (210, .inr (.inl (0, sps))), (211, .inr (.inl (0, ces))), (212, .inr (.inl (0, dus))), (213, .inr (.inl (0, hes))), (214, .inr (.inl (0, ris))), (215, .inr (.inl (0, uss))), (216, .inr (.inl (0, cms))), (217, .inr (.inl (0, lfs))), (218, .inr (.inl (0, lkds))), (222, .inl (3, [.ref 223, .ref 224, .ref 225, .ref 226, .ref 227, .ref 228, .ref 229, .ref 230, .int pevs, .int 1])), (223, .inr (.inl (0, pmss))), (224, .inr (.inl (0, pmms))), (225, .inr (.inl (0, pmts))), (226, .inr (.inl (0, psts))), (227, .inr (.inl (0, pwas))), (228, .inr (.inl (0, prss))), (229, .inr (.inl (0, prrs))), (230, .inr (.inl (0, pfas)))]) rfl K rfl (Nat.le_of_ble_eq_true rfl) rfl (Or.inl rfl) rfl rfl (fun h K => ?_)
  refine j_V.ldL yb7m_M yb7m_26 rfl (i := 1) (kd := 2) (v := .ref 4) (pcJ := 27) rfl L rfl rfl rfl ?_
  refine j_V.ldL yb7m_M yb7m_27 rfl (i := 0) (kd := 2) (v := .ref 29) (pcJ := 28) rfl L rfl rfl rfl ?_
  refine j_V.getK yb7m_M yb7m_28 (ci := 0) (j := 0) rfl K rfl rfl ?_
  refine j_V.ldL yb7m_M yb7m_31 rfl (i := 0) (kd := 2) (v := .ref 29) (pcJ := 32) rfl L rfl rfl rfl ?_
  refine j_V.getK yb7m_M yb7m_32 (ci := 0) (j := 1) rfl K rfl rfl ?_
  refine j_V.aaA yb7m_M yb7m_35 K rfl (i := 7) (v := 206) rfl rfl ?_
  refine j_V.cl yb7m_M yb7m_36 rfl (md := 3) (mj := 61) rfl (by decide) yb7s_M (As := [.ref 4, .ref 206]) (rest := []) (jk_spl3 (K.at rfl) rfl rfl rfl (Nat.le_of_ble_eq_true rfl) (Nat.le_of_ble_eq_true rfl)) (fun d => yb7s_ok (K.fi [4, 5, 6, 7, 8, 9, 10, 11, 12, 13, 14, 15, 16, 20, 21, 22, 23, 24, 25, 26, 27, 28, 206, 207, 208, 209, 210, 211, 212, 213, 214, 215, 216, 217, 218, 222, 223, 224, 225, 226, 227, 228, 229, 230] rfl rfl)) ?_
  rintro r h9 ⟨rfl, K9⟩
  have K : KN h9 [(4, .inl (7, [.ref lys, .int mis, .int shus, .int buss, .ref 5, .ref 6, .ref 7, .ref 8, .ref 9, .ref 10, .ref 11, .ref 12, .ref 13, .ref 14, .ref 15, .int lkss, .ref 16, .ref 17, .ref 20])), (5, .inr (.inl (0, (aC 5 rks rk)))), (6, .inr (.inl (0, (aC 5 stas sta)))), (7, .inr (.inl (0, (aC 5 phs ph)))), (8, .inr (.inl (0, (aC 5 sps sp)))), (9, .inr (.inl (0, (aC 5 ces ce)))), (10, .inr (.inl (0, (aC 5 dus du)))), (11, .inr (.inl (0, (aC 5 hes he)))), (12, .inr (.inl (0, (aC 6 ris ri)))), (13, .inr (.inl (0, (aC 6 uss us)))), (14, .inr (.inl (0, (aC (nI cm.length) cms cm)))), (15, .inr (.inl (0, (aC (nI lf.length) lfs lf)))), (16, .inr (.inl (0, (aC (nI lkd.length) lkds lkd)))), (20, .inl (3, [.ref 21, .ref 22, .ref 23, .ref 24, .ref 25, .ref 26, .ref 27, .ref 28, .int pevs, .int 1])), (21, .inr (.inl (0, (aC (nI pms.length) pmss pms)))), (22, .inr (.inl (0, (aC (nI pmm.length) pmms pmm)))), (23, .inr (.inl (0, (aC (nI pmt.length) pmts pmt)))), (24, .inr (.inl (0, (aC (nI pst.length) psts pst)))), (25, .inr (.inl (0, (aC (nI pwa.length) pwas pwa)))), (26, .inr (.inl (0, (aC (nI prs.length) prss prs)))), (27, .inr (.inl (0, (aC (nI prr.length) prrs prr)))), (28, .inr (.inl (0, (aC (nI pfa.length) pfas pfa)))), (29, .inl (0, [.ref 30, .int 7, .int (acco - 1)])), (30, .inr (.inr (.inr [some 31, some 56, some 81, some 106, some 131, some 156, some 181, some 206, some 231, some 256]))), (206, .inl (7, [.ref lys, .int mis, .int shus, .int buss, .ref 207, .ref 208, .ref 209, .ref 210, .ref 211, .ref 212, .ref 213, .ref 214, .ref 215, .ref 216, .ref 217, .int lkss, .ref 218, .ref 219, .ref 222])), (207, .inr (.inl (0, rks))), (208, .inr (.inl (0, stas))), (209, .inr (.inl (0, phs))), (210, .inr (.inl (0, sps))), (211, .inr (.inl (0, ces))), (212, .inr (.inl (0, dus))), (213, .inr (.inl (0, hes))), (214, .inr (.inl (0, ris))), (215, .inr (.inl (0, uss))), (216, .inr (.inl (0, cms))), (217, .inr (.inl (0, lfs))), (218, .inr (.inl (0, lkds))), (222, .inl (3, [.ref 223, .ref 224, .ref 225, .ref 226, .ref 227, .ref 228, .ref 229, .ref 230, .int pevs, .int 1])), (223, .inr (.inl (0, pmss))), (224, .inr (.inl (0, pmms))), (225, .inr (.inl (0, pmts))), (226, .inr (.inl (0, psts))), (227, .inr (.inl (0, pwas))), (228, .inr (.inl (0, prss))), (229, .inr (.inl (0, prrs))), (230, .inr (.inl (0, pfas)))] h0 := K.mg K9 rfl rfl
  clear K9
  show j_V jP _ 3 39 lv [] h9 _
  exact j_V.ret yb7m_M yb7m_39 rfl rfl ⟨rfl, K⟩
set_option maxRecDepth 100000 in
theorem yb8p_M : j_meth jP 28 = some (yX3_copyFrom, cX3_copyFrom, 2, none, 1, false, 3) := rfl
set_option maxRecDepth 100000 in
theorem yb8p_0 : j_code jP 28 0 = some (.aload_n 0) := rfl
set_option maxRecDepth 100000 in
theorem yb8p_1 : j_code jP 28 1 = some (.getfield 36) := rfl
set_option maxRecDepth 100000 in
theorem yb8p_4 : j_code jP 28 4 = some (.ifCond .ne 4) := rfl
set_option maxRecDepth 100000 in
theorem yb8p_7 : j_code jP 28 7 = some (.return_) := rfl
set_option maxRecDepth 100000 in
theorem yb8p_8 : j_code jP 28 8 = some (.aload_n 1) := rfl
set_option maxRecDepth 100000 in
theorem yb8p_9 : j_code jP 28 9 = some (.getfield 9) := rfl
set_option maxRecDepth 100000 in
theorem yb8p_12 : j_code jP 28 12 = some (.iconst 0) := rfl
set_option maxRecDepth 100000 in
theorem yb8p_13 : j_code jP 28 13 = some (.aload_n 0) := rfl
set_option maxRecDepth 100000 in
theorem yb8p_14 : j_code jP 28 14 = some (.getfield 9) := rfl
set_option maxRecDepth 100000 in
theorem yb8p_17 : j_code jP 28 17 = some (.iconst 0) := rfl
set_option maxRecDepth 100000 in
theorem yb8p_18 : j_code jP 28 18 = some (.aload_n 0) := rfl
set_option maxRecDepth 100000 in
theorem yb8p_19 : j_code jP 28 19 = some (.getfield 9) := rfl
set_option maxRecDepth 100000 in
theorem yb8p_22 : j_code jP 28 22 = some (.arraylength) := rfl
set_option maxRecDepth 100000 in
theorem yb8p_23 : j_code jP 28 23 = some (.invokestatic 50) := rfl
set_option maxRecDepth 100000 in
theorem yb8p_26 : j_code jP 28 26 = some (.aload_n 1) := rfl
set_option maxRecDepth 100000 in
theorem yb8p_27 : j_code jP 28 27 = some (.getfield 15) := rfl
set_option maxRecDepth 100000 in
theorem yb8p_30 : j_code jP 28 30 = some (.iconst 0) := rfl
set_option maxRecDepth 100000 in
theorem yb8p_31 : j_code jP 28 31 = some (.aload_n 0) := rfl
set_option maxRecDepth 100000 in
theorem yb8p_32 : j_code jP 28 32 = some (.getfield 15) := rfl
set_option maxRecDepth 100000 in
theorem yb8p_35 : j_code jP 28 35 = some (.iconst 0) := rfl
set_option maxRecDepth 100000 in
theorem yb8p_36 : j_code jP 28 36 = some (.aload_n 0) := rfl
set_option maxRecDepth 100000 in
theorem yb8p_37 : j_code jP 28 37 = some (.getfield 15) := rfl
set_option maxRecDepth 100000 in
theorem yb8p_40 : j_code jP 28 40 = some (.arraylength) := rfl
set_option maxRecDepth 100000 in
theorem yb8p_41 : j_code jP 28 41 = some (.invokestatic 50) := rfl
set_option maxRecDepth 100000 in
theorem yb8p_44 : j_code jP 28 44 = some (.aload_n 1) := rfl
set_option maxRecDepth 100000 in
theorem yb8p_45 : j_code jP 28 45 = some (.getfield 18) := rfl
set_option maxRecDepth 100000 in
theorem yb8p_48 : j_code jP 28 48 = some (.iconst 0) := rfl
set_option maxRecDepth 100000 in
theorem yb8p_49 : j_code jP 28 49 = some (.aload_n 0) := rfl
set_option maxRecDepth 100000 in
theorem yb8p_50 : j_code jP 28 50 = some (.getfield 18) := rfl
set_option maxRecDepth 100000 in
theorem yb8p_53 : j_code jP 28 53 = some (.iconst 0) := rfl
set_option maxRecDepth 100000 in
theorem yb8p_54 : j_code jP 28 54 = some (.aload_n 0) := rfl
set_option maxRecDepth 100000 in
theorem yb8p_55 : j_code jP 28 55 = some (.getfield 18) := rfl
set_option maxRecDepth 100000 in
theorem yb8p_58 : j_code jP 28 58 = some (.arraylength) := rfl
set_option maxRecDepth 100000 in
theorem yb8p_59 : j_code jP 28 59 = some (.invokestatic 50) := rfl
set_option maxRecDepth 100000 in
theorem yb8p_62 : j_code jP 28 62 = some (.aload_n 1) := rfl
set_option maxRecDepth 100000 in
theorem yb8p_63 : j_code jP 28 63 = some (.getfield 21) := rfl
set_option maxRecDepth 100000 in
theorem yb8p_66 : j_code jP 28 66 = some (.iconst 0) := rfl
set_option maxRecDepth 100000 in
theorem yb8p_67 : j_code jP 28 67 = some (.aload_n 0) := rfl
set_option maxRecDepth 100000 in
theorem yb8p_68 : j_code jP 28 68 = some (.getfield 21) := rfl
set_option maxRecDepth 100000 in
theorem yb8p_71 : j_code jP 28 71 = some (.iconst 0) := rfl
set_option maxRecDepth 100000 in
theorem yb8p_72 : j_code jP 28 72 = some (.aload_n 0) := rfl
set_option maxRecDepth 100000 in
theorem yb8p_73 : j_code jP 28 73 = some (.getfield 21) := rfl
set_option maxRecDepth 100000 in
theorem yb8p_76 : j_code jP 28 76 = some (.arraylength) := rfl
set_option maxRecDepth 100000 in
theorem yb8p_77 : j_code jP 28 77 = some (.invokestatic 50) := rfl
set_option maxRecDepth 100000 in
theorem yb8p_80 : j_code jP 28 80 = some (.aload_n 1) := rfl
set_option maxRecDepth 100000 in
theorem yb8p_81 : j_code jP 28 81 = some (.getfield 24) := rfl
set_option maxRecDepth 100000 in
theorem yb8p_84 : j_code jP 28 84 = some (.iconst 0) := rfl
set_option maxRecDepth 100000 in
theorem yb8p_85 : j_code jP 28 85 = some (.aload_n 0) := rfl
set_option maxRecDepth 100000 in
theorem yb8p_86 : j_code jP 28 86 = some (.getfield 24) := rfl
set_option maxRecDepth 100000 in
theorem yb8p_89 : j_code jP 28 89 = some (.iconst 0) := rfl
set_option maxRecDepth 100000 in
theorem yb8p_90 : j_code jP 28 90 = some (.aload_n 0) := rfl
set_option maxRecDepth 100000 in
theorem yb8p_91 : j_code jP 28 91 = some (.getfield 24) := rfl
set_option maxRecDepth 100000 in
theorem yb8p_94 : j_code jP 28 94 = some (.arraylength) := rfl
set_option maxRecDepth 100000 in
theorem yb8p_95 : j_code jP 28 95 = some (.invokestatic 50) := rfl
set_option maxRecDepth 100000 in
theorem yb8p_98 : j_code jP 28 98 = some (.aload_n 1) := rfl
set_option maxRecDepth 100000 in
theorem yb8p_99 : j_code jP 28 99 = some (.getfield 27) := rfl
set_option maxRecDepth 100000 in
theorem yb8p_102 : j_code jP 28 102 = some (.iconst 0) := rfl
set_option maxRecDepth 100000 in
theorem yb8p_103 : j_code jP 28 103 = some (.aload_n 0) := rfl
set_option maxRecDepth 100000 in
theorem yb8p_104 : j_code jP 28 104 = some (.getfield 27) := rfl
set_option maxRecDepth 100000 in
theorem yb8p_107 : j_code jP 28 107 = some (.iconst 0) := rfl
set_option maxRecDepth 100000 in
theorem yb8p_108 : j_code jP 28 108 = some (.aload_n 0) := rfl
set_option maxRecDepth 100000 in
theorem yb8p_109 : j_code jP 28 109 = some (.getfield 27) := rfl
set_option maxRecDepth 100000 in
theorem yb8p_112 : j_code jP 28 112 = some (.arraylength) := rfl
set_option maxRecDepth 100000 in
theorem yb8p_113 : j_code jP 28 113 = some (.invokestatic 50) := rfl
set_option maxRecDepth 100000 in
theorem yb8p_116 : j_code jP 28 116 = some (.aload_n 1) := rfl
set_option maxRecDepth 100000 in
theorem yb8p_117 : j_code jP 28 117 = some (.getfield 30) := rfl
set_option maxRecDepth 100000 in
theorem yb8p_120 : j_code jP 28 120 = some (.iconst 0) := rfl
set_option maxRecDepth 100000 in
theorem yb8p_121 : j_code jP 28 121 = some (.aload_n 0) := rfl
set_option maxRecDepth 100000 in
theorem yb8p_122 : j_code jP 28 122 = some (.getfield 30) := rfl
set_option maxRecDepth 100000 in
theorem yb8p_125 : j_code jP 28 125 = some (.iconst 0) := rfl
set_option maxRecDepth 100000 in
theorem yb8p_126 : j_code jP 28 126 = some (.aload_n 0) := rfl
set_option maxRecDepth 100000 in
theorem yb8p_127 : j_code jP 28 127 = some (.getfield 30) := rfl
set_option maxRecDepth 100000 in
theorem yb8p_130 : j_code jP 28 130 = some (.arraylength) := rfl
set_option maxRecDepth 100000 in
theorem yb8p_131 : j_code jP 28 131 = some (.invokestatic 50) := rfl
set_option maxRecDepth 100000 in
theorem yb8p_134 : j_code jP 28 134 = some (.aload_n 1) := rfl
set_option maxRecDepth 100000 in
theorem yb8p_135 : j_code jP 28 135 = some (.getfield 33) := rfl
set_option maxRecDepth 100000 in
theorem yb8p_138 : j_code jP 28 138 = some (.iconst 0) := rfl
set_option maxRecDepth 100000 in
theorem yb8p_139 : j_code jP 28 139 = some (.aload_n 0) := rfl
set_option maxRecDepth 100000 in
theorem yb8p_140 : j_code jP 28 140 = some (.getfield 33) := rfl
set_option maxRecDepth 100000 in
theorem yb8p_143 : j_code jP 28 143 = some (.iconst 0) := rfl
set_option maxRecDepth 100000 in
theorem yb8p_144 : j_code jP 28 144 = some (.aload_n 0) := rfl
set_option maxRecDepth 100000 in
theorem yb8p_145 : j_code jP 28 145 = some (.getfield 33) := rfl
set_option maxRecDepth 100000 in
theorem yb8p_148 : j_code jP 28 148 = some (.arraylength) := rfl
set_option maxRecDepth 100000 in
theorem yb8p_149 : j_code jP 28 149 = some (.invokestatic 50) := rfl
set_option maxRecDepth 100000 in
theorem yb8p_152 : j_code jP 28 152 = some (.aload_n 0) := rfl
set_option maxRecDepth 100000 in
theorem yb8p_153 : j_code jP 28 153 = some (.aload_n 1) := rfl
set_option maxRecDepth 100000 in
theorem yb8p_154 : j_code jP 28 154 = some (.getfield 46) := rfl
set_option maxRecDepth 100000 in
theorem yb8p_157 : j_code jP 28 157 = some (.putfield 46) := rfl
set_option maxRecDepth 100000 in
theorem yb8p_160 : j_code jP 28 160 = some (.return_) := rfl
set_option maxRecDepth 1000000 in
theorem yb8p_k8 {pev : Int32} {pms : List Int32} {pmm : List Int32} {pevs : Int32} {pmss : List Int32} {pmms : List Int32} {d : Nat} {lv : J_L} {h h0 : J_H} {Q : Option Value → J_H → Prop} (L : LK lv [(0, .ref 20), (1, .ref 247)]) (K : KN h [(20, .inl (3, [.ref 21, .ref 22, .ref 23, .ref 24, .ref 25, .ref 26, .ref 27, .ref 28, .int pev, .int 1])), (21, .inr (.inl (0, pms))), (22, .inr (.inl (0, pmm))), (247, .inl (3, [.ref 248, .ref 249, .ref 250, .ref 251, .ref 252, .ref 253, .ref 254, .ref 255, .int pevs, .int 1])), (248, .inr (.inl (0, pmss))), (249, .inr (.inl (0, pmms)))] h0) (kk : ∀ lv h, LK lv [(0, .ref 20), (1, .ref 247)] → KN h [(20, .inl (3, [.ref 21, .ref 22, .ref 23, .ref 24, .ref 25, .ref 26, .ref 27, .ref 28, .int pev, .int 1])), (21, .inr (.inl (0, (aC (nI pms.length) pmss pms)))), (22, .inr (.inl (0, (aC (nI pmm.length) pmms pmm)))), (247, .inl (3, [.ref 248, .ref 249, .ref 250, .ref 251, .ref 252, .ref 253, .ref 254, .ref 255, .int pevs, .int 1])), (248, .inr (.inl (0, pmss))), (249, .inr (.inl (0, pmms)))] h0 → j_V jP d 28 44 lv [] h Q) : j_V jP d 28 8 lv [] h Q := by
  refine j_V.ldL yb8p_M yb8p_8 rfl (i := 1) (kd := 2) (v := .ref 247) (pcJ := 9) rfl L rfl rfl rfl ?_
  refine j_V.getK yb8p_M yb8p_9 (ci := 3) (j := 0) rfl K rfl rfl ?_
  refine j_V.one yb8p_M yb8p_12 (by decide) (pcJ := 13) (stJ := [.int 0, .ref 248]) rfl ?_
  refine j_V.ldL yb8p_M yb8p_13 rfl (i := 0) (kd := 2) (v := .ref 20) (pcJ := 14) rfl L rfl rfl rfl ?_
  refine j_V.getK yb8p_M yb8p_14 (ci := 3) (j := 0) rfl K rfl rfl ?_
  refine j_V.one yb8p_M yb8p_17 (by decide) (pcJ := 18) (stJ := [.int 0, .ref 21, .int 0, .ref 248]) rfl ?_
  refine j_V.ldL yb8p_M yb8p_18 rfl (i := 0) (kd := 2) (v := .ref 20) (pcJ := 19) rfl L rfl rfl rfl ?_
  refine j_V.getK yb8p_M yb8p_19 (ci := 3) (j := 0) rfl K rfl rfl ?_
  refine j_V.alnA yb8p_M yb8p_22 K rfl ?_
  refine j_V.acp yb8p_M yb8p_23 rfl rfl K rfl rfl rfl (fun h K => ?_)
  refine j_V.ldL yb8p_M yb8p_26 rfl (i := 1) (kd := 2) (v := .ref 247) (pcJ := 27) rfl L rfl rfl rfl ?_
  refine j_V.getK yb8p_M yb8p_27 (ci := 3) (j := 1) rfl K rfl rfl ?_
  refine j_V.one yb8p_M yb8p_30 (by decide) (pcJ := 31) (stJ := [.int 0, .ref 249]) rfl ?_
  refine j_V.ldL yb8p_M yb8p_31 rfl (i := 0) (kd := 2) (v := .ref 20) (pcJ := 32) rfl L rfl rfl rfl ?_
  refine j_V.getK yb8p_M yb8p_32 (ci := 3) (j := 1) rfl K rfl rfl ?_
  refine j_V.one yb8p_M yb8p_35 (by decide) (pcJ := 36) (stJ := [.int 0, .ref 22, .int 0, .ref 249]) rfl ?_
  refine j_V.ldL yb8p_M yb8p_36 rfl (i := 0) (kd := 2) (v := .ref 20) (pcJ := 37) rfl L rfl rfl rfl ?_
  refine j_V.getK yb8p_M yb8p_37 (ci := 3) (j := 1) rfl K rfl rfl ?_
  refine j_V.alnA yb8p_M yb8p_40 K rfl ?_
  refine j_V.acp yb8p_M yb8p_41 rfl rfl K rfl rfl rfl (fun h K => ?_)
  exact kk _ _ L K
set_option maxRecDepth 1000000 in
theorem yb8p_k44 {pev : Int32} {pmt : List Int32} {pst : List Int32} {pevs : Int32} {pmts : List Int32} {psts : List Int32} {d : Nat} {lv : J_L} {h h0 : J_H} {Q : Option Value → J_H → Prop} (L : LK lv [(0, .ref 20), (1, .ref 247)]) (K : KN h [(20, .inl (3, [.ref 21, .ref 22, .ref 23, .ref 24, .ref 25, .ref 26, .ref 27, .ref 28, .int pev, .int 1])), (23, .inr (.inl (0, pmt))), (24, .inr (.inl (0, pst))), (247, .inl (3, [.ref 248, .ref 249, .ref 250, .ref 251, .ref 252, .ref 253, .ref 254, .ref 255, .int pevs, .int 1])), (250, .inr (.inl (0, pmts))), (251, .inr (.inl (0, psts)))] h0) (kk : ∀ lv h, LK lv [(0, .ref 20), (1, .ref 247)] → KN h [(20, .inl (3, [.ref 21, .ref 22, .ref 23, .ref 24, .ref 25, .ref 26, .ref 27, .ref 28, .int pev, .int 1])), (23, .inr (.inl (0, (aC (nI pmt.length) pmts pmt)))), (24, .inr (.inl (0, (aC (nI pst.length) psts pst)))), (247, .inl (3, [.ref 248, .ref 249, .ref 250, .ref 251, .ref 252, .ref 253, .ref 254, .ref 255, .int pevs, .int 1])), (250, .inr (.inl (0, pmts))), (251, .inr (.inl (0, psts)))] h0 → j_V jP d 28 80 lv [] h Q) : j_V jP d 28 44 lv [] h Q := by
  refine j_V.ldL yb8p_M yb8p_44 rfl (i := 1) (kd := 2) (v := .ref 247) (pcJ := 45) rfl L rfl rfl rfl ?_
  refine j_V.getK yb8p_M yb8p_45 (ci := 3) (j := 2) rfl K rfl rfl ?_
  refine j_V.one yb8p_M yb8p_48 (by decide) (pcJ := 49) (stJ := [.int 0, .ref 250]) rfl ?_
  refine j_V.ldL yb8p_M yb8p_49 rfl (i := 0) (kd := 2) (v := .ref 20) (pcJ := 50) rfl L rfl rfl rfl ?_
  refine j_V.getK yb8p_M yb8p_50 (ci := 3) (j := 2) rfl K rfl rfl ?_
  refine j_V.one yb8p_M yb8p_53 (by decide) (pcJ := 54) (stJ := [.int 0, .ref 23, .int 0, .ref 250]) rfl ?_
  refine j_V.ldL yb8p_M yb8p_54 rfl (i := 0) (kd := 2) (v := .ref 20) (pcJ := 55) rfl L rfl rfl rfl ?_
  refine j_V.getK yb8p_M yb8p_55 (ci := 3) (j := 2) rfl K rfl rfl ?_
  refine j_V.alnA yb8p_M yb8p_58 K rfl ?_
  refine j_V.acp yb8p_M yb8p_59 rfl rfl K rfl rfl rfl (fun h K => ?_)
  refine j_V.ldL yb8p_M yb8p_62 rfl (i := 1) (kd := 2) (v := .ref 247) (pcJ := 63) rfl L rfl rfl rfl ?_
  refine j_V.getK yb8p_M yb8p_63 (ci := 3) (j := 3) rfl K rfl rfl ?_
  refine j_V.one yb8p_M yb8p_66 (by decide) (pcJ := 67) (stJ := [.int 0, .ref 251]) rfl ?_
  refine j_V.ldL yb8p_M yb8p_67 rfl (i := 0) (kd := 2) (v := .ref 20) (pcJ := 68) rfl L rfl rfl rfl ?_
  refine j_V.getK yb8p_M yb8p_68 (ci := 3) (j := 3) rfl K rfl rfl ?_
  refine j_V.one yb8p_M yb8p_71 (by decide) (pcJ := 72) (stJ := [.int 0, .ref 24, .int 0, .ref 251]) rfl ?_
  refine j_V.ldL yb8p_M yb8p_72 rfl (i := 0) (kd := 2) (v := .ref 20) (pcJ := 73) rfl L rfl rfl rfl ?_
  refine j_V.getK yb8p_M yb8p_73 (ci := 3) (j := 3) rfl K rfl rfl ?_
  refine j_V.alnA yb8p_M yb8p_76 K rfl ?_
  refine j_V.acp yb8p_M yb8p_77 rfl rfl K rfl rfl rfl (fun h K => ?_)
  exact kk _ _ L K
set_option maxRecDepth 1000000 in
theorem yb8p_k80 {pev : Int32} {pwa : List Int32} {prs : List Int32} {pevs : Int32} {pwas : List Int32} {prss : List Int32} {d : Nat} {lv : J_L} {h h0 : J_H} {Q : Option Value → J_H → Prop} (L : LK lv [(0, .ref 20), (1, .ref 247)]) (K : KN h [(20, .inl (3, [.ref 21, .ref 22, .ref 23, .ref 24, .ref 25, .ref 26, .ref 27, .ref 28, .int pev, .int 1])), (25, .inr (.inl (0, pwa))), (26, .inr (.inl (0, prs))), (247, .inl (3, [.ref 248, .ref 249, .ref 250, .ref 251, .ref 252, .ref 253, .ref 254, .ref 255, .int pevs, .int 1])), (252, .inr (.inl (0, pwas))), (253, .inr (.inl (0, prss)))] h0) (kk : ∀ lv h, LK lv [(0, .ref 20), (1, .ref 247)] → KN h [(20, .inl (3, [.ref 21, .ref 22, .ref 23, .ref 24, .ref 25, .ref 26, .ref 27, .ref 28, .int pev, .int 1])), (25, .inr (.inl (0, (aC (nI pwa.length) pwas pwa)))), (26, .inr (.inl (0, (aC (nI prs.length) prss prs)))), (247, .inl (3, [.ref 248, .ref 249, .ref 250, .ref 251, .ref 252, .ref 253, .ref 254, .ref 255, .int pevs, .int 1])), (252, .inr (.inl (0, pwas))), (253, .inr (.inl (0, prss)))] h0 → j_V jP d 28 116 lv [] h Q) : j_V jP d 28 80 lv [] h Q := by
  refine j_V.ldL yb8p_M yb8p_80 rfl (i := 1) (kd := 2) (v := .ref 247) (pcJ := 81) rfl L rfl rfl rfl ?_
  refine j_V.getK yb8p_M yb8p_81 (ci := 3) (j := 4) rfl K rfl rfl ?_
  refine j_V.one yb8p_M yb8p_84 (by decide) (pcJ := 85) (stJ := [.int 0, .ref 252]) rfl ?_
  refine j_V.ldL yb8p_M yb8p_85 rfl (i := 0) (kd := 2) (v := .ref 20) (pcJ := 86) rfl L rfl rfl rfl ?_
  refine j_V.getK yb8p_M yb8p_86 (ci := 3) (j := 4) rfl K rfl rfl ?_
  refine j_V.one yb8p_M yb8p_89 (by decide) (pcJ := 90) (stJ := [.int 0, .ref 25, .int 0, .ref 252]) rfl ?_
  refine j_V.ldL yb8p_M yb8p_90 rfl (i := 0) (kd := 2) (v := .ref 20) (pcJ := 91) rfl L rfl rfl rfl ?_
  refine j_V.getK yb8p_M yb8p_91 (ci := 3) (j := 4) rfl K rfl rfl ?_
  refine j_V.alnA yb8p_M yb8p_94 K rfl ?_
  refine j_V.acp yb8p_M yb8p_95 rfl rfl K rfl rfl rfl (fun h K => ?_)
  refine j_V.ldL yb8p_M yb8p_98 rfl (i := 1) (kd := 2) (v := .ref 247) (pcJ := 99) rfl L rfl rfl rfl ?_
  refine j_V.getK yb8p_M yb8p_99 (ci := 3) (j := 5) rfl K rfl rfl ?_
  refine j_V.one yb8p_M yb8p_102 (by decide) (pcJ := 103) (stJ := [.int 0, .ref 253]) rfl ?_
  refine j_V.ldL yb8p_M yb8p_103 rfl (i := 0) (kd := 2) (v := .ref 20) (pcJ := 104) rfl L rfl rfl rfl ?_
  refine j_V.getK yb8p_M yb8p_104 (ci := 3) (j := 5) rfl K rfl rfl ?_
  refine j_V.one yb8p_M yb8p_107 (by decide) (pcJ := 108) (stJ := [.int 0, .ref 26, .int 0, .ref 253]) rfl ?_
  refine j_V.ldL yb8p_M yb8p_108 rfl (i := 0) (kd := 2) (v := .ref 20) (pcJ := 109) rfl L rfl rfl rfl ?_
  refine j_V.getK yb8p_M yb8p_109 (ci := 3) (j := 5) rfl K rfl rfl ?_
  refine j_V.alnA yb8p_M yb8p_112 K rfl ?_
  refine j_V.acp yb8p_M yb8p_113 rfl rfl K rfl rfl rfl (fun h K => ?_)
  exact kk _ _ L K
set_option maxRecDepth 1000000 in
theorem yb8p_k116 {pev : Int32} {prr : List Int32} {pfa : List Int32} {pevs : Int32} {prrs : List Int32} {pfas : List Int32} {d : Nat} {lv : J_L} {h h0 : J_H} {Q : Option Value → J_H → Prop} (L : LK lv [(0, .ref 20), (1, .ref 247)]) (K : KN h [(20, .inl (3, [.ref 21, .ref 22, .ref 23, .ref 24, .ref 25, .ref 26, .ref 27, .ref 28, .int pev, .int 1])), (27, .inr (.inl (0, prr))), (28, .inr (.inl (0, pfa))), (247, .inl (3, [.ref 248, .ref 249, .ref 250, .ref 251, .ref 252, .ref 253, .ref 254, .ref 255, .int pevs, .int 1])), (254, .inr (.inl (0, prrs))), (255, .inr (.inl (0, pfas)))] h0) (kk : ∀ lv h, LK lv [(0, .ref 20), (1, .ref 247)] → KN h [(20, .inl (3, [.ref 21, .ref 22, .ref 23, .ref 24, .ref 25, .ref 26, .ref 27, .ref 28, .int pev, .int 1])), (27, .inr (.inl (0, (aC (nI prr.length) prrs prr)))), (28, .inr (.inl (0, (aC (nI pfa.length) pfas pfa)))), (247, .inl (3, [.ref 248, .ref 249, .ref 250, .ref 251, .ref 252, .ref 253, .ref 254, .ref 255, .int pevs, .int 1])), (254, .inr (.inl (0, prrs))), (255, .inr (.inl (0, pfas)))] h0 → j_V jP d 28 152 lv [] h Q) : j_V jP d 28 116 lv [] h Q := by
  refine j_V.ldL yb8p_M yb8p_116 rfl (i := 1) (kd := 2) (v := .ref 247) (pcJ := 117) rfl L rfl rfl rfl ?_
  refine j_V.getK yb8p_M yb8p_117 (ci := 3) (j := 6) rfl K rfl rfl ?_
  refine j_V.one yb8p_M yb8p_120 (by decide) (pcJ := 121) (stJ := [.int 0, .ref 254]) rfl ?_
  refine j_V.ldL yb8p_M yb8p_121 rfl (i := 0) (kd := 2) (v := .ref 20) (pcJ := 122) rfl L rfl rfl rfl ?_
  refine j_V.getK yb8p_M yb8p_122 (ci := 3) (j := 6) rfl K rfl rfl ?_
  refine j_V.one yb8p_M yb8p_125 (by decide) (pcJ := 126) (stJ := [.int 0, .ref 27, .int 0, .ref 254]) rfl ?_
  refine j_V.ldL yb8p_M yb8p_126 rfl (i := 0) (kd := 2) (v := .ref 20) (pcJ := 127) rfl L rfl rfl rfl ?_
  refine j_V.getK yb8p_M yb8p_127 (ci := 3) (j := 6) rfl K rfl rfl ?_
  refine j_V.alnA yb8p_M yb8p_130 K rfl ?_
  refine j_V.acp yb8p_M yb8p_131 rfl rfl K rfl rfl rfl (fun h K => ?_)
  refine j_V.ldL yb8p_M yb8p_134 rfl (i := 1) (kd := 2) (v := .ref 247) (pcJ := 135) rfl L rfl rfl rfl ?_
  refine j_V.getK yb8p_M yb8p_135 (ci := 3) (j := 7) rfl K rfl rfl ?_
  refine j_V.one yb8p_M yb8p_138 (by decide) (pcJ := 139) (stJ := [.int 0, .ref 255]) rfl ?_
  refine j_V.ldL yb8p_M yb8p_139 rfl (i := 0) (kd := 2) (v := .ref 20) (pcJ := 140) rfl L rfl rfl rfl ?_
  refine j_V.getK yb8p_M yb8p_140 (ci := 3) (j := 7) rfl K rfl rfl ?_
  refine j_V.one yb8p_M yb8p_143 (by decide) (pcJ := 144) (stJ := [.int 0, .ref 28, .int 0, .ref 255]) rfl ?_
  refine j_V.ldL yb8p_M yb8p_144 rfl (i := 0) (kd := 2) (v := .ref 20) (pcJ := 145) rfl L rfl rfl rfl ?_
  refine j_V.getK yb8p_M yb8p_145 (ci := 3) (j := 7) rfl K rfl rfl ?_
  refine j_V.alnA yb8p_M yb8p_148 K rfl ?_
  refine j_V.acp yb8p_M yb8p_149 rfl rfl K rfl rfl rfl (fun h K => ?_)
  exact kk _ _ L K
set_option maxRecDepth 1000000 in
theorem yb8p_ok {pev : Int32} {pms : List Int32} {pmm : List Int32} {pmt : List Int32} {pst : List Int32} {pwa : List Int32} {prs : List Int32} {prr : List Int32} {pfa : List Int32} {pevs : Int32} {pmss : List Int32} {pmms : List Int32} {pmts : List Int32} {psts : List Int32} {pwas : List Int32} {prss : List Int32} {prrs : List Int32} {pfas : List Int32} {d : Nat} {h h0 : J_H} (K : KN h [(20, .inl (3, [.ref 21, .ref 22, .ref 23, .ref 24, .ref 25, .ref 26, .ref 27, .ref 28, .int pev, .int 1])), (21, .inr (.inl (0, pms))), (22, .inr (.inl (0, pmm))), (23, .inr (.inl (0, pmt))), (24, .inr (.inl (0, pst))), (25, .inr (.inl (0, pwa))), (26, .inr (.inl (0, prs))), (27, .inr (.inl (0, prr))), (28, .inr (.inl (0, pfa))), (247, .inl (3, [.ref 248, .ref 249, .ref 250, .ref 251, .ref 252, .ref 253, .ref 254, .ref 255, .int pevs, .int 1])), (248, .inr (.inl (0, pmss))), (249, .inr (.inl (0, pmms))), (250, .inr (.inl (0, pmts))), (251, .inr (.inl (0, psts))), (252, .inr (.inl (0, pwas))), (253, .inr (.inl (0, prss))), (254, .inr (.inl (0, prrs))), (255, .inr (.inl (0, pfas)))] h0) : j_V jP d 28 0 (lv_args 0 [.ref 20, .ref 247]) [] h (fun rv h' => rv = none ∧ KN h' [(20, .inl (3, [.ref 21, .ref 22, .ref 23, .ref 24, .ref 25, .ref 26, .ref 27, .ref 28, .int pevs, .int 1])), (21, .inr (.inl (0, (aC (nI pms.length) pmss pms)))), (22, .inr (.inl (0, (aC (nI pmm.length) pmms pmm)))), (23, .inr (.inl (0, (aC (nI pmt.length) pmts pmt)))), (24, .inr (.inl (0, (aC (nI pst.length) psts pst)))), (25, .inr (.inl (0, (aC (nI pwa.length) pwas pwa)))), (26, .inr (.inl (0, (aC (nI prs.length) prss prs)))), (27, .inr (.inl (0, (aC (nI prr.length) prrs prr)))), (28, .inr (.inl (0, (aC (nI pfa.length) pfas pfa)))), (247, .inl (3, [.ref 248, .ref 249, .ref 250, .ref 251, .ref 252, .ref 253, .ref 254, .ref 255, .int pevs, .int 1])), (248, .inr (.inl (0, pmss))), (249, .inr (.inl (0, pmms))), (250, .inr (.inl (0, pmts))), (251, .inr (.inl (0, psts))), (252, .inr (.inl (0, pwas))), (253, .inr (.inl (0, prss))), (254, .inr (.inl (0, prrs))), (255, .inr (.inl (0, pfas)))] h0) := by
  show j_V jP d 28 0 [(0, .ref 20), (1, .ref 247)] [] h _
  obtain ⟨lv, elv, L⟩ : ∃ lv, lv = [(0, .ref 20), (1, .ref 247)] ∧ LK lv [(0, .ref 20), (1, .ref 247)] := ⟨_, rfl, LK.rf⟩
  rw [← elv]
  clear elv
  refine j_V.ldL yb8p_M yb8p_0 rfl (i := 0) (kd := 2) (v := .ref 20) (pcJ := 1) rfl L rfl rfl rfl ?_
  refine j_V.getK yb8p_M yb8p_1 (ci := 3) (j := 9) rfl K rfl rfl ?_
  refine j_V.ifc yb8p_M yb8p_4 (t := 8) rfl (fun c4_0 => ?_) (fun c4_0 => ?_)
  · replace c4_0 : ¬ ((1 : Int32) = 0) := jd_ne c4_0
    refine yb8p_k8 L (K.fi [20, 21, 22, 247, 248, 249] rfl rfl) (fun lv h9 L K9 => ?_)
    have K : KN h9 [(20, .inl (3, [.ref 21, .ref 22, .ref 23, .ref 24, .ref 25, .ref 26, .ref 27, .ref 28, .int pev, .int 1])), (21, .inr (.inl (0, (aC (nI pms.length) pmss pms)))), (22, .inr (.inl (0, (aC (nI pmm.length) pmms pmm)))), (23, .inr (.inl (0, pmt))), (24, .inr (.inl (0, pst))), (25, .inr (.inl (0, pwa))), (26, .inr (.inl (0, prs))), (27, .inr (.inl (0, prr))), (28, .inr (.inl (0, pfa))), (247, .inl (3, [.ref 248, .ref 249, .ref 250, .ref 251, .ref 252, .ref 253, .ref 254, .ref 255, .int pevs, .int 1])), (248, .inr (.inl (0, pmss))), (249, .inr (.inl (0, pmms))), (250, .inr (.inl (0, pmts))), (251, .inr (.inl (0, psts))), (252, .inr (.inl (0, pwas))), (253, .inr (.inl (0, prss))), (254, .inr (.inl (0, prrs))), (255, .inr (.inl (0, pfas)))] h0 := K.mg K9 rfl rfl
    clear K9
    refine yb8p_k44 L (K.fi [20, 23, 24, 247, 250, 251] rfl rfl) (fun lv h9 L K9 => ?_)
    have K : KN h9 [(20, .inl (3, [.ref 21, .ref 22, .ref 23, .ref 24, .ref 25, .ref 26, .ref 27, .ref 28, .int pev, .int 1])), (21, .inr (.inl (0, (aC (nI pms.length) pmss pms)))), (22, .inr (.inl (0, (aC (nI pmm.length) pmms pmm)))), (23, .inr (.inl (0, (aC (nI pmt.length) pmts pmt)))), (24, .inr (.inl (0, (aC (nI pst.length) psts pst)))), (25, .inr (.inl (0, pwa))), (26, .inr (.inl (0, prs))), (27, .inr (.inl (0, prr))), (28, .inr (.inl (0, pfa))), (247, .inl (3, [.ref 248, .ref 249, .ref 250, .ref 251, .ref 252, .ref 253, .ref 254, .ref 255, .int pevs, .int 1])), (248, .inr (.inl (0, pmss))), (249, .inr (.inl (0, pmms))), (250, .inr (.inl (0, pmts))), (251, .inr (.inl (0, psts))), (252, .inr (.inl (0, pwas))), (253, .inr (.inl (0, prss))), (254, .inr (.inl (0, prrs))), (255, .inr (.inl (0, pfas)))] h0 := K.mg K9 rfl rfl
    clear K9
    refine yb8p_k80 L (K.fi [20, 25, 26, 247, 252, 253] rfl rfl) (fun lv h9 L K9 => ?_)
    have K : KN h9 [(20, .inl (3, [.ref 21, .ref 22, .ref 23, .ref 24, .ref 25, .ref 26, .ref 27, .ref 28, .int pev, .int 1])), (21, .inr (.inl (0, (aC (nI pms.length) pmss pms)))), (22, .inr (.inl (0, (aC (nI pmm.length) pmms pmm)))), (23, .inr (.inl (0, (aC (nI pmt.length) pmts pmt)))), (24, .inr (.inl (0, (aC (nI pst.length) psts pst)))), (25, .inr (.inl (0, (aC (nI pwa.length) pwas pwa)))), (26, .inr (.inl (0, (aC (nI prs.length) prss prs)))), (27, .inr (.inl (0, prr))), (28, .inr (.inl (0, pfa))), (247, .inl (3, [.ref 248, .ref 249, .ref 250, .ref 251, .ref 252, .ref 253, .ref 254, .ref 255, .int pevs, .int 1])), (248, .inr (.inl (0, pmss))), (249, .inr (.inl (0, pmms))), (250, .inr (.inl (0, pmts))), (251, .inr (.inl (0, psts))), (252, .inr (.inl (0, pwas))), (253, .inr (.inl (0, prss))), (254, .inr (.inl (0, prrs))), (255, .inr (.inl (0, pfas)))] h0 := K.mg K9 rfl rfl
    clear K9
    refine yb8p_k116 L (K.fi [20, 27, 28, 247, 254, 255] rfl rfl) (fun lv h9 L K9 => ?_)
    have K : KN h9 [(20, .inl (3, [.ref 21, .ref 22, .ref 23, .ref 24, .ref 25, .ref 26, .ref 27, .ref 28, .int pev, .int 1])), (21, .inr (.inl (0, (aC (nI pms.length) pmss pms)))), (22, .inr (.inl (0, (aC (nI pmm.length) pmms pmm)))), (23, .inr (.inl (0, (aC (nI pmt.length) pmts pmt)))), (24, .inr (.inl (0, (aC (nI pst.length) psts pst)))), (25, .inr (.inl (0, (aC (nI pwa.length) pwas pwa)))), (26, .inr (.inl (0, (aC (nI prs.length) prss prs)))), (27, .inr (.inl (0, (aC (nI prr.length) prrs prr)))), (28, .inr (.inl (0, (aC (nI pfa.length) pfas pfa)))), (247, .inl (3, [.ref 248, .ref 249, .ref 250, .ref 251, .ref 252, .ref 253, .ref 254, .ref 255, .int pevs, .int 1])), (248, .inr (.inl (0, pmss))), (249, .inr (.inl (0, pmms))), (250, .inr (.inl (0, pmts))), (251, .inr (.inl (0, psts))), (252, .inr (.inl (0, pwas))), (253, .inr (.inl (0, prss))), (254, .inr (.inl (0, prrs))), (255, .inr (.inl (0, pfas)))] h0 := K.mg K9 rfl rfl
    clear K9
    refine j_V.ldL yb8p_M yb8p_152 rfl (i := 0) (kd := 2) (v := .ref 20) (pcJ := 153) rfl L rfl rfl rfl ?_
    refine j_V.ldL yb8p_M yb8p_153 rfl (i := 1) (kd := 2) (v := .ref 247) (pcJ := 154) rfl L rfl rfl rfl ?_
    refine j_V.getK yb8p_M yb8p_154 (ci := 3) (j := 8) rfl K rfl rfl ?_
    refine j_V.putK yb8p_M yb8p_157 (ci := 3) (j := 8) (k' := [(20, .inl (3, [.ref 21, .ref 22, .ref 23, .ref 24, .ref 25, .ref 26, .ref 27, .ref 28, .int pevs, .int 1])), (21, .inr (.inl (0, (aC (nI pms.length) pmss pms)))), (22, .inr (.inl (0, (aC (nI pmm.length) pmms pmm)))), (23, .inr (.inl (0, (aC (nI pmt.length) pmts pmt)))), (24, .inr (.inl (0, (aC (nI pst.length) psts pst)))), (25, .inr (.inl (0, (aC (nI pwa.length) pwas pwa)))), (26, .inr (.inl (0, (aC (nI prs.length) prss prs)))), (27, .inr (.inl (0, (aC (nI prr.length) prrs prr)))), (28, .inr (.inl (0, (aC (nI pfa.length) pfas pfa)))), (247, .inl (3, [.ref 248, .ref 249, .ref 250, .ref 251, .ref 252, .ref 253, .ref 254, .ref 255, .int pevs, .int 1])), (248, .inr (.inl (0, pmss))), (249, .inr (.inl (0, pmms))), (250, .inr (.inl (0, pmts))), (251, .inr (.inl (0, psts))), (252, .inr (.inl (0, pwas))), (253, .inr (.inl (0, prss))), (254, .inr (.inl (0, prrs))), (255, .inr (.inl (0, pfas)))]) rfl K rfl (Nat.le_of_ble_eq_true rfl) rfl (Or.inl rfl) rfl rfl (fun h K => ?_)
    exact j_V.ret yb8p_M yb8p_160 rfl rfl ⟨rfl, K⟩
  · replace c4_0 : (1 : Int32) = 0 := jd_nen c4_0
    exact absurd c4_0 (by decide)
set_option maxRecDepth 100000 in
theorem yb8s_M : j_meth jP 61 = some (yX7_copyFrom, cX7_copyFrom, 2, none, 1, false, 7) := rfl
set_option maxRecDepth 100000 in
theorem yb8s_0 : j_code jP 61 0 = some (.aload_n 0) := rfl
set_option maxRecDepth 100000 in
theorem yb8s_1 : j_code jP 61 1 = some (.aload_n 1) := rfl
set_option maxRecDepth 100000 in
theorem yb8s_2 : j_code jP 61 2 = some (.getfield 64) := rfl
set_option maxRecDepth 100000 in
theorem yb8s_5 : j_code jP 61 5 = some (.putfield 64) := rfl
set_option maxRecDepth 100000 in
theorem yb8s_8 : j_code jP 61 8 = some (.aload_n 0) := rfl
set_option maxRecDepth 100000 in
theorem yb8s_9 : j_code jP 61 9 = some (.aload_n 1) := rfl
set_option maxRecDepth 100000 in
theorem yb8s_10 : j_code jP 61 10 = some (.getfield 68) := rfl
set_option maxRecDepth 100000 in
theorem yb8s_13 : j_code jP 61 13 = some (.putfield 68) := rfl
set_option maxRecDepth 100000 in
theorem yb8s_16 : j_code jP 61 16 = some (.aload_n 0) := rfl
set_option maxRecDepth 100000 in
theorem yb8s_17 : j_code jP 61 17 = some (.aload_n 1) := rfl
set_option maxRecDepth 100000 in
theorem yb8s_18 : j_code jP 61 18 = some (.getfield 72) := rfl
set_option maxRecDepth 100000 in
theorem yb8s_21 : j_code jP 61 21 = some (.putfield 72) := rfl
set_option maxRecDepth 100000 in
theorem yb8s_24 : j_code jP 61 24 = some (.aload_n 0) := rfl
set_option maxRecDepth 100000 in
theorem yb8s_25 : j_code jP 61 25 = some (.aload_n 1) := rfl
set_option maxRecDepth 100000 in
theorem yb8s_26 : j_code jP 61 26 = some (.getfield 75) := rfl
set_option maxRecDepth 100000 in
theorem yb8s_29 : j_code jP 61 29 = some (.putfield 75) := rfl
set_option maxRecDepth 100000 in
theorem yb8s_32 : j_code jP 61 32 = some (.aload_n 0) := rfl
set_option maxRecDepth 100000 in
theorem yb8s_33 : j_code jP 61 33 = some (.aload_n 1) := rfl
set_option maxRecDepth 100000 in
theorem yb8s_34 : j_code jP 61 34 = some (.getfield 78) := rfl
set_option maxRecDepth 100000 in
theorem yb8s_37 : j_code jP 61 37 = some (.putfield 78) := rfl
set_option maxRecDepth 100000 in
theorem yb8s_40 : j_code jP 61 40 = some (.aload_n 1) := rfl
set_option maxRecDepth 100000 in
theorem yb8s_41 : j_code jP 61 41 = some (.getfield 9) := rfl
set_option maxRecDepth 100000 in
theorem yb8s_44 : j_code jP 61 44 = some (.iconst 0) := rfl
set_option maxRecDepth 100000 in
theorem yb8s_45 : j_code jP 61 45 = some (.aload_n 0) := rfl
set_option maxRecDepth 100000 in
theorem yb8s_46 : j_code jP 61 46 = some (.getfield 9) := rfl
set_option maxRecDepth 100000 in
theorem yb8s_49 : j_code jP 61 49 = some (.iconst 0) := rfl
set_option maxRecDepth 100000 in
theorem yb8s_50 : j_code jP 61 50 = some (.iconst 5) := rfl
set_option maxRecDepth 100000 in
theorem yb8s_51 : j_code jP 61 51 = some (.invokestatic 84) := rfl
set_option maxRecDepth 100000 in
theorem yb8s_54 : j_code jP 61 54 = some (.aload_n 1) := rfl
set_option maxRecDepth 100000 in
theorem yb8s_55 : j_code jP 61 55 = some (.getfield 15) := rfl
set_option maxRecDepth 100000 in
theorem yb8s_58 : j_code jP 61 58 = some (.iconst 0) := rfl
set_option maxRecDepth 100000 in
theorem yb8s_59 : j_code jP 61 59 = some (.aload_n 0) := rfl
set_option maxRecDepth 100000 in
theorem yb8s_60 : j_code jP 61 60 = some (.getfield 15) := rfl
set_option maxRecDepth 100000 in
theorem yb8s_63 : j_code jP 61 63 = some (.iconst 0) := rfl
set_option maxRecDepth 100000 in
theorem yb8s_64 : j_code jP 61 64 = some (.iconst 5) := rfl
set_option maxRecDepth 100000 in
theorem yb8s_65 : j_code jP 61 65 = some (.invokestatic 84) := rfl
set_option maxRecDepth 100000 in
theorem yb8s_68 : j_code jP 61 68 = some (.aload_n 1) := rfl
set_option maxRecDepth 100000 in
theorem yb8s_69 : j_code jP 61 69 = some (.getfield 18) := rfl
set_option maxRecDepth 100000 in
theorem yb8s_72 : j_code jP 61 72 = some (.iconst 0) := rfl
set_option maxRecDepth 100000 in
theorem yb8s_73 : j_code jP 61 73 = some (.aload_n 0) := rfl
set_option maxRecDepth 100000 in
theorem yb8s_74 : j_code jP 61 74 = some (.getfield 18) := rfl
set_option maxRecDepth 100000 in
theorem yb8s_77 : j_code jP 61 77 = some (.iconst 0) := rfl
set_option maxRecDepth 100000 in
theorem yb8s_78 : j_code jP 61 78 = some (.iconst 5) := rfl
set_option maxRecDepth 100000 in
theorem yb8s_79 : j_code jP 61 79 = some (.invokestatic 84) := rfl
set_option maxRecDepth 100000 in
theorem yb8s_82 : j_code jP 61 82 = some (.aload_n 1) := rfl
set_option maxRecDepth 100000 in
theorem yb8s_83 : j_code jP 61 83 = some (.getfield 21) := rfl
set_option maxRecDepth 100000 in
theorem yb8s_86 : j_code jP 61 86 = some (.iconst 0) := rfl
set_option maxRecDepth 100000 in
theorem yb8s_87 : j_code jP 61 87 = some (.aload_n 0) := rfl
set_option maxRecDepth 100000 in
theorem yb8s_88 : j_code jP 61 88 = some (.getfield 21) := rfl
set_option maxRecDepth 100000 in
theorem yb8s_91 : j_code jP 61 91 = some (.iconst 0) := rfl
set_option maxRecDepth 100000 in
theorem yb8s_92 : j_code jP 61 92 = some (.iconst 5) := rfl
set_option maxRecDepth 100000 in
theorem yb8s_93 : j_code jP 61 93 = some (.invokestatic 84) := rfl
set_option maxRecDepth 100000 in
theorem yb8s_96 : j_code jP 61 96 = some (.aload_n 1) := rfl
set_option maxRecDepth 100000 in
theorem yb8s_97 : j_code jP 61 97 = some (.getfield 24) := rfl
set_option maxRecDepth 100000 in
theorem yb8s_100 : j_code jP 61 100 = some (.iconst 0) := rfl
set_option maxRecDepth 100000 in
theorem yb8s_101 : j_code jP 61 101 = some (.aload_n 0) := rfl
set_option maxRecDepth 100000 in
theorem yb8s_102 : j_code jP 61 102 = some (.getfield 24) := rfl
set_option maxRecDepth 100000 in
theorem yb8s_105 : j_code jP 61 105 = some (.iconst 0) := rfl
set_option maxRecDepth 100000 in
theorem yb8s_106 : j_code jP 61 106 = some (.iconst 5) := rfl
set_option maxRecDepth 100000 in
theorem yb8s_107 : j_code jP 61 107 = some (.invokestatic 84) := rfl
set_option maxRecDepth 100000 in
theorem yb8s_110 : j_code jP 61 110 = some (.aload_n 1) := rfl
set_option maxRecDepth 100000 in
theorem yb8s_111 : j_code jP 61 111 = some (.getfield 27) := rfl
set_option maxRecDepth 100000 in
theorem yb8s_114 : j_code jP 61 114 = some (.iconst 0) := rfl
set_option maxRecDepth 100000 in
theorem yb8s_115 : j_code jP 61 115 = some (.aload_n 0) := rfl
set_option maxRecDepth 100000 in
theorem yb8s_116 : j_code jP 61 116 = some (.getfield 27) := rfl
set_option maxRecDepth 100000 in
theorem yb8s_119 : j_code jP 61 119 = some (.iconst 0) := rfl
set_option maxRecDepth 100000 in
theorem yb8s_120 : j_code jP 61 120 = some (.iconst 5) := rfl
set_option maxRecDepth 100000 in
theorem yb8s_121 : j_code jP 61 121 = some (.invokestatic 84) := rfl
set_option maxRecDepth 100000 in
theorem yb8s_124 : j_code jP 61 124 = some (.aload_n 1) := rfl
set_option maxRecDepth 100000 in
theorem yb8s_125 : j_code jP 61 125 = some (.getfield 30) := rfl
set_option maxRecDepth 100000 in
theorem yb8s_128 : j_code jP 61 128 = some (.iconst 0) := rfl
set_option maxRecDepth 100000 in
theorem yb8s_129 : j_code jP 61 129 = some (.aload_n 0) := rfl
set_option maxRecDepth 100000 in
theorem yb8s_130 : j_code jP 61 130 = some (.getfield 30) := rfl
set_option maxRecDepth 100000 in
theorem yb8s_133 : j_code jP 61 133 = some (.iconst 0) := rfl
set_option maxRecDepth 100000 in
theorem yb8s_134 : j_code jP 61 134 = some (.iconst 5) := rfl
set_option maxRecDepth 100000 in
theorem yb8s_135 : j_code jP 61 135 = some (.invokestatic 84) := rfl
set_option maxRecDepth 100000 in
theorem yb8s_138 : j_code jP 61 138 = some (.aload_n 1) := rfl
set_option maxRecDepth 100000 in
theorem yb8s_139 : j_code jP 61 139 = some (.getfield 33) := rfl
set_option maxRecDepth 100000 in
theorem yb8s_142 : j_code jP 61 142 = some (.iconst 0) := rfl
set_option maxRecDepth 100000 in
theorem yb8s_143 : j_code jP 61 143 = some (.aload_n 0) := rfl
set_option maxRecDepth 100000 in
theorem yb8s_144 : j_code jP 61 144 = some (.getfield 33) := rfl
set_option maxRecDepth 100000 in
theorem yb8s_147 : j_code jP 61 147 = some (.iconst 0) := rfl
set_option maxRecDepth 100000 in
theorem yb8s_148 : j_code jP 61 148 = some (.bipush 6) := rfl
set_option maxRecDepth 100000 in
theorem yb8s_150 : j_code jP 61 150 = some (.invokestatic 84) := rfl
set_option maxRecDepth 100000 in
theorem yb8s_153 : j_code jP 61 153 = some (.aload_n 1) := rfl
set_option maxRecDepth 100000 in
theorem yb8s_154 : j_code jP 61 154 = some (.getfield 36) := rfl
set_option maxRecDepth 100000 in
theorem yb8s_157 : j_code jP 61 157 = some (.iconst 0) := rfl
set_option maxRecDepth 100000 in
theorem yb8s_158 : j_code jP 61 158 = some (.aload_n 0) := rfl
set_option maxRecDepth 100000 in
theorem yb8s_159 : j_code jP 61 159 = some (.getfield 36) := rfl
set_option maxRecDepth 100000 in
theorem yb8s_162 : j_code jP 61 162 = some (.iconst 0) := rfl
set_option maxRecDepth 100000 in
theorem yb8s_163 : j_code jP 61 163 = some (.bipush 6) := rfl
set_option maxRecDepth 100000 in
theorem yb8s_165 : j_code jP 61 165 = some (.invokestatic 84) := rfl
set_option maxRecDepth 100000 in
theorem yb8s_168 : j_code jP 61 168 = some (.aload_n 1) := rfl
set_option maxRecDepth 100000 in
theorem yb8s_169 : j_code jP 61 169 = some (.getfield 39) := rfl
set_option maxRecDepth 100000 in
theorem yb8s_172 : j_code jP 61 172 = some (.iconst 0) := rfl
set_option maxRecDepth 100000 in
theorem yb8s_173 : j_code jP 61 173 = some (.aload_n 0) := rfl
set_option maxRecDepth 100000 in
theorem yb8s_174 : j_code jP 61 174 = some (.getfield 39) := rfl
set_option maxRecDepth 100000 in
theorem yb8s_177 : j_code jP 61 177 = some (.iconst 0) := rfl
set_option maxRecDepth 100000 in
theorem yb8s_178 : j_code jP 61 178 = some (.aload_n 0) := rfl
set_option maxRecDepth 100000 in
theorem yb8s_179 : j_code jP 61 179 = some (.getfield 39) := rfl
set_option maxRecDepth 100000 in
theorem yb8s_182 : j_code jP 61 182 = some (.arraylength) := rfl
set_option maxRecDepth 100000 in
theorem yb8s_183 : j_code jP 61 183 = some (.invokestatic 84) := rfl
set_option maxRecDepth 100000 in
theorem yb8s_186 : j_code jP 61 186 = some (.aload_n 1) := rfl
set_option maxRecDepth 100000 in
theorem yb8s_187 : j_code jP 61 187 = some (.getfield 42) := rfl
set_option maxRecDepth 100000 in
theorem yb8s_190 : j_code jP 61 190 = some (.iconst 0) := rfl
set_option maxRecDepth 100000 in
theorem yb8s_191 : j_code jP 61 191 = some (.aload_n 0) := rfl
set_option maxRecDepth 100000 in
theorem yb8s_192 : j_code jP 61 192 = some (.getfield 42) := rfl
set_option maxRecDepth 100000 in
theorem yb8s_195 : j_code jP 61 195 = some (.iconst 0) := rfl
set_option maxRecDepth 100000 in
theorem yb8s_196 : j_code jP 61 196 = some (.aload_n 0) := rfl
set_option maxRecDepth 100000 in
theorem yb8s_197 : j_code jP 61 197 = some (.getfield 42) := rfl
set_option maxRecDepth 100000 in
theorem yb8s_200 : j_code jP 61 200 = some (.arraylength) := rfl
set_option maxRecDepth 100000 in
theorem yb8s_201 : j_code jP 61 201 = some (.invokestatic 84) := rfl
set_option maxRecDepth 100000 in
theorem yb8s_204 : j_code jP 61 204 = some (.aload_n 1) := rfl
set_option maxRecDepth 100000 in
theorem yb8s_205 : j_code jP 61 205 = some (.getfield 45) := rfl
set_option maxRecDepth 100000 in
theorem yb8s_208 : j_code jP 61 208 = some (.iconst 0) := rfl
set_option maxRecDepth 100000 in
theorem yb8s_209 : j_code jP 61 209 = some (.aload_n 0) := rfl
set_option maxRecDepth 100000 in
theorem yb8s_210 : j_code jP 61 210 = some (.getfield 45) := rfl
set_option maxRecDepth 100000 in
theorem yb8s_213 : j_code jP 61 213 = some (.iconst 0) := rfl
set_option maxRecDepth 100000 in
theorem yb8s_214 : j_code jP 61 214 = some (.aload_n 0) := rfl
set_option maxRecDepth 100000 in
theorem yb8s_215 : j_code jP 61 215 = some (.getfield 45) := rfl
set_option maxRecDepth 100000 in
theorem yb8s_218 : j_code jP 61 218 = some (.arraylength) := rfl
set_option maxRecDepth 100000 in
theorem yb8s_219 : j_code jP 61 219 = some (.invokestatic 84) := rfl
set_option maxRecDepth 100000 in
theorem yb8s_222 : j_code jP 61 222 = some (.aload_n 0) := rfl
set_option maxRecDepth 100000 in
theorem yb8s_223 : j_code jP 61 223 = some (.getfield 60) := rfl
set_option maxRecDepth 100000 in
theorem yb8s_226 : j_code jP 61 226 = some (.aload_n 1) := rfl
set_option maxRecDepth 100000 in
theorem yb8s_227 : j_code jP 61 227 = some (.getfield 60) := rfl
set_option maxRecDepth 100000 in
theorem yb8s_230 : j_code jP 61 230 = some (.invokevirtual 108) := rfl
set_option maxRecDepth 100000 in
theorem yb8s_233 : j_code jP 61 233 = some (.return_) := rfl
set_option maxRecDepth 1000000 in
theorem yb8s_k0 {ly : Value} {mi : Int32} {shu : Int32} {bus : Int32} {lks : Int32} {lys : Nat} {mis : Int32} {shus : Int32} {buss : Int32} {lkss : Int32} {d : Nat} {lv : J_L} {h h0 : J_H} {Q : Option Value → J_H → Prop} (L : LK lv [(0, .ref 4), (1, .ref 231)]) (K : KN h [(4, .inl (7, [ly, .int mi, .int shu, .int bus, .ref 5, .ref 6, .ref 7, .ref 8, .ref 9, .ref 10, .ref 11, .ref 12, .ref 13, .ref 14, .ref 15, .int lks, .ref 16, .ref 17, .ref 20])), (231, .inl (7, [.ref lys, .int mis, .int shus, .int buss, .ref 232, .ref 233, .ref 234, .ref 235, .ref 236, .ref 237, .ref 238, .ref 239, .ref 240, .ref 241, .ref 242, .int lkss, .ref 243, .ref 244, .ref 247]))] h0) (kk : ∀ lv h, LK lv [(0, .ref 4), (1, .ref 231)] → KN h [(4, .inl (7, [.ref lys, .int mis, .int shus, .int buss, .ref 5, .ref 6, .ref 7, .ref 8, .ref 9, .ref 10, .ref 11, .ref 12, .ref 13, .ref 14, .ref 15, .int lkss, .ref 16, .ref 17, .ref 20])), (231, .inl (7, [.ref lys, .int mis, .int shus, .int buss, .ref 232, .ref 233, .ref 234, .ref 235, .ref 236, .ref 237, .ref 238, .ref 239, .ref 240, .ref 241, .ref 242, .int lkss, .ref 243, .ref 244, .ref 247]))] h0 → j_V jP d 61 40 lv [] h Q) : j_V jP d 61 0 lv [] h Q := by
  refine j_V.ldL yb8s_M yb8s_0 rfl (i := 0) (kd := 2) (v := .ref 4) (pcJ := 1) rfl L rfl rfl rfl ?_
  refine j_V.ldL yb8s_M yb8s_1 rfl (i := 1) (kd := 2) (v := .ref 231) (pcJ := 2) rfl L rfl rfl rfl ?_
  refine j_V.getK yb8s_M yb8s_2 (ci := 7) (j := 0) rfl K rfl rfl ?_
  refine j_V.putK yb8s_M yb8s_5 (ci := 7) (j := 0) (k' := [(4, .inl (7, [.ref lys, .int mi, .int shu, .int bus, .ref 5, .ref 6, .ref 7, .ref 8, .ref 9, .ref 10, .ref 11, .ref 12, .ref 13, .ref 14, .ref 15, .int lks, .ref 16, .ref 17, .ref 20])), (231, .inl (7, [.ref lys, .int mis, .int shus, .int buss, .ref 232, .ref 233, .ref 234, .ref 235, .ref 236, .ref 237, .ref 238, .ref 239, .ref 240, .ref 241, .ref 242, .int lkss, .ref 243, .ref 244, .ref 247]))]) rfl K rfl (Nat.le_of_ble_eq_true rfl) rfl (Or.inl rfl) rfl rfl (fun h K => ?_)
  refine j_V.ldL yb8s_M yb8s_8 rfl (i := 0) (kd := 2) (v := .ref 4) (pcJ := 9) rfl L rfl rfl rfl ?_
  refine j_V.ldL yb8s_M yb8s_9 rfl (i := 1) (kd := 2) (v := .ref 231) (pcJ := 10) rfl L rfl rfl rfl ?_
  refine j_V.getK yb8s_M yb8s_10 (ci := 7) (j := 1) rfl K rfl rfl ?_
  refine j_V.putK yb8s_M yb8s_13 (ci := 7) (j := 1) (k' := [(4, .inl (7, [.ref lys, .int mis, .int shu, .int bus, .ref 5, .ref 6, .ref 7, .ref 8, .ref 9, .ref 10, .ref 11, .ref 12, .ref 13, .ref 14, .ref 15, .int lks, .ref 16, .ref 17, .ref 20])), (231, .inl (7, [.ref lys, .int mis, .int shus, .int buss, .ref 232, .ref 233, .ref 234, .ref 235, .ref 236, .ref 237, .ref 238, .ref 239, .ref 240, .ref 241, .ref 242, .int lkss, .ref 243, .ref 244, .ref 247]))]) rfl K rfl (Nat.le_of_ble_eq_true rfl) rfl (Or.inl rfl) rfl rfl (fun h K => ?_)
  refine j_V.ldL yb8s_M yb8s_16 rfl (i := 0) (kd := 2) (v := .ref 4) (pcJ := 17) rfl L rfl rfl rfl ?_
  refine j_V.ldL yb8s_M yb8s_17 rfl (i := 1) (kd := 2) (v := .ref 231) (pcJ := 18) rfl L rfl rfl rfl ?_
  refine j_V.getK yb8s_M yb8s_18 (ci := 7) (j := 2) rfl K rfl rfl ?_
  refine j_V.putK yb8s_M yb8s_21 (ci := 7) (j := 2) (k' := [(4, .inl (7, [.ref lys, .int mis, .int shus, .int bus, .ref 5, .ref 6, .ref 7, .ref 8, .ref 9, .ref 10, .ref 11, .ref 12, .ref 13, .ref 14, .ref 15, .int lks, .ref 16, .ref 17, .ref 20])), (231, .inl (7, [.ref lys, .int mis, .int shus, .int buss, .ref 232, .ref 233, .ref 234, .ref 235, .ref 236, .ref 237, .ref 238, .ref 239, .ref 240, .ref 241, .ref 242, .int lkss, .ref 243, .ref 244, .ref 247]))]) rfl K rfl (Nat.le_of_ble_eq_true rfl) rfl (Or.inl rfl) rfl rfl (fun h K => ?_)
  refine j_V.ldL yb8s_M yb8s_24 rfl (i := 0) (kd := 2) (v := .ref 4) (pcJ := 25) rfl L rfl rfl rfl ?_
  refine j_V.ldL yb8s_M yb8s_25 rfl (i := 1) (kd := 2) (v := .ref 231) (pcJ := 26) rfl L rfl rfl rfl ?_
  refine j_V.getK yb8s_M yb8s_26 (ci := 7) (j := 3) rfl K rfl rfl ?_
  refine j_V.putK yb8s_M yb8s_29 (ci := 7) (j := 3) (k' := [(4, .inl (7, [.ref lys, .int mis, .int shus, .int buss, .ref 5, .ref 6, .ref 7, .ref 8, .ref 9, .ref 10, .ref 11, .ref 12, .ref 13, .ref 14, .ref 15, .int lks, .ref 16, .ref 17, .ref 20])), (231, .inl (7, [.ref lys, .int mis, .int shus, .int buss, .ref 232, .ref 233, .ref 234, .ref 235, .ref 236, .ref 237, .ref 238, .ref 239, .ref 240, .ref 241, .ref 242, .int lkss, .ref 243, .ref 244, .ref 247]))]) rfl K rfl (Nat.le_of_ble_eq_true rfl) rfl (Or.inl rfl) rfl rfl (fun h K => ?_)
  refine j_V.ldL yb8s_M yb8s_32 rfl (i := 0) (kd := 2) (v := .ref 4) (pcJ := 33) rfl L rfl rfl rfl ?_
  refine j_V.ldL yb8s_M yb8s_33 rfl (i := 1) (kd := 2) (v := .ref 231) (pcJ := 34) rfl L rfl rfl rfl ?_
  refine j_V.getK yb8s_M yb8s_34 (ci := 7) (j := 15) rfl K rfl rfl ?_
  refine j_V.putK yb8s_M yb8s_37 (ci := 7) (j := 15) (k' := [(4, .inl (7, [.ref lys, .int mis, .int shus, .int buss, .ref 5, .ref 6, .ref 7, .ref 8, .ref 9, .ref 10, .ref 11, .ref 12, .ref 13, .ref 14, .ref 15, .int lkss, .ref 16, .ref 17, .ref 20])), (231, .inl (7, [.ref lys, .int mis, .int shus, .int buss, .ref 232, .ref 233, .ref 234, .ref 235, .ref 236, .ref 237, .ref 238, .ref 239, .ref 240, .ref 241, .ref 242, .int lkss, .ref 243, .ref 244, .ref 247]))]) rfl K rfl (Nat.le_of_ble_eq_true rfl) rfl (Or.inl rfl) rfl rfl (fun h K => ?_)
  exact kk _ _ L K
set_option maxRecDepth 1000000 in
theorem yb8s_k40 {rk : List Int32} {sta : List Int32} {ph : List Int32} {lys : Nat} {mis : Int32} {shus : Int32} {buss : Int32} {lkss : Int32} {rks : List Int32} {stas : List Int32} {phs : List Int32} {d : Nat} {lv : J_L} {h h0 : J_H} {Q : Option Value → J_H → Prop} (L : LK lv [(0, .ref 4), (1, .ref 231)]) (K : KN h [(4, .inl (7, [.ref lys, .int mis, .int shus, .int buss, .ref 5, .ref 6, .ref 7, .ref 8, .ref 9, .ref 10, .ref 11, .ref 12, .ref 13, .ref 14, .ref 15, .int lkss, .ref 16, .ref 17, .ref 20])), (5, .inr (.inl (0, rk))), (6, .inr (.inl (0, sta))), (7, .inr (.inl (0, ph))), (231, .inl (7, [.ref lys, .int mis, .int shus, .int buss, .ref 232, .ref 233, .ref 234, .ref 235, .ref 236, .ref 237, .ref 238, .ref 239, .ref 240, .ref 241, .ref 242, .int lkss, .ref 243, .ref 244, .ref 247])), (232, .inr (.inl (0, rks))), (233, .inr (.inl (0, stas))), (234, .inr (.inl (0, phs)))] h0) (kk : ∀ lv h, LK lv [(0, .ref 4), (1, .ref 231)] → KN h [(4, .inl (7, [.ref lys, .int mis, .int shus, .int buss, .ref 5, .ref 6, .ref 7, .ref 8, .ref 9, .ref 10, .ref 11, .ref 12, .ref 13, .ref 14, .ref 15, .int lkss, .ref 16, .ref 17, .ref 20])), (5, .inr (.inl (0, (aC 5 rks rk)))), (6, .inr (.inl (0, (aC 5 stas sta)))), (7, .inr (.inl (0, (aC 5 phs ph)))), (231, .inl (7, [.ref lys, .int mis, .int shus, .int buss, .ref 232, .ref 233, .ref 234, .ref 235, .ref 236, .ref 237, .ref 238, .ref 239, .ref 240, .ref 241, .ref 242, .int lkss, .ref 243, .ref 244, .ref 247])), (232, .inr (.inl (0, rks))), (233, .inr (.inl (0, stas))), (234, .inr (.inl (0, phs)))] h0 → j_V jP d 61 82 lv [] h Q) : j_V jP d 61 40 lv [] h Q := by
  refine j_V.ldL yb8s_M yb8s_40 rfl (i := 1) (kd := 2) (v := .ref 231) (pcJ := 41) rfl L rfl rfl rfl ?_
  refine j_V.getK yb8s_M yb8s_41 (ci := 7) (j := 4) rfl K rfl rfl ?_
  refine j_V.one yb8s_M yb8s_44 (by decide) (pcJ := 45) (stJ := [.int 0, .ref 232]) rfl ?_
  refine j_V.ldL yb8s_M yb8s_45 rfl (i := 0) (kd := 2) (v := .ref 4) (pcJ := 46) rfl L rfl rfl rfl ?_
  refine j_V.getK yb8s_M yb8s_46 (ci := 7) (j := 4) rfl K rfl rfl ?_
  refine j_V.one yb8s_M yb8s_49 (by decide) (pcJ := 50) (stJ := [.int 0, .ref 5, .int 0, .ref 232]) rfl ?_
  refine j_V.one yb8s_M yb8s_50 (by decide) (pcJ := 51) (stJ := [.int 5, .int 0, .ref 5, .int 0, .ref 232]) rfl ?_
  refine j_V.acp yb8s_M yb8s_51 rfl rfl K rfl rfl rfl (fun h K => ?_)
  refine j_V.ldL yb8s_M yb8s_54 rfl (i := 1) (kd := 2) (v := .ref 231) (pcJ := 55) rfl L rfl rfl rfl ?_
  refine j_V.getK yb8s_M yb8s_55 (ci := 7) (j := 5) rfl K rfl rfl ?_
  refine j_V.one yb8s_M yb8s_58 (by decide) (pcJ := 59) (stJ := [.int 0, .ref 233]) rfl ?_
  refine j_V.ldL yb8s_M yb8s_59 rfl (i := 0) (kd := 2) (v := .ref 4) (pcJ := 60) rfl L rfl rfl rfl ?_
  refine j_V.getK yb8s_M yb8s_60 (ci := 7) (j := 5) rfl K rfl rfl ?_
  refine j_V.one yb8s_M yb8s_63 (by decide) (pcJ := 64) (stJ := [.int 0, .ref 6, .int 0, .ref 233]) rfl ?_
  refine j_V.one yb8s_M yb8s_64 (by decide) (pcJ := 65) (stJ := [.int 5, .int 0, .ref 6, .int 0, .ref 233]) rfl ?_
  refine j_V.acp yb8s_M yb8s_65 rfl rfl K rfl rfl rfl (fun h K => ?_)
  refine j_V.ldL yb8s_M yb8s_68 rfl (i := 1) (kd := 2) (v := .ref 231) (pcJ := 69) rfl L rfl rfl rfl ?_
  refine j_V.getK yb8s_M yb8s_69 (ci := 7) (j := 6) rfl K rfl rfl ?_
  refine j_V.one yb8s_M yb8s_72 (by decide) (pcJ := 73) (stJ := [.int 0, .ref 234]) rfl ?_
  refine j_V.ldL yb8s_M yb8s_73 rfl (i := 0) (kd := 2) (v := .ref 4) (pcJ := 74) rfl L rfl rfl rfl ?_
  refine j_V.getK yb8s_M yb8s_74 (ci := 7) (j := 6) rfl K rfl rfl ?_
  refine j_V.one yb8s_M yb8s_77 (by decide) (pcJ := 78) (stJ := [.int 0, .ref 7, .int 0, .ref 234]) rfl ?_
  refine j_V.one yb8s_M yb8s_78 (by decide) (pcJ := 79) (stJ := [.int 5, .int 0, .ref 7, .int 0, .ref 234]) rfl ?_
  refine j_V.acp yb8s_M yb8s_79 rfl rfl K rfl rfl rfl (fun h K => ?_)
  exact kk _ _ L K
set_option maxRecDepth 1000000 in
theorem yb8s_k82 {sp : List Int32} {ce : List Int32} {du : List Int32} {lys : Nat} {mis : Int32} {shus : Int32} {buss : Int32} {lkss : Int32} {sps : List Int32} {ces : List Int32} {dus : List Int32} {d : Nat} {lv : J_L} {h h0 : J_H} {Q : Option Value → J_H → Prop} (L : LK lv [(0, .ref 4), (1, .ref 231)]) (K : KN h [(4, .inl (7, [.ref lys, .int mis, .int shus, .int buss, .ref 5, .ref 6, .ref 7, .ref 8, .ref 9, .ref 10, .ref 11, .ref 12, .ref 13, .ref 14, .ref 15, .int lkss, .ref 16, .ref 17, .ref 20])), (8, .inr (.inl (0, sp))), (9, .inr (.inl (0, ce))), (10, .inr (.inl (0, du))), (231, .inl (7, [.ref lys, .int mis, .int shus, .int buss, .ref 232, .ref 233, .ref 234, .ref 235, .ref 236, .ref 237, .ref 238, .ref 239, .ref 240, .ref 241, .ref 242, .int lkss, .ref 243, .ref 244, .ref 247])), (235, .inr (.inl (0, sps))), (236, .inr (.inl (0, ces))), (237, .inr (.inl (0, dus)))] h0) (kk : ∀ lv h, LK lv [(0, .ref 4), (1, .ref 231)] → KN h [(4, .inl (7, [.ref lys, .int mis, .int shus, .int buss, .ref 5, .ref 6, .ref 7, .ref 8, .ref 9, .ref 10, .ref 11, .ref 12, .ref 13, .ref 14, .ref 15, .int lkss, .ref 16, .ref 17, .ref 20])), (8, .inr (.inl (0, (aC 5 sps sp)))), (9, .inr (.inl (0, (aC 5 ces ce)))), (10, .inr (.inl (0, (aC 5 dus du)))), (231, .inl (7, [.ref lys, .int mis, .int shus, .int buss, .ref 232, .ref 233, .ref 234, .ref 235, .ref 236, .ref 237, .ref 238, .ref 239, .ref 240, .ref 241, .ref 242, .int lkss, .ref 243, .ref 244, .ref 247])), (235, .inr (.inl (0, sps))), (236, .inr (.inl (0, ces))), (237, .inr (.inl (0, dus)))] h0 → j_V jP d 61 124 lv [] h Q) : j_V jP d 61 82 lv [] h Q := by
  refine j_V.ldL yb8s_M yb8s_82 rfl (i := 1) (kd := 2) (v := .ref 231) (pcJ := 83) rfl L rfl rfl rfl ?_
  refine j_V.getK yb8s_M yb8s_83 (ci := 7) (j := 7) rfl K rfl rfl ?_
  refine j_V.one yb8s_M yb8s_86 (by decide) (pcJ := 87) (stJ := [.int 0, .ref 235]) rfl ?_
  refine j_V.ldL yb8s_M yb8s_87 rfl (i := 0) (kd := 2) (v := .ref 4) (pcJ := 88) rfl L rfl rfl rfl ?_
  refine j_V.getK yb8s_M yb8s_88 (ci := 7) (j := 7) rfl K rfl rfl ?_
  refine j_V.one yb8s_M yb8s_91 (by decide) (pcJ := 92) (stJ := [.int 0, .ref 8, .int 0, .ref 235]) rfl ?_
  refine j_V.one yb8s_M yb8s_92 (by decide) (pcJ := 93) (stJ := [.int 5, .int 0, .ref 8, .int 0, .ref 235]) rfl ?_
  refine j_V.acp yb8s_M yb8s_93 rfl rfl K rfl rfl rfl (fun h K => ?_)
  refine j_V.ldL yb8s_M yb8s_96 rfl (i := 1) (kd := 2) (v := .ref 231) (pcJ := 97) rfl L rfl rfl rfl ?_
  refine j_V.getK yb8s_M yb8s_97 (ci := 7) (j := 8) rfl K rfl rfl ?_
  refine j_V.one yb8s_M yb8s_100 (by decide) (pcJ := 101) (stJ := [.int 0, .ref 236]) rfl ?_
  refine j_V.ldL yb8s_M yb8s_101 rfl (i := 0) (kd := 2) (v := .ref 4) (pcJ := 102) rfl L rfl rfl rfl ?_
  refine j_V.getK yb8s_M yb8s_102 (ci := 7) (j := 8) rfl K rfl rfl ?_
  refine j_V.one yb8s_M yb8s_105 (by decide) (pcJ := 106) (stJ := [.int 0, .ref 9, .int 0, .ref 236]) rfl ?_
  refine j_V.one yb8s_M yb8s_106 (by decide) (pcJ := 107) (stJ := [.int 5, .int 0, .ref 9, .int 0, .ref 236]) rfl ?_
  refine j_V.acp yb8s_M yb8s_107 rfl rfl K rfl rfl rfl (fun h K => ?_)
  refine j_V.ldL yb8s_M yb8s_110 rfl (i := 1) (kd := 2) (v := .ref 231) (pcJ := 111) rfl L rfl rfl rfl ?_
  refine j_V.getK yb8s_M yb8s_111 (ci := 7) (j := 9) rfl K rfl rfl ?_
  refine j_V.one yb8s_M yb8s_114 (by decide) (pcJ := 115) (stJ := [.int 0, .ref 237]) rfl ?_
  refine j_V.ldL yb8s_M yb8s_115 rfl (i := 0) (kd := 2) (v := .ref 4) (pcJ := 116) rfl L rfl rfl rfl ?_
  refine j_V.getK yb8s_M yb8s_116 (ci := 7) (j := 9) rfl K rfl rfl ?_
  refine j_V.one yb8s_M yb8s_119 (by decide) (pcJ := 120) (stJ := [.int 0, .ref 10, .int 0, .ref 237]) rfl ?_
  refine j_V.one yb8s_M yb8s_120 (by decide) (pcJ := 121) (stJ := [.int 5, .int 0, .ref 10, .int 0, .ref 237]) rfl ?_
  refine j_V.acp yb8s_M yb8s_121 rfl rfl K rfl rfl rfl (fun h K => ?_)
  exact kk _ _ L K
set_option maxRecDepth 1000000 in
theorem yb8s_k124 {he : List Int32} {ri : List Int32} {us : List Int32} {lys : Nat} {mis : Int32} {shus : Int32} {buss : Int32} {lkss : Int32} {hes : List Int32} {ris : List Int32} {uss : List Int32} {d : Nat} {lv : J_L} {h h0 : J_H} {Q : Option Value → J_H → Prop} (L : LK lv [(0, .ref 4), (1, .ref 231)]) (K : KN h [(4, .inl (7, [.ref lys, .int mis, .int shus, .int buss, .ref 5, .ref 6, .ref 7, .ref 8, .ref 9, .ref 10, .ref 11, .ref 12, .ref 13, .ref 14, .ref 15, .int lkss, .ref 16, .ref 17, .ref 20])), (11, .inr (.inl (0, he))), (12, .inr (.inl (0, ri))), (13, .inr (.inl (0, us))), (231, .inl (7, [.ref lys, .int mis, .int shus, .int buss, .ref 232, .ref 233, .ref 234, .ref 235, .ref 236, .ref 237, .ref 238, .ref 239, .ref 240, .ref 241, .ref 242, .int lkss, .ref 243, .ref 244, .ref 247])), (238, .inr (.inl (0, hes))), (239, .inr (.inl (0, ris))), (240, .inr (.inl (0, uss)))] h0) (kk : ∀ lv h, LK lv [(0, .ref 4), (1, .ref 231)] → KN h [(4, .inl (7, [.ref lys, .int mis, .int shus, .int buss, .ref 5, .ref 6, .ref 7, .ref 8, .ref 9, .ref 10, .ref 11, .ref 12, .ref 13, .ref 14, .ref 15, .int lkss, .ref 16, .ref 17, .ref 20])), (11, .inr (.inl (0, (aC 5 hes he)))), (12, .inr (.inl (0, (aC 6 ris ri)))), (13, .inr (.inl (0, (aC 6 uss us)))), (231, .inl (7, [.ref lys, .int mis, .int shus, .int buss, .ref 232, .ref 233, .ref 234, .ref 235, .ref 236, .ref 237, .ref 238, .ref 239, .ref 240, .ref 241, .ref 242, .int lkss, .ref 243, .ref 244, .ref 247])), (238, .inr (.inl (0, hes))), (239, .inr (.inl (0, ris))), (240, .inr (.inl (0, uss)))] h0 → j_V jP d 61 168 lv [] h Q) : j_V jP d 61 124 lv [] h Q := by
  refine j_V.ldL yb8s_M yb8s_124 rfl (i := 1) (kd := 2) (v := .ref 231) (pcJ := 125) rfl L rfl rfl rfl ?_
  refine j_V.getK yb8s_M yb8s_125 (ci := 7) (j := 10) rfl K rfl rfl ?_
  refine j_V.one yb8s_M yb8s_128 (by decide) (pcJ := 129) (stJ := [.int 0, .ref 238]) rfl ?_
  refine j_V.ldL yb8s_M yb8s_129 rfl (i := 0) (kd := 2) (v := .ref 4) (pcJ := 130) rfl L rfl rfl rfl ?_
  refine j_V.getK yb8s_M yb8s_130 (ci := 7) (j := 10) rfl K rfl rfl ?_
  refine j_V.one yb8s_M yb8s_133 (by decide) (pcJ := 134) (stJ := [.int 0, .ref 11, .int 0, .ref 238]) rfl ?_
  refine j_V.one yb8s_M yb8s_134 (by decide) (pcJ := 135) (stJ := [.int 5, .int 0, .ref 11, .int 0, .ref 238]) rfl ?_
  refine j_V.acp yb8s_M yb8s_135 rfl rfl K rfl rfl rfl (fun h K => ?_)
  refine j_V.ldL yb8s_M yb8s_138 rfl (i := 1) (kd := 2) (v := .ref 231) (pcJ := 139) rfl L rfl rfl rfl ?_
  refine j_V.getK yb8s_M yb8s_139 (ci := 7) (j := 11) rfl K rfl rfl ?_
  refine j_V.one yb8s_M yb8s_142 (by decide) (pcJ := 143) (stJ := [.int 0, .ref 239]) rfl ?_
  refine j_V.ldL yb8s_M yb8s_143 rfl (i := 0) (kd := 2) (v := .ref 4) (pcJ := 144) rfl L rfl rfl rfl ?_
  refine j_V.getK yb8s_M yb8s_144 (ci := 7) (j := 11) rfl K rfl rfl ?_
  refine j_V.one yb8s_M yb8s_147 (by decide) (pcJ := 148) (stJ := [.int 0, .ref 12, .int 0, .ref 239]) rfl ?_
  refine j_V.one yb8s_M yb8s_148 (by decide) (pcJ := 150) (stJ := [.int 6, .int 0, .ref 12, .int 0, .ref 239]) rfl ?_
  refine j_V.acp yb8s_M yb8s_150 rfl rfl K rfl rfl rfl (fun h K => ?_)
  refine j_V.ldL yb8s_M yb8s_153 rfl (i := 1) (kd := 2) (v := .ref 231) (pcJ := 154) rfl L rfl rfl rfl ?_
  refine j_V.getK yb8s_M yb8s_154 (ci := 7) (j := 12) rfl K rfl rfl ?_
  refine j_V.one yb8s_M yb8s_157 (by decide) (pcJ := 158) (stJ := [.int 0, .ref 240]) rfl ?_
  refine j_V.ldL yb8s_M yb8s_158 rfl (i := 0) (kd := 2) (v := .ref 4) (pcJ := 159) rfl L rfl rfl rfl ?_
  refine j_V.getK yb8s_M yb8s_159 (ci := 7) (j := 12) rfl K rfl rfl ?_
  refine j_V.one yb8s_M yb8s_162 (by decide) (pcJ := 163) (stJ := [.int 0, .ref 13, .int 0, .ref 240]) rfl ?_
  refine j_V.one yb8s_M yb8s_163 (by decide) (pcJ := 165) (stJ := [.int 6, .int 0, .ref 13, .int 0, .ref 240]) rfl ?_
  refine j_V.acp yb8s_M yb8s_165 rfl rfl K rfl rfl rfl (fun h K => ?_)
  exact kk _ _ L K
set_option maxRecDepth 1000000 in
theorem yb8s_k168 {cm : List Int32} {lf : List Int32} {lkd : List Int32} {lys : Nat} {mis : Int32} {shus : Int32} {buss : Int32} {lkss : Int32} {cms : List Int32} {lfs : List Int32} {lkds : List Int32} {d : Nat} {lv : J_L} {h h0 : J_H} {Q : Option Value → J_H → Prop} (L : LK lv [(0, .ref 4), (1, .ref 231)]) (K : KN h [(4, .inl (7, [.ref lys, .int mis, .int shus, .int buss, .ref 5, .ref 6, .ref 7, .ref 8, .ref 9, .ref 10, .ref 11, .ref 12, .ref 13, .ref 14, .ref 15, .int lkss, .ref 16, .ref 17, .ref 20])), (14, .inr (.inl (0, cm))), (15, .inr (.inl (0, lf))), (16, .inr (.inl (0, lkd))), (231, .inl (7, [.ref lys, .int mis, .int shus, .int buss, .ref 232, .ref 233, .ref 234, .ref 235, .ref 236, .ref 237, .ref 238, .ref 239, .ref 240, .ref 241, .ref 242, .int lkss, .ref 243, .ref 244, .ref 247])), (241, .inr (.inl (0, cms))), (242, .inr (.inl (0, lfs))), (243, .inr (.inl (0, lkds)))] h0) (kk : ∀ lv h, LK lv [(0, .ref 4), (1, .ref 231)] → KN h [(4, .inl (7, [.ref lys, .int mis, .int shus, .int buss, .ref 5, .ref 6, .ref 7, .ref 8, .ref 9, .ref 10, .ref 11, .ref 12, .ref 13, .ref 14, .ref 15, .int lkss, .ref 16, .ref 17, .ref 20])), (14, .inr (.inl (0, (aC (nI cm.length) cms cm)))), (15, .inr (.inl (0, (aC (nI lf.length) lfs lf)))), (16, .inr (.inl (0, (aC (nI lkd.length) lkds lkd)))), (231, .inl (7, [.ref lys, .int mis, .int shus, .int buss, .ref 232, .ref 233, .ref 234, .ref 235, .ref 236, .ref 237, .ref 238, .ref 239, .ref 240, .ref 241, .ref 242, .int lkss, .ref 243, .ref 244, .ref 247])), (241, .inr (.inl (0, cms))), (242, .inr (.inl (0, lfs))), (243, .inr (.inl (0, lkds)))] h0 → j_V jP d 61 222 lv [] h Q) : j_V jP d 61 168 lv [] h Q := by
  refine j_V.ldL yb8s_M yb8s_168 rfl (i := 1) (kd := 2) (v := .ref 231) (pcJ := 169) rfl L rfl rfl rfl ?_
  refine j_V.getK yb8s_M yb8s_169 (ci := 7) (j := 13) rfl K rfl rfl ?_
  refine j_V.one yb8s_M yb8s_172 (by decide) (pcJ := 173) (stJ := [.int 0, .ref 241]) rfl ?_
  refine j_V.ldL yb8s_M yb8s_173 rfl (i := 0) (kd := 2) (v := .ref 4) (pcJ := 174) rfl L rfl rfl rfl ?_
  refine j_V.getK yb8s_M yb8s_174 (ci := 7) (j := 13) rfl K rfl rfl ?_
  refine j_V.one yb8s_M yb8s_177 (by decide) (pcJ := 178) (stJ := [.int 0, .ref 14, .int 0, .ref 241]) rfl ?_
  refine j_V.ldL yb8s_M yb8s_178 rfl (i := 0) (kd := 2) (v := .ref 4) (pcJ := 179) rfl L rfl rfl rfl ?_
  refine j_V.getK yb8s_M yb8s_179 (ci := 7) (j := 13) rfl K rfl rfl ?_
  refine j_V.alnA yb8s_M yb8s_182 K rfl ?_
  refine j_V.acp yb8s_M yb8s_183 rfl rfl K rfl rfl rfl (fun h K => ?_)
  refine j_V.ldL yb8s_M yb8s_186 rfl (i := 1) (kd := 2) (v := .ref 231) (pcJ := 187) rfl L rfl rfl rfl ?_
  refine j_V.getK yb8s_M yb8s_187 (ci := 7) (j := 14) rfl K rfl rfl ?_
  refine j_V.one yb8s_M yb8s_190 (by decide) (pcJ := 191) (stJ := [.int 0, .ref 242]) rfl ?_
  refine j_V.ldL yb8s_M yb8s_191 rfl (i := 0) (kd := 2) (v := .ref 4) (pcJ := 192) rfl L rfl rfl rfl ?_
  refine j_V.getK yb8s_M yb8s_192 (ci := 7) (j := 14) rfl K rfl rfl ?_
  refine j_V.one yb8s_M yb8s_195 (by decide) (pcJ := 196) (stJ := [.int 0, .ref 15, .int 0, .ref 242]) rfl ?_
  refine j_V.ldL yb8s_M yb8s_196 rfl (i := 0) (kd := 2) (v := .ref 4) (pcJ := 197) rfl L rfl rfl rfl ?_
  refine j_V.getK yb8s_M yb8s_197 (ci := 7) (j := 14) rfl K rfl rfl ?_
  refine j_V.alnA yb8s_M yb8s_200 K rfl ?_
  refine j_V.acp yb8s_M yb8s_201 rfl rfl K rfl rfl rfl (fun h K => ?_)
  refine j_V.ldL yb8s_M yb8s_204 rfl (i := 1) (kd := 2) (v := .ref 231) (pcJ := 205) rfl L rfl rfl rfl ?_
  refine j_V.getK yb8s_M yb8s_205 (ci := 7) (j := 16) rfl K rfl rfl ?_
  refine j_V.one yb8s_M yb8s_208 (by decide) (pcJ := 209) (stJ := [.int 0, .ref 243]) rfl ?_
  refine j_V.ldL yb8s_M yb8s_209 rfl (i := 0) (kd := 2) (v := .ref 4) (pcJ := 210) rfl L rfl rfl rfl ?_
  refine j_V.getK yb8s_M yb8s_210 (ci := 7) (j := 16) rfl K rfl rfl ?_
  refine j_V.one yb8s_M yb8s_213 (by decide) (pcJ := 214) (stJ := [.int 0, .ref 16, .int 0, .ref 243]) rfl ?_
  refine j_V.ldL yb8s_M yb8s_214 rfl (i := 0) (kd := 2) (v := .ref 4) (pcJ := 215) rfl L rfl rfl rfl ?_
  refine j_V.getK yb8s_M yb8s_215 (ci := 7) (j := 16) rfl K rfl rfl ?_
  refine j_V.alnA yb8s_M yb8s_218 K rfl ?_
  refine j_V.acp yb8s_M yb8s_219 rfl rfl K rfl rfl rfl (fun h K => ?_)
  exact kk _ _ L K
set_option maxRecDepth 1000000 in
theorem yb8s_ok {ly : Value} {mi : Int32} {shu : Int32} {bus : Int32} {lks : Int32} {rk : List Int32} {sta : List Int32} {ph : List Int32} {sp : List Int32} {ce : List Int32} {du : List Int32} {he : List Int32} {ri : List Int32} {us : List Int32} {cm : List Int32} {lf : List Int32} {lkd : List Int32} {pev : Int32} {pms : List Int32} {pmm : List Int32} {pmt : List Int32} {pst : List Int32} {pwa : List Int32} {prs : List Int32} {prr : List Int32} {pfa : List Int32} {lys : Nat} {mis : Int32} {shus : Int32} {buss : Int32} {lkss : Int32} {rks : List Int32} {stas : List Int32} {phs : List Int32} {sps : List Int32} {ces : List Int32} {dus : List Int32} {hes : List Int32} {ris : List Int32} {uss : List Int32} {cms : List Int32} {lfs : List Int32} {lkds : List Int32} {pevs : Int32} {pmss : List Int32} {pmms : List Int32} {pmts : List Int32} {psts : List Int32} {pwas : List Int32} {prss : List Int32} {prrs : List Int32} {pfas : List Int32} {d : Nat} {h h0 : J_H} (K : KN h [(4, .inl (7, [ly, .int mi, .int shu, .int bus, .ref 5, .ref 6, .ref 7, .ref 8, .ref 9, .ref 10, .ref 11, .ref 12, .ref 13, .ref 14, .ref 15, .int lks, .ref 16, .ref 17, .ref 20])), (5, .inr (.inl (0, rk))), (6, .inr (.inl (0, sta))), (7, .inr (.inl (0, ph))), (8, .inr (.inl (0, sp))), (9, .inr (.inl (0, ce))), (10, .inr (.inl (0, du))), (11, .inr (.inl (0, he))), (12, .inr (.inl (0, ri))), (13, .inr (.inl (0, us))), (14, .inr (.inl (0, cm))), (15, .inr (.inl (0, lf))), (16, .inr (.inl (0, lkd))), (20, .inl (3, [.ref 21, .ref 22, .ref 23, .ref 24, .ref 25, .ref 26, .ref 27, .ref 28, .int pev, .int 1])), (21, .inr (.inl (0, pms))), (22, .inr (.inl (0, pmm))), (23, .inr (.inl (0, pmt))), (24, .inr (.inl (0, pst))), (25, .inr (.inl (0, pwa))), (26, .inr (.inl (0, prs))), (27, .inr (.inl (0, prr))), (28, .inr (.inl (0, pfa))), (231, .inl (7, [.ref lys, .int mis, .int shus, .int buss, .ref 232, .ref 233, .ref 234, .ref 235, .ref 236, .ref 237, .ref 238, .ref 239, .ref 240, .ref 241, .ref 242, .int lkss, .ref 243, .ref 244, .ref 247])), (232, .inr (.inl (0, rks))), (233, .inr (.inl (0, stas))), (234, .inr (.inl (0, phs))), (235, .inr (.inl (0, sps))), (236, .inr (.inl (0, ces))), (237, .inr (.inl (0, dus))), (238, .inr (.inl (0, hes))), (239, .inr (.inl (0, ris))), (240, .inr (.inl (0, uss))), (241, .inr (.inl (0, cms))), (242, .inr (.inl (0, lfs))), (243, .inr (.inl (0, lkds))), (247, .inl (3, [.ref 248, .ref 249, .ref 250, .ref 251, .ref 252, .ref 253, .ref 254, .ref 255, .int pevs, .int 1])), (248, .inr (.inl (0, pmss))), (249, .inr (.inl (0, pmms))), (250, .inr (.inl (0, pmts))), (251, .inr (.inl (0, psts))), (252, .inr (.inl (0, pwas))), (253, .inr (.inl (0, prss))), (254, .inr (.inl (0, prrs))), (255, .inr (.inl (0, pfas)))] h0) : j_V jP d 61 0 (lv_args 0 [.ref 4, .ref 231]) [] h (fun rv h' => rv = none ∧ KN h' [(4, .inl (7, [.ref lys, .int mis, .int shus, .int buss, .ref 5, .ref 6, .ref 7, .ref 8, .ref 9, .ref 10, .ref 11, .ref 12, .ref 13, .ref 14, .ref 15, .int lkss, .ref 16, .ref 17, .ref 20])), (5, .inr (.inl (0, (aC 5 rks rk)))), (6, .inr (.inl (0, (aC 5 stas sta)))), (7, .inr (.inl (0, (aC 5 phs ph)))), (8, .inr (.inl (0, (aC 5 sps sp)))), (9, .inr (.inl (0, (aC 5 ces ce)))), (10, .inr (.inl (0, (aC 5 dus du)))), (11, .inr (.inl (0, (aC 5 hes he)))), (12, .inr (.inl (0, (aC 6 ris ri)))), (13, .inr (.inl (0, (aC 6 uss us)))), (14, .inr (.inl (0, (aC (nI cm.length) cms cm)))), (15, .inr (.inl (0, (aC (nI lf.length) lfs lf)))), (16, .inr (.inl (0, (aC (nI lkd.length) lkds lkd)))), (20, .inl (3, [.ref 21, .ref 22, .ref 23, .ref 24, .ref 25, .ref 26, .ref 27, .ref 28, .int pevs, .int 1])), (21, .inr (.inl (0, (aC (nI pms.length) pmss pms)))), (22, .inr (.inl (0, (aC (nI pmm.length) pmms pmm)))), (23, .inr (.inl (0, (aC (nI pmt.length) pmts pmt)))), (24, .inr (.inl (0, (aC (nI pst.length) psts pst)))), (25, .inr (.inl (0, (aC (nI pwa.length) pwas pwa)))), (26, .inr (.inl (0, (aC (nI prs.length) prss prs)))), (27, .inr (.inl (0, (aC (nI prr.length) prrs prr)))), (28, .inr (.inl (0, (aC (nI pfa.length) pfas pfa)))), (231, .inl (7, [.ref lys, .int mis, .int shus, .int buss, .ref 232, .ref 233, .ref 234, .ref 235, .ref 236, .ref 237, .ref 238, .ref 239, .ref 240, .ref 241, .ref 242, .int lkss, .ref 243, .ref 244, .ref 247])), (232, .inr (.inl (0, rks))), (233, .inr (.inl (0, stas))), (234, .inr (.inl (0, phs))), (235, .inr (.inl (0, sps))), (236, .inr (.inl (0, ces))), (237, .inr (.inl (0, dus))), (238, .inr (.inl (0, hes))), (239, .inr (.inl (0, ris))), (240, .inr (.inl (0, uss))), (241, .inr (.inl (0, cms))), (242, .inr (.inl (0, lfs))), (243, .inr (.inl (0, lkds))), (247, .inl (3, [.ref 248, .ref 249, .ref 250, .ref 251, .ref 252, .ref 253, .ref 254, .ref 255, .int pevs, .int 1])), (248, .inr (.inl (0, pmss))), (249, .inr (.inl (0, pmms))), (250, .inr (.inl (0, pmts))), (251, .inr (.inl (0, psts))), (252, .inr (.inl (0, pwas))), (253, .inr (.inl (0, prss))), (254, .inr (.inl (0, prrs))), (255, .inr (.inl (0, pfas)))] h0) := by
  show j_V jP d 61 0 [(0, .ref 4), (1, .ref 231)] [] h _
  obtain ⟨lv, elv, L⟩ : ∃ lv, lv = [(0, .ref 4), (1, .ref 231)] ∧ LK lv [(0, .ref 4), (1, .ref 231)] := ⟨_, rfl, LK.rf⟩
  rw [← elv]
  clear elv
  refine yb8s_k0 L (K.fi [4, 231] rfl rfl) (fun lv h9 L K9 => ?_)
  have K : KN h9 [(4, .inl (7, [.ref lys, .int mis, .int shus, .int buss, .ref 5, .ref 6, .ref 7, .ref 8, .ref 9, .ref 10, .ref 11, .ref 12, .ref 13, .ref 14, .ref 15, .int lkss, .ref 16, .ref 17, .ref 20])), (5, .inr (.inl (0, rk))), (6, .inr (.inl (0, sta))), (7, .inr (.inl (0, ph))), (8, .inr (.inl (0, sp))), (9, .inr (.inl (0, ce))), (10, .inr (.inl (0, du))), (11, .inr (.inl (0, he))), (12, .inr (.inl (0, ri))), (13, .inr (.inl (0, us))), (14, .inr (.inl (0, cm))), (15, .inr (.inl (0, lf))), (16, .inr (.inl (0, lkd))), (20, .inl (3, [.ref 21, .ref 22, .ref 23, .ref 24, .ref 25, .ref 26, .ref 27, .ref 28, .int pev, .int 1])), (21, .inr (.inl (0, pms))), (22, .inr (.inl (0, pmm))), (23, .inr (.inl (0, pmt))), (24, .inr (.inl (0, pst))), (25, .inr (.inl (0, pwa))), (26, .inr (.inl (0, prs))), (27, .inr (.inl (0, prr))), (28, .inr (.inl (0, pfa))), (231, .inl (7, [.ref lys, .int mis, .int shus, .int buss, .ref 232, .ref 233, .ref 234, .ref 235, .ref 236, .ref 237, .ref 238, .ref 239, .ref 240, .ref 241, .ref 242, .int lkss, .ref 243, .ref 244, .ref 247])), (232, .inr (.inl (0, rks))), (233, .inr (.inl (0, stas))), (234, .inr (.inl (0, phs))), (235, .inr (.inl (0, sps))), (236, .inr (.inl (0, ces))), (237, .inr (.inl (0, dus))), (238, .inr (.inl (0, hes))), (239, .inr (.inl (0, ris))), (240, .inr (.inl (0, uss))), (241, .inr (.inl (0, cms))), (242, .inr (.inl (0, lfs))), (243, .inr (.inl (0, lkds))), (247, .inl (3, [.ref 248, .ref 249, .ref 250, .ref 251, .ref 252, .ref 253, .ref 254, .ref 255, .int pevs, .int 1])), (248, .inr (.inl (0, pmss))), (249, .inr (.inl (0, pmms))), (250, .inr (.inl (0, pmts))), (251, .inr (.inl (0, psts))), (252, .inr (.inl (0, pwas))), (253, .inr (.inl (0, prss))), (254, .inr (.inl (0, prrs))), (255, .inr (.inl (0, pfas)))] h0 := K.mg K9 rfl rfl
  clear K9
  refine yb8s_k40 L (K.fi [4, 5, 6, 7, 231, 232, 233, 234] rfl rfl) (fun lv h9 L K9 => ?_)
  have K : KN h9 [(4, .inl (7, [.ref lys, .int mis, .int shus, .int buss, .ref 5, .ref 6, .ref 7, .ref 8, .ref 9, .ref 10, .ref 11, .ref 12, .ref 13, .ref 14, .ref 15, .int lkss, .ref 16, .ref 17, .ref 20])), (5, .inr (.inl (0, (aC 5 rks rk)))), (6, .inr (.inl (0, (aC 5 stas sta)))), (7, .inr (.inl (0, (aC 5 phs ph)))), (8, .inr (.inl (0, sp))), (9, .inr (.inl (0, ce))), (10, .inr (.inl (0, du))), (11, .inr (.inl (0, he))), (12, .inr (.inl (0, ri))), (13, .inr (.inl (0, us))), (14, .inr (.inl (0, cm))), (15, .inr (.inl (0, lf))), (16, .inr (.inl (0, lkd))), (20, .inl (3, [.ref 21, .ref 22, .ref 23, .ref 24, .ref 25, .ref 26, .ref 27, .ref 28, .int pev, .int 1])), (21, .inr (.inl (0, pms))), (22, .inr (.inl (0, pmm))), (23, .inr (.inl (0, pmt))), (24, .inr (.inl (0, pst))), (25, .inr (.inl (0, pwa))), (26, .inr (.inl (0, prs))), (27, .inr (.inl (0, prr))), (28, .inr (.inl (0, pfa))), (231, .inl (7, [.ref lys, .int mis, .int shus, .int buss, .ref 232, .ref 233, .ref 234, .ref 235, .ref 236, .ref 237, .ref 238, .ref 239, .ref 240, .ref 241, .ref 242, .int lkss, .ref 243, .ref 244, .ref 247])), (232, .inr (.inl (0, rks))), (233, .inr (.inl (0, stas))), (234, .inr (.inl (0, phs))), (235, .inr (.inl (0, sps))), (236, .inr (.inl (0, ces))), (237, .inr (.inl (0, dus))), (238, .inr (.inl (0, hes))), (239, .inr (.inl (0, ris))), (240, .inr (.inl (0, uss))), (241, .inr (.inl (0, cms))), (242, .inr (.inl (0, lfs))), (243, .inr (.inl (0, lkds))), (247, .inl (3, [.ref 248, .ref 249, .ref 250, .ref 251, .ref 252, .ref 253, .ref 254, .ref 255, .int pevs, .int 1])), (248, .inr (.inl (0, pmss))), (249, .inr (.inl (0, pmms))), (250, .inr (.inl (0, pmts))), (251, .inr (.inl (0, psts))), (252, .inr (.inl (0, pwas))), (253, .inr (.inl (0, prss))), (254, .inr (.inl (0, prrs))), (255, .inr (.inl (0, pfas)))] h0 := K.mg K9 rfl rfl
  clear K9
  refine yb8s_k82 L (K.fi [4, 8, 9, 10, 231, 235, 236, 237] rfl rfl) (fun lv h9 L K9 => ?_)
  have K : KN h9 [(4, .inl (7, [.ref lys, .int mis, .int shus, .int buss, .ref 5, .ref 6, .ref 7, .ref 8, .ref 9, .ref 10, .ref 11, .ref 12, .ref 13, .ref 14, .ref 15, .int lkss, .ref 16, .ref 17, .ref 20])), (5, .inr (.inl (0, (aC 5 rks rk)))), (6, .inr (.inl (0, (aC 5 stas sta)))), (7, .inr (.inl (0, (aC 5 phs ph)))), (8, .inr (.inl (0, (aC 5 sps sp)))), (9, .inr (.inl (0, (aC 5 ces ce)))), (10, .inr (.inl (0, (aC 5 dus du)))), (11, .inr (.inl (0, he))), (12, .inr (.inl (0, ri))), (13, .inr (.inl (0, us))), (14, .inr (.inl (0, cm))), (15, .inr (.inl (0, lf))), (16, .inr (.inl (0, lkd))), (20, .inl (3, [.ref 21, .ref 22, .ref 23, .ref 24, .ref 25, .ref 26, .ref 27, .ref 28, .int pev, .int 1])), (21, .inr (.inl (0, pms))), (22, .inr (.inl (0, pmm))), (23, .inr (.inl (0, pmt))), (24, .inr (.inl (0, pst))), (25, .inr (.inl (0, pwa))), (26, .inr (.inl (0, prs))), (27, .inr (.inl (0, prr))), (28, .inr (.inl (0, pfa))), (231, .inl (7, [.ref lys, .int mis, .int shus, .int buss, .ref 232, .ref 233, .ref 234, .ref 235, .ref 236, .ref 237, .ref 238, .ref 239, .ref 240, .ref 241, .ref 242, .int lkss, .ref 243, .ref 244, .ref 247])), (232, .inr (.inl (0, rks))), (233, .inr (.inl (0, stas))), (234, .inr (.inl (0, phs))), (235, .inr (.inl (0, sps))), (236, .inr (.inl (0, ces))), (237, .inr (.inl (0, dus))), (238, .inr (.inl (0, hes))), (239, .inr (.inl (0, ris))), (240, .inr (.inl (0, uss))), (241, .inr (.inl (0, cms))), (242, .inr (.inl (0, lfs))), (243, .inr (.inl (0, lkds))), (247, .inl (3, [.ref 248, .ref 249, .ref 250, .ref 251, .ref 252, .ref 253, .ref 254, .ref 255, .int pevs, .int 1])), (248, .inr (.inl (0, pmss))), (249, .inr (.inl (0, pmms))), (250, .inr (.inl (0, pmts))), (251, .inr (.inl (0, psts))), (252, .inr (.inl (0, pwas))), (253, .inr (.inl (0, prss))), (254, .inr (.inl (0, prrs))), (255, .inr (.inl (0, pfas)))] h0 := K.mg K9 rfl rfl
  clear K9
  refine yb8s_k124 L (K.fi [4, 11, 12, 13, 231, 238, 239, 240] rfl rfl) (fun lv h9 L K9 => ?_)
  have K : KN h9 [(4, .inl (7, [.ref lys, .int mis, .int shus, .int buss, .ref 5, .ref 6, .ref 7, .ref 8, .ref 9, .ref 10, .ref 11, .ref 12, .ref 13, .ref 14, .ref 15, .int lkss, .ref 16, .ref 17, .ref 20])), (5, .inr (.inl (0, (aC 5 rks rk)))), (6, .inr (.inl (0, (aC 5 stas sta)))), (7, .inr (.inl (0, (aC 5 phs ph)))), (8, .inr (.inl (0, (aC 5 sps sp)))), (9, .inr (.inl (0, (aC 5 ces ce)))), (10, .inr (.inl (0, (aC 5 dus du)))), (11, .inr (.inl (0, (aC 5 hes he)))), (12, .inr (.inl (0, (aC 6 ris ri)))), (13, .inr (.inl (0, (aC 6 uss us)))), (14, .inr (.inl (0, cm))), (15, .inr (.inl (0, lf))), (16, .inr (.inl (0, lkd))), (20, .inl (3, [.ref 21, .ref 22, .ref 23, .ref 24, .ref 25, .ref 26, .ref 27, .ref 28, .int pev, .int 1])), (21, .inr (.inl (0, pms))), (22, .inr (.inl (0, pmm))), (23, .inr (.inl (0, pmt))), (24, .inr (.inl (0, pst))), (25, .inr (.inl (0, pwa))), (26, .inr (.inl (0, prs))), (27, .inr (.inl (0, prr))), (28, .inr (.inl (0, pfa))), (231, .inl (7, [.ref lys, .int mis, .int shus, .int buss, .ref 232, .ref 233, .ref 234, .ref 235, .ref 236, .ref 237, .ref 238, .ref 239, .ref 240, .ref 241, .ref 242, .int lkss, .ref 243, .ref 244, .ref 247])), (232, .inr (.inl (0, rks))), (233, .inr (.inl (0, stas))), (234, .inr (.inl (0, phs))), (235, .inr (.inl (0, sps))), (236, .inr (.inl (0, ces))), (237, .inr (.inl (0, dus))), (238, .inr (.inl (0, hes))), (239, .inr (.inl (0, ris))), (240, .inr (.inl (0, uss))), (241, .inr (.inl (0, cms))), (242, .inr (.inl (0, lfs))), (243, .inr (.inl (0, lkds))), (247, .inl (3, [.ref 248, .ref 249, .ref 250, .ref 251, .ref 252, .ref 253, .ref 254, .ref 255, .int pevs, .int 1])), (248, .inr (.inl (0, pmss))), (249, .inr (.inl (0, pmms))), (250, .inr (.inl (0, pmts))), (251, .inr (.inl (0, psts))), (252, .inr (.inl (0, pwas))), (253, .inr (.inl (0, prss))), (254, .inr (.inl (0, prrs))), (255, .inr (.inl (0, pfas)))] h0 := K.mg K9 rfl rfl
  clear K9
  refine yb8s_k168 L (K.fi [4, 14, 15, 16, 231, 241, 242, 243] rfl rfl) (fun lv h9 L K9 => ?_)
  have K : KN h9 [(4, .inl (7, [.ref lys, .int mis, .int shus, .int buss, .ref 5, .ref 6, .ref 7, .ref 8, .ref 9, .ref 10, .ref 11, .ref 12, .ref 13, .ref 14, .ref 15, .int lkss, .ref 16, .ref 17, .ref 20])), (5, .inr (.inl (0, (aC 5 rks rk)))), (6, .inr (.inl (0, (aC 5 stas sta)))), (7, .inr (.inl (0, (aC 5 phs ph)))), (8, .inr (.inl (0, (aC 5 sps sp)))), (9, .inr (.inl (0, (aC 5 ces ce)))), (10, .inr (.inl (0, (aC 5 dus du)))), (11, .inr (.inl (0, (aC 5 hes he)))), (12, .inr (.inl (0, (aC 6 ris ri)))), (13, .inr (.inl (0, (aC 6 uss us)))), (14, .inr (.inl (0, (aC (nI cm.length) cms cm)))), (15, .inr (.inl (0, (aC (nI lf.length) lfs lf)))), (16, .inr (.inl (0, (aC (nI lkd.length) lkds lkd)))), (20, .inl (3, [.ref 21, .ref 22, .ref 23, .ref 24, .ref 25, .ref 26, .ref 27, .ref 28, .int pev, .int 1])), (21, .inr (.inl (0, pms))), (22, .inr (.inl (0, pmm))), (23, .inr (.inl (0, pmt))), (24, .inr (.inl (0, pst))), (25, .inr (.inl (0, pwa))), (26, .inr (.inl (0, prs))), (27, .inr (.inl (0, prr))), (28, .inr (.inl (0, pfa))), (231, .inl (7, [.ref lys, .int mis, .int shus, .int buss, .ref 232, .ref 233, .ref 234, .ref 235, .ref 236, .ref 237, .ref 238, .ref 239, .ref 240, .ref 241, .ref 242, .int lkss, .ref 243, .ref 244, .ref 247])), (232, .inr (.inl (0, rks))), (233, .inr (.inl (0, stas))), (234, .inr (.inl (0, phs))), (235, .inr (.inl (0, sps))), (236, .inr (.inl (0, ces))), (237, .inr (.inl (0, dus))), (238, .inr (.inl (0, hes))), (239, .inr (.inl (0, ris))), (240, .inr (.inl (0, uss))), (241, .inr (.inl (0, cms))), (242, .inr (.inl (0, lfs))), (243, .inr (.inl (0, lkds))), (247, .inl (3, [.ref 248, .ref 249, .ref 250, .ref 251, .ref 252, .ref 253, .ref 254, .ref 255, .int pevs, .int 1])), (248, .inr (.inl (0, pmss))), (249, .inr (.inl (0, pmms))), (250, .inr (.inl (0, pmts))), (251, .inr (.inl (0, psts))), (252, .inr (.inl (0, pwas))), (253, .inr (.inl (0, prss))), (254, .inr (.inl (0, prrs))), (255, .inr (.inl (0, pfas)))] h0 := K.mg K9 rfl rfl
  clear K9
  refine j_V.ldL yb8s_M yb8s_222 rfl (i := 0) (kd := 2) (v := .ref 4) (pcJ := 223) rfl L rfl rfl rfl ?_
  refine j_V.getK yb8s_M yb8s_223 (ci := 7) (j := 18) rfl K rfl rfl ?_
  refine j_V.ldL yb8s_M yb8s_226 rfl (i := 1) (kd := 2) (v := .ref 231) (pcJ := 227) rfl L rfl rfl rfl ?_
  refine j_V.getK yb8s_M yb8s_227 (ci := 7) (j := 18) rfl K rfl rfl ?_
  refine j_V.cl yb8s_M yb8s_230 rfl (md := 3) (mj := 28) rfl (by decide) yb8p_M (As := [.ref 20, .ref 247]) (rest := []) (jk_spl3 (K.at rfl) rfl rfl rfl (Nat.le_of_ble_eq_true rfl) (Nat.le_of_ble_eq_true rfl)) (fun d => yb8p_ok (K.fi [20, 21, 22, 23, 24, 25, 26, 27, 28, 247, 248, 249, 250, 251, 252, 253, 254, 255] rfl rfl)) ?_
  rintro r h9 ⟨rfl, K9⟩
  have K : KN h9 [(4, .inl (7, [.ref lys, .int mis, .int shus, .int buss, .ref 5, .ref 6, .ref 7, .ref 8, .ref 9, .ref 10, .ref 11, .ref 12, .ref 13, .ref 14, .ref 15, .int lkss, .ref 16, .ref 17, .ref 20])), (5, .inr (.inl (0, (aC 5 rks rk)))), (6, .inr (.inl (0, (aC 5 stas sta)))), (7, .inr (.inl (0, (aC 5 phs ph)))), (8, .inr (.inl (0, (aC 5 sps sp)))), (9, .inr (.inl (0, (aC 5 ces ce)))), (10, .inr (.inl (0, (aC 5 dus du)))), (11, .inr (.inl (0, (aC 5 hes he)))), (12, .inr (.inl (0, (aC 6 ris ri)))), (13, .inr (.inl (0, (aC 6 uss us)))), (14, .inr (.inl (0, (aC (nI cm.length) cms cm)))), (15, .inr (.inl (0, (aC (nI lf.length) lfs lf)))), (16, .inr (.inl (0, (aC (nI lkd.length) lkds lkd)))), (20, .inl (3, [.ref 21, .ref 22, .ref 23, .ref 24, .ref 25, .ref 26, .ref 27, .ref 28, .int pevs, .int 1])), (21, .inr (.inl (0, (aC (nI pms.length) pmss pms)))), (22, .inr (.inl (0, (aC (nI pmm.length) pmms pmm)))), (23, .inr (.inl (0, (aC (nI pmt.length) pmts pmt)))), (24, .inr (.inl (0, (aC (nI pst.length) psts pst)))), (25, .inr (.inl (0, (aC (nI pwa.length) pwas pwa)))), (26, .inr (.inl (0, (aC (nI prs.length) prss prs)))), (27, .inr (.inl (0, (aC (nI prr.length) prrs prr)))), (28, .inr (.inl (0, (aC (nI pfa.length) pfas pfa)))), (231, .inl (7, [.ref lys, .int mis, .int shus, .int buss, .ref 232, .ref 233, .ref 234, .ref 235, .ref 236, .ref 237, .ref 238, .ref 239, .ref 240, .ref 241, .ref 242, .int lkss, .ref 243, .ref 244, .ref 247])), (232, .inr (.inl (0, rks))), (233, .inr (.inl (0, stas))), (234, .inr (.inl (0, phs))), (235, .inr (.inl (0, sps))), (236, .inr (.inl (0, ces))), (237, .inr (.inl (0, dus))), (238, .inr (.inl (0, hes))), (239, .inr (.inl (0, ris))), (240, .inr (.inl (0, uss))), (241, .inr (.inl (0, cms))), (242, .inr (.inl (0, lfs))), (243, .inr (.inl (0, lkds))), (247, .inl (3, [.ref 248, .ref 249, .ref 250, .ref 251, .ref 252, .ref 253, .ref 254, .ref 255, .int pevs, .int 1])), (248, .inr (.inl (0, pmss))), (249, .inr (.inl (0, pmms))), (250, .inr (.inl (0, pmts))), (251, .inr (.inl (0, psts))), (252, .inr (.inl (0, pwas))), (253, .inr (.inl (0, prss))), (254, .inr (.inl (0, prrs))), (255, .inr (.inl (0, pfas)))] h0 := K.mg K9 rfl rfl
  clear K9
  show j_V jP _ 61 233 lv [] h9 _
  exact j_V.ret yb8s_M yb8s_233 rfl rfl ⟨rfl, K⟩
set_option maxRecDepth 100000 in
theorem yb8m_M : j_meth jP 3 = some (yX0_takeBack, cX0_takeBack, 2, none, 1, false, 0) := rfl
set_option maxRecDepth 100000 in
theorem yb8m_0 : j_code jP 3 0 = some (.aload_n 0) := rfl
set_option maxRecDepth 100000 in
theorem yb8m_1 : j_code jP 3 1 = some (.aload_n 0) := rfl
set_option maxRecDepth 100000 in
theorem yb8m_2 : j_code jP 3 2 = some (.getfield 24) := rfl
set_option maxRecDepth 100000 in
theorem yb8m_5 : j_code jP 3 5 = some (.bipush 10) := rfl
set_option maxRecDepth 100000 in
theorem yb8m_7 : j_code jP 3 7 = some (.iadd) := rfl
set_option maxRecDepth 100000 in
theorem yb8m_8 : j_code jP 3 8 = some (.iconst 1) := rfl
set_option maxRecDepth 100000 in
theorem yb8m_9 : j_code jP 3 9 = some (.isub) := rfl
set_option maxRecDepth 100000 in
theorem yb8m_10 : j_code jP 3 10 = some (.bipush 10) := rfl
set_option maxRecDepth 100000 in
theorem yb8m_12 : j_code jP 3 12 = some (.irem) := rfl
set_option maxRecDepth 100000 in
theorem yb8m_13 : j_code jP 3 13 = some (.putfield 24) := rfl
set_option maxRecDepth 100000 in
theorem yb8m_16 : j_code jP 3 16 = some (.aload_n 0) := rfl
set_option maxRecDepth 100000 in
theorem yb8m_17 : j_code jP 3 17 = some (.dup) := rfl
set_option maxRecDepth 100000 in
theorem yb8m_18 : j_code jP 3 18 = some (.getfield 20) := rfl
set_option maxRecDepth 100000 in
theorem yb8m_21 : j_code jP 3 21 = some (.iconst 1) := rfl
set_option maxRecDepth 100000 in
theorem yb8m_22 : j_code jP 3 22 = some (.isub) := rfl
set_option maxRecDepth 100000 in
theorem yb8m_23 : j_code jP 3 23 = some (.putfield 20) := rfl
set_option maxRecDepth 100000 in
theorem yb8m_26 : j_code jP 3 26 = some (.aload_n 1) := rfl
set_option maxRecDepth 100000 in
theorem yb8m_27 : j_code jP 3 27 = some (.aload_n 0) := rfl
set_option maxRecDepth 100000 in
theorem yb8m_28 : j_code jP 3 28 = some (.getfield 11) := rfl
set_option maxRecDepth 100000 in
theorem yb8m_31 : j_code jP 3 31 = some (.aload_n 0) := rfl
set_option maxRecDepth 100000 in
theorem yb8m_32 : j_code jP 3 32 = some (.getfield 24) := rfl
set_option maxRecDepth 100000 in
theorem yb8m_35 : j_code jP 3 35 = some (.aaload) := rfl
set_option maxRecDepth 100000 in
theorem yb8m_36 : j_code jP 3 36 = some (.invokevirtual 27) := rfl
set_option maxRecDepth 100000 in
theorem yb8m_39 : j_code jP 3 39 = some (.return_) := rfl
set_option maxRecDepth 1000000 in
theorem yb8m_ok {ly : Value} {mi : Int32} {shu : Int32} {bus : Int32} {lks : Int32} {rk : List Int32} {sta : List Int32} {ph : List Int32} {sp : List Int32} {ce : List Int32} {du : List Int32} {he : List Int32} {ri : List Int32} {us : List Int32} {cm : List Int32} {lf : List Int32} {lkd : List Int32} {pev : Int32} {pms : List Int32} {pmm : List Int32} {pmt : List Int32} {pst : List Int32} {pwa : List Int32} {prs : List Int32} {prr : List Int32} {pfa : List Int32} {lys : Nat} {mis : Int32} {shus : Int32} {buss : Int32} {lkss : Int32} {rks : List Int32} {stas : List Int32} {phs : List Int32} {sps : List Int32} {ces : List Int32} {dus : List Int32} {hes : List Int32} {ris : List Int32} {uss : List Int32} {cms : List Int32} {lfs : List Int32} {lkds : List Int32} {pevs : Int32} {pmss : List Int32} {pmms : List Int32} {pmts : List Int32} {psts : List Int32} {pwas : List Int32} {prss : List Int32} {prrs : List Int32} {pfas : List Int32} {acco : Int32} {d : Nat} {h h0 : J_H} (K : KN h [(4, .inl (7, [ly, .int mi, .int shu, .int bus, .ref 5, .ref 6, .ref 7, .ref 8, .ref 9, .ref 10, .ref 11, .ref 12, .ref 13, .ref 14, .ref 15, .int lks, .ref 16, .ref 17, .ref 20])), (5, .inr (.inl (0, rk))), (6, .inr (.inl (0, sta))), (7, .inr (.inl (0, ph))), (8, .inr (.inl (0, sp))), (9, .inr (.inl (0, ce))), (10, .inr (.inl (0, du))), (11, .inr (.inl (0, he))), (12, .inr (.inl (0, ri))), (13, .inr (.inl (0, us))), (14, .inr (.inl (0, cm))), (15, .inr (.inl (0, lf))), (16, .inr (.inl (0, lkd))), (20, .inl (3, [.ref 21, .ref 22, .ref 23, .ref 24, .ref 25, .ref 26, .ref 27, .ref 28, .int pev, .int 1])), (21, .inr (.inl (0, pms))), (22, .inr (.inl (0, pmm))), (23, .inr (.inl (0, pmt))), (24, .inr (.inl (0, pst))), (25, .inr (.inl (0, pwa))), (26, .inr (.inl (0, prs))), (27, .inr (.inl (0, prr))), (28, .inr (.inl (0, pfa))), (29, .inl (0, [.ref 30, .int 9, .int acco])), (30, .inr (.inr (.inr [some 31, some 56, some 81, some 106, some 131, some 156, some 181, some 206, some 231, some 256]))), (231, .inl (7, [.ref lys, .int mis, .int shus, .int buss, .ref 232, .ref 233, .ref 234, .ref 235, .ref 236, .ref 237, .ref 238, .ref 239, .ref 240, .ref 241, .ref 242, .int lkss, .ref 243, .ref 244, .ref 247])), (232, .inr (.inl (0, rks))), (233, .inr (.inl (0, stas))), (234, .inr (.inl (0, phs))), (235, .inr (.inl (0, sps))), (236, .inr (.inl (0, ces))), (237, .inr (.inl (0, dus))), (238, .inr (.inl (0, hes))), (239, .inr (.inl (0, ris))), (240, .inr (.inl (0, uss))), (241, .inr (.inl (0, cms))), (242, .inr (.inl (0, lfs))), (243, .inr (.inl (0, lkds))), (247, .inl (3, [.ref 248, .ref 249, .ref 250, .ref 251, .ref 252, .ref 253, .ref 254, .ref 255, .int pevs, .int 1])), (248, .inr (.inl (0, pmss))), (249, .inr (.inl (0, pmms))), (250, .inr (.inl (0, pmts))), (251, .inr (.inl (0, psts))), (252, .inr (.inl (0, pwas))), (253, .inr (.inl (0, prss))), (254, .inr (.inl (0, prrs))), (255, .inr (.inl (0, pfas)))] h0) : j_V jP d 3 0 (lv_args 0 [.ref 29, .ref 4]) [] h (fun rv h' => rv = none ∧ KN h' [(4, .inl (7, [.ref lys, .int mis, .int shus, .int buss, .ref 5, .ref 6, .ref 7, .ref 8, .ref 9, .ref 10, .ref 11, .ref 12, .ref 13, .ref 14, .ref 15, .int lkss, .ref 16, .ref 17, .ref 20])), (5, .inr (.inl (0, (aC 5 rks rk)))), (6, .inr (.inl (0, (aC 5 stas sta)))), (7, .inr (.inl (0, (aC 5 phs ph)))), (8, .inr (.inl (0, (aC 5 sps sp)))), (9, .inr (.inl (0, (aC 5 ces ce)))), (10, .inr (.inl (0, (aC 5 dus du)))), (11, .inr (.inl (0, (aC 5 hes he)))), (12, .inr (.inl (0, (aC 6 ris ri)))), (13, .inr (.inl (0, (aC 6 uss us)))), (14, .inr (.inl (0, (aC (nI cm.length) cms cm)))), (15, .inr (.inl (0, (aC (nI lf.length) lfs lf)))), (16, .inr (.inl (0, (aC (nI lkd.length) lkds lkd)))), (20, .inl (3, [.ref 21, .ref 22, .ref 23, .ref 24, .ref 25, .ref 26, .ref 27, .ref 28, .int pevs, .int 1])), (21, .inr (.inl (0, (aC (nI pms.length) pmss pms)))), (22, .inr (.inl (0, (aC (nI pmm.length) pmms pmm)))), (23, .inr (.inl (0, (aC (nI pmt.length) pmts pmt)))), (24, .inr (.inl (0, (aC (nI pst.length) psts pst)))), (25, .inr (.inl (0, (aC (nI pwa.length) pwas pwa)))), (26, .inr (.inl (0, (aC (nI prs.length) prss prs)))), (27, .inr (.inl (0, (aC (nI prr.length) prrs prr)))), (28, .inr (.inl (0, (aC (nI pfa.length) pfas pfa)))), (29, .inl (0, [.ref 30, .int 8, .int (acco - 1)])), (30, .inr (.inr (.inr [some 31, some 56, some 81, some 106, some 131, some 156, some 181, some 206, some 231, some 256]))), (231, .inl (7, [.ref lys, .int mis, .int shus, .int buss, .ref 232, .ref 233, .ref 234, .ref 235, .ref 236, .ref 237, .ref 238, .ref 239, .ref 240, .ref 241, .ref 242, .int lkss, .ref 243, .ref 244, .ref 247])), (232, .inr (.inl (0, rks))), (233, .inr (.inl (0, stas))), (234, .inr (.inl (0, phs))), (235, .inr (.inl (0, sps))), (236, .inr (.inl (0, ces))), (237, .inr (.inl (0, dus))), (238, .inr (.inl (0, hes))), (239, .inr (.inl (0, ris))), (240, .inr (.inl (0, uss))), (241, .inr (.inl (0, cms))), (242, .inr (.inl (0, lfs))), (243, .inr (.inl (0, lkds))), (247, .inl (3, [.ref 248, .ref 249, .ref 250, .ref 251, .ref 252, .ref 253, .ref 254, .ref 255, .int pevs, .int 1])), (248, .inr (.inl (0, pmss))), (249, .inr (.inl (0, pmms))), (250, .inr (.inl (0, pmts))), (251, .inr (.inl (0, psts))), (252, .inr (.inl (0, pwas))), (253, .inr (.inl (0, prss))), (254, .inr (.inl (0, prrs))), (255, .inr (.inl (0, pfas)))] h0) := by
  show j_V jP d 3 0 [(0, .ref 29), (1, .ref 4)] [] h _
  obtain ⟨lv, elv, L⟩ : ∃ lv, lv = [(0, .ref 29), (1, .ref 4)] ∧ LK lv [(0, .ref 29), (1, .ref 4)] := ⟨_, rfl, LK.rf⟩
  rw [← elv]
  clear elv
  refine j_V.ldL yb8m_M yb8m_0 rfl (i := 0) (kd := 2) (v := .ref 29) (pcJ := 1) rfl L rfl rfl rfl ?_
  refine j_V.ldL yb8m_M yb8m_1 rfl (i := 0) (kd := 2) (v := .ref 29) (pcJ := 2) rfl L rfl rfl rfl ?_
  refine j_V.getK yb8m_M yb8m_2 (ci := 0) (j := 1) rfl K rfl rfl ?_
  refine j_V.one yb8m_M yb8m_5 (by decide) (pcJ := 7) (stJ := [.int 10, .int 9, .ref 29]) rfl ?_
  refine j_V.one yb8m_M yb8m_7 (by decide) (pcJ := 8) (stJ := [.int 19, .ref 29]) rfl ?_
  refine j_V.one yb8m_M yb8m_8 (by decide) (pcJ := 9) (stJ := [.int 1, .int 19, .ref 29]) rfl ?_
  refine j_V.one yb8m_M yb8m_9 (by decide) (pcJ := 10) (stJ := [.int 18, .ref 29]) rfl ?_
  refine j_V.one yb8m_M yb8m_10 (by decide) (pcJ := 12) (stJ := [.int 10, .int 18, .ref 29]) rfl ?_
  refine j_V.one yb8m_M yb8m_12 (by decide) (pcJ := 13) (stJ := [.int 8, .ref 29]) rfl ?_
  refine j_V.putK yb8m_M yb8m_13 (ci := 0) (j := 1) (k' := [(4, .inl (7, [ly, .int mi, .int shu, .int bus, .ref 5, .ref 6, .ref 7, .ref 8, .ref 9, .ref 10, .ref 11, .ref 12, .ref 13, .ref 14, .ref 15, .int lks, .ref 16, .ref 17, .ref 20])), (5, .inr (.inl (0, rk))), (6, .inr (.inl (0, sta))), (7, .inr (.inl (0, ph))), (8, .inr (.inl (0, sp))), (9, .inr (.inl (0, ce))), (10, .inr (.inl (0, du))), (11, .inr (.inl (0, he))), (12, .inr (.inl (0, ri))), (13, .inr (.inl (0, us))), (14, .inr (.inl (0, cm))), (15, .inr (.inl (0, lf))), (16, .inr (.inl (0, lkd))), (20, .inl (3, [.ref 21, .ref 22, .ref 23, .ref 24, .ref 25, .ref 26, .ref 27, .ref 28, .int pev, .int 1])), (21, .inr (.inl (0, pms))), (22, .inr (.inl (0, pmm))), (23, .inr (.inl (0, pmt))), (24, .inr (.inl (0, pst))), (25, .inr (.inl (0, pwa))), (26, .inr (.inl (0, prs))), (27, .inr (.inl (0, prr))), (28, .inr (.inl (0, pfa))), (29, .inl (0, [.ref 30, .int 8, .int acco])), (30, .inr (.inr (.inr [some 31, some 56, some 81, some 106, some 131, some 156, some 181, some 206, some 231, some 256]))), (231, .inl (7, [.ref lys, .int mis, .int shus, .int buss, .ref 232, .ref 233, .ref 234, .ref 235, .ref 236, .ref 237, .ref 238, .ref 239, .ref 240, .ref 241, .ref 242, .int lkss, .ref 243, .ref 244, .ref 247])), (232, .inr (.inl (0, rks))), (233, .inr (.inl (0, stas))), (234, .inr (.inl (0, phs))), (235, .inr (.inl (0, sps))), (236, .inr (.inl (0, ces))), (237, .inr (.inl (0, dus))), (238, .inr (.inl (0, hes))), (239, .inr (.inl (0, ris))), (240, .inr (.inl (0, uss))), (241, .inr (.inl (0, cms))), (242, .inr (.inl (0, lfs))), (243, .inr (.inl (0, lkds))), (247, .inl (3, [.ref 248, .ref 249, .ref 250, .ref 251, .ref 252, .ref 253, .ref 254, .ref 255, .int pevs, .int 1])), (248, .inr (.inl (0, pmss))), (249, .inr (.inl (0, pmms))), (250, .inr (.inl (0, pmts))), (251, .inr (.inl (0, psts))), (252, .inr (.inl (0, pwas))), (253, .inr (.inl (0, prss))), (254, .inr (.inl (0, prrs))), (255, .inr (.inl (0, pfas)))]) rfl K rfl (Nat.le_of_ble_eq_true rfl) rfl (Or.inl rfl) rfl rfl (fun h K => ?_)
  refine j_V.ldL yb8m_M yb8m_16 rfl (i := 0) (kd := 2) (v := .ref 29) (pcJ := 17) rfl L rfl rfl rfl ?_
  refine j_V.one yb8m_M yb8m_17 (by decide) (pcJ := 18) (stJ := [.ref 29, .ref 29]) rfl ?_
  refine j_V.getK yb8m_M yb8m_18 (ci := 0) (j := 2) rfl K rfl rfl ?_
  refine j_V.one yb8m_M yb8m_21 (by decide) (pcJ := 22) (stJ := [.int 1, .int acco, .ref 29]) rfl ?_
  refine j_V.one yb8m_M yb8m_22 (by decide) (pcJ := 23) (stJ := [.int (acco - 1), .ref 29]) rfl ?_
  refine j_V.putK yb8m_M yb8m_23 (ci := 0) (j := 2) (k' := [(4, .inl (7, [ly, .int mi, .int shu, .int bus, .ref 5, .ref 6, .ref 7, .ref 8, .ref 9, .ref 10, .ref 11, .ref 12, .ref 13, .ref 14, .ref 15, .int lks, .ref 16, .ref 17, .ref 20])), (5, .inr (.inl (0, rk))), (6, .inr (.inl (0, sta))), (7, .inr (.inl (0, ph))), (8, .inr (.inl (0, sp))), (9, .inr (.inl (0, ce))), (10, .inr (.inl (0, du))), (11, .inr (.inl (0, he))), (12, .inr (.inl (0, ri))), (13, .inr (.inl (0, us))), (14, .inr (.inl (0, cm))), (15, .inr (.inl (0, lf))), (16, .inr (.inl (0, lkd))), (20, .inl (3, [.ref 21, .ref 22, .ref 23, .ref 24, .ref 25, .ref 26, .ref 27, .ref 28, .int pev, .int 1])), (21, .inr (.inl (0, pms))), (22, .inr (.inl (0, pmm))), (23, .inr (.inl (0, pmt))), (24, .inr (.inl (0, pst))), (25, .inr (.inl (0, pwa))), (26, .inr (.inl (0, prs))), (27, .inr (.inl (0, prr))), (28, .inr (.inl (0, pfa))), (29, .inl (0, [.ref 30, .int 8, .int (acco - 1)])), (30, .inr (.inr (.inr [some 31, some 56, some 81, some 106, some 131, some 156, some 181, some 206, some 231, some 256]))), (231, .inl (7, [.ref lys, .int mis, .int shus, .int buss, .ref 232, .ref 233, .ref 234, .ref 235, .ref 236, .ref 237, .ref 238, .ref 239, .ref 240, .ref 241, .ref 242, .int lkss, .ref 243, .ref 244, .ref 247])), (232, .inr (.inl (0, rks))), (233, .inr (.inl (0, stas))), (234, .inr (.inl (0, phs))), (235, .inr (.inl (0, sps))), (236, .inr (.inl (0, ces))), (237, .inr (.inl (0, dus))), (238, .inr (.inl (0, hes))), (239, .inr (.inl (0, ris))), (240, .inr (.inl (0, uss))), (241, .inr (.inl (0, cms))), (242, .inr (.inl (0, lfs))), (243, .inr (.inl (0, lkds))), (247, .inl (3, [.ref 248, .ref 249, .ref 250, .ref 251, .ref 252, .ref 253, .ref 254, .ref 255, .int pevs, .int 1])), (248, .inr (.inl (0, pmss))), (249, .inr (.inl (0, pmms))), (250, .inr (.inl (0, pmts))), (251, .inr (.inl (0, psts))), (252, .inr (.inl (0, pwas))), (253, .inr (.inl (0, prss))), (254, .inr (.inl (0, prrs))), (255, .inr (.inl (0, pfas)))]) rfl K rfl (Nat.le_of_ble_eq_true rfl) rfl (Or.inl rfl) rfl rfl (fun h K => ?_)
  refine j_V.ldL yb8m_M yb8m_26 rfl (i := 1) (kd := 2) (v := .ref 4) (pcJ := 27) rfl L rfl rfl rfl ?_
  refine j_V.ldL yb8m_M yb8m_27 rfl (i := 0) (kd := 2) (v := .ref 29) (pcJ := 28) rfl L rfl rfl rfl ?_
  refine j_V.getK yb8m_M yb8m_28 (ci := 0) (j := 0) rfl K rfl rfl ?_
  refine j_V.ldL yb8m_M yb8m_31 rfl (i := 0) (kd := 2) (v := .ref 29) (pcJ := 32) rfl L rfl rfl rfl ?_
  refine j_V.getK yb8m_M yb8m_32 (ci := 0) (j := 1) rfl K rfl rfl ?_
  refine j_V.aaA yb8m_M yb8m_35 K rfl (i := 8) (v := 231) rfl rfl ?_
  refine j_V.cl yb8m_M yb8m_36 rfl (md := 3) (mj := 61) rfl (by decide) yb8s_M (As := [.ref 4, .ref 231]) (rest := []) (jk_spl3 (K.at rfl) rfl rfl rfl (Nat.le_of_ble_eq_true rfl) (Nat.le_of_ble_eq_true rfl)) (fun d => yb8s_ok (K.fi [4, 5, 6, 7, 8, 9, 10, 11, 12, 13, 14, 15, 16, 20, 21, 22, 23, 24, 25, 26, 27, 28, 231, 232, 233, 234, 235, 236, 237, 238, 239, 240, 241, 242, 243, 247, 248, 249, 250, 251, 252, 253, 254, 255] rfl rfl)) ?_
  rintro r h9 ⟨rfl, K9⟩
  have K : KN h9 [(4, .inl (7, [.ref lys, .int mis, .int shus, .int buss, .ref 5, .ref 6, .ref 7, .ref 8, .ref 9, .ref 10, .ref 11, .ref 12, .ref 13, .ref 14, .ref 15, .int lkss, .ref 16, .ref 17, .ref 20])), (5, .inr (.inl (0, (aC 5 rks rk)))), (6, .inr (.inl (0, (aC 5 stas sta)))), (7, .inr (.inl (0, (aC 5 phs ph)))), (8, .inr (.inl (0, (aC 5 sps sp)))), (9, .inr (.inl (0, (aC 5 ces ce)))), (10, .inr (.inl (0, (aC 5 dus du)))), (11, .inr (.inl (0, (aC 5 hes he)))), (12, .inr (.inl (0, (aC 6 ris ri)))), (13, .inr (.inl (0, (aC 6 uss us)))), (14, .inr (.inl (0, (aC (nI cm.length) cms cm)))), (15, .inr (.inl (0, (aC (nI lf.length) lfs lf)))), (16, .inr (.inl (0, (aC (nI lkd.length) lkds lkd)))), (20, .inl (3, [.ref 21, .ref 22, .ref 23, .ref 24, .ref 25, .ref 26, .ref 27, .ref 28, .int pevs, .int 1])), (21, .inr (.inl (0, (aC (nI pms.length) pmss pms)))), (22, .inr (.inl (0, (aC (nI pmm.length) pmms pmm)))), (23, .inr (.inl (0, (aC (nI pmt.length) pmts pmt)))), (24, .inr (.inl (0, (aC (nI pst.length) psts pst)))), (25, .inr (.inl (0, (aC (nI pwa.length) pwas pwa)))), (26, .inr (.inl (0, (aC (nI prs.length) prss prs)))), (27, .inr (.inl (0, (aC (nI prr.length) prrs prr)))), (28, .inr (.inl (0, (aC (nI pfa.length) pfas pfa)))), (29, .inl (0, [.ref 30, .int 8, .int (acco - 1)])), (30, .inr (.inr (.inr [some 31, some 56, some 81, some 106, some 131, some 156, some 181, some 206, some 231, some 256]))), (231, .inl (7, [.ref lys, .int mis, .int shus, .int buss, .ref 232, .ref 233, .ref 234, .ref 235, .ref 236, .ref 237, .ref 238, .ref 239, .ref 240, .ref 241, .ref 242, .int lkss, .ref 243, .ref 244, .ref 247])), (232, .inr (.inl (0, rks))), (233, .inr (.inl (0, stas))), (234, .inr (.inl (0, phs))), (235, .inr (.inl (0, sps))), (236, .inr (.inl (0, ces))), (237, .inr (.inl (0, dus))), (238, .inr (.inl (0, hes))), (239, .inr (.inl (0, ris))), (240, .inr (.inl (0, uss))), (241, .inr (.inl (0, cms))), (242, .inr (.inl (0, lfs))), (243, .inr (.inl (0, lkds))), (247, .inl (3, [.ref 248, .ref 249, .ref 250, .ref 251, .ref 252, .ref 253, .ref 254, .ref 255, .int pevs, .int 1])), (248, .inr (.inl (0, pmss))), (249, .inr (.inl (0, pmms))), (250, .inr (.inl (0, pmts))), (251, .inr (.inl (0, psts))), (252, .inr (.inl (0, pwas))), (253, .inr (.inl (0, prss))), (254, .inr (.inl (0, prrs))), (255, .inr (.inl (0, pfas)))] h0 := K.mg K9 rfl rfl
  clear K9
  show j_V jP _ 3 39 lv [] h9 _
  exact j_V.ret yb8m_M yb8m_39 rfl rfl ⟨rfl, K⟩
set_option maxRecDepth 100000 in
theorem yb9p_M : j_meth jP 28 = some (yX3_copyFrom, cX3_copyFrom, 2, none, 1, false, 3) := rfl
set_option maxRecDepth 100000 in
theorem yb9p_0 : j_code jP 28 0 = some (.aload_n 0) := rfl
set_option maxRecDepth 100000 in
theorem yb9p_1 : j_code jP 28 1 = some (.getfield 36) := rfl
set_option maxRecDepth 100000 in
theorem yb9p_4 : j_code jP 28 4 = some (.ifCond .ne 4) := rfl
set_option maxRecDepth 100000 in
theorem yb9p_7 : j_code jP 28 7 = some (.return_) := rfl
set_option maxRecDepth 100000 in
theorem yb9p_8 : j_code jP 28 8 = some (.aload_n 1) := rfl
set_option maxRecDepth 100000 in
theorem yb9p_9 : j_code jP 28 9 = some (.getfield 9) := rfl
set_option maxRecDepth 100000 in
theorem yb9p_12 : j_code jP 28 12 = some (.iconst 0) := rfl
set_option maxRecDepth 100000 in
theorem yb9p_13 : j_code jP 28 13 = some (.aload_n 0) := rfl
set_option maxRecDepth 100000 in
theorem yb9p_14 : j_code jP 28 14 = some (.getfield 9) := rfl
set_option maxRecDepth 100000 in
theorem yb9p_17 : j_code jP 28 17 = some (.iconst 0) := rfl
set_option maxRecDepth 100000 in
theorem yb9p_18 : j_code jP 28 18 = some (.aload_n 0) := rfl
set_option maxRecDepth 100000 in
theorem yb9p_19 : j_code jP 28 19 = some (.getfield 9) := rfl
set_option maxRecDepth 100000 in
theorem yb9p_22 : j_code jP 28 22 = some (.arraylength) := rfl
set_option maxRecDepth 100000 in
theorem yb9p_23 : j_code jP 28 23 = some (.invokestatic 50) := rfl
set_option maxRecDepth 100000 in
theorem yb9p_26 : j_code jP 28 26 = some (.aload_n 1) := rfl
set_option maxRecDepth 100000 in
theorem yb9p_27 : j_code jP 28 27 = some (.getfield 15) := rfl
set_option maxRecDepth 100000 in
theorem yb9p_30 : j_code jP 28 30 = some (.iconst 0) := rfl
set_option maxRecDepth 100000 in
theorem yb9p_31 : j_code jP 28 31 = some (.aload_n 0) := rfl
set_option maxRecDepth 100000 in
theorem yb9p_32 : j_code jP 28 32 = some (.getfield 15) := rfl
set_option maxRecDepth 100000 in
theorem yb9p_35 : j_code jP 28 35 = some (.iconst 0) := rfl
set_option maxRecDepth 100000 in
theorem yb9p_36 : j_code jP 28 36 = some (.aload_n 0) := rfl
set_option maxRecDepth 100000 in
theorem yb9p_37 : j_code jP 28 37 = some (.getfield 15) := rfl
set_option maxRecDepth 100000 in
theorem yb9p_40 : j_code jP 28 40 = some (.arraylength) := rfl
set_option maxRecDepth 100000 in
theorem yb9p_41 : j_code jP 28 41 = some (.invokestatic 50) := rfl
set_option maxRecDepth 100000 in
theorem yb9p_44 : j_code jP 28 44 = some (.aload_n 1) := rfl
set_option maxRecDepth 100000 in
theorem yb9p_45 : j_code jP 28 45 = some (.getfield 18) := rfl
set_option maxRecDepth 100000 in
theorem yb9p_48 : j_code jP 28 48 = some (.iconst 0) := rfl
set_option maxRecDepth 100000 in
theorem yb9p_49 : j_code jP 28 49 = some (.aload_n 0) := rfl
set_option maxRecDepth 100000 in
theorem yb9p_50 : j_code jP 28 50 = some (.getfield 18) := rfl
set_option maxRecDepth 100000 in
theorem yb9p_53 : j_code jP 28 53 = some (.iconst 0) := rfl
set_option maxRecDepth 100000 in
theorem yb9p_54 : j_code jP 28 54 = some (.aload_n 0) := rfl
set_option maxRecDepth 100000 in
theorem yb9p_55 : j_code jP 28 55 = some (.getfield 18) := rfl
set_option maxRecDepth 100000 in
theorem yb9p_58 : j_code jP 28 58 = some (.arraylength) := rfl
set_option maxRecDepth 100000 in
theorem yb9p_59 : j_code jP 28 59 = some (.invokestatic 50) := rfl
set_option maxRecDepth 100000 in
theorem yb9p_62 : j_code jP 28 62 = some (.aload_n 1) := rfl
set_option maxRecDepth 100000 in
theorem yb9p_63 : j_code jP 28 63 = some (.getfield 21) := rfl
set_option maxRecDepth 100000 in
theorem yb9p_66 : j_code jP 28 66 = some (.iconst 0) := rfl
set_option maxRecDepth 100000 in
theorem yb9p_67 : j_code jP 28 67 = some (.aload_n 0) := rfl
set_option maxRecDepth 100000 in
theorem yb9p_68 : j_code jP 28 68 = some (.getfield 21) := rfl
set_option maxRecDepth 100000 in
theorem yb9p_71 : j_code jP 28 71 = some (.iconst 0) := rfl
set_option maxRecDepth 100000 in
theorem yb9p_72 : j_code jP 28 72 = some (.aload_n 0) := rfl
set_option maxRecDepth 100000 in
theorem yb9p_73 : j_code jP 28 73 = some (.getfield 21) := rfl
set_option maxRecDepth 100000 in
theorem yb9p_76 : j_code jP 28 76 = some (.arraylength) := rfl
set_option maxRecDepth 100000 in
theorem yb9p_77 : j_code jP 28 77 = some (.invokestatic 50) := rfl
set_option maxRecDepth 100000 in
theorem yb9p_80 : j_code jP 28 80 = some (.aload_n 1) := rfl
set_option maxRecDepth 100000 in
theorem yb9p_81 : j_code jP 28 81 = some (.getfield 24) := rfl
set_option maxRecDepth 100000 in
theorem yb9p_84 : j_code jP 28 84 = some (.iconst 0) := rfl
set_option maxRecDepth 100000 in
theorem yb9p_85 : j_code jP 28 85 = some (.aload_n 0) := rfl
set_option maxRecDepth 100000 in
theorem yb9p_86 : j_code jP 28 86 = some (.getfield 24) := rfl
set_option maxRecDepth 100000 in
theorem yb9p_89 : j_code jP 28 89 = some (.iconst 0) := rfl
set_option maxRecDepth 100000 in
theorem yb9p_90 : j_code jP 28 90 = some (.aload_n 0) := rfl
set_option maxRecDepth 100000 in
theorem yb9p_91 : j_code jP 28 91 = some (.getfield 24) := rfl
set_option maxRecDepth 100000 in
theorem yb9p_94 : j_code jP 28 94 = some (.arraylength) := rfl
set_option maxRecDepth 100000 in
theorem yb9p_95 : j_code jP 28 95 = some (.invokestatic 50) := rfl
set_option maxRecDepth 100000 in
theorem yb9p_98 : j_code jP 28 98 = some (.aload_n 1) := rfl
set_option maxRecDepth 100000 in
theorem yb9p_99 : j_code jP 28 99 = some (.getfield 27) := rfl
set_option maxRecDepth 100000 in
theorem yb9p_102 : j_code jP 28 102 = some (.iconst 0) := rfl
set_option maxRecDepth 100000 in
theorem yb9p_103 : j_code jP 28 103 = some (.aload_n 0) := rfl
set_option maxRecDepth 100000 in
theorem yb9p_104 : j_code jP 28 104 = some (.getfield 27) := rfl
set_option maxRecDepth 100000 in
theorem yb9p_107 : j_code jP 28 107 = some (.iconst 0) := rfl
set_option maxRecDepth 100000 in
theorem yb9p_108 : j_code jP 28 108 = some (.aload_n 0) := rfl
set_option maxRecDepth 100000 in
theorem yb9p_109 : j_code jP 28 109 = some (.getfield 27) := rfl
set_option maxRecDepth 100000 in
theorem yb9p_112 : j_code jP 28 112 = some (.arraylength) := rfl
set_option maxRecDepth 100000 in
theorem yb9p_113 : j_code jP 28 113 = some (.invokestatic 50) := rfl
set_option maxRecDepth 100000 in
theorem yb9p_116 : j_code jP 28 116 = some (.aload_n 1) := rfl
set_option maxRecDepth 100000 in
theorem yb9p_117 : j_code jP 28 117 = some (.getfield 30) := rfl
set_option maxRecDepth 100000 in
theorem yb9p_120 : j_code jP 28 120 = some (.iconst 0) := rfl
set_option maxRecDepth 100000 in
theorem yb9p_121 : j_code jP 28 121 = some (.aload_n 0) := rfl
set_option maxRecDepth 100000 in
theorem yb9p_122 : j_code jP 28 122 = some (.getfield 30) := rfl
set_option maxRecDepth 100000 in
theorem yb9p_125 : j_code jP 28 125 = some (.iconst 0) := rfl
set_option maxRecDepth 100000 in
theorem yb9p_126 : j_code jP 28 126 = some (.aload_n 0) := rfl
set_option maxRecDepth 100000 in
theorem yb9p_127 : j_code jP 28 127 = some (.getfield 30) := rfl
set_option maxRecDepth 100000 in
theorem yb9p_130 : j_code jP 28 130 = some (.arraylength) := rfl
set_option maxRecDepth 100000 in
theorem yb9p_131 : j_code jP 28 131 = some (.invokestatic 50) := rfl
set_option maxRecDepth 100000 in
theorem yb9p_134 : j_code jP 28 134 = some (.aload_n 1) := rfl
set_option maxRecDepth 100000 in
theorem yb9p_135 : j_code jP 28 135 = some (.getfield 33) := rfl
set_option maxRecDepth 100000 in
theorem yb9p_138 : j_code jP 28 138 = some (.iconst 0) := rfl
set_option maxRecDepth 100000 in
theorem yb9p_139 : j_code jP 28 139 = some (.aload_n 0) := rfl
set_option maxRecDepth 100000 in
theorem yb9p_140 : j_code jP 28 140 = some (.getfield 33) := rfl
set_option maxRecDepth 100000 in
theorem yb9p_143 : j_code jP 28 143 = some (.iconst 0) := rfl
set_option maxRecDepth 100000 in
theorem yb9p_144 : j_code jP 28 144 = some (.aload_n 0) := rfl
set_option maxRecDepth 100000 in
theorem yb9p_145 : j_code jP 28 145 = some (.getfield 33) := rfl
set_option maxRecDepth 100000 in
theorem yb9p_148 : j_code jP 28 148 = some (.arraylength) := rfl
set_option maxRecDepth 100000 in
theorem yb9p_149 : j_code jP 28 149 = some (.invokestatic 50) := rfl
set_option maxRecDepth 100000 in
theorem yb9p_152 : j_code jP 28 152 = some (.aload_n 0) := rfl
set_option maxRecDepth 100000 in
theorem yb9p_153 : j_code jP 28 153 = some (.aload_n 1) := rfl
set_option maxRecDepth 100000 in
theorem yb9p_154 : j_code jP 28 154 = some (.getfield 46) := rfl
set_option maxRecDepth 100000 in
theorem yb9p_157 : j_code jP 28 157 = some (.putfield 46) := rfl
set_option maxRecDepth 100000 in
theorem yb9p_160 : j_code jP 28 160 = some (.return_) := rfl
set_option maxRecDepth 1000000 in
theorem yb9p_k8 {pev : Int32} {pms : List Int32} {pmm : List Int32} {pevs : Int32} {pmss : List Int32} {pmms : List Int32} {d : Nat} {lv : J_L} {h h0 : J_H} {Q : Option Value → J_H → Prop} (L : LK lv [(0, .ref 20), (1, .ref 272)]) (K : KN h [(20, .inl (3, [.ref 21, .ref 22, .ref 23, .ref 24, .ref 25, .ref 26, .ref 27, .ref 28, .int pev, .int 1])), (21, .inr (.inl (0, pms))), (22, .inr (.inl (0, pmm))), (272, .inl (3, [.ref 273, .ref 274, .ref 275, .ref 276, .ref 277, .ref 278, .ref 279, .ref 280, .int pevs, .int 1])), (273, .inr (.inl (0, pmss))), (274, .inr (.inl (0, pmms)))] h0) (kk : ∀ lv h, LK lv [(0, .ref 20), (1, .ref 272)] → KN h [(20, .inl (3, [.ref 21, .ref 22, .ref 23, .ref 24, .ref 25, .ref 26, .ref 27, .ref 28, .int pev, .int 1])), (21, .inr (.inl (0, (aC (nI pms.length) pmss pms)))), (22, .inr (.inl (0, (aC (nI pmm.length) pmms pmm)))), (272, .inl (3, [.ref 273, .ref 274, .ref 275, .ref 276, .ref 277, .ref 278, .ref 279, .ref 280, .int pevs, .int 1])), (273, .inr (.inl (0, pmss))), (274, .inr (.inl (0, pmms)))] h0 → j_V jP d 28 44 lv [] h Q) : j_V jP d 28 8 lv [] h Q := by
  refine j_V.ldL yb9p_M yb9p_8 rfl (i := 1) (kd := 2) (v := .ref 272) (pcJ := 9) rfl L rfl rfl rfl ?_
  refine j_V.getK yb9p_M yb9p_9 (ci := 3) (j := 0) rfl K rfl rfl ?_
  refine j_V.one yb9p_M yb9p_12 (by decide) (pcJ := 13) (stJ := [.int 0, .ref 273]) rfl ?_
  refine j_V.ldL yb9p_M yb9p_13 rfl (i := 0) (kd := 2) (v := .ref 20) (pcJ := 14) rfl L rfl rfl rfl ?_
  refine j_V.getK yb9p_M yb9p_14 (ci := 3) (j := 0) rfl K rfl rfl ?_
  refine j_V.one yb9p_M yb9p_17 (by decide) (pcJ := 18) (stJ := [.int 0, .ref 21, .int 0, .ref 273]) rfl ?_
  refine j_V.ldL yb9p_M yb9p_18 rfl (i := 0) (kd := 2) (v := .ref 20) (pcJ := 19) rfl L rfl rfl rfl ?_
  refine j_V.getK yb9p_M yb9p_19 (ci := 3) (j := 0) rfl K rfl rfl ?_
  refine j_V.alnA yb9p_M yb9p_22 K rfl ?_
  refine j_V.acp yb9p_M yb9p_23 rfl rfl K rfl rfl rfl (fun h K => ?_)
  refine j_V.ldL yb9p_M yb9p_26 rfl (i := 1) (kd := 2) (v := .ref 272) (pcJ := 27) rfl L rfl rfl rfl ?_
  refine j_V.getK yb9p_M yb9p_27 (ci := 3) (j := 1) rfl K rfl rfl ?_
  refine j_V.one yb9p_M yb9p_30 (by decide) (pcJ := 31) (stJ := [.int 0, .ref 274]) rfl ?_
  refine j_V.ldL yb9p_M yb9p_31 rfl (i := 0) (kd := 2) (v := .ref 20) (pcJ := 32) rfl L rfl rfl rfl ?_
  refine j_V.getK yb9p_M yb9p_32 (ci := 3) (j := 1) rfl K rfl rfl ?_
  refine j_V.one yb9p_M yb9p_35 (by decide) (pcJ := 36) (stJ := [.int 0, .ref 22, .int 0, .ref 274]) rfl ?_
  refine j_V.ldL yb9p_M yb9p_36 rfl (i := 0) (kd := 2) (v := .ref 20) (pcJ := 37) rfl L rfl rfl rfl ?_
  refine j_V.getK yb9p_M yb9p_37 (ci := 3) (j := 1) rfl K rfl rfl ?_
  refine j_V.alnA yb9p_M yb9p_40 K rfl ?_
  refine j_V.acp yb9p_M yb9p_41 rfl rfl K rfl rfl rfl (fun h K => ?_)
  exact kk _ _ L K
set_option maxRecDepth 1000000 in
theorem yb9p_k44 {pev : Int32} {pmt : List Int32} {pst : List Int32} {pevs : Int32} {pmts : List Int32} {psts : List Int32} {d : Nat} {lv : J_L} {h h0 : J_H} {Q : Option Value → J_H → Prop} (L : LK lv [(0, .ref 20), (1, .ref 272)]) (K : KN h [(20, .inl (3, [.ref 21, .ref 22, .ref 23, .ref 24, .ref 25, .ref 26, .ref 27, .ref 28, .int pev, .int 1])), (23, .inr (.inl (0, pmt))), (24, .inr (.inl (0, pst))), (272, .inl (3, [.ref 273, .ref 274, .ref 275, .ref 276, .ref 277, .ref 278, .ref 279, .ref 280, .int pevs, .int 1])), (275, .inr (.inl (0, pmts))), (276, .inr (.inl (0, psts)))] h0) (kk : ∀ lv h, LK lv [(0, .ref 20), (1, .ref 272)] → KN h [(20, .inl (3, [.ref 21, .ref 22, .ref 23, .ref 24, .ref 25, .ref 26, .ref 27, .ref 28, .int pev, .int 1])), (23, .inr (.inl (0, (aC (nI pmt.length) pmts pmt)))), (24, .inr (.inl (0, (aC (nI pst.length) psts pst)))), (272, .inl (3, [.ref 273, .ref 274, .ref 275, .ref 276, .ref 277, .ref 278, .ref 279, .ref 280, .int pevs, .int 1])), (275, .inr (.inl (0, pmts))), (276, .inr (.inl (0, psts)))] h0 → j_V jP d 28 80 lv [] h Q) : j_V jP d 28 44 lv [] h Q := by
  refine j_V.ldL yb9p_M yb9p_44 rfl (i := 1) (kd := 2) (v := .ref 272) (pcJ := 45) rfl L rfl rfl rfl ?_
  refine j_V.getK yb9p_M yb9p_45 (ci := 3) (j := 2) rfl K rfl rfl ?_
  refine j_V.one yb9p_M yb9p_48 (by decide) (pcJ := 49) (stJ := [.int 0, .ref 275]) rfl ?_
  refine j_V.ldL yb9p_M yb9p_49 rfl (i := 0) (kd := 2) (v := .ref 20) (pcJ := 50) rfl L rfl rfl rfl ?_
  refine j_V.getK yb9p_M yb9p_50 (ci := 3) (j := 2) rfl K rfl rfl ?_
  refine j_V.one yb9p_M yb9p_53 (by decide) (pcJ := 54) (stJ := [.int 0, .ref 23, .int 0, .ref 275]) rfl ?_
  refine j_V.ldL yb9p_M yb9p_54 rfl (i := 0) (kd := 2) (v := .ref 20) (pcJ := 55) rfl L rfl rfl rfl ?_
  refine j_V.getK yb9p_M yb9p_55 (ci := 3) (j := 2) rfl K rfl rfl ?_
  refine j_V.alnA yb9p_M yb9p_58 K rfl ?_
  refine j_V.acp yb9p_M yb9p_59 rfl rfl K rfl rfl rfl (fun h K => ?_)
  refine j_V.ldL yb9p_M yb9p_62 rfl (i := 1) (kd := 2) (v := .ref 272) (pcJ := 63) rfl L rfl rfl rfl ?_
  refine j_V.getK yb9p_M yb9p_63 (ci := 3) (j := 3) rfl K rfl rfl ?_
  refine j_V.one yb9p_M yb9p_66 (by decide) (pcJ := 67) (stJ := [.int 0, .ref 276]) rfl ?_
  refine j_V.ldL yb9p_M yb9p_67 rfl (i := 0) (kd := 2) (v := .ref 20) (pcJ := 68) rfl L rfl rfl rfl ?_
  refine j_V.getK yb9p_M yb9p_68 (ci := 3) (j := 3) rfl K rfl rfl ?_
  refine j_V.one yb9p_M yb9p_71 (by decide) (pcJ := 72) (stJ := [.int 0, .ref 24, .int 0, .ref 276]) rfl ?_
  refine j_V.ldL yb9p_M yb9p_72 rfl (i := 0) (kd := 2) (v := .ref 20) (pcJ := 73) rfl L rfl rfl rfl ?_
  refine j_V.getK yb9p_M yb9p_73 (ci := 3) (j := 3) rfl K rfl rfl ?_
  refine j_V.alnA yb9p_M yb9p_76 K rfl ?_
  refine j_V.acp yb9p_M yb9p_77 rfl rfl K rfl rfl rfl (fun h K => ?_)
  exact kk _ _ L K
set_option maxRecDepth 1000000 in
theorem yb9p_k80 {pev : Int32} {pwa : List Int32} {prs : List Int32} {pevs : Int32} {pwas : List Int32} {prss : List Int32} {d : Nat} {lv : J_L} {h h0 : J_H} {Q : Option Value → J_H → Prop} (L : LK lv [(0, .ref 20), (1, .ref 272)]) (K : KN h [(20, .inl (3, [.ref 21, .ref 22, .ref 23, .ref 24, .ref 25, .ref 26, .ref 27, .ref 28, .int pev, .int 1])), (25, .inr (.inl (0, pwa))), (26, .inr (.inl (0, prs))), (272, .inl (3, [.ref 273, .ref 274, .ref 275, .ref 276, .ref 277, .ref 278, .ref 279, .ref 280, .int pevs, .int 1])), (277, .inr (.inl (0, pwas))), (278, .inr (.inl (0, prss)))] h0) (kk : ∀ lv h, LK lv [(0, .ref 20), (1, .ref 272)] → KN h [(20, .inl (3, [.ref 21, .ref 22, .ref 23, .ref 24, .ref 25, .ref 26, .ref 27, .ref 28, .int pev, .int 1])), (25, .inr (.inl (0, (aC (nI pwa.length) pwas pwa)))), (26, .inr (.inl (0, (aC (nI prs.length) prss prs)))), (272, .inl (3, [.ref 273, .ref 274, .ref 275, .ref 276, .ref 277, .ref 278, .ref 279, .ref 280, .int pevs, .int 1])), (277, .inr (.inl (0, pwas))), (278, .inr (.inl (0, prss)))] h0 → j_V jP d 28 116 lv [] h Q) : j_V jP d 28 80 lv [] h Q := by
  refine j_V.ldL yb9p_M yb9p_80 rfl (i := 1) (kd := 2) (v := .ref 272) (pcJ := 81) rfl L rfl rfl rfl ?_
  refine j_V.getK yb9p_M yb9p_81 (ci := 3) (j := 4) rfl K rfl rfl ?_
  refine j_V.one yb9p_M yb9p_84 (by decide) (pcJ := 85) (stJ := [.int 0, .ref 277]) rfl ?_
  refine j_V.ldL yb9p_M yb9p_85 rfl (i := 0) (kd := 2) (v := .ref 20) (pcJ := 86) rfl L rfl rfl rfl ?_
  refine j_V.getK yb9p_M yb9p_86 (ci := 3) (j := 4) rfl K rfl rfl ?_
  refine j_V.one yb9p_M yb9p_89 (by decide) (pcJ := 90) (stJ := [.int 0, .ref 25, .int 0, .ref 277]) rfl ?_
  refine j_V.ldL yb9p_M yb9p_90 rfl (i := 0) (kd := 2) (v := .ref 20) (pcJ := 91) rfl L rfl rfl rfl ?_
  refine j_V.getK yb9p_M yb9p_91 (ci := 3) (j := 4) rfl K rfl rfl ?_
  refine j_V.alnA yb9p_M yb9p_94 K rfl ?_
  refine j_V.acp yb9p_M yb9p_95 rfl rfl K rfl rfl rfl (fun h K => ?_)
  refine j_V.ldL yb9p_M yb9p_98 rfl (i := 1) (kd := 2) (v := .ref 272) (pcJ := 99) rfl L rfl rfl rfl ?_
  refine j_V.getK yb9p_M yb9p_99 (ci := 3) (j := 5) rfl K rfl rfl ?_
  refine j_V.one yb9p_M yb9p_102 (by decide) (pcJ := 103) (stJ := [.int 0, .ref 278]) rfl ?_
  refine j_V.ldL yb9p_M yb9p_103 rfl (i := 0) (kd := 2) (v := .ref 20) (pcJ := 104) rfl L rfl rfl rfl ?_
  refine j_V.getK yb9p_M yb9p_104 (ci := 3) (j := 5) rfl K rfl rfl ?_
  refine j_V.one yb9p_M yb9p_107 (by decide) (pcJ := 108) (stJ := [.int 0, .ref 26, .int 0, .ref 278]) rfl ?_
  refine j_V.ldL yb9p_M yb9p_108 rfl (i := 0) (kd := 2) (v := .ref 20) (pcJ := 109) rfl L rfl rfl rfl ?_
  refine j_V.getK yb9p_M yb9p_109 (ci := 3) (j := 5) rfl K rfl rfl ?_
  refine j_V.alnA yb9p_M yb9p_112 K rfl ?_
  refine j_V.acp yb9p_M yb9p_113 rfl rfl K rfl rfl rfl (fun h K => ?_)
  exact kk _ _ L K
set_option maxRecDepth 1000000 in
theorem yb9p_k116 {pev : Int32} {prr : List Int32} {pfa : List Int32} {pevs : Int32} {prrs : List Int32} {pfas : List Int32} {d : Nat} {lv : J_L} {h h0 : J_H} {Q : Option Value → J_H → Prop} (L : LK lv [(0, .ref 20), (1, .ref 272)]) (K : KN h [(20, .inl (3, [.ref 21, .ref 22, .ref 23, .ref 24, .ref 25, .ref 26, .ref 27, .ref 28, .int pev, .int 1])), (27, .inr (.inl (0, prr))), (28, .inr (.inl (0, pfa))), (272, .inl (3, [.ref 273, .ref 274, .ref 275, .ref 276, .ref 277, .ref 278, .ref 279, .ref 280, .int pevs, .int 1])), (279, .inr (.inl (0, prrs))), (280, .inr (.inl (0, pfas)))] h0) (kk : ∀ lv h, LK lv [(0, .ref 20), (1, .ref 272)] → KN h [(20, .inl (3, [.ref 21, .ref 22, .ref 23, .ref 24, .ref 25, .ref 26, .ref 27, .ref 28, .int pev, .int 1])), (27, .inr (.inl (0, (aC (nI prr.length) prrs prr)))), (28, .inr (.inl (0, (aC (nI pfa.length) pfas pfa)))), (272, .inl (3, [.ref 273, .ref 274, .ref 275, .ref 276, .ref 277, .ref 278, .ref 279, .ref 280, .int pevs, .int 1])), (279, .inr (.inl (0, prrs))), (280, .inr (.inl (0, pfas)))] h0 → j_V jP d 28 152 lv [] h Q) : j_V jP d 28 116 lv [] h Q := by
  refine j_V.ldL yb9p_M yb9p_116 rfl (i := 1) (kd := 2) (v := .ref 272) (pcJ := 117) rfl L rfl rfl rfl ?_
  refine j_V.getK yb9p_M yb9p_117 (ci := 3) (j := 6) rfl K rfl rfl ?_
  refine j_V.one yb9p_M yb9p_120 (by decide) (pcJ := 121) (stJ := [.int 0, .ref 279]) rfl ?_
  refine j_V.ldL yb9p_M yb9p_121 rfl (i := 0) (kd := 2) (v := .ref 20) (pcJ := 122) rfl L rfl rfl rfl ?_
  refine j_V.getK yb9p_M yb9p_122 (ci := 3) (j := 6) rfl K rfl rfl ?_
  refine j_V.one yb9p_M yb9p_125 (by decide) (pcJ := 126) (stJ := [.int 0, .ref 27, .int 0, .ref 279]) rfl ?_
  refine j_V.ldL yb9p_M yb9p_126 rfl (i := 0) (kd := 2) (v := .ref 20) (pcJ := 127) rfl L rfl rfl rfl ?_
  refine j_V.getK yb9p_M yb9p_127 (ci := 3) (j := 6) rfl K rfl rfl ?_
  refine j_V.alnA yb9p_M yb9p_130 K rfl ?_
  refine j_V.acp yb9p_M yb9p_131 rfl rfl K rfl rfl rfl (fun h K => ?_)
  refine j_V.ldL yb9p_M yb9p_134 rfl (i := 1) (kd := 2) (v := .ref 272) (pcJ := 135) rfl L rfl rfl rfl ?_
  refine j_V.getK yb9p_M yb9p_135 (ci := 3) (j := 7) rfl K rfl rfl ?_
  refine j_V.one yb9p_M yb9p_138 (by decide) (pcJ := 139) (stJ := [.int 0, .ref 280]) rfl ?_
  refine j_V.ldL yb9p_M yb9p_139 rfl (i := 0) (kd := 2) (v := .ref 20) (pcJ := 140) rfl L rfl rfl rfl ?_
  refine j_V.getK yb9p_M yb9p_140 (ci := 3) (j := 7) rfl K rfl rfl ?_
  refine j_V.one yb9p_M yb9p_143 (by decide) (pcJ := 144) (stJ := [.int 0, .ref 28, .int 0, .ref 280]) rfl ?_
  refine j_V.ldL yb9p_M yb9p_144 rfl (i := 0) (kd := 2) (v := .ref 20) (pcJ := 145) rfl L rfl rfl rfl ?_
  refine j_V.getK yb9p_M yb9p_145 (ci := 3) (j := 7) rfl K rfl rfl ?_
  refine j_V.alnA yb9p_M yb9p_148 K rfl ?_
  refine j_V.acp yb9p_M yb9p_149 rfl rfl K rfl rfl rfl (fun h K => ?_)
  exact kk _ _ L K
set_option maxRecDepth 1000000 in
theorem yb9p_ok {pev : Int32} {pms : List Int32} {pmm : List Int32} {pmt : List Int32} {pst : List Int32} {pwa : List Int32} {prs : List Int32} {prr : List Int32} {pfa : List Int32} {pevs : Int32} {pmss : List Int32} {pmms : List Int32} {pmts : List Int32} {psts : List Int32} {pwas : List Int32} {prss : List Int32} {prrs : List Int32} {pfas : List Int32} {d : Nat} {h h0 : J_H} (K : KN h [(20, .inl (3, [.ref 21, .ref 22, .ref 23, .ref 24, .ref 25, .ref 26, .ref 27, .ref 28, .int pev, .int 1])), (21, .inr (.inl (0, pms))), (22, .inr (.inl (0, pmm))), (23, .inr (.inl (0, pmt))), (24, .inr (.inl (0, pst))), (25, .inr (.inl (0, pwa))), (26, .inr (.inl (0, prs))), (27, .inr (.inl (0, prr))), (28, .inr (.inl (0, pfa))), (272, .inl (3, [.ref 273, .ref 274, .ref 275, .ref 276, .ref 277, .ref 278, .ref 279, .ref 280, .int pevs, .int 1])), (273, .inr (.inl (0, pmss))), (274, .inr (.inl (0, pmms))), (275, .inr (.inl (0, pmts))), (276, .inr (.inl (0, psts))), (277, .inr (.inl (0, pwas))), (278, .inr (.inl (0, prss))), (279, .inr (.inl (0, prrs))), (280, .inr (.inl (0, pfas)))] h0) : j_V jP d 28 0 (lv_args 0 [.ref 20, .ref 272]) [] h (fun rv h' => rv = none ∧ KN h' [(20, .inl (3, [.ref 21, .ref 22, .ref 23, .ref 24, .ref 25, .ref 26, .ref 27, .ref 28, .int pevs, .int 1])), (21, .inr (.inl (0, (aC (nI pms.length) pmss pms)))), (22, .inr (.inl (0, (aC (nI pmm.length) pmms pmm)))), (23, .inr (.inl (0, (aC (nI pmt.length) pmts pmt)))), (24, .inr (.inl (0, (aC (nI pst.length) psts pst)))), (25, .inr (.inl (0, (aC (nI pwa.length) pwas pwa)))), (26, .inr (.inl (0, (aC (nI prs.length) prss prs)))), (27, .inr (.inl (0, (aC (nI prr.length) prrs prr)))), (28, .inr (.inl (0, (aC (nI pfa.length) pfas pfa)))), (272, .inl (3, [.ref 273, .ref 274, .ref 275, .ref 276, .ref 277, .ref 278, .ref 279, .ref 280, .int pevs, .int 1])), (273, .inr (.inl (0, pmss))), (274, .inr (.inl (0, pmms))), (275, .inr (.inl (0, pmts))), (276, .inr (.inl (0, psts))), (277, .inr (.inl (0, pwas))), (278, .inr (.inl (0, prss))), (279, .inr (.inl (0, prrs))), (280, .inr (.inl (0, pfas)))] h0) := by
  show j_V jP d 28 0 [(0, .ref 20), (1, .ref 272)] [] h _
  obtain ⟨lv, elv, L⟩ : ∃ lv, lv = [(0, .ref 20), (1, .ref 272)] ∧ LK lv [(0, .ref 20), (1, .ref 272)] := ⟨_, rfl, LK.rf⟩
  rw [← elv]
  clear elv
  refine j_V.ldL yb9p_M yb9p_0 rfl (i := 0) (kd := 2) (v := .ref 20) (pcJ := 1) rfl L rfl rfl rfl ?_
  refine j_V.getK yb9p_M yb9p_1 (ci := 3) (j := 9) rfl K rfl rfl ?_
  refine j_V.ifc yb9p_M yb9p_4 (t := 8) rfl (fun c4_0 => ?_) (fun c4_0 => ?_)
  · replace c4_0 : ¬ ((1 : Int32) = 0) := jd_ne c4_0
    refine yb9p_k8 L (K.fi [20, 21, 22, 272, 273, 274] rfl rfl) (fun lv h9 L K9 => ?_)
    have K : KN h9 [(20, .inl (3, [.ref 21, .ref 22, .ref 23, .ref 24, .ref 25, .ref 26, .ref 27, .ref 28, .int pev, .int 1])), (21, .inr (.inl (0, (aC (nI pms.length) pmss pms)))), (22, .inr (.inl (0, (aC (nI pmm.length) pmms pmm)))), (23, .inr (.inl (0, pmt))), (24, .inr (.inl (0, pst))), (25, .inr (.inl (0, pwa))), (26, .inr (.inl (0, prs))), (27, .inr (.inl (0, prr))), (28, .inr (.inl (0, pfa))), (272, .inl (3, [.ref 273, .ref 274, .ref 275, .ref 276, .ref 277, .ref 278, .ref 279, .ref 280, .int pevs, .int 1])), (273, .inr (.inl (0, pmss))), (274, .inr (.inl (0, pmms))), (275, .inr (.inl (0, pmts))), (276, .inr (.inl (0, psts))), (277, .inr (.inl (0, pwas))), (278, .inr (.inl (0, prss))), (279, .inr (.inl (0, prrs))), (280, .inr (.inl (0, pfas)))] h0 := K.mg K9 rfl rfl
    clear K9
    refine yb9p_k44 L (K.fi [20, 23, 24, 272, 275, 276] rfl rfl) (fun lv h9 L K9 => ?_)
    have K : KN h9 [(20, .inl (3, [.ref 21, .ref 22, .ref 23, .ref 24, .ref 25, .ref 26, .ref 27, .ref 28, .int pev, .int 1])), (21, .inr (.inl (0, (aC (nI pms.length) pmss pms)))), (22, .inr (.inl (0, (aC (nI pmm.length) pmms pmm)))), (23, .inr (.inl (0, (aC (nI pmt.length) pmts pmt)))), (24, .inr (.inl (0, (aC (nI pst.length) psts pst)))), (25, .inr (.inl (0, pwa))), (26, .inr (.inl (0, prs))), (27, .inr (.inl (0, prr))), (28, .inr (.inl (0, pfa))), (272, .inl (3, [.ref 273, .ref 274, .ref 275, .ref 276, .ref 277, .ref 278, .ref 279, .ref 280, .int pevs, .int 1])), (273, .inr (.inl (0, pmss))), (274, .inr (.inl (0, pmms))), (275, .inr (.inl (0, pmts))), (276, .inr (.inl (0, psts))), (277, .inr (.inl (0, pwas))), (278, .inr (.inl (0, prss))), (279, .inr (.inl (0, prrs))), (280, .inr (.inl (0, pfas)))] h0 := K.mg K9 rfl rfl
    clear K9
    refine yb9p_k80 L (K.fi [20, 25, 26, 272, 277, 278] rfl rfl) (fun lv h9 L K9 => ?_)
    have K : KN h9 [(20, .inl (3, [.ref 21, .ref 22, .ref 23, .ref 24, .ref 25, .ref 26, .ref 27, .ref 28, .int pev, .int 1])), (21, .inr (.inl (0, (aC (nI pms.length) pmss pms)))), (22, .inr (.inl (0, (aC (nI pmm.length) pmms pmm)))), (23, .inr (.inl (0, (aC (nI pmt.length) pmts pmt)))), (24, .inr (.inl (0, (aC (nI pst.length) psts pst)))), (25, .inr (.inl (0, (aC (nI pwa.length) pwas pwa)))), (26, .inr (.inl (0, (aC (nI prs.length) prss prs)))), (27, .inr (.inl (0, prr))), (28, .inr (.inl (0, pfa))), (272, .inl (3, [.ref 273, .ref 274, .ref 275, .ref 276, .ref 277, .ref 278, .ref 279, .ref 280, .int pevs, .int 1])), (273, .inr (.inl (0, pmss))), (274, .inr (.inl (0, pmms))), (275, .inr (.inl (0, pmts))), (276, .inr (.inl (0, psts))), (277, .inr (.inl (0, pwas))), (278, .inr (.inl (0, prss))), (279, .inr (.inl (0, prrs))), (280, .inr (.inl (0, pfas)))] h0 := K.mg K9 rfl rfl
    clear K9
    refine yb9p_k116 L (K.fi [20, 27, 28, 272, 279, 280] rfl rfl) (fun lv h9 L K9 => ?_)
    have K : KN h9 [(20, .inl (3, [.ref 21, .ref 22, .ref 23, .ref 24, .ref 25, .ref 26, .ref 27, .ref 28, .int pev, .int 1])), (21, .inr (.inl (0, (aC (nI pms.length) pmss pms)))), (22, .inr (.inl (0, (aC (nI pmm.length) pmms pmm)))), (23, .inr (.inl (0, (aC (nI pmt.length) pmts pmt)))), (24, .inr (.inl (0, (aC (nI pst.length) psts pst)))), (25, .inr (.inl (0, (aC (nI pwa.length) pwas pwa)))), (26, .inr (.inl (0, (aC (nI prs.length) prss prs)))), (27, .inr (.inl (0, (aC (nI prr.length) prrs prr)))), (28, .inr (.inl (0, (aC (nI pfa.length) pfas pfa)))), (272, .inl (3, [.ref 273, .ref 274, .ref 275, .ref 276, .ref 277, .ref 278, .ref 279, .ref 280, .int pevs, .int 1])), (273, .inr (.inl (0, pmss))), (274, .inr (.inl (0, pmms))), (275, .inr (.inl (0, pmts))), (276, .inr (.inl (0, psts))), (277, .inr (.inl (0, pwas))), (278, .inr (.inl (0, prss))), (279, .inr (.inl (0, prrs))), (280, .inr (.inl (0, pfas)))] h0 := K.mg K9 rfl rfl
    clear K9
    refine j_V.ldL yb9p_M yb9p_152 rfl (i := 0) (kd := 2) (v := .ref 20) (pcJ := 153) rfl L rfl rfl rfl ?_
    refine j_V.ldL yb9p_M yb9p_153 rfl (i := 1) (kd := 2) (v := .ref 272) (pcJ := 154) rfl L rfl rfl rfl ?_
    refine j_V.getK yb9p_M yb9p_154 (ci := 3) (j := 8) rfl K rfl rfl ?_
    refine j_V.putK yb9p_M yb9p_157 (ci := 3) (j := 8) (k' := [(20, .inl (3, [.ref 21, .ref 22, .ref 23, .ref 24, .ref 25, .ref 26, .ref 27, .ref 28, .int pevs, .int 1])), (21, .inr (.inl (0, (aC (nI pms.length) pmss pms)))), (22, .inr (.inl (0, (aC (nI pmm.length) pmms pmm)))), (23, .inr (.inl (0, (aC (nI pmt.length) pmts pmt)))), (24, .inr (.inl (0, (aC (nI pst.length) psts pst)))), (25, .inr (.inl (0, (aC (nI pwa.length) pwas pwa)))), (26, .inr (.inl (0, (aC (nI prs.length) prss prs)))), (27, .inr (.inl (0, (aC (nI prr.length) prrs prr)))), (28, .inr (.inl (0, (aC (nI pfa.length) pfas pfa)))), (272, .inl (3, [.ref 273, .ref 274, .ref 275, .ref 276, .ref 277, .ref 278, .ref 279, .ref 280, .int pevs, .int 1])), (273, .inr (.inl (0, pmss))), (274, .inr (.inl (0, pmms))), (275, .inr (.inl (0, pmts))), (276, .inr (.inl (0, psts))), (277, .inr (.inl (0, pwas))), (278, .inr (.inl (0, prss))), (279, .inr (.inl (0, prrs))), (280, .inr (.inl (0, pfas)))]) rfl K rfl (Nat.le_of_ble_eq_true rfl) rfl (Or.inl rfl) rfl rfl (fun h K => ?_)
    exact j_V.ret yb9p_M yb9p_160 rfl rfl ⟨rfl, K⟩
  · replace c4_0 : (1 : Int32) = 0 := jd_nen c4_0
    exact absurd c4_0 (by decide)
set_option maxRecDepth 100000 in
theorem yb9s_M : j_meth jP 61 = some (yX7_copyFrom, cX7_copyFrom, 2, none, 1, false, 7) := rfl
set_option maxRecDepth 100000 in
theorem yb9s_0 : j_code jP 61 0 = some (.aload_n 0) := rfl
set_option maxRecDepth 100000 in
theorem yb9s_1 : j_code jP 61 1 = some (.aload_n 1) := rfl
set_option maxRecDepth 100000 in
theorem yb9s_2 : j_code jP 61 2 = some (.getfield 64) := rfl
set_option maxRecDepth 100000 in
theorem yb9s_5 : j_code jP 61 5 = some (.putfield 64) := rfl
set_option maxRecDepth 100000 in
theorem yb9s_8 : j_code jP 61 8 = some (.aload_n 0) := rfl
set_option maxRecDepth 100000 in
theorem yb9s_9 : j_code jP 61 9 = some (.aload_n 1) := rfl
set_option maxRecDepth 100000 in
theorem yb9s_10 : j_code jP 61 10 = some (.getfield 68) := rfl
set_option maxRecDepth 100000 in
theorem yb9s_13 : j_code jP 61 13 = some (.putfield 68) := rfl
set_option maxRecDepth 100000 in
theorem yb9s_16 : j_code jP 61 16 = some (.aload_n 0) := rfl
set_option maxRecDepth 100000 in
theorem yb9s_17 : j_code jP 61 17 = some (.aload_n 1) := rfl
set_option maxRecDepth 100000 in
theorem yb9s_18 : j_code jP 61 18 = some (.getfield 72) := rfl
set_option maxRecDepth 100000 in
theorem yb9s_21 : j_code jP 61 21 = some (.putfield 72) := rfl
set_option maxRecDepth 100000 in
theorem yb9s_24 : j_code jP 61 24 = some (.aload_n 0) := rfl
set_option maxRecDepth 100000 in
theorem yb9s_25 : j_code jP 61 25 = some (.aload_n 1) := rfl
set_option maxRecDepth 100000 in
theorem yb9s_26 : j_code jP 61 26 = some (.getfield 75) := rfl
set_option maxRecDepth 100000 in
theorem yb9s_29 : j_code jP 61 29 = some (.putfield 75) := rfl
set_option maxRecDepth 100000 in
theorem yb9s_32 : j_code jP 61 32 = some (.aload_n 0) := rfl
set_option maxRecDepth 100000 in
theorem yb9s_33 : j_code jP 61 33 = some (.aload_n 1) := rfl
set_option maxRecDepth 100000 in
theorem yb9s_34 : j_code jP 61 34 = some (.getfield 78) := rfl
set_option maxRecDepth 100000 in
theorem yb9s_37 : j_code jP 61 37 = some (.putfield 78) := rfl
set_option maxRecDepth 100000 in
theorem yb9s_40 : j_code jP 61 40 = some (.aload_n 1) := rfl
set_option maxRecDepth 100000 in
theorem yb9s_41 : j_code jP 61 41 = some (.getfield 9) := rfl
set_option maxRecDepth 100000 in
theorem yb9s_44 : j_code jP 61 44 = some (.iconst 0) := rfl
set_option maxRecDepth 100000 in
theorem yb9s_45 : j_code jP 61 45 = some (.aload_n 0) := rfl
set_option maxRecDepth 100000 in
theorem yb9s_46 : j_code jP 61 46 = some (.getfield 9) := rfl
set_option maxRecDepth 100000 in
theorem yb9s_49 : j_code jP 61 49 = some (.iconst 0) := rfl
set_option maxRecDepth 100000 in
theorem yb9s_50 : j_code jP 61 50 = some (.iconst 5) := rfl
set_option maxRecDepth 100000 in
theorem yb9s_51 : j_code jP 61 51 = some (.invokestatic 84) := rfl
set_option maxRecDepth 100000 in
theorem yb9s_54 : j_code jP 61 54 = some (.aload_n 1) := rfl
set_option maxRecDepth 100000 in
theorem yb9s_55 : j_code jP 61 55 = some (.getfield 15) := rfl
set_option maxRecDepth 100000 in
theorem yb9s_58 : j_code jP 61 58 = some (.iconst 0) := rfl
set_option maxRecDepth 100000 in
theorem yb9s_59 : j_code jP 61 59 = some (.aload_n 0) := rfl
set_option maxRecDepth 100000 in
theorem yb9s_60 : j_code jP 61 60 = some (.getfield 15) := rfl
set_option maxRecDepth 100000 in
theorem yb9s_63 : j_code jP 61 63 = some (.iconst 0) := rfl
set_option maxRecDepth 100000 in
theorem yb9s_64 : j_code jP 61 64 = some (.iconst 5) := rfl
set_option maxRecDepth 100000 in
theorem yb9s_65 : j_code jP 61 65 = some (.invokestatic 84) := rfl
set_option maxRecDepth 100000 in
theorem yb9s_68 : j_code jP 61 68 = some (.aload_n 1) := rfl
set_option maxRecDepth 100000 in
theorem yb9s_69 : j_code jP 61 69 = some (.getfield 18) := rfl
set_option maxRecDepth 100000 in
theorem yb9s_72 : j_code jP 61 72 = some (.iconst 0) := rfl
set_option maxRecDepth 100000 in
theorem yb9s_73 : j_code jP 61 73 = some (.aload_n 0) := rfl
set_option maxRecDepth 100000 in
theorem yb9s_74 : j_code jP 61 74 = some (.getfield 18) := rfl
set_option maxRecDepth 100000 in
theorem yb9s_77 : j_code jP 61 77 = some (.iconst 0) := rfl
set_option maxRecDepth 100000 in
theorem yb9s_78 : j_code jP 61 78 = some (.iconst 5) := rfl
set_option maxRecDepth 100000 in
theorem yb9s_79 : j_code jP 61 79 = some (.invokestatic 84) := rfl
set_option maxRecDepth 100000 in
theorem yb9s_82 : j_code jP 61 82 = some (.aload_n 1) := rfl
set_option maxRecDepth 100000 in
theorem yb9s_83 : j_code jP 61 83 = some (.getfield 21) := rfl
set_option maxRecDepth 100000 in
theorem yb9s_86 : j_code jP 61 86 = some (.iconst 0) := rfl
set_option maxRecDepth 100000 in
theorem yb9s_87 : j_code jP 61 87 = some (.aload_n 0) := rfl
set_option maxRecDepth 100000 in
theorem yb9s_88 : j_code jP 61 88 = some (.getfield 21) := rfl
set_option maxRecDepth 100000 in
theorem yb9s_91 : j_code jP 61 91 = some (.iconst 0) := rfl
set_option maxRecDepth 100000 in
theorem yb9s_92 : j_code jP 61 92 = some (.iconst 5) := rfl
set_option maxRecDepth 100000 in
theorem yb9s_93 : j_code jP 61 93 = some (.invokestatic 84) := rfl
set_option maxRecDepth 100000 in
theorem yb9s_96 : j_code jP 61 96 = some (.aload_n 1) := rfl
set_option maxRecDepth 100000 in
theorem yb9s_97 : j_code jP 61 97 = some (.getfield 24) := rfl
set_option maxRecDepth 100000 in
theorem yb9s_100 : j_code jP 61 100 = some (.iconst 0) := rfl
set_option maxRecDepth 100000 in
theorem yb9s_101 : j_code jP 61 101 = some (.aload_n 0) := rfl
set_option maxRecDepth 100000 in
theorem yb9s_102 : j_code jP 61 102 = some (.getfield 24) := rfl
set_option maxRecDepth 100000 in
theorem yb9s_105 : j_code jP 61 105 = some (.iconst 0) := rfl
set_option maxRecDepth 100000 in
theorem yb9s_106 : j_code jP 61 106 = some (.iconst 5) := rfl
set_option maxRecDepth 100000 in
theorem yb9s_107 : j_code jP 61 107 = some (.invokestatic 84) := rfl
set_option maxRecDepth 100000 in
theorem yb9s_110 : j_code jP 61 110 = some (.aload_n 1) := rfl
set_option maxRecDepth 100000 in
theorem yb9s_111 : j_code jP 61 111 = some (.getfield 27) := rfl
set_option maxRecDepth 100000 in
theorem yb9s_114 : j_code jP 61 114 = some (.iconst 0) := rfl
set_option maxRecDepth 100000 in
theorem yb9s_115 : j_code jP 61 115 = some (.aload_n 0) := rfl
set_option maxRecDepth 100000 in
theorem yb9s_116 : j_code jP 61 116 = some (.getfield 27) := rfl
set_option maxRecDepth 100000 in
theorem yb9s_119 : j_code jP 61 119 = some (.iconst 0) := rfl
set_option maxRecDepth 100000 in
theorem yb9s_120 : j_code jP 61 120 = some (.iconst 5) := rfl
set_option maxRecDepth 100000 in
theorem yb9s_121 : j_code jP 61 121 = some (.invokestatic 84) := rfl
set_option maxRecDepth 100000 in
theorem yb9s_124 : j_code jP 61 124 = some (.aload_n 1) := rfl
set_option maxRecDepth 100000 in
theorem yb9s_125 : j_code jP 61 125 = some (.getfield 30) := rfl
set_option maxRecDepth 100000 in
theorem yb9s_128 : j_code jP 61 128 = some (.iconst 0) := rfl
set_option maxRecDepth 100000 in
theorem yb9s_129 : j_code jP 61 129 = some (.aload_n 0) := rfl
set_option maxRecDepth 100000 in
theorem yb9s_130 : j_code jP 61 130 = some (.getfield 30) := rfl
set_option maxRecDepth 100000 in
theorem yb9s_133 : j_code jP 61 133 = some (.iconst 0) := rfl
set_option maxRecDepth 100000 in
theorem yb9s_134 : j_code jP 61 134 = some (.iconst 5) := rfl
set_option maxRecDepth 100000 in
theorem yb9s_135 : j_code jP 61 135 = some (.invokestatic 84) := rfl
set_option maxRecDepth 100000 in
theorem yb9s_138 : j_code jP 61 138 = some (.aload_n 1) := rfl
set_option maxRecDepth 100000 in
theorem yb9s_139 : j_code jP 61 139 = some (.getfield 33) := rfl
set_option maxRecDepth 100000 in
theorem yb9s_142 : j_code jP 61 142 = some (.iconst 0) := rfl
set_option maxRecDepth 100000 in
theorem yb9s_143 : j_code jP 61 143 = some (.aload_n 0) := rfl
set_option maxRecDepth 100000 in
theorem yb9s_144 : j_code jP 61 144 = some (.getfield 33) := rfl
set_option maxRecDepth 100000 in
theorem yb9s_147 : j_code jP 61 147 = some (.iconst 0) := rfl
set_option maxRecDepth 100000 in
theorem yb9s_148 : j_code jP 61 148 = some (.bipush 6) := rfl
set_option maxRecDepth 100000 in
theorem yb9s_150 : j_code jP 61 150 = some (.invokestatic 84) := rfl
set_option maxRecDepth 100000 in
theorem yb9s_153 : j_code jP 61 153 = some (.aload_n 1) := rfl
set_option maxRecDepth 100000 in
theorem yb9s_154 : j_code jP 61 154 = some (.getfield 36) := rfl
set_option maxRecDepth 100000 in
theorem yb9s_157 : j_code jP 61 157 = some (.iconst 0) := rfl
set_option maxRecDepth 100000 in
theorem yb9s_158 : j_code jP 61 158 = some (.aload_n 0) := rfl
set_option maxRecDepth 100000 in
theorem yb9s_159 : j_code jP 61 159 = some (.getfield 36) := rfl
set_option maxRecDepth 100000 in
theorem yb9s_162 : j_code jP 61 162 = some (.iconst 0) := rfl
set_option maxRecDepth 100000 in
theorem yb9s_163 : j_code jP 61 163 = some (.bipush 6) := rfl
set_option maxRecDepth 100000 in
theorem yb9s_165 : j_code jP 61 165 = some (.invokestatic 84) := rfl
set_option maxRecDepth 100000 in
theorem yb9s_168 : j_code jP 61 168 = some (.aload_n 1) := rfl
set_option maxRecDepth 100000 in
theorem yb9s_169 : j_code jP 61 169 = some (.getfield 39) := rfl
set_option maxRecDepth 100000 in
theorem yb9s_172 : j_code jP 61 172 = some (.iconst 0) := rfl
set_option maxRecDepth 100000 in
theorem yb9s_173 : j_code jP 61 173 = some (.aload_n 0) := rfl
set_option maxRecDepth 100000 in
theorem yb9s_174 : j_code jP 61 174 = some (.getfield 39) := rfl
set_option maxRecDepth 100000 in
theorem yb9s_177 : j_code jP 61 177 = some (.iconst 0) := rfl
set_option maxRecDepth 100000 in
theorem yb9s_178 : j_code jP 61 178 = some (.aload_n 0) := rfl
set_option maxRecDepth 100000 in
theorem yb9s_179 : j_code jP 61 179 = some (.getfield 39) := rfl
set_option maxRecDepth 100000 in
theorem yb9s_182 : j_code jP 61 182 = some (.arraylength) := rfl
set_option maxRecDepth 100000 in
theorem yb9s_183 : j_code jP 61 183 = some (.invokestatic 84) := rfl
set_option maxRecDepth 100000 in
theorem yb9s_186 : j_code jP 61 186 = some (.aload_n 1) := rfl
set_option maxRecDepth 100000 in
theorem yb9s_187 : j_code jP 61 187 = some (.getfield 42) := rfl
set_option maxRecDepth 100000 in
theorem yb9s_190 : j_code jP 61 190 = some (.iconst 0) := rfl
set_option maxRecDepth 100000 in
theorem yb9s_191 : j_code jP 61 191 = some (.aload_n 0) := rfl
set_option maxRecDepth 100000 in
theorem yb9s_192 : j_code jP 61 192 = some (.getfield 42) := rfl
set_option maxRecDepth 100000 in
theorem yb9s_195 : j_code jP 61 195 = some (.iconst 0) := rfl
set_option maxRecDepth 100000 in
theorem yb9s_196 : j_code jP 61 196 = some (.aload_n 0) := rfl
set_option maxRecDepth 100000 in
theorem yb9s_197 : j_code jP 61 197 = some (.getfield 42) := rfl
set_option maxRecDepth 100000 in
theorem yb9s_200 : j_code jP 61 200 = some (.arraylength) := rfl
set_option maxRecDepth 100000 in
theorem yb9s_201 : j_code jP 61 201 = some (.invokestatic 84) := rfl
set_option maxRecDepth 100000 in
theorem yb9s_204 : j_code jP 61 204 = some (.aload_n 1) := rfl
set_option maxRecDepth 100000 in
theorem yb9s_205 : j_code jP 61 205 = some (.getfield 45) := rfl
set_option maxRecDepth 100000 in
theorem yb9s_208 : j_code jP 61 208 = some (.iconst 0) := rfl
set_option maxRecDepth 100000 in
theorem yb9s_209 : j_code jP 61 209 = some (.aload_n 0) := rfl
set_option maxRecDepth 100000 in
theorem yb9s_210 : j_code jP 61 210 = some (.getfield 45) := rfl
set_option maxRecDepth 100000 in
theorem yb9s_213 : j_code jP 61 213 = some (.iconst 0) := rfl
set_option maxRecDepth 100000 in
theorem yb9s_214 : j_code jP 61 214 = some (.aload_n 0) := rfl
set_option maxRecDepth 100000 in
theorem yb9s_215 : j_code jP 61 215 = some (.getfield 45) := rfl
set_option maxRecDepth 100000 in
theorem yb9s_218 : j_code jP 61 218 = some (.arraylength) := rfl
set_option maxRecDepth 100000 in
theorem yb9s_219 : j_code jP 61 219 = some (.invokestatic 84) := rfl
set_option maxRecDepth 100000 in
theorem yb9s_222 : j_code jP 61 222 = some (.aload_n 0) := rfl
set_option maxRecDepth 100000 in
theorem yb9s_223 : j_code jP 61 223 = some (.getfield 60) := rfl
set_option maxRecDepth 100000 in
theorem yb9s_226 : j_code jP 61 226 = some (.aload_n 1) := rfl
set_option maxRecDepth 100000 in
theorem yb9s_227 : j_code jP 61 227 = some (.getfield 60) := rfl
set_option maxRecDepth 100000 in
theorem yb9s_230 : j_code jP 61 230 = some (.invokevirtual 108) := rfl
set_option maxRecDepth 100000 in
theorem yb9s_233 : j_code jP 61 233 = some (.return_) := rfl
set_option maxRecDepth 1000000 in
theorem yb9s_k0 {ly : Value} {mi : Int32} {shu : Int32} {bus : Int32} {lks : Int32} {lys : Nat} {mis : Int32} {shus : Int32} {buss : Int32} {lkss : Int32} {d : Nat} {lv : J_L} {h h0 : J_H} {Q : Option Value → J_H → Prop} (L : LK lv [(0, .ref 4), (1, .ref 256)]) (K : KN h [(4, .inl (7, [ly, .int mi, .int shu, .int bus, .ref 5, .ref 6, .ref 7, .ref 8, .ref 9, .ref 10, .ref 11, .ref 12, .ref 13, .ref 14, .ref 15, .int lks, .ref 16, .ref 17, .ref 20])), (256, .inl (7, [.ref lys, .int mis, .int shus, .int buss, .ref 257, .ref 258, .ref 259, .ref 260, .ref 261, .ref 262, .ref 263, .ref 264, .ref 265, .ref 266, .ref 267, .int lkss, .ref 268, .ref 269, .ref 272]))] h0) (kk : ∀ lv h, LK lv [(0, .ref 4), (1, .ref 256)] → KN h [(4, .inl (7, [.ref lys, .int mis, .int shus, .int buss, .ref 5, .ref 6, .ref 7, .ref 8, .ref 9, .ref 10, .ref 11, .ref 12, .ref 13, .ref 14, .ref 15, .int lkss, .ref 16, .ref 17, .ref 20])), (256, .inl (7, [.ref lys, .int mis, .int shus, .int buss, .ref 257, .ref 258, .ref 259, .ref 260, .ref 261, .ref 262, .ref 263, .ref 264, .ref 265, .ref 266, .ref 267, .int lkss, .ref 268, .ref 269, .ref 272]))] h0 → j_V jP d 61 40 lv [] h Q) : j_V jP d 61 0 lv [] h Q := by
  refine j_V.ldL yb9s_M yb9s_0 rfl (i := 0) (kd := 2) (v := .ref 4) (pcJ := 1) rfl L rfl rfl rfl ?_
  refine j_V.ldL yb9s_M yb9s_1 rfl (i := 1) (kd := 2) (v := .ref 256) (pcJ := 2) rfl L rfl rfl rfl ?_
  refine j_V.getK yb9s_M yb9s_2 (ci := 7) (j := 0) rfl K rfl rfl ?_
  refine j_V.putK yb9s_M yb9s_5 (ci := 7) (j := 0) (k' := [(4, .inl (7, [.ref lys, .int mi, .int shu, .int bus, .ref 5, .ref 6, .ref 7, .ref 8, .ref 9, .ref 10, .ref 11, .ref 12, .ref 13, .ref 14, .ref 15, .int lks, .ref 16, .ref 17, .ref 20])), (256, .inl (7, [.ref lys, .int mis, .int shus, .int buss, .ref 257, .ref 258, .ref 259, .ref 260, .ref 261, .ref 262, .ref 263, .ref 264, .ref 265, .ref 266, .ref 267, .int lkss, .ref 268, .ref 269, .ref 272]))]) rfl K rfl (Nat.le_of_ble_eq_true rfl) rfl (Or.inl rfl) rfl rfl (fun h K => ?_)
  refine j_V.ldL yb9s_M yb9s_8 rfl (i := 0) (kd := 2) (v := .ref 4) (pcJ := 9) rfl L rfl rfl rfl ?_
  refine j_V.ldL yb9s_M yb9s_9 rfl (i := 1) (kd := 2) (v := .ref 256) (pcJ := 10) rfl L rfl rfl rfl ?_
  refine j_V.getK yb9s_M yb9s_10 (ci := 7) (j := 1) rfl K rfl rfl ?_
  refine j_V.putK yb9s_M yb9s_13 (ci := 7) (j := 1) (k' := [(4, .inl (7, [.ref lys, .int mis, .int shu, .int bus, .ref 5, .ref 6, .ref 7, .ref 8, .ref 9, .ref 10, .ref 11, .ref 12, .ref 13, .ref 14, .ref 15, .int lks, .ref 16, .ref 17, .ref 20])), (256, .inl (7, [.ref lys, .int mis, .int shus, .int buss, .ref 257, .ref 258, .ref 259, .ref 260, .ref 261, .ref 262, .ref 263, .ref 264, .ref 265, .ref 266, .ref 267, .int lkss, .ref 268, .ref 269, .ref 272]))]) rfl K rfl (Nat.le_of_ble_eq_true rfl) rfl (Or.inl rfl) rfl rfl (fun h K => ?_)
  refine j_V.ldL yb9s_M yb9s_16 rfl (i := 0) (kd := 2) (v := .ref 4) (pcJ := 17) rfl L rfl rfl rfl ?_
  refine j_V.ldL yb9s_M yb9s_17 rfl (i := 1) (kd := 2) (v := .ref 256) (pcJ := 18) rfl L rfl rfl rfl ?_
  refine j_V.getK yb9s_M yb9s_18 (ci := 7) (j := 2) rfl K rfl rfl ?_
  refine j_V.putK yb9s_M yb9s_21 (ci := 7) (j := 2) (k' := [(4, .inl (7, [.ref lys, .int mis, .int shus, .int bus, .ref 5, .ref 6, .ref 7, .ref 8, .ref 9, .ref 10, .ref 11, .ref 12, .ref 13, .ref 14, .ref 15, .int lks, .ref 16, .ref 17, .ref 20])), (256, .inl (7, [.ref lys, .int mis, .int shus, .int buss, .ref 257, .ref 258, .ref 259, .ref 260, .ref 261, .ref 262, .ref 263, .ref 264, .ref 265, .ref 266, .ref 267, .int lkss, .ref 268, .ref 269, .ref 272]))]) rfl K rfl (Nat.le_of_ble_eq_true rfl) rfl (Or.inl rfl) rfl rfl (fun h K => ?_)
  refine j_V.ldL yb9s_M yb9s_24 rfl (i := 0) (kd := 2) (v := .ref 4) (pcJ := 25) rfl L rfl rfl rfl ?_
  refine j_V.ldL yb9s_M yb9s_25 rfl (i := 1) (kd := 2) (v := .ref 256) (pcJ := 26) rfl L rfl rfl rfl ?_
  refine j_V.getK yb9s_M yb9s_26 (ci := 7) (j := 3) rfl K rfl rfl ?_
  refine j_V.putK yb9s_M yb9s_29 (ci := 7) (j := 3) (k' := [(4, .inl (7, [.ref lys, .int mis, .int shus, .int buss, .ref 5, .ref 6, .ref 7, .ref 8, .ref 9, .ref 10, .ref 11, .ref 12, .ref 13, .ref 14, .ref 15, .int lks, .ref 16, .ref 17, .ref 20])), (256, .inl (7, [.ref lys, .int mis, .int shus, .int buss, .ref 257, .ref 258, .ref 259, .ref 260, .ref 261, .ref 262, .ref 263, .ref 264, .ref 265, .ref 266, .ref 267, .int lkss, .ref 268, .ref 269, .ref 272]))]) rfl K rfl (Nat.le_of_ble_eq_true rfl) rfl (Or.inl rfl) rfl rfl (fun h K => ?_)
  refine j_V.ldL yb9s_M yb9s_32 rfl (i := 0) (kd := 2) (v := .ref 4) (pcJ := 33) rfl L rfl rfl rfl ?_
  refine j_V.ldL yb9s_M yb9s_33 rfl (i := 1) (kd := 2) (v := .ref 256) (pcJ := 34) rfl L rfl rfl rfl ?_
  refine j_V.getK yb9s_M yb9s_34 (ci := 7) (j := 15) rfl K rfl rfl ?_
  refine j_V.putK yb9s_M yb9s_37 (ci := 7) (j := 15) (k' := [(4, .inl (7, [.ref lys, .int mis, .int shus, .int buss, .ref 5, .ref 6, .ref 7, .ref 8, .ref 9, .ref 10, .ref 11, .ref 12, .ref 13, .ref 14, .ref 15, .int lkss, .ref 16, .ref 17, .ref 20])), (256, .inl (7, [.ref lys, .int mis, .int shus, .int buss, .ref 257, .ref 258, .ref 259, .ref 260, .ref 261, .ref 262, .ref 263, .ref 264, .ref 265, .ref 266, .ref 267, .int lkss, .ref 268, .ref 269, .ref 272]))]) rfl K rfl (Nat.le_of_ble_eq_true rfl) rfl (Or.inl rfl) rfl rfl (fun h K => ?_)
  exact kk _ _ L K
set_option maxRecDepth 1000000 in
theorem yb9s_k40 {rk : List Int32} {sta : List Int32} {ph : List Int32} {lys : Nat} {mis : Int32} {shus : Int32} {buss : Int32} {lkss : Int32} {rks : List Int32} {stas : List Int32} {phs : List Int32} {d : Nat} {lv : J_L} {h h0 : J_H} {Q : Option Value → J_H → Prop} (L : LK lv [(0, .ref 4), (1, .ref 256)]) (K : KN h [(4, .inl (7, [.ref lys, .int mis, .int shus, .int buss, .ref 5, .ref 6, .ref 7, .ref 8, .ref 9, .ref 10, .ref 11, .ref 12, .ref 13, .ref 14, .ref 15, .int lkss, .ref 16, .ref 17, .ref 20])), (5, .inr (.inl (0, rk))), (6, .inr (.inl (0, sta))), (7, .inr (.inl (0, ph))), (256, .inl (7, [.ref lys, .int mis, .int shus, .int buss, .ref 257, .ref 258, .ref 259, .ref 260, .ref 261, .ref 262, .ref 263, .ref 264, .ref 265, .ref 266, .ref 267, .int lkss, .ref 268, .ref 269, .ref 272])), (257, .inr (.inl (0, rks))), (258, .inr (.inl (0, stas))), (259, .inr (.inl (0, phs)))] h0) (kk : ∀ lv h, LK lv [(0, .ref 4), (1, .ref 256)] → KN h [(4, .inl (7, [.ref lys, .int mis, .int shus, .int buss, .ref 5, .ref 6, .ref 7, .ref 8, .ref 9, .ref 10, .ref 11, .ref 12, .ref 13, .ref 14, .ref 15, .int lkss, .ref 16, .ref 17, .ref 20])), (5, .inr (.inl (0, (aC 5 rks rk)))), (6, .inr (.inl (0, (aC 5 stas sta)))), (7, .inr (.inl (0, (aC 5 phs ph)))), (256, .inl (7, [.ref lys, .int mis, .int shus, .int buss, .ref 257, .ref 258, .ref 259, .ref 260, .ref 261, .ref 262, .ref 263, .ref 264, .ref 265, .ref 266, .ref 267, .int lkss, .ref 268, .ref 269, .ref 272])), (257, .inr (.inl (0, rks))), (258, .inr (.inl (0, stas))), (259, .inr (.inl (0, phs)))] h0 → j_V jP d 61 82 lv [] h Q) : j_V jP d 61 40 lv [] h Q := by
  refine j_V.ldL yb9s_M yb9s_40 rfl (i := 1) (kd := 2) (v := .ref 256) (pcJ := 41) rfl L rfl rfl rfl ?_
  refine j_V.getK yb9s_M yb9s_41 (ci := 7) (j := 4) rfl K rfl rfl ?_
  refine j_V.one yb9s_M yb9s_44 (by decide) (pcJ := 45) (stJ := [.int 0, .ref 257]) rfl ?_
  refine j_V.ldL yb9s_M yb9s_45 rfl (i := 0) (kd := 2) (v := .ref 4) (pcJ := 46) rfl L rfl rfl rfl ?_
  refine j_V.getK yb9s_M yb9s_46 (ci := 7) (j := 4) rfl K rfl rfl ?_
  refine j_V.one yb9s_M yb9s_49 (by decide) (pcJ := 50) (stJ := [.int 0, .ref 5, .int 0, .ref 257]) rfl ?_
  refine j_V.one yb9s_M yb9s_50 (by decide) (pcJ := 51) (stJ := [.int 5, .int 0, .ref 5, .int 0, .ref 257]) rfl ?_
  refine j_V.acp yb9s_M yb9s_51 rfl rfl K rfl rfl rfl (fun h K => ?_)
  refine j_V.ldL yb9s_M yb9s_54 rfl (i := 1) (kd := 2) (v := .ref 256) (pcJ := 55) rfl L rfl rfl rfl ?_
  refine j_V.getK yb9s_M yb9s_55 (ci := 7) (j := 5) rfl K rfl rfl ?_
  refine j_V.one yb9s_M yb9s_58 (by decide) (pcJ := 59) (stJ := [.int 0, .ref 258]) rfl ?_
  refine j_V.ldL yb9s_M yb9s_59 rfl (i := 0) (kd := 2) (v := .ref 4) (pcJ := 60) rfl L rfl rfl rfl ?_
  refine j_V.getK yb9s_M yb9s_60 (ci := 7) (j := 5) rfl K rfl rfl ?_
  refine j_V.one yb9s_M yb9s_63 (by decide) (pcJ := 64) (stJ := [.int 0, .ref 6, .int 0, .ref 258]) rfl ?_
  refine j_V.one yb9s_M yb9s_64 (by decide) (pcJ := 65) (stJ := [.int 5, .int 0, .ref 6, .int 0, .ref 258]) rfl ?_
  refine j_V.acp yb9s_M yb9s_65 rfl rfl K rfl rfl rfl (fun h K => ?_)
  refine j_V.ldL yb9s_M yb9s_68 rfl (i := 1) (kd := 2) (v := .ref 256) (pcJ := 69) rfl L rfl rfl rfl ?_
  refine j_V.getK yb9s_M yb9s_69 (ci := 7) (j := 6) rfl K rfl rfl ?_
  refine j_V.one yb9s_M yb9s_72 (by decide) (pcJ := 73) (stJ := [.int 0, .ref 259]) rfl ?_
  refine j_V.ldL yb9s_M yb9s_73 rfl (i := 0) (kd := 2) (v := .ref 4) (pcJ := 74) rfl L rfl rfl rfl ?_
  refine j_V.getK yb9s_M yb9s_74 (ci := 7) (j := 6) rfl K rfl rfl ?_
  refine j_V.one yb9s_M yb9s_77 (by decide) (pcJ := 78) (stJ := [.int 0, .ref 7, .int 0, .ref 259]) rfl ?_
  refine j_V.one yb9s_M yb9s_78 (by decide) (pcJ := 79) (stJ := [.int 5, .int 0, .ref 7, .int 0, .ref 259]) rfl ?_
  refine j_V.acp yb9s_M yb9s_79 rfl rfl K rfl rfl rfl (fun h K => ?_)
  exact kk _ _ L K
set_option maxRecDepth 1000000 in
theorem yb9s_k82 {sp : List Int32} {ce : List Int32} {du : List Int32} {lys : Nat} {mis : Int32} {shus : Int32} {buss : Int32} {lkss : Int32} {sps : List Int32} {ces : List Int32} {dus : List Int32} {d : Nat} {lv : J_L} {h h0 : J_H} {Q : Option Value → J_H → Prop} (L : LK lv [(0, .ref 4), (1, .ref 256)]) (K : KN h [(4, .inl (7, [.ref lys, .int mis, .int shus, .int buss, .ref 5, .ref 6, .ref 7, .ref 8, .ref 9, .ref 10, .ref 11, .ref 12, .ref 13, .ref 14, .ref 15, .int lkss, .ref 16, .ref 17, .ref 20])), (8, .inr (.inl (0, sp))), (9, .inr (.inl (0, ce))), (10, .inr (.inl (0, du))), (256, .inl (7, [.ref lys, .int mis, .int shus, .int buss, .ref 257, .ref 258, .ref 259, .ref 260, .ref 261, .ref 262, .ref 263, .ref 264, .ref 265, .ref 266, .ref 267, .int lkss, .ref 268, .ref 269, .ref 272])), (260, .inr (.inl (0, sps))), (261, .inr (.inl (0, ces))), (262, .inr (.inl (0, dus)))] h0) (kk : ∀ lv h, LK lv [(0, .ref 4), (1, .ref 256)] → KN h [(4, .inl (7, [.ref lys, .int mis, .int shus, .int buss, .ref 5, .ref 6, .ref 7, .ref 8, .ref 9, .ref 10, .ref 11, .ref 12, .ref 13, .ref 14, .ref 15, .int lkss, .ref 16, .ref 17, .ref 20])), (8, .inr (.inl (0, (aC 5 sps sp)))), (9, .inr (.inl (0, (aC 5 ces ce)))), (10, .inr (.inl (0, (aC 5 dus du)))), (256, .inl (7, [.ref lys, .int mis, .int shus, .int buss, .ref 257, .ref 258, .ref 259, .ref 260, .ref 261, .ref 262, .ref 263, .ref 264, .ref 265, .ref 266, .ref 267, .int lkss, .ref 268, .ref 269, .ref 272])), (260, .inr (.inl (0, sps))), (261, .inr (.inl (0, ces))), (262, .inr (.inl (0, dus)))] h0 → j_V jP d 61 124 lv [] h Q) : j_V jP d 61 82 lv [] h Q := by
  refine j_V.ldL yb9s_M yb9s_82 rfl (i := 1) (kd := 2) (v := .ref 256) (pcJ := 83) rfl L rfl rfl rfl ?_
  refine j_V.getK yb9s_M yb9s_83 (ci := 7) (j := 7) rfl K rfl rfl ?_
  refine j_V.one yb9s_M yb9s_86 (by decide) (pcJ := 87) (stJ := [.int 0, .ref 260]) rfl ?_
  refine j_V.ldL yb9s_M yb9s_87 rfl (i := 0) (kd := 2) (v := .ref 4) (pcJ := 88) rfl L rfl rfl rfl ?_
  refine j_V.getK yb9s_M yb9s_88 (ci := 7) (j := 7) rfl K rfl rfl ?_
  refine j_V.one yb9s_M yb9s_91 (by decide) (pcJ := 92) (stJ := [.int 0, .ref 8, .int 0, .ref 260]) rfl ?_
  refine j_V.one yb9s_M yb9s_92 (by decide) (pcJ := 93) (stJ := [.int 5, .int 0, .ref 8, .int 0, .ref 260]) rfl ?_
  refine j_V.acp yb9s_M yb9s_93 rfl rfl K rfl rfl rfl (fun h K => ?_)
  refine j_V.ldL yb9s_M yb9s_96 rfl (i := 1) (kd := 2) (v := .ref 256) (pcJ := 97) rfl L rfl rfl rfl ?_
  refine j_V.getK yb9s_M yb9s_97 (ci := 7) (j := 8) rfl K rfl rfl ?_
  refine j_V.one yb9s_M yb9s_100 (by decide) (pcJ := 101) (stJ := [.int 0, .ref 261]) rfl ?_
  refine j_V.ldL yb9s_M yb9s_101 rfl (i := 0) (kd := 2) (v := .ref 4) (pcJ := 102) rfl L rfl rfl rfl ?_
  refine j_V.getK yb9s_M yb9s_102 (ci := 7) (j := 8) rfl K rfl rfl ?_
  refine j_V.one yb9s_M yb9s_105 (by decide) (pcJ := 106) (stJ := [.int 0, .ref 9, .int 0, .ref 261]) rfl ?_
  refine j_V.one yb9s_M yb9s_106 (by decide) (pcJ := 107) (stJ := [.int 5, .int 0, .ref 9, .int 0, .ref 261]) rfl ?_
  refine j_V.acp yb9s_M yb9s_107 rfl rfl K rfl rfl rfl (fun h K => ?_)
  refine j_V.ldL yb9s_M yb9s_110 rfl (i := 1) (kd := 2) (v := .ref 256) (pcJ := 111) rfl L rfl rfl rfl ?_
  refine j_V.getK yb9s_M yb9s_111 (ci := 7) (j := 9) rfl K rfl rfl ?_
  refine j_V.one yb9s_M yb9s_114 (by decide) (pcJ := 115) (stJ := [.int 0, .ref 262]) rfl ?_
  refine j_V.ldL yb9s_M yb9s_115 rfl (i := 0) (kd := 2) (v := .ref 4) (pcJ := 116) rfl L rfl rfl rfl ?_
  refine j_V.getK yb9s_M yb9s_116 (ci := 7) (j := 9) rfl K rfl rfl ?_
  refine j_V.one yb9s_M yb9s_119 (by decide) (pcJ := 120) (stJ := [.int 0, .ref 10, .int 0, .ref 262]) rfl ?_
  refine j_V.one yb9s_M yb9s_120 (by decide) (pcJ := 121) (stJ := [.int 5, .int 0, .ref 10, .int 0, .ref 262]) rfl ?_
  refine j_V.acp yb9s_M yb9s_121 rfl rfl K rfl rfl rfl (fun h K => ?_)
  exact kk _ _ L K
set_option maxRecDepth 1000000 in
theorem yb9s_k124 {he : List Int32} {ri : List Int32} {us : List Int32} {lys : Nat} {mis : Int32} {shus : Int32} {buss : Int32} {lkss : Int32} {hes : List Int32} {ris : List Int32} {uss : List Int32} {d : Nat} {lv : J_L} {h h0 : J_H} {Q : Option Value → J_H → Prop} (L : LK lv [(0, .ref 4), (1, .ref 256)]) (K : KN h [(4, .inl (7, [.ref lys, .int mis, .int shus, .int buss, .ref 5, .ref 6, .ref 7, .ref 8, .ref 9, .ref 10, .ref 11, .ref 12, .ref 13, .ref 14, .ref 15, .int lkss, .ref 16, .ref 17, .ref 20])), (11, .inr (.inl (0, he))), (12, .inr (.inl (0, ri))), (13, .inr (.inl (0, us))), (256, .inl (7, [.ref lys, .int mis, .int shus, .int buss, .ref 257, .ref 258, .ref 259, .ref 260, .ref 261, .ref 262, .ref 263, .ref 264, .ref 265, .ref 266, .ref 267, .int lkss, .ref 268, .ref 269, .ref 272])), (263, .inr (.inl (0, hes))), (264, .inr (.inl (0, ris))), (265, .inr (.inl (0, uss)))] h0) (kk : ∀ lv h, LK lv [(0, .ref 4), (1, .ref 256)] → KN h [(4, .inl (7, [.ref lys, .int mis, .int shus, .int buss, .ref 5, .ref 6, .ref 7, .ref 8, .ref 9, .ref 10, .ref 11, .ref 12, .ref 13, .ref 14, .ref 15, .int lkss, .ref 16, .ref 17, .ref 20])), (11, .inr (.inl (0, (aC 5 hes he)))), (12, .inr (.inl (0, (aC 6 ris ri)))), (13, .inr (.inl (0, (aC 6 uss us)))), (256, .inl (7, [.ref lys, .int mis, .int shus, .int buss, .ref 257, .ref 258, .ref 259, .ref 260, .ref 261, .ref 262, .ref 263, .ref 264, .ref 265, .ref 266, .ref 267, .int lkss, .ref 268, .ref 269, .ref 272])), (263, .inr (.inl (0, hes))), (264, .inr (.inl (0, ris))), (265, .inr (.inl (0, uss)))] h0 → j_V jP d 61 168 lv [] h Q) : j_V jP d 61 124 lv [] h Q := by
  refine j_V.ldL yb9s_M yb9s_124 rfl (i := 1) (kd := 2) (v := .ref 256) (pcJ := 125) rfl L rfl rfl rfl ?_
  refine j_V.getK yb9s_M yb9s_125 (ci := 7) (j := 10) rfl K rfl rfl ?_
  refine j_V.one yb9s_M yb9s_128 (by decide) (pcJ := 129) (stJ := [.int 0, .ref 263]) rfl ?_
  refine j_V.ldL yb9s_M yb9s_129 rfl (i := 0) (kd := 2) (v := .ref 4) (pcJ := 130) rfl L rfl rfl rfl ?_
  refine j_V.getK yb9s_M yb9s_130 (ci := 7) (j := 10) rfl K rfl rfl ?_
  refine j_V.one yb9s_M yb9s_133 (by decide) (pcJ := 134) (stJ := [.int 0, .ref 11, .int 0, .ref 263]) rfl ?_
  refine j_V.one yb9s_M yb9s_134 (by decide) (pcJ := 135) (stJ := [.int 5, .int 0, .ref 11, .int 0, .ref 263]) rfl ?_
  refine j_V.acp yb9s_M yb9s_135 rfl rfl K rfl rfl rfl (fun h K => ?_)
  refine j_V.ldL yb9s_M yb9s_138 rfl (i := 1) (kd := 2) (v := .ref 256) (pcJ := 139) rfl L rfl rfl rfl ?_
  refine j_V.getK yb9s_M yb9s_139 (ci := 7) (j := 11) rfl K rfl rfl ?_
  refine j_V.one yb9s_M yb9s_142 (by decide) (pcJ := 143) (stJ := [.int 0, .ref 264]) rfl ?_
  refine j_V.ldL yb9s_M yb9s_143 rfl (i := 0) (kd := 2) (v := .ref 4) (pcJ := 144) rfl L rfl rfl rfl ?_
  refine j_V.getK yb9s_M yb9s_144 (ci := 7) (j := 11) rfl K rfl rfl ?_
  refine j_V.one yb9s_M yb9s_147 (by decide) (pcJ := 148) (stJ := [.int 0, .ref 12, .int 0, .ref 264]) rfl ?_
  refine j_V.one yb9s_M yb9s_148 (by decide) (pcJ := 150) (stJ := [.int 6, .int 0, .ref 12, .int 0, .ref 264]) rfl ?_
  refine j_V.acp yb9s_M yb9s_150 rfl rfl K rfl rfl rfl (fun h K => ?_)
  refine j_V.ldL yb9s_M yb9s_153 rfl (i := 1) (kd := 2) (v := .ref 256) (pcJ := 154) rfl L rfl rfl rfl ?_
  refine j_V.getK yb9s_M yb9s_154 (ci := 7) (j := 12) rfl K rfl rfl ?_
  refine j_V.one yb9s_M yb9s_157 (by decide) (pcJ := 158) (stJ := [.int 0, .ref 265]) rfl ?_
  refine j_V.ldL yb9s_M yb9s_158 rfl (i := 0) (kd := 2) (v := .ref 4) (pcJ := 159) rfl L rfl rfl rfl ?_
  refine j_V.getK yb9s_M yb9s_159 (ci := 7) (j := 12) rfl K rfl rfl ?_
  refine j_V.one yb9s_M yb9s_162 (by decide) (pcJ := 163) (stJ := [.int 0, .ref 13, .int 0, .ref 265]) rfl ?_
  refine j_V.one yb9s_M yb9s_163 (by decide) (pcJ := 165) (stJ := [.int 6, .int 0, .ref 13, .int 0, .ref 265]) rfl ?_
  refine j_V.acp yb9s_M yb9s_165 rfl rfl K rfl rfl rfl (fun h K => ?_)
  exact kk _ _ L K
set_option maxRecDepth 1000000 in
theorem yb9s_k168 {cm : List Int32} {lf : List Int32} {lkd : List Int32} {lys : Nat} {mis : Int32} {shus : Int32} {buss : Int32} {lkss : Int32} {cms : List Int32} {lfs : List Int32} {lkds : List Int32} {d : Nat} {lv : J_L} {h h0 : J_H} {Q : Option Value → J_H → Prop} (L : LK lv [(0, .ref 4), (1, .ref 256)]) (K : KN h [(4, .inl (7, [.ref lys, .int mis, .int shus, .int buss, .ref 5, .ref 6, .ref 7, .ref 8, .ref 9, .ref 10, .ref 11, .ref 12, .ref 13, .ref 14, .ref 15, .int lkss, .ref 16, .ref 17, .ref 20])), (14, .inr (.inl (0, cm))), (15, .inr (.inl (0, lf))), (16, .inr (.inl (0, lkd))), (256, .inl (7, [.ref lys, .int mis, .int shus, .int buss, .ref 257, .ref 258, .ref 259, .ref 260, .ref 261, .ref 262, .ref 263, .ref 264, .ref 265, .ref 266, .ref 267, .int lkss, .ref 268, .ref 269, .ref 272])), (266, .inr (.inl (0, cms))), (267, .inr (.inl (0, lfs))), (268, .inr (.inl (0, lkds)))] h0) (kk : ∀ lv h, LK lv [(0, .ref 4), (1, .ref 256)] → KN h [(4, .inl (7, [.ref lys, .int mis, .int shus, .int buss, .ref 5, .ref 6, .ref 7, .ref 8, .ref 9, .ref 10, .ref 11, .ref 12, .ref 13, .ref 14, .ref 15, .int lkss, .ref 16, .ref 17, .ref 20])), (14, .inr (.inl (0, (aC (nI cm.length) cms cm)))), (15, .inr (.inl (0, (aC (nI lf.length) lfs lf)))), (16, .inr (.inl (0, (aC (nI lkd.length) lkds lkd)))), (256, .inl (7, [.ref lys, .int mis, .int shus, .int buss, .ref 257, .ref 258, .ref 259, .ref 260, .ref 261, .ref 262, .ref 263, .ref 264, .ref 265, .ref 266, .ref 267, .int lkss, .ref 268, .ref 269, .ref 272])), (266, .inr (.inl (0, cms))), (267, .inr (.inl (0, lfs))), (268, .inr (.inl (0, lkds)))] h0 → j_V jP d 61 222 lv [] h Q) : j_V jP d 61 168 lv [] h Q := by
  refine j_V.ldL yb9s_M yb9s_168 rfl (i := 1) (kd := 2) (v := .ref 256) (pcJ := 169) rfl L rfl rfl rfl ?_
  refine j_V.getK yb9s_M yb9s_169 (ci := 7) (j := 13) rfl K rfl rfl ?_
  refine j_V.one yb9s_M yb9s_172 (by decide) (pcJ := 173) (stJ := [.int 0, .ref 266]) rfl ?_
  refine j_V.ldL yb9s_M yb9s_173 rfl (i := 0) (kd := 2) (v := .ref 4) (pcJ := 174) rfl L rfl rfl rfl ?_
  refine j_V.getK yb9s_M yb9s_174 (ci := 7) (j := 13) rfl K rfl rfl ?_
  refine j_V.one yb9s_M yb9s_177 (by decide) (pcJ := 178) (stJ := [.int 0, .ref 14, .int 0, .ref 266]) rfl ?_
  refine j_V.ldL yb9s_M yb9s_178 rfl (i := 0) (kd := 2) (v := .ref 4) (pcJ := 179) rfl L rfl rfl rfl ?_
  refine j_V.getK yb9s_M yb9s_179 (ci := 7) (j := 13) rfl K rfl rfl ?_
  refine j_V.alnA yb9s_M yb9s_182 K rfl ?_
  refine j_V.acp yb9s_M yb9s_183 rfl rfl K rfl rfl rfl (fun h K => ?_)
  refine j_V.ldL yb9s_M yb9s_186 rfl (i := 1) (kd := 2) (v := .ref 256) (pcJ := 187) rfl L rfl rfl rfl ?_
  refine j_V.getK yb9s_M yb9s_187 (ci := 7) (j := 14) rfl K rfl rfl ?_
  refine j_V.one yb9s_M yb9s_190 (by decide) (pcJ := 191) (stJ := [.int 0, .ref 267]) rfl ?_
  refine j_V.ldL yb9s_M yb9s_191 rfl (i := 0) (kd := 2) (v := .ref 4) (pcJ := 192) rfl L rfl rfl rfl ?_
  refine j_V.getK yb9s_M yb9s_192 (ci := 7) (j := 14) rfl K rfl rfl ?_
  refine j_V.one yb9s_M yb9s_195 (by decide) (pcJ := 196) (stJ := [.int 0, .ref 15, .int 0, .ref 267]) rfl ?_
  refine j_V.ldL yb9s_M yb9s_196 rfl (i := 0) (kd := 2) (v := .ref 4) (pcJ := 197) rfl L rfl rfl rfl ?_
  refine j_V.getK yb9s_M yb9s_197 (ci := 7) (j := 14) rfl K rfl rfl ?_
  refine j_V.alnA yb9s_M yb9s_200 K rfl ?_
  refine j_V.acp yb9s_M yb9s_201 rfl rfl K rfl rfl rfl (fun h K => ?_)
  refine j_V.ldL yb9s_M yb9s_204 rfl (i := 1) (kd := 2) (v := .ref 256) (pcJ := 205) rfl L rfl rfl rfl ?_
  refine j_V.getK yb9s_M yb9s_205 (ci := 7) (j := 16) rfl K rfl rfl ?_
  refine j_V.one yb9s_M yb9s_208 (by decide) (pcJ := 209) (stJ := [.int 0, .ref 268]) rfl ?_
  refine j_V.ldL yb9s_M yb9s_209 rfl (i := 0) (kd := 2) (v := .ref 4) (pcJ := 210) rfl L rfl rfl rfl ?_
  refine j_V.getK yb9s_M yb9s_210 (ci := 7) (j := 16) rfl K rfl rfl ?_
  refine j_V.one yb9s_M yb9s_213 (by decide) (pcJ := 214) (stJ := [.int 0, .ref 16, .int 0, .ref 268]) rfl ?_
  refine j_V.ldL yb9s_M yb9s_214 rfl (i := 0) (kd := 2) (v := .ref 4) (pcJ := 215) rfl L rfl rfl rfl ?_
  refine j_V.getK yb9s_M yb9s_215 (ci := 7) (j := 16) rfl K rfl rfl ?_
  refine j_V.alnA yb9s_M yb9s_218 K rfl ?_
  refine j_V.acp yb9s_M yb9s_219 rfl rfl K rfl rfl rfl (fun h K => ?_)
  exact kk _ _ L K
set_option maxRecDepth 1000000 in
theorem yb9s_ok {ly : Value} {mi : Int32} {shu : Int32} {bus : Int32} {lks : Int32} {rk : List Int32} {sta : List Int32} {ph : List Int32} {sp : List Int32} {ce : List Int32} {du : List Int32} {he : List Int32} {ri : List Int32} {us : List Int32} {cm : List Int32} {lf : List Int32} {lkd : List Int32} {pev : Int32} {pms : List Int32} {pmm : List Int32} {pmt : List Int32} {pst : List Int32} {pwa : List Int32} {prs : List Int32} {prr : List Int32} {pfa : List Int32} {lys : Nat} {mis : Int32} {shus : Int32} {buss : Int32} {lkss : Int32} {rks : List Int32} {stas : List Int32} {phs : List Int32} {sps : List Int32} {ces : List Int32} {dus : List Int32} {hes : List Int32} {ris : List Int32} {uss : List Int32} {cms : List Int32} {lfs : List Int32} {lkds : List Int32} {pevs : Int32} {pmss : List Int32} {pmms : List Int32} {pmts : List Int32} {psts : List Int32} {pwas : List Int32} {prss : List Int32} {prrs : List Int32} {pfas : List Int32} {d : Nat} {h h0 : J_H} (K : KN h [(4, .inl (7, [ly, .int mi, .int shu, .int bus, .ref 5, .ref 6, .ref 7, .ref 8, .ref 9, .ref 10, .ref 11, .ref 12, .ref 13, .ref 14, .ref 15, .int lks, .ref 16, .ref 17, .ref 20])), (5, .inr (.inl (0, rk))), (6, .inr (.inl (0, sta))), (7, .inr (.inl (0, ph))), (8, .inr (.inl (0, sp))), (9, .inr (.inl (0, ce))), (10, .inr (.inl (0, du))), (11, .inr (.inl (0, he))), (12, .inr (.inl (0, ri))), (13, .inr (.inl (0, us))), (14, .inr (.inl (0, cm))), (15, .inr (.inl (0, lf))), (16, .inr (.inl (0, lkd))), (20, .inl (3, [.ref 21, .ref 22, .ref 23, .ref 24, .ref 25, .ref 26, .ref 27, .ref 28, .int pev, .int 1])), (21, .inr (.inl (0, pms))), (22, .inr (.inl (0, pmm))), (23, .inr (.inl (0, pmt))), (24, .inr (.inl (0, pst))), (25, .inr (.inl (0, pwa))), (26, .inr (.inl (0, prs))), (27, .inr (.inl (0, prr))), (28, .inr (.inl (0, pfa))), (256, .inl (7, [.ref lys, .int mis, .int shus, .int buss, .ref 257, .ref 258, .ref 259, .ref 260, .ref 261, .ref 262, .ref 263, .ref 264, .ref 265, .ref 266, .ref 267, .int lkss, .ref 268, .ref 269, .ref 272])), (257, .inr (.inl (0, rks))), (258, .inr (.inl (0, stas))), (259, .inr (.inl (0, phs))), (260, .inr (.inl (0, sps))), (261, .inr (.inl (0, ces))), (262, .inr (.inl (0, dus))), (263, .inr (.inl (0, hes))), (264, .inr (.inl (0, ris))), (265, .inr (.inl (0, uss))), (266, .inr (.inl (0, cms))), (267, .inr (.inl (0, lfs))), (268, .inr (.inl (0, lkds))), (272, .inl (3, [.ref 273, .ref 274, .ref 275, .ref 276, .ref 277, .ref 278, .ref 279, .ref 280, .int pevs, .int 1])), (273, .inr (.inl (0, pmss))), (274, .inr (.inl (0, pmms))), (275, .inr (.inl (0, pmts))), (276, .inr (.inl (0, psts))), (277, .inr (.inl (0, pwas))), (278, .inr (.inl (0, prss))), (279, .inr (.inl (0, prrs))), (280, .inr (.inl (0, pfas)))] h0) : j_V jP d 61 0 (lv_args 0 [.ref 4, .ref 256]) [] h (fun rv h' => rv = none ∧ KN h' [(4, .inl (7, [.ref lys, .int mis, .int shus, .int buss, .ref 5, .ref 6, .ref 7, .ref 8, .ref 9, .ref 10, .ref 11, .ref 12, .ref 13, .ref 14, .ref 15, .int lkss, .ref 16, .ref 17, .ref 20])), (5, .inr (.inl (0, (aC 5 rks rk)))), (6, .inr (.inl (0, (aC 5 stas sta)))), (7, .inr (.inl (0, (aC 5 phs ph)))), (8, .inr (.inl (0, (aC 5 sps sp)))), (9, .inr (.inl (0, (aC 5 ces ce)))), (10, .inr (.inl (0, (aC 5 dus du)))), (11, .inr (.inl (0, (aC 5 hes he)))), (12, .inr (.inl (0, (aC 6 ris ri)))), (13, .inr (.inl (0, (aC 6 uss us)))), (14, .inr (.inl (0, (aC (nI cm.length) cms cm)))), (15, .inr (.inl (0, (aC (nI lf.length) lfs lf)))), (16, .inr (.inl (0, (aC (nI lkd.length) lkds lkd)))), (20, .inl (3, [.ref 21, .ref 22, .ref 23, .ref 24, .ref 25, .ref 26, .ref 27, .ref 28, .int pevs, .int 1])), (21, .inr (.inl (0, (aC (nI pms.length) pmss pms)))), (22, .inr (.inl (0, (aC (nI pmm.length) pmms pmm)))), (23, .inr (.inl (0, (aC (nI pmt.length) pmts pmt)))), (24, .inr (.inl (0, (aC (nI pst.length) psts pst)))), (25, .inr (.inl (0, (aC (nI pwa.length) pwas pwa)))), (26, .inr (.inl (0, (aC (nI prs.length) prss prs)))), (27, .inr (.inl (0, (aC (nI prr.length) prrs prr)))), (28, .inr (.inl (0, (aC (nI pfa.length) pfas pfa)))), (256, .inl (7, [.ref lys, .int mis, .int shus, .int buss, .ref 257, .ref 258, .ref 259, .ref 260, .ref 261, .ref 262, .ref 263, .ref 264, .ref 265, .ref 266, .ref 267, .int lkss, .ref 268, .ref 269, .ref 272])), (257, .inr (.inl (0, rks))), (258, .inr (.inl (0, stas))), (259, .inr (.inl (0, phs))), (260, .inr (.inl (0, sps))), (261, .inr (.inl (0, ces))), (262, .inr (.inl (0, dus))), (263, .inr (.inl (0, hes))), (264, .inr (.inl (0, ris))), (265, .inr (.inl (0, uss))), (266, .inr (.inl (0, cms))), (267, .inr (.inl (0, lfs))), (268, .inr (.inl (0, lkds))), (272, .inl (3, [.ref 273, .ref 274, .ref 275, .ref 276, .ref 277, .ref 278, .ref 279, .ref 280, .int pevs, .int 1])), (273, .inr (.inl (0, pmss))), (274, .inr (.inl (0, pmms))), (275, .inr (.inl (0, pmts))), (276, .inr (.inl (0, psts))), (277, .inr (.inl (0, pwas))), (278, .inr (.inl (0, prss))), (279, .inr (.inl (0, prrs))), (280, .inr (.inl (0, pfas)))] h0) := by
  show j_V jP d 61 0 [(0, .ref 4), (1, .ref 256)] [] h _
  obtain ⟨lv, elv, L⟩ : ∃ lv, lv = [(0, .ref 4), (1, .ref 256)] ∧ LK lv [(0, .ref 4), (1, .ref 256)] := ⟨_, rfl, LK.rf⟩
  rw [← elv]
  clear elv
  refine yb9s_k0 L (K.fi [4, 256] rfl rfl) (fun lv h9 L K9 => ?_)
  have K : KN h9 [(4, .inl (7, [.ref lys, .int mis, .int shus, .int buss, .ref 5, .ref 6, .ref 7, .ref 8, .ref 9, .ref 10, .ref 11, .ref 12, .ref 13, .ref 14, .ref 15, .int lkss, .ref 16, .ref 17, .ref 20])), (5, .inr (.inl (0, rk))), (6, .inr (.inl (0, sta))), (7, .inr (.inl (0, ph))), (8, .inr (.inl (0, sp))), (9, .inr (.inl (0, ce))), (10, .inr (.inl (0, du))), (11, .inr (.inl (0, he))), (12, .inr (.inl (0, ri))), (13, .inr (.inl (0, us))), (14, .inr (.inl (0, cm))), (15, .inr (.inl (0, lf))), (16, .inr (.inl (0, lkd))), (20, .inl (3, [.ref 21, .ref 22, .ref 23, .ref 24, .ref 25, .ref 26, .ref 27, .ref 28, .int pev, .int 1])), (21, .inr (.inl (0, pms))), (22, .inr (.inl (0, pmm))), (23, .inr (.inl (0, pmt))), (24, .inr (.inl (0, pst))), (25, .inr (.inl (0, pwa))), (26, .inr (.inl (0, prs))), (27, .inr (.inl (0, prr))), (28, .inr (.inl (0, pfa))), (256, .inl (7, [.ref lys, .int mis, .int shus, .int buss, .ref 257, .ref 258, .ref 259, .ref 260, .ref 261, .ref 262, .ref 263, .ref 264, .ref 265, .ref 266, .ref 267, .int lkss, .ref 268, .ref 269, .ref 272])), (257, .inr (.inl (0, rks))), (258, .inr (.inl (0, stas))), (259, .inr (.inl (0, phs))), (260, .inr (.inl (0, sps))), (261, .inr (.inl (0, ces))), (262, .inr (.inl (0, dus))), (263, .inr (.inl (0, hes))), (264, .inr (.inl (0, ris))), (265, .inr (.inl (0, uss))), (266, .inr (.inl (0, cms))), (267, .inr (.inl (0, lfs))), (268, .inr (.inl (0, lkds))), (272, .inl (3, [.ref 273, .ref 274, .ref 275, .ref 276, .ref 277, .ref 278, .ref 279, .ref 280, .int pevs, .int 1])), (273, .inr (.inl (0, pmss))), (274, .inr (.inl (0, pmms))), (275, .inr (.inl (0, pmts))), (276, .inr (.inl (0, psts))), (277, .inr (.inl (0, pwas))), (278, .inr (.inl (0, prss))), (279, .inr (.inl (0, prrs))), (280, .inr (.inl (0, pfas)))] h0 := K.mg K9 rfl rfl
  clear K9
  refine yb9s_k40 L (K.fi [4, 5, 6, 7, 256, 257, 258, 259] rfl rfl) (fun lv h9 L K9 => ?_)
  have K : KN h9 [(4, .inl (7, [.ref lys, .int mis, .int shus, .int buss, .ref 5, .ref 6, .ref 7, .ref 8, .ref 9, .ref 10, .ref 11, .ref 12, .ref 13, .ref 14, .ref 15, .int lkss, .ref 16, .ref 17, .ref 20])), (5, .inr (.inl (0, (aC 5 rks rk)))), (6, .inr (.inl (0, (aC 5 stas sta)))), (7, .inr (.inl (0, (aC 5 phs ph)))), (8, .inr (.inl (0, sp))), (9, .inr (.inl (0, ce))), (10, .inr (.inl (0, du))), (11, .inr (.inl (0, he))), (12, .inr (.inl (0, ri))), (13, .inr (.inl (0, us))), (14, .inr (.inl (0, cm))), (15, .inr (.inl (0, lf))), (16, .inr (.inl (0, lkd))), (20, .inl (3, [.ref 21, .ref 22, .ref 23, .ref 24, .ref 25, .ref 26, .ref 27, .ref 28, .int pev, .int 1])), (21, .inr (.inl (0, pms))), (22, .inr (.inl (0, pmm))), (23, .inr (.inl (0, pmt))), (24, .inr (.inl (0, pst))), (25, .inr (.inl (0, pwa))), (26, .inr (.inl (0, prs))), (27, .inr (.inl (0, prr))), (28, .inr (.inl (0, pfa))), (256, .inl (7, [.ref lys, .int mis, .int shus, .int buss, .ref 257, .ref 258, .ref 259, .ref 260, .ref 261, .ref 262, .ref 263, .ref 264, .ref 265, .ref 266, .ref 267, .int lkss, .ref 268, .ref 269, .ref 272])), (257, .inr (.inl (0, rks))), (258, .inr (.inl (0, stas))), (259, .inr (.inl (0, phs))), (260, .inr (.inl (0, sps))), (261, .inr (.inl (0, ces))), (262, .inr (.inl (0, dus))), (263, .inr (.inl (0, hes))), (264, .inr (.inl (0, ris))), (265, .inr (.inl (0, uss))), (266, .inr (.inl (0, cms))), (267, .inr (.inl (0, lfs))), (268, .inr (.inl (0, lkds))), (272, .inl (3, [.ref 273, .ref 274, .ref 275, .ref 276, .ref 277, .ref 278, .ref 279, .ref 280, .int pevs, .int 1])), (273, .inr (.inl (0, pmss))), (274, .inr (.inl (0, pmms))), (275, .inr (.inl (0, pmts))), (276, .inr (.inl (0, psts))), (277, .inr (.inl (0, pwas))), (278, .inr (.inl (0, prss))), (279, .inr (.inl (0, prrs))), (280, .inr (.inl (0, pfas)))] h0 := K.mg K9 rfl rfl
  clear K9
  refine yb9s_k82 L (K.fi [4, 8, 9, 10, 256, 260, 261, 262] rfl rfl) (fun lv h9 L K9 => ?_)
  have K : KN h9 [(4, .inl (7, [.ref lys, .int mis, .int shus, .int buss, .ref 5, .ref 6, .ref 7, .ref 8, .ref 9, .ref 10, .ref 11, .ref 12, .ref 13, .ref 14, .ref 15, .int lkss, .ref 16, .ref 17, .ref 20])), (5, .inr (.inl (0, (aC 5 rks rk)))), (6, .inr (.inl (0, (aC 5 stas sta)))), (7, .inr (.inl (0, (aC 5 phs ph)))), (8, .inr (.inl (0, (aC 5 sps sp)))), (9, .inr (.inl (0, (aC 5 ces ce)))), (10, .inr (.inl (0, (aC 5 dus du)))), (11, .inr (.inl (0, he))), (12, .inr (.inl (0, ri))), (13, .inr (.inl (0, us))), (14, .inr (.inl (0, cm))), (15, .inr (.inl (0, lf))), (16, .inr (.inl (0, lkd))), (20, .inl (3, [.ref 21, .ref 22, .ref 23, .ref 24, .ref 25, .ref 26, .ref 27, .ref 28, .int pev, .int 1])), (21, .inr (.inl (0, pms))), (22, .inr (.inl (0, pmm))), (23, .inr (.inl (0, pmt))), (24, .inr (.inl (0, pst))), (25, .inr (.inl (0, pwa))), (26, .inr (.inl (0, prs))), (27, .inr (.inl (0, prr))), (28, .inr (.inl (0, pfa))), (256, .inl (7, [.ref lys, .int mis, .int shus, .int buss, .ref 257, .ref 258, .ref 259, .ref 260, .ref 261, .ref 262, .ref 263, .ref 264, .ref 265, .ref 266, .ref 267, .int lkss, .ref 268, .ref 269, .ref 272])), (257, .inr (.inl (0, rks))), (258, .inr (.inl (0, stas))), (259, .inr (.inl (0, phs))), (260, .inr (.inl (0, sps))), (261, .inr (.inl (0, ces))), (262, .inr (.inl (0, dus))), (263, .inr (.inl (0, hes))), (264, .inr (.inl (0, ris))), (265, .inr (.inl (0, uss))), (266, .inr (.inl (0, cms))), (267, .inr (.inl (0, lfs))), (268, .inr (.inl (0, lkds))), (272, .inl (3, [.ref 273, .ref 274, .ref 275, .ref 276, .ref 277, .ref 278, .ref 279, .ref 280, .int pevs, .int 1])), (273, .inr (.inl (0, pmss))), (274, .inr (.inl (0, pmms))), (275, .inr (.inl (0, pmts))), (276, .inr (.inl (0, psts))), (277, .inr (.inl (0, pwas))), (278, .inr (.inl (0, prss))), (279, .inr (.inl (0, prrs))), (280, .inr (.inl (0, pfas)))] h0 := K.mg K9 rfl rfl
  clear K9
  refine yb9s_k124 L (K.fi [4, 11, 12, 13, 256, 263, 264, 265] rfl rfl) (fun lv h9 L K9 => ?_)
  have K : KN h9 [(4, .inl (7, [.ref lys, .int mis, .int shus, .int buss, .ref 5, .ref 6, .ref 7, .ref 8, .ref 9, .ref 10, .ref 11, .ref 12, .ref 13, .ref 14, .ref 15, .int lkss, .ref 16, .ref 17, .ref 20])), (5, .inr (.inl (0, (aC 5 rks rk)))), (6, .inr (.inl (0, (aC 5 stas sta)))), (7, .inr (.inl (0, (aC 5 phs ph)))), (8, .inr (.inl (0, (aC 5 sps sp)))), (9, .inr (.inl (0, (aC 5 ces ce)))), (10, .inr (.inl (0, (aC 5 dus du)))), (11, .inr (.inl (0, (aC 5 hes he)))), (12, .inr (.inl (0, (aC 6 ris ri)))), (13, .inr (.inl (0, (aC 6 uss us)))), (14, .inr (.inl (0, cm))), (15, .inr (.inl (0, lf))), (16, .inr (.inl (0, lkd))), (20, .inl (3, [.ref 21, .ref 22, .ref 23, .ref 24, .ref 25, .ref 26, .ref 27, .ref 28, .int pev, .int 1])), (21, .inr (.inl (0, pms))), (22, .inr (.inl (0, pmm))), (23, .inr (.inl (0, pmt))), (24, .inr (.inl (0, pst))), (25, .inr (.inl (0, pwa))), (26, .inr (.inl (0, prs))), (27, .inr (.inl (0, prr))), (28, .inr (.inl (0, pfa))), (256, .inl (7, [.ref lys, .int mis, .int shus, .int buss, .ref 257, .ref 258, .ref 259, .ref 260, .ref 261, .ref 262, .ref 263, .ref 264, .ref 265, .ref 266, .ref 267, .int lkss, .ref 268, .ref 269, .ref 272])), (257, .inr (.inl (0, rks))), (258, .inr (.inl (0, stas))), (259, .inr (.inl (0, phs))), (260, .inr (.inl (0, sps))), (261, .inr (.inl (0, ces))), (262, .inr (.inl (0, dus))), (263, .inr (.inl (0, hes))), (264, .inr (.inl (0, ris))), (265, .inr (.inl (0, uss))), (266, .inr (.inl (0, cms))), (267, .inr (.inl (0, lfs))), (268, .inr (.inl (0, lkds))), (272, .inl (3, [.ref 273, .ref 274, .ref 275, .ref 276, .ref 277, .ref 278, .ref 279, .ref 280, .int pevs, .int 1])), (273, .inr (.inl (0, pmss))), (274, .inr (.inl (0, pmms))), (275, .inr (.inl (0, pmts))), (276, .inr (.inl (0, psts))), (277, .inr (.inl (0, pwas))), (278, .inr (.inl (0, prss))), (279, .inr (.inl (0, prrs))), (280, .inr (.inl (0, pfas)))] h0 := K.mg K9 rfl rfl
  clear K9
  refine yb9s_k168 L (K.fi [4, 14, 15, 16, 256, 266, 267, 268] rfl rfl) (fun lv h9 L K9 => ?_)
  have K : KN h9 [(4, .inl (7, [.ref lys, .int mis, .int shus, .int buss, .ref 5, .ref 6, .ref 7, .ref 8, .ref 9, .ref 10, .ref 11, .ref 12, .ref 13, .ref 14, .ref 15, .int lkss, .ref 16, .ref 17, .ref 20])), (5, .inr (.inl (0, (aC 5 rks rk)))), (6, .inr (.inl (0, (aC 5 stas sta)))), (7, .inr (.inl (0, (aC 5 phs ph)))), (8, .inr (.inl (0, (aC 5 sps sp)))), (9, .inr (.inl (0, (aC 5 ces ce)))), (10, .inr (.inl (0, (aC 5 dus du)))), (11, .inr (.inl (0, (aC 5 hes he)))), (12, .inr (.inl (0, (aC 6 ris ri)))), (13, .inr (.inl (0, (aC 6 uss us)))), (14, .inr (.inl (0, (aC (nI cm.length) cms cm)))), (15, .inr (.inl (0, (aC (nI lf.length) lfs lf)))), (16, .inr (.inl (0, (aC (nI lkd.length) lkds lkd)))), (20, .inl (3, [.ref 21, .ref 22, .ref 23, .ref 24, .ref 25, .ref 26, .ref 27, .ref 28, .int pev, .int 1])), (21, .inr (.inl (0, pms))), (22, .inr (.inl (0, pmm))), (23, .inr (.inl (0, pmt))), (24, .inr (.inl (0, pst))), (25, .inr (.inl (0, pwa))), (26, .inr (.inl (0, prs))), (27, .inr (.inl (0, prr))), (28, .inr (.inl (0, pfa))), (256, .inl (7, [.ref lys, .int mis, .int shus, .int buss, .ref 257, .ref 258, .ref 259, .ref 260, .ref 261, .ref 262, .ref 263, .ref 264, .ref 265, .ref 266, .ref 267, .int lkss, .ref 268, .ref 269, .ref 272])), (257, .inr (.inl (0, rks))), (258, .inr (.inl (0, stas))), (259, .inr (.inl (0, phs))), (260, .inr (.inl (0, sps))), (261, .inr (.inl (0, ces))), (262, .inr (.inl (0, dus))), (263, .inr (.inl (0, hes))), (264, .inr (.inl (0, ris))), (265, .inr (.inl (0, uss))), (266, .inr (.inl (0, cms))), (267, .inr (.inl (0, lfs))), (268, .inr (.inl (0, lkds))), (272, .inl (3, [.ref 273, .ref 274, .ref 275, .ref 276, .ref 277, .ref 278, .ref 279, .ref 280, .int pevs, .int 1])), (273, .inr (.inl (0, pmss))), (274, .inr (.inl (0, pmms))), (275, .inr (.inl (0, pmts))), (276, .inr (.inl (0, psts))), (277, .inr (.inl (0, pwas))), (278, .inr (.inl (0, prss))), (279, .inr (.inl (0, prrs))), (280, .inr (.inl (0, pfas)))] h0 := K.mg K9 rfl rfl
  clear K9
  refine j_V.ldL yb9s_M yb9s_222 rfl (i := 0) (kd := 2) (v := .ref 4) (pcJ := 223) rfl L rfl rfl rfl ?_
  refine j_V.getK yb9s_M yb9s_223 (ci := 7) (j := 18) rfl K rfl rfl ?_
  refine j_V.ldL yb9s_M yb9s_226 rfl (i := 1) (kd := 2) (v := .ref 256) (pcJ := 227) rfl L rfl rfl rfl ?_
  refine j_V.getK yb9s_M yb9s_227 (ci := 7) (j := 18) rfl K rfl rfl ?_
  refine j_V.cl yb9s_M yb9s_230 rfl (md := 3) (mj := 28) rfl (by decide) yb9p_M (As := [.ref 20, .ref 272]) (rest := []) (jk_spl3 (K.at rfl) rfl rfl rfl (Nat.le_of_ble_eq_true rfl) (Nat.le_of_ble_eq_true rfl)) (fun d => yb9p_ok (K.fi [20, 21, 22, 23, 24, 25, 26, 27, 28, 272, 273, 274, 275, 276, 277, 278, 279, 280] rfl rfl)) ?_
  rintro r h9 ⟨rfl, K9⟩
  have K : KN h9 [(4, .inl (7, [.ref lys, .int mis, .int shus, .int buss, .ref 5, .ref 6, .ref 7, .ref 8, .ref 9, .ref 10, .ref 11, .ref 12, .ref 13, .ref 14, .ref 15, .int lkss, .ref 16, .ref 17, .ref 20])), (5, .inr (.inl (0, (aC 5 rks rk)))), (6, .inr (.inl (0, (aC 5 stas sta)))), (7, .inr (.inl (0, (aC 5 phs ph)))), (8, .inr (.inl (0, (aC 5 sps sp)))), (9, .inr (.inl (0, (aC 5 ces ce)))), (10, .inr (.inl (0, (aC 5 dus du)))), (11, .inr (.inl (0, (aC 5 hes he)))), (12, .inr (.inl (0, (aC 6 ris ri)))), (13, .inr (.inl (0, (aC 6 uss us)))), (14, .inr (.inl (0, (aC (nI cm.length) cms cm)))), (15, .inr (.inl (0, (aC (nI lf.length) lfs lf)))), (16, .inr (.inl (0, (aC (nI lkd.length) lkds lkd)))), (20, .inl (3, [.ref 21, .ref 22, .ref 23, .ref 24, .ref 25, .ref 26, .ref 27, .ref 28, .int pevs, .int 1])), (21, .inr (.inl (0, (aC (nI pms.length) pmss pms)))), (22, .inr (.inl (0, (aC (nI pmm.length) pmms pmm)))), (23, .inr (.inl (0, (aC (nI pmt.length) pmts pmt)))), (24, .inr (.inl (0, (aC (nI pst.length) psts pst)))), (25, .inr (.inl (0, (aC (nI pwa.length) pwas pwa)))), (26, .inr (.inl (0, (aC (nI prs.length) prss prs)))), (27, .inr (.inl (0, (aC (nI prr.length) prrs prr)))), (28, .inr (.inl (0, (aC (nI pfa.length) pfas pfa)))), (256, .inl (7, [.ref lys, .int mis, .int shus, .int buss, .ref 257, .ref 258, .ref 259, .ref 260, .ref 261, .ref 262, .ref 263, .ref 264, .ref 265, .ref 266, .ref 267, .int lkss, .ref 268, .ref 269, .ref 272])), (257, .inr (.inl (0, rks))), (258, .inr (.inl (0, stas))), (259, .inr (.inl (0, phs))), (260, .inr (.inl (0, sps))), (261, .inr (.inl (0, ces))), (262, .inr (.inl (0, dus))), (263, .inr (.inl (0, hes))), (264, .inr (.inl (0, ris))), (265, .inr (.inl (0, uss))), (266, .inr (.inl (0, cms))), (267, .inr (.inl (0, lfs))), (268, .inr (.inl (0, lkds))), (272, .inl (3, [.ref 273, .ref 274, .ref 275, .ref 276, .ref 277, .ref 278, .ref 279, .ref 280, .int pevs, .int 1])), (273, .inr (.inl (0, pmss))), (274, .inr (.inl (0, pmms))), (275, .inr (.inl (0, pmts))), (276, .inr (.inl (0, psts))), (277, .inr (.inl (0, pwas))), (278, .inr (.inl (0, prss))), (279, .inr (.inl (0, prrs))), (280, .inr (.inl (0, pfas)))] h0 := K.mg K9 rfl rfl
  clear K9
  show j_V jP _ 61 233 lv [] h9 _
  exact j_V.ret yb9s_M yb9s_233 rfl rfl ⟨rfl, K⟩
set_option maxRecDepth 100000 in
theorem yb9m_M : j_meth jP 3 = some (yX0_takeBack, cX0_takeBack, 2, none, 1, false, 0) := rfl
set_option maxRecDepth 100000 in
theorem yb9m_0 : j_code jP 3 0 = some (.aload_n 0) := rfl
set_option maxRecDepth 100000 in
theorem yb9m_1 : j_code jP 3 1 = some (.aload_n 0) := rfl
set_option maxRecDepth 100000 in
theorem yb9m_2 : j_code jP 3 2 = some (.getfield 24) := rfl
set_option maxRecDepth 100000 in
theorem yb9m_5 : j_code jP 3 5 = some (.bipush 10) := rfl
set_option maxRecDepth 100000 in
theorem yb9m_7 : j_code jP 3 7 = some (.iadd) := rfl
set_option maxRecDepth 100000 in
theorem yb9m_8 : j_code jP 3 8 = some (.iconst 1) := rfl
set_option maxRecDepth 100000 in
theorem yb9m_9 : j_code jP 3 9 = some (.isub) := rfl
set_option maxRecDepth 100000 in
theorem yb9m_10 : j_code jP 3 10 = some (.bipush 10) := rfl
set_option maxRecDepth 100000 in
theorem yb9m_12 : j_code jP 3 12 = some (.irem) := rfl
set_option maxRecDepth 100000 in
theorem yb9m_13 : j_code jP 3 13 = some (.putfield 24) := rfl
set_option maxRecDepth 100000 in
theorem yb9m_16 : j_code jP 3 16 = some (.aload_n 0) := rfl
set_option maxRecDepth 100000 in
theorem yb9m_17 : j_code jP 3 17 = some (.dup) := rfl
set_option maxRecDepth 100000 in
theorem yb9m_18 : j_code jP 3 18 = some (.getfield 20) := rfl
set_option maxRecDepth 100000 in
theorem yb9m_21 : j_code jP 3 21 = some (.iconst 1) := rfl
set_option maxRecDepth 100000 in
theorem yb9m_22 : j_code jP 3 22 = some (.isub) := rfl
set_option maxRecDepth 100000 in
theorem yb9m_23 : j_code jP 3 23 = some (.putfield 20) := rfl
set_option maxRecDepth 100000 in
theorem yb9m_26 : j_code jP 3 26 = some (.aload_n 1) := rfl
set_option maxRecDepth 100000 in
theorem yb9m_27 : j_code jP 3 27 = some (.aload_n 0) := rfl
set_option maxRecDepth 100000 in
theorem yb9m_28 : j_code jP 3 28 = some (.getfield 11) := rfl
set_option maxRecDepth 100000 in
theorem yb9m_31 : j_code jP 3 31 = some (.aload_n 0) := rfl
set_option maxRecDepth 100000 in
theorem yb9m_32 : j_code jP 3 32 = some (.getfield 24) := rfl
set_option maxRecDepth 100000 in
theorem yb9m_35 : j_code jP 3 35 = some (.aaload) := rfl
set_option maxRecDepth 100000 in
theorem yb9m_36 : j_code jP 3 36 = some (.invokevirtual 27) := rfl
set_option maxRecDepth 100000 in
theorem yb9m_39 : j_code jP 3 39 = some (.return_) := rfl
set_option maxRecDepth 1000000 in
theorem yb9m_ok {ly : Value} {mi : Int32} {shu : Int32} {bus : Int32} {lks : Int32} {rk : List Int32} {sta : List Int32} {ph : List Int32} {sp : List Int32} {ce : List Int32} {du : List Int32} {he : List Int32} {ri : List Int32} {us : List Int32} {cm : List Int32} {lf : List Int32} {lkd : List Int32} {pev : Int32} {pms : List Int32} {pmm : List Int32} {pmt : List Int32} {pst : List Int32} {pwa : List Int32} {prs : List Int32} {prr : List Int32} {pfa : List Int32} {lys : Nat} {mis : Int32} {shus : Int32} {buss : Int32} {lkss : Int32} {rks : List Int32} {stas : List Int32} {phs : List Int32} {sps : List Int32} {ces : List Int32} {dus : List Int32} {hes : List Int32} {ris : List Int32} {uss : List Int32} {cms : List Int32} {lfs : List Int32} {lkds : List Int32} {pevs : Int32} {pmss : List Int32} {pmms : List Int32} {pmts : List Int32} {psts : List Int32} {pwas : List Int32} {prss : List Int32} {prrs : List Int32} {pfas : List Int32} {acco : Int32} {d : Nat} {h h0 : J_H} (K : KN h [(4, .inl (7, [ly, .int mi, .int shu, .int bus, .ref 5, .ref 6, .ref 7, .ref 8, .ref 9, .ref 10, .ref 11, .ref 12, .ref 13, .ref 14, .ref 15, .int lks, .ref 16, .ref 17, .ref 20])), (5, .inr (.inl (0, rk))), (6, .inr (.inl (0, sta))), (7, .inr (.inl (0, ph))), (8, .inr (.inl (0, sp))), (9, .inr (.inl (0, ce))), (10, .inr (.inl (0, du))), (11, .inr (.inl (0, he))), (12, .inr (.inl (0, ri))), (13, .inr (.inl (0, us))), (14, .inr (.inl (0, cm))), (15, .inr (.inl (0, lf))), (16, .inr (.inl (0, lkd))), (20, .inl (3, [.ref 21, .ref 22, .ref 23, .ref 24, .ref 25, .ref 26, .ref 27, .ref 28, .int pev, .int 1])), (21, .inr (.inl (0, pms))), (22, .inr (.inl (0, pmm))), (23, .inr (.inl (0, pmt))), (24, .inr (.inl (0, pst))), (25, .inr (.inl (0, pwa))), (26, .inr (.inl (0, prs))), (27, .inr (.inl (0, prr))), (28, .inr (.inl (0, pfa))), (29, .inl (0, [.ref 30, .int 0, .int acco])), (30, .inr (.inr (.inr [some 31, some 56, some 81, some 106, some 131, some 156, some 181, some 206, some 231, some 256]))), (256, .inl (7, [.ref lys, .int mis, .int shus, .int buss, .ref 257, .ref 258, .ref 259, .ref 260, .ref 261, .ref 262, .ref 263, .ref 264, .ref 265, .ref 266, .ref 267, .int lkss, .ref 268, .ref 269, .ref 272])), (257, .inr (.inl (0, rks))), (258, .inr (.inl (0, stas))), (259, .inr (.inl (0, phs))), (260, .inr (.inl (0, sps))), (261, .inr (.inl (0, ces))), (262, .inr (.inl (0, dus))), (263, .inr (.inl (0, hes))), (264, .inr (.inl (0, ris))), (265, .inr (.inl (0, uss))), (266, .inr (.inl (0, cms))), (267, .inr (.inl (0, lfs))), (268, .inr (.inl (0, lkds))), (272, .inl (3, [.ref 273, .ref 274, .ref 275, .ref 276, .ref 277, .ref 278, .ref 279, .ref 280, .int pevs, .int 1])), (273, .inr (.inl (0, pmss))), (274, .inr (.inl (0, pmms))), (275, .inr (.inl (0, pmts))), (276, .inr (.inl (0, psts))), (277, .inr (.inl (0, pwas))), (278, .inr (.inl (0, prss))), (279, .inr (.inl (0, prrs))), (280, .inr (.inl (0, pfas)))] h0) : j_V jP d 3 0 (lv_args 0 [.ref 29, .ref 4]) [] h (fun rv h' => rv = none ∧ KN h' [(4, .inl (7, [.ref lys, .int mis, .int shus, .int buss, .ref 5, .ref 6, .ref 7, .ref 8, .ref 9, .ref 10, .ref 11, .ref 12, .ref 13, .ref 14, .ref 15, .int lkss, .ref 16, .ref 17, .ref 20])), (5, .inr (.inl (0, (aC 5 rks rk)))), (6, .inr (.inl (0, (aC 5 stas sta)))), (7, .inr (.inl (0, (aC 5 phs ph)))), (8, .inr (.inl (0, (aC 5 sps sp)))), (9, .inr (.inl (0, (aC 5 ces ce)))), (10, .inr (.inl (0, (aC 5 dus du)))), (11, .inr (.inl (0, (aC 5 hes he)))), (12, .inr (.inl (0, (aC 6 ris ri)))), (13, .inr (.inl (0, (aC 6 uss us)))), (14, .inr (.inl (0, (aC (nI cm.length) cms cm)))), (15, .inr (.inl (0, (aC (nI lf.length) lfs lf)))), (16, .inr (.inl (0, (aC (nI lkd.length) lkds lkd)))), (20, .inl (3, [.ref 21, .ref 22, .ref 23, .ref 24, .ref 25, .ref 26, .ref 27, .ref 28, .int pevs, .int 1])), (21, .inr (.inl (0, (aC (nI pms.length) pmss pms)))), (22, .inr (.inl (0, (aC (nI pmm.length) pmms pmm)))), (23, .inr (.inl (0, (aC (nI pmt.length) pmts pmt)))), (24, .inr (.inl (0, (aC (nI pst.length) psts pst)))), (25, .inr (.inl (0, (aC (nI pwa.length) pwas pwa)))), (26, .inr (.inl (0, (aC (nI prs.length) prss prs)))), (27, .inr (.inl (0, (aC (nI prr.length) prrs prr)))), (28, .inr (.inl (0, (aC (nI pfa.length) pfas pfa)))), (29, .inl (0, [.ref 30, .int 9, .int (acco - 1)])), (30, .inr (.inr (.inr [some 31, some 56, some 81, some 106, some 131, some 156, some 181, some 206, some 231, some 256]))), (256, .inl (7, [.ref lys, .int mis, .int shus, .int buss, .ref 257, .ref 258, .ref 259, .ref 260, .ref 261, .ref 262, .ref 263, .ref 264, .ref 265, .ref 266, .ref 267, .int lkss, .ref 268, .ref 269, .ref 272])), (257, .inr (.inl (0, rks))), (258, .inr (.inl (0, stas))), (259, .inr (.inl (0, phs))), (260, .inr (.inl (0, sps))), (261, .inr (.inl (0, ces))), (262, .inr (.inl (0, dus))), (263, .inr (.inl (0, hes))), (264, .inr (.inl (0, ris))), (265, .inr (.inl (0, uss))), (266, .inr (.inl (0, cms))), (267, .inr (.inl (0, lfs))), (268, .inr (.inl (0, lkds))), (272, .inl (3, [.ref 273, .ref 274, .ref 275, .ref 276, .ref 277, .ref 278, .ref 279, .ref 280, .int pevs, .int 1])), (273, .inr (.inl (0, pmss))), (274, .inr (.inl (0, pmms))), (275, .inr (.inl (0, pmts))), (276, .inr (.inl (0, psts))), (277, .inr (.inl (0, pwas))), (278, .inr (.inl (0, prss))), (279, .inr (.inl (0, prrs))), (280, .inr (.inl (0, pfas)))] h0) := by
  show j_V jP d 3 0 [(0, .ref 29), (1, .ref 4)] [] h _
  obtain ⟨lv, elv, L⟩ : ∃ lv, lv = [(0, .ref 29), (1, .ref 4)] ∧ LK lv [(0, .ref 29), (1, .ref 4)] := ⟨_, rfl, LK.rf⟩
  rw [← elv]
  clear elv
  refine j_V.ldL yb9m_M yb9m_0 rfl (i := 0) (kd := 2) (v := .ref 29) (pcJ := 1) rfl L rfl rfl rfl ?_
  refine j_V.ldL yb9m_M yb9m_1 rfl (i := 0) (kd := 2) (v := .ref 29) (pcJ := 2) rfl L rfl rfl rfl ?_
  refine j_V.getK yb9m_M yb9m_2 (ci := 0) (j := 1) rfl K rfl rfl ?_
  refine j_V.one yb9m_M yb9m_5 (by decide) (pcJ := 7) (stJ := [.int 10, .int 0, .ref 29]) rfl ?_
  refine j_V.one yb9m_M yb9m_7 (by decide) (pcJ := 8) (stJ := [.int 10, .ref 29]) rfl ?_
  refine j_V.one yb9m_M yb9m_8 (by decide) (pcJ := 9) (stJ := [.int 1, .int 10, .ref 29]) rfl ?_
  refine j_V.one yb9m_M yb9m_9 (by decide) (pcJ := 10) (stJ := [.int 9, .ref 29]) rfl ?_
  refine j_V.one yb9m_M yb9m_10 (by decide) (pcJ := 12) (stJ := [.int 10, .int 9, .ref 29]) rfl ?_
  refine j_V.one yb9m_M yb9m_12 (by decide) (pcJ := 13) (stJ := [.int 9, .ref 29]) rfl ?_
  refine j_V.putK yb9m_M yb9m_13 (ci := 0) (j := 1) (k' := [(4, .inl (7, [ly, .int mi, .int shu, .int bus, .ref 5, .ref 6, .ref 7, .ref 8, .ref 9, .ref 10, .ref 11, .ref 12, .ref 13, .ref 14, .ref 15, .int lks, .ref 16, .ref 17, .ref 20])), (5, .inr (.inl (0, rk))), (6, .inr (.inl (0, sta))), (7, .inr (.inl (0, ph))), (8, .inr (.inl (0, sp))), (9, .inr (.inl (0, ce))), (10, .inr (.inl (0, du))), (11, .inr (.inl (0, he))), (12, .inr (.inl (0, ri))), (13, .inr (.inl (0, us))), (14, .inr (.inl (0, cm))), (15, .inr (.inl (0, lf))), (16, .inr (.inl (0, lkd))), (20, .inl (3, [.ref 21, .ref 22, .ref 23, .ref 24, .ref 25, .ref 26, .ref 27, .ref 28, .int pev, .int 1])), (21, .inr (.inl (0, pms))), (22, .inr (.inl (0, pmm))), (23, .inr (.inl (0, pmt))), (24, .inr (.inl (0, pst))), (25, .inr (.inl (0, pwa))), (26, .inr (.inl (0, prs))), (27, .inr (.inl (0, prr))), (28, .inr (.inl (0, pfa))), (29, .inl (0, [.ref 30, .int 9, .int acco])), (30, .inr (.inr (.inr [some 31, some 56, some 81, some 106, some 131, some 156, some 181, some 206, some 231, some 256]))), (256, .inl (7, [.ref lys, .int mis, .int shus, .int buss, .ref 257, .ref 258, .ref 259, .ref 260, .ref 261, .ref 262, .ref 263, .ref 264, .ref 265, .ref 266, .ref 267, .int lkss, .ref 268, .ref 269, .ref 272])), (257, .inr (.inl (0, rks))), (258, .inr (.inl (0, stas))), (259, .inr (.inl (0, phs))), (260, .inr (.inl (0, sps))), (261, .inr (.inl (0, ces))), (262, .inr (.inl (0, dus))), (263, .inr (.inl (0, hes))), (264, .inr (.inl (0, ris))), (265, .inr (.inl (0, uss))), (266, .inr (.inl (0, cms))), (267, .inr (.inl (0, lfs))), (268, .inr (.inl (0, lkds))), (272, .inl (3, [.ref 273, .ref 274, .ref 275, .ref 276, .ref 277, .ref 278, .ref 279, .ref 280, .int pevs, .int 1])), (273, .inr (.inl (0, pmss))), (274, .inr (.inl (0, pmms))), (275, .inr (.inl (0, pmts))), (276, .inr (.inl (0, psts))), (277, .inr (.inl (0, pwas))), (278, .inr (.inl (0, prss))), (279, .inr (.inl (0, prrs))), (280, .inr (.inl (0, pfas)))]) rfl K rfl (Nat.le_of_ble_eq_true rfl) rfl (Or.inl rfl) rfl rfl (fun h K => ?_)
  refine j_V.ldL yb9m_M yb9m_16 rfl (i := 0) (kd := 2) (v := .ref 29) (pcJ := 17) rfl L rfl rfl rfl ?_
  refine j_V.one yb9m_M yb9m_17 (by decide) (pcJ := 18) (stJ := [.ref 29, .ref 29]) rfl ?_
  refine j_V.getK yb9m_M yb9m_18 (ci := 0) (j := 2) rfl K rfl rfl ?_
  refine j_V.one yb9m_M yb9m_21 (by decide) (pcJ := 22) (stJ := [.int 1, .int acco, .ref 29]) rfl ?_
  refine j_V.one yb9m_M yb9m_22 (by decide) (pcJ := 23) (stJ := [.int (acco - 1), .ref 29]) rfl ?_
  refine j_V.putK yb9m_M yb9m_23 (ci := 0) (j := 2) (k' := [(4, .inl (7, [ly, .int mi, .int shu, .int bus, .ref 5, .ref 6, .ref 7, .ref 8, .ref 9, .ref 10, .ref 11, .ref 12, .ref 13, .ref 14, .ref 15, .int lks, .ref 16, .ref 17, .ref 20])), (5, .inr (.inl (0, rk))), (6, .inr (.inl (0, sta))), (7, .inr (.inl (0, ph))), (8, .inr (.inl (0, sp))), (9, .inr (.inl (0, ce))), (10, .inr (.inl (0, du))), (11, .inr (.inl (0, he))), (12, .inr (.inl (0, ri))), (13, .inr (.inl (0, us))), (14, .inr (.inl (0, cm))), (15, .inr (.inl (0, lf))), (16, .inr (.inl (0, lkd))), (20, .inl (3, [.ref 21, .ref 22, .ref 23, .ref 24, .ref 25, .ref 26, .ref 27, .ref 28, .int pev, .int 1])), (21, .inr (.inl (0, pms))), (22, .inr (.inl (0, pmm))), (23, .inr (.inl (0, pmt))), (24, .inr (.inl (0, pst))), (25, .inr (.inl (0, pwa))), (26, .inr (.inl (0, prs))), (27, .inr (.inl (0, prr))), (28, .inr (.inl (0, pfa))), (29, .inl (0, [.ref 30, .int 9, .int (acco - 1)])), (30, .inr (.inr (.inr [some 31, some 56, some 81, some 106, some 131, some 156, some 181, some 206, some 231, some 256]))), (256, .inl (7, [.ref lys, .int mis, .int shus, .int buss, .ref 257, .ref 258, .ref 259, .ref 260, .ref 261, .ref 262, .ref 263, .ref 264, .ref 265, .ref 266, .ref 267, .int lkss, .ref 268, .ref 269, .ref 272])), (257, .inr (.inl (0, rks))), (258, .inr (.inl (0, stas))), (259, .inr (.inl (0, phs))), (260, .inr (.inl (0, sps))), (261, .inr (.inl (0, ces))), (262, .inr (.inl (0, dus))), (263, .inr (.inl (0, hes))), (264, .inr (.inl (0, ris))), (265, .inr (.inl (0, uss))), (266, .inr (.inl (0, cms))), (267, .inr (.inl (0, lfs))), (268, .inr (.inl (0, lkds))), (272, .inl (3, [.ref 273, .ref 274, .ref 275, .ref 276, .ref 277, .ref 278, .ref 279, .ref 280, .int pevs, .int 1])), (273, .inr (.inl (0, pmss))), (274, .inr (.inl (0, pmms))), (275, .inr (.inl (0, pmts))), (276, .inr (.inl (0, psts))), (277, .inr (.inl (0, pwas))), (278, .inr (.inl (0, prss))), (279, .inr (.inl (0, prrs))), (280, .inr (.inl (0, pfas)))]) rfl K rfl (Nat.le_of_ble_eq_true rfl) rfl (Or.inl rfl) rfl rfl (fun h K => ?_)
  refine j_V.ldL yb9m_M yb9m_26 rfl (i := 1) (kd := 2) (v := .ref 4) (pcJ := 27) rfl L rfl rfl rfl ?_
  refine j_V.ldL yb9m_M yb9m_27 rfl (i := 0) (kd := 2) (v := .ref 29) (pcJ := 28) rfl L rfl rfl rfl ?_
  refine j_V.getK yb9m_M yb9m_28 (ci := 0) (j := 0) rfl K rfl rfl ?_
  refine j_V.ldL yb9m_M yb9m_31 rfl (i := 0) (kd := 2) (v := .ref 29) (pcJ := 32) rfl L rfl rfl rfl ?_
  refine j_V.getK yb9m_M yb9m_32 (ci := 0) (j := 1) rfl K rfl rfl ?_
  refine j_V.aaA yb9m_M yb9m_35 K rfl (i := 9) (v := 256) rfl rfl ?_
  refine j_V.cl yb9m_M yb9m_36 rfl (md := 3) (mj := 61) rfl (by decide) yb9s_M (As := [.ref 4, .ref 256]) (rest := []) (jk_spl3 (K.at rfl) rfl rfl rfl (Nat.le_of_ble_eq_true rfl) (Nat.le_of_ble_eq_true rfl)) (fun d => yb9s_ok (K.fi [4, 5, 6, 7, 8, 9, 10, 11, 12, 13, 14, 15, 16, 20, 21, 22, 23, 24, 25, 26, 27, 28, 256, 257, 258, 259, 260, 261, 262, 263, 264, 265, 266, 267, 268, 272, 273, 274, 275, 276, 277, 278, 279, 280] rfl rfl)) ?_
  rintro r h9 ⟨rfl, K9⟩
  have K : KN h9 [(4, .inl (7, [.ref lys, .int mis, .int shus, .int buss, .ref 5, .ref 6, .ref 7, .ref 8, .ref 9, .ref 10, .ref 11, .ref 12, .ref 13, .ref 14, .ref 15, .int lkss, .ref 16, .ref 17, .ref 20])), (5, .inr (.inl (0, (aC 5 rks rk)))), (6, .inr (.inl (0, (aC 5 stas sta)))), (7, .inr (.inl (0, (aC 5 phs ph)))), (8, .inr (.inl (0, (aC 5 sps sp)))), (9, .inr (.inl (0, (aC 5 ces ce)))), (10, .inr (.inl (0, (aC 5 dus du)))), (11, .inr (.inl (0, (aC 5 hes he)))), (12, .inr (.inl (0, (aC 6 ris ri)))), (13, .inr (.inl (0, (aC 6 uss us)))), (14, .inr (.inl (0, (aC (nI cm.length) cms cm)))), (15, .inr (.inl (0, (aC (nI lf.length) lfs lf)))), (16, .inr (.inl (0, (aC (nI lkd.length) lkds lkd)))), (20, .inl (3, [.ref 21, .ref 22, .ref 23, .ref 24, .ref 25, .ref 26, .ref 27, .ref 28, .int pevs, .int 1])), (21, .inr (.inl (0, (aC (nI pms.length) pmss pms)))), (22, .inr (.inl (0, (aC (nI pmm.length) pmms pmm)))), (23, .inr (.inl (0, (aC (nI pmt.length) pmts pmt)))), (24, .inr (.inl (0, (aC (nI pst.length) psts pst)))), (25, .inr (.inl (0, (aC (nI pwa.length) pwas pwa)))), (26, .inr (.inl (0, (aC (nI prs.length) prss prs)))), (27, .inr (.inl (0, (aC (nI prr.length) prrs prr)))), (28, .inr (.inl (0, (aC (nI pfa.length) pfas pfa)))), (29, .inl (0, [.ref 30, .int 9, .int (acco - 1)])), (30, .inr (.inr (.inr [some 31, some 56, some 81, some 106, some 131, some 156, some 181, some 206, some 231, some 256]))), (256, .inl (7, [.ref lys, .int mis, .int shus, .int buss, .ref 257, .ref 258, .ref 259, .ref 260, .ref 261, .ref 262, .ref 263, .ref 264, .ref 265, .ref 266, .ref 267, .int lkss, .ref 268, .ref 269, .ref 272])), (257, .inr (.inl (0, rks))), (258, .inr (.inl (0, stas))), (259, .inr (.inl (0, phs))), (260, .inr (.inl (0, sps))), (261, .inr (.inl (0, ces))), (262, .inr (.inl (0, dus))), (263, .inr (.inl (0, hes))), (264, .inr (.inl (0, ris))), (265, .inr (.inl (0, uss))), (266, .inr (.inl (0, cms))), (267, .inr (.inl (0, lfs))), (268, .inr (.inl (0, lkds))), (272, .inl (3, [.ref 273, .ref 274, .ref 275, .ref 276, .ref 277, .ref 278, .ref 279, .ref 280, .int pevs, .int 1])), (273, .inr (.inl (0, pmss))), (274, .inr (.inl (0, pmms))), (275, .inr (.inl (0, pmts))), (276, .inr (.inl (0, psts))), (277, .inr (.inl (0, pwas))), (278, .inr (.inl (0, prss))), (279, .inr (.inl (0, prrs))), (280, .inr (.inl (0, pfas)))] h0 := K.mg K9 rfl rfl
  clear K9
  show j_V jP _ 3 39 lv [] h9 _
  exact j_V.ret yb9m_M yb9m_39 rfl rfl ⟨rfl, K⟩

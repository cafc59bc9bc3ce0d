/-! states copied (r), by wip/px/gen_y1.py -/
set_option maxRecDepth 100000 in
theorem yr0p_M : j_meth jP 28 = some (yX3_copyFrom, cX3_copyFrom, 2, none, 1, false, 3) := rfl
set_option maxRecDepth 100000 in
theorem yr0p_0 : j_code jP 28 0 = some (.aload_n 0) := rfl
set_option maxRecDepth 100000 in
theorem yr0p_1 : j_code jP 28 1 = some (.getfield 36) := rfl
set_option maxRecDepth 100000 in
theorem yr0p_4 : j_code jP 28 4 = some (.ifCond .ne 4) := rfl
set_option maxRecDepth 100000 in
theorem yr0p_7 : j_code jP 28 7 = some (.return_) := rfl
set_option maxRecDepth 100000 in
theorem yr0p_8 : j_code jP 28 8 = some (.aload_n 1) := rfl
set_option maxRecDepth 100000 in
theorem yr0p_9 : j_code jP 28 9 = some (.getfield 9) := rfl
set_option maxRecDepth 100000 in
theorem yr0p_12 : j_code jP 28 12 = some (.iconst 0) := rfl
set_option maxRecDepth 100000 in
theorem yr0p_13 : j_code jP 28 13 = some (.aload_n 0) := rfl
set_option maxRecDepth 100000 in
theorem yr0p_14 : j_code jP 28 14 = some (.getfield 9) := rfl
set_option maxRecDepth 100000 in
theorem yr0p_17 : j_code jP 28 17 = some (.iconst 0) := rfl
set_option maxRecDepth 100000 in
theorem yr0p_18 : j_code jP 28 18 = some (.aload_n 0) := rfl
set_option maxRecDepth 100000 in
theorem yr0p_19 : j_code jP 28 19 = some (.getfield 9) := rfl
set_option maxRecDepth 100000 in
theorem yr0p_22 : j_code jP 28 22 = some (.arraylength) := rfl
set_option maxRecDepth 100000 in
theorem yr0p_23 : j_code jP 28 23 = some (.invokestatic 50) := rfl
set_option maxRecDepth 100000 in
theorem yr0p_26 : j_code jP 28 26 = some (.aload_n 1) := rfl
set_option maxRecDepth 100000 in
theorem yr0p_27 : j_code jP 28 27 = some (.getfield 15) := rfl
set_option maxRecDepth 100000 in
theorem yr0p_30 : j_code jP 28 30 = some (.iconst 0) := rfl
set_option maxRecDepth 100000 in
theorem yr0p_31 : j_code jP 28 31 = some (.aload_n 0) := rfl
set_option maxRecDepth 100000 in
theorem yr0p_32 : j_code jP 28 32 = some (.getfield 15) := rfl
set_option maxRecDepth 100000 in
theorem yr0p_35 : j_code jP 28 35 = some (.iconst 0) := rfl
set_option maxRecDepth 100000 in
theorem yr0p_36 : j_code jP 28 36 = some (.aload_n 0) := rfl
set_option maxRecDepth 100000 in
theorem yr0p_37 : j_code jP 28 37 = some (.getfield 15) := rfl
set_option maxRecDepth 100000 in
theorem yr0p_40 : j_code jP 28 40 = some (.arraylength) := rfl
set_option maxRecDepth 100000 in
theorem yr0p_41 : j_code jP 28 41 = some (.invokestatic 50) := rfl
set_option maxRecDepth 100000 in
theorem yr0p_44 : j_code jP 28 44 = some (.aload_n 1) := rfl
set_option maxRecDepth 100000 in
theorem yr0p_45 : j_code jP 28 45 = some (.getfield 18) := rfl
set_option maxRecDepth 100000 in
theorem yr0p_48 : j_code jP 28 48 = some (.iconst 0) := rfl
set_option maxRecDepth 100000 in
theorem yr0p_49 : j_code jP 28 49 = some (.aload_n 0) := rfl
set_option maxRecDepth 100000 in
theorem yr0p_50 : j_code jP 28 50 = some (.getfield 18) := rfl
set_option maxRecDepth 100000 in
theorem yr0p_53 : j_code jP 28 53 = some (.iconst 0) := rfl
set_option maxRecDepth 100000 in
theorem yr0p_54 : j_code jP 28 54 = some (.aload_n 0) := rfl
set_option maxRecDepth 100000 in
theorem yr0p_55 : j_code jP 28 55 = some (.getfield 18) := rfl
set_option maxRecDepth 100000 in
theorem yr0p_58 : j_code jP 28 58 = some (.arraylength) := rfl
set_option maxRecDepth 100000 in
theorem yr0p_59 : j_code jP 28 59 = some (.invokestatic 50) := rfl
set_option maxRecDepth 100000 in
theorem yr0p_62 : j_code jP 28 62 = some (.aload_n 1) := rfl
set_option maxRecDepth 100000 in
theorem yr0p_63 : j_code jP 28 63 = some (.getfield 21) := rfl
set_option maxRecDepth 100000 in
theorem yr0p_66 : j_code jP 28 66 = some (.iconst 0) := rfl
set_option maxRecDepth 100000 in
theorem yr0p_67 : j_code jP 28 67 = some (.aload_n 0) := rfl
set_option maxRecDepth 100000 in
theorem yr0p_68 : j_code jP 28 68 = some (.getfield 21) := rfl
set_option maxRecDepth 100000 in
theorem yr0p_71 : j_code jP 28 71 = some (.iconst 0) := rfl
set_option maxRecDepth 100000 in
theorem yr0p_72 : j_code jP 28 72 = some (.aload_n 0) := rfl
set_option maxRecDepth 100000 in
theorem yr0p_73 : j_code jP 28 73 = some (.getfield 21) := rfl
set_option maxRecDepth 100000 in
theorem yr0p_76 : j_code jP 28 76 = some (.arraylength) := rfl
set_option maxRecDepth 100000 in
theorem yr0p_77 : j_code jP 28 77 = some (.invokestatic 50) := rfl
set_option maxRecDepth 100000 in
theorem yr0p_80 : j_code jP 28 80 = some (.aload_n 1) := rfl
set_option maxRecDepth 100000 in
theorem yr0p_81 : j_code jP 28 81 = some (.getfield 24) := rfl
set_option maxRecDepth 100000 in
theorem yr0p_84 : j_code jP 28 84 = some (.iconst 0) := rfl
set_option maxRecDepth 100000 in
theorem yr0p_85 : j_code jP 28 85 = some (.aload_n 0) := rfl
set_option maxRecDepth 100000 in
theorem yr0p_86 : j_code jP 28 86 = some (.getfield 24) := rfl
set_option maxRecDepth 100000 in
theorem yr0p_89 : j_code jP 28 89 = some (.iconst 0) := rfl
set_option maxRecDepth 100000 in
theorem yr0p_90 : j_code jP 28 90 = some (.aload_n 0) := rfl
set_option maxRecDepth 100000 in
theorem yr0p_91 : j_code jP 28 91 = some (.getfield 24) := rfl
set_option maxRecDepth 100000 in
theorem yr0p_94 : j_code jP 28 94 = some (.arraylength) := rfl
set_option maxRecDepth 100000 in
theorem yr0p_95 : j_code jP 28 95 = some (.invokestatic 50) := rfl
set_option maxRecDepth 100000 in
theorem yr0p_98 : j_code jP 28 98 = some (.aload_n 1) := rfl
set_option maxRecDepth 100000 in
theorem yr0p_99 : j_code jP 28 99 = some (.getfield 27) := rfl
set_option maxRecDepth 100000 in
theorem yr0p_102 : j_code jP 28 102 = some (.iconst 0) := rfl
set_option maxRecDepth 100000 in
theorem yr0p_103 : j_code jP 28 103 = some (.aload_n 0) := rfl
set_option maxRecDepth 100000 in
theorem yr0p_104 : j_code jP 28 104 = some (.getfield 27) := rfl
set_option maxRecDepth 100000 in
theorem yr0p_107 : j_code jP 28 107 = some (.iconst 0) := rfl
set_option maxRecDepth 100000 in
theorem yr0p_108 : j_code jP 28 108 = some (.aload_n 0) := rfl
set_option maxRecDepth 100000 in
theorem yr0p_109 : j_code jP 28 109 = some (.getfield 27) := rfl
set_option maxRecDepth 100000 in
theorem yr0p_112 : j_code jP 28 112 = some (.arraylength) := rfl
set_option maxRecDepth 100000 in
theorem yr0p_113 : j_code jP 28 113 = some (.invokestatic 50) := rfl
set_option maxRecDepth 100000 in
theorem yr0p_116 : j_code jP 28 116 = some (.aload_n 1) := rfl
set_option maxRecDepth 100000 in
theorem yr0p_117 : j_code jP 28 117 = some (.getfield 30) := rfl
set_option maxRecDepth 100000 in
theorem yr0p_120 : j_code jP 28 120 = some (.iconst 0) := rfl
set_option maxRecDepth 100000 in
theorem yr0p_121 : j_code jP 28 121 = some (.aload_n 0) := rfl
set_option maxRecDepth 100000 in
theorem yr0p_122 : j_code jP 28 122 = some (.getfield 30) := rfl
set_option maxRecDepth 100000 in
theorem yr0p_125 : j_code jP 28 125 = some (.iconst 0) := rfl
set_option maxRecDepth 100000 in
theorem yr0p_126 : j_code jP 28 126 = some (.aload_n 0) := rfl
set_option maxRecDepth 100000 in
theorem yr0p_127 : j_code jP 28 127 = some (.getfield 30) := rfl
set_option maxRecDepth 100000 in
theorem yr0p_130 : j_code jP 28 130 = some (.arraylength) := rfl
set_option maxRecDepth 100000 in
theorem yr0p_131 : j_code jP 28 131 = some (.invokestatic 50) := rfl
set_option maxRecDepth 100000 in
theorem yr0p_134 : j_code jP 28 134 = some (.aload_n 1) := rfl
set_option maxRecDepth 100000 in
theorem yr0p_135 : j_code jP 28 135 = some (.getfield 33) := rfl
set_option maxRecDepth 100000 in
theorem yr0p_138 : j_code jP 28 138 = some (.iconst 0) := rfl
set_option maxRecDepth 100000 in
theorem yr0p_139 : j_code jP 28 139 = some (.aload_n 0) := rfl
set_option maxRecDepth 100000 in
theorem yr0p_140 : j_code jP 28 140 = some (.getfield 33) := rfl
set_option maxRecDepth 100000 in
theorem yr0p_143 : j_code jP 28 143 = some (.iconst 0) := rfl
set_option maxRecDepth 100000 in
theorem yr0p_144 : j_code jP 28 144 = some (.aload_n 0) := rfl
set_option maxRecDepth 100000 in
theorem yr0p_145 : j_code jP 28 145 = some (.getfield 33) := rfl
set_option maxRecDepth 100000 in
theorem yr0p_148 : j_code jP 28 148 = some (.arraylength) := rfl
set_option maxRecDepth 100000 in
theorem yr0p_149 : j_code jP 28 149 = some (.invokestatic 50) := rfl
set_option maxRecDepth 100000 in
theorem yr0p_152 : j_code jP 28 152 = some (.aload_n 0) := rfl
set_option maxRecDepth 100000 in
theorem yr0p_153 : j_code jP 28 153 = some (.aload_n 1) := rfl
set_option maxRecDepth 100000 in
theorem yr0p_154 : j_code jP 28 154 = some (.getfield 46) := rfl
set_option maxRecDepth 100000 in
theorem yr0p_157 : j_code jP 28 157 = some (.putfield 46) := rfl
set_option maxRecDepth 100000 in
theorem yr0p_160 : j_code jP 28 160 = some (.return_) := rfl
set_option maxRecDepth 1000000 in
theorem yr0p_k8 {pev : Int32} {pms : List Int32} {pmm : List Int32} {pevs : Int32} {pmss : List Int32} {pmms : List Int32} {d : Nat} {lv : J_L} {h h0 : J_H} {Q : Option Value → J_H → Prop} (L : LK lv [(0, .ref 47), (1, .ref 20)]) (K : KN h [(20, .inl (3, [.ref 21, .ref 22, .ref 23, .ref 24, .ref 25, .ref 26, .ref 27, .ref 28, .int pevs, .int 1])), (21, .inr (.inl (0, pmss))), (22, .inr (.inl (0, pmms))), (47, .inl (3, [.ref 48, .ref 49, .ref 50, .ref 51, .ref 52, .ref 53, .ref 54, .ref 55, .int pev, .int 1])), (48, .inr (.inl (0, pms))), (49, .inr (.inl (0, pmm)))] h0) (kk : ∀ lv h, LK lv [(0, .ref 47), (1, .ref 20)] → KN h [(20, .inl (3, [.ref 21, .ref 22, .ref 23, .ref 24, .ref 25, .ref 26, .ref 27, .ref 28, .int pevs, .int 1])), (21, .inr (.inl (0, pmss))), (22, .inr (.inl (0, pmms))), (47, .inl (3, [.ref 48, .ref 49, .ref 50, .ref 51, .ref 52, .ref 53, .ref 54, .ref 55, .int pev, .int 1])), (48, .inr (.inl (0, (aC (nI pms.length) pmss pms)))), (49, .inr (.inl (0, (aC (nI pmm.length) pmms pmm))))] h0 → j_V jP d 28 44 lv [] h Q) : j_V jP d 28 8 lv [] h Q := by
  refine j_V.ldL yr0p_M yr0p_8 rfl (i := 1) (kd := 2) (v := .ref 20) (pcJ := 9) rfl L rfl rfl rfl ?_
  refine j_V.getK yr0p_M yr0p_9 (ci := 3) (j := 0) rfl K rfl rfl ?_
  refine j_V.one yr0p_M yr0p_12 (by decide) (pcJ := 13) (stJ := [.int 0, .ref 21]) rfl ?_
  refine j_V.ldL yr0p_M yr0p_13 rfl (i := 0) (kd := 2) (v := .ref 47) (pcJ := 14) rfl L rfl rfl rfl ?_
  refine j_V.getK yr0p_M yr0p_14 (ci := 3) (j := 0) rfl K rfl rfl ?_
  refine j_V.one yr0p_M yr0p_17 (by decide) (pcJ := 18) (stJ := [.int 0, .ref 48, .int 0, .ref 21]) rfl ?_
  refine j_V.ldL yr0p_M yr0p_18 rfl (i := 0) (kd := 2) (v := .ref 47) (pcJ := 19) rfl L rfl rfl rfl ?_
  refine j_V.getK yr0p_M yr0p_19 (ci := 3) (j := 0) rfl K rfl rfl ?_
  refine j_V.alnA yr0p_M yr0p_22 K rfl ?_
  refine j_V.acp yr0p_M yr0p_23 rfl rfl K rfl rfl rfl (fun h K => ?_)
  refine j_V.ldL yr0p_M yr0p_26 rfl (i := 1) (kd := 2) (v := .ref 20) (pcJ := 27) rfl L rfl rfl rfl ?_
  refine j_V.getK yr0p_M yr0p_27 (ci := 3) (j := 1) rfl K rfl rfl ?_
  refine j_V.one yr0p_M yr0p_30 (by decide) (pcJ := 31) (stJ := [.int 0, .ref 22]) rfl ?_
  refine j_V.ldL yr0p_M yr0p_31 rfl (i := 0) (kd := 2) (v := .ref 47) (pcJ := 32) rfl L rfl rfl rfl ?_
  refine j_V.getK yr0p_M yr0p_32 (ci := 3) (j := 1) rfl K rfl rfl ?_
  refine j_V.one yr0p_M yr0p_35 (by decide) (pcJ := 36) (stJ := [.int 0, .ref 49, .int 0, .ref 22]) rfl ?_
  refine j_V.ldL yr0p_M yr0p_36 rfl (i := 0) (kd := 2) (v := .ref 47) (pcJ := 37) rfl L rfl rfl rfl ?_
  refine j_V.getK yr0p_M yr0p_37 (ci := 3) (j := 1) rfl K rfl rfl ?_
  refine j_V.alnA yr0p_M yr0p_40 K rfl ?_
  refine j_V.acp yr0p_M yr0p_41 rfl rfl K rfl rfl rfl (fun h K => ?_)
  exact kk _ _ L K
set_option maxRecDepth 1000000 in
theorem yr0p_k44 {pev : Int32} {pmt : List Int32} {pst : List Int32} {pevs : Int32} {pmts : List Int32} {psts : List Int32} {d : Nat} {lv : J_L} {h h0 : J_H} {Q : Option Value → J_H → Prop} (L : LK lv [(0, .ref 47), (1, .ref 20)]) (K : KN h [(20, .inl (3, [.ref 21, .ref 22, .ref 23, .ref 24, .ref 25, .ref 26, .ref 27, .ref 28, .int pevs, .int 1])), (23, .inr (.inl (0, pmts))), (24, .inr (.inl (0, psts))), (47, .inl (3, [.ref 48, .ref 49, .ref 50, .ref 51, .ref 52, .ref 53, .ref 54, .ref 55, .int pev, .int 1])), (50, .inr (.inl (0, pmt))), (51, .inr (.inl (0, pst)))] h0) (kk : ∀ lv h, LK lv [(0, .ref 47), (1, .ref 20)] → KN h [(20, .inl (3, [.ref 21, .ref 22, .ref 23, .ref 24, .ref 25, .ref 26, .ref 27, .ref 28, .int pevs, .int 1])), (23, .inr (.inl (0, pmts))), (24, .inr (.inl (0, psts))), (47, .inl (3, [.ref 48, .ref 49, .ref 50, .ref 51, .ref 52, .ref 53, .ref 54, .ref 55, .int pev, .int 1])), (50, .inr (.inl (0, (aC (nI pmt.length) pmts pmt)))), (51, .inr (.inl (0, (aC (nI pst.length) psts pst))))] h0 → j_V jP d 28 80 lv [] h Q) : j_V jP d 28 44 lv [] h Q := by
  refine j_V.ldL yr0p_M yr0p_44 rfl (i := 1) (kd := 2) (v := .ref 20) (pcJ := 45) rfl L rfl rfl rfl ?_
  refine j_V.getK yr0p_M yr0p_45 (ci := 3) (j := 2) rfl K rfl rfl ?_
  refine j_V.one yr0p_M yr0p_48 (by decide) (pcJ := 49) (stJ := [.int 0, .ref 23]) rfl ?_
  refine j_V.ldL yr0p_M yr0p_49 rfl (i := 0) (kd := 2) (v := .ref 47) (pcJ := 50) rfl L rfl rfl rfl ?_
  refine j_V.getK yr0p_M yr0p_50 (ci := 3) (j := 2) rfl K rfl rfl ?_
  refine j_V.one yr0p_M yr0p_53 (by decide) (pcJ := 54) (stJ := [.int 0, .ref 50, .int 0, .ref 23]) rfl ?_
  refine j_V.ldL yr0p_M yr0p_54 rfl (i := 0) (kd := 2) (v := .ref 47) (pcJ := 55) rfl L rfl rfl rfl ?_
  refine j_V.getK yr0p_M yr0p_55 (ci := 3) (j := 2) rfl K rfl rfl ?_
  refine j_V.alnA yr0p_M yr0p_58 K rfl ?_
  refine j_V.acp yr0p_M yr0p_59 rfl rfl K rfl rfl rfl (fun h K => ?_)
  refine j_V.ldL yr0p_M yr0p_62 rfl (i := 1) (kd := 2) (v := .ref 20) (pcJ := 63) rfl L rfl rfl rfl ?_
  refine j_V.getK yr0p_M yr0p_63 (ci := 3) (j := 3) rfl K rfl rfl ?_
  refine j_V.one yr0p_M yr0p_66 (by decide) (pcJ := 67) (stJ := [.int 0, .ref 24]) rfl ?_
  refine j_V.ldL yr0p_M yr0p_67 rfl (i := 0) (kd := 2) (v := .ref 47) (pcJ := 68) rfl L rfl rfl rfl ?_
  refine j_V.getK yr0p_M yr0p_68 (ci := 3) (j := 3) rfl K rfl rfl ?_
  refine j_V.one yr0p_M yr0p_71 (by decide) (pcJ := 72) (stJ := [.int 0, .ref 51, .int 0, .ref 24]) rfl ?_
  refine j_V.ldL yr0p_M yr0p_72 rfl (i := 0) (kd := 2) (v := .ref 47) (pcJ := 73) rfl L rfl rfl rfl ?_
  refine j_V.getK yr0p_M yr0p_73 (ci := 3) (j := 3) rfl K rfl rfl ?_
  refine j_V.alnA yr0p_M yr0p_76 K rfl ?_
  refine j_V.acp yr0p_M yr0p_77 rfl rfl K rfl rfl rfl (fun h K => ?_)
  exact kk _ _ L K
set_option maxRecDepth 1000000 in
theorem yr0p_k80 {pev : Int32} {pwa : List Int32} {prs : List Int32} {pevs : Int32} {pwas : List Int32} {prss : List Int32} {d : Nat} {lv : J_L} {h h0 : J_H} {Q : Option Value → J_H → Prop} (L : LK lv [(0, .ref 47), (1, .ref 20)]) (K : KN h [(20, .inl (3, [.ref 21, .ref 22, .ref 23, .ref 24, .ref 25, .ref 26, .ref 27, .ref 28, .int pevs, .int 1])), (25, .inr (.inl (0, pwas))), (26, .inr (.inl (0, prss))), (47, .inl (3, [.ref 48, .ref 49, .ref 50, .ref 51, .ref 52, .ref 53, .ref 54, .ref 55, .int pev, .int 1])), (52, .inr (.inl (0, pwa))), (53, .inr (.inl (0, prs)))] h0) (kk : ∀ lv h, LK lv [(0, .ref 47), (1, .ref 20)] → KN h [(20, .inl (3, [.ref 21, .ref 22, .ref 23, .ref 24, .ref 25, .ref 26, .ref 27, .ref 28, .int pevs, .int 1])), (25, .inr (.inl (0, pwas))), (26, .inr (.inl (0, prss))), (47, .inl (3, [.ref 48, .ref 49, .ref 50, .ref 51, .ref 52, .ref 53, .ref 54, .ref 55, .int pev, .int 1])), (52, .inr (.inl (0, (aC (nI pwa.length) pwas pwa)))), (53, .inr (.inl (0, (aC (nI prs.length) prss prs))))] h0 → j_V jP d 28 116 lv [] h Q) : j_V jP d 28 80 lv [] h Q := by
  refine j_V.ldL yr0p_M yr0p_80 rfl (i := 1) (kd := 2) (v := .ref 20) (pcJ := 81) rfl L rfl rfl rfl ?_
  refine j_V.getK yr0p_M yr0p_81 (ci := 3) (j := 4) rfl K rfl rfl ?_
  refine j_V.one yr0p_M yr0p_84 (by decide) (pcJ := 85) (stJ := [.int 0, .ref 25]) rfl ?_
  refine j_V.ldL yr0p_M yr0p_85 rfl (i := 0) (kd := 2) (v := .ref 47) (pcJ := 86) rfl L rfl rfl rfl ?_
  refine j_V.getK yr0p_M yr0p_86 (ci := 3) (j := 4) rfl K rfl rfl ?_
  refine j_V.one yr0p_M yr0p_89 (by decide) (pcJ := 90) (stJ := [.int 0, .ref 52, .int 0, .ref 25]) rfl ?_
  refine j_V.ldL yr0p_M yr0p_90 rfl (i := 0) (kd := 2) (v := .ref 47) (pcJ := 91) rfl L rfl rfl rfl ?_
  refine j_V.getK yr0p_M yr0p_91 (ci := 3) (j := 4) rfl K rfl rfl ?_
  refine j_V.alnA yr0p_M yr0p_94 K rfl ?_
  refine j_V.acp yr0p_M yr0p_95 rfl rfl K rfl rfl rfl (fun h K => ?_)
  refine j_V.ldL yr0p_M yr0p_98 rfl (i := 1) (kd := 2) (v := .ref 20) (pcJ := 99) rfl L rfl rfl rfl ?_
  refine j_V.getK yr0p_M yr0p_99 (ci := 3) (j := 5) rfl K rfl rfl ?_
  refine j_V.one yr0p_M yr0p_102 (by decide) (pcJ := 103) (stJ := [.int 0, .ref 26]) rfl ?_
  refine j_V.ldL yr0p_M yr0p_103 rfl (i := 0) (kd := 2) (v := .ref 47) (pcJ := 104) rfl L rfl rfl rfl ?_
  refine j_V.getK yr0p_M yr0p_104 (ci := 3) (j := 5) rfl K rfl rfl ?_
  refine j_V.one yr0p_M yr0p_107 (by decide) (pcJ := 108) (stJ := [.int 0, .ref 53, .int 0, .ref 26]) rfl ?_
  refine j_V.ldL yr0p_M yr0p_108 rfl (i := 0) (kd := 2) (v := .ref 47) (pcJ := 109) rfl L rfl rfl rfl ?_
  refine j_V.getK yr0p_M yr0p_109 (ci := 3) (j := 5) rfl K rfl rfl ?_
  refine j_V.alnA yr0p_M yr0p_112 K rfl ?_
  refine j_V.acp yr0p_M yr0p_113 rfl rfl K rfl rfl rfl (fun h K => ?_)
  exact kk _ _ L K
set_option maxRecDepth 1000000 in
theorem yr0p_k116 {pev : Int32} {prr : List Int32} {pfa : List Int32} {pevs : Int32} {prrs : List Int32} {pfas : List Int32} {d : Nat} {lv : J_L} {h h0 : J_H} {Q : Option Value → J_H → Prop} (L : LK lv [(0, .ref 47), (1, .ref 20)]) (K : KN h [(20, .inl (3, [.ref 21, .ref 22, .ref 23, .ref 24, .ref 25, .ref 26, .ref 27, .ref 28, .int pevs, .int 1])), (27, .inr (.inl (0, prrs))), (28, .inr (.inl (0, pfas))), (47, .inl (3, [.ref 48, .ref 49, .ref 50, .ref 51, .ref 52, .ref 53, .ref 54, .ref 55, .int pev, .int 1])), (54, .inr (.inl (0, prr))), (55, .inr (.inl (0, pfa)))] h0) (kk : ∀ lv h, LK lv [(0, .ref 47), (1, .ref 20)] → KN h [(20, .inl (3, [.ref 21, .ref 22, .ref 23, .ref 24, .ref 25, .ref 26, .ref 27, .ref 28, .int pevs, .int 1])), (27, .inr (.inl (0, prrs))), (28, .inr (.inl (0, pfas))), (47, .inl (3, [.ref 48, .ref 49, .ref 50, .ref 51, .ref 52, .ref 53, .ref 54, .ref 55, .int pev, .int 1])), (54, .inr (.inl (0, (aC (nI prr.length) prrs prr)))), (55, .inr (.inl (0, (aC (nI pfa.length) pfas pfa))))] h0 → j_V jP d 28 152 lv [] h Q) : j_V jP d 28 116 lv [] h Q := by
  refine j_V.ldL yr0p_M yr0p_116 rfl (i := 1) (kd := 2) (v := .ref 20) (pcJ := 117) rfl L rfl rfl rfl ?_
  refine j_V.getK yr0p_M yr0p_117 (ci := 3) (j := 6) rfl K rfl rfl ?_
  refine j_V.one yr0p_M yr0p_120 (by decide) (pcJ := 121) (stJ := [.int 0, .ref 27]) rfl ?_
  refine j_V.ldL yr0p_M yr0p_121 rfl (i := 0) (kd := 2) (v := .ref 47) (pcJ := 122) rfl L rfl rfl rfl ?_
  refine j_V.getK yr0p_M yr0p_122 (ci := 3) (j := 6) rfl K rfl rfl ?_
  refine j_V.one yr0p_M yr0p_125 (by decide) (pcJ := 126) (stJ := [.int 0, .ref 54, .int 0, .ref 27]) rfl ?_
  refine j_V.ldL yr0p_M yr0p_126 rfl (i := 0) (kd := 2) (v := .ref 47) (pcJ := 127) rfl L rfl rfl rfl ?_
  refine j_V.getK yr0p_M yr0p_127 (ci := 3) (j := 6) rfl K rfl rfl ?_
  refine j_V.alnA yr0p_M yr0p_130 K rfl ?_
  refine j_V.acp yr0p_M yr0p_131 rfl rfl K rfl rfl rfl (fun h K => ?_)
  refine j_V.ldL yr0p_M yr0p_134 rfl (i := 1) (kd := 2) (v := .ref 20) (pcJ := 135) rfl L rfl rfl rfl ?_
  refine j_V.getK yr0p_M yr0p_135 (ci := 3) (j := 7) rfl K rfl rfl ?_
  refine j_V.one yr0p_M yr0p_138 (by decide) (pcJ := 139) (stJ := [.int 0, .ref 28]) rfl ?_
  refine j_V.ldL yr0p_M yr0p_139 rfl (i := 0) (kd := 2) (v := .ref 47) (pcJ := 140) rfl L rfl rfl rfl ?_
  refine j_V.getK yr0p_M yr0p_140 (ci := 3) (j := 7) rfl K rfl rfl ?_
  refine j_V.one yr0p_M yr0p_143 (by decide) (pcJ := 144) (stJ := [.int 0, .ref 55, .int 0, .ref 28]) rfl ?_
  refine j_V.ldL yr0p_M yr0p_144 rfl (i := 0) (kd := 2) (v := .ref 47) (pcJ := 145) rfl L rfl rfl rfl ?_
  refine j_V.getK yr0p_M yr0p_145 (ci := 3) (j := 7) rfl K rfl rfl ?_
  refine j_V.alnA yr0p_M yr0p_148 K rfl ?_
  refine j_V.acp yr0p_M yr0p_149 rfl rfl K rfl rfl rfl (fun h K => ?_)
  exact kk _ _ L K
set_option maxRecDepth 1000000 in
theorem yr0p_ok {pev : Int32} {pms : List Int32} {pmm : List Int32} {pmt : List Int32} {pst : List Int32} {pwa : List Int32} {prs : List Int32} {prr : List Int32} {pfa : List Int32} {pevs : Int32} {pmss : List Int32} {pmms : List Int32} {pmts : List Int32} {psts : List Int32} {pwas : List Int32} {prss : List Int32} {prrs : List Int32} {pfas : List Int32} {d : Nat} {h h0 : J_H} (K : KN h [(20, .inl (3, [.ref 21, .ref 22, .ref 23, .ref 24, .ref 25, .ref 26, .ref 27, .ref 28, .int pevs, .int 1])), (21, .inr (.inl (0, pmss))), (22, .inr (.inl (0, pmms))), (23, .inr (.inl (0, pmts))), (24, .inr (.inl (0, psts))), (25, .inr (.inl (0, pwas))), (26, .inr (.inl (0, prss))), (27, .inr (.inl (0, prrs))), (28, .inr (.inl (0, pfas))), (47, .inl (3, [.ref 48, .ref 49, .ref 50, .ref 51, .ref 52, .ref 53, .ref 54, .ref 55, .int pev, .int 1])), (48, .inr (.inl (0, pms))), (49, .inr (.inl (0, pmm))), (50, .inr (.inl (0, pmt))), (51, .inr (.inl (0, pst))), (52, .inr (.inl (0, pwa))), (53, .inr (.inl (0, prs))), (54, .inr (.inl (0, prr))), (55, .inr (.inl (0, pfa)))] h0) : j_V jP d 28 0 (lv_args 0 [.ref 47, .ref 20]) [] h (fun rv h' => rv = none ∧ KN h' [(20, .inl (3, [.ref 21, .ref 22, .ref 23, .ref 24, .ref 25, .ref 26, .ref 27, .ref 28, .int pevs, .int 1])), (21, .inr (.inl (0, pmss))), (22, .inr (.inl (0, pmms))), (23, .inr (.inl (0, pmts))), (24, .inr (.inl (0, psts))), (25, .inr (.inl (0, pwas))), (26, .inr (.inl (0, prss))), (27, .inr (.inl (0, prrs))), (28, .inr (.inl (0, pfas))), (47, .inl (3, [.ref 48, .ref 49, .ref 50, .ref 51, .ref 52, .ref 53, .ref 54, .ref 55, .int pevs, .int 1])), (48, .inr (.inl (0, (aC (nI pms.length) pmss pms)))), (49, .inr (.inl (0, (aC (nI pmm.length) pmms pmm)))), (50, .inr (.inl (0, (aC (nI pmt.length) pmts pmt)))), (51, .inr (.inl (0, (aC (nI pst.length) psts pst)))), (52, .inr (.inl (0, (aC (nI pwa.length) pwas pwa)))), (53, .inr (.inl (0, (aC (nI prs.length) prss prs)))), (54, .inr (.inl (0, (aC (nI prr.length) prrs prr)))), (55, .inr (.inl (0, (aC (nI pfa.length) pfas pfa))))] h0) := by
  show j_V jP d 28 0 [(0, .ref 47), (1, .ref 20)] [] h _
  obtain ⟨lv, elv, L⟩ : ∃ lv, lv = [(0, .ref 47), (1, .ref 20)] ∧ LK lv [(0, .ref 47), (1, .ref 20)] := ⟨_, rfl, LK.rf⟩
  rw [← elv]
  clear elv
  refine j_V.ldL yr0p_M yr0p_0 rfl (i := 0) (kd := 2) (v := .ref 47) (pcJ := 1) rfl L rfl rfl rfl ?_
  refine j_V.getK yr0p_M yr0p_1 (ci := 3) (j := 9) rfl K rfl rfl ?_
  refine j_V.ifc yr0p_M yr0p_4 (t := 8) rfl (fun c4_0 => ?_) (fun c4_0 => ?_)
  · replace c4_0 : ¬ ((1 : Int32) = 0) := jd_ne c4_0
    refine yr0p_k8 L (K.fi [20, 21, 22, 47, 48, 49] rfl rfl) (fun lv h9 L K9 => ?_)
    have K : KN h9 [(20, .inl (3, [.ref 21, .ref 22, .ref 23, .ref 24, .ref 25, .ref 26, .ref 27, .ref 28, .int pevs, .int 1])), (21, .inr (.inl (0, pmss))), (22, .inr (.inl (0, pmms))), (23, .inr (.inl (0, pmts))), (24, .inr (.inl (0, psts))), (25, .inr (.inl (0, pwas))), (26, .inr (.inl (0, prss))), (27, .inr (.inl (0, prrs))), (28, .inr (.inl (0, pfas))), (47, .inl (3, [.ref 48, .ref 49, .ref 50, .ref 51, .ref 52, .ref 53, .ref 54, .ref 55, .int pev, .int 1])), (48, .inr (.inl (0, (aC (nI pms.length) pmss pms)))), (49, .inr (.inl (0, (aC (nI pmm.length) pmms pmm)))), (50, .inr (.inl (0, pmt))), (51, .inr (.inl (0, pst))), (52, .inr (.inl (0, pwa))), (53, .inr (.inl (0, prs))), (54, .inr (.inl (0, prr))), (55, .inr (.inl (0, pfa)))] h0 := K.mg K9 rfl rfl
    clear K9
    refine yr0p_k44 L (K.fi [20, 23, 24, 47, 50, 51] rfl rfl) (fun lv h9 L K9 => ?_)
    have K : KN h9 [(20, .inl (3, [.ref 21, .ref 22, .ref 23, .ref 24, .ref 25, .ref 26, .ref 27, .ref 28, .int pevs, .int 1])), (21, .inr (.inl (0, pmss))), (22, .inr (.inl (0, pmms))), (23, .inr (.inl (0, pmts))), (24, .inr (.inl (0, psts))), (25, .inr (.inl (0, pwas))), (26, .inr (.inl (0, prss))), (27, .inr (.inl (0, prrs))), (28, .inr (.inl (0, pfas))), (47, .inl (3, [.ref 48, .ref 49, .ref 50, .ref 51, .ref 52, .ref 53, .ref 54, .ref 55, .int pev, .int 1])), (48, .inr (.inl (0, (aC (nI pms.length) pmss pms)))), (49, .inr (.inl (0, (aC (nI pmm.length) pmms pmm)))), (50, .inr (.inl (0, (aC (nI pmt.length) pmts pmt)))), (51, .inr (.inl (0, (aC (nI pst.length) psts pst)))), (52, .inr (.inl (0, pwa))), (53, .inr (.inl (0, prs))), (54, .inr (.inl (0, prr))), (55, .inr (.inl (0, pfa)))] h0 := K.mg K9 rfl rfl
    clear K9
    refine yr0p_k80 L (K.fi [20, 25, 26, 47, 52, 53] rfl rfl) (fun lv h9 L K9 => ?_)
    have K : KN h9 [(20, .inl (3, [.ref 21, .ref 22, .ref 23, .ref 24, .ref 25, .ref 26, .ref 27, .ref 28, .int pevs, .int 1])), (21, .inr (.inl (0, pmss))), (22, .inr (.inl (0, pmms))), (23, .inr (.inl (0, pmts))), (24, .inr (.inl (0, psts))), (25, .inr (.inl (0, pwas))), (26, .inr (.inl (0, prss))), (27, .inr (.inl (0, prrs))), (28, .inr (.inl (0, pfas))), (47, .inl (3, [.ref 48, .ref 49, .ref 50, .ref 51, .ref 52, .ref 53, .ref 54, .ref 55, .int pev, .int 1])), (48, .inr (.inl (0, (aC (nI pms.length) pmss pms)))), (49, .inr (.inl (0, (aC (nI pmm.length) pmms pmm)))), (50, .inr (.inl (0, (aC (nI pmt.length) pmts pmt)))), (51, .inr (.inl (0, (aC (nI pst.length) psts pst)))), (52, .inr (.inl (0, (aC (nI pwa.length) pwas pwa)))), (53, .inr (.inl (0, (aC (nI prs.length) prss prs)))), (54, .inr (.inl (0, prr))), (55, .inr (.inl (0, pfa)))] h0 := K.mg K9 rfl rfl
    clear K9
    refine yr0p_k116 L (K.fi [20, 27, 28, 47, 54, 55] rfl rfl) (fun lv h9 L K9 => ?_)
    have K : KN h9 [(20, .inl (3, [.ref 21, .ref 22, .ref 23, .ref 24, .ref 25, .ref 26, .ref 27, .ref 28, .int pevs, .int 1])), (21, .inr (.inl (0, pmss))), (22, .inr (.inl (0, pmms))), (23, .inr (.inl (0, pmts))), (24, .inr (.inl (0, psts))), (25, .inr (.inl (0, pwas))), (26, .inr (.inl (0, prss))), (27, .inr (.inl (0, prrs))), (28, .inr (.inl (0, pfas))), (47, .inl (3, [.ref 48, .ref 49, .ref 50, .ref 51, .ref 52, .ref 53, .ref 54, .ref 55, .int pev, .int 1])), (48, .inr (.inl (0, (aC (nI pms.length) pmss pms)))), (49, .inr (.inl (0, (aC (nI pmm.length) pmms pmm)))), (50, .inr (.inl (0, (aC (nI pmt.length) pmts pmt)))), (51, .inr (.inl (0, (aC (nI pst.length) psts pst)))), (52, .inr (.inl (0, (aC (nI pwa.length) pwas pwa)))), (53, .inr (.inl (0, (aC (nI prs.length) prss prs)))), (54, .inr (.inl (0, (aC (nI prr.length) prrs prr)))), (55, .inr (.inl (0, (aC (nI pfa.length) pfas pfa))))] h0 := K.mg K9 rfl rfl
    clear K9
    refine j_V.ldL yr0p_M yr0p_152 rfl (i := 0) (kd := 2) (v := .ref 47) (pcJ := 153) rfl L rfl rfl rfl ?_
    refine j_V.ldL yr0p_M yr0p_153 rfl (i := 1) (kd := 2) (v := .ref 20) (pcJ := 154) rfl L rfl rfl rfl ?_
    refine j_V.getK yr0p_M yr0p_154 (ci := 3) (j := 8) rfl K rfl rfl ?_
    refine j_V.putK yr0p_M yr0p_157 (ci := 3) (j := 8) (k' := [(20, .inl (3, [.ref 21, .ref 22, .ref 23, .ref 24, .ref 25, .ref 26, .ref 27, .ref 28, .int pevs, .int 1])), (21, .inr (.inl (0, pmss))), (22, .inr (.inl (0, pmms))), (23, .inr (.inl (0, pmts))), (24, .inr (.inl (0, psts))), (25, .inr (.inl (0, pwas))), (26, .inr (.inl (0, prss))), (27, .inr (.inl (0, prrs))), (28, .inr (.inl (0, pfas))), (47, .inl (3, [.ref 48, .ref 49, .ref 50, .ref 51, .ref 52, .ref 53, .ref 54, .ref 55, .int pevs, .int 1])), (48, .inr (.inl (0, (aC (nI pms.length) pmss pms)))), (49, .inr (.inl (0, (aC (nI pmm.length) pmms pmm)))), (50, .inr (.inl (0, (aC (nI pmt.length) pmts pmt)))), (51, .inr (.inl (0, (aC (nI pst.length) psts pst)))), (52, .inr (.inl (0, (aC (nI pwa.length) pwas pwa)))), (53, .inr (.inl (0, (aC (nI prs.length) prss prs)))), (54, .inr (.inl (0, (aC (nI prr.length) prrs prr)))), (55, .inr (.inl (0, (aC (nI pfa.length) pfas pfa))))]) rfl K rfl (Nat.le_of_ble_eq_true rfl) rfl (Or.inl rfl) rfl rfl (fun h K => ?_)
    exact j_V.ret yr0p_M yr0p_160 rfl rfl ⟨rfl, K⟩
  · replace c4_0 : (1 : Int32) = 0 := jd_nen c4_0
    exact absurd c4_0 (by decide)
set_option maxRecDepth 100000 in
theorem yr0s_M : j_meth jP 61 = some (yX7_copyFrom, cX7_copyFrom, 2, none, 1, false, 7) := rfl
set_option maxRecDepth 100000 in
theorem yr0s_0 : j_code jP 61 0 = some (.aload_n 0) := rfl
set_option maxRecDepth 100000 in
theorem yr0s_1 : j_code jP 61 1 = some (.aload_n 1) := rfl
set_option maxRecDepth 100000 in
theorem yr0s_2 : j_code jP 61 2 = some (.getfield 64) := rfl
set_option maxRecDepth 100000 in
theorem yr0s_5 : j_code jP 61 5 = some (.putfield 64) := rfl
set_option maxRecDepth 100000 in
theorem yr0s_8 : j_code jP 61 8 = some (.aload_n 0) := rfl
set_option maxRecDepth 100000 in
theorem yr0s_9 : j_code jP 61 9 = some (.aload_n 1) := rfl
set_option maxRecDepth 100000 in
theorem yr0s_10 : j_code jP 61 10 = some (.getfield 68) := rfl
set_option maxRecDepth 100000 in
theorem yr0s_13 : j_code jP 61 13 = some (.putfield 68) := rfl
set_option maxRecDepth 100000 in
theorem yr0s_16 : j_code jP 61 16 = some (.aload_n 0) := rfl
set_option maxRecDepth 100000 in
theorem yr0s_17 : j_code jP 61 17 = some (.aload_n 1) := rfl
set_option maxRecDepth 100000 in
theorem yr0s_18 : j_code jP 61 18 = some (.getfield 72) := rfl
set_option maxRecDepth 100000 in
theorem yr0s_21 : j_code jP 61 21 = some (.putfield 72) := rfl
set_option maxRecDepth 100000 in
theorem yr0s_24 : j_code jP 61 24 = some (.aload_n 0) := rfl
set_option maxRecDepth 100000 in
theorem yr0s_25 : j_code jP 61 25 = some (.aload_n 1) := rfl
set_option maxRecDepth 100000 in
theorem yr0s_26 : j_code jP 61 26 = some (.getfield 75) := rfl
set_option maxRecDepth 100000 in
theorem yr0s_29 : j_code jP 61 29 = some (.putfield 75) := rfl
set_option maxRecDepth 100000 in
theorem yr0s_32 : j_code jP 61 32 = some (.aload_n 0) := rfl
set_option maxRecDepth 100000 in
theorem yr0s_33 : j_code jP 61 33 = some (.aload_n 1) := rfl
set_option maxRecDepth 100000 in
theorem yr0s_34 : j_code jP 61 34 = some (.getfield 78) := rfl
set_option maxRecDepth 100000 in
theorem yr0s_37 : j_code jP 61 37 = some (.putfield 78) := rfl
set_option maxRecDepth 100000 in
theorem yr0s_40 : j_code jP 61 40 = some (.aload_n 1) := rfl
set_option maxRecDepth 100000 in
theorem yr0s_41 : j_code jP 61 41 = some (.getfield 9) := rfl
set_option maxRecDepth 100000 in
theorem yr0s_44 : j_code jP 61 44 = some (.iconst 0) := rfl
set_option maxRecDepth 100000 in
theorem yr0s_45 : j_code jP 61 45 = some (.aload_n 0) := rfl
set_option maxRecDepth 100000 in
theorem yr0s_46 : j_code jP 61 46 = some (.getfield 9) := rfl
set_option maxRecDepth 100000 in
theorem yr0s_49 : j_code jP 61 49 = some (.iconst 0) := rfl
set_option maxRecDepth 100000 in
theorem yr0s_50 : j_code jP 61 50 = some (.iconst 5) := rfl
set_option maxRecDepth 100000 in
theorem yr0s_51 : j_code jP 61 51 = some (.invokestatic 84) := rfl
set_option maxRecDepth 100000 in
theorem yr0s_54 : j_code jP 61 54 = some (.aload_n 1) := rfl
set_option maxRecDepth 100000 in
theorem yr0s_55 : j_code jP 61 55 = some (.getfield 15) := rfl
set_option maxRecDepth 100000 in
theorem yr0s_58 : j_code jP 61 58 = some (.iconst 0) := rfl
set_option maxRecDepth 100000 in
theorem yr0s_59 : j_code jP 61 59 = some (.aload_n 0) := rfl
set_option maxRecDepth 100000 in
theorem yr0s_60 : j_code jP 61 60 = some (.getfield 15) := rfl
set_option maxRecDepth 100000 in
theorem yr0s_63 : j_code jP 61 63 = some (.iconst 0) := rfl
set_option maxRecDepth 100000 in
theorem yr0s_64 : j_code jP 61 64 = some (.iconst 5) := rfl
set_option maxRecDepth 100000 in
theorem yr0s_65 : j_code jP 61 65 = some (.invokestatic 84) := rfl
set_option maxRecDepth 100000 in
theorem yr0s_68 : j_code jP 61 68 = some (.aload_n 1) := rfl
set_option maxRecDepth 100000 in
theorem yr0s_69 : j_code jP 61 69 = some (.getfield 18) := rfl
set_option maxRecDepth 100000 in
theorem yr0s_72 : j_code jP 61 72 = some (.iconst 0) := rfl
set_option maxRecDepth 100000 in
theorem yr0s_73 : j_code jP 61 73 = some (.aload_n 0) := rfl
set_option maxRecDepth 100000 in
theorem yr0s_74 : j_code jP 61 74 = some (.getfield 18) := rfl
set_option maxRecDepth 100000 in
theorem yr0s_77 : j_code jP 61 77 = some (.iconst 0) := rfl
set_option maxRecDepth 100000 in
theorem yr0s_78 : j_code jP 61 78 = some (.iconst 5) := rfl
set_option maxRecDepth 100000 in
theorem yr0s_79 : j_code jP 61 79 = some (.invokestatic 84) := rfl
set_option maxRecDepth 100000 in
theorem yr0s_82 : j_code jP 61 82 = some (.aload_n 1) := rfl
set_option maxRecDepth 100000 in
theorem yr0s_83 : j_code jP 61 83 = some (.getfield 21) := rfl
set_option maxRecDepth 100000 in
theorem yr0s_86 : j_code jP 61 86 = some (.iconst 0) := rfl
set_option maxRecDepth 100000 in
theorem yr0s_87 : j_code jP 61 87 = some (.aload_n 0) := rfl
set_option maxRecDepth 100000 in
theorem yr0s_88 : j_code jP 61 88 = some (.getfield 21) := rfl
set_option maxRecDepth 100000 in
theorem yr0s_91 : j_code jP 61 91 = some (.iconst 0) := rfl
set_option maxRecDepth 100000 in
theorem yr0s_92 : j_code jP 61 92 = some (.iconst 5) := rfl
set_option maxRecDepth 100000 in
theorem yr0s_93 : j_code jP 61 93 = some (.invokestatic 84) := rfl
set_option maxRecDepth 100000 in
theorem yr0s_96 : j_code jP 61 96 = some (.aload_n 1) := rfl
set_option maxRecDepth 100000 in
theorem yr0s_97 : j_code jP 61 97 = some (.getfield 24) := rfl
set_option maxRecDepth 100000 in
theorem yr0s_100 : j_code jP 61 100 = some (.iconst 0) := rfl
set_option maxRecDepth 100000 in
theorem yr0s_101 : j_code jP 61 101 = some (.aload_n 0) := rfl
set_option maxRecDepth 100000 in
theorem yr0s_102 : j_code jP 61 102 = some (.getfield 24) := rfl
set_option maxRecDepth 100000 in
theorem yr0s_105 : j_code jP 61 105 = some (.iconst 0) := rfl
set_option maxRecDepth 100000 in
theorem yr0s_106 : j_code jP 61 106 = some (.iconst 5) := rfl
set_option maxRecDepth 100000 in
theorem yr0s_107 : j_code jP 61 107 = some (.invokestatic 84) := rfl
set_option maxRecDepth 100000 in
theorem yr0s_110 : j_code jP 61 110 = some (.aload_n 1) := rfl
set_option maxRecDepth 100000 in
theorem yr0s_111 : j_code jP 61 111 = some (.getfield 27) := rfl
set_option maxRecDepth 100000 in
theorem yr0s_114 : j_code jP 61 114 = some (.iconst 0) := rfl
set_option maxRecDepth 100000 in
theorem yr0s_115 : j_code jP 61 115 = some (.aload_n 0) := rfl
set_option maxRecDepth 100000 in
theorem yr0s_116 : j_code jP 61 116 = some (.getfield 27) := rfl
set_option maxRecDepth 100000 in
theorem yr0s_119 : j_code jP 61 119 = some (.iconst 0) := rfl
set_option maxRecDepth 100000 in
theorem yr0s_120 : j_code jP 61 120 = some (.iconst 5) := rfl
set_option maxRecDepth 100000 in
theorem yr0s_121 : j_code jP 61 121 = some (.invokestatic 84) := rfl
set_option maxRecDepth 100000 in
theorem yr0s_124 : j_code jP 61 124 = some (.aload_n 1) := rfl
set_option maxRecDepth 100000 in
theorem yr0s_125 : j_code jP 61 125 = some (.getfield 30) := rfl
set_option maxRecDepth 100000 in
theorem yr0s_128 : j_code jP 61 128 = some (.iconst 0) := rfl
set_option maxRecDepth 100000 in
theorem yr0s_129 : j_code jP 61 129 = some (.aload_n 0) := rfl
set_option maxRecDepth 100000 in
theorem yr0s_130 : j_code jP 61 130 = some (.getfield 30) := rfl
set_option maxRecDepth 100000 in
theorem yr0s_133 : j_code jP 61 133 = some (.iconst 0) := rfl
set_option maxRecDepth 100000 in
theorem yr0s_134 : j_code jP 61 134 = some (.iconst 5) := rfl
set_option maxRecDepth 100000 in
theorem yr0s_135 : j_code jP 61 135 = some (.invokestatic 84) := rfl
set_option maxRecDepth 100000 in
theorem yr0s_138 : j_code jP 61 138 = some (.aload_n 1) := rfl
set_option maxRecDepth 100000 in
theorem yr0s_139 : j_code jP 61 139 = some (.getfield 33) := rfl
set_option maxRecDepth 100000 in
theorem yr0s_142 : j_code jP 61 142 = some (.iconst 0) := rfl
set_option maxRecDepth 100000 in
theorem yr0s_143 : j_code jP 61 143 = some (.aload_n 0) := rfl
set_option maxRecDepth 100000 in
theorem yr0s_144 : j_code jP 61 144 = some (.getfield 33) := rfl
set_option maxRecDepth 100000 in
theorem yr0s_147 : j_code jP 61 147 = some (.iconst 0) := rfl
set_option maxRecDepth 100000 in
theorem yr0s_148 : j_code jP 61 148 = some (.bipush 6) := rfl
set_option maxRecDepth 100000 in
theorem yr0s_150 : j_code jP 61 150 = some (.invokestatic 84) := rfl
set_option maxRecDepth 100000 in
theorem yr0s_153 : j_code jP 61 153 = some (.aload_n 1) := rfl
set_option maxRecDepth 100000 in
theorem yr0s_154 : j_code jP 61 154 = some (.getfield 36) := rfl
set_option maxRecDepth 100000 in
theorem yr0s_157 : j_code jP 61 157 = some (.iconst 0) := rfl
set_option maxRecDepth 100000 in
theorem yr0s_158 : j_code jP 61 158 = some (.aload_n 0) := rfl
set_option maxRecDepth 100000 in
theorem yr0s_159 : j_code jP 61 159 = some (.getfield 36) := rfl
set_option maxRecDepth 100000 in
theorem yr0s_162 : j_code jP 61 162 = some (.iconst 0) := rfl
set_option maxRecDepth 100000 in
theorem yr0s_163 : j_code jP 61 163 = some (.bipush 6) := rfl
set_option maxRecDepth 100000 in
theorem yr0s_165 : j_code jP 61 165 = some (.invokestatic 84) := rfl
set_option maxRecDepth 100000 in
theorem yr0s_168 : j_code jP 61 168 = some (.aload_n 1) := rfl
set_option maxRecDepth 100000 in
theorem yr0s_169 : j_code jP 61 169 = some (.getfield 39) := rfl
set_option maxRecDepth 100000 in
theorem yr0s_172 : j_code jP 61 172 = some (.iconst 0) := rfl
set_option maxRecDepth 100000 in
theorem yr0s_173 : j_code jP 61 173 = some (.aload_n 0) := rfl
set_option maxRecDepth 100000 in
theorem yr0s_174 : j_code jP 61 174 = some (.getfield 39) := rfl
set_option maxRecDepth 100000 in
theorem yr0s_177 : j_code jP 61 177 = some (.iconst 0) := rfl
set_option maxRecDepth 100000 in
theorem yr0s_178 : j_code jP 61 178 = some (.aload_n 0) := rfl
set_option maxRecDepth 100000 in
theorem yr0s_179 : j_code jP 61 179 = some (.getfield 39) := rfl
set_option maxRecDepth 100000 in
theorem yr0s_182 : j_code jP 61 182 = some (.arraylength) := rfl
set_option maxRecDepth 100000 in
theorem yr0s_183 : j_code jP 61 183 = some (.invokestatic 84) := rfl
set_option maxRecDepth 100000 in
theorem yr0s_186 : j_code jP 61 186 = some (.aload_n 1) := rfl
set_option maxRecDepth 100000 in
theorem yr0s_187 : j_code jP 61 187 = some (.getfield 42) := rfl
set_option maxRecDepth 100000 in
theorem yr0s_190 : j_code jP 61 190 = some (.iconst 0) := rfl
set_option maxRecDepth 100000 in
theorem yr0s_191 : j_code jP 61 191 = some (.aload_n 0) := rfl
set_option maxRecDepth 100000 in
theorem yr0s_192 : j_code jP 61 192 = some (.getfield 42) := rfl
set_option maxRecDepth 100000 in
theorem yr0s_195 : j_code jP 61 195 = some (.iconst 0) := rfl
set_option maxRecDepth 100000 in
theorem yr0s_196 : j_code jP 61 196 = some (.aload_n 0) := rfl
set_option maxRecDepth 100000 in
theorem yr0s_197 : j_code jP 61 197 = some (.getfield 42) := rfl
set_option maxRecDepth 100000 in
theorem yr0s_200 : j_code jP 61 200 = some (.arraylength) := rfl
set_option maxRecDepth 100000 in
theorem yr0s_201 : j_code jP 61 201 = some (.invokestatic 84) := rfl
set_option maxRecDepth 100000 in
theorem yr0s_204 : j_code jP 61 204 = some (.aload_n 1) := rfl
set_option maxRecDepth 100000 in
theorem yr0s_205 : j_code jP 61 205 = some (.getfield 45) := rfl
set_option maxRecDepth 100000 in
theorem yr0s_208 : j_code jP 61 208 = some (.iconst 0) := rfl
set_option maxRecDepth 100000 in
theorem yr0s_209 : j_code jP 61 209 = some (.aload_n 0) := rfl
set_option maxRecDepth 100000 in
theorem yr0s_210 : j_code jP 61 210 = some (.getfield 45) := rfl
set_option maxRecDepth 100000 in
theorem yr0s_213 : j_code jP 61 213 = some (.iconst 0) := rfl
set_option maxRecDepth 100000 in
theorem yr0s_214 : j_code jP 61 214 = some (.aload_n 0) := rfl
set_option maxRecDepth 100000 in
theorem yr0s_215 : j_code jP 61 215 = some (.getfield 45) := rfl
set_option maxRecDepth 100000 in
theorem yr0s_218 : j_code jP 61 218 = some (.arraylength) := rfl
set_option maxRecDepth 100000 in
theorem yr0s_219 : j_code jP 61 219 = some (.invokestatic 84) := rfl
set_option maxRecDepth 100000 in
theorem yr0s_222 : j_code jP 61 222 = some (.aload_n 0) := rfl
set_option maxRecDepth 100000 in
theorem yr0s_223 : j_code jP 61 223 = some (.getfield 60) := rfl
set_option maxRecDepth 100000 in
theorem yr0s_226 : j_code jP 61 226 = some (.aload_n 1) := rfl
set_option maxRecDepth 100000 in
theorem yr0s_227 : j_code jP 61 227 = some (.getfield 60) := rfl
set_option maxRecDepth 100000 in
theorem yr0s_230 : j_code jP 61 230 = some (.invokevirtual 108) := rfl
set_option maxRecDepth 100000 in
theorem yr0s_233 : j_code jP 61 233 = some (.return_) := rfl
set_option maxRecDepth 1000000 in
theorem yr0s_k0 {ly : Value} {mi : Int32} {shu : Int32} {bus : Int32} {lks : Int32} {lys : Nat} {mis : Int32} {shus : Int32} {buss : Int32} {lkss : Int32} {d : Nat} {lv : J_L} {h h0 : J_H} {Q : Option Value → J_H → Prop} (L : LK lv [(0, .ref 31), (1, .ref 4)]) (K : KN h [(4, .inl (7, [.ref lys, .int mis, .int shus, .int buss, .ref 5, .ref 6, .ref 7, .ref 8, .ref 9, .ref 10, .ref 11, .ref 12, .ref 13, .ref 14, .ref 15, .int lkss, .ref 16, .ref 17, .ref 20])), (31, .inl (7, [ly, .int mi, .int shu, .int bus, .ref 32, .ref 33, .ref 34, .ref 35, .ref 36, .ref 37, .ref 38, .ref 39, .ref 40, .ref 41, .ref 42, .int lks, .ref 43, .ref 44, .ref 47]))] h0) (kk : ∀ lv h, LK lv [(0, .ref 31), (1, .ref 4)] → KN h [(4, .inl (7, [.ref lys, .int mis, .int shus, .int buss, .ref 5, .ref 6, .ref 7, .ref 8, .ref 9, .ref 10, .ref 11, .ref 12, .ref 13, .ref 14, .ref 15, .int lkss, .ref 16, .ref 17, .ref 20])), (31, .inl (7, [.ref lys, .int mis, .int shus, .int buss, .ref 32, .ref 33, .ref 34, .ref 35, .ref 36, .ref 37, .ref 38, .ref 39, .ref 40, .ref 41, .ref 42, .int lkss, .ref 43, .ref 44, .ref 47]))] h0 → j_V jP d 61 40 lv [] h Q) : j_V jP d 61 0 lv [] h Q := by
  refine j_V.ldL yr0s_M yr0s_0 rfl (i := 0) (kd := 2) (v := .ref 31) (pcJ := 1) rfl L rfl rfl rfl ?_
  refine j_V.ldL yr0s_M yr0s_1 rfl (i := 1) (kd := 2) (v := .ref 4) (pcJ := 2) rfl L rfl rfl rfl ?_
  refine j_V.getK yr0s_M yr0s_2 (ci := 7) (j := 0) rfl K rfl rfl ?_
  refine j_V.putK yr0s_M yr0s_5 (ci := 7) (j := 0) (k' := [(4, .inl (7, [.ref lys, .int mis, .int shus, .int buss, .ref 5, .ref 6, .ref 7, .ref 8, .ref 9, .ref 10, .ref 11, .ref 12, .ref 13, .ref 14, .ref 15, .int lkss, .ref 16, .ref 17, .ref 20])), (31, .inl (7, [.ref lys, .int mi, .int shu, .int bus, .ref 32, .ref 33, .ref 34, .ref 35, .ref 36, .ref 37, .ref 38, .ref 39, .ref 40, .ref 41, .ref 42, .int lks, .ref 43, .ref 44, .ref 47]))]) rfl K rfl (Nat.le_of_ble_eq_true rfl) rfl (Or.inl rfl) rfl rfl (fun h K => ?_)
  refine j_V.ldL yr0s_M yr0s_8 rfl (i := 0) (kd := 2) (v := .ref 31) (pcJ := 9) rfl L rfl rfl rfl ?_
  refine j_V.ldL yr0s_M yr0s_9 rfl (i := 1) (kd := 2) (v := .ref 4) (pcJ := 10) rfl L rfl rfl rfl ?_
  refine j_V.getK yr0s_M yr0s_10 (ci := 7) (j := 1) rfl K rfl rfl ?_
  refine j_V.putK yr0s_M yr0s_13 (ci := 7) (j := 1) (k' := [(4, .inl (7, [.ref lys, .int mis, .int shus, .int buss, .ref 5, .ref 6, .ref 7, .ref 8, .ref 9, .ref 10, .ref 11, .ref 12, .ref 13, .ref 14, .ref 15, .int lkss, .ref 16, .ref 17, .ref 20])), (31, .inl (7, [.ref lys, .int mis, .int shu, .int bus, .ref 32, .ref 33, .ref 34, .ref 35, .ref 36, .ref 37, .ref 38, .ref 39, .ref 40, .ref 41, .ref 42, .int lks, .ref 43, .ref 44, .ref 47]))]) rfl K rfl (Nat.le_of_ble_eq_true rfl) rfl (Or.inl rfl) rfl rfl (fun h K => ?_)
  refine j_V.ldL yr0s_M yr0s_16 rfl (i := 0) (kd := 2) (v := .ref 31) (pcJ := 17) rfl L rfl rfl rfl ?_
  refine j_V.ldL yr0s_M yr0s_17 rfl (i := 1) (kd := 2) (v := .ref 4) (pcJ := 18) rfl L rfl rfl rfl ?_
  refine j_V.getK yr0s_M yr0s_18 (ci := 7) (j := 2) rfl K rfl rfl ?_
  refine j_V.putK yr0s_M yr0s_21 (ci := 7) (j := 2) (k' := [(4, .inl (7, [.ref lys, .int mis, .int shus, .int buss, .ref 5, .ref 6, .ref 7, .ref 8, .ref 9, .ref 10, .ref 11, .ref 12, .ref 13, .ref 14, .ref 15, .int lkss, .ref 16, .ref 17, .ref 20])), (31, .inl (7, [.ref lys, .int mis, .int shus, .int bus, .ref 32, .ref 33, .ref 34, .ref 35, .ref 36, .ref 37, .ref 38, .ref 39, .ref 40, .ref 41, .ref 42, .int lks, .ref 43, .ref 44, .ref 47]))]) rfl K rfl (Nat.le_of_ble_eq_true rfl) rfl (Or.inl rfl) rfl rfl (fun h K => ?_)
  refine j_V.ldL yr0s_M yr0s_24 rfl (i := 0) (kd := 2) (v := .ref 31) (pcJ := 25) rfl L rfl rfl rfl ?_
  refine j_V.ldL yr0s_M yr0s_25 rfl (i := 1) (kd := 2) (v := .ref 4) (pcJ := 26) rfl L rfl rfl rfl ?_
  refine j_V.getK yr0s_M yr0s_26 (ci := 7) (j := 3) rfl K rfl rfl ?_
  refine j_V.putK yr0s_M yr0s_29 (ci := 7) (j := 3) (k' := [(4, .inl (7, [.ref lys, .int mis, .int shus, .int buss, .ref 5, .ref 6, .ref 7, .ref 8, .ref 9, .ref 10, .ref 11, .ref 12, .ref 13, .ref 14, .ref 15, .int lkss, .ref 16, .ref 17, .ref 20])), (31, .inl (7, [.ref lys, .int mis, .int shus, .int buss, .ref 32, .ref 33, .ref 34, .ref 35, .ref 36, .ref 37, .ref 38, .ref 39, .ref 40, .ref 41, .ref 42, .int lks, .ref 43, .ref 44, .ref 47]))]) rfl K rfl (Nat.le_of_ble_eq_true rfl) rfl (Or.inl rfl) rfl rfl (fun h K => ?_)
  refine j_V.ldL yr0s_M yr0s_32 rfl (i := 0) (kd := 2) (v := .ref 31) (pcJ := 33) rfl L rfl rfl rfl ?_
  refine j_V.ldL yr0s_M yr0s_33 rfl (i := 1) (kd := 2) (v := .ref 4) (pcJ := 34) rfl L rfl rfl rfl ?_
  refine j_V.getK yr0s_M yr0s_34 (ci := 7) (j := 15) rfl K rfl rfl ?_
  refine j_V.putK yr0s_M yr0s_37 (ci := 7) (j := 15) (k' := [(4, .inl (7, [.ref lys, .int mis, .int shus, .int buss, .ref 5, .ref 6, .ref 7, .ref 8, .ref 9, .ref 10, .ref 11, .ref 12, .ref 13, .ref 14, .ref 15, .int lkss, .ref 16, .ref 17, .ref 20])), (31, .inl (7, [.ref lys, .int mis, .int shus, .int buss, .ref 32, .ref 33, .ref 34, .ref 35, .ref 36, .ref 37, .ref 38, .ref 39, .ref 40, .ref 41, .ref 42, .int lkss, .ref 43, .ref 44, .ref 47]))]) rfl K rfl (Nat.le_of_ble_eq_true rfl) rfl (Or.inl rfl) rfl rfl (fun h K => ?_)
  exact kk _ _ L K
set_option maxRecDepth 1000000 in
theorem yr0s_k40 {rk : List Int32} {sta : List Int32} {ph : List Int32} {lys : Nat} {mis : Int32} {shus : Int32} {buss : Int32} {lkss : Int32} {rks : List Int32} {stas : List Int32} {phs : List Int32} {d : Nat} {lv : J_L} {h h0 : J_H} {Q : Option Value → J_H → Prop} (L : LK lv [(0, .ref 31), (1, .ref 4)]) (K : KN h [(4, .inl (7, [.ref lys, .int mis, .int shus, .int buss, .ref 5, .ref 6, .ref 7, .ref 8, .ref 9, .ref 10, .ref 11, .ref 12, .ref 13, .ref 14, .ref 15, .int lkss, .ref 16, .ref 17, .ref 20])), (5, .inr (.inl (0, rks))), (6, .inr (.inl (0, stas))), (7, .inr (.inl (0, phs))), (31, .inl (7, [.ref lys, .int mis, .int shus, .int buss, .ref 32, .ref 33, .ref 34, .ref 35, .ref 36, .ref 37, .ref 38, .ref 39, .ref 40, .ref 41, .ref 42, .int lkss, .ref 43, .ref 44, .ref 47])), (32, .inr (.inl (0, rk))), (33, .inr (.inl (0, sta))), (34, .inr (.inl (0, ph)))] h0) (kk : ∀ lv h, LK lv [(0, .ref 31), (1, .ref 4)] → KN h [(4, .inl (7, [.ref lys, .int mis, .int shus, .int buss, .ref 5, .ref 6, .ref 7, .ref 8, .ref 9, .ref 10, .ref 11, .ref 12, .ref 13, .ref 14, .ref 15, .int lkss, .ref 16, .ref 17, .ref 20])), (5, .inr (.inl (0, rks))), (6, .inr (.inl (0, stas))), (7, .inr (.inl (0, phs))), (31, .inl (7, [.ref lys, .int mis, .int shus, .int buss, .ref 32, .ref 33, .ref 34, .ref 35, .ref 36, .ref 37, .ref 38, .ref 39, .ref 40, .ref 41, .ref 42, .int lkss, .ref 43, .ref 44, .ref 47])), (32, .inr (.inl (0, (aC 5 rks rk)))), (33, .inr (.inl (0, (aC 5 stas sta)))), (34, .inr (.inl (0, (aC 5 phs ph))))] h0 → j_V jP d 61 82 lv [] h Q) : j_V jP d 61 40 lv [] h Q := by
  refine j_V.ldL yr0s_M yr0s_40 rfl (i := 1) (kd := 2) (v := .ref 4) (pcJ := 41) rfl L rfl rfl rfl ?_
  refine j_V.getK yr0s_M yr0s_41 (ci := 7) (j := 4) rfl K rfl rfl ?_
  refine j_V.one yr0s_M yr0s_44 (by decide) (pcJ := 45) (stJ := [.int 0, .ref 5]) rfl ?_
  refine j_V.ldL yr0s_M yr0s_45 rfl (i := 0) (kd := 2) (v := .ref 31) (pcJ := 46) rfl L rfl rfl rfl ?_
  refine j_V.getK yr0s_M yr0s_46 (ci := 7) (j := 4) rfl K rfl rfl ?_
  refine j_V.one yr0s_M yr0s_49 (by decide) (pcJ := 50) (stJ := [.int 0, .ref 32, .int 0, .ref 5]) rfl ?_
  refine j_V.one yr0s_M yr0s_50 (by decide) (pcJ := 51) (stJ := [.int 5, .int 0, .ref 32, .int 0, .ref 5]) rfl ?_
  refine j_V.acp yr0s_M yr0s_51 rfl rfl K rfl rfl rfl (fun h K => ?_)
  refine j_V.ldL yr0s_M yr0s_54 rfl (i := 1) (kd := 2) (v := .ref 4) (pcJ := 55) rfl L rfl rfl rfl ?_
  refine j_V.getK yr0s_M yr0s_55 (ci := 7) (j := 5) rfl K rfl rfl ?_
  refine j_V.one yr0s_M yr0s_58 (by decide) (pcJ := 59) (stJ := [.int 0, .ref 6]) rfl ?_
  refine j_V.ldL yr0s_M yr0s_59 rfl (i := 0) (kd := 2) (v := .ref 31) (pcJ := 60) rfl L rfl rfl rfl ?_
  refine j_V.getK yr0s_M yr0s_60 (ci := 7) (j := 5) rfl K rfl rfl ?_
  refine j_V.one yr0s_M yr0s_63 (by decide) (pcJ := 64) (stJ := [.int 0, .ref 33, .int 0, .ref 6]) rfl ?_
  refine j_V.one yr0s_M yr0s_64 (by decide) (pcJ := 65) (stJ := [.int 5, .int 0, .ref 33, .int 0, .ref 6]) rfl ?_
  refine j_V.acp yr0s_M yr0s_65 rfl rfl K rfl rfl rfl (fun h K => ?_)
  refine j_V.ldL yr0s_M yr0s_68 rfl (i := 1) (kd := 2) (v := .ref 4) (pcJ := 69) rfl L rfl rfl rfl ?_
  refine j_V.getK yr0s_M yr0s_69 (ci := 7) (j := 6) rfl K rfl rfl ?_
  refine j_V.one yr0s_M yr0s_72 (by decide) (pcJ := 73) (stJ := [.int 0, .ref 7]) rfl ?_
  refine j_V.ldL yr0s_M yr0s_73 rfl (i := 0) (kd := 2) (v := .ref 31) (pcJ := 74) rfl L rfl rfl rfl ?_
  refine j_V.getK yr0s_M yr0s_74 (ci := 7) (j := 6) rfl K rfl rfl ?_
  refine j_V.one yr0s_M yr0s_77 (by decide) (pcJ := 78) (stJ := [.int 0, .ref 34, .int 0, .ref 7]) rfl ?_
  refine j_V.one yr0s_M yr0s_78 (by decide) (pcJ := 79) (stJ := [.int 5, .int 0, .ref 34, .int 0, .ref 7]) rfl ?_
  refine j_V.acp yr0s_M yr0s_79 rfl rfl K rfl rfl rfl (fun h K => ?_)
  exact kk _ _ L K
set_option maxRecDepth 1000000 in
theorem yr0s_k82 {sp : List Int32} {ce : List Int32} {du : List Int32} {lys : Nat} {mis : Int32} {shus : Int32} {buss : Int32} {lkss : Int32} {sps : List Int32} {ces : List Int32} {dus : List Int32} {d : Nat} {lv : J_L} {h h0 : J_H} {Q : Option Value → J_H → Prop} (L : LK lv [(0, .ref 31), (1, .ref 4)]) (K : KN h [(4, .inl (7, [.ref lys, .int mis, .int shus, .int buss, .ref 5, .ref 6, .ref 7, .ref 8, .ref 9, .ref 10, .ref 11, .ref 12, .ref 13, .ref 14, .ref 15, .int lkss, .ref 16, .ref 17, .ref 20])), (8, .inr (.inl (0, sps))), (9, .inr (.inl (0, ces))), (10, .inr (.inl (0, dus))), (31, .inl (7, [.ref lys, .int mis, .int shus, .int buss, .ref 32, .ref 33, .ref 34, .ref 35, .ref 36, .ref 37, .ref 38, .ref 39, .ref 40, .ref 41, .ref 42, .int lkss, .ref 43, .ref 44, .ref 47])), (35, .inr (.inl (0, sp))), (36, .inr (.inl (0, ce))), (37, .inr (.inl (0, du)))] h0) (kk : ∀ lv h, LK lv [(0, .ref 31), (1, .ref 4)] → KN h [(4, .inl (7, [.ref lys, .int mis, .int shus, .int buss, .ref 5, .ref 6, .ref 7, .ref 8, .ref 9, .ref 10, .ref 11, .ref 12, .ref 13, .ref 14, .ref 15, .int lkss, .ref 16, .ref 17, .ref 20])), (8, .inr (.inl (0, sps))), (9, .inr (.inl (0, ces))), (10, .inr (.inl (0, dus))), (31, .inl (7, [.ref lys, .int mis, .int shus, .int buss, .ref 32, .ref 33, .ref 34, .ref 35, .ref 36, .ref 37, .ref 38, .ref 39, .ref 40, .ref 41, .ref 42, .int lkss, .ref 43, .ref 44, .ref 47])), (35, .inr (.inl (0, (aC 5 sps sp)))), (36, .inr (.inl (0, (aC 5 ces ce)))), (37, .inr (.inl (0, (aC 5 dus du))))] h0 → j_V jP d 61 124 lv [] h Q) : j_V jP d 61 82 lv [] h Q := by
  refine j_V.ldL yr0s_M yr0s_82 rfl (i := 1) (kd := 2) (v := .ref 4) (pcJ := 83) rfl L rfl rfl rfl ?_
  refine j_V.getK yr0s_M yr0s_83 (ci := 7) (j := 7) rfl K rfl rfl ?_
  refine j_V.one yr0s_M yr0s_86 (by decide) (pcJ := 87) (stJ := [.int 0, .ref 8]) rfl ?_
  refine j_V.ldL yr0s_M yr0s_87 rfl (i := 0) (kd := 2) (v := .ref 31) (pcJ := 88) rfl L rfl rfl rfl ?_
  refine j_V.getK yr0s_M yr0s_88 (ci := 7) (j := 7) rfl K rfl rfl ?_
  refine j_V.one yr0s_M yr0s_91 (by decide) (pcJ := 92) (stJ := [.int 0, .ref 35, .int 0, .ref 8]) rfl ?_
  refine j_V.one yr0s_M yr0s_92 (by decide) (pcJ := 93) (stJ := [.int 5, .int 0, .ref 35, .int 0, .ref 8]) rfl ?_
  refine j_V.acp yr0s_M yr0s_93 rfl rfl K rfl rfl rfl (fun h K => ?_)
  refine j_V.ldL yr0s_M yr0s_96 rfl (i := 1) (kd := 2) (v := .ref 4) (pcJ := 97) rfl L rfl rfl rfl ?_
  refine j_V.getK yr0s_M yr0s_97 (ci := 7) (j := 8) rfl K rfl rfl ?_
  refine j_V.one yr0s_M yr0s_100 (by decide) (pcJ := 101) (stJ := [.int 0, .ref 9]) rfl ?_
  refine j_V.ldL yr0s_M yr0s_101 rfl (i := 0) (kd := 2) (v := .ref 31) (pcJ := 102) rfl L rfl rfl rfl ?_
  refine j_V.getK yr0s_M yr0s_102 (ci := 7) (j := 8) rfl K rfl rfl ?_
  refine j_V.one yr0s_M yr0s_105 (by decide) (pcJ := 106) (stJ := [.int 0, .ref 36, .int 0, .ref 9]) rfl ?_
  refine j_V.one yr0s_M yr0s_106 (by decide) (pcJ := 107) (stJ := [.int 5, .int 0, .ref 36, .int 0, .ref 9]) rfl ?_
  refine j_V.acp yr0s_M yr0s_107 rfl rfl K rfl rfl rfl (fun h K => ?_)
  refine j_V.ldL yr0s_M yr0s_110 rfl (i := 1) (kd := 2) (v := .ref 4) (pcJ := 111) rfl L rfl rfl rfl ?_
  refine j_V.getK yr0s_M yr0s_111 (ci := 7) (j := 9) rfl K rfl rfl ?_
  refine j_V.one yr0s_M yr0s_114 (by decide) (pcJ := 115) (stJ := [.int 0, .ref 10]) rfl ?_
  refine j_V.ldL yr0s_M yr0s_115 rfl (i := 0) (kd := 2) (v := .ref 31) (pcJ := 116) rfl L rfl rfl rfl ?_
  refine j_V.getK yr0s_M yr0s_116 (ci := 7) (j := 9) rfl K rfl rfl ?_
  refine j_V.one yr0s_M yr0s_119 (by decide) (pcJ := 120) (stJ := [.int 0, .ref 37, .int 0, .ref 10]) rfl ?_
  refine j_V.one yr0s_M yr0s_120 (by decide) (pcJ := 121) (stJ := [.int 5, .int 0, .ref 37, .int 0, .ref 10]) rfl ?_
  refine j_V.acp yr0s_M yr0s_121 rfl rfl K rfl rfl rfl (fun h K => ?_)
  exact kk _ _ L K
set_option maxRecDepth 1000000 in
theorem yr0s_k124 {he : List Int32} {ri : List Int32} {us : List Int32} {lys : Nat} {mis : Int32} {shus : Int32} {buss : Int32} {lkss : Int32} {hes : List Int32} {ris : List Int32} {uss : List Int32} {d : Nat} {lv : J_L} {h h0 : J_H} {Q : Option Value → J_H → Prop} (L : LK lv [(0, .ref 31), (1, .ref 4)]) (K : KN h [(4, .inl (7, [.ref lys, .int mis, .int shus, .int buss, .ref 5, .ref 6, .ref 7, .ref 8, .ref 9, .ref 10, .ref 11, .ref 12, .ref 13, .ref 14, .ref 15, .int lkss, .ref 16, .ref 17, .ref 20])), (11, .inr (.inl (0, hes))), (12, .inr (.inl (0, ris))), (13, .inr (.inl (0, uss))), (31, .inl (7, [.ref lys, .int mis, .int shus, .int buss, .ref 32, .ref 33, .ref 34, .ref 35, .ref 36, .ref 37, .ref 38, .ref 39, .ref 40, .ref 41, .ref 42, .int lkss, .ref 43, .ref 44, .ref 47])), (38, .inr (.inl (0, he))), (39, .inr (.inl (0, ri))), (40, .inr (.inl (0, us)))] h0) (kk : ∀ lv h, LK lv [(0, .ref 31), (1, .ref 4)] → KN h [(4, .inl (7, [.ref lys, .int mis, .int shus, .int buss, .ref 5, .ref 6, .ref 7, .ref 8, .ref 9, .ref 10, .ref 11, .ref 12, .ref 13, .ref 14, .ref 15, .int lkss, .ref 16, .ref 17, .ref 20])), (11, .inr (.inl (0, hes))), (12, .inr (.inl (0, ris))), (13, .inr (.inl (0, uss))), (31, .inl (7, [.ref lys, .int mis, .int shus, .int buss, .ref 32, .ref 33, .ref 34, .ref 35, .ref 36, .ref 37, .ref 38, .ref 39, .ref 40, .ref 41, .ref 42, .int lkss, .ref 43, .ref 44, .ref 47])), (38, .inr (.inl (0, (aC 5 hes he)))), (39, .inr (.inl (0, (aC 6 ris ri)))), (40, .inr (.inl (0, (aC 6 uss us))))] h0 → j_V jP d 61 168 lv [] h Q) : j_V jP d 61 124 lv [] h Q := by
  refine j_V.ldL yr0s_M yr0s_124 rfl (i := 1) (kd := 2) (v := .ref 4) (pcJ := 125) rfl L rfl rfl rfl ?_
  refine j_V.getK yr0s_M yr0s_125 (ci := 7) (j := 10) rfl K rfl rfl ?_
  refine j_V.one yr0s_M yr0s_128 (by decide) (pcJ := 129) (stJ := [.int 0, .ref 11]) rfl ?_
  refine j_V.ldL yr0s_M yr0s_129 rfl (i := 0) (kd := 2) (v := .ref 31) (pcJ := 130) rfl L rfl rfl rfl ?_
  refine j_V.getK yr0s_M yr0s_130 (ci := 7) (j := 10) rfl K rfl rfl ?_
  refine j_V.one yr0s_M yr0s_133 (by decide) (pcJ := 134) (stJ := [.int 0, .ref 38, .int 0, .ref 11]) rfl ?_
  refine j_V.one yr0s_M yr0s_134 (by decide) (pcJ := 135) (stJ := [.int 5, .int 0, .ref 38, .int 0, .ref 11]) rfl ?_
  refine j_V.acp yr0s_M yr0s_135 rfl rfl K rfl rfl rfl (fun h K => ?_)
  refine j_V.ldL yr0s_M yr0s_138 rfl (i := 1) (kd := 2) (v := .ref 4) (pcJ := 139) rfl L rfl rfl rfl ?_
  refine j_V.getK yr0s_M yr0s_139 (ci := 7) (j := 11) rfl K rfl rfl ?_
  refine j_V.one yr0s_M yr0s_142 (by decide) (pcJ := 143) (stJ := [.int 0, .ref 12]) rfl ?_
  refine j_V.ldL yr0s_M yr0s_143 rfl (i := 0) (kd := 2) (v := .ref 31) (pcJ := 144) rfl L rfl rfl rfl ?_
  refine j_V.getK yr0s_M yr0s_144 (ci := 7) (j := 11) rfl K rfl rfl ?_
  refine j_V.one yr0s_M yr0s_147 (by decide) (pcJ := 148) (stJ := [.int 0, .ref 39, .int 0, .ref 12]) rfl ?_
  refine j_V.one yr0s_M yr0s_148 (by decide) (pcJ := 150) (stJ := [.int 6, .int 0, .ref 39, .int 0, .ref 12]) rfl ?_
  refine j_V.acp yr0s_M yr0s_150 rfl rfl K rfl rfl rfl (fun h K => ?_)
  refine j_V.ldL yr0s_M yr0s_153 rfl (i := 1) (kd := 2) (v := .ref 4) (pcJ := 154) rfl L rfl rfl rfl ?_
  refine j_V.getK yr0s_M yr0s_154 (ci := 7) (j := 12) rfl K rfl rfl ?_
  refine j_V.one yr0s_M yr0s_157 (by decide) (pcJ := 158) (stJ := [.int 0, .ref 13]) rfl ?_
  refine j_V.ldL yr0s_M yr0s_158 rfl (i := 0) (kd := 2) (v := .ref 31) (pcJ := 159) rfl L rfl rfl rfl ?_
  refine j_V.getK yr0s_M yr0s_159 (ci := 7) (j := 12) rfl K rfl rfl ?_
  refine j_V.one yr0s_M yr0s_162 (by decide) (pcJ := 163) (stJ := [.int 0, .ref 40, .int 0, .ref 13]) rfl ?_
  refine j_V.one yr0s_M yr0s_163 (by decide) (pcJ := 165) (stJ := [.int 6, .int 0, .ref 40, .int 0, .ref 13]) rfl ?_
  refine j_V.acp yr0s_M yr0s_165 rfl rfl K rfl rfl rfl (fun h K => ?_)
  exact kk _ _ L K
set_option maxRecDepth 1000000 in
theorem yr0s_k168 {cm : List Int32} {lf : List Int32} {lkd : List Int32} {lys : Nat} {mis : Int32} {shus : Int32} {buss : Int32} {lkss : Int32} {cms : List Int32} {lfs : List Int32} {lkds : List Int32} {d : Nat} {lv : J_L} {h h0 : J_H} {Q : Option Value → J_H → Prop} (L : LK lv [(0, .ref 31), (1, .ref 4)]) (K : KN h [(4, .inl (7, [.ref lys, .int mis, .int shus, .int buss, .ref 5, .ref 6, .ref 7, .ref 8, .ref 9, .ref 10, .ref 11, .ref 12, .ref 13, .ref 14, .ref 15, .int lkss, .ref 16, .ref 17, .ref 20])), (14, .inr (.inl (0, cms))), (15, .inr (.inl (0, lfs))), (16, .inr (.inl (0, lkds))), (31, .inl (7, [.ref lys, .int mis, .int shus, .int buss, .ref 32, .ref 33, .ref 34, .ref 35, .ref 36, .ref 37, .ref 38, .ref 39, .ref 40, .ref 41, .ref 42, .int lkss, .ref 43, .ref 44, .ref 47])), (41, .inr (.inl (0, cm))), (42, .inr (.inl (0, lf))), (43, .inr (.inl (0, lkd)))] h0) (kk : ∀ lv h, LK lv [(0, .ref 31), (1, .ref 4)] → KN h [(4, .inl (7, [.ref lys, .int mis, .int shus, .int buss, .ref 5, .ref 6, .ref 7, .ref 8, .ref 9, .ref 10, .ref 11, .ref 12, .ref 13, .ref 14, .ref 15, .int lkss, .ref 16, .ref 17, .ref 20])), (14, .inr (.inl (0, cms))), (15, .inr (.inl (0, lfs))), (16, .inr (.inl (0, lkds))), (31, .inl (7, [.ref lys, .int mis, .int shus, .int buss, .ref 32, .ref 33, .ref 34, .ref 35, .ref 36, .ref 37, .ref 38, .ref 39, .ref 40, .ref 41, .ref 42, .int lkss, .ref 43, .ref 44, .ref 47])), (41, .inr (.inl (0, (aC (nI cm.length) cms cm)))), (42, .inr (.inl (0, (aC (nI lf.length) lfs lf)))), (43, .inr (.inl (0, (aC (nI lkd.length) lkds lkd))))] h0 → j_V jP d 61 222 lv [] h Q) : j_V jP d 61 168 lv [] h Q := by
  refine j_V.ldL yr0s_M yr0s_168 rfl (i := 1) (kd := 2) (v := .ref 4) (pcJ := 169) rfl L rfl rfl rfl ?_
  refine j_V.getK yr0s_M yr0s_169 (ci := 7) (j := 13) rfl K rfl rfl ?_
  refine j_V.one yr0s_M yr0s_172 (by decide) (pcJ := 173) (stJ := [.int 0, .ref 14]) rfl ?_
  refine j_V.ldL yr0s_M yr0s_173 rfl (i := 0) (kd := 2) (v := .ref 31) (pcJ := 174) rfl L rfl rfl rfl ?_
  refine j_V.getK yr0s_M yr0s_174 (ci := 7) (j := 13) rfl K rfl rfl ?_
  refine j_V.one yr0s_M yr0s_177 (by decide) (pcJ := 178) (stJ := [.int 0, .ref 41, .int 0, .ref 14]) rfl ?_
  refine j_V.ldL yr0s_M yr0s_178 rfl (i := 0) (kd := 2) (v := .ref 31) (pcJ := 179) rfl L rfl rfl rfl ?_
  refine j_V.getK yr0s_M yr0s_179 (ci := 7) (j := 13) rfl K rfl rfl ?_
  refine j_V.alnA yr0s_M yr0s_182 K rfl ?_
  refine j_V.acp yr0s_M yr0s_183 rfl rfl K rfl rfl rfl (fun h K => ?_)
  refine j_V.ldL yr0s_M yr0s_186 rfl (i := 1) (kd := 2) (v := .ref 4) (pcJ := 187) rfl L rfl rfl rfl ?_
  refine j_V.getK yr0s_M yr0s_187 (ci := 7) (j := 14) rfl K rfl rfl ?_
  refine j_V.one yr0s_M yr0s_190 (by decide) (pcJ := 191) (stJ := [.int 0, .ref 15]) rfl ?_
  refine j_V.ldL yr0s_M yr0s_191 rfl (i := 0) (kd := 2) (v := .ref 31) (pcJ := 192) rfl L rfl rfl rfl ?_
  refine j_V.getK yr0s_M yr0s_192 (ci := 7) (j := 14) rfl K rfl rfl ?_
  refine j_V.one yr0s_M yr0s_195 (by decide) (pcJ := 196) (stJ := [.int 0, .ref 42, .int 0, .ref 15]) rfl ?_
  refine j_V.ldL yr0s_M yr0s_196 rfl (i := 0) (kd := 2) (v := .ref 31) (pcJ := 197) rfl L rfl rfl rfl ?_
  refine j_V.getK yr0s_M yr0s_197 (ci := 7) (j := 14) rfl K rfl rfl ?_
  refine j_V.alnA yr0s_M yr0s_200 K rfl ?_
  refine j_V.acp yr0s_M yr0s_201 rfl rfl K rfl rfl rfl (fun h K => ?_)
  refine j_V.ldL yr0s_M yr0s_204 rfl (i := 1) (kd := 2) (v := .ref 4) (pcJ := 205) rfl L rfl rfl rfl ?_
  refine j_V.getK yr0s_M yr0s_205 (ci := 7) (j := 16) rfl K rfl rfl ?_
  refine j_V.one yr0s_M yr0s_208 (by decide) (pcJ := 209) (stJ := [.int 0, .ref 16]) rfl ?_
  refine j_V.ldL yr0s_M yr0s_209 rfl (i := 0) (kd := 2) (v := .ref 31) (pcJ := 210) rfl L rfl rfl rfl ?_
  refine j_V.getK yr0s_M yr0s_210 (ci := 7) (j := 16) rfl K rfl rfl ?_
  refine j_V.one yr0s_M yr0s_213 (by decide) (pcJ := 214) (stJ := [.int 0, .ref 43, .int 0, .ref 16]) rfl ?_
  refine j_V.ldL yr0s_M yr0s_214 rfl (i := 0) (kd := 2) (v := .ref 31) (pcJ := 215) rfl L rfl rfl rfl ?_
  refine j_V.getK yr0s_M yr0s_215 (ci := 7) (j := 16) rfl K rfl rfl ?_
  refine j_V.alnA yr0s_M yr0s_218 K rfl ?_
  refine j_V.acp yr0s_M yr0s_219 rfl rfl K rfl rfl rfl (fun h K => ?_)
  exact kk _ _ L K
set_option maxRecDepth 1000000 in
theorem yr0s_ok {ly : Value} {mi : Int32} {shu : Int32} {bus : Int32} {lks : Int32} {rk : List Int32} {sta : List Int32} {ph : List Int32} {sp : List Int32} {ce : List Int32} {du : List Int32} {he : List Int32} {ri : List Int32} {us : List Int32} {cm : List Int32} {lf : List Int32} {lkd : List Int32} {pev : Int32} {pms : List Int32} {pmm : List Int32} {pmt : List Int32} {pst : List Int32} {pwa : List Int32} {prs : List Int32} {prr : List Int32} {pfa : List Int32} {lys : Nat} {mis : Int32} {shus : Int32} {buss : Int32} {lkss : Int32} {rks : List Int32} {stas : List Int32} {phs : List Int32} {sps : List Int32} {ces : List Int32} {dus : List Int32} {hes : List Int32} {ris : List Int32} {uss : List Int32} {cms : List Int32} {lfs : List Int32} {lkds : List Int32} {pevs : Int32} {pmss : List Int32} {pmms : List Int32} {pmts : List Int32} {psts : List Int32} {pwas : List Int32} {prss : List Int32} {prrs : List Int32} {pfas : List Int32} {d : Nat} {h h0 : J_H} (K : KN h [(4, .inl (7, [.ref lys, .int mis, .int shus, .int buss, .ref 5, .ref 6, .ref 7, .ref 8, .ref 9, .ref 10, .ref 11, .ref 12, .ref 13, .ref 14, .ref 15, .int lkss, .ref 16, .ref 17, .ref 20])), (5, .inr (.inl (0, rks))), (6, .inr (.inl (0, stas))), (7, .inr (.inl (0, phs))), (8, .inr (.inl (0, sps))), (9, .inr (.inl (0, ces))), (10, .inr (.inl (0, dus))), (11, .inr (.inl (0, hes))), (12, .inr (.inl (0, ris))), (13, .inr (.inl (0, uss))), (14, .inr (.inl (0, cms))), (15, .inr (.inl (0, lfs))), (16, .inr (.inl (0, lkds))), (20, .inl (3, [.ref 21, .ref 22, .ref 23, .ref 24, .ref 25, .ref 26, .ref 27, .ref 28, .int pevs, .int 1])), (21, .inr (.inl (0, pmss))), (22, .inr (.inl (0, pmms))), (23, .inr (.inl (0, pmts))), (24, .inr (.inl (0, psts))), (25, .inr (.inl (0, pwas))), (26, .inr (.inl (0, prss))), (27, .inr (.inl (0, prrs))), (28, .inr (.inl (0, pfas))), (31, .inl (7, [ly, .int mi, .int shu, .int bus, .ref 32, .ref 33, .ref 34, .ref 35, .ref 36, .ref 37, .ref 38, .ref 39, .ref 40, .ref 41, .ref 42, .int lks, .ref 43, .ref 44, .ref 47])), (32, .inr (.inl (0, rk))), (33, .inr (.inl (0, sta))), (34, .inr (.inl (0, ph))), (35, .inr (.inl (0, sp))), (36, .inr (.inl (0, ce))), (37, .inr (.inl (0, du))), (38, .inr (.inl (0, he))), (39, .inr (.inl (0, ri))), (40, .inr (.inl (0, us))), (41, .inr (.inl (0, cm))), (42, .inr (.inl (0, lf))), (43, .inr (.inl (0, lkd))), (47, .inl (3, [.ref 48, .ref 49, .ref 50, .ref 51, .ref 52, .ref 53, .ref 54, .ref 55, .int pev, .int 1])), (48, .inr (.inl (0, pms))), (49, .inr (.inl (0, pmm))), (50, .inr (.inl (0, pmt))), (51, .inr (.inl (0, pst))), (52, .inr (.inl (0, pwa))), (53, .inr (.inl (0, prs))), (54, .inr (.inl (0, prr))), (55, .inr (.inl (0, pfa)))] h0) : j_V jP d 61 0 (lv_args 0 [.ref 31, .ref 4]) [] h (fun rv h' => rv = none ∧ KN h' [(4, .inl (7, [.ref lys, .int mis, .int shus, .int buss, .ref 5, .ref 6, .ref 7, .ref 8, .ref 9, .ref 10, .ref 11, .ref 12, .ref 13, .ref 14, .ref 15, .int lkss, .ref 16, .ref 17, .ref 20])), (5, .inr (.inl (0, rks))), (6, .inr (.inl (0, stas))), (7, .inr (.inl (0, phs))), (8, .inr (.inl (0, sps))), (9, .inr (.inl (0, ces))), (10, .inr (.inl (0, dus))), (11, .inr (.inl (0, hes))), (12, .inr (.inl (0, ris))), (13, .inr (.inl (0, uss))), (14, .inr (.inl (0, cms))), (15, .inr (.inl (0, lfs))), (16, .inr (.inl (0, lkds))), (20, .inl (3, [.ref 21, .ref 22, .ref 23, .ref 24, .ref 25, .ref 26, .ref 27, .ref 28, .int pevs, .int 1])), (21, .inr (.inl (0, pmss))), (22, .inr (.inl (0, pmms))), (23, .inr (.inl (0, pmts))), (24, .inr (.inl (0, psts))), (25, .inr (.inl (0, pwas))), (26, .inr (.inl (0, prss))), (27, .inr (.inl (0, prrs))), (28, .inr (.inl (0, pfas))), (31, .inl (7, [.ref lys, .int mis, .int shus, .int buss, .ref 32, .ref 33, .ref 34, .ref 35, .ref 36, .ref 37, .ref 38, .ref 39, .ref 40, .ref 41, .ref 42, .int lkss, .ref 43, .ref 44, .ref 47])), (32, .inr (.inl (0, (aC 5 rks rk)))), (33, .inr (.inl (0, (aC 5 stas sta)))), (34, .inr (.inl (0, (aC 5 phs ph)))), (35, .inr (.inl (0, (aC 5 sps sp)))), (36, .inr (.inl (0, (aC 5 ces ce)))), (37, .inr (.inl (0, (aC 5 dus du)))), (38, .inr (.inl (0, (aC 5 hes he)))), (39, .inr (.inl (0, (aC 6 ris ri)))), (40, .inr (.inl (0, (aC 6 uss us)))), (41, .inr (.inl (0, (aC (nI cm.length) cms cm)))), (42, .inr (.inl (0, (aC (nI lf.length) lfs lf)))), (43, .inr (.inl (0, (aC (nI lkd.length) lkds lkd)))), (47, .inl (3, [.ref 48, .ref 49, .ref 50, .ref 51, .ref 52, .ref 53, .ref 54, .ref 55, .int pevs, .int 1])), (48, .inr (.inl (0, (aC (nI pms.length) pmss pms)))), (49, .inr (.inl (0, (aC (nI pmm.length) pmms pmm)))), (50, .inr (.inl (0, (aC (nI pmt.length) pmts pmt)))), (51, .inr (.inl (0, (aC (nI pst.length) psts pst)))), (52, .inr (.inl (0, (aC (nI pwa.length) pwas pwa)))), (53, .inr (.inl (0, (aC (nI prs.length) prss prs)))), (54, .inr (.inl (0, (aC (nI prr.length) prrs prr)))), (55, .inr (.inl (0, (aC (nI pfa.length) pfas pfa))))] h0) := by
  show j_V jP d 61 0 [(0, .ref 31), (1, .ref 4)] [] h _
  obtain ⟨lv, elv, L⟩ : ∃ lv, lv = [(0, .ref 31), (1, .ref 4)] ∧ LK lv [(0, .ref 31), (1, .ref 4)] := ⟨_, rfl, LK.rf⟩
  rw [← elv]
  clear elv
  refine yr0s_k0 L (K.fi [4, 31] rfl rfl) (fun lv h9 L K9 => ?_)
  have K : KN h9 [(4, .inl (7, [.ref lys, .int mis, .int shus, .int buss, .ref 5, .ref 6, .ref 7, .ref 8, .ref 9, .ref 10, .ref 11, .ref 12, .ref 13, .ref 14, .ref 15, .int lkss, .ref 16, .ref 17, .ref 20])), (5, .inr (.inl (0, rks))), (6, .inr (.inl (0, stas))), (7, .inr (.inl (0, phs))), (8, .inr (.inl (0, sps))), (9, .inr (.inl (0, ces))), (10, .inr (.inl (0, dus))), (11, .inr (.inl (0, hes))), (12, .inr (.inl (0, ris))), (13, .inr (.inl (0, uss))), (14, .inr (.inl (0, cms))), (15, .inr (.inl (0, lfs))), (16, .inr (.inl (0, lkds))), (20, .inl (3, [.ref 21, .ref 22, .ref 23, .ref 24, .ref 25, .ref 26, .ref 27, .ref 28, .int pevs, .int 1])), (21, .inr (.inl (0, pmss))), (22, .inr (.inl (0, pmms))), (23, .inr (.inl (0, pmts))), (24, .inr (.inl (0, psts))), (25, .inr (.inl (0, pwas))), (26, .inr (.inl (0, prss))), (27, .inr (.inl (0, prrs))), (28, .inr (.inl (0, pfas))), (31, .inl (7, [.ref lys, .int mis, .int shus, .int buss, .ref 32, .ref 33, .ref 34, .ref 35, .ref 36, .ref 37, .ref 38, .ref 39, .ref 40, .ref 41, .ref 42, .int lkss, .ref 43, .ref 44, .ref 47])), (32, .inr (.inl (0, rk))), (33, .inr (.inl (0, sta))), (34, .inr (.inl (0, ph))), (35, .inr (.inl (0, sp))), (36, .inr (.inl (0, ce))), (37, .inr (.inl (0, du))), (38, .inr (.inl (0, he))), (39, .inr (.inl (0, ri))), (40, .inr (.inl (0, us))), (41, .inr (.inl (0, cm))), (42, .inr (.inl (0, lf))), (43, .inr (.inl (0, lkd))), (47, .inl (3, [.ref 48, .ref 49, .ref 50, .ref 51, .ref 52, .ref 53, .ref 54, .ref 55, .int pev, .int 1])), (48, .inr (.inl (0, pms))), (49, .inr (.inl (0, pmm))), (50, .inr (.inl (0, pmt))), (51, .inr (.inl (0, pst))), (52, .inr (.inl (0, pwa))), (53, .inr (.inl (0, prs))), (54, .inr (.inl (0, prr))), (55, .inr (.inl (0, pfa)))] h0 := K.mg K9 rfl rfl
  clear K9
  refine yr0s_k40 L (K.fi [4, 5, 6, 7, 31, 32, 33, 34] rfl rfl) (fun lv h9 L K9 => ?_)
  have K : KN h9 [(4, .inl (7, [.ref lys, .int mis, .int shus, .int buss, .ref 5, .ref 6, .ref 7, .ref 8, .ref 9, .ref 10, .ref 11, .ref 12, .ref 13, .ref 14, .ref 15, .int lkss, .ref 16, .ref 17, .ref 20])), (5, .inr (.inl (0, rks))), (6, .inr (.inl (0, stas))), (7, .inr (.inl (0, phs))), (8, .inr (.inl (0, sps))), (9, .inr (.inl (0, ces))), (10, .inr (.inl (0, dus))), (11, .inr (.inl (0, hes))), (12, .inr (.inl (0, ris))), (13, .inr (.inl (0, uss))), (14, .inr (.inl (0, cms))), (15, .inr (.inl (0, lfs))), (16, .inr (.inl (0, lkds))), (20, .inl (3, [.ref 21, .ref 22, .ref 23, .ref 24, .ref 25, .ref 26, .ref 27, .ref 28, .int pevs, .int 1])), (21, .inr (.inl (0, pmss))), (22, .inr (.inl (0, pmms))), (23, .inr (.inl (0, pmts))), (24, .inr (.inl (0, psts))), (25, .inr (.inl (0, pwas))), (26, .inr (.inl (0, prss))), (27, .inr (.inl (0, prrs))), (28, .inr (.inl (0, pfas))), (31, .inl (7, [.ref lys, .int mis, .int shus, .int buss, .ref 32, .ref 33, .ref 34, .ref 35, .ref 36, .ref 37, .ref 38, .ref 39, .ref 40, .ref 41, .ref 42, .int lkss, .ref 43, .ref 44, .ref 47])), (32, .inr (.inl (0, (aC 5 rks rk)))), (33, .inr (.inl (0, (aC 5 stas sta)))), (34, .inr (.inl (0, (aC 5 phs ph)))), (35, .inr (.inl (0, sp))), (36, .inr (.inl (0, ce))), (37, .inr (.inl (0, du))), (38, .inr (.inl (0, he))), (39, .inr (.inl (0, ri))), (40, .inr (.inl (0, us))), (41, .inr (.inl (0, cm))), (42, .inr (.inl (0, lf))), (43, .inr (.inl (0, lkd))), (47, .inl (3, [.ref 48, .ref 49, .ref 50, .ref 51, .ref 52, .ref 53, .ref 54, .ref 55, .int pev, .int 1])), (48, .inr (.inl (0, pms))), (49, .inr (.inl (0, pmm))), (50, .inr (.inl (0, pmt))), (51, .inr (.inl (0, pst))), (52, .inr (.inl (0, pwa))), (53, .inr (.inl (0, prs))), (54, .inr (.inl (0, prr))), (55, .inr (.inl (0, pfa)))] h0 := K.mg K9 rfl rfl
  clear K9
  refine yr0s_k82 L (K.fi [4, 8, 9, 10, 31, 35, 36, 37] rfl rfl) (fun lv h9 L K9 => ?_)
  have K : KN h9 [(4, .inl (7, [.ref lys, .int mis, .int shus, .int buss, .ref 5, .ref 6, .ref 7, .ref 8, .ref 9, .ref 10, .ref 11, .ref 12, .ref 13, .ref 14, .ref 15, .int lkss, .ref 16, .ref 17, .ref 20])), (5, .inr (.inl (0, rks))), (6, .inr (.inl (0, stas))), (7, .inr (.inl (0, phs))), (8, .inr (.inl (0, sps))), (9, .inr (.inl (0, ces))), (10, .inr (.inl (0, dus))), (11, .inr (.inl (0, hes))), (12, .inr (.inl (0, ris))), (13, .inr (.inl (0, uss))), (14, .inr (.inl (0, cms))), (15, .inr (.inl (0, lfs))), (16, .inr (.inl (0, lkds))), (20, .inl (3, [.ref 21, .ref 22, .ref 23, .ref 24, .ref 25, .ref 26, .ref 27, .ref 28, .int pevs, .int 1])), (21, .inr (.inl (0, pmss))), (22, .inr (.inl (0, pmms))), (23, .inr (.inl (0, pmts))), (24, .inr (.inl (0, psts))), (25, .inr (.inl (0, pwas))), (26, .inr (.inl (0, prss))), (27, .inr (.inl (0, prrs))), (28, .inr (.inl (0, pfas))), (31, .inl (7, [.ref lys, .int mis, .int shus, .int buss, .ref 32, .ref 33, .ref 34, .ref 35, .ref 36, .ref 37, .ref 38, .ref 39, .ref 40, .ref 41, .ref 42, .int lkss, .ref 43, .ref 44, .ref 47])), (32, .inr (.inl (0, (aC 5 rks rk)))), (33, .inr (.inl (0, (aC 5 stas sta)))), (34, .inr (.inl (0, (aC 5 phs ph)))), (35, .inr (.inl (0, (aC 5 sps sp)))), (36, .inr (.inl (0, (aC 5 ces ce)))), (37, .inr (.inl (0, (aC 5 dus du)))), (38, .inr (.inl (0, he))), (39, .inr (.inl (0, ri))), (40, .inr (.inl (0, us))), (41, .inr (.inl (0, cm))), (42, .inr (.inl (0, lf))), (43, .inr (.inl (0, lkd))), (47, .inl (3, [.ref 48, .ref 49, .ref 50, .ref 51, .ref 52, .ref 53, .ref 54, .ref 55, .int pev, .int 1])), (48, .inr (.inl (0, pms))), (49, .inr (.inl (0, pmm))), (50, .inr (.inl (0, pmt))), (51, .inr (.inl (0, pst))), (52, .inr (.inl (0, pwa))), (53, .inr (.inl (0, prs))), (54, .inr (.inl (0, prr))), (55, .inr (.inl (0, pfa)))] h0 := K.mg K9 rfl rfl
  clear K9
  refine yr0s_k124 L (K.fi [4, 11, 12, 13, 31, 38, 39, 40] rfl rfl) (fun lv h9 L K9 => ?_)
  have K : KN h9 [(4, .inl (7, [.ref lys, .int mis, .int shus, .int buss, .ref 5, .ref 6, .ref 7, .ref 8, .ref 9, .ref 10, .ref 11, .ref 12, .ref 13, .ref 14, .ref 15, .int lkss, .ref 16, .ref 17, .ref 20])), (5, .inr (.inl (0, rks))), (6, .inr (.inl (0, stas))), (7, .inr (.inl (0, phs))), (8, .inr (.inl (0, sps))), (9, .inr (.inl (0, ces))), (10, .inr (.inl (0, dus))), (11, .inr (.inl (0, hes))), (12, .inr (.inl (0, ris))), (13, .inr (.inl (0, uss))), (14, .inr (.inl (0, cms))), (15, .inr (.inl (0, lfs))), (16, .inr (.inl (0, lkds))), (20, .inl (3, [.ref 21, .ref 22, .ref 23, .ref 24, .ref 25, .ref 26, .ref 27, .ref 28, .int pevs, .int 1])), (21, .inr (.inl (0, pmss))), (22, .inr (.inl (0, pmms))), (23, .inr (.inl (0, pmts))), (24, .inr (.inl (0, psts))), (25, .inr (.inl (0, pwas))), (26, .inr (.inl (0, prss))), (27, .inr (.inl (0, prrs))), (28, .inr (.inl (0, pfas))), (31, .inl (7, [.ref lys, .int mis, .int shus, .int buss, .ref 32, .ref 33, .ref 34, .ref 35, .ref 36, .ref 37, .ref 38, .ref 39, .ref 40, .ref 41, .ref 42, .int lkss, .ref 43, .ref 44, .ref 47])), (32, .inr (.inl (0, (aC 5 rks rk)))), (33, .inr (.inl (0, (aC 5 stas sta)))), (34, .inr (.inl (0, (aC 5 phs ph)))), (35, .inr (.inl (0, (aC 5 sps sp)))), (36, .inr (.inl (0, (aC 5 ces ce)))), (37, .inr (.inl (0, (aC 5 dus du)))), (38, .inr (.inl (0, (aC 5 hes he)))), (39, .inr (.inl (0, (aC 6 ris ri)))), (40, .inr (.inl (0, (aC 6 uss us)))), (41, .inr (.inl (0, cm))), (42, .inr (.inl (0, lf))), (43, .inr (.inl (0, lkd))), (47, .inl (3, [.ref 48, .ref 49, .ref 50, .ref 51, .ref 52, .ref 53, .ref 54, .ref 55, .int pev, .int 1])), (48, .inr (.inl (0, pms))), (49, .inr (.inl (0, pmm))), (50, .inr (.inl (0, pmt))), (51, .inr (.inl (0, pst))), (52, .inr (.inl (0, pwa))), (53, .inr (.inl (0, prs))), (54, .inr (.inl (0, prr))), (55, .inr (.inl (0, pfa)))] h0 := K.mg K9 rfl rfl
  clear K9
  refine yr0s_k168 L (K.fi [4, 14, 15, 16, 31, 41, 42, 43] rfl rfl) (fun lv h9 L K9 => ?_)
  have K : KN h9 [(4, .inl (7, [.ref lys, .int mis, .int shus, .int buss, .ref 5, .ref 6, .ref 7, .ref 8, .ref 9, .ref 10, .ref 11, .ref 12, .ref 13, .ref 14, .ref 15, .int lkss, .ref 16, .ref 17, .ref 20])), (5, .inr (.inl (0, rks))), (6, .inr (.inl (0, stas))), (7, .inr (.inl (0, phs))), (8, .inr (.inl (0, sps))), (9, .inr (.inl (0, ces))), (10, .inr (.inl (0, dus))), (11, .inr (.inl (0, hes))), (12, .inr (.inl (0, ris))), (13, .inr (.inl (0, uss))), (14, .inr (.inl (0, cms))), (15, .inr (.inl (0, lfs))), (16, .inr (.inl (0, lkds))), (20, .inl (3, [.ref 21, .ref 22, .ref 23, .ref 24, .ref 25, .ref 26, .ref 27, .ref 28, .int pevs, .int 1])), (21, .inr (.inl (0, pmss))), (22, .inr (.inl (0, pmms))), (23, .inr (.inl (0, pmts))), (24, .inr (.inl (0, psts))), (25, .inr (.inl (0, pwas))), (26, .inr (.inl (0, prss))), (27, .inr (.inl (0, prrs))), (28, .inr (.inl (0, pfas))), (31, .inl (7, [.ref lys, .int mis, .int shus, .int buss, .ref 32, .ref 33, .ref 34, .ref 35, .ref 36, .ref 37, .ref 38, .ref 39, .ref 40, .ref 41, .ref 42, .int lkss, .ref 43, .ref 44, .ref 47])), (32, .inr (.inl (0, (aC 5 rks rk)))), (33, .inr (.inl (0, (aC 5 stas sta)))), (34, .inr (.inl (0, (aC 5 phs ph)))), (35, .inr (.inl (0, (aC 5 sps sp)))), (36, .inr (.inl (0, (aC 5 ces ce)))), (37, .inr (.inl (0, (aC 5 dus du)))), (38, .inr (.inl (0, (aC 5 hes he)))), (39, .inr (.inl (0, (aC 6 ris ri)))), (40, .inr (.inl (0, (aC 6 uss us)))), (41, .inr (.inl (0, (aC (nI cm.length) cms cm)))), (42, .inr (.inl (0, (aC (nI lf.length) lfs lf)))), (43, .inr (.inl (0, (aC (nI lkd.length) lkds lkd)))), (47, .inl (3, [.ref 48, .ref 49, .ref 50, .ref 51, .ref 52, .ref 53, .ref 54, .ref 55, .int pev, .int 1])), (48, .inr (.inl (0, pms))), (49, .inr (.inl (0, pmm))), (50, .inr (.inl (0, pmt))), (51, .inr (.inl (0, pst))), (52, .inr (.inl (0, pwa))), (53, .inr (.inl (0, prs))), (54, .inr (.inl (0, prr))), (55, .inr (.inl (0, pfa)))] h0 := K.mg K9 rfl rfl
  clear K9
  refine j_V.ldL yr0s_M yr0s_222 rfl (i := 0) (kd := 2) (v := .ref 31) (pcJ := 223) rfl L rfl rfl rfl ?_
  refine j_V.getK yr0s_M yr0s_223 (ci := 7) (j := 18) rfl K rfl rfl ?_
  refine j_V.ldL yr0s_M yr0s_226 rfl (i := 1) (kd := 2) (v := .ref 4) (pcJ := 227) rfl L rfl rfl rfl ?_
  refine j_V.getK yr0s_M yr0s_227 (ci := 7) (j := 18) rfl K rfl rfl ?_
  refine j_V.cl yr0s_M yr0s_230 rfl (md := 3) (mj := 28) rfl (by decide) yr0p_M (As := [.ref 47, .ref 20]) (rest := []) (jk_spl3 (K.at rfl) rfl rfl rfl (Nat.le_of_ble_eq_true rfl) (Nat.le_of_ble_eq_true rfl)) (fun d => yr0p_ok (K.fi [20, 21, 22, 23, 24, 25, 26, 27, 28, 47, 48, 49, 50, 51, 52, 53, 54, 55] rfl rfl)) ?_
  rintro r h9 ⟨rfl, K9⟩
  have K : KN h9 [(4, .inl (7, [.ref lys, .int mis, .int shus, .int buss, .ref 5, .ref 6, .ref 7, .ref 8, .ref 9, .ref 10, .ref 11, .ref 12, .ref 13, .ref 14, .ref 15, .int lkss, .ref 16, .ref 17, .ref 20])), (5, .inr (.inl (0, rks))), (6, .inr (.inl (0, stas))), (7, .inr (.inl (0, phs))), (8, .inr (.inl (0, sps))), (9, .inr (.inl (0, ces))), (10, .inr (.inl (0, dus))), (11, .inr (.inl (0, hes))), (12, .inr (.inl (0, ris))), (13, .inr (.inl (0, uss))), (14, .inr (.inl (0, cms))), (15, .inr (.inl (0, lfs))), (16, .inr (.inl (0, lkds))), (20, .inl (3, [.ref 21, .ref 22, .ref 23, .ref 24, .ref 25, .ref 26, .ref 27, .ref 28, .int pevs, .int 1])), (21, .inr (.inl (0, pmss))), (22, .inr (.inl (0, pmms))), (23, .inr (.inl (0, pmts))), (24, .inr (.inl (0, psts))), (25, .inr (.inl (0, pwas))), (26, .inr (.inl (0, prss))), (27, .inr (.inl (0, prrs))), (28, .inr (.inl (0, pfas))), (31, .inl (7, [.ref lys, .int mis, .int shus, .int buss, .ref 32, .ref 33, .ref 34, .ref 35, .ref 36, .ref 37, .ref 38, .ref 39, .ref 40, .ref 41, .ref 42, .int lkss, .ref 43, .ref 44, .ref 47])), (32, .inr (.inl (0, (aC 5 rks rk)))), (33, .inr (.inl (0, (aC 5 stas sta)))), (34, .inr (.inl (0, (aC 5 phs ph)))), (35, .inr (.inl (0, (aC 5 sps sp)))), (36, .inr (.inl (0, (aC 5 ces ce)))), (37, .inr (.inl (0, (aC 5 dus du)))), (38, .inr (.inl (0, (aC 5 hes he)))), (39, .inr (.inl (0, (aC 6 ris ri)))), (40, .inr (.inl (0, (aC 6 uss us)))), (41, .inr (.inl (0, (aC (nI cm.length) cms cm)))), (42, .inr (.inl (0, (aC (nI lf.length) lfs lf)))), (43, .inr (.inl (0, (aC (nI lkd.length) lkds lkd)))), (47, .inl (3, [.ref 48, .ref 49, .ref 50, .ref 51, .ref 52, .ref 53, .ref 54, .ref 55, .int pevs, .int 1])), (48, .inr (.inl (0, (aC (nI pms.length) pmss pms)))), (49, .inr (.inl (0, (aC (nI pmm.length) pmms pmm)))), (50, .inr (.inl (0, (aC (nI pmt.length) pmts pmt)))), (51, .inr (.inl (0, (aC (nI pst.length) psts pst)))), (52, .inr (.inl (0, (aC (nI pwa.length) pwas pwa)))), (53, .inr (.inl (0, (aC (nI prs.length) prss prs)))), (54, .inr (.inl (0, (aC (nI prr.length) prrs prr)))), (55, .inr (.inl (0, (aC (nI pfa.length) pfas pfa))))] h0 := K.mg K9 rfl rfl
  clear K9
  show j_V jP _ 61 233 lv [] h9 _
  exact j_V.ret yr0s_M yr0s_233 rfl rfl ⟨rfl, K⟩
set_option maxRecDepth 100000 in
theorem yr0m_M : j_meth jP 2 = some (yX0_remember, cX0_remember, 2, none, 1, false, 0) := rfl
set_option maxRecDepth 100000 in
theorem yr0m_0 : j_code jP 2 0 = some (.aload_n 0) := rfl
set_option maxRecDepth 100000 in
theorem yr0m_1 : j_code jP 2 1 = some (.getfield 11) := rfl
set_option maxRecDepth 100000 in
theorem yr0m_4 : j_code jP 2 4 = some (.aload_n 0) := rfl
set_option maxRecDepth 100000 in
theorem yr0m_5 : j_code jP 2 5 = some (.getfield 24) := rfl
set_option maxRecDepth 100000 in
theorem yr0m_8 : j_code jP 2 8 = some (.aaload) := rfl
set_option maxRecDepth 100000 in
theorem yr0m_9 : j_code jP 2 9 = some (.aload_n 1) := rfl
set_option maxRecDepth 100000 in
theorem yr0m_10 : j_code jP 2 10 = some (.invokevirtual 27) := rfl
set_option maxRecDepth 100000 in
theorem yr0m_13 : j_code jP 2 13 = some (.aload_n 0) := rfl
set_option maxRecDepth 100000 in
theorem yr0m_14 : j_code jP 2 14 = some (.aload_n 0) := rfl
set_option maxRecDepth 100000 in
theorem yr0m_15 : j_code jP 2 15 = some (.getfield 24) := rfl
set_option maxRecDepth 100000 in
theorem yr0m_18 : j_code jP 2 18 = some (.iconst 1) := rfl
set_option maxRecDepth 100000 in
theorem yr0m_19 : j_code jP 2 19 = some (.iadd) := rfl
set_option maxRecDepth 100000 in
theorem yr0m_20 : j_code jP 2 20 = some (.bipush 10) := rfl
set_option maxRecDepth 100000 in
theorem yr0m_22 : j_code jP 2 22 = some (.irem) := rfl
set_option maxRecDepth 100000 in
theorem yr0m_23 : j_code jP 2 23 = some (.putfield 24) := rfl
set_option maxRecDepth 100000 in
theorem yr0m_26 : j_code jP 2 26 = some (.aload_n 0) := rfl
set_option maxRecDepth 100000 in
theorem yr0m_27 : j_code jP 2 27 = some (.aload_n 0) := rfl
set_option maxRecDepth 100000 in
theorem yr0m_28 : j_code jP 2 28 = some (.getfield 20) := rfl
set_option maxRecDepth 100000 in
theorem yr0m_31 : j_code jP 2 31 = some (.iconst 1) := rfl
set_option maxRecDepth 100000 in
theorem yr0m_32 : j_code jP 2 32 = some (.iadd) := rfl
set_option maxRecDepth 100000 in
theorem yr0m_33 : j_code jP 2 33 = some (.bipush 10) := rfl
set_option maxRecDepth 100000 in
theorem yr0m_35 : j_code jP 2 35 = some (.invokestatic 31) := rfl
set_option maxRecDepth 100000 in
theorem yr0m_38 : j_code jP 2 38 = some (.putfield 20) := rfl
set_option maxRecDepth 100000 in
theorem yr0m_41 : j_code jP 2 41 = some (.return_) := rfl
set_option maxRecDepth 1000000 in
theorem yr0m_ok {ly : Value} {mi : Int32} {shu : Int32} {bus : Int32} {lks : Int32} {rk : List Int32} {sta : List Int32} {ph : List Int32} {sp : List Int32} {ce : List Int32} {du : List Int32} {he : List Int32} {ri : List Int32} {us : List Int32} {cm : List Int32} {lf : List Int32} {lkd : List Int32} {pev : Int32} {pms : List Int32} {pmm : List Int32} {pmt : List Int32} {pst : List Int32} {pwa : List Int32} {prs : List Int32} {prr : List Int32} {pfa : List Int32} {lys : Nat} {mis : Int32} {shus : Int32} {buss : Int32} {lkss : Int32} {rks : List Int32} {stas : List Int32} {phs : List Int32} {sps : List Int32} {ces : List Int32} {dus : List Int32} {hes : List Int32} {ris : List Int32} {uss : List Int32} {cms : List Int32} {lfs : List Int32} {lkds : List Int32} {pevs : Int32} {pmss : List Int32} {pmms : List Int32} {pmts : List Int32} {psts : List Int32} {pwas : List Int32} {prss : List Int32} {prrs : List Int32} {pfas : List Int32} {acco : Int32} {d : Nat} {h h0 : J_H} (K : KN h [(4, .inl (7, [.ref lys, .int mis, .int shus, .int buss, .ref 5, .ref 6, .ref 7, .ref 8, .ref 9, .ref 10, .ref 11, .ref 12, .ref 13, .ref 14, .ref 15, .int lkss, .ref 16, .ref 17, .ref 20])), (5, .inr (.inl (0, rks))), (6, .inr (.inl (0, stas))), (7, .inr (.inl (0, phs))), (8, .inr (.inl (0, sps))), (9, .inr (.inl (0, ces))), (10, .inr (.inl (0, dus))), (11, .inr (.inl (0, hes))), (12, .inr (.inl (0, ris))), (13, .inr (.inl (0, uss))), (14, .inr (.inl (0, cms))), (15, .inr (.inl (0, lfs))), (16, .inr (.inl (0, lkds))), (20, .inl (3, [.ref 21, .ref 22, .ref 23, .ref 24, .ref 25, .ref 26, .ref 27, .ref 28, .int pevs, .int 1])), (21, .inr (.inl (0, pmss))), (22, .inr (.inl (0, pmms))), (23, .inr (.inl (0, pmts))), (24, .inr (.inl (0, psts))), (25, .inr (.inl (0, pwas))), (26, .inr (.inl (0, prss))), (27, .inr (.inl (0, prrs))), (28, .inr (.inl (0, pfas))), (29, .inl (0, [.ref 30, .int 0, .int acco])), (30, .inr (.inr (.inr [some 31, some 56, some 81, some 106, some 131, some 156, some 181, some 206, some 231, some 256]))), (31, .inl (7, [ly, .int mi, .int shu, .int bus, .ref 32, .ref 33, .ref 34, .ref 35, .ref 36, .ref 37, .ref 38, .ref 39, .ref 40, .ref 41, .ref 42, .int lks, .ref 43, .ref 44, .ref 47])), (32, .inr (.inl (0, rk))), (33, .inr (.inl (0, sta))), (34, .inr (.inl (0, ph))), (35, .inr (.inl (0, sp))), (36, .inr (.inl (0, ce))), (37, .inr (.inl (0, du))), (38, .inr (.inl (0, he))), (39, .inr (.inl (0, ri))), (40, .inr (.inl (0, us))), (41, .inr (.inl (0, cm))), (42, .inr (.inl (0, lf))), (43, .inr (.inl (0, lkd))), (47, .inl (3, [.ref 48, .ref 49, .ref 50, .ref 51, .ref 52, .ref 53, .ref 54, .ref 55, .int pev, .int 1])), (48, .inr (.inl (0, pms))), (49, .inr (.inl (0, pmm))), (50, .inr (.inl (0, pmt))), (51, .inr (.inl (0, pst))), (52, .inr (.inl (0, pwa))), (53, .inr (.inl (0, prs))), (54, .inr (.inl (0, prr))), (55, .inr (.inl (0, pfa)))] h0) : j_V jP d 2 0 (lv_args 0 [.ref 29, .ref 4]) [] h (fun rv h' => rv = none ∧ KN h' [(4, .inl (7, [.ref lys, .int mis, .int shus, .int buss, .ref 5, .ref 6, .ref 7, .ref 8, .ref 9, .ref 10, .ref 11, .ref 12, .ref 13, .ref 14, .ref 15, .int lkss, .ref 16, .ref 17, .ref 20])), (5, .inr (.inl (0, rks))), (6, .inr (.inl (0, stas))), (7, .inr (.inl (0, phs))), (8, .inr (.inl (0, sps))), (9, .inr (.inl (0, ces))), (10, .inr (.inl (0, dus))), (11, .inr (.inl (0, hes))), (12, .inr (.inl (0, ris))), (13, .inr (.inl (0, uss))), (14, .inr (.inl (0, cms))), (15, .inr (.inl (0, lfs))), (16, .inr (.inl (0, lkds))), (20, .inl (3, [.ref 21, .ref 22, .ref 23, .ref 24, .ref 25, .ref 26, .ref 27, .ref 28, .int pevs, .int 1])), (21, .inr (.inl (0, pmss))), (22, .inr (.inl (0, pmms))), (23, .inr (.inl (0, pmts))), (24, .inr (.inl (0, psts))), (25, .inr (.inl (0, pwas))), (26, .inr (.inl (0, prss))), (27, .inr (.inl (0, prrs))), (28, .inr (.inl (0, pfas))), (29, .inl (0, [.ref 30, .int 1, .int (iMn (acco + 1) 10)])), (30, .inr (.inr (.inr [some 31, some 56, some 81, some 106, some 131, some 156, some 181, some 206, some 231, some 256]))), (31, .inl (7, [.ref lys, .int mis, .int shus, .int buss, .ref 32, .ref 33, .ref 34, .ref 35, .ref 36, .ref 37, .ref 38, .ref 39, .ref 40, .ref 41, .ref 42, .int lkss, .ref 43, .ref 44, .ref 47])), (32, .inr (.inl (0, (aC 5 rks rk)))), (33, .inr (.inl (0, (aC 5 stas sta)))), (34, .inr (.inl (0, (aC 5 phs ph)))), (35, .inr (.inl (0, (aC 5 sps sp)))), (36, .inr (.inl (0, (aC 5 ces ce)))), (37, .inr (.inl (0, (aC 5 dus du)))), (38, .inr (.inl (0, (aC 5 hes he)))), (39, .inr (.inl (0, (aC 6 ris ri)))), (40, .inr (.inl (0, (aC 6 uss us)))), (41, .inr (.inl (0, (aC (nI cm.length) cms cm)))), (42, .inr (.inl (0, (aC (nI lf.length) lfs lf)))), (43, .inr (.inl (0, (aC (nI lkd.length) lkds lkd)))), (47, .inl (3, [.ref 48, .ref 49, .ref 50, .ref 51, .ref 52, .ref 53, .ref 54, .ref 55, .int pevs, .int 1])), (48, .inr (.inl (0, (aC (nI pms.length) pmss pms)))), (49, .inr (.inl (0, (aC (nI pmm.length) pmms pmm)))), (50, .inr (.inl (0, (aC (nI pmt.length) pmts pmt)))), (51, .inr (.inl (0, (aC (nI pst.length) psts pst)))), (52, .inr (.inl (0, (aC (nI pwa.length) pwas pwa)))), (53, .inr (.inl (0, (aC (nI prs.length) prss prs)))), (54, .inr (.inl (0, (aC (nI prr.length) prrs prr)))), (55, .inr (.inl (0, (aC (nI pfa.length) pfas pfa))))] h0) := by
  show j_V jP d 2 0 [(0, .ref 29), (1, .ref 4)] [] h _
  obtain ⟨lv, elv, L⟩ : ∃ lv, lv = [(0, .ref 29), (1, .ref 4)] ∧ LK lv [(0, .ref 29), (1, .ref 4)] := ⟨_, rfl, LK.rf⟩
  rw [← elv]
  clear elv
  refine j_V.ldL yr0m_M yr0m_0 rfl (i := 0) (kd := 2) (v := .ref 29) (pcJ := 1) rfl L rfl rfl rfl ?_
  refine j_V.getK yr0m_M yr0m_1 (ci := 0) (j := 0) rfl K rfl rfl ?_
  refine j_V.ldL yr0m_M yr0m_4 rfl (i := 0) (kd := 2) (v := .ref 29) (pcJ := 5) rfl L rfl rfl rfl ?_
  refine j_V.getK yr0m_M yr0m_5 (ci := 0) (j := 1) rfl K rfl rfl ?_
  refine j_V.aaA yr0m_M yr0m_8 K rfl (i := 0) (v := 31) rfl rfl ?_
  refine j_V.ldL yr0m_M yr0m_9 rfl (i := 1) (kd := 2) (v := .ref 4) (pcJ := 10) rfl L rfl rfl rfl ?_
  refine j_V.cl yr0m_M yr0m_10 rfl (md := 3) (mj := 61) rfl (by decide) yr0s_M (As := [.ref 31, .ref 4]) (rest := []) (jk_spl3 (K.at rfl) rfl rfl rfl (Nat.le_of_ble_eq_true rfl) (Nat.le_of_ble_eq_true rfl)) (fun d => yr0s_ok (K.fi [4, 5, 6, 7, 8, 9, 10, 11, 12, 13, 14, 15, 16, 20, 21, 22, 23, 24, 25, 26, 27, 28, 31, 32, 33, 34, 35, 36, 37, 38, 39, 40, 41, 42, 43, 47, 48, 49, 50, 51, 52, 53, 54, 55] rfl rfl)) ?_
  rintro r h9 ⟨rfl, K9⟩
  have K : KN h9 [(4, .inl (7, [.ref lys, .int mis, .int shus, .int buss, .ref 5, .ref 6, .ref 7, .ref 8, .ref 9, .ref 10, .ref 11, .ref 12, .ref 13, .ref 14, .ref 15, .int lkss, .ref 16, .ref 17, .ref 20])), (5, .inr (.inl (0, rks))), (6, .inr (.inl (0, stas))), (7, .inr (.inl (0, phs))), (8, .inr (.inl (0, sps))), (9, .inr (.inl (0, ces))), (10, .inr (.inl (0, dus))), (11, .inr (.inl (0, hes))), (12, .inr (.inl (0, ris))), (13, .inr (.inl (0, uss))), (14, .inr (.inl (0, cms))), (15, .inr (.inl (0, lfs))), (16, .inr (.inl (0, lkds))), (20, .inl (3, [.ref 21, .ref 22, .ref 23, .ref 24, .ref 25, .ref 26, .ref 27, .ref 28, .int pevs, .int 1])), (21, .inr (.inl (0, pmss))), (22, .inr (.inl (0, pmms))), (23, .inr (.inl (0, pmts))), (24, .inr (.inl (0, psts))), (25, .inr (.inl (0, pwas))), (26, .inr (.inl (0, prss))), (27, .inr (.inl (0, prrs))), (28, .inr (.inl (0, pfas))), (29, .inl (0, [.ref 30, .int 0, .int acco])), (30, .inr (.inr (.inr [some 31, some 56, some 81, some 106, some 131, some 156, some 181, some 206, some 231, some 256]))), (31, .inl (7, [.ref lys, .int mis, .int shus, .int buss, .ref 32, .ref 33, .ref 34, .ref 35, .ref 36, .ref 37, .ref 38, .ref 39, .ref 40, .ref 41, .ref 42, .int lkss, .ref 43, .ref 44, .ref 47])), (32, .inr (.inl (0, (aC 5 rks rk)))), (33, .inr (.inl (0, (aC 5 stas sta)))), (34, .inr (.inl (0, (aC 5 phs ph)))), (35, .inr (.inl (0, (aC 5 sps sp)))), (36, .inr (.inl (0, (aC 5 ces ce)))), (37, .inr (.inl (0, (aC 5 dus du)))), (38, .inr (.inl (0, (aC 5 hes he)))), (39, .inr (.inl (0, (aC 6 ris ri)))), (40, .inr (.inl (0, (aC 6 uss us)))), (41, .inr (.inl (0, (aC (nI cm.length) cms cm)))), (42, .inr (.inl (0, (aC (nI lf.length) lfs lf)))), (43, .inr (.inl (0, (aC (nI lkd.length) lkds lkd)))), (47, .inl (3, [.ref 48, .ref 49, .ref 50, .ref 51, .ref 52, .ref 53, .ref 54, .ref 55, .int pevs, .int 1])), (48, .inr (.inl (0, (aC (nI pms.length) pmss pms)))), (49, .inr (.inl (0, (aC (nI pmm.length) pmms pmm)))), (50, .inr (.inl (0, (aC (nI pmt.length) pmts pmt)))), (51, .inr (.inl (0, (aC (nI pst.length) psts pst)))), (52, .inr (.inl (0, (aC (nI pwa.length) pwas pwa)))), (53, .inr (.inl (0, (aC (nI prs.length) prss prs)))), (54, .inr (.inl (0, (aC (nI prr.length) prrs prr)))), (55, .inr (.inl (0, (aC (nI pfa.length) pfas pfa))))] h0 := K.mg K9 rfl rfl
  clear K9
  show j_V jP _ 2 13 lv [] h9 _
  refine j_V.ldL yr0m_M yr0m_13 rfl (i := 0) (kd := 2) (v := .ref 29) (pcJ := 14) rfl L rfl rfl rfl ?_
  refine j_V.ldL yr0m_M yr0m_14 rfl (i := 0) (kd := 2) (v := .ref 29) (pcJ := 15) rfl L rfl rfl rfl ?_
  refine j_V.getK yr0m_M yr0m_15 (ci := 0) (j := 1) rfl K rfl rfl ?_
  refine j_V.one yr0m_M yr0m_18 (by decide) (pcJ := 19) (stJ := [.int 1, .int 0, .ref 29]) rfl ?_
  refine j_V.one yr0m_M yr0m_19 (by decide) (pcJ := 20) (stJ := [.int 1, .ref 29]) rfl ?_
  refine j_V.one yr0m_M yr0m_20 (by decide) (pcJ := 22) (stJ := [.int 10, .int 1, .ref 29]) rfl ?_
  refine j_V.one yr0m_M yr0m_22 (by decide) (pcJ := 23) (stJ := [.int 1, .ref 29]) rfl ?_
  refine j_V.putK yr0m_M yr0m_23 (ci := 0) (j := 1) (k' := [(4, .inl (7, [.ref lys, .int mis, .int shus, .int buss, .ref 5, .ref 6, .ref 7, .ref 8, .ref 9, .ref 10, .ref 11, .ref 12, .ref 13, .ref 14, .ref 15, .int lkss, .ref 16, .ref 17, .ref 20])), (5, .inr (.inl (0, rks))), (6, .inr (.inl (0, stas))), (7, .inr (.inl (0, phs))), (8, .inr (.inl (0, sps))), (9, .inr (.inl (0, ces))), (10, .inr (.inl (0, dus))), (11, .inr (.inl (0, hes))), (12, .inr (.inl (0, ris))), (13, .inr (.inl (0, uss))), (14, .inr (.inl (0, cms))), (15, .inr (.inl (0, lfs))), (16, .inr (.inl (0, lkds))), (20, .inl (3, [.ref 21, .ref 22, .ref 23, .ref 24, .ref 25, .ref 26, .ref 27, .ref 28, .int pevs, .int 1])), (21, .inr (.inl (0, pmss))), (22, .inr (.inl (0, pmms))), (23, .inr (.inl (0, pmts))), (24, .inr (.inl (0, psts))), (25, .inr (.inl (0, pwas))), (26, .inr (.inl (0, prss))), (27, .inr (.inl (0, prrs))), (28, .inr (.inl (0, pfas))), (29, .inl (0, [.ref 30, .int 1, .int acco])), (30, .inr (.inr (.inr [some 31, some 56, some 81, some 106, some 131, some 156, some 181, some 206, some 231, some 256]))), (31, .inl (7, [.ref lys, .int mis, .int shus, .int buss, .ref 32, .ref 33, .ref 34, .ref 35, .ref 36, .ref 37, .ref 38, .ref 39, .ref 40, .ref 41, .ref 42, .int lkss, .ref 43, .ref 44, .ref 47])), (32, .inr (.inl (0, (aC 5 rks rk)))), (33, .inr (.inl (0, (aC 5 stas sta)))), (34, .inr (.inl (0, (aC 5 phs ph)))), (35, .inr (.inl (0, (aC 5 sps sp)))), (36, .inr (.inl (0, (aC 5 ces ce)))), (37, .inr (.inl (0, (aC 5 dus du)))), (38, .inr (.inl (0, (aC 5 hes he)))), (39, .inr (.inl (0, (aC 6 ris ri)))), (40, .inr (.inl (0, (aC 6 uss us)))), (41, .inr (.inl (0, (aC (nI cm.length) cms cm)))), (42, .inr (.inl (0, (aC (nI lf.length) lfs lf)))), (43, .inr (.inl (0, (aC (nI lkd.length) lkds lkd)))), (47, .inl (3, [.ref 48, .ref 49, .ref 50, .ref 51, .ref 52, .ref 53, .ref 54, .ref 55, .int pevs, .int 1])), (48, .inr (.inl (0, (aC (nI pms.length) pmss pms)))), (49, .inr (.inl (0, (aC (nI pmm.length) pmms pmm)))), (50, .inr (.inl (0, (aC (nI pmt.length) pmts pmt)))), (51, .inr (.inl (0, (aC (nI pst.length) psts pst)))), (52, .inr (.inl (0, (aC (nI pwa.length) pwas pwa)))), (53, .inr (.inl (0, (aC (nI prs.length) prss prs)))), (54, .inr (.inl (0, (aC (nI prr.length) prrs prr)))), (55, .inr (.inl (0, (aC (nI pfa.length) pfas pfa))))]) rfl K rfl (Nat.le_of_ble_eq_true rfl) rfl (Or.inl rfl) rfl rfl (fun h K => ?_)
  refine j_V.ldL yr0m_M yr0m_26 rfl (i := 0) (kd := 2) (v := .ref 29) (pcJ := 27) rfl L rfl rfl rfl ?_
  refine j_V.ldL yr0m_M yr0m_27 rfl (i := 0) (kd := 2) (v := .ref 29) (pcJ := 28) rfl L rfl rfl rfl ?_
  refine j_V.getK yr0m_M yr0m_28 (ci := 0) (j := 2) rfl K rfl rfl ?_
  refine j_V.one yr0m_M yr0m_31 (by decide) (pcJ := 32) (stJ := [.int 1, .int acco, .ref 29]) rfl ?_
  refine j_V.one yr0m_M yr0m_32 (by decide) (pcJ := 33) (stJ := [.int (acco + 1), .ref 29]) rfl ?_
  refine j_V.one yr0m_M yr0m_33 (by decide) (pcJ := 35) (stJ := [.int 10, .int (acco + 1), .ref 29]) rfl ?_
  refine j_V.mn yr0m_M yr0m_35 rfl rfl (Nat.le_of_ble_eq_true rfl) ?_
  refine j_V.putK yr0m_M yr0m_38 (ci := 0) (j := 2) (k' := [(4, .inl (7, [.ref lys, .int mis, .int shus, .int buss, .ref 5, .ref 6, .ref 7, .ref 8, .ref 9, .ref 10, .ref 11, .ref 12, .ref 13, .ref 14, .ref 15, .int lkss, .ref 16, .ref 17, .ref 20])), (5, .inr (.inl (0, rks))), (6, .inr (.inl (0, stas))), (7, .inr (.inl (0, phs))), (8, .inr (.inl (0, sps))), (9, .inr (.inl (0, ces))), (10, .inr (.inl (0, dus))), (11, .inr (.inl (0, hes))), (12, .inr (.inl (0, ris))), (13, .inr (.inl (0, uss))), (14, .inr (.inl (0, cms))), (15, .inr (.inl (0, lfs))), (16, .inr (.inl (0, lkds))), (20, .inl (3, [.ref 21, .ref 22, .ref 23, .ref 24, .ref 25, .ref 26, .ref 27, .ref 28, .int pevs, .int 1])), (21, .inr (.inl (0, pmss))), (22, .inr (.inl (0, pmms))), (23, .inr (.inl (0, pmts))), (24, .inr (.inl (0, psts))), (25, .inr (.inl (0, pwas))), (26, .inr (.inl (0, prss))), (27, .inr (.inl (0, prrs))), (28, .inr (.inl (0, pfas))), (29, .inl (0, [.ref 30, .int 1, .int (iMn (acco + 1) 10)])), (30, .inr (.inr (.inr [some 31, some 56, some 81, some 106, some 131, some 156, some 181, some 206, some 231, some 256]))), (31, .inl (7, [.ref lys, .int mis, .int shus, .int buss, .ref 32, .ref 33, .ref 34, .ref 35, .ref 36, .ref 37, .ref 38, .ref 39, .ref 40, .ref 41, .ref 42, .int lkss, .ref 43, .ref 44, .ref 47])), (32, .inr (.inl (0, (aC 5 rks rk)))), (33, .inr (.inl (0, (aC 5 stas sta)))), (34, .inr (.inl (0, (aC 5 phs ph)))), (35, .inr (.inl (0, (aC 5 sps sp)))), (36, .inr (.inl (0, (aC 5 ces ce)))), (37, .inr (.inl (0, (aC 5 dus du)))), (38, .inr (.inl (0, (aC 5 hes he)))), (39, .inr (.inl (0, (aC 6 ris ri)))), (40, .inr (.inl (0, (aC 6 uss us)))), (41, .inr (.inl (0, (aC (nI cm.length) cms cm)))), (42, .inr (.inl (0, (aC (nI lf.length) lfs lf)))), (43, .inr (.inl (0, (aC (nI lkd.length) lkds lkd)))), (47, .inl (3, [.ref 48, .ref 49, .ref 50, .ref 51, .ref 52, .ref 53, .ref 54, .ref 55, .int pevs, .int 1])), (48, .inr (.inl (0, (aC (nI pms.length) pmss pms)))), (49, .inr (.inl (0, (aC (nI pmm.length) pmms pmm)))), (50, .inr (.inl (0, (aC (nI pmt.length) pmts pmt)))), (51, .inr (.inl (0, (aC (nI pst.length) psts pst)))), (52, .inr (.inl (0, (aC (nI pwa.length) pwas pwa)))), (53, .inr (.inl (0, (aC (nI prs.length) prss prs)))), (54, .inr (.inl (0, (aC (nI prr.length) prrs prr)))), (55, .inr (.inl (0, (aC (nI pfa.length) pfas pfa))))]) rfl K rfl (Nat.le_of_ble_eq_true rfl) rfl (Or.inl rfl) rfl rfl (fun h K => ?_)
  exact j_V.ret yr0m_M yr0m_41 rfl rfl ⟨rfl, K⟩
set_option maxRecDepth 100000 in
theorem yr1p_M : j_meth jP 28 = some (yX3_copyFrom, cX3_copyFrom, 2, none, 1, false, 3) := rfl
set_option maxRecDepth 100000 in
theorem yr1p_0 : j_code jP 28 0 = some (.aload_n 0) := rfl
set_option maxRecDepth 100000 in
theorem yr1p_1 : j_code jP 28 1 = some (.getfield 36) := rfl
set_option maxRecDepth 100000 in
theorem yr1p_4 : j_code jP 28 4 = some (.ifCond .ne 4) := rfl
set_option maxRecDepth 100000 in
theorem yr1p_7 : j_code jP 28 7 = some (.return_) := rfl
set_option maxRecDepth 100000 in
theorem yr1p_8 : j_code jP 28 8 = some (.aload_n 1) := rfl
set_option maxRecDepth 100000 in
theorem yr1p_9 : j_code jP 28 9 = some (.getfield 9) := rfl
set_option maxRecDepth 100000 in
theorem yr1p_12 : j_code jP 28 12 = some (.iconst 0) := rfl
set_option maxRecDepth 100000 in
theorem yr1p_13 : j_code jP 28 13 = some (.aload_n 0) := rfl
set_option maxRecDepth 100000 in
theorem yr1p_14 : j_code jP 28 14 = some (.getfield 9) := rfl
set_option maxRecDepth 100000 in
theorem yr1p_17 : j_code jP 28 17 = some (.iconst 0) := rfl
set_option maxRecDepth 100000 in
theorem yr1p_18 : j_code jP 28 18 = some (.aload_n 0) := rfl
set_option maxRecDepth 100000 in
theorem yr1p_19 : j_code jP 28 19 = some (.getfield 9) := rfl
set_option maxRecDepth 100000 in
theorem yr1p_22 : j_code jP 28 22 = some (.arraylength) := rfl
set_option maxRecDepth 100000 in
theorem yr1p_23 : j_code jP 28 23 = some (.invokestatic 50) := rfl
set_option maxRecDepth 100000 in
theorem yr1p_26 : j_code jP 28 26 = some (.aload_n 1) := rfl
set_option maxRecDepth 100000 in
theorem yr1p_27 : j_code jP 28 27 = some (.getfield 15) := rfl
set_option maxRecDepth 100000 in
theorem yr1p_30 : j_code jP 28 30 = some (.iconst 0) := rfl
set_option maxRecDepth 100000 in
theorem yr1p_31 : j_code jP 28 31 = some (.aload_n 0) := rfl
set_option maxRecDepth 100000 in
theorem yr1p_32 : j_code jP 28 32 = some (.getfield 15) := rfl
set_option maxRecDepth 100000 in
theorem yr1p_35 : j_code jP 28 35 = some (.iconst 0) := rfl
set_option maxRecDepth 100000 in
theorem yr1p_36 : j_code jP 28 36 = some (.aload_n 0) := rfl
set_option maxRecDepth 100000 in
theorem yr1p_37 : j_code jP 28 37 = some (.getfield 15) := rfl
set_option maxRecDepth 100000 in
theorem yr1p_40 : j_code jP 28 40 = some (.arraylength) := rfl
set_option maxRecDepth 100000 in
theorem yr1p_41 : j_code jP 28 41 = some (.invokestatic 50) := rfl
set_option maxRecDepth 100000 in
theorem yr1p_44 : j_code jP 28 44 = some (.aload_n 1) := rfl
set_option maxRecDepth 100000 in
theorem yr1p_45 : j_code jP 28 45 = some (.getfield 18) := rfl
set_option maxRecDepth 100000 in
theorem yr1p_48 : j_code jP 28 48 = some (.iconst 0) := rfl
set_option maxRecDepth 100000 in
theorem yr1p_49 : j_code jP 28 49 = some (.aload_n 0) := rfl
set_option maxRecDepth 100000 in
theorem yr1p_50 : j_code jP 28 50 = some (.getfield 18) := rfl
set_option maxRecDepth 100000 in
theorem yr1p_53 : j_code jP 28 53 = some (.iconst 0) := rfl
set_option maxRecDepth 100000 in
theorem yr1p_54 : j_code jP 28 54 = some (.aload_n 0) := rfl
set_option maxRecDepth 100000 in
theorem yr1p_55 : j_code jP 28 55 = some (.getfield 18) := rfl
set_option maxRecDepth 100000 in
theorem yr1p_58 : j_code jP 28 58 = some (.arraylength) := rfl
set_option maxRecDepth 100000 in
theorem yr1p_59 : j_code jP 28 59 = some (.invokestatic 50) := rfl
set_option maxRecDepth 100000 in
theorem yr1p_62 : j_code jP 28 62 = some (.aload_n 1) := rfl
set_option maxRecDepth 100000 in
theorem yr1p_63 : j_code jP 28 63 = some (.getfield 21) := rfl
set_option maxRecDepth 100000 in
theorem yr1p_66 : j_code jP 28 66 = some (.iconst 0) := rfl
set_option maxRecDepth 100000 in
theorem yr1p_67 : j_code jP 28 67 = some (.aload_n 0) := rfl
set_option maxRecDepth 100000 in
theorem yr1p_68 : j_code jP 28 68 = some (.getfield 21) := rfl
set_option maxRecDepth 100000 in
theorem yr1p_71 : j_code jP 28 71 = some (.iconst 0) := rfl
set_option maxRecDepth 100000 in
theorem yr1p_72 : j_code jP 28 72 = some (.aload_n 0) := rfl
set_option maxRecDepth 100000 in
theorem yr1p_73 : j_code jP 28 73 = some (.getfield 21) := rfl
set_option maxRecDepth 100000 in
theorem yr1p_76 : j_code jP 28 76 = some (.arraylength) := rfl
set_option maxRecDepth 100000 in
theorem yr1p_77 : j_code jP 28 77 = some (.invokestatic 50) := rfl
set_option maxRecDepth 100000 in
theorem yr1p_80 : j_code jP 28 80 = some (.aload_n 1) := rfl
set_option maxRecDepth 100000 in
theorem yr1p_81 : j_code jP 28 81 = some (.getfield 24) := rfl
set_option maxRecDepth 100000 in
theorem yr1p_84 : j_code jP 28 84 = some (.iconst 0) := rfl
set_option maxRecDepth 100000 in
theorem yr1p_85 : j_code jP 28 85 = some (.aload_n 0) := rfl
set_option maxRecDepth 100000 in
theorem yr1p_86 : j_code jP 28 86 = some (.getfield 24) := rfl
set_option maxRecDepth 100000 in
theorem yr1p_89 : j_code jP 28 89 = some (.iconst 0) := rfl
set_option maxRecDepth 100000 in
theorem yr1p_90 : j_code jP 28 90 = some (.aload_n 0) := rfl
set_option maxRecDepth 100000 in
theorem yr1p_91 : j_code jP 28 91 = some (.getfield 24) := rfl
set_option maxRecDepth 100000 in
theorem yr1p_94 : j_code jP 28 94 = some (.arraylength) := rfl
set_option maxRecDepth 100000 in
theorem yr1p_95 : j_code jP 28 95 = some (.invokestatic 50) := rfl
set_option maxRecDepth 100000 in
theorem yr1p_98 : j_code jP 28 98 = some (.aload_n 1) := rfl
set_option maxRecDepth 100000 in
theorem yr1p_99 : j_code jP 28 99 = some (.getfield 27) := rfl
set_option maxRecDepth 100000 in
theorem yr1p_102 : j_code jP 28 102 = some (.iconst 0) := rfl
set_option maxRecDepth 100000 in
theorem yr1p_103 : j_code jP 28 103 = some (.aload_n 0) := rfl
set_option maxRecDepth 100000 in
theorem yr1p_104 : j_code jP 28 104 = some (.getfield 27) := rfl
set_option maxRecDepth 100000 in
theorem yr1p_107 : j_code jP 28 107 = some (.iconst 0) := rfl
set_option maxRecDepth 100000 in
theorem yr1p_108 : j_code jP 28 108 = some (.aload_n 0) := rfl
set_option maxRecDepth 100000 in
theorem yr1p_109 : j_code jP 28 109 = some (.getfield 27) := rfl
set_option maxRecDepth 100000 in
theorem yr1p_112 : j_code jP 28 112 = some (.arraylength) := rfl
set_option maxRecDepth 100000 in
theorem yr1p_113 : j_code jP 28 113 = some (.invokestatic 50) := rfl
set_option maxRecDepth 100000 in
theorem yr1p_116 : j_code jP 28 116 = some (.aload_n 1) := rfl
set_option maxRecDepth 100000 in
theorem yr1p_117 : j_code jP 28 117 = some (.getfield 30) := rfl
set_option maxRecDepth 100000 in
theorem yr1p_120 : j_code jP 28 120 = some (.iconst 0) := rfl
set_option maxRecDepth 100000 in
theorem yr1p_121 : j_code jP 28 121 = some (.aload_n 0) := rfl
set_option maxRecDepth 100000 in
theorem yr1p_122 : j_code jP 28 122 = some (.getfield 30) := rfl
set_option maxRecDepth 100000 in
theorem yr1p_125 : j_code jP 28 125 = some (.iconst 0) := rfl
set_option maxRecDepth 100000 in
theorem yr1p_126 : j_code jP 28 126 = some (.aload_n 0) := rfl
set_option maxRecDepth 100000 in
theorem yr1p_127 : j_code jP 28 127 = some (.getfield 30) := rfl
set_option maxRecDepth 100000 in
theorem yr1p_130 : j_code jP 28 130 = some (.arraylength) := rfl
set_option maxRecDepth 100000 in
theorem yr1p_131 : j_code jP 28 131 = some (.invokestatic 50) := rfl
set_option maxRecDepth 100000 in
theorem yr1p_134 : j_code jP 28 134 = some (.aload_n 1) := rfl
set_option maxRecDepth 100000 in
theorem yr1p_135 : j_code jP 28 135 = some (.getfield 33) := rfl
set_option maxRecDepth 100000 in
theorem yr1p_138 : j_code jP 28 138 = some (.iconst 0) := rfl
set_option maxRecDepth 100000 in
theorem yr1p_139 : j_code jP 28 139 = some (.aload_n 0) := rfl
set_option maxRecDepth 100000 in
theorem yr1p_140 : j_code jP 28 140 = some (.getfield 33) := rfl
set_option maxRecDepth 100000 in
theorem yr1p_143 : j_code jP 28 143 = some (.iconst 0) := rfl
set_option maxRecDepth 100000 in
theorem yr1p_144 : j_code jP 28 144 = some (.aload_n 0) := rfl
set_option maxRecDepth 100000 in
theorem yr1p_145 : j_code jP 28 145 = some (.getfield 33) := rfl
set_option maxRecDepth 100000 in
theorem yr1p_148 : j_code jP 28 148 = some (.arraylength) := rfl
set_option maxRecDepth 100000 in
theorem yr1p_149 : j_code jP 28 149 = some (.invokestatic 50) := rfl
set_option maxRecDepth 100000 in
theorem yr1p_152 : j_code jP 28 152 = some (.aload_n 0) := rfl
set_option maxRecDepth 100000 in
theorem yr1p_153 : j_code jP 28 153 = some (.aload_n 1) := rfl
set_option maxRecDepth 100000 in
theorem yr1p_154 : j_code jP 28 154 = some (.getfield 46) := rfl
set_option maxRecDepth 100000 in
theorem yr1p_157 : j_code jP 28 157 = some (.putfield 46) := rfl
set_option maxRecDepth 100000 in
theorem yr1p_160 : j_code jP 28 160 = some (.return_) := rfl
set_option maxRecDepth 1000000 in
theorem yr1p_k8 {pev : Int32} {pms : List Int32} {pmm : List Int32} {pevs : Int32} {pmss : List Int32} {pmms : List Int32} {d : Nat} {lv : J_L} {h h0 : J_H} {Q : Option Value → J_H → Prop} (L : LK lv [(0, .ref 72), (1, .ref 20)]) (K : KN h [(20, .inl (3, [.ref 21, .ref 22, .ref 23, .ref 24, .ref 25, .ref 26, .ref 27, .ref 28, .int pevs, .int 1])), (21, .inr (.inl (0, pmss))), (22, .inr (.inl (0, pmms))), (72, .inl (3, [.ref 73, .ref 74, .ref 75, .ref 76, .ref 77, .ref 78, .ref 79, .ref 80, .int pev, .int 1])), (73, .inr (.inl (0, pms))), (74, .inr (.inl (0, pmm)))] h0) (kk : ∀ lv h, LK lv [(0, .ref 72), (1, .ref 20)] → KN h [(20, .inl (3, [.ref 21, .ref 22, .ref 23, .ref 24, .ref 25, .ref 26, .ref 27, .ref 28, .int pevs, .int 1])), (21, .inr (.inl (0, pmss))), (22, .inr (.inl (0, pmms))), (72, .inl (3, [.ref 73, .ref 74, .ref 75, .ref 76, .ref 77, .ref 78, .ref 79, .ref 80, .int pev, .int 1])), (73, .inr (.inl (0, (aC (nI pms.length) pmss pms)))), (74, .inr (.inl (0, (aC (nI pmm.length) pmms pmm))))] h0 → j_V jP d 28 44 lv [] h Q) : j_V jP d 28 8 lv [] h Q := by
  refine j_V.ldL yr1p_M yr1p_8 rfl (i := 1) (kd := 2) (v := .ref 20) (pcJ := 9) rfl L rfl rfl rfl ?_
  refine j_V.getK yr1p_M yr1p_9 (ci := 3) (j := 0) rfl K rfl rfl ?_
  refine j_V.one yr1p_M yr1p_12 (by decide) (pcJ := 13) (stJ := [.int 0, .ref 21]) rfl ?_
  refine j_V.ldL yr1p_M yr1p_13 rfl (i := 0) (kd := 2) (v := .ref 72) (pcJ := 14) rfl L rfl rfl rfl ?_
  refine j_V.getK yr1p_M yr1p_14 (ci := 3) (j := 0) rfl K rfl rfl ?_
  refine j_V.one yr1p_M yr1p_17 (by decide) (pcJ := 18) (stJ := [.int 0, .ref 73, .int 0, .ref 21]) rfl ?_
  refine j_V.ldL yr1p_M yr1p_18 rfl (i := 0) (kd := 2) (v := .ref 72) (pcJ := 19) rfl L rfl rfl rfl ?_
  refine j_V.getK yr1p_M yr1p_19 (ci := 3) (j := 0) rfl K rfl rfl ?_
  refine j_V.alnA yr1p_M yr1p_22 K rfl ?_
  refine j_V.acp yr1p_M yr1p_23 rfl rfl K rfl rfl rfl (fun h K => ?_)
  refine j_V.ldL yr1p_M yr1p_26 rfl (i := 1) (kd := 2) (v := .ref 20) (pcJ := 27) rfl L rfl rfl rfl ?_
  refine j_V.getK yr1p_M yr1p_27 (ci := 3) (j := 1) rfl K rfl rfl ?_
  refine j_V.one yr1p_M yr1p_30 (by decide) (pcJ := 31) (stJ := [.int 0, .ref 22]) rfl ?_
  refine j_V.ldL yr1p_M yr1p_31 rfl (i := 0) (kd := 2) (v := .ref 72) (pcJ := 32) rfl L rfl rfl rfl ?_
  refine j_V.getK yr1p_M yr1p_32 (ci := 3) (j := 1) rfl K rfl rfl ?_
  refine j_V.one yr1p_M yr1p_35 (by decide) (pcJ := 36) (stJ := [.int 0, .ref 74, .int 0, .ref 22]) rfl ?_
  refine j_V.ldL yr1p_M yr1p_36 rfl (i := 0) (kd := 2) (v := .ref 72) (pcJ := 37) rfl L rfl rfl rfl ?_
  refine j_V.getK yr1p_M yr1p_37 (ci := 3) (j := 1) rfl K rfl rfl ?_
  refine j_V.alnA yr1p_M yr1p_40 K rfl ?_
  refine j_V.acp yr1p_M yr1p_41 rfl rfl K rfl rfl rfl (fun h K => ?_)
  exact kk _ _ L K
set_option maxRecDepth 1000000 in
theorem yr1p_k44 {pev : Int32} {pmt : List Int32} {pst : List Int32} {pevs : Int32} {pmts : List Int32} {psts : List Int32} {d : Nat} {lv : J_L} {h h0 : J_H} {Q : Option Value → J_H → Prop} (L : LK lv [(0, .ref 72), (1, .ref 20)]) (K : KN h [(20, .inl (3, [.ref 21, .ref 22, .ref 23, .ref 24, .ref 25, .ref 26, .ref 27, .ref 28, .int pevs, .int 1])), (23, .inr (.inl (0, pmts))), (24, .inr (.inl (0, psts))), (72, .inl (3, [.ref 73, .ref 74, .ref 75, .ref 76, .ref 77, .ref 78, .ref 79, .ref 80, .int pev, .int 1])), (75, .inr (.inl (0, pmt))), (76, .inr (.inl (0, pst)))] h0) (kk : ∀ lv h, LK lv [(0, .ref 72), (1, .ref 20)] → KN h [(20, .inl (3, [.ref 21, .ref 22, .ref 23, .ref 24, .ref 25, .ref 26, .ref 27, .ref 28, .int pevs, .int 1])), (23, .inr (.inl (0, pmts))), (24, .inr (.inl (0, psts))), (72, .inl (3, [.ref 73, .ref 74, .ref 75, .ref 76, .ref 77, .ref 78, .ref 79, .ref 80, .int pev, .int 1])), (75, .inr (.inl (0, (aC (nI pmt.length) pmts pmt)))), (76, .inr (.inl (0, (aC (nI pst.length) psts pst))))] h0 → j_V jP d 28 80 lv [] h Q) : j_V jP d 28 44 lv [] h Q := by
  refine j_V.ldL yr1p_M yr1p_44 rfl (i := 1) (kd := 2) (v := .ref 20) (pcJ := 45) rfl L rfl rfl rfl ?_
  refine j_V.getK yr1p_M yr1p_45 (ci := 3) (j := 2) rfl K rfl rfl ?_
  refine j_V.one yr1p_M yr1p_48 (by decide) (pcJ := 49) (stJ := [.int 0, .ref 23]) rfl ?_
  refine j_V.ldL yr1p_M yr1p_49 rfl (i := 0) (kd := 2) (v := .ref 72) (pcJ := 50) rfl L rfl rfl rfl ?_
  refine j_V.getK yr1p_M yr1p_50 (ci := 3) (j := 2) rfl K rfl rfl ?_
  refine j_V.one yr1p_M yr1p_53 (by decide) (pcJ := 54) (stJ := [.int 0, .ref 75, .int 0, .ref 23]) rfl ?_
  refine j_V.ldL yr1p_M yr1p_54 rfl (i := 0) (kd := 2) (v := .ref 72) (pcJ := 55) rfl L rfl rfl rfl ?_
  refine j_V.getK yr1p_M yr1p_55 (ci := 3) (j := 2) rfl K rfl rfl ?_
  refine j_V.alnA yr1p_M yr1p_58 K rfl ?_
  refine j_V.acp yr1p_M yr1p_59 rfl rfl K rfl rfl rfl (fun h K => ?_)
  refine j_V.ldL yr1p_M yr1p_62 rfl (i := 1) (kd := 2) (v := .ref 20) (pcJ := 63) rfl L rfl rfl rfl ?_
  refine j_V.getK yr1p_M yr1p_63 (ci := 3) (j := 3) rfl K rfl rfl ?_
  refine j_V.one yr1p_M yr1p_66 (by decide) (pcJ := 67) (stJ := [.int 0, .ref 24]) rfl ?_
  refine j_V.ldL yr1p_M yr1p_67 rfl (i := 0) (kd := 2) (v := .ref 72) (pcJ := 68) rfl L rfl rfl rfl ?_
  refine j_V.getK yr1p_M yr1p_68 (ci := 3) (j := 3) rfl K rfl rfl ?_
  refine j_V.one yr1p_M yr1p_71 (by decide) (pcJ := 72) (stJ := [.int 0, .ref 76, .int 0, .ref 24]) rfl ?_
  refine j_V.ldL yr1p_M yr1p_72 rfl (i := 0) (kd := 2) (v := .ref 72) (pcJ := 73) rfl L rfl rfl rfl ?_
  refine j_V.getK yr1p_M yr1p_73 (ci := 3) (j := 3) rfl K rfl rfl ?_
  refine j_V.alnA yr1p_M yr1p_76 K rfl ?_
  refine j_V.acp yr1p_M yr1p_77 rfl rfl K rfl rfl rfl (fun h K => ?_)
  exact kk _ _ L K
set_option maxRecDepth 1000000 in
theorem yr1p_k80 {pev : Int32} {pwa : List Int32} {prs : List Int32} {pevs : Int32} {pwas : List Int32} {prss : List Int32} {d : Nat} {lv : J_L} {h h0 : J_H} {Q : Option Value → J_H → Prop} (L : LK lv [(0, .ref 72), (1, .ref 20)]) (K : KN h [(20, .inl (3, [.ref 21, .ref 22, .ref 23, .ref 24, .ref 25, .ref 26, .ref 27, .ref 28, .int pevs, .int 1])), (25, .inr (.inl (0, pwas))), (26, .inr (.inl (0, prss))), (72, .inl (3, [.ref 73, .ref 74, .ref 75, .ref 76, .ref 77, .ref 78, .ref 79, .ref 80, .int pev, .int 1])), (77, .inr (.inl (0, pwa))), (78, .inr (.inl (0, prs)))] h0) (kk : ∀ lv h, LK lv [(0, .ref 72), (1, .ref 20)] → KN h [(20, .inl (3, [.ref 21, .ref 22, .ref 23, .ref 24, .ref 25, .ref 26, .ref 27, .ref 28, .int pevs, .int 1])), (25, .inr (.inl (0, pwas))), (26, .inr (.inl (0, prss))), (72, .inl (3, [.ref 73, .ref 74, .ref 75, .ref 76, .ref 77, .ref 78, .ref 79, .ref 80, .int pev, .int 1])), (77, .inr (.inl (0, (aC (nI pwa.length) pwas pwa)))), (78, .inr (.inl (0, (aC (nI prs.length) prss prs))))] h0 → j_V jP d 28 116 lv [] h Q) : j_V jP d 28 80 lv [] h Q := by
  refine j_V.ldL yr1p_M yr1p_80 rfl (i := 1) (kd := 2) (v := .ref 20) (pcJ := 81) rfl L rfl rfl rfl ?_
  refine j_V.getK yr1p_M yr1p_81 (ci := 3) (j := 4) rfl K rfl rfl ?_
  refine j_V.one yr1p_M yr1p_84 (by decide) (pcJ := 85) (stJ := [.int 0, .ref 25]) rfl ?_
  refine j_V.ldL yr1p_M yr1p_85 rfl (i := 0) (kd := 2) (v := .ref 72) (pcJ := 86) rfl L rfl rfl rfl ?_
  refine j_V.getK yr1p_M yr1p_86 (ci := 3) (j := 4) rfl K rfl rfl ?_
  refine j_V.one yr1p_M yr1p_89 (by decide) (pcJ := 90) (stJ := [.int 0, .ref 77, .int 0, .ref 25]) rfl ?_
  refine j_V.ldL yr1p_M yr1p_90 rfl (i := 0) (kd := 2) (v := .ref 72) (pcJ := 91) rfl L rfl rfl rfl ?_
  refine j_V.getK yr1p_M yr1p_91 (ci := 3) (j := 4) rfl K rfl rfl ?_
  refine j_V.alnA yr1p_M yr1p_94 K rfl ?_
  refine j_V.acp yr1p_M yr1p_95 rfl rfl K rfl rfl rfl (fun h K => ?_)
  refine j_V.ldL yr1p_M yr1p_98 rfl (i := 1) (kd := 2) (v := .ref 20) (pcJ := 99) rfl L rfl rfl rfl ?_
  refine j_V.getK yr1p_M yr1p_99 (ci := 3) (j := 5) rfl K rfl rfl ?_
  refine j_V.one yr1p_M yr1p_102 (by decide) (pcJ := 103) (stJ := [.int 0, .ref 26]) rfl ?_
  refine j_V.ldL yr1p_M yr1p_103 rfl (i := 0) (kd := 2) (v := .ref 72) (pcJ := 104) rfl L rfl rfl rfl ?_
  refine j_V.getK yr1p_M yr1p_104 (ci := 3) (j := 5) rfl K rfl rfl ?_
  refine j_V.one yr1p_M yr1p_107 (by decide) (pcJ := 108) (stJ := [.int 0, .ref 78, .int 0, .ref 26]) rfl ?_
  refine j_V.ldL yr1p_M yr1p_108 rfl (i := 0) (kd := 2) (v := .ref 72) (pcJ := 109) rfl L rfl rfl rfl ?_
  refine j_V.getK yr1p_M yr1p_109 (ci := 3) (j := 5) rfl K rfl rfl ?_
  refine j_V.alnA yr1p_M yr1p_112 K rfl ?_
  refine j_V.acp yr1p_M yr1p_113 rfl rfl K rfl rfl rfl (fun h K => ?_)
  exact kk _ _ L K
set_option maxRecDepth 1000000 in
theorem yr1p_k116 {pev : Int32} {prr : List Int32} {pfa : List Int32} {pevs : Int32} {prrs : List Int32} {pfas : List Int32} {d : Nat} {lv : J_L} {h h0 : J_H} {Q : Option Value → J_H → Prop} (L : LK lv [(0, .ref 72), (1, .ref 20)]) (K : KN h [(20, .inl (3, [.ref 21, .ref 22, .ref 23, .ref 24, .ref 25, .ref 26, .ref 27, .ref 28, .int pevs, .int 1])), (27, .inr (.inl (0, prrs))), (28, .inr (.inl (0, pfas))), (72, .inl (3, [.ref 73, .ref 74, .ref 75, .ref 76, .ref 77, .ref 78, .ref 79, .ref 80, .int pev, .int 1])), (79, .inr (.inl (0, prr))), (80, .inr (.inl (0, pfa)))] h0) (kk : ∀ lv h, LK lv [(0, .ref 72), (1, .ref 20)] → KN h [(20, .inl (3, [.ref 21, .ref 22, .ref 23, .ref 24, .ref 25, .ref 26, .ref 27, .ref 28, .int pevs, .int 1])), (27, .inr (.inl (0, prrs))), (28, .inr (.inl (0, pfas))), (72, .inl (3, [.ref 73, .ref 74, .ref 75, .ref 76, .ref 77, .ref 78, .ref 79, .ref 80, .int pev, .int 1])), (79, .inr (.inl (0, (aC (nI prr.length) prrs prr)))), (80, .inr (.inl (0, (aC (nI pfa.length) pfas pfa))))] h0 → j_V jP d 28 152 lv [] h Q) : j_V jP d 28 116 lv [] h Q := by
  refine j_V.ldL yr1p_M yr1p_116 rfl (i := 1) (kd := 2) (v := .ref 20) (pcJ := 117) rfl L rfl rfl rfl ?_
  refine j_V.getK yr1p_M yr1p_117 (ci := 3) (j := 6) rfl K rfl rfl ?_
  refine j_V.one yr1p_M yr1p_120 (by decide) (pcJ := 121) (stJ := [.int 0, .ref 27]) rfl ?_
  refine j_V.ldL yr1p_M yr1p_121 rfl (i := 0) (kd := 2) (v := .ref 72) (pcJ := 122) rfl L rfl rfl rfl ?_
  refine j_V.getK yr1p_M yr1p_122 (ci := 3) (j := 6) rfl K rfl rfl ?_
  refine j_V.one yr1p_M yr1p_125 (by decide) (pcJ := 126) (stJ := [.int 0, .ref 79, .int 0, .ref 27]) rfl ?_
  refine j_V.ldL yr1p_M yr1p_126 rfl (i := 0) (kd := 2) (v := .ref 72) (pcJ := 127) rfl L rfl rfl rfl ?_
  refine j_V.getK yr1p_M yr1p_127 (ci := 3) (j := 6) rfl K rfl rfl ?_
  refine j_V.alnA yr1p_M yr1p_130 K rfl ?_
  refine j_V.acp yr1p_M yr1p_131 rfl rfl K rfl rfl rfl (fun h K => ?_)
  refine j_V.ldL yr1p_M yr1p_134 rfl (i := 1) (kd := 2) (v := .ref 20) (pcJ := 135) rfl L rfl rfl rfl ?_
  refine j_V.getK yr1p_M yr1p_135 (ci := 3) (j := 7) rfl K rfl rfl ?_
  refine j_V.one yr1p_M yr1p_138 (by decide) (pcJ := 139) (stJ := [.int 0, .ref 28]) rfl ?_
  refine j_V.ldL yr1p_M yr1p_139 rfl (i := 0) (kd := 2) (v := .ref 72) (pcJ := 140) rfl L rfl rfl rfl ?_
  refine j_V.getK yr1p_M yr1p_140 (ci := 3) (j := 7) rfl K rfl rfl ?_
  refine j_V.one yr1p_M yr1p_143 (by decide) (pcJ := 144) (stJ := [.int 0, .ref 80, .int 0, .ref 28]) rfl ?_
  refine j_V.ldL yr1p_M yr1p_144 rfl (i := 0) (kd := 2) (v := .ref 72) (pcJ := 145) rfl L rfl rfl rfl ?_
  refine j_V.getK yr1p_M yr1p_145 (ci := 3) (j := 7) rfl K rfl rfl ?_
  refine j_V.alnA yr1p_M yr1p_148 K rfl ?_
  refine j_V.acp yr1p_M yr1p_149 rfl rfl K rfl rfl rfl (fun h K => ?_)
  exact kk _ _ L K
set_option maxRecDepth 1000000 in
theorem yr1p_ok {pev : Int32} {pms : List Int32} {pmm : List Int32} {pmt : List Int32} {pst : List Int32} {pwa : List Int32} {prs : List Int32} {prr : List Int32} {pfa : List Int32} {pevs : Int32} {pmss : List Int32} {pmms : List Int32} {pmts : List Int32} {psts : List Int32} {pwas : List Int32} {prss : List Int32} {prrs : List Int32} {pfas : List Int32} {d : Nat} {h h0 : J_H} (K : KN h [(20, .inl (3, [.ref 21, .ref 22, .ref 23, .ref 24, .ref 25, .ref 26, .ref 27, .ref 28, .int pevs, .int 1])), (21, .inr (.inl (0, pmss))), (22, .inr (.inl (0, pmms))), (23, .inr (.inl (0, pmts))), (24, .inr (.inl (0, psts))), (25, .inr (.inl (0, pwas))), (26, .inr (.inl (0, prss))), (27, .inr (.inl (0, prrs))), (28, .inr (.inl (0, pfas))), (72, .inl (3, [.ref 73, .ref 74, .ref 75, .ref 76, .ref 77, .ref 78, .ref 79, .ref 80, .int pev, .int 1])), (73, .inr (.inl (0, pms))), (74, .inr (.inl (0, pmm))), (75, .inr (.inl (0, pmt))), (76, .inr (.inl (0, pst))), (77, .inr (.inl (0, pwa))), (78, .inr (.inl (0, prs))), (79, .inr (.inl (0, prr))), (80, .inr (.inl (0, pfa)))] h0) : j_V jP d 28 0 (lv_args 0 [.ref 72, .ref 20]) [] h (fun rv h' => rv = none ∧ KN h' [(20, .inl (3, [.ref 21, .ref 22, .ref 23, .ref 24, .ref 25, .ref 26, .ref 27, .ref 28, .int pevs, .int 1])), (21, .inr (.inl (0, pmss))), (22, .inr (.inl (0, pmms))), (23, .inr (.inl (0, pmts))), (24, .inr (.inl (0, psts))), (25, .inr (.inl (0, pwas))), (26, .inr (.inl (0, prss))), (27, .inr (.inl (0, prrs))), (28, .inr (.inl (0, pfas))), (72, .inl (3, [.ref 73, .ref 74, .ref 75, .ref 76, .ref 77, .ref 78, .ref 79, .ref 80, .int pevs, .int 1])), (73, .inr (.inl (0, (aC (nI pms.length) pmss pms)))), (74, .inr (.inl (0, (aC (nI pmm.length) pmms pmm)))), (75, .inr (.inl (0, (aC (nI pmt.length) pmts pmt)))), (76, .inr (.inl (0, (aC (nI pst.length) psts pst)))), (77, .inr (.inl (0, (aC (nI pwa.length) pwas pwa)))), (78, .inr (.inl (0, (aC (nI prs.length) prss prs)))), (79, .inr (.inl (0, (aC (nI prr.length) prrs prr)))), (80, .inr (.inl (0, (aC (nI pfa.length) pfas pfa))))] h0) := by
  show j_V jP d 28 0 [(0, .ref 72), (1, .ref 20)] [] h _
  obtain ⟨lv, elv, L⟩ : ∃ lv, lv = [(0, .ref 72), (1, .ref 20)] ∧ LK lv [(0, .ref 72), (1, .ref 20)] := ⟨_, rfl, LK.rf⟩
  rw [← elv]
  clear elv
  refine j_V.ldL yr1p_M yr1p_0 rfl (i := 0) (kd := 2) (v := .ref 72) (pcJ := 1) rfl L rfl rfl rfl ?_
  refine j_V.getK yr1p_M yr1p_1 (ci := 3) (j := 9) rfl K rfl rfl ?_
  refine j_V.ifc yr1p_M yr1p_4 (t := 8) rfl (fun c4_0 => ?_) (fun c4_0 => ?_)
  · replace c4_0 : ¬ ((1 : Int32) = 0) := jd_ne c4_0
    refine yr1p_k8 L (K.fi [20, 21, 22, 72, 73, 74] rfl rfl) (fun lv h9 L K9 => ?_)
    have K : KN h9 [(20, .inl (3, [.ref 21, .ref 22, .ref 23, .ref 24, .ref 25, .ref 26, .ref 27, .ref 28, .int pevs, .int 1])), (21, .inr (.inl (0, pmss))), (22, .inr (.inl (0, pmms))), (23, .inr (.inl (0, pmts))), (24, .inr (.inl (0, psts))), (25, .inr (.inl (0, pwas))), (26, .inr (.inl (0, prss))), (27, .inr (.inl (0, prrs))), (28, .inr (.inl (0, pfas))), (72, .inl (3, [.ref 73, .ref 74, .ref 75, .ref 76, .ref 77, .ref 78, .ref 79, .ref 80, .int pev, .int 1])), (73, .inr (.inl (0, (aC (nI pms.length) pmss pms)))), (74, .inr (.inl (0, (aC (nI pmm.length) pmms pmm)))), (75, .inr (.inl (0, pmt))), (76, .inr (.inl (0, pst))), (77, .inr (.inl (0, pwa))), (78, .inr (.inl (0, prs))), (79, .inr (.inl (0, prr))), (80, .inr (.inl (0, pfa)))] h0 := K.mg K9 rfl rfl
    clear K9
    refine yr1p_k44 L (K.fi [20, 23, 24, 72, 75, 76] rfl rfl) (fun lv h9 L K9 => ?_)
    have K : KN h9 [(20, .inl (3, [.ref 21, .ref 22, .ref 23, .ref 24, .ref 25, .ref 26, .ref 27, .ref 28, .int pevs, .int 1])), (21, .inr (.inl (0, pmss))), (22, .inr (.inl (0, pmms))), (23, .inr (.inl (0, pmts))), (24, .inr (.inl (0, psts))), (25, .inr (.inl (0, pwas))), (26, .inr (.inl (0, prss))), (27, .inr (.inl (0, prrs))), (28, .inr (.inl (0, pfas))), (72, .inl (3, [.ref 73, .ref 74, .ref 75, .ref 76, .ref 77, .ref 78, .ref 79, .ref 80, .int pev, .int 1])), (73, .inr (.inl (0, (aC (nI pms.length) pmss pms)))), (74, .inr (.inl (0, (aC (nI pmm.length) pmms pmm)))), (75, .inr (.inl (0, (aC (nI pmt.length) pmts pmt)))), (76, .inr (.inl (0, (aC (nI pst.length) psts pst)))), (77, .inr (.inl (0, pwa))), (78, .inr (.inl (0, prs))), (79, .inr (.inl (0, prr))), (80, .inr (.inl (0, pfa)))] h0 := K.mg K9 rfl rfl
    clear K9
    refine yr1p_k80 L (K.fi [20, 25, 26, 72, 77, 78] rfl rfl) (fun lv h9 L K9 => ?_)
    have K : KN h9 [(20, .inl (3, [.ref 21, .ref 22, .ref 23, .ref 24, .ref 25, .ref 26, .ref 27, .ref 28, .int pevs, .int 1])), (21, .inr (.inl (0, pmss))), (22, .inr (.inl (0, pmms))), (23, .inr (.inl (0, pmts))), (24, .inr (.inl (0, psts))), (25, .inr (.inl (0, pwas))), (26, .inr (.inl (0, prss))), (27, .inr (.inl (0, prrs))), (28, .inr (.inl (0, pfas))), (72, .inl (3, [.ref 73, .ref 74, .ref 75, .ref 76, .ref 77, .ref 78, .ref 79, .ref 80, .int pev, .int 1])), (73, .inr (.inl (0, (aC (nI pms.length) pmss pms)))), (74, .inr (.inl (0, (aC (nI pmm.length) pmms pmm)))), (75, .inr (.inl (0, (aC (nI pmt.length) pmts pmt)))), (76, .inr (.inl (0, (aC (nI pst.length) psts pst)))), (77, .inr (.inl (0, (aC (nI pwa.length) pwas pwa)))), (78, .inr (.inl (0, (aC (nI prs.length) prss prs)))), (79, .inr (.inl (0, prr))), (80, .inr (.inl (0, pfa)))] h0 := K.mg K9 rfl rfl
    clear K9
    refine yr1p_k116 L (K.fi [20, 27, 28, 72, 79, 80] rfl rfl) (fun lv h9 L K9 => ?_)
    have K : KN h9 [(20, .inl (3, [.ref 21, .ref 22, .ref 23, .ref 24, .ref 25, .ref 26, .ref 27, .ref 28, .int pevs, .int 1])), (21, .inr (.inl (0, pmss))), (22, .inr (.inl (0, pmms))), (23, .inr (.inl (0, pmts))), (24, .inr (.inl (0, psts))), (25, .inr (.inl (0, pwas))), (26, .inr (.inl (0, prss))), (27, .inr (.inl (0, prrs))), (28, .inr (.inl (0, pfas))), (72, .inl (3, [.ref 73, .ref 74, .ref 75, .ref 76, .ref 77, .ref 78, .ref 79, .ref 80, .int pev, .int 1])), (73, .inr (.inl (0, (aC (nI pms.length) pmss pms)))), (74, .inr (.inl (0, (aC (nI pmm.length) pmms pmm)))), (75, .inr (.inl (0, (aC (nI pmt.length) pmts pmt)))), (76, .inr (.inl (0, (aC (nI pst.length) psts pst)))), (77, .inr (.inl (0, (aC (nI pwa.length) pwas pwa)))), (78, .inr (.inl (0, (aC (nI prs.length) prss prs)))), (79, .inr (.inl (0, (aC (nI prr.length) prrs prr)))), (80, .inr (.inl (0, (aC (nI pfa.length) pfas pfa))))] h0 := K.mg K9 rfl rfl
    clear K9
    refine j_V.ldL yr1p_M yr1p_152 rfl (i := 0) (kd := 2) (v := .ref 72) (pcJ := 153) rfl L rfl rfl rfl ?_
    refine j_V.ldL yr1p_M yr1p_153 rfl (i := 1) (kd := 2) (v := .ref 20) (pcJ := 154) rfl L rfl rfl rfl ?_
    refine j_V.getK yr1p_M yr1p_154 (ci := 3) (j := 8) rfl K rfl rfl ?_
    refine j_V.putK yr1p_M yr1p_157 (ci := 3) (j := 8) (k' := [(20, .inl (3, [.ref 21, .ref 22, .ref 23, .ref 24, .ref 25, .ref 26, .ref 27, .ref 28, .int pevs, .int 1])), (21, .inr (.inl (0, pmss))), (22, .inr (.inl (0, pmms))), (23, .inr (.inl (0, pmts))), (24, .inr (.inl (0, psts))), (25, .inr (.inl (0, pwas))), (26, .inr (.inl (0, prss))), (27, .inr (.inl (0, prrs))), (28, .inr (.inl (0, pfas))), (72, .inl (3, [.ref 73, .ref 74, .ref 75, .ref 76, .ref 77, .ref 78, .ref 79, .ref 80, .int pevs, .int 1])), (73, .inr (.inl (0, (aC (nI pms.length) pmss pms)))), (74, .inr (.inl (0, (aC (nI pmm.length) pmms pmm)))), (75, .inr (.inl (0, (aC (nI pmt.length) pmts pmt)))), (76, .inr (.inl (0, (aC (nI pst.length) psts pst)))), (77, .inr (.inl (0, (aC (nI pwa.length) pwas pwa)))), (78, .inr (.inl (0, (aC (nI prs.length) prss prs)))), (79, .inr (.inl (0, (aC (nI prr.length) prrs prr)))), (80, .inr (.inl (0, (aC (nI pfa.length) pfas pfa))))]) rfl K rfl (Nat.le_of_ble_eq_true rfl) rfl (Or.inl rfl) rfl rfl (fun h K => ?_)
    exact j_V.ret yr1p_M yr1p_160 rfl rfl ⟨rfl, K⟩
  · replace c4_0 : (1 : Int32) = 0 := jd_nen c4_0
    exact absurd c4_0 (by decide)
set_option maxRecDepth 100000 in
theorem yr1s_M : j_meth jP 61 = some (yX7_copyFrom, cX7_copyFrom, 2, none, 1, false, 7) := rfl
set_option maxRecDepth 100000 in
theorem yr1s_0 : j_code jP 61 0 = some (.aload_n 0) := rfl
set_option maxRecDepth 100000 in
theorem yr1s_1 : j_code jP 61 1 = some (.aload_n 1) := rfl
set_option maxRecDepth 100000 in
theorem yr1s_2 : j_code jP 61 2 = some (.getfield 64) := rfl
set_option maxRecDepth 100000 in
theorem yr1s_5 : j_code jP 61 5 = some (.putfield 64) := rfl
set_option maxRecDepth 100000 in
theorem yr1s_8 : j_code jP 61 8 = some (.aload_n 0) := rfl
set_option maxRecDepth 100000 in
theorem yr1s_9 : j_code jP 61 9 = some (.aload_n 1) := rfl
set_option maxRecDepth 100000 in
theorem yr1s_10 : j_code jP 61 10 = some (.getfield 68) := rfl
set_option maxRecDepth 100000 in
theorem yr1s_13 : j_code jP 61 13 = some (.putfield 68) := rfl
set_option maxRecDepth 100000 in
theorem yr1s_16 : j_code jP 61 16 = some (.aload_n 0) := rfl
set_option maxRecDepth 100000 in
theorem yr1s_17 : j_code jP 61 17 = some (.aload_n 1) := rfl
set_option maxRecDepth 100000 in
theorem yr1s_18 : j_code jP 61 18 = some (.getfield 72) := rfl
set_option maxRecDepth 100000 in
theorem yr1s_21 : j_code jP 61 21 = some (.putfield 72) := rfl
set_option maxRecDepth 100000 in
theorem yr1s_24 : j_code jP 61 24 = some (.aload_n 0) := rfl
set_option maxRecDepth 100000 in
theorem yr1s_25 : j_code jP 61 25 = some (.aload_n 1) := rfl
set_option maxRecDepth 100000 in
theorem yr1s_26 : j_code jP 61 26 = some (.getfield 75) := rfl
set_option maxRecDepth 100000 in
theorem yr1s_29 : j_code jP 61 29 = some (.putfield 75) := rfl
set_option maxRecDepth 100000 in
theorem yr1s_32 : j_code jP 61 32 = some (.aload_n 0) := rfl
set_option maxRecDepth 100000 in
theorem yr1s_33 : j_code jP 61 33 = some (.aload_n 1) := rfl
set_option maxRecDepth 100000 in
theorem yr1s_34 : j_code jP 61 34 = some (.getfield 78) := rfl
set_option maxRecDepth 100000 in
theorem yr1s_37 : j_code jP 61 37 = some (.putfield 78) := rfl
set_option maxRecDepth 100000 in
theorem yr1s_40 : j_code jP 61 40 = some (.aload_n 1) := rfl
set_option maxRecDepth 100000 in
theorem yr1s_41 : j_code jP 61 41 = some (.getfield 9) := rfl
set_option maxRecDepth 100000 in
theorem yr1s_44 : j_code jP 61 44 = some (.iconst 0) := rfl
set_option maxRecDepth 100000 in
theorem yr1s_45 : j_code jP 61 45 = some (.aload_n 0) := rfl
set_option maxRecDepth 100000 in
theorem yr1s_46 : j_code jP 61 46 = some (.getfield 9) := rfl
set_option maxRecDepth 100000 in
theorem yr1s_49 : j_code jP 61 49 = some (.iconst 0) := rfl
set_option maxRecDepth 100000 in
theorem yr1s_50 : j_code jP 61 50 = some (.iconst 5) := rfl
set_option maxRecDepth 100000 in
theorem yr1s_51 : j_code jP 61 51 = some (.invokestatic 84) := rfl
set_option maxRecDepth 100000 in
theorem yr1s_54 : j_code jP 61 54 = some (.aload_n 1) := rfl
set_option maxRecDepth 100000 in
theorem yr1s_55 : j_code jP 61 55 = some (.getfield 15) := rfl
set_option maxRecDepth 100000 in
theorem yr1s_58 : j_code jP 61 58 = some (.iconst 0) := rfl
set_option maxRecDepth 100000 in
theorem yr1s_59 : j_code jP 61 59 = some (.aload_n 0) := rfl
set_option maxRecDepth 100000 in
theorem yr1s_60 : j_code jP 61 60 = some (.getfield 15) := rfl
set_option maxRecDepth 100000 in
theorem yr1s_63 : j_code jP 61 63 = some (.iconst 0) := rfl
set_option maxRecDepth 100000 in
theorem yr1s_64 : j_code jP 61 64 = some (.iconst 5) := rfl
set_option maxRecDepth 100000 in
theorem yr1s_65 : j_code jP 61 65 = some (.invokestatic 84) := rfl
set_option maxRecDepth 100000 in
theorem yr1s_68 : j_code jP 61 68 = some (.aload_n 1) := rfl
set_option maxRecDepth 100000 in
theorem yr1s_69 : j_code jP 61 69 = some (.getfield 18) := rfl
set_option maxRecDepth 100000 in
theorem yr1s_72 : j_code jP 61 72 = some (.iconst 0) := rfl
set_option maxRecDepth 100000 in
theorem yr1s_73 : j_code jP 61 73 = some (.aload_n 0) := rfl
set_option maxRecDepth 100000 in
theorem yr1s_74 : j_code jP 61 74 = some (.getfield 18) := rfl
set_option maxRecDepth 100000 in
theorem yr1s_77 : j_code jP 61 77 = some (.iconst 0) := rfl
set_option maxRecDepth 100000 in
theorem yr1s_78 : j_code jP 61 78 = some (.iconst 5) := rfl
set_option maxRecDepth 100000 in
theorem yr1s_79 : j_code jP 61 79 = some (.invokestatic 84) := rfl
set_option maxRecDepth 100000 in
theorem yr1s_82 : j_code jP 61 82 = some (.aload_n 1) := rfl
set_option maxRecDepth 100000 in
theorem yr1s_83 : j_code jP 61 83 = some (.getfield 21) := rfl
set_option maxRecDepth 100000 in
theorem yr1s_86 : j_code jP 61 86 = some (.iconst 0) := rfl
set_option maxRecDepth 100000 in
theorem yr1s_87 : j_code jP 61 87 = some (.aload_n 0) := rfl
set_option maxRecDepth 100000 in
theorem yr1s_88 : j_code jP 61 88 = some (.getfield 21) := rfl
set_option maxRecDepth 100000 in
theorem yr1s_91 : j_code jP 61 91 = some (.iconst 0) := rfl
set_option maxRecDepth 100000 in
theorem yr1s_92 : j_code jP 61 92 = some (.iconst 5) := rfl
set_option maxRecDepth 100000 in
theorem yr1s_93 : j_code jP 61 93 = some (.invokestatic 84) := rfl
set_option maxRecDepth 100000 in
theorem yr1s_96 : j_code jP 61 96 = some (.aload_n 1) := rfl
set_option maxRecDepth 100000 in
theorem yr1s_97 : j_code jP 61 97 = some (.getfield 24) := rfl
set_option maxRecDepth 100000 in
theorem yr1s_100 : j_code jP 61 100 = some (.iconst 0) := rfl
set_option maxRecDepth 100000 in
theorem yr1s_101 : j_code jP 61 101 = some (.aload_n 0) := rfl
set_option maxRecDepth 100000 in
theorem yr1s_102 : j_code jP 61 102 = some (.getfield 24) := rfl
set_option maxRecDepth 100000 in
theorem yr1s_105 : j_code jP 61 105 = some (.iconst 0) := rfl
set_option maxRecDepth 100000 in
theorem yr1s_106 : j_code jP 61 106 = some (.iconst 5) := rfl
set_option maxRecDepth 100000 in
theorem yr1s_107 : j_code jP 61 107 = some (.invokestatic 84) := rfl
set_option maxRecDepth 100000 in
theorem yr1s_110 : j_code jP 61 110 = some (.aload_n 1) := rfl
set_option maxRecDepth 100000 in
theorem yr1s_111 : j_code jP 61 111 = some (.getfield 27) := rfl
set_option maxRecDepth 100000 in
theorem yr1s_114 : j_code jP 61 114 = some (.iconst 0) := rfl
set_option maxRecDepth 100000 in
theorem yr1s_115 : j_code jP 61 115 = some (.aload_n 0) := rfl
set_option maxRecDepth 100000 in
theorem yr1s_116 : j_code jP 61 116 = some (.getfield 27) := rfl
set_option maxRecDepth 100000 in
theorem yr1s_119 : j_code jP 61 119 = some (.iconst 0) := rfl
set_option maxRecDepth 100000 in
theorem yr1s_120 : j_code jP 61 120 = some (.iconst 5) := rfl
set_option maxRecDepth 100000 in
theorem yr1s_121 : j_code jP 61 121 = some (.invokestatic 84) := rfl
set_option maxRecDepth 100000 in
theorem yr1s_124 : j_code jP 61 124 = some (.aload_n 1) := rfl
set_option maxRecDepth 100000 in
theorem yr1s_125 : j_code jP 61 125 = some (.getfield 30) := rfl
set_option maxRecDepth 100000 in
theorem yr1s_128 : j_code jP 61 128 = some (.iconst 0) := rfl
set_option maxRecDepth 100000 in
theorem yr1s_129 : j_code jP 61 129 = some (.aload_n 0) := rfl
set_option maxRecDepth 100000 in
theorem yr1s_130 : j_code jP 61 130 = some (.getfield 30) := rfl
set_option maxRecDepth 100000 in
theorem yr1s_133 : j_code jP 61 133 = some (.iconst 0) := rfl
set_option maxRecDepth 100000 in
theorem yr1s_134 : j_code jP 61 134 = some (.iconst 5) := rfl
set_option maxRecDepth 100000 in
theorem yr1s_135 : j_code jP 61 135 = some (.invokestatic 84) := rfl
set_option maxRecDepth 100000 in
theorem yr1s_138 : j_code jP 61 138 = some (.aload_n 1) := rfl
set_option maxRecDepth 100000 in
theorem yr1s_139 : j_code jP 61 139 = some (.getfield 33) := rfl
set_option maxRecDepth 100000 in
theorem yr1s_142 : j_code jP 61 142 = some (.iconst 0) := rfl
set_option maxRecDepth 100000 in
theorem yr1s_143 : j_code jP 61 143 = some (.aload_n 0) := rfl
set_option maxRecDepth 100000 in
theorem yr1s_144 : j_code jP 61 144 = some (.getfield 33) := rfl
set_option maxRecDepth 100000 in
theorem yr1s_147 : j_code jP 61 147 = some (.iconst 0) := rfl
set_option maxRecDepth 100000 in
theorem yr1s_148 : j_code jP 61 148 = some (.bipush 6) := rfl
set_option maxRecDepth 100000 in
theorem yr1s_150 : j_code jP 61 150 = some (.invokestatic 84) := rfl
set_option maxRecDepth 100000 in
theorem yr1s_153 : j_code jP 61 153 = some (.aload_n 1) := rfl
set_option maxRecDepth 100000 in
theorem yr1s_154 : j_code jP 61 154 = some (.getfield 36) := rfl
set_option maxRecDepth 100000 in
theorem yr1s_157 : j_code jP 61 157 = some (.iconst 0) := rfl
set_option maxRecDepth 100000 in
theorem yr1s_158 : j_code jP 61 158 = some (.aload_n 0) := rfl
set_option maxRecDepth 100000 in
theorem yr1s_159 : j_code jP 61 159 = some (.getfield 36) := rfl
set_option maxRecDepth 100000 in
theorem yr1s_162 : j_code jP 61 162 = some (.iconst 0) := rfl
set_option maxRecDepth 100000 in
theorem yr1s_163 : j_code jP 61 163 = some (.bipush 6) := rfl
set_option maxRecDepth 100000 in
theorem yr1s_165 : j_code jP 61 165 = some (.invokestatic 84) := rfl
set_option maxRecDepth 100000 in
theorem yr1s_168 : j_code jP 61 168 = some (.aload_n 1) := rfl
set_option maxRecDepth 100000 in
theorem yr1s_169 : j_code jP 61 169 = some (.getfield 39) := rfl
set_option maxRecDepth 100000 in
theorem yr1s_172 : j_code jP 61 172 = some (.iconst 0) := rfl
set_option maxRecDepth 100000 in
theorem yr1s_173 : j_code jP 61 173 = some (.aload_n 0) := rfl
set_option maxRecDepth 100000 in
theorem yr1s_174 : j_code jP 61 174 = some (.getfield 39) := rfl
set_option maxRecDepth 100000 in
theorem yr1s_177 : j_code jP 61 177 = some (.iconst 0) := rfl
set_option maxRecDepth 100000 in
theorem yr1s_178 : j_code jP 61 178 = some (.aload_n 0) := rfl
set_option maxRecDepth 100000 in
theorem yr1s_179 : j_code jP 61 179 = some (.getfield 39) := rfl
set_option maxRecDepth 100000 in
theorem yr1s_182 : j_code jP 61 182 = some (.arraylength) := rfl
set_option maxRecDepth 100000 in
theorem yr1s_183 : j_code jP 61 183 = some (.invokestatic 84) := rfl
set_option maxRecDepth 100000 in
theorem yr1s_186 : j_code jP 61 186 = some (.aload_n 1) := rfl
set_option maxRecDepth 100000 in
theorem yr1s_187 : j_code jP 61 187 = some (.getfield 42) := rfl
set_option maxRecDepth 100000 in
theorem yr1s_190 : j_code jP 61 190 = some (.iconst 0) := rfl
set_option maxRecDepth 100000 in
theorem yr1s_191 : j_code jP 61 191 = some (.aload_n 0) := rfl
set_option maxRecDepth 100000 in
theorem yr1s_192 : j_code jP 61 192 = some (.getfield 42) := rfl
set_option maxRecDepth 100000 in
theorem yr1s_195 : j_code jP 61 195 = some (.iconst 0) := rfl
set_option maxRecDepth 100000 in
theorem yr1s_196 : j_code jP 61 196 = some (.aload_n 0) := rfl
set_option maxRecDepth 100000 in
theorem yr1s_197 : j_code jP 61 197 = some (.getfield 42) := rfl
set_option maxRecDepth 100000 in
theorem yr1s_200 : j_code jP 61 200 = some (.arraylength) := rfl
set_option maxRecDepth 100000 in
theorem yr1s_201 : j_code jP 61 201 = some (.invokestatic 84) := rfl
set_option maxRecDepth 100000 in
theorem yr1s_204 : j_code jP 61 204 = some (.aload_n 1) := rfl
set_option maxRecDepth 100000 in
theorem yr1s_205 : j_code jP 61 205 = some (.getfield 45) := rfl
set_option maxRecDepth 100000 in
theorem yr1s_208 : j_code jP 61 208 = some (.iconst 0) := rfl
set_option maxRecDepth 100000 in
theorem yr1s_209 : j_code jP 61 209 = some (.aload_n 0) := rfl
set_option maxRecDepth 100000 in
theorem yr1s_210 : j_code jP 61 210 = some (.getfield 45) := rfl
set_option maxRecDepth 100000 in
theorem yr1s_213 : j_code jP 61 213 = some (.iconst 0) := rfl
set_option maxRecDepth 100000 in
theorem yr1s_214 : j_code jP 61 214 = some (.aload_n 0) := rfl
set_option maxRecDepth 100000 in
theorem yr1s_215 : j_code jP 61 215 = some (.getfield 45) := rfl
set_option maxRecDepth 100000 in
theorem yr1s_218 : j_code jP 61 218 = some (.arraylength) := rfl
set_option maxRecDepth 100000 in
theorem yr1s_219 : j_code jP 61 219 = some (.invokestatic 84) := rfl
set_option maxRecDepth 100000 in
theorem yr1s_222 : j_code jP 61 222 = some (.aload_n 0) := rfl
set_option maxRecDepth 100000 in
theorem yr1s_223 : j_code jP 61 223 = some (.getfield 60) := rfl
set_option maxRecDepth 100000 in
theorem yr1s_226 : j_code jP 61 226 = some (.aload_n 1) := rfl
set_option maxRecDepth 100000 in
theorem yr1s_227 : j_code jP 61 227 = some (.getfield 60) := rfl
set_option maxRecDepth 100000 in
theorem yr1s_230 : j_code jP 61 230 = some (.invokevirtual 108) := rfl
set_option maxRecDepth 100000 in
theorem yr1s_233 : j_code jP 61 233 = some (.return_) := rfl
set_option maxRecDepth 1000000 in
theorem yr1s_k0 {ly : Value} {mi : Int32} {shu : Int32} {bus : Int32} {lks : Int32} {lys : Nat} {mis : Int32} {shus : Int32} {buss : Int32} {lkss : Int32} {d : Nat} {lv : J_L} {h h0 : J_H} {Q : Option Value → J_H → Prop} (L : LK lv [(0, .ref 56), (1, .ref 4)]) (K : KN h [(4, .inl (7, [.ref lys, .int mis, .int shus, .int buss, .ref 5, .ref 6, .ref 7, .ref 8, .ref 9, .ref 10, .ref 11, .ref 12, .ref 13, .ref 14, .ref 15, .int lkss, .ref 16, .ref 17, .ref 20])), (56, .inl (7, [ly, .int mi, .int shu, .int bus, .ref 57, .ref 58, .ref 59, .ref 60, .ref 61, .ref 62, .ref 63, .ref 64, .ref 65, .ref 66, .ref 67, .int lks, .ref 68, .ref 69, .ref 72]))] h0) (kk : ∀ lv h, LK lv [(0, .ref 56), (1, .ref 4)] → KN h [(4, .inl (7, [.ref lys, .int mis, .int shus, .int buss, .ref 5, .ref 6, .ref 7, .ref 8, .ref 9, .ref 10, .ref 11, .ref 12, .ref 13, .ref 14, .ref 15, .int lkss, .ref 16, .ref 17, .ref 20])), (56, .inl (7, [.ref lys, .int mis, .int shus, .int buss, .ref 57, .ref 58, .ref 59, .ref 60, .ref 61, .ref 62, .ref 63, .ref 64, .ref 65, .ref 66, .ref 67, .int lkss, .ref 68, .ref 69, .ref 72]))] h0 → j_V jP d 61 40 lv [] h Q) : j_V jP d 61 0 lv [] h Q := by
  refine j_V.ldL yr1s_M yr1s_0 rfl (i := 0) (kd := 2) (v := .ref 56) (pcJ := 1) rfl L rfl rfl rfl ?_
  refine j_V.ldL yr1s_M yr1s_1 rfl (i := 1) (kd := 2) (v := .ref 4) (pcJ := 2) rfl L rfl rfl rfl ?_
  refine j_V.getK yr1s_M yr1s_2 (ci := 7) (j := 0) rfl K rfl rfl ?_
  refine j_V.putK yr1s_M yr1s_5 (ci := 7) (j := 0) (k' := [(4, .inl (7, [.ref lys, .int mis, .int shus, .int buss, .ref 5, .ref 6, .ref 7, .ref 8, .ref 9, .ref 10, .ref 11, .ref 12, .ref 13, .ref 14, .ref 15, .int lkss, .ref 16, .ref 17, .ref 20])), (56, .inl (7, [.ref lys, .int mi, .int shu, .int bus, .ref 57, .ref 58, .ref 59, .ref 60, .ref 61, .ref 62, .ref 63, .ref 64, .ref 65, .ref 66, .ref 67, .int lks, .ref 68, .ref 69, .ref 72]))]) rfl K rfl (Nat.le_of_ble_eq_true rfl) rfl (Or.inl rfl) rfl rfl (fun h K => ?_)
  refine j_V.ldL yr1s_M yr1s_8 rfl (i := 0) (kd := 2) (v := .ref 56) (pcJ := 9) rfl L rfl rfl rfl ?_
  refine j_V.ldL yr1s_M yr1s_9 rfl (i := 1) (kd := 2) (v := .ref 4) (pcJ := 10) rfl L rfl rfl rfl ?_
  refine j_V.getK yr1s_M yr1s_10 (ci := 7) (j := 1) rfl K rfl rfl ?_
  refine j_V.putK yr1s_M yr1s_13 (ci := 7) (j := 1) (k' := [(4, .inl (7, [.ref lys, .int mis, .int shus, .int buss, .ref 5, .ref 6, .ref 7, .ref 8, .ref 9, .ref 10, .ref 11, .ref 12, .ref 13, .ref 14, .ref 15, .int lkss, .ref 16, .ref 17, .ref 20])), (56, .inl (7, [.ref lys, .int mis, .int shu, .int bus, .ref 57, .ref 58, .ref 59, .ref 60, .ref 61, .ref 62, .ref 63, .ref 64, .ref 65, .ref 66, .ref 67, .int lks, .ref 68, .ref 69, .ref 72]))]) rfl K rfl (Nat.le_of_ble_eq_true rfl) rfl (Or.inl rfl) rfl rfl (fun h K => ?_)
  refine j_V.ldL yr1s_M yr1s_16 rfl (i := 0) (kd := 2) (v := .ref 56) (pcJ := 17) rfl L rfl rfl rfl ?_
  refine j_V.ldL yr1s_M yr1s_17 rfl (i := 1) (kd := 2) (v := .ref 4) (pcJ := 18) rfl L rfl rfl rfl ?_
  refine j_V.getK yr1s_M yr1s_18 (ci := 7) (j := 2) rfl K rfl rfl ?_
  refine j_V.putK yr1s_M yr1s_21 (ci := 7) (j := 2) (k' := [(4, .inl (7, [.ref lys, .int mis, .int shus, .int buss, .ref 5, .ref 6, .ref 7, .ref 8, .ref 9, .ref 10, .ref 11, .ref 12, .ref 13, .ref 14, .ref 15, .int lkss, .ref 16, .ref 17, .ref 20])), (56, .inl (7, [.ref lys, .int mis, .int shus, .int bus, .ref 57, .ref 58, .ref 59, .ref 60, .ref 61, .ref 62, .ref 63, .ref 64, .ref 65, .ref 66, .ref 67, .int lks, .ref 68, .ref 69, .ref 72]))]) rfl K rfl (Nat.le_of_ble_eq_true rfl) rfl (Or.inl rfl) rfl rfl (fun h K => ?_)
  refine j_V.ldL yr1s_M yr1s_24 rfl (i := 0) (kd := 2) (v := .ref 56) (pcJ := 25) rfl L rfl rfl rfl ?_
  refine j_V.ldL yr1s_M yr1s_25 rfl (i := 1) (kd := 2) (v := .ref 4) (pcJ := 26) rfl L rfl rfl rfl ?_
  refine j_V.getK yr1s_M yr1s_26 (ci := 7) (j := 3) rfl K rfl rfl ?_
  refine j_V.putK yr1s_M yr1s_29 (ci := 7) (j := 3) (k' := [(4, .inl (7, [.ref lys, .int mis, .int shus, .int buss, .ref 5, .ref 6, .ref 7, .ref 8, .ref 9, .ref 10, .ref 11, .ref 12, .ref 13, .ref 14, .ref 15, .int lkss, .ref 16, .ref 17, .ref 20])), (56, .inl (7, [.ref lys, .int mis, .int shus, .int buss, .ref 57, .ref 58, .ref 59, .ref 60, .ref 61, .ref 62, .ref 63, .ref 64, .ref 65, .ref 66, .ref 67, .int lks, .ref 68, .ref 69, .ref 72]))]) rfl K rfl (Nat.le_of_ble_eq_true rfl) rfl (Or.inl rfl) rfl rfl (fun h K => ?_)
  refine j_V.ldL yr1s_M yr1s_32 rfl (i := 0) (kd := 2) (v := .ref 56) (pcJ := 33) rfl L rfl rfl rfl ?_
  refine j_V.ldL yr1s_M yr1s_33 rfl (i := 1) (kd := 2) (v := .ref 4) (pcJ := 34) rfl L rfl rfl rfl ?_
  refine j_V.getK yr1s_M yr1s_34 (ci := 7) (j := 15) rfl K rfl rfl ?_
  refine j_V.putK yr1s_M yr1s_37 (ci := 7) (j := 15) (k' := [(4, .inl (7, [.ref lys, .int mis, .int shus, .int buss, .ref 5, .ref 6, .ref 7, .ref 8, .ref 9, .ref 10, .ref 11, .ref 12, .ref 13, .ref 14, .ref 15, .int lkss, .ref 16, .ref 17, .ref 20])), (56, .inl (7, [.ref lys, .int mis, .int shus, .int buss, .ref 57, .ref 58, .ref 59, .ref 60, .ref 61, .ref 62, .ref 63, .ref 64, .ref 65, .ref 66, .ref 67, .int lkss, .ref 68, .ref 69, .ref 72]))]) rfl K rfl (Nat.le_of_ble_eq_true rfl) rfl (Or.inl rfl) rfl rfl (fun h K => ?_)
  exact kk _ _ L K
set_option maxRecDepth 1000000 in
theorem yr1s_k40 {rk : List Int32} {sta : List Int32} {ph : List Int32} {lys : Nat} {mis : Int32} {shus : Int32} {buss : Int32} {lkss : Int32} {rks : List Int32} {stas : List Int32} {phs : List Int32} {d : Nat} {lv : J_L} {h h0 : J_H} {Q : Option Value → J_H → Prop} (L : LK lv [(0, .ref 56), (1, .ref 4)]) (K : KN h [(4, .inl (7, [.ref lys, .int mis, .int shus, .int buss, .ref 5, .ref 6, .ref 7, .ref 8, .ref 9, .ref 10, .ref 11, .ref 12, .ref 13, .ref 14, .ref 15, .int lkss, .ref 16, .ref 17, .ref 20])), (5, .inr (.inl (0, rks))), (6, .inr (.inl (0, stas))), (7, .inr (.inl (0, phs))), (56, .inl (7, [.ref lys, .int mis, .int shus, .int buss, .ref 57, .ref 58, .ref 59, .ref 60, .ref 61, .ref 62, .ref 63, .ref 64, .ref 65, .ref 66, .ref 67, .int lkss, .ref 68, .ref 69, .ref 72])), (57, .inr (.inl (0, rk))), (58, .inr (.inl (0, sta))), (59, .inr (.inl (0, ph)))] h0) (kk : ∀ lv h, LK lv [(0, .ref 56), (1, .ref 4)] → KN h [(4, .inl (7, [.ref lys, .int mis, .int shus, .int buss, .ref 5, .ref 6, .ref 7, .ref 8, .ref 9, .ref 10, .ref 11, .ref 12, .ref 13, .ref 14, .ref 15, .int lkss, .ref 16, .ref 17, .ref 20])), (5, .inr (.inl (0, rks))), (6, .inr (.inl (0, stas))), (7, .inr (.inl (0, phs))), (56, .inl (7, [.ref lys, .int mis, .int shus, .int buss, .ref 57, .ref 58, .ref 59, .ref 60, .ref 61, .ref 62, .ref 63, .ref 64, .ref 65, .ref 66, .ref 67, .int lkss, .ref 68, .ref 69, .ref 72])), (57, .inr (.inl (0, (aC 5 rks rk)))), (58, .inr (.inl (0, (aC 5 stas sta)))), (59, .inr (.inl (0, (aC 5 phs ph))))] h0 → j_V jP d 61 82 lv [] h Q) : j_V jP d 61 40 lv [] h Q := by
  refine j_V.ldL yr1s_M yr1s_40 rfl (i := 1) (kd := 2) (v := .ref 4) (pcJ := 41) rfl L rfl rfl rfl ?_
  refine j_V.getK yr1s_M yr1s_41 (ci := 7) (j := 4) rfl K rfl rfl ?_
  refine j_V.one yr1s_M yr1s_44 (by decide) (pcJ := 45) (stJ := [.int 0, .ref 5]) rfl ?_
  refine j_V.ldL yr1s_M yr1s_45 rfl (i := 0) (kd := 2) (v := .ref 56) (pcJ := 46) rfl L rfl rfl rfl ?_
  refine j_V.getK yr1s_M yr1s_46 (ci := 7) (j := 4) rfl K rfl rfl ?_
  refine j_V.one yr1s_M yr1s_49 (by decide) (pcJ := 50) (stJ := [.int 0, .ref 57, .int 0, .ref 5]) rfl ?_
  refine j_V.one yr1s_M yr1s_50 (by decide) (pcJ := 51) (stJ := [.int 5, .int 0, .ref 57, .int 0, .ref 5]) rfl ?_
  refine j_V.acp yr1s_M yr1s_51 rfl rfl K rfl rfl rfl (fun h K => ?_)
  refine j_V.ldL yr1s_M yr1s_54 rfl (i := 1) (kd := 2) (v := .ref 4) (pcJ := 55) rfl L rfl rfl rfl ?_
  refine j_V.getK yr1s_M yr1s_55 (ci := 7) (j := 5) rfl K rfl rfl ?_
  refine j_V.one yr1s_M yr1s_58 (by decide) (pcJ := 59) (stJ := [.int 0, .ref 6]) rfl ?_
  refine j_V.ldL yr1s_M yr1s_59 rfl (i := 0) (kd := 2) (v := .ref 56) (pcJ := 60) rfl L rfl rfl rfl ?_
  refine j_V.getK yr1s_M yr1s_60 (ci := 7) (j := 5) rfl K rfl rfl ?_
  refine j_V.one yr1s_M yr1s_63 (by decide) (pcJ := 64) (stJ := [.int 0, .ref 58, .int 0, .ref 6]) rfl ?_
  refine j_V.one yr1s_M yr1s_64 (by decide) (pcJ := 65) (stJ := [.int 5, .int 0, .ref 58, .int 0, .ref 6]) rfl ?_
  refine j_V.acp yr1s_M yr1s_65 rfl rfl K rfl rfl rfl (fun h K => ?_)
  refine j_V.ldL yr1s_M yr1s_68 rfl (i := 1) (kd := 2) (v := .ref 4) (pcJ := 69) rfl L rfl rfl rfl ?_
  refine j_V.getK yr1s_M yr1s_69 (ci := 7) (j := 6) rfl K rfl rfl ?_
  refine j_V.one yr1s_M yr1s_72 (by decide) (pcJ := 73) (stJ := [.int 0, .ref 7]) rfl ?_
  refine j_V.ldL yr1s_M yr1s_73 rfl (i := 0) (kd := 2) (v := .ref 56) (pcJ := 74) rfl L rfl rfl rfl ?_
  refine j_V.getK yr1s_M yr1s_74 (ci := 7) (j := 6) rfl K rfl rfl ?_
  refine j_V.one yr1s_M yr1s_77 (by decide) (pcJ := 78) (stJ := [.int 0, .ref 59, .int 0, .ref 7]) rfl ?_
  refine j_V.one yr1s_M yr1s_78 (by decide) (pcJ := 79) (stJ := [.int 5, .int 0, .ref 59, .int 0, .ref 7]) rfl ?_
  refine j_V.acp yr1s_M yr1s_79 rfl rfl K rfl rfl rfl (fun h K => ?_)
  exact kk _ _ L K
set_option maxRecDepth 1000000 in
theorem yr1s_k82 {sp : List Int32} {ce : List Int32} {du : List Int32} {lys : Nat} {mis : Int32} {shus : Int32} {buss : Int32} {lkss : Int32} {sps : List Int32} {ces : List Int32} {dus : List Int32} {d : Nat} {lv : J_L} {h h0 : J_H} {Q : Option Value → J_H → Prop} (L : LK lv [(0, .ref 56), (1, .ref 4)]) (K : KN h [(4, .inl (7, [.ref lys, .int mis, .int shus, .int buss, .ref 5, .ref 6, .ref 7, .ref 8, .ref 9, .ref 10, .ref 11, .ref 12, .ref 13, .ref 14, .ref 15, .int lkss, .ref 16, .ref 17, .ref 20])), (8, .inr (.inl (0, sps))), (9, .inr (.inl (0, ces))), (10, .inr (.inl (0, dus))), (56, .inl (7, [.ref lys, .int mis, .int shus, .int buss, .ref 57, .ref 58, .ref 59, .ref 60, .ref 61, .ref 62, .ref 63, .ref 64, .ref 65, .ref 66, .ref 67, .int lkss, .ref 68, .ref 69, .ref 72])), (60, .inr (.inl (0, sp))), (61, .inr (.inl (0, ce))), (62, .inr (.inl (0, du)))] h0) (kk : ∀ lv h, LK lv [(0, .ref 56), (1, .ref 4)] → KN h [(4, .inl (7, [.ref lys, .int mis, .int shus, .int buss, .ref 5, .ref 6, .ref 7, .ref 8, .ref 9, .ref 10, .ref 11, .ref 12, .ref 13, .ref 14, .ref 15, .int lkss, .ref 16, .ref 17, .ref 20])), (8, .inr (.inl (0, sps))), (9, .inr (.inl (0, ces))), (10, .inr (.inl (0, dus))), (56, .inl (7, [.ref lys, .int mis, .int shus, .int buss, .ref 57, .ref 58, .ref 59, .ref 60, .ref 61, .ref 62, .ref 63, .ref 64, .ref 65, .ref 66, .ref 67, .int lkss, .ref 68, .ref 69, .ref 72])), (60, .inr (.inl (0, (aC 5 sps sp)))), (61, .inr (.inl (0, (aC 5 ces ce)))), (62, .inr (.inl (0, (aC 5 dus du))))] h0 → j_V jP d 61 124 lv [] h Q) : j_V jP d 61 82 lv [] h Q := by
  refine j_V.ldL yr1s_M yr1s_82 rfl (i := 1) (kd := 2) (v := .ref 4) (pcJ := 83) rfl L rfl rfl rfl ?_
  refine j_V.getK yr1s_M yr1s_83 (ci := 7) (j := 7) rfl K rfl rfl ?_
  refine j_V.one yr1s_M yr1s_86 (by decide) (pcJ := 87) (stJ := [.int 0, .ref 8]) rfl ?_
  refine j_V.ldL yr1s_M yr1s_87 rfl (i := 0) (kd := 2) (v := .ref 56) (pcJ := 88) rfl L rfl rfl rfl ?_
  refine j_V.getK yr1s_M yr1s_88 (ci := 7) (j := 7) rfl K rfl rfl ?_
  refine j_V.one yr1s_M yr1s_91 (by decide) (pcJ := 92) (stJ := [.int 0, .ref 60, .int 0, .ref 8]) rfl ?_
  refine j_V.one yr1s_M yr1s_92 (by decide) (pcJ := 93) (stJ := [.int 5, .int 0, .ref 60, .int 0, .ref 8]) rfl ?_
  refine j_V.acp yr1s_M yr1s_93 rfl rfl K rfl rfl rfl (fun h K => ?_)
  refine j_V.ldL yr1s_M yr1s_96 rfl (i := 1) (kd := 2) (v := .ref 4) (pcJ := 97) rfl L rfl rfl rfl ?_
  refine j_V.getK yr1s_M yr1s_97 (ci := 7) (j := 8) rfl K rfl rfl ?_
  refine j_V.one yr1s_M yr1s_100 (by decide) (pcJ := 101) (stJ := [.int 0, .ref 9]) rfl ?_
  refine j_V.ldL yr1s_M yr1s_101 rfl (i := 0) (kd := 2) (v := .ref 56) (pcJ := 102) rfl L rfl rfl rfl ?_
  refine j_V.getK yr1s_M yr1s_102 (ci := 7) (j := 8) rfl K rfl rfl ?_
  refine j_V.one yr1s_M yr1s_105 (by decide) (pcJ := 106) (stJ := [.int 0, .ref 61, .int 0, .ref 9]) rfl ?_
  refine j_V.one yr1s_M yr1s_106 (by decide) (pcJ := 107) (stJ := [.int 5, .int 0, .ref 61, .int 0, .ref 9]) rfl ?_
  refine j_V.acp yr1s_M yr1s_107 rfl rfl K rfl rfl rfl (fun h K => ?_)
  refine j_V.ldL yr1s_M yr1s_110 rfl (i := 1) (kd := 2) (v := .ref 4) (pcJ := 111) rfl L rfl rfl rfl ?_
  refine j_V.getK yr1s_M yr1s_111 (ci := 7) (j := 9) rfl K rfl rfl ?_
  refine j_V.one yr1s_M yr1s_114 (by decide) (pcJ := 115) (stJ := [.int 0, .ref 10]) rfl ?_
  refine j_V.ldL yr1s_M yr1s_115 rfl (i := 0) (kd := 2) (v := .ref 56) (pcJ := 116) rfl L rfl rfl rfl ?_
  refine j_V.getK yr1s_M yr1s_116 (ci := 7) (j := 9) rfl K rfl rfl ?_
  refine j_V.one yr1s_M yr1s_119 (by decide) (pcJ := 120) (stJ := [.int 0, .ref 62, .int 0, .ref 10]) rfl ?_
  refine j_V.one yr1s_M yr1s_120 (by decide) (pcJ := 121) (stJ := [.int 5, .int 0, .ref 62, .int 0, .ref 10]) rfl ?_
  refine j_V.acp yr1s_M yr1s_121 rfl rfl K rfl rfl rfl (fun h K => ?_)
  exact kk _ _ L K
set_option maxRecDepth 1000000 in
theorem yr1s_k124 {he : List Int32} {ri : List Int32} {us : List Int32} {lys : Nat} {mis : Int32} {shus : Int32} {buss : Int32} {lkss : Int32} {hes : List Int32} {ris : List Int32} {uss : List Int32} {d : Nat} {lv : J_L} {h h0 : J_H} {Q : Option Value → J_H → Prop} (L : LK lv [(0, .ref 56), (1, .ref 4)]) (K : KN h [(4, .inl (7, [.ref lys, .int mis, .int shus, .int buss, .ref 5, .ref 6, .ref 7, .ref 8, .ref 9, .ref 10, .ref 11, .ref 12, .ref 13, .ref 14, .ref 15, .int lkss, .ref 16, .ref 17, .ref 20])), (11, .inr (.inl (0, hes))), (12, .inr (.inl (0, ris))), (13, .inr (.inl (0, uss))), (56, .inl (7, [.ref lys, .int mis, .int shus, .int buss, .ref 57, .ref 58, .ref 59, .ref 60, .ref 61, .ref 62, .ref 63, .ref 64, .ref 65, .ref 66, .ref 67, .int lkss, .ref 68, .ref 69, .ref 72])), (63, .inr (.inl (0, he))), (64, .inr (.inl (0, ri))), (65, .inr (.inl (0, us)))] h0) (kk : ∀ lv h, LK lv [(0, .ref 56), (1, .ref 4)] → KN h [(4, .inl (7, [.ref lys, .int mis, .int shus, .int buss, .ref 5, .ref 6, .ref 7, .ref 8, .ref 9, .ref 10, .ref 11, .ref 12, .ref 13, .ref 14, .ref 15, .int lkss, .ref 16, .ref 17, .ref 20])), (11, .inr (.inl (0, hes))), (12, .inr (.inl (0, ris))), (13, .inr (.inl (0, uss))), (56, .inl (7, [.ref lys, .int mis, .int shus, .int buss, .ref 57, .ref 58, .ref 59, .ref 60, .ref 61, .ref 62, .ref 63, .ref 64, .ref 65, .ref 66, .ref 67, .int lkss, .ref 68, .ref 69, .ref 72])), (63, .inr (.inl (0, (aC 5 hes he)))), (64, .inr (.inl (0, (aC 6 ris ri)))), (65, .inr (.inl (0, (aC 6 uss us))))] h0 → j_V jP d 61 168 lv [] h Q) : j_V jP d 61 124 lv [] h Q := by
  refine j_V.ldL yr1s_M yr1s_124 rfl (i := 1) (kd := 2) (v := .ref 4) (pcJ := 125) rfl L rfl rfl rfl ?_
  refine j_V.getK yr1s_M yr1s_125 (ci := 7) (j := 10) rfl K rfl rfl ?_
  refine j_V.one yr1s_M yr1s_128 (by decide) (pcJ := 129) (stJ := [.int 0, .ref 11]) rfl ?_
  refine j_V.ldL yr1s_M yr1s_129 rfl (i := 0) (kd := 2) (v := .ref 56) (pcJ := 130) rfl L rfl rfl rfl ?_
  refine j_V.getK yr1s_M yr1s_130 (ci := 7) (j := 10) rfl K rfl rfl ?_
  refine j_V.one yr1s_M yr1s_133 (by decide) (pcJ := 134) (stJ := [.int 0, .ref 63, .int 0, .ref 11]) rfl ?_
  refine j_V.one yr1s_M yr1s_134 (by decide) (pcJ := 135) (stJ := [.int 5, .int 0, .ref 63, .int 0, .ref 11]) rfl ?_
  refine j_V.acp yr1s_M yr1s_135 rfl rfl K rfl rfl rfl (fun h K => ?_)
  refine j_V.ldL yr1s_M yr1s_138 rfl (i := 1) (kd := 2) (v := .ref 4) (pcJ := 139) rfl L rfl rfl rfl ?_
  refine j_V.getK yr1s_M yr1s_139 (ci := 7) (j := 11) rfl K rfl rfl ?_
  refine j_V.one yr1s_M yr1s_142 (by decide) (pcJ := 143) (stJ := [.int 0, .ref 12]) rfl ?_
  refine j_V.ldL yr1s_M yr1s_143 rfl (i := 0) (kd := 2) (v := .ref 56) (pcJ := 144) rfl L rfl rfl rfl ?_
  refine j_V.getK yr1s_M yr1s_144 (ci := 7) (j := 11) rfl K rfl rfl ?_
  refine j_V.one yr1s_M yr1s_147 (by decide) (pcJ := 148) (stJ := [.int 0, .ref 64, .int 0, .ref 12]) rfl ?_
  refine j_V.one yr1s_M yr1s_148 (by decide) (pcJ := 150) (stJ := [.int 6, .int 0, .ref 64, .int 0, .ref 12]) rfl ?_
  refine j_V.acp yr1s_M yr1s_150 rfl rfl K rfl rfl rfl (fun h K => ?_)
  refine j_V.ldL yr1s_M yr1s_153 rfl (i := 1) (kd := 2) (v := .ref 4) (pcJ := 154) rfl L rfl rfl rfl ?_
  refine j_V.getK yr1s_M yr1s_154 (ci := 7) (j := 12) rfl K rfl rfl ?_
  refine j_V.one yr1s_M yr1s_157 (by decide) (pcJ := 158) (stJ := [.int 0, .ref 13]) rfl ?_
  refine j_V.ldL yr1s_M yr1s_158 rfl (i := 0) (kd := 2) (v := .ref 56) (pcJ := 159) rfl L rfl rfl rfl ?_
  refine j_V.getK yr1s_M yr1s_159 (ci := 7) (j := 12) rfl K rfl rfl ?_
  refine j_V.one yr1s_M yr1s_162 (by decide) (pcJ := 163) (stJ := [.int 0, .ref 65, .int 0, .ref 13]) rfl ?_
  refine j_V.one yr1s_M yr1s_163 (by decide) (pcJ := 165) (stJ := [.int 6, .int 0, .ref 65, .int 0, .ref 13]) rfl ?_
  refine j_V.acp yr1s_M yr1s_165 rfl rfl K rfl rfl rfl (fun h K => ?_)
  exact kk _ _ L K
set_option maxRecDepth 1000000 in
theorem yr1s_k168 {cm : List Int32} {lf : List Int32} {lkd : List Int32} {lys : Nat} {mis : Int32} {shus : Int32} {buss : Int32} {lkss : Int32} {cms : List Int32} {lfs : List Int32} {lkds : List Int32} {d : Nat} {lv : J_L} {h h0 : J_H} {Q : Option Value → J_H → Prop} (L : LK lv [(0, .ref 56), (1, .ref 4)]) (K : KN h [(4, .inl (7, [.ref lys, .int mis, .int shus, .int buss, .ref 5, .ref 6, .ref 7, .ref 8, .ref 9, .ref 10, .ref 11, .ref 12, .ref 13, .ref 14, .ref 15, .int lkss, .ref 16, .ref 17, .ref 20])), (14, .inr (.inl (0, cms))), (15, .inr (.inl (0, lfs))), (16, .inr (.inl (0, lkds))), (56, .inl (7, [.ref lys, .int mis, .int shus, .int buss, .ref 57, .ref 58, .ref 59, .ref 60, .ref 61, .ref 62, .ref 63, .ref 64, .ref 65, .ref 66, .ref 67, .int lkss, .ref 68, .ref 69, .ref 72])), (66, .inr (.inl (0, cm))), (67, .inr (.inl (0, lf))), (68, .inr (.inl (0, lkd)))] h0) (kk : ∀ lv h, LK lv [(0, .ref 56), (1, .ref 4)] → KN h [(4, .inl (7, [.ref lys, .int mis, .int shus, .int buss, .ref 5, .ref 6, .ref 7, .ref 8, .ref 9, .ref 10, .ref 11, .ref 12, .ref 13, .ref 14, .ref 15, .int lkss, .ref 16, .ref 17, .ref 20])), (14, .inr (.inl (0, cms))), (15, .inr (.inl (0, lfs))), (16, .inr (.inl (0, lkds))), (56, .inl (7, [.ref lys, .int mis, .int shus, .int buss, .ref 57, .ref 58, .ref 59, .ref 60, .ref 61, .ref 62, .ref 63, .ref 64, .ref 65, .ref 66, .ref 67, .int lkss, .ref 68, .ref 69, .ref 72])), (66, .inr (.inl (0, (aC (nI cm.length) cms cm)))), (67, .inr (.inl (0, (aC (nI lf.length) lfs lf)))), (68, .inr (.inl (0, (aC (nI lkd.length) lkds lkd))))] h0 → j_V jP d 61 222 lv [] h Q) : j_V jP d 61 168 lv [] h Q := by
  refine j_V.ldL yr1s_M yr1s_168 rfl (i := 1) (kd := 2) (v := .ref 4) (pcJ := 169) rfl L rfl rfl rfl ?_
  refine j_V.getK yr1s_M yr1s_169 (ci := 7) (j := 13) rfl K rfl rfl ?_
  refine j_V.one yr1s_M yr1s_172 (by decide) (pcJ := 173) (stJ := [.int 0, .ref 14]) rfl ?_
  refine j_V.ldL yr1s_M yr1s_173 rfl (i := 0) (kd := 2) (v := .ref 56) (pcJ := 174) rfl L rfl rfl rfl ?_
  refine j_V.getK yr1s_M yr1s_174 (ci := 7) (j := 13) rfl K rfl rfl ?_
  refine j_V.one yr1s_M yr1s_177 (by decide) (pcJ := 178) (stJ := [.int 0, .ref 66, .int 0, .ref 14]) rfl ?_
  refine j_V.ldL yr1s_M yr1s_178 rfl (i := 0) (kd := 2) (v := .ref 56) (pcJ := 179) rfl L rfl rfl rfl ?_
  refine j_V.getK yr1s_M yr1s_179 (ci := 7) (j := 13) rfl K rfl rfl ?_
  refine j_V.alnA yr1s_M yr1s_182 K rfl ?_
  refine j_V.acp yr1s_M yr1s_183 rfl rfl K rfl rfl rfl (fun h K => ?_)
  refine j_V.ldL yr1s_M yr1s_186 rfl (i := 1) (kd := 2) (v := .ref 4) (pcJ := 187) rfl L rfl rfl rfl ?_
  refine j_V.getK yr1s_M yr1s_187 (ci := 7) (j := 14) rfl K rfl rfl ?_
  refine j_V.one yr1s_M yr1s_190 (by decide) (pcJ := 191) (stJ := [.int 0, .ref 15]) rfl ?_
  refine j_V.ldL yr1s_M yr1s_191 rfl (i := 0) (kd := 2) (v := .ref 56) (pcJ := 192) rfl L rfl rfl rfl ?_
  refine j_V.getK yr1s_M yr1s_192 (ci := 7) (j := 14) rfl K rfl rfl ?_
  refine j_V.one yr1s_M yr1s_195 (by decide) (pcJ := 196) (stJ := [.int 0, .ref 67, .int 0, .ref 15]) rfl ?_
  refine j_V.ldL yr1s_M yr1s_196 rfl (i := 0) (kd := 2) (v := .ref 56) (pcJ := 197) rfl L rfl rfl rfl ?_
  refine j_V.getK yr1s_M yr1s_197 (ci := 7) (j := 14) rfl K rfl rfl ?_
  refine j_V.alnA yr1s_M yr1s_200 K rfl ?_
  refine j_V.acp yr1s_M yr1s_201 rfl rfl K rfl rfl rfl (fun h K => ?_)
  refine j_V.ldL yr1s_M yr1s_204 rfl (i := 1) (kd := 2) (v := .ref 4) (pcJ := 205) rfl L rfl rfl rfl ?_
  refine j_V.getK yr1s_M yr1s_205 (ci := 7) (j := 16) rfl K rfl rfl ?_
  refine j_V.one yr1s_M yr1s_208 (by decide) (pcJ := 209) (stJ := [.int 0, .ref 16]) rfl ?_
  refine j_V.ldL yr1s_M yr1s_209 rfl (i := 0) (kd := 2) (v := .ref 56) (pcJ := 210) rfl L rfl rfl rfl ?_
  refine j_V.getK yr1s_M yr1s_210 (ci := 7) (j := 16) rfl K rfl rfl ?_
  refine j_V.one yr1s_M yr1s_213 (by decide) (pcJ := 214) (stJ := [.int 0, .ref 68, .int 0, .ref 16]) rfl ?_
  refine j_V.ldL yr1s_M yr1s_214 rfl (i := 0) (kd := 2) (v := .ref 56) (pcJ := 215) rfl L rfl rfl rfl ?_
  refine j_V.getK yr1s_M yr1s_215 (ci := 7) (j := 16) rfl K rfl rfl ?_
  refine j_V.alnA yr1s_M yr1s_218 K rfl ?_
  refine j_V.acp yr1s_M yr1s_219 rfl rfl K rfl rfl rfl (fun h K => ?_)
  exact kk _ _ L K
set_option maxRecDepth 1000000 in
theorem yr1s_ok {ly : Value} {mi : Int32} {shu : Int32} {bus : Int32} {lks : Int32} {rk : List Int32} {sta : List Int32} {ph : List Int32} {sp : List Int32} {ce : List Int32} {du : List Int32} {he : List Int32} {ri : List Int32} {us : List Int32} {cm : List Int32} {lf : List Int32} {lkd : List Int32} {pev : Int32} {pms : List Int32} {pmm : List Int32} {pmt : List Int32} {pst : List Int32} {pwa : List Int32} {prs : List Int32} {prr : List Int32} {pfa : List Int32} {lys : Nat} {mis : Int32} {shus : Int32} {buss : Int32} {lkss : Int32} {rks : List Int32} {stas : List Int32} {phs : List Int32} {sps : List Int32} {ces : List Int32} {dus : List Int32} {hes : List Int32} {ris : List Int32} {uss : List Int32} {cms : List Int32} {lfs : List Int32} {lkds : List Int32} {pevs : Int32} {pmss : List Int32} {pmms : List Int32} {pmts : List Int32} {psts : List Int32} {pwas : List Int32} {prss : List Int32} {prrs : List Int32} {pfas : List Int32} {d : Nat} {h h0 : J_H} (K : KN h [(4, .inl (7, [.ref lys, .int mis, .int shus, .int buss, .ref 5, .ref 6, .ref 7, .ref 8, .ref 9, .ref 10, .ref 11, .ref 12, .ref 13, .ref 14, .ref 15, .int lkss, .ref 16, .ref 17, .ref 20])), (5, .inr (.inl (0, rks))), (6, .inr (.inl (0, stas))), (7, .inr (.inl (0, phs))), (8, .inr (.inl (0, sps))), (9, .inr (.inl (0, ces))), (10, .inr (.inl (0, dus))), (11, .inr (.inl (0, hes))), (12, .inr (.inl (0, ris))), (13, .inr (.inl (0, uss))), (14, .inr (.inl (0, cms))), (15, .inr (.inl (0, lfs))), (16, .inr (.inl (0, lkds))), (20, .inl (3, [.ref 21, .ref 22, .ref 23, .ref 24, .ref 25, .ref 26, .ref 27, .ref 28, .int pevs, .int 1])), (21, .inr (.inl (0, pmss))), (22, .inr (.inl (0, pmms))), (23, .inr (.inl (0, pmts))), (24, .inr (.inl (0, psts))), (25, .inr (.inl (0, pwas))), (26, .inr (.inl (0, prss))), (27, .inr (.inl (0, prrs))), (28, .inr (.inl (0, pfas))), (56, .inl (7, [ly, .int mi, .int shu, .int bus, .ref 57, .ref 58, .ref 59, .ref 60, .ref 61, .ref 62, .ref 63, .ref 64, .ref 65, .ref 66, .ref 67, .int lks, .ref 68, .ref 69, .ref 72])), (57, .inr (.inl (0, rk))), (58, .inr (.inl (0, sta))), (59, .inr (.inl (0, ph))), (60, .inr (.inl (0, sp))), (61, .inr (.inl (0, ce))), (62, .inr (.inl (0, du))), (63, .inr (.inl (0, he))), (64, .inr (.inl (0, ri))), (65, .inr (.inl (0, us))), (66, .inr (.inl (0, cm))), (67, .inr (.inl (0, lf))), (68, .inr (.inl (0, lkd))), (72, .inl (3, [.ref 73, .ref 74, .ref 75, .ref 76, .ref 77, .ref 78, .ref 79, .ref 80, .int pev, .int 1])), (73, .inr (.inl (0, pms))), (74, .inr (.inl (0, pmm))), (75, .inr (.inl (0, pmt))), (76, .inr (.inl (0, pst))), (77, .inr (.inl (0, pwa))), (78, .inr (.inl (0, prs))), (79, .inr (.inl (0, prr))), (80, .inr (.inl (0, pfa)))] h0) : j_V jP d 61 0 (lv_args 0 [.ref 56, .ref 4]) [] h (fun rv h' => rv = none ∧ KN h' [(4, .inl (7, [.ref lys, .int mis, .int shus, .int buss, .ref 5, .ref 6, .ref 7, .ref 8, .ref 9, .ref 10, .ref 11, .ref 12, .ref 13, .ref 14, .ref 15, .int lkss, .ref 16, .ref 17, .ref 20])), (5, .inr (.inl (0, rks))), (6, .inr (.inl (0, stas))), (7, .inr (.inl (0, phs))), (8, .inr (.inl (0, sps))), (9, .inr (.inl (0, ces))), (10, .inr (.inl (0, dus))), (11, .inr (.inl (0, hes))), (12, .inr (.inl (0, ris))), (13, .inr (.inl (0, uss))), (14, .inr (.inl (0, cms))), (15, .inr (.inl (0, lfs))), (16, .inr (.inl (0, lkds))), (20, .inl (3, [.ref 21, .ref 22, .ref 23, .ref 24, .ref 25, .ref 26, .ref 27, .ref 28, .int pevs, .int 1])), (21, .inr (.inl (0, pmss))), (22, .inr (.inl (0, pmms))), (23, .inr (.inl (0, pmts))), (24, .inr (.inl (0, psts))), (25, .inr (.inl (0, pwas))), (26, .inr (.inl (0, prss))), (27, .inr (.inl (0, prrs))), (28, .inr (.inl (0, pfas))), (56, .inl (7, [.ref lys, .int mis, .int shus, .int buss, .ref 57, .ref 58, .ref 59, .ref 60, .ref 61, .ref 62, .ref 63, .ref 64, .ref 65, .ref 66, .ref 67, .int lkss, .ref 68, .ref 69, .ref 72])), (57, .inr (.inl (0, (aC 5 rks rk)))), (58, .inr (.inl (0, (aC 5 stas sta)))), (59, .inr (.inl (0, (aC 5 phs ph)))), (60, .inr (.inl (0, (aC 5 sps sp)))), (61, .inr (.inl (0, (aC 5 ces ce)))), (62, .inr (.inl (0, (aC 5 dus du)))), (63, .inr (.inl (0, (aC 5 hes he)))), (64, .inr (.inl (0, (aC 6 ris ri)))), (65, .inr (.inl (0, (aC 6 uss us)))), (66, .inr (.inl (0, (aC (nI cm.length) cms cm)))), (67, .inr (.inl (0, (aC (nI lf.length) lfs lf)))), (68, .inr (.inl (0, (aC (nI lkd.length) lkds lkd)))), (72, .inl (3, [.ref 73, .ref 74, .ref 75, .ref 76, .ref 77, .ref 78, .ref 79, .ref 80, .int pevs, .int 1])), (73, .inr (.inl (0, (aC (nI pms.length) pmss pms)))), (74, .inr (.inl (0, (aC (nI pmm.length) pmms pmm)))), (75, .inr (.inl (0, (aC (nI pmt.length) pmts pmt)))), (76, .inr (.inl (0, (aC (nI pst.length) psts pst)))), (77, .inr (.inl (0, (aC (nI pwa.length) pwas pwa)))), (78, .inr (.inl (0, (aC (nI prs.length) prss prs)))), (79, .inr (.inl (0, (aC (nI prr.length) prrs prr)))), (80, .inr (.inl (0, (aC (nI pfa.length) pfas pfa))))] h0) := by
  show j_V jP d 61 0 [(0, .ref 56), (1, .ref 4)] [] h _
  obtain ⟨lv, elv, L⟩ : ∃ lv, lv = [(0, .ref 56), (1, .ref 4)] ∧ LK lv [(0, .ref 56), (1, .ref 4)] := ⟨_, rfl, LK.rf⟩
  rw [← elv]
  clear elv
  refine yr1s_k0 L (K.fi [4, 56] rfl rfl) (fun lv h9 L K9 => ?_)
  have K : KN h9 [(4, .inl (7, [.ref lys, .int mis, .int shus, .int buss, .ref 5, .ref 6, .ref 7, .ref 8, .ref 9, .ref 10, .ref 11, .ref 12, .ref 13, .ref 14, .ref 15, .int lkss, .ref 16, .ref 17, .ref 20])), (5, .inr (.inl (0, rks))), (6, .inr (.inl (0, stas))), (7, .inr (.inl (0, phs))), (8, .inr (.inl (0, sps))), (9, .inr (.inl (0, ces))), (10, .inr (.inl (0, dus))), (11, .inr (.inl (0, hes))), (12, .inr (.inl (0, ris))), (13, .inr (.inl (0, uss))), (14, .inr (.inl (0, cms))), (15, .inr (.inl (0, lfs))), (16, .inr (.inl (0, lkds))), (20, .inl (3, [.ref 21, .ref 22, .ref 23, .ref 24, .ref 25, .ref 26, .ref 27, .ref 28, .int pevs, .int 1])), (21, .inr (.inl (0, pmss))), (22, .inr (.inl (0, pmms))), (23, .inr (.inl (0, pmts))), (24, .inr (.inl (0, psts))), (25, .inr (.inl (0, pwas))), (26, .inr (.inl (0, prss))), (27, .inr (.inl (0, prrs))), (28, .inr (.inl (0, pfas))), (56, .inl (7, [.ref lys, .int mis, .int shus, .int buss, .ref 57, .ref 58, .ref 59, .ref 60, .ref 61, .ref 62, .ref 63, .ref 64, .ref 65, .ref 66, .ref 67, .int lkss, .ref 68, .ref 69, .ref 72])), (57, .inr (.inl (0, rk))), (58, .inr (.inl (0, sta))), (59, .inr (.inl (0, ph))), (60, .inr (.inl (0, sp))), (61, .inr (.inl (0, ce))), (62, .inr (.inl (0, du))), (63, .inr (.inl (0, he))), (64, .inr (.inl (0, ri))), (65, .inr (.inl (0, us))), (66, .inr (.inl (0, cm))), (67, .inr (.inl (0, lf))), (68, .inr (.inl (0, lkd))), (72, .inl (3, [.ref 73, .ref 74, .ref 75, .ref 76, .ref 77, .ref 78, .ref 79, .ref 80, .int pev, .int 1])), (73, .inr (.inl (0, pms))), (74, .inr (.inl (0, pmm))), (75, .inr (.inl (0, pmt))), (76, .inr (.inl (0, pst))), (77, .inr (.inl (0, pwa))), (78, .inr (.inl (0, prs))), (79, .inr (.inl (0, prr))), (80, .inr (.inl (0, pfa)))] h0 := K.mg K9 rfl rfl
  clear K9
  refine yr1s_k40 L (K.fi [4, 5, 6, 7, 56, 57, 58, 59] rfl rfl) (fun lv h9 L K9 => ?_)
  have K : KN h9 [(4, .inl (7, [.ref lys, .int mis, .int shus, .int buss, .ref 5, .ref 6, .ref 7, .ref 8, .ref 9, .ref 10, .ref 11, .ref 12, .ref 13, .ref 14, .ref 15, .int lkss, .ref 16, .ref 17, .ref 20])), (5, .inr (.inl (0, rks))), (6, .inr (.inl (0, stas))), (7, .inr (.inl (0, phs))), (8, .inr (.inl (0, sps))), (9, .inr (.inl (0, ces))), (10, .inr (.inl (0, dus))), (11, .inr (.inl (0, hes))), (12, .inr (.inl (0, ris))), (13, .inr (.inl (0, uss))), (14, .inr (.inl (0, cms))), (15, .inr (.inl (0, lfs))), (16, .inr (.inl (0, lkds))), (20, .inl (3, [.ref 21, .ref 22, .ref 23, .ref 24, .ref 25, .ref 26, .ref 27, .ref 28, .int pevs, .int 1])), (21, .inr (.inl (0, pmss))), (22, .inr (.inl (0, pmms))), (23, .inr (.inl (0, pmts))), (24, .inr (.inl (0, psts))), (25, .inr (.inl (0, pwas))), (26, .inr (.inl (0, prss))), (27, .inr (.inl (0, prrs))), (28, .inr (.inl (0, pfas))), (56, .inl (7, [.ref lys, .int mis, .int shus, .int buss, .ref 57, .ref 58, .ref 59, .ref 60, .ref 61, .ref 62, .ref 63, .ref 64, .ref 65, .ref 66, .ref 67, .int lkss, .ref 68, .ref 69, .ref 72])), (57, .inr (.inl (0, (aC 5 rks rk)))), (58, .inr (.inl (0, (aC 5 stas sta)))), (59, .inr (.inl (0, (aC 5 phs ph)))), (60, .inr (.inl (0, sp))), (61, .inr (.inl (0, ce))), (62, .inr (.inl (0, du))), (63, .inr (.inl (0, he))), (64, .inr (.inl (0, ri))), (65, .inr (.inl (0, us))), (66, .inr (.inl (0, cm))), (67, .inr (.inl (0, lf))), (68, .inr (.inl (0, lkd))), (72, .inl (3, [.ref 73, .ref 74, .ref 75, .ref 76, .ref 77, .ref 78, .ref 79, .ref 80, .int pev, .int 1])), (73, .inr (.inl (0, pms))), (74, .inr (.inl (0, pmm))), (75, .inr (.inl (0, pmt))), (76, .inr (.inl (0, pst))), (77, .inr (.inl (0, pwa))), (78, .inr (.inl (0, prs))), (79, .inr (.inl (0, prr))), (80, .inr (.inl (0, pfa)))] h0 := K.mg K9 rfl rfl
  clear K9
  refine yr1s_k82 L (K.fi [4, 8, 9, 10, 56, 60, 61, 62] rfl rfl) (fun lv h9 L K9 => ?_)
  have K : KN h9 [(4, .inl (7, [.ref lys, .int mis, .int shus, .int buss, .ref 5, .ref 6, .ref 7, .ref 8, .ref 9, .ref 10, .ref 11, .ref 12, .ref 13, .ref 14, .ref 15, .int lkss, .ref 16, .ref 17, .ref 20])), (5, .inr (.inl (0, rks))), (6, .inr (.inl (0, stas))), (7, .inr (.inl (0, phs))), (8, .inr (.inl (0, sps))), (9, .inr (.inl (0, ces))), (10, .inr (.inl (0, dus))), (11, .inr (.inl (0, hes))), (12, .inr (.inl (0, ris))), (13, .inr (.inl (0, uss))), (14, .inr (.inl (0, cms))), (15, .inr (.inl (0, lfs))), (16, .inr (.inl (0, lkds))), (20, .inl (3, [.ref 21, .ref 22, .ref 23, .ref 24, .ref 25, .ref 26, .ref 27, .ref 28, .int pevs, .int 1])), (21, .inr (.inl (0, pmss))), (22, .inr (.inl (0, pmms))), (23, .inr (.inl (0, pmts))), (24, .inr (.inl (0, psts))), (25, .inr (.inl (0, pwas))), (26, .inr (.inl (0, prss))), (27, .inr (.inl (0, prrs))), (28, .inr (.inl (0, pfas))), (56, .inl (7, [.ref lys, .int mis, .int shus, .int buss, .ref 57, .ref 58, .ref 59, .ref 60, .ref 61, .ref 62, .ref 63, .ref 64, .ref 65, .ref 66, .ref 67, .int lkss, .ref 68, .ref 69, .ref 72])), (57, .inr (.inl (0, (aC 5 rks rk)))), (58, .inr (.inl (0, (aC 5 stas sta)))), (59, .inr (.inl (0, (aC 5 phs ph)))), (60, .inr (.inl (0, (aC 5 sps sp)))), (61, .inr (.inl (0, (aC 5 ces ce)))), (62, .inr (.inl (0, (aC 5 dus du)))), (63, .inr (.inl (0, he))), (64, .inr (.inl (0, ri))), (65, .inr (.inl (0, us))), (66, .inr (.inl (0, cm))), (67, .inr (.inl (0, lf))), (68, .inr (.inl (0, lkd))), (72, .inl (3, [.ref 73, .ref 74, .ref 75, .ref 76, .ref 77, .ref 78, .ref 79, .ref 80, .int pev, .int 1])), (73, .inr (.inl (0, pms))), (74, .inr (.inl (0, pmm))), (75, .inr (.inl (0, pmt))), (76, .inr (.inl (0, pst))), (77, .inr (.inl (0, pwa))), (78, .inr (.inl (0, prs))), (79, .inr (.inl (0, prr))), (80, .inr (.inl (0, pfa)))] h0 := K.mg K9 rfl rfl
  clear K9
  refine yr1s_k124 L (K.fi [4, 11, 12, 13, 56, 63, 64, 65] rfl rfl) (fun lv h9 L K9 => ?_)
  have K : KN h9 [(4, .inl (7, [.ref lys, .int mis, .int shus, .int buss, .ref 5, .ref 6, .ref 7, .ref 8, .ref 9, .ref 10, .ref 11, .ref 12, .ref 13, .ref 14, .ref 15, .int lkss, .ref 16, .ref 17, .ref 20])), (5, .inr (.inl (0, rks))), (6, .inr (.inl (0, stas))), (7, .inr (.inl (0, phs))), (8, .inr (.inl (0, sps))), (9, .inr (.inl (0, ces))), (10, .inr (.inl (0, dus))), (11, .inr (.inl (0, hes))), (12, .inr (.inl (0, ris))), (13, .inr (.inl (0, uss))), (14, .inr (.inl (0, cms))), (15, .inr (.inl (0, lfs))), (16, .inr (.inl (0, lkds))), (20, .inl (3, [.ref 21, .ref 22, .ref 23, .ref 24, .ref 25, .ref 26, .ref 27, .ref 28, .int pevs, .int 1])), (21, .inr (.inl (0, pmss))), (22, .inr (.inl (0, pmms))), (23, .inr (.inl (0, pmts))), (24, .inr (.inl (0, psts))), (25, .inr (.inl (0, pwas))), (26, .inr (.inl (0, prss))), (27, .inr (.inl (0, prrs))), (28, .inr (.inl (0, pfas))), (56, .inl (7, [.ref lys, .int mis, .int shus, .int buss, .ref 57, .ref 58, .ref 59, .ref 60, .ref 61, .ref 62, .ref 63, .ref 64, .ref 65, .ref 66, .ref 67, .int lkss, .ref 68, .ref 69, .ref 72])), (57, .inr (.inl (0, (aC 5 rks rk)))), (58, .inr (.inl (0, (aC 5 stas sta)))), (59, .inr (.inl (0, (aC 5 phs ph)))), (60, .inr (.inl (0, (aC 5 sps sp)))), (61, .inr (.inl (0, (aC 5 ces ce)))), (62, .inr (.inl (0, (aC 5 dus du)))), (63, .inr (.inl (0, (aC 5 hes he)))), (64, .inr (.inl (0, (aC 6 ris ri)))), (65, .inr (.inl (0, (aC 6 uss us)))), (66, .inr (.inl (0, cm))), (67, .inr (.inl (0, lf))), (68, .inr (.inl (0, lkd))), (72, .inl (3, [.ref 73, .ref 74, .ref 75, .ref 76, .ref 77, .ref 78, .ref 79, .ref 80, .int pev, .int 1])), (73, .inr (.inl (0, pms))), (74, .inr (.inl (0, pmm))), (75, .inr (.inl (0, pmt))), (76, .inr (.inl (0, pst))), (77, .inr (.inl (0, pwa))), (78, .inr (.inl (0, prs))), (79, .inr (.inl (0, prr))), (80, .inr (.inl (0, pfa)))] h0 := K.mg K9 rfl rfl
  clear K9
  refine yr1s_k168 L (K.fi [4, 14, 15, 16, 56, 66, 67, 68] rfl rfl) (fun lv h9 L K9 => ?_)
  have K : KN h9 [(4, .inl (7, [.ref lys, .int mis, .int shus, .int buss, .ref 5, .ref 6, .ref 7, .ref 8, .ref 9, .ref 10, .ref 11, .ref 12, .ref 13, .ref 14, .ref 15, .int lkss, .ref 16, .ref 17, .ref 20])), (5, .inr (.inl (0, rks))), (6, .inr (.inl (0, stas))), (7, .inr (.inl (0, phs))), (8, .inr (.inl (0, sps))), (9, .inr (.inl (0, ces))), (10, .inr (.inl (0, dus))), (11, .inr (.inl (0, hes))), (12, .inr (.inl (0, ris))), (13, .inr (.inl (0, uss))), (14, .inr (.inl (0, cms))), (15, .inr (.inl (0, lfs))), (16, .inr (.inl (0, lkds))), (20, .inl (3, [.ref 21, .ref 22, .ref 23, .ref 24, .ref 25, .ref 26, .ref 27, .ref 28, .int pevs, .int 1])), (21, .inr (.inl (0, pmss))), (22, .inr (.inl (0, pmms))), (23, .inr (.inl (0, pmts))), (24, .inr (.inl (0, psts))), (25, .inr (.inl (0, pwas))), (26, .inr (.inl (0, prss))), (27, .inr (.inl (0, prrs))), (28, .inr (.inl (0, pfas))), (56, .inl (7, [.ref lys, .int mis, .int shus, .int buss, .ref 57, .ref 58, .ref 59, .ref 60, .ref 61, .ref 62, .ref 63, .ref 64, .ref 65, .ref 66, .ref 67, .int lkss, .ref 68, .ref 69, .ref 72])), (57, .inr (.inl (0, (aC 5 rks rk)))), (58, .inr (.inl (0, (aC 5 stas sta)))), (59, .inr (.inl (0, (aC 5 phs ph)))), (60, .inr (.inl (0, (aC 5 sps sp)))), (61, .inr (.inl (0, (aC 5 ces ce)))), (62, .inr (.inl (0, (aC 5 dus du)))), (63, .inr (.inl (0, (aC 5 hes he)))), (64, .inr (.inl (0, (aC 6 ris ri)))), (65, .inr (.inl (0, (aC 6 uss us)))), (66, .inr (.inl (0, (aC (nI cm.length) cms cm)))), (67, .inr (.inl (0, (aC (nI lf.length) lfs lf)))), (68, .inr (.inl (0, (aC (nI lkd.length) lkds lkd)))), (72, .inl (3, [.ref 73, .ref 74, .ref 75, .ref 76, .ref 77, .ref 78, .ref 79, .ref 80, .int pev, .int 1])), (73, .inr (.inl (0, pms))), (74, .inr (.inl (0, pmm))), (75, .inr (.inl (0, pmt))), (76, .inr (.inl (0, pst))), (77, .inr (.inl (0, pwa))), (78, .inr (.inl (0, prs))), (79, .inr (.inl (0, prr))), (80, .inr (.inl (0, pfa)))] h0 := K.mg K9 rfl rfl
  clear K9
  refine j_V.ldL yr1s_M yr1s_222 rfl (i := 0) (kd := 2) (v := .ref 56) (pcJ := 223) rfl L rfl rfl rfl ?_
  refine j_V.getK yr1s_M yr1s_223 (ci := 7) (j := 18) rfl K rfl rfl ?_
  refine j_V.ldL yr1s_M yr1s_226 rfl (i := 1) (kd := 2) (v := .ref 4) (pcJ := 227) rfl L rfl rfl rfl ?_
  refine j_V.getK yr1s_M yr1s_227 (ci := 7) (j := 18) rfl K rfl rfl ?_
  refine j_V.cl yr1s_M yr1s_230 rfl (md := 3) (mj := 28) rfl (by decide) yr1p_M (As := [.ref 72, .ref 20]) (rest := []) (jk_spl3 (K.at rfl) rfl rfl rfl (Nat.le_of_ble_eq_true rfl) (Nat.le_of_ble_eq_true rfl)) (fun d => yr1p_ok (K.fi [20, 21, 22, 23, 24, 25, 26, 27, 28, 72, 73, 74, 75, 76, 77, 78, 79, 80] rfl rfl)) ?_
  rintro r h9 ⟨rfl, K9⟩
  have K : KN h9 [(4, .inl (7, [.ref lys, .int mis, .int shus, .int buss, .ref 5, .ref 6, .ref 7, .ref 8, .ref 9, .ref 10, .ref 11, .ref 12, .ref 13, .ref 14, .ref 15, .int lkss, .ref 16, .ref 17, .ref 20])), (5, .inr (.inl (0, rks))), (6, .inr (.inl (0, stas))), (7, .inr (.inl (0, phs))), (8, .inr (.inl (0, sps))), (9, .inr (.inl (0, ces))), (10, .inr (.inl (0, dus))), (11, .inr (.inl (0, hes))), (12, .inr (.inl (0, ris))), (13, .inr (.inl (0, uss))), (14, .inr (.inl (0, cms))), (15, .inr (.inl (0, lfs))), (16, .inr (.inl (0, lkds))), (20, .inl (3, [.ref 21, .ref 22, .ref 23, .ref 24, .ref 25, .ref 26, .ref 27, .ref 28, .int pevs, .int 1])), (21, .inr (.inl (0, pmss))), (22, .inr (.inl (0, pmms))), (23, .inr (.inl (0, pmts))), (24, .inr (.inl (0, psts))), (25, .inr (.inl (0, pwas))), (26, .inr (.inl (0, prss))), (27, .inr (.inl (0, prrs))), (28, .inr (.inl (0, pfas))), (56, .inl (7, [.ref lys, .int mis, .int shus, .int buss, .ref 57, .ref 58, .ref 59, .ref 60, .ref 61, .ref 62, .ref 63, .ref 64, .ref 65, .ref 66, .ref 67, .int lkss, .ref 68, .ref 69, .ref 72])), (57, .inr (.inl (0, (aC 5 rks rk)))), (58, .inr (.inl (0, (aC 5 stas sta)))), (59, .inr (.inl (0, (aC 5 phs ph)))), (60, .inr (.inl (0, (aC 5 sps sp)))), (61, .inr (.inl (0, (aC 5 ces ce)))), (62, .inr (.inl (0, (aC 5 dus du)))), (63, .inr (.inl (0, (aC 5 hes he)))), (64, .inr (.inl (0, (aC 6 ris ri)))), (65, .inr (.inl (0, (aC 6 uss us)))), (66, .inr (.inl (0, (aC (nI cm.length) cms cm)))), (67, .inr (.inl (0, (aC (nI lf.length) lfs lf)))), (68, .inr (.inl (0, (aC (nI lkd.length) lkds lkd)))), (72, .inl (3, [.ref 73, .ref 74, .ref 75, .ref 76, .ref 77, .ref 78, .ref 79, .ref 80, .int pevs, .int 1])), (73, .inr (.inl (0, (aC (nI pms.length) pmss pms)))), (74, .inr (.inl (0, (aC (nI pmm.length) pmms pmm)))), (75, .inr (.inl (0, (aC (nI pmt.length) pmts pmt)))), (76, .inr (.inl (0, (aC (nI pst.length) psts pst)))), (77, .inr (.inl (0, (aC (nI pwa.length) pwas pwa)))), (78, .inr (.inl (0, (aC (nI prs.length) prss prs)))), (79, .inr (.inl (0, (aC (nI prr.length) prrs prr)))), (80, .inr (.inl (0, (aC (nI pfa.length) pfas pfa))))] h0 := K.mg K9 rfl rfl
  clear K9
  show j_V jP _ 61 233 lv [] h9 _
  exact j_V.ret yr1s_M yr1s_233 rfl rfl ⟨rfl, K⟩
set_option maxRecDepth 100000 in
theorem yr1m_M : j_meth jP 2 = some (yX0_remember, cX0_remember, 2, none, 1, false, 0) := rfl
set_option maxRecDepth 100000 in
theorem yr1m_0 : j_code jP 2 0 = some (.aload_n 0) := rfl
set_option maxRecDepth 100000 in
theorem yr1m_1 : j_code jP 2 1 = some (.getfield 11) := rfl
set_option maxRecDepth 100000 in
theorem yr1m_4 : j_code jP 2 4 = some (.aload_n 0) := rfl
set_option maxRecDepth 100000 in
theorem yr1m_5 : j_code jP 2 5 = some (.getfield 24) := rfl
set_option maxRecDepth 100000 in
theorem yr1m_8 : j_code jP 2 8 = some (.aaload) := rfl
set_option maxRecDepth 100000 in
theorem yr1m_9 : j_code jP 2 9 = some (.aload_n 1) := rfl
set_option maxRecDepth 100000 in
theorem yr1m_10 : j_code jP 2 10 = some (.invokevirtual 27) := rfl
set_option maxRecDepth 100000 in
theorem yr1m_13 : j_code jP 2 13 = some (.aload_n 0) := rfl
set_option maxRecDepth 100000 in
theorem yr1m_14 : j_code jP 2 14 = some (.aload_n 0) := rfl
set_option maxRecDepth 100000 in
theorem yr1m_15 : j_code jP 2 15 = some (.getfield 24) := rfl
set_option maxRecDepth 100000 in
theorem yr1m_18 : j_code jP 2 18 = some (.iconst 1) := rfl
set_option maxRecDepth 100000 in
theorem yr1m_19 : j_code jP 2 19 = some (.iadd) := rfl
set_option maxRecDepth 100000 in
theorem yr1m_20 : j_code jP 2 20 = some (.bipush 10) := rfl
set_option maxRecDepth 100000 in
theorem yr1m_22 : j_code jP 2 22 = some (.irem) := rfl
set_option maxRecDepth 100000 in
theorem yr1m_23 : j_code jP 2 23 = some (.putfield 24) := rfl
set_option maxRecDepth 100000 in
theorem yr1m_26 : j_code jP 2 26 = some (.aload_n 0) := rfl
set_option maxRecDepth 100000 in
theorem yr1m_27 : j_code jP 2 27 = some (.aload_n 0) := rfl
set_option maxRecDepth 100000 in
theorem yr1m_28 : j_code jP 2 28 = some (.getfield 20) := rfl
set_option maxRecDepth 100000 in
theorem yr1m_31 : j_code jP 2 31 = some (.iconst 1) := rfl
set_option maxRecDepth 100000 in
theorem yr1m_32 : j_code jP 2 32 = some (.iadd) := rfl
set_option maxRecDepth 100000 in
theorem yr1m_33 : j_code jP 2 33 = some (.bipush 10) := rfl
set_option maxRecDepth 100000 in
theorem yr1m_35 : j_code jP 2 35 = some (.invokestatic 31) := rfl
set_option maxRecDepth 100000 in
theorem yr1m_38 : j_code jP 2 38 = some (.putfield 20) := rfl
set_option maxRecDepth 100000 in
theorem yr1m_41 : j_code jP 2 41 = some (.return_) := rfl
set_option maxRecDepth 1000000 in
theorem yr1m_ok {ly : Value} {mi : Int32} {shu : Int32} {bus : Int32} {lks : Int32} {rk : List Int32} {sta : List Int32} {ph : List Int32} {sp : List Int32} {ce : List Int32} {du : List Int32} {he : List Int32} {ri : List Int32} {us : List Int32} {cm : List Int32} {lf : List Int32} {lkd : List Int32} {pev : Int32} {pms : List Int32} {pmm : List Int32} {pmt : List Int32} {pst : List Int32} {pwa : List Int32} {prs : List Int32} {prr : List Int32} {pfa : List Int32} {lys : Nat} {mis : Int32} {shus : Int32} {buss : Int32} {lkss : Int32} {rks : List Int32} {stas : List Int32} {phs : List Int32} {sps : List Int32} {ces : List Int32} {dus : List Int32} {hes : List Int32} {ris : List Int32} {uss : List Int32} {cms : List Int32} {lfs : List Int32} {lkds : List Int32} {pevs : Int32} {pmss : List Int32} {pmms : List Int32} {pmts : List Int32} {psts : List Int32} {pwas : List Int32} {prss : List Int32} {prrs : List Int32} {pfas : List Int32} {acco : Int32} {d : Nat} {h h0 : J_H} (K : KN h [(4, .inl (7, [.ref lys, .int mis, .int shus, .int buss, .ref 5, .ref 6, .ref 7, .ref 8, .ref 9, .ref 10, .ref 11, .ref 12, .ref 13, .ref 14, .ref 15, .int lkss, .ref 16, .ref 17, .ref 20])), (5, .inr (.inl (0, rks))), (6, .inr (.inl (0, stas))), (7, .inr (.inl (0, phs))), (8, .inr (.inl (0, sps))), (9, .inr (.inl (0, ces))), (10, .inr (.inl (0, dus))), (11, .inr (.inl (0, hes))), (12, .inr (.inl (0, ris))), (13, .inr (.inl (0, uss))), (14, .inr (.inl (0, cms))), (15, .inr (.inl (0, lfs))), (16, .inr (.inl (0, lkds))), (20, .inl (3, [.ref 21, .ref 22, .ref 23, .ref 24, .ref 25, .ref 26, .ref 27, .ref 28, .int pevs, .int 1])), (21, .inr (.inl (0, pmss))), (22, .inr (.inl (0, pmms))), (23, .inr (.inl (0, pmts))), (24, .inr (.inl (0, psts))), (25, .inr (.inl (0, pwas))), (26, .inr (.inl (0, prss))), (27, .inr (.inl (0, prrs))), (28, .inr (.inl (0, pfas))), (29, .inl (0, [.ref 30, .int 1, .int acco])), (30, .inr (.inr (.inr [some 31, some 56, some 81, some 106, some 131, some 156, some 181, some 206, some 231, some 256]))), (56, .inl (7, [ly, .int mi, .int shu, .int bus, .ref 57, .ref 58, .ref 59, .ref 60, .ref 61, .ref 62, .ref 63, .ref 64, .ref 65, .ref 66, .ref 67, .int lks, .ref 68, .ref 69, .ref 72])), (57, .inr (.inl (0, rk))), (58, .inr (.inl (0, sta))), (59, .inr (.inl (0, ph))), (60, .inr (.inl (0, sp))), (61, .inr (.inl (0, ce))), (62, .inr (.inl (0, du))), (63, .inr (.inl (0, he))), (64, .inr (.inl (0, ri))), (65, .inr (.inl (0, us))), (66, .inr (.inl (0, cm))), (67, .inr (.inl (0, lf))), (68, .inr (.inl (0, lkd))), (72, .inl (3, [.ref 73, .ref 74, .ref 75, .ref 76, .ref 77, .ref 78, .ref 79, .ref 80, .int pev, .int 1])), (73, .inr (.inl (0, pms))), (74, .inr (.inl (0, pmm))), (75, .inr (.inl (0, pmt))), (76, .inr (.inl (0, pst))), (77, .inr (.inl (0, pwa))), (78, .inr (.inl (0, prs))), (79, .inr (.inl (0, prr))), (80, .inr (.inl (0, pfa)))] h0) : j_V jP d 2 0 (lv_args 0 [.ref 29, .ref 4]) [] h (fun rv h' => rv = none ∧ KN h' [(4, .inl (7, [.ref lys, .int mis, .int shus, .int buss, .ref 5, .ref 6, .ref 7, .ref 8, .ref 9, .ref 10, .ref 11, .ref 12, .ref 13, .ref 14, .ref 15, .int lkss, .ref 16, .ref 17, .ref 20])), (5, .inr (.inl (0, rks))), (6, .inr (.inl (0, stas))), (7, .inr (.inl (0, phs))), (8, .inr (.inl (0, sps))), (9, .inr (.inl (0, ces))), (10, .inr (.inl (0, dus))), (11, .inr (.inl (0, hes))), (12, .inr (.inl (0, ris))), (13, .inr (.inl (0, uss))), (14, .inr (.inl (0, cms))), (15, .inr (.inl (0, lfs))), (16, .inr (.inl (0, lkds))), (20, .inl (3, [.ref 21, .ref 22, .ref 23, .ref 24, .ref 25, .ref 26, .ref 27, .ref 28, .int pevs, .int 1])), (21, .inr (.inl (0, pmss))), (22, .inr (.inl (0, pmms))), (23, .inr (.inl (0, pmts))), (24, .inr (.inl (0, psts))), (25, .inr (.inl (0, pwas))), (26, .inr (.inl (0, prss))), (27, .inr (.inl (0, prrs))), (28, .inr (.inl (0, pfas))), (29, .inl (0, [.ref 30, .int 2, .int (iMn (acco + 1) 10)])), (30, .inr (.inr (.inr [some 31, some 56, some 81, some 106, some 131, some 156, some 181, some 206, some 231, some 256]))), (56, .inl (7, [.ref lys, .int mis, .int shus, .int buss, .ref 57, .ref 58, .ref 59, .ref 60, .ref 61, .ref 62, .ref 63, .ref 64, .ref 65, .ref 66, .ref 67, .int lkss, .ref 68, .ref 69, .ref 72])), (57, .inr (.inl (0, (aC 5 rks rk)))), (58, .inr (.inl (0, (aC 5 stas sta)))), (59, .inr (.inl (0, (aC 5 phs ph)))), (60, .inr (.inl (0, (aC 5 sps sp)))), (61, .inr (.inl (0, (aC 5 ces ce)))), (62, .inr (.inl (0, (aC 5 dus du)))), (63, .inr (.inl (0, (aC 5 hes he)))), (64, .inr (.inl (0, (aC 6 ris ri)))), (65, .inr (.inl (0, (aC 6 uss us)))), (66, .inr (.inl (0, (aC (nI cm.length) cms cm)))), (67, .inr (.inl (0, (aC (nI lf.length) lfs lf)))), (68, .inr (.inl (0, (aC (nI lkd.length) lkds lkd)))), (72, .inl (3, [.ref 73, .ref 74, .ref 75, .ref 76, .ref 77, .ref 78, .ref 79, .ref 80, .int pevs, .int 1])), (73, .inr (.inl (0, (aC (nI pms.length) pmss pms)))), (74, .inr (.inl (0, (aC (nI pmm.length) pmms pmm)))), (75, .inr (.inl (0, (aC (nI pmt.length) pmts pmt)))), (76, .inr (.inl (0, (aC (nI pst.length) psts pst)))), (77, .inr (.inl (0, (aC (nI pwa.length) pwas pwa)))), (78, .inr (.inl (0, (aC (nI prs.length) prss prs)))), (79, .inr (.inl (0, (aC (nI prr.length) prrs prr)))), (80, .inr (.inl (0, (aC (nI pfa.length) pfas pfa))))] h0) := by
  show j_V jP d 2 0 [(0, .ref 29), (1, .ref 4)] [] h _
  obtain ⟨lv, elv, L⟩ : ∃ lv, lv = [(0, .ref 29), (1, .ref 4)] ∧ LK lv [(0, .ref 29), (1, .ref 4)] := ⟨_, rfl, LK.rf⟩
  rw [← elv]
  clear elv
  refine j_V.ldL yr1m_M yr1m_0 rfl (i := 0) (kd := 2) (v := .ref 29) (pcJ := 1) rfl L rfl rfl rfl ?_
  refine j_V.getK yr1m_M yr1m_1 (ci := 0) (j := 0) rfl K rfl rfl ?_
  refine j_V.ldL yr1m_M yr1m_4 rfl (i := 0) (kd := 2) (v := .ref 29) (pcJ := 5) rfl L rfl rfl rfl ?_
  refine j_V.getK yr1m_M yr1m_5 (ci := 0) (j := 1) rfl K rfl rfl ?_
  refine j_V.aaA yr1m_M yr1m_8 K rfl (i := 1) (v := 56) rfl rfl ?_
  refine j_V.ldL yr1m_M yr1m_9 rfl (i := 1) (kd := 2) (v := .ref 4) (pcJ := 10) rfl L rfl rfl rfl ?_
  refine j_V.cl yr1m_M yr1m_10 rfl (md := 3) (mj := 61) rfl (by decide) yr1s_M (As := [.ref 56, .ref 4]) (rest := []) (jk_spl3 (K.at rfl) rfl rfl rfl (Nat.le_of_ble_eq_true rfl) (Nat.le_of_ble_eq_true rfl)) (fun d => yr1s_ok (K.fi [4, 5, 6, 7, 8, 9, 10, 11, 12, 13, 14, 15, 16, 20, 21, 22, 23, 24, 25, 26, 27, 28, 56, 57, 58, 59, 60, 61, 62, 63, 64, 65, 66, 67, 68, 72, 73, 74, 75, 76, 77, 78, 79, 80] rfl rfl)) ?_
  rintro r h9 ⟨rfl, K9⟩
  have K : KN h9 [(4, .inl (7, [.ref lys, .int mis, .int shus, .int buss, .ref 5, .ref 6, .ref 7, .ref 8, .ref 9, .ref 10, .ref 11, .ref 12, .ref 13, .ref 14, .ref 15, .int lkss, .ref 16, .ref 17, .ref 20])), (5, .inr (.inl (0, rks))), (6, .inr (.inl (0, stas))), (7, .inr (.inl (0, phs))), (8, .inr (.inl (0, sps))), (9, .inr (.inl (0, ces))), (10, .inr (.inl (0, dus))), (11, .inr (.inl (0, hes))), (12, .inr (.inl (0, ris))), (13, .inr (.inl (0, uss))), (14, .inr (.inl (0, cms))), (15, .inr (.inl (0, lfs))), (16, .inr (.inl (0, lkds))), (20, .inl (3, [.ref 21, .ref 22, .ref 23, .ref 24, .ref 25, .ref 26, .ref 27, .ref 28, .int pevs, .int 1])), (21, .inr (.inl (0, pmss))), (22, .inr (.inl (0, pmms))), (23, .inr (.inl (0, pmts))), (24, .inr (.inl (0, psts))), (25, .inr (.inl (0, pwas))), (26, .inr (.inl (0, prss))), (27, .inr (.inl (0, prrs))), (28, .inr (.inl (0, pfas))), (29, .inl (0, [.ref 30, .int 1, .int acco])), (30, .inr (.inr (.inr [some 31, some 56, some 81, some 106, some 131, some 156, some 181, some 206, some 231, some 256]))), (56, .inl (7, [.ref lys, .int mis, .int shus, .int buss, .ref 57, .ref 58, .ref 59, .ref 60, .ref 61, .ref 62, .ref 63, .ref 64, .ref 65, .ref 66, .ref 67, .int lkss, .ref 68, .ref 69, .ref 72])), (57, .inr (.inl (0, (aC 5 rks rk)))), (58, .inr (.inl (0, (aC 5 stas sta)))), (59, .inr (.inl (0, (aC 5 phs ph)))), (60, .inr (.inl (0, (aC 5 sps sp)))), (61, .inr (.inl (0, (aC 5 ces ce)))), (62, .inr (.inl (0, (aC 5 dus du)))), (63, .inr (.inl (0, (aC 5 hes he)))), (64, .inr (.inl (0, (aC 6 ris ri)))), (65, .inr (.inl (0, (aC 6 uss us)))), (66, .inr (.inl (0, (aC (nI cm.length) cms cm)))), (67, .inr (.inl (0, (aC (nI lf.length) lfs lf)))), (68, .inr (.inl (0, (aC (nI lkd.length) lkds lkd)))), (72, .inl (3, [.ref 73, .ref 74, .ref 75, .ref 76, .ref 77, .ref 78, .ref 79, .ref 80, .int pevs, .int 1])), (73, .inr (.inl (0, (aC (nI pms.length) pmss pms)))), (74, .inr (.inl (0, (aC (nI pmm.length) pmms pmm)))), (75, .inr (.inl (0, (aC (nI pmt.length) pmts pmt)))), (76, .inr (.inl (0, (aC (nI pst.length) psts pst)))), (77, .inr (.inl (0, (aC (nI pwa.length) pwas pwa)))), (78, .inr (.inl (0, (aC (nI prs.length) prss prs)))), (79, .inr (.inl (0, (aC (nI prr.length) prrs prr)))), (80, .inr (.inl (0, (aC (nI pfa.length) pfas pfa))))] h0 := K.mg K9 rfl rfl
  clear K9
  show j_V jP _ 2 13 lv [] h9 _
  refine j_V.ldL yr1m_M yr1m_13 rfl (i := 0) (kd := 2) (v := .ref 29) (pcJ := 14) rfl L rfl rfl rfl ?_
  refine j_V.ldL yr1m_M yr1m_14 rfl (i := 0) (kd := 2) (v := .ref 29) (pcJ := 15) rfl L rfl rfl rfl ?_
  refine j_V.getK yr1m_M yr1m_15 (ci := 0) (j := 1) rfl K rfl rfl ?_
  refine j_V.one yr1m_M yr1m_18 (by decide) (pcJ := 19) (stJ := [.int 1, .int 1, .ref 29]) rfl ?_
  refine j_V.one yr1m_M yr1m_19 (by decide) (pcJ := 20) (stJ := [.int 2, .ref 29]) rfl ?_
  refine j_V.one yr1m_M yr1m_20 (by decide) (pcJ := 22) (stJ := [.int 10, .int 2, .ref 29]) rfl ?_
  refine j_V.one yr1m_M yr1m_22 (by decide) (pcJ := 23) (stJ := [.int 2, .ref 29]) rfl ?_
  refine j_V.putK yr1m_M yr1m_23 (ci := 0) (j := 1) (k' := [(4, .inl (7, [.ref lys, .int mis, .int shus, .int buss, .ref 5, .ref 6, .ref 7, .ref 8, .ref 9, .ref 10, .ref 11, .ref 12, .ref 13, .ref 14, .ref 15, .int lkss, .ref 16, .ref 17, .ref 20])), (5, .inr (.inl (0, rks))), (6, .inr (.inl (0, stas))), (7, .inr (.inl (0, phs))), (8, .inr (.inl (0, sps))), (9, .inr (.inl (0, ces))), (10, .inr (.inl (0, dus))), (11, .inr (.inl (0, hes))), (12, .inr (.inl (0, ris))), (13, .inr (.inl (0, uss))), (14, .inr (.inl (0, cms))), (15, .inr (.inl (0, lfs))), (16, .inr (.inl (0, lkds))), (20, .inl (3, [.ref 21, .ref 22, .ref 23, .ref 24, .ref 25, .ref 26, .ref 27, .ref 28, .int pevs, .int 1])), (21, .inr (.inl (0, pmss))), (22, .inr (.inl (0, pmms))), (23, .inr (.inl (0, pmts))), (24, .inr (.inl (0, psts))), (25, .inr (.inl (0, pwas))), (26, .inr (.inl (0, prss))), (27, .inr (.inl (0, prrs))), (28, .inr (.inl (0, pfas))), (29, .inl (0, [.ref 30, .int 2, .int acco])), (30, .inr (.inr (.inr [some 31, some 56, some 81, some 106, some 131, some 156, some 181, some 206, some 231, some 256]))), (56, .inl (7, [.ref lys, .int mis, .int shus, .int buss, .ref 57, .ref 58, .ref 59, .ref 60, .ref 61, .ref 62, .ref 63, .ref 64, .ref 65, .ref 66, .ref 67, .int lkss, .ref 68, .ref 69, .ref 72])), (57, .inr (.inl (0, (aC 5 rks rk)))), (58, .inr (.inl (0, (aC 5 stas sta)))), (59, .inr (.inl (0, (aC 5 phs ph)))), (60, .inr (.inl (0, (aC 5 sps sp)))), (61, .inr (.inl (0, (aC 5 ces ce)))), (62, .inr (.inl (0, (aC 5 dus du)))), (63, .inr (.inl (0, (aC 5 hes he)))), (64, .inr (.inl (0, (aC 6 ris ri)))), (65, .inr (.inl (0, (aC 6 uss us)))), (66, .inr (.inl (0, (aC (nI cm.length) cms cm)))), (67, .inr (.inl (0, (aC (nI lf.length) lfs lf)))), (68, .inr (.inl (0, (aC (nI lkd.length) lkds lkd)))), (72, .inl (3, [.ref 73, .ref 74, .ref 75, .ref 76, .ref 77, .ref 78, .ref 79, .ref 80, .int pevs, .int 1])), (73, .inr (.inl (0, (aC (nI pms.length) pmss pms)))), (74, .inr (.inl (0, (aC (nI pmm.length) pmms pmm)))), (75, .inr (.inl (0, (aC (nI pmt.length) pmts pmt)))), (76, .inr (.inl (0, (aC (nI pst.length) psts pst)))), (77, .inr (.inl (0, (aC (nI pwa.length) pwas pwa)))), (78, .inr (.inl (0, (aC (nI prs.length) prss prs)))), (79, .inr (.inl (0, (aC (nI prr.length) prrs prr)))), (80, .inr (.inl (0, (aC (nI pfa.length) pfas pfa))))]) rfl K rfl (Nat.le_of_ble_eq_true rfl) rfl (Or.inl rfl) rfl rfl (fun h K => ?_)
  refine j_V.ldL yr1m_M yr1m_26 rfl (i := 0) (kd := 2) (v := .ref 29) (pcJ := 27) rfl L rfl rfl rfl ?_
  refine j_V.ldL yr1m_M yr1m_27 rfl (i := 0) (kd := 2) (v := .ref 29) (pcJ := 28) rfl L rfl rfl rfl ?_
  refine j_V.getK yr1m_M yr1m_28 (ci := 0) (j := 2) rfl K rfl rfl ?_
  refine j_V.one yr1m_M yr1m_31 (by decide) (pcJ := 32) (stJ := [.int 1, .int acco, .ref 29]) rfl ?_
  refine j_V.one yr1m_M yr1m_32 (by decide) (pcJ := 33) (stJ := [.int (acco + 1), .ref 29]) rfl ?_
  refine j_V.one yr1m_M yr1m_33 (by decide) (pcJ := 35) (stJ := [.int 10, .int (acco + 1), .ref 29]) rfl ?_
  refine j_V.mn yr1m_M yr1m_35 rfl rfl (Nat.le_of_ble_eq_true rfl) ?_
  refine j_V.putK yr1m_M yr1m_38 (ci := 0) (j := 2) (k' := [(4, .inl (7, [.ref lys, .int mis, .int shus, .int buss, .ref 5, .ref 6, .ref 7, .ref 8, .ref 9, .ref 10, .ref 11, .ref 12, .ref 13, .ref 14, .ref 15, .int lkss, .ref 16, .ref 17, .ref 20])), (5, .inr (.inl (0, rks))), (6, .inr (.inl (0, stas))), (7, .inr (.inl (0, phs))), (8, .inr (.inl (0, sps))), (9, .inr (.inl (0, ces))), (10, .inr (.inl (0, dus))), (11, .inr (.inl (0, hes))), (12, .inr (.inl (0, ris))), (13, .inr (.inl (0, uss))), (14, .inr (.inl (0, cms))), (15, .inr (.inl (0, lfs))), (16, .inr (.inl (0, lkds))), (20, .inl (3, [.ref 21, .ref 22, .ref 23, .ref 24, .ref 25, .ref 26, .ref 27, .ref 28, .int pevs, .int 1])), (21, .inr (.inl (0, pmss))), (22, .inr (.inl (0, pmms))), (23, .inr (.inl (0, pmts))), (24, .inr (.inl (0, psts))), (25, .inr (.inl (0, pwas))), (26, .inr (.inl (0, prss))), (27, .inr (.inl (0, prrs))), (28, .inr (.inl (0, pfas))), (29, .inl (0, [.ref 30, .int 2, .int (iMn (acco + 1) 10)])), (30, .inr (.inr (.inr [some 31, some 56, some 81, some 106, some 131, some 156, some 181, some 206, some 231, some 256]))), (56, .inl (7, [.ref lys, .int mis, .int shus, .int buss, .ref 57, .ref 58, .ref 59, .ref 60, .ref 61, .ref 62, .ref 63, .ref 64, .ref 65, .ref 66, .ref 67, .int lkss, .ref 68, .ref 69, .ref 72])), (57, .inr (.inl (0, (aC 5 rks rk)))), (58, .inr (.inl (0, (aC 5 stas sta)))), (59, .inr (.inl (0, (aC 5 phs ph)))), (60, .inr (.inl (0, (aC 5 sps sp)))), (61, .inr (.inl (0, (aC 5 ces ce)))), (62, .inr (.inl (0, (aC 5 dus du)))), (63, .inr (.inl (0, (aC 5 hes he)))), (64, .inr (.inl (0, (aC 6 ris ri)))), (65, .inr (.inl (0, (aC 6 uss us)))), (66, .inr (.inl (0, (aC (nI cm.length) cms cm)))), (67, .inr (.inl (0, (aC (nI lf.length) lfs lf)))), (68, .inr (.inl (0, (aC (nI lkd.length) lkds lkd)))), (72, .inl (3, [.ref 73, .ref 74, .ref 75, .ref 76, .ref 77, .ref 78, .ref 79, .ref 80, .int pevs, .int 1])), (73, .inr (.inl (0, (aC (nI pms.length) pmss pms)))), (74, .inr (.inl (0, (aC (nI pmm.length) pmms pmm)))), (75, .inr (.inl (0, (aC (nI pmt.length) pmts pmt)))), (76, .inr (.inl (0, (aC (nI pst.length) psts pst)))), (77, .inr (.inl (0, (aC (nI pwa.length) pwas pwa)))), (78, .inr (.inl (0, (aC (nI prs.length) prss prs)))), (79, .inr (.inl (0, (aC (nI prr.length) prrs prr)))), (80, .inr (.inl (0, (aC (nI pfa.length) pfas pfa))))]) rfl K rfl (Nat.le_of_ble_eq_true rfl) rfl (Or.inl rfl) rfl rfl (fun h K => ?_)
  exact j_V.ret yr1m_M yr1m_41 rfl rfl ⟨rfl, K⟩
set_option maxRecDepth 100000 in
theorem yr2p_M : j_meth jP 28 = some (yX3_copyFrom, cX3_copyFrom, 2, none, 1, false, 3) := rfl
set_option maxRecDepth 100000 in
theorem yr2p_0 : j_code jP 28 0 = some (.aload_n 0) := rfl
set_option maxRecDepth 100000 in
theorem yr2p_1 : j_code jP 28 1 = some (.getfield 36) := rfl
set_option maxRecDepth 100000 in
theorem yr2p_4 : j_code jP 28 4 = some (.ifCond .ne 4) := rfl
set_option maxRecDepth 100000 in
theorem yr2p_7 : j_code jP 28 7 = some (.return_) := rfl
set_option maxRecDepth 100000 in
theorem yr2p_8 : j_code jP 28 8 = some (.aload_n 1) := rfl
set_option maxRecDepth 100000 in
theorem yr2p_9 : j_code jP 28 9 = some (.getfield 9) := rfl
set_option maxRecDepth 100000 in
theorem yr2p_12 : j_code jP 28 12 = some (.iconst 0) := rfl
set_option maxRecDepth 100000 in
theorem yr2p_13 : j_code jP 28 13 = some (.aload_n 0) := rfl
set_option maxRecDepth 100000 in
theorem yr2p_14 : j_code jP 28 14 = some (.getfield 9) := rfl
set_option maxRecDepth 100000 in
theorem yr2p_17 : j_code jP 28 17 = some (.iconst 0) := rfl
set_option maxRecDepth 100000 in
theorem yr2p_18 : j_code jP 28 18 = some (.aload_n 0) := rfl
set_option maxRecDepth 100000 in
theorem yr2p_19 : j_code jP 28 19 = some (.getfield 9) := rfl
set_option maxRecDepth 100000 in
theorem yr2p_22 : j_code jP 28 22 = some (.arraylength) := rfl
set_option maxRecDepth 100000 in
theorem yr2p_23 : j_code jP 28 23 = some (.invokestatic 50) := rfl
set_option maxRecDepth 100000 in
theorem yr2p_26 : j_code jP 28 26 = some (.aload_n 1) := rfl
set_option maxRecDepth 100000 in
theorem yr2p_27 : j_code jP 28 27 = some (.getfield 15) := rfl
set_option maxRecDepth 100000 in
theorem yr2p_30 : j_code jP 28 30 = some (.iconst 0) := rfl
set_option maxRecDepth 100000 in
theorem yr2p_31 : j_code jP 28 31 = some (.aload_n 0) := rfl
set_option maxRecDepth 100000 in
theorem yr2p_32 : j_code jP 28 32 = some (.getfield 15) := rfl
set_option maxRecDepth 100000 in
theorem yr2p_35 : j_code jP 28 35 = some (.iconst 0) := rfl
set_option maxRecDepth 100000 in
theorem yr2p_36 : j_code jP 28 36 = some (.aload_n 0) := rfl
set_option maxRecDepth 100000 in
theorem yr2p_37 : j_code jP 28 37 = some (.getfield 15) := rfl
set_option maxRecDepth 100000 in
theorem yr2p_40 : j_code jP 28 40 = some (.arraylength) := rfl
set_option maxRecDepth 100000 in
theorem yr2p_41 : j_code jP 28 41 = some (.invokestatic 50) := rfl
set_option maxRecDepth 100000 in
theorem yr2p_44 : j_code jP 28 44 = some (.aload_n 1) := rfl
set_option maxRecDepth 100000 in
theorem yr2p_45 : j_code jP 28 45 = some (.getfield 18) := rfl
set_option maxRecDepth 100000 in
theorem yr2p_48 : j_code jP 28 48 = some (.iconst 0) := rfl
set_option maxRecDepth 100000 in
theorem yr2p_49 : j_code jP 28 49 = some (.aload_n 0) := rfl
set_option maxRecDepth 100000 in
theorem yr2p_50 : j_code jP 28 50 = some (.getfield 18) := rfl
set_option maxRecDepth 100000 in
theorem yr2p_53 : j_code jP 28 53 = some (.iconst 0) := rfl
set_option maxRecDepth 100000 in
theorem yr2p_54 : j_code jP 28 54 = some (.aload_n 0) := rfl
set_option maxRecDepth 100000 in
theorem yr2p_55 : j_code jP 28 55 = some (.getfield 18) := rfl
set_option maxRecDepth 100000 in
theorem yr2p_58 : j_code jP 28 58 = some (.arraylength) := rfl
set_option maxRecDepth 100000 in
theorem yr2p_59 : j_code jP 28 59 = some (.invokestatic 50) := rfl
set_option maxRecDepth 100000 in
theorem yr2p_62 : j_code jP 28 62 = some (.aload_n 1) := rfl
set_option maxRecDepth 100000 in
theorem yr2p_63 : j_code jP 28 63 = some (.getfield 21) := rfl
set_option maxRecDepth 100000 in
theorem yr2p_66 : j_code jP 28 66 = some (.iconst 0) := rfl
set_option maxRecDepth 100000 in
theorem yr2p_67 : j_code jP 28 67 = some (.aload_n 0) := rfl
set_option maxRecDepth 100000 in
theorem yr2p_68 : j_code jP 28 68 = some (.getfield 21) := rfl
set_option maxRecDepth 100000 in
theorem yr2p_71 : j_code jP 28 71 = some (.iconst 0) := rfl
set_option maxRecDepth 100000 in
theorem yr2p_72 : j_code jP 28 72 = some (.aload_n 0) := rfl
set_option maxRecDepth 100000 in
theorem yr2p_73 : j_code jP 28 73 = some (.getfield 21) := rfl
set_option maxRecDepth 100000 in
theorem yr2p_76 : j_code jP 28 76 = some (.arraylength) := rfl
set_option maxRecDepth 100000 in
theorem yr2p_77 : j_code jP 28 77 = some (.invokestatic 50) := rfl
set_option maxRecDepth 100000 in
theorem yr2p_80 : j_code jP 28 80 = some (.aload_n 1) := rfl
set_option maxRecDepth 100000 in
theorem yr2p_81 : j_code jP 28 81 = some (.getfield 24) := rfl
set_option maxRecDepth 100000 in
theorem yr2p_84 : j_code jP 28 84 = some (.iconst 0) := rfl
set_option maxRecDepth 100000 in
theorem yr2p_85 : j_code jP 28 85 = some (.aload_n 0) := rfl
set_option maxRecDepth 100000 in
theorem yr2p_86 : j_code jP 28 86 = some (.getfield 24) := rfl
set_option maxRecDepth 100000 in
theorem yr2p_89 : j_code jP 28 89 = some (.iconst 0) := rfl
set_option maxRecDepth 100000 in
theorem yr2p_90 : j_code jP 28 90 = some (.aload_n 0) := rfl
set_option maxRecDepth 100000 in
theorem yr2p_91 : j_code jP 28 91 = some (.getfield 24) := rfl
set_option maxRecDepth 100000 in
theorem yr2p_94 : j_code jP 28 94 = some (.arraylength) := rfl
set_option maxRecDepth 100000 in
theorem yr2p_95 : j_code jP 28 95 = some (.invokestatic 50) := rfl
set_option maxRecDepth 100000 in
theorem yr2p_98 : j_code jP 28 98 = some (.aload_n 1) := rfl
set_option maxRecDepth 100000 in
theorem yr2p_99 : j_code jP 28 99 = some (.getfield 27) := rfl
set_option maxRecDepth 100000 in
theorem yr2p_102 : j_code jP 28 102 = some (.iconst 0) := rfl
set_option maxRecDepth 100000 in
theorem yr2p_103 : j_code jP 28 103 = some (.aload_n 0) := rfl
set_option maxRecDepth 100000 in
theorem yr2p_104 : j_code jP 28 104 = some (.getfield 27) := rfl
set_option maxRecDepth 100000 in
theorem yr2p_107 : j_code jP 28 107 = some (.iconst 0) := rfl
set_option maxRecDepth 100000 in
theorem yr2p_108 : j_code jP 28 108 = some (.aload_n 0) := rfl
set_option maxRecDepth 100000 in
theorem yr2p_109 : j_code jP 28 109 = some (.getfield 27) := rfl
set_option maxRecDepth 100000 in
theorem yr2p_112 : j_code jP 28 112 = some (.arraylength) := rfl
set_option maxRecDepth 100000 in
theorem yr2p_113 : j_code jP 28 113 = some (.invokestatic 50) := rfl
set_option maxRecDepth 100000 in
theorem yr2p_116 : j_code jP 28 116 = some (.aload_n 1) := rfl
set_option maxRecDepth 100000 in
theorem yr2p_117 : j_code jP 28 117 = some (.getfield 30) := rfl
set_option maxRecDepth 100000 in
theorem yr2p_120 : j_code jP 28 120 = some (.iconst 0) := rfl
set_option maxRecDepth 100000 in
theorem yr2p_121 : j_code jP 28 121 = some (.aload_n 0) := rfl
set_option maxRecDepth 100000 in
theorem yr2p_122 : j_code jP 28 122 = some (.getfield 30) := rfl
set_option maxRecDepth 100000 in
theorem yr2p_125 : j_code jP 28 125 = some (.iconst 0) := rfl
set_option maxRecDepth 100000 in
theorem yr2p_126 : j_code jP 28 126 = some (.aload_n 0) := rfl
set_option maxRecDepth 100000 in
theorem yr2p_127 : j_code jP 28 127 = some (.getfield 30) := rfl
set_option maxRecDepth 100000 in
theorem yr2p_130 : j_code jP 28 130 = some (.arraylength) := rfl
set_option maxRecDepth 100000 in
theorem yr2p_131 : j_code jP 28 131 = some (.invokestatic 50) := rfl
set_option maxRecDepth 100000 in
theorem yr2p_134 : j_code jP 28 134 = some (.aload_n 1) := rfl
set_option maxRecDepth 100000 in
theorem yr2p_135 : j_code jP 28 135 = some (.getfield 33) := rfl
set_option maxRecDepth 100000 in
theorem yr2p_138 : j_code jP 28 138 = some (.iconst 0) := rfl
set_option maxRecDepth 100000 in
theorem yr2p_139 : j_code jP 28 139 = some (.aload_n 0) := rfl
set_option maxRecDepth 100000 in
theorem yr2p_140 : j_code jP 28 140 = some (.getfield 33) := rfl
set_option maxRecDepth 100000 in
theorem yr2p_143 : j_code jP 28 143 = some (.iconst 0) := rfl
set_option maxRecDepth 100000 in
theorem yr2p_144 : j_code jP 28 144 = some (.aload_n 0) := rfl
set_option maxRecDepth 100000 in
theorem yr2p_145 : j_code jP 28 145 = some (.getfield 33) := rfl
set_option maxRecDepth 100000 in
theorem yr2p_148 : j_code jP 28 148 = some (.arraylength) := rfl
set_option maxRecDepth 100000 in
theorem yr2p_149 : j_code jP 28 149 = some (.invokestatic 50) := rfl
set_option maxRecDepth 100000 in
theorem yr2p_152 : j_code jP 28 152 = some (.aload_n 0) := rfl
set_option maxRecDepth 100000 in
theorem yr2p_153 : j_code jP 28 153 = some (.aload_n 1) := rfl
set_option maxRecDepth 100000 in
theorem yr2p_154 : j_code jP 28 154 = some (.getfield 46) := rfl
set_option maxRecDepth 100000 in
theorem yr2p_157 : j_code jP 28 157 = some (.putfield 46) := rfl
set_option maxRecDepth 100000 in
theorem yr2p_160 : j_code jP 28 160 = some (.return_) := rfl
set_option maxRecDepth 1000000 in
theorem yr2p_k8 {pev : Int32} {pms : List Int32} {pmm : List Int32} {pevs : Int32} {pmss : List Int32} {pmms : List Int32} {d : Nat} {lv : J_L} {h h0 : J_H} {Q : Option Value → J_H → Prop} (L : LK lv [(0, .ref 97), (1, .ref 20)]) (K : KN h [(20, .inl (3, [.ref 21, .ref 22, .ref 23, .ref 24, .ref 25, .ref 26, .ref 27, .ref 28, .int pevs, .int 1])), (21, .inr (.inl (0, pmss))), (22, .inr (.inl (0, pmms))), (97, .inl (3, [.ref 98, .ref 99, .ref 100, .ref 101, .ref 102, .ref 103, .ref 104, .ref 105, .int pev, .int 1])), (98, .inr (.inl (0, pms))), (99, .inr (.inl (0, pmm)))] h0) (kk : ∀ lv h, LK lv [(0, .ref 97), (1, .ref 20)] → KN h [(20, .inl (3, [.ref 21, .ref 22, .ref 23, .ref 24, .ref 25, .ref 26, .ref 27, .ref 28, .int pevs, .int 1])), (21, .inr (.inl (0, pmss))), (22, .inr (.inl (0, pmms))), (97, .inl (3, [.ref 98, .ref 99, .ref 100, .ref 101, .ref 102, .ref 103, .ref 104, .ref 105, .int pev, .int 1])), (98, .inr (.inl (0, (aC (nI pms.length) pmss pms)))), (99, .inr (.inl (0, (aC (nI pmm.length) pmms pmm))))] h0 → j_V jP d 28 44 lv [] h Q) : j_V jP d 28 8 lv [] h Q := by
  refine j_V.ldL yr2p_M yr2p_8 rfl (i := 1) (kd := 2) (v := .ref 20) (pcJ := 9) rfl L rfl rfl rfl ?_
  refine j_V.getK yr2p_M yr2p_9 (ci := 3) (j := 0) rfl K rfl rfl ?_
  refine j_V.one yr2p_M yr2p_12 (by decide) (pcJ := 13) (stJ := [.int 0, .ref 21]) rfl ?_
  refine j_V.ldL yr2p_M yr2p_13 rfl (i := 0) (kd := 2) (v := .ref 97) (pcJ := 14) rfl L rfl rfl rfl ?_
  refine j_V.getK yr2p_M yr2p_14 (ci := 3) (j := 0) rfl K rfl rfl ?_
  refine j_V.one yr2p_M yr2p_17 (by decide) (pcJ := 18) (stJ := [.int 0, .ref 98, .int 0, .ref 21]) rfl ?_
  refine j_V.ldL yr2p_M yr2p_18 rfl (i := 0) (kd := 2) (v := .ref 97) (pcJ := 19) rfl L rfl rfl rfl ?_
  refine j_V.getK yr2p_M yr2p_19 (ci := 3) (j := 0) rfl K rfl rfl ?_
  refine j_V.alnA yr2p_M yr2p_22 K rfl ?_
  refine j_V.acp yr2p_M yr2p_23 rfl rfl K rfl rfl rfl (fun h K => ?_)
  refine j_V.ldL yr2p_M yr2p_26 rfl (i := 1) (kd := 2) (v := .ref 20) (pcJ := 27) rfl L rfl rfl rfl ?_
  refine j_V.getK yr2p_M yr2p_27 (ci := 3) (j := 1) rfl K rfl rfl ?_
  refine j_V.one yr2p_M yr2p_30 (by decide) (pcJ := 31) (stJ := [.int 0, .ref 22]) rfl ?_
  refine j_V.ldL yr2p_M yr2p_31 rfl (i := 0) (kd := 2) (v := .ref 97) (pcJ := 32) rfl L rfl rfl rfl ?_
  refine j_V.getK yr2p_M yr2p_32 (ci := 3) (j := 1) rfl K rfl rfl ?_
  refine j_V.one yr2p_M yr2p_35 (by decide) (pcJ := 36) (stJ := [.int 0, .ref 99, .int 0, .ref 22]) rfl ?_
  refine j_V.ldL yr2p_M yr2p_36 rfl (i := 0) (kd := 2) (v := .ref 97) (pcJ := 37) rfl L rfl rfl rfl ?_
  refine j_V.getK yr2p_M yr2p_37 (ci := 3) (j := 1) rfl K rfl rfl ?_
  refine j_V.alnA yr2p_M yr2p_40 K rfl ?_
  refine j_V.acp yr2p_M yr2p_41 rfl rfl K rfl rfl rfl (fun h K => ?_)
  exact kk _ _ L K
set_option maxRecDepth 1000000 in
theorem yr2p_k44 {pev : Int32} {pmt : List Int32} {pst : List Int32} {pevs : Int32} {pmts : List Int32} {psts : List Int32} {d : Nat} {lv : J_L} {h h0 : J_H} {Q : Option Value → J_H → Prop} (L : LK lv [(0, .ref 97), (1, .ref 20)]) (K : KN h [(20, .inl (3, [.ref 21, .ref 22, .ref 23, .ref 24, .ref 25, .ref 26, .ref 27, .ref 28, .int pevs, .int 1])), (23, .inr (.inl (0, pmts))), (24, .inr (.inl (0, psts))), (97, .inl (3, [.ref 98, .ref 99, .ref 100, .ref 101, .ref 102, .ref 103, .ref 104, .ref 105, .int pev, .int 1])), (100, .inr (.inl (0, pmt))), (101, .inr (.inl (0, pst)))] h0) (kk : ∀ lv h, LK lv [(0, .ref 97), (1, .ref 20)] → KN h [(20, .inl (3, [.ref 21, .ref 22, .ref 23, .ref 24, .ref 25, .ref 26, .ref 27, .ref 28, .int pevs, .int 1])), (23, .inr (.inl (0, pmts))), (24, .inr (.inl (0, psts))), (97, .inl (3, [.ref 98, .ref 99, .ref 100, .ref 101, .ref 102, .ref 103, .ref 104, .ref 105, .int pev, .int 1])), (100, .inr (.inl (0, (aC (nI pmt.length) pmts pmt)))), (101, .inr (.inl (0, (aC (nI pst.length) psts pst))))] h0 → j_V jP d 28 80 lv [] h Q) : j_V jP d 28 44 lv [] h Q := by
  refine j_V.ldL yr2p_M yr2p_44 rfl (i := 1) (kd := 2) (v := .ref 20) (pcJ := 45) rfl L rfl rfl rfl ?_
  refine j_V.getK yr2p_M yr2p_45 (ci := 3) (j := 2) rfl K rfl rfl ?_
  refine j_V.one yr2p_M yr2p_48 (by decide) (pcJ := 49) (stJ := [.int 0, .ref 23]) rfl ?_
  refine j_V.ldL yr2p_M yr2p_49 rfl (i := 0) (kd := 2) (v := .ref 97) (pcJ := 50) rfl L rfl rfl rfl ?_
  refine j_V.getK yr2p_M yr2p_50 (ci := 3) (j := 2) rfl K rfl rfl ?_
  refine j_V.one yr2p_M yr2p_53 (by decide) (pcJ := 54) (stJ := [.int 0, .ref 100, .int 0, .ref 23]) rfl ?_
  refine j_V.ldL yr2p_M yr2p_54 rfl (i := 0) (kd := 2) (v := .ref 97) (pcJ := 55) rfl L rfl rfl rfl ?_
  refine j_V.getK yr2p_M yr2p_55 (ci := 3) (j := 2) rfl K rfl rfl ?_
  refine j_V.alnA yr2p_M yr2p_58 K rfl ?_
  refine j_V.acp yr2p_M yr2p_59 rfl rfl K rfl rfl rfl (fun h K => ?_)
  refine j_V.ldL yr2p_M yr2p_62 rfl (i := 1) (kd := 2) (v := .ref 20) (pcJ := 63) rfl L rfl rfl rfl ?_
  refine j_V.getK yr2p_M yr2p_63 (ci := 3) (j := 3) rfl K rfl rfl ?_
  refine j_V.one yr2p_M yr2p_66 (by decide) (pcJ := 67) (stJ := [.int 0, .ref 24]) rfl ?_
  refine j_V.ldL yr2p_M yr2p_67 rfl (i := 0) (kd := 2) (v := .ref 97) (pcJ := 68) rfl L rfl rfl rfl ?_
  refine j_V.getK yr2p_M yr2p_68 (ci := 3) (j := 3) rfl K rfl rfl ?_
  refine j_V.one yr2p_M yr2p_71 (by decide) (pcJ := 72) (stJ := [.int 0, .ref 101, .int 0, .ref 24]) rfl ?_
  refine j_V.ldL yr2p_M yr2p_72 rfl (i := 0) (kd := 2) (v := .ref 97) (pcJ := 73) rfl L rfl rfl rfl ?_
  refine j_V.getK yr2p_M yr2p_73 (ci := 3) (j := 3) rfl K rfl rfl ?_
  refine j_V.alnA yr2p_M yr2p_76 K rfl ?_
  refine j_V.acp yr2p_M yr2p_77 rfl rfl K rfl rfl rfl (fun h K => ?_)
  exact kk _ _ L K
set_option maxRecDepth 1000000 in
theorem yr2p_k80 {pev : Int32} {pwa : List Int32} {prs : List Int32} {pevs : Int32} {pwas : List Int32} {prss : List Int32} {d : Nat} {lv : J_L} {h h0 : J_H} {Q : Option Value → J_H → Prop} (L : LK lv [(0, .ref 97), (1, .ref 20)]) (K : KN h [(20, .inl (3, [.ref 21, .ref 22, .ref 23, .ref 24, .ref 25, .ref 26, .ref 27, .ref 28, .int pevs, .int 1])), (25, .inr (.inl (0, pwas))), (26, .inr (.inl (0, prss))), (97, .inl (3, [.ref 98, .ref 99, .ref 100, .ref 101, .ref 102, .ref 103, .ref 104, .ref 105, .int pev, .int 1])), (102, .inr (.inl (0, pwa))), (103, .inr (.inl (0, prs)))] h0) (kk : ∀ lv h, LK lv [(0, .ref 97), (1, .ref 20)] → KN h [(20, .inl (3, [.ref 21, .ref 22, .ref 23, .ref 24, .ref 25, .ref 26, .ref 27, .ref 28, .int pevs, .int 1])), (25, .inr (.inl (0, pwas))), (26, .inr (.inl (0, prss))), (97, .inl (3, [.ref 98, .ref 99, .ref 100, .ref 101, .ref 102, .ref 103, .ref 104, .ref 105, .int pev, .int 1])), (102, .inr (.inl (0, (aC (nI pwa.length) pwas pwa)))), (103, .inr (.inl (0, (aC (nI prs.length) prss prs))))] h0 → j_V jP d 28 116 lv [] h Q) : j_V jP d 28 80 lv [] h Q := by
  refine j_V.ldL yr2p_M yr2p_80 rfl (i := 1) (kd := 2) (v := .ref 20) (pcJ := 81) rfl L rfl rfl rfl ?_
  refine j_V.getK yr2p_M yr2p_81 (ci := 3) (j := 4) rfl K rfl rfl ?_
  refine j_V.one yr2p_M yr2p_84 (by decide) (pcJ := 85) (stJ := [.int 0, .ref 25]) rfl ?_
  refine j_V.ldL yr2p_M yr2p_85 rfl (i := 0) (kd := 2) (v := .ref 97) (pcJ := 86) rfl L rfl rfl rfl ?_
  refine j_V.getK yr2p_M yr2p_86 (ci := 3) (j := 4) rfl K rfl rfl ?_
  refine j_V.one yr2p_M yr2p_89 (by decide) (pcJ := 90) (stJ := [.int 0, .ref 102, .int 0, .ref 25]) rfl ?_
  refine j_V.ldL yr2p_M yr2p_90 rfl (i := 0) (kd := 2) (v := .ref 97) (pcJ := 91) rfl L rfl rfl rfl ?_
  refine j_V.getK yr2p_M yr2p_91 (ci := 3) (j := 4) rfl K rfl rfl ?_
  refine j_V.alnA yr2p_M yr2p_94 K rfl ?_
  refine j_V.acp yr2p_M yr2p_95 rfl rfl K rfl rfl rfl (fun h K => ?_)
  refine j_V.ldL yr2p_M yr2p_98 rfl (i := 1) (kd := 2) (v := .ref 20) (pcJ := 99) rfl L rfl rfl rfl ?_
  refine j_V.getK yr2p_M yr2p_99 (ci := 3) (j := 5) rfl K rfl rfl ?_
  refine j_V.one yr2p_M yr2p_102 (by decide) (pcJ := 103) (stJ := [.int 0, .ref 26]) rfl ?_
  refine j_V.ldL yr2p_M yr2p_103 rfl (i := 0) (kd := 2) (v := .ref 97) (pcJ := 104) rfl L rfl rfl rfl ?_
  refine j_V.getK yr2p_M yr2p_104 (ci := 3) (j := 5) rfl K rfl rfl ?_
  refine j_V.one yr2p_M yr2p_107 (by decide) (pcJ := 108) (stJ := [.int 0, .ref 103, .int 0, .ref 26]) rfl ?_
  refine j_V.ldL yr2p_M yr2p_108 rfl (i := 0) (kd := 2) (v := .ref 97) (pcJ := 109) rfl L rfl rfl rfl ?_
  refine j_V.getK yr2p_M yr2p_109 (ci := 3) (j := 5) rfl K rfl rfl ?_
  refine j_V.alnA yr2p_M yr2p_112 K rfl ?_
  refine j_V.acp yr2p_M yr2p_113 rfl rfl K rfl rfl rfl (fun h K => ?_)
  exact kk _ _ L K
set_option maxRecDepth 1000000 in
theorem yr2p_k116 {pev : Int32} {prr : List Int32} {pfa : List Int32} {pevs : Int32} {prrs : List Int32} {pfas : List Int32} {d : Nat} {lv : J_L} {h h0 : J_H} {Q : Option Value → J_H → Prop} (L : LK lv [(0, .ref 97), (1, .ref 20)]) (K : KN h [(20, .inl (3, [.ref 21, .ref 22, .ref 23, .ref 24, .ref 25, .ref 26, .ref 27, .ref 28, .int pevs, .int 1])), (27, .inr (.inl (0, prrs))), (28, .inr (.inl (0, pfas))), (97, .inl (3, [.ref 98, .ref 99, .ref 100, .ref 101, .ref 102, .ref 103, .ref 104, .ref 105, .int pev, .int 1])), (104, .inr (.inl (0, prr))), (105, .inr (.inl (0, pfa)))] h0) (kk : ∀ lv h, LK lv [(0, .ref 97), (1, .ref 20)] → KN h [(20, .inl (3, [.ref 21, .ref 22, .ref 23, .ref 24, .ref 25, .ref 26, .ref 27, .ref 28, .int pevs, .int 1])), (27, .inr (.inl (0, prrs))), (28, .inr (.inl (0, pfas))), (97, .inl (3, [.ref 98, .ref 99, .ref 100, .ref 101, .ref 102, .ref 103, .ref 104, .ref 105, .int pev, .int 1])), (104, .inr (.inl (0, (aC (nI prr.length) prrs prr)))), (105, .inr (.inl (0, (aC (nI pfa.length) pfas pfa))))] h0 → j_V jP d 28 152 lv [] h Q) : j_V jP d 28 116 lv [] h Q := by
  refine j_V.ldL yr2p_M yr2p_116 rfl (i := 1) (kd := 2) (v := .ref 20) (pcJ := 117) rfl L rfl rfl rfl ?_
  refine j_V.getK yr2p_M yr2p_117 (ci := 3) (j := 6) rfl K rfl rfl ?_
  refine j_V.one yr2p_M yr2p_120 (by decide) (pcJ := 121) (stJ := [.int 0, .ref 27]) rfl ?_
  refine j_V.ldL yr2p_M yr2p_121 rfl (i := 0) (kd := 2) (v := .ref 97) (pcJ := 122) rfl L rfl rfl rfl ?_
  refine j_V.getK yr2p_M yr2p_122 (ci := 3) (j := 6) rfl K rfl rfl ?_
  refine j_V.one yr2p_M yr2p_125 (by decide) (pcJ := 126) (stJ := [.int 0, .ref 104, .int 0, .ref 27]) rfl ?_
  refine j_V.ldL yr2p_M yr2p_126 rfl (i := 0) (kd := 2) (v := .ref 97) (pcJ := 127) rfl L rfl rfl rfl ?_
  refine j_V.getK yr2p_M yr2p_127 (ci := 3) (j := 6) rfl K rfl rfl ?_
  refine j_V.alnA yr2p_M yr2p_130 K rfl ?_
  refine j_V.acp yr2p_M yr2p_131 rfl rfl K rfl rfl rfl (fun h K => ?_)
  refine j_V.ldL yr2p_M yr2p_134 rfl (i := 1) (kd := 2) (v := .ref 20) (pcJ := 135) rfl L rfl rfl rfl ?_
  refine j_V.getK yr2p_M yr2p_135 (ci := 3) (j := 7) rfl K rfl rfl ?_
  refine j_V.one yr2p_M yr2p_138 (by decide) (pcJ := 139) (stJ := [.int 0, .ref 28]) rfl ?_
  refine j_V.ldL yr2p_M yr2p_139 rfl (i := 0) (kd := 2) (v := .ref 97) (pcJ := 140) rfl L rfl rfl rfl ?_
  refine j_V.getK yr2p_M yr2p_140 (ci := 3) (j := 7) rfl K rfl rfl ?_
  refine j_V.one yr2p_M yr2p_143 (by decide) (pcJ := 144) (stJ := [.int 0, .ref 105, .int 0, .ref 28]) rfl ?_
  refine j_V.ldL yr2p_M yr2p_144 rfl (i := 0) (kd := 2) (v := .ref 97) (pcJ := 145) rfl L rfl rfl rfl ?_
  refine j_V.getK yr2p_M yr2p_145 (ci := 3) (j := 7) rfl K rfl rfl ?_
  refine j_V.alnA yr2p_M yr2p_148 K rfl ?_
  refine j_V.acp yr2p_M yr2p_149 rfl rfl K rfl rfl rfl (fun h K => ?_)
  exact kk _ _ L K
set_option maxRecDepth 1000000 in
theorem yr2p_ok {pev : Int32} {pms : List Int32} {pmm : List Int32} {pmt : List Int32} {pst : List Int32} {pwa : List Int32} {prs : List Int32} {prr : List Int32} {pfa : List Int32} {pevs : Int32} {pmss : List Int32} {pmms : List Int32} {pmts : List Int32} {psts : List Int32} {pwas : List Int32} {prss : List Int32} {prrs : List Int32} {pfas : List Int32} {d : Nat} {h h0 : J_H} (K : KN h [(20, .inl (3, [.ref 21, .ref 22, .ref 23, .ref 24, .ref 25, .ref 26, .ref 27, .ref 28, .int pevs, .int 1])), (21, .inr (.inl (0, pmss))), (22, .inr (.inl (0, pmms))), (23, .inr (.inl (0, pmts))), (24, .inr (.inl (0, psts))), (25, .inr (.inl (0, pwas))), (26, .inr (.inl (0, prss))), (27, .inr (.inl (0, prrs))), (28, .inr (.inl (0, pfas))), (97, .inl (3, [.ref 98, .ref 99, .ref 100, .ref 101, .ref 102, .ref 103, .ref 104, .ref 105, .int pev, .int 1])), (98, .inr (.inl (0, pms))), (99, .inr (.inl (0, pmm))), (100, .inr (.inl (0, pmt))), (101, .inr (.inl (0, pst))), (102, .inr (.inl (0, pwa))), (103, .inr (.inl (0, prs))), (104, .inr (.inl (0, prr))), (105, .inr (.inl (0, pfa)))] h0) : j_V jP d 28 0 (lv_args 0 [.ref 97, .ref 20]) [] h (fun rv h' => rv = none ∧ KN h' [(20, .inl (3, [.ref 21, .ref 22, .ref 23, .ref 24, .ref 25, .ref 26, .ref 27, .ref 28, .int pevs, .int 1])), (21, .inr (.inl (0, pmss))), (22, .inr (.inl (0, pmms))), (23, .inr (.inl (0, pmts))), (24, .inr (.inl (0, psts))), (25, .inr (.inl (0, pwas))), (26, .inr (.inl (0, prss))), (27, .inr (.inl (0, prrs))), (28, .inr (.inl (0, pfas))), (97, .inl (3, [.ref 98, .ref 99, .ref 100, .ref 101, .ref 102, .ref 103, .ref 104, .ref 105, .int pevs, .int 1])), (98, .inr (.inl (0, (aC (nI pms.length) pmss pms)))), (99, .inr (.inl (0, (aC (nI pmm.length) pmms pmm)))), (100, .inr (.inl (0, (aC (nI pmt.length) pmts pmt)))), (101, .inr (.inl (0, (aC (nI pst.length) psts pst)))), (102, .inr (.inl (0, (aC (nI pwa.length) pwas pwa)))), (103, .inr (.inl (0, (aC (nI prs.length) prss prs)))), (104, .inr (.inl (0, (aC (nI prr.length) prrs prr)))), (105, .inr (.inl (0, (aC (nI pfa.length) pfas pfa))))] h0) := by
  show j_V jP d 28 0 [(0, .ref 97), (1, .ref 20)] [] h _
  obtain ⟨lv, elv, L⟩ : ∃ lv, lv = [(0, .ref 97), (1, .ref 20)] ∧ LK lv [(0, .ref 97), (1, .ref 20)] := ⟨_, rfl, LK.rf⟩
  rw [← elv]
  clear elv
  refine j_V.ldL yr2p_M yr2p_0 rfl (i := 0) (kd := 2) (v := .ref 97) (pcJ := 1) rfl L rfl rfl rfl ?_
  refine j_V.getK yr2p_M yr2p_1 (ci := 3) (j := 9) rfl K rfl rfl ?_
  refine j_V.ifc yr2p_M yr2p_4 (t := 8) rfl (fun c4_0 => ?_) (fun c4_0 => ?_)
  · replace c4_0 : ¬ ((1 : Int32) = 0) := jd_ne c4_0
    refine yr2p_k8 L (K.fi [20, 21, 22, 97, 98, 99] rfl rfl) (fun lv h9 L K9 => ?_)
    have K : KN h9 [(20, .inl (3, [.ref 21, .ref 22, .ref 23, .ref 24, .ref 25, .ref 26, .ref 27, .ref 28, .int pevs, .int 1])), (21, .inr (.inl (0, pmss))), (22, .inr (.inl (0, pmms))), (23, .inr (.inl (0, pmts))), (24, .inr (.inl (0, psts))), (25, .inr (.inl (0, pwas))), (26, .inr (.inl (0, prss))), (27, .inr (.inl (0, prrs))), (28, .inr (.inl (0, pfas))), (97, .inl (3, [.ref 98, .ref 99, .ref 100, .ref 101, .ref 102, .ref 103, .ref 104, .ref 105, .int pev, .int 1])), (98, .inr (.inl (0, (aC (nI pms.length) pmss pms)))), (99, .inr (.inl (0, (aC (nI pmm.length) pmms pmm)))), (100, .inr (.inl (0, pmt))), (101, .inr (.inl (0, pst))), (102, .inr (.inl (0, pwa))), (103, .inr (.inl (0, prs))), (104, .inr (.inl (0, prr))), (105, .inr (.inl (0, pfa)))] h0 := K.mg K9 rfl rfl
    clear K9
    refine yr2p_k44 L (K.fi [20, 23, 24, 97, 100, 101] rfl rfl) (fun lv h9 L K9 => ?_)
    have K : KN h9 [(20, .inl (3, [.ref 21, .ref 22, .ref 23, .ref 24, .ref 25, .ref 26, .ref 27, .ref 28, .int pevs, .int 1])), (21, .inr (.inl (0, pmss))), (22, .inr (.inl (0, pmms))), (23, .inr (.inl (0, pmts))), (24, .inr (.inl (0, psts))), (25, .inr (.inl (0, pwas))), (26, .inr (.inl (0, prss))), (27, .inr (.inl (0, prrs))), (28, .inr (.inl (0, pfas))), (97, .inl (3, [.ref 98, .ref 99, .ref 100, .ref 101, .ref 102, .ref 103, .ref 104, .ref 105, .int pev, .int 1])), (98, .inr (.inl (0, (aC (nI pms.length) pmss pms)))), (99, .inr (.inl (0, (aC (nI pmm.length) pmms pmm)))), (100, .inr (.inl (0, (aC (nI pmt.length) pmts pmt)))), (101, .inr (.inl (0, (aC (nI pst.length) psts pst)))), (102, .inr (.inl (0, pwa))), (103, .inr (.inl (0, prs))), (104, .inr (.inl (0, prr))), (105, .inr (.inl (0, pfa)))] h0 := K.mg K9 rfl rfl
    clear K9
    refine yr2p_k80 L (K.fi [20, 25, 26, 97, 102, 103] rfl rfl) (fun lv h9 L K9 => ?_)
    have K : KN h9 [(20, .inl (3, [.ref 21, .ref 22, .ref 23, .ref 24, .ref 25, .ref 26, .ref 27, .ref 28, .int pevs, .int 1])), (21, .inr (.inl (0, pmss))), (22, .inr (.inl (0, pmms))), (23, .inr (.inl (0, pmts))), (24, .inr (.inl (0, psts))), (25, .inr (.inl (0, pwas))), (26, .inr (.inl (0, prss))), (27, .inr (.inl (0, prrs))), (28, .inr (.inl (0, pfas))), (97, .inl (3, [.ref 98, .ref 99, .ref 100, .ref 101, .ref 102, .ref 103, .ref 104, .ref 105, .int pev, .int 1])), (98, .inr (.inl (0, (aC (nI pms.length) pmss pms)))), (99, .inr (.inl (0, (aC (nI pmm.length) pmms pmm)))), (100, .inr (.inl (0, (aC (nI pmt.length) pmts pmt)))), (101, .inr (.inl (0, (aC (nI pst.length) psts pst)))), (102, .inr (.inl (0, (aC (nI pwa.length) pwas pwa)))), (103, .inr (.inl (0, (aC (nI prs.length) prss prs)))), (104, .inr (.inl (0, prr))), (105, .inr (.inl (0, pfa)))] h0 := K.mg K9 rfl rfl
    clear K9
    refine yr2p_k116 L (K.fi [20, 27, 28, 97, 104, 105] rfl rfl) (fun lv h9 L K9 => ?_)
    have K : KN h9 [(20, .inl (3, [.ref 21, .ref 22, .ref 23, .ref 24, .ref 25, .ref 26, .ref 27, .ref 28, .int pevs, .int 1])), (21, .inr (.inl (0, pmss))), (22, .inr (.inl (0, pmms))), (23, .inr (.inl (0, pmts))), (24, .inr (.inl (0, psts))), (25, .inr (.inl (0, pwas))), (26, .inr (.inl (0, prss))), (27, .inr (.inl (0, prrs))), (28, .inr (.inl (0, pfas))), (97, .inl (3, [.ref 98, .ref 99, .ref 100, .ref 101, .ref 102, .ref 103, .ref 104, .ref 105, .int pev, .int 1])), (98, .inr (.inl (0, (aC (nI pms.length) pmss pms)))), (99, .inr (.inl (0, (aC (nI pmm.length) pmms pmm)))), (100, .inr (.inl (0, (aC (nI pmt.length) pmts pmt)))), (101, .inr (.inl (0, (aC (nI pst.length) psts pst)))), (102, .inr (.inl (0, (aC (nI pwa.length) pwas pwa)))), (103, .inr (.inl (0, (aC (nI prs.length) prss prs)))), (104, .inr (.inl (0, (aC (nI prr.length) prrs prr)))), (105, .inr (.inl (0, (aC (nI pfa.length) pfas pfa))))] h0 := K.mg K9 rfl rfl
    clear K9
    refine j_V.ldL yr2p_M yr2p_152 rfl (i := 0) (kd := 2) (v := .ref 97) (pcJ := 153) rfl L rfl rfl rfl ?_
    refine j_V.ldL yr2p_M yr2p_153 rfl (i := 1) (kd := 2) (v := .ref 20) (pcJ := 154) rfl L rfl rfl rfl ?_
    refine j_V.getK yr2p_M yr2p_154 (ci := 3) (j := 8) rfl K rfl rfl ?_
    refine j_V.putK yr2p_M yr2p_157 (ci := 3) (j := 8) (k' := [(20, .inl (3, [.ref 21, .ref 22, .ref 23, .ref 24, .ref 25, .ref 26, .ref 27, .ref 28, .int pevs, .int 1])), (21, .inr (.inl (0, pmss))), (22, .inr (.inl (0, pmms))), (23, .inr (.inl (0, pmts))), (24, .inr (.inl (0, psts))), (25, .inr (.inl (0, pwas))), (26, .inr (.inl (0, prss))), (27, .inr (.inl (0, prrs))), (28, .inr (.inl (0, pfas))), (97, .inl (3, [.ref 98, .ref 99, .ref 100, .ref 101, .ref 102, .ref 103, .ref 104, .ref 105, .int pevs, .int 1])), (98, .inr (.inl (0, (aC (nI pms.length) pmss pms)))), (99, .inr (.inl (0, (aC (nI pmm.length) pmms pmm)))), (100, .inr (.inl (0, (aC (nI pmt.length) pmts pmt)))), (101, .inr (.inl (0, (aC (nI pst.length) psts pst)))), (102, .inr (.inl (0, (aC (nI pwa.length) pwas pwa)))), (103, .inr (.inl (0, (aC (nI prs.length) prss prs)))), (104, .inr (.inl (0, (aC (nI prr.length) prrs prr)))), (105, .inr (.inl (0, (aC (nI pfa.length) pfas pfa))))]) rfl K rfl (Nat.le_of_ble_eq_true rfl) rfl (Or.inl rfl) rfl rfl (fun h K => ?_)
    exact j_V.ret yr2p_M yr2p_160 rfl rfl ⟨rfl, K⟩
  · replace c4_0 : (1 : Int32) = 0 := jd_nen c4_0
    exact absurd c4_0 (by decide)
set_option maxRecDepth 100000 in
theorem yr2s_M : j_meth jP 61 = some (yX7_copyFrom, cX7_copyFrom, 2, none, 1, false, 7) := rfl
set_option maxRecDepth 100000 in
theorem yr2s_0 : j_code jP 61 0 = some (.aload_n 0) := rfl
set_option maxRecDepth 100000 in
theorem yr2s_1 : j_code jP 61 1 = some (.aload_n 1) := rfl
set_option maxRecDepth 100000 in
theorem yr2s_2 : j_code jP 61 2 = some (.getfield 64) := rfl
set_option maxRecDepth 100000 in
theorem yr2s_5 : j_code jP 61 5 = some (.putfield 64) := rfl
set_option maxRecDepth 100000 in
theorem yr2s_8 : j_code jP 61 8 = some (.aload_n 0) := rfl
set_option maxRecDepth 100000 in
theorem yr2s_9 : j_code jP 61 9 = some (.aload_n 1) := rfl
set_option maxRecDepth 100000 in
theorem yr2s_10 : j_code jP 61 10 = some (.getfield 68) := rfl
set_option maxRecDepth 100000 in
theorem yr2s_13 : j_code jP 61 13 = some (.putfield 68) := rfl
set_option maxRecDepth 100000 in
theorem yr2s_16 : j_code jP 61 16 = some (.aload_n 0) := rfl
set_option maxRecDepth 100000 in
theorem yr2s_17 : j_code jP 61 17 = some (.aload_n 1) := rfl
set_option maxRecDepth 100000 in
theorem yr2s_18 : j_code jP 61 18 = some (.getfield 72) := rfl
set_option maxRecDepth 100000 in
theorem yr2s_21 : j_code jP 61 21 = some (.putfield 72) := rfl
set_option maxRecDepth 100000 in
theorem yr2s_24 : j_code jP 61 24 = some (.aload_n 0) := rfl
set_option maxRecDepth 100000 in
theorem yr2s_25 : j_code jP 61 25 = some (.aload_n 1) := rfl
set_option maxRecDepth 100000 in
theorem yr2s_26 : j_code jP 61 26 = some (.getfield 75) := rfl
set_option maxRecDepth 100000 in
theorem yr2s_29 : j_code jP 61 29 = some (.putfield 75) := rfl
set_option maxRecDepth 100000 in
theorem yr2s_32 : j_code jP 61 32 = some (.aload_n 0) := rfl
set_option maxRecDepth 100000 in
theorem yr2s_33 : j_code jP 61 33 = some (.aload_n 1) := rfl
set_option maxRecDepth 100000 in
theorem yr2s_34 : j_code jP 61 34 = some (.getfield 78) := rfl
set_option maxRecDepth 100000 in
theorem yr2s_37 : j_code jP 61 37 = some (.putfield 78) := rfl
set_option maxRecDepth 100000 in
theorem yr2s_40 : j_code jP 61 40 = some (.aload_n 1) := rfl
set_option maxRecDepth 100000 in
theorem yr2s_41 : j_code jP 61 41 = some (.getfield 9) := rfl
set_option maxRecDepth 100000 in
theorem yr2s_44 : j_code jP 61 44 = some (.iconst 0) := rfl
set_option maxRecDepth 100000 in
theorem yr2s_45 : j_code jP 61 45 = some (.aload_n 0) := rfl
set_option maxRecDepth 100000 in
theorem yr2s_46 : j_code jP 61 46 = some (.getfield 9) := rfl
set_option maxRecDepth 100000 in
theorem yr2s_49 : j_code jP 61 49 = some (.iconst 0) := rfl
set_option maxRecDepth 100000 in
theorem yr2s_50 : j_code jP 61 50 = some (.iconst 5) := rfl
set_option maxRecDepth 100000 in
theorem yr2s_51 : j_code jP 61 51 = some (.invokestatic 84) := rfl
set_option maxRecDepth 100000 in
theorem yr2s_54 : j_code jP 61 54 = some (.aload_n 1) := rfl
set_option maxRecDepth 100000 in
theorem yr2s_55 : j_code jP 61 55 = some (.getfield 15) := rfl
set_option maxRecDepth 100000 in
theorem yr2s_58 : j_code jP 61 58 = some (.iconst 0) := rfl
set_option maxRecDepth 100000 in
theorem yr2s_59 : j_code jP 61 59 = some (.aload_n 0) := rfl
set_option maxRecDepth 100000 in
theorem yr2s_60 : j_code jP 61 60 = some (.getfield 15) := rfl
set_option maxRecDepth 100000 in
theorem yr2s_63 : j_code jP 61 63 = some (.iconst 0) := rfl
set_option maxRecDepth 100000 in
theorem yr2s_64 : j_code jP 61 64 = some (.iconst 5) := rfl
set_option maxRecDepth 100000 in
theorem yr2s_65 : j_code jP 61 65 = some (.invokestatic 84) := rfl
set_option maxRecDepth 100000 in
theorem yr2s_68 : j_code jP 61 68 = some (.aload_n 1) := rfl
set_option maxRecDepth 100000 in
theorem yr2s_69 : j_code jP 61 69 = some (.getfield 18) := rfl
set_option maxRecDepth 100000 in
theorem yr2s_72 : j_code jP 61 72 = some (.iconst 0) := rfl
set_option maxRecDepth 100000 in
theorem yr2s_73 : j_code jP 61 73 = some (.aload_n 0) := rfl
set_option maxRecDepth 100000 in
theorem yr2s_74 : j_code jP 61 74 = some (.getfield 18) := rfl
set_option maxRecDepth 100000 in
theorem yr2s_77 : j_code jP 61 77 = some (.iconst 0) := rfl
set_option maxRecDepth 100000 in
theorem yr2s_78 : j_code jP 61 78 = some (.iconst 5) := rfl
set_option maxRecDepth 100000 in
theorem yr2s_79 : j_code jP 61 79 = some (.invokestatic 84) := rfl
set_option maxRecDepth 100000 in
theorem yr2s_82 : j_code jP 61 82 = some (.aload_n 1) := rfl
set_option maxRecDepth 100000 in
theorem yr2s_83 : j_code jP 61 83 = some (.getfield 21) := rfl
set_option maxRecDepth 100000 in
theorem yr2s_86 : j_code jP 61 86 = some (.iconst 0) := rfl
set_option maxRecDepth 100000 in
theorem yr2s_87 : j_code jP 61 87 = some (.aload_n 0) := rfl
set_option maxRecDepth 100000 in
theorem yr2s_88 : j_code jP 61 88 = some (.getfield 21) := rfl
set_option maxRecDepth 100000 in
theorem yr2s_91 : j_code jP 61 91 = some (.iconst 0) := rfl
set_option maxRecDepth 100000 in
theorem yr2s_92 : j_code jP 61 92 = some (.iconst 5) := rfl
set_option maxRecDepth 100000 in
theorem yr2s_93 : j_code jP 61 93 = some (.invokestatic 84) := rfl
set_option maxRecDepth 100000 in
theorem yr2s_96 : j_code jP 61 96 = some (.aload_n 1) := rfl
set_option maxRecDepth 100000 in
theorem yr2s_97 : j_code jP 61 97 = some (.getfield 24) := rfl
set_option maxRecDepth 100000 in
theorem yr2s_100 : j_code jP 61 100 = some (.iconst 0) := rfl
set_option maxRecDepth 100000 in
theorem yr2s_101 : j_code jP 61 101 = some (.aload_n 0) := rfl
set_option maxRecDepth 100000 in
theorem yr2s_102 : j_code jP 61 102 = some (.getfield 24) := rfl
set_option maxRecDepth 100000 in
theorem yr2s_105 : j_code jP 61 105 = some (.iconst 0) := rfl
set_option maxRecDepth 100000 in
theorem yr2s_106 : j_code jP 61 106 = some (.iconst 5) := rfl
set_option maxRecDepth 100000 in
theorem yr2s_107 : j_code jP 61 107 = some (.invokestatic 84) := rfl
set_option maxRecDepth 100000 in
theorem yr2s_110 : j_code jP 61 110 = some (.aload_n 1) := rfl
set_option maxRecDepth 100000 in
theorem yr2s_111 : j_code jP 61 111 = some (.getfield 27) := rfl
set_option maxRecDepth 100000 in
theorem yr2s_114 : j_code jP 61 114 = some (.iconst 0) := rfl
set_option maxRecDepth 100000 in
theorem yr2s_115 : j_code jP 61 115 = some (.aload_n 0) := rfl
set_option maxRecDepth 100000 in
theorem yr2s_116 : j_code jP 61 116 = some (.getfield 27) := rfl
set_option maxRecDepth 100000 in
theorem yr2s_119 : j_code jP 61 119 = some (.iconst 0) := rfl
set_option maxRecDepth 100000 in
theorem yr2s_120 : j_code jP 61 120 = some (.iconst 5) := rfl
set_option maxRecDepth 100000 in
theorem yr2s_121 : j_code jP 61 121 = some (.invokestatic 84) := rfl
set_option maxRecDepth 100000 in
theorem yr2s_124 : j_code jP 61 124 = some (.aload_n 1) := rfl
set_option maxRecDepth 100000 in
theorem yr2s_125 : j_code jP 61 125 = some (.getfield 30) := rfl
set_option maxRecDepth 100000 in
theorem yr2s_128 : j_code jP 61 128 = some (.iconst 0) := rfl
set_option maxRecDepth 100000 in
theorem yr2s_129 : j_code jP 61 129 = some (.aload_n 0) := rfl
set_option maxRecDepth 100000 in
theorem yr2s_130 : j_code jP 61 130 = some (.getfield 30) := rfl
set_option maxRecDepth 100000 in
theorem yr2s_133 : j_code jP 61 133 = some (.iconst 0) := rfl
set_option maxRecDepth 100000 in
theorem yr2s_134 : j_code jP 61 134 = some (.iconst 5) := rfl
set_option maxRecDepth 100000 in
theorem yr2s_135 : j_code jP 61 135 = some (.invokestatic 84) := rfl
set_option maxRecDepth 100000 in
theorem yr2s_138 : j_code jP 61 138 = some (.aload_n 1) := rfl
set_option maxRecDepth 100000 in
theorem yr2s_139 : j_code jP 61 139 = some (.getfield 33) := rfl
set_option maxRecDepth 100000 in
theorem yr2s_142 : j_code jP 61 142 = some (.iconst 0) := rfl
set_option maxRecDepth 100000 in
theorem yr2s_143 : j_code jP 61 143 = some (.aload_n 0) := rfl
set_option maxRecDepth 100000 in
theorem yr2s_144 : j_code jP 61 144 = some (.getfield 33) := rfl
set_option maxRecDepth 100000 in
theorem yr2s_147 : j_code jP 61 147 = some (.iconst 0) := rfl
set_option maxRecDepth 100000 in
theorem yr2s_148 : j_code jP 61 148 = some (.bipush 6) := rfl
set_option maxRecDepth 100000 in
theorem yr2s_150 : j_code jP 61 150 = some (.invokestatic 84) := rfl
set_option maxRecDepth 100000 in
theorem yr2s_153 : j_code jP 61 153 = some (.aload_n 1) := rfl
set_option maxRecDepth 100000 in
theorem yr2s_154 : j_code jP 61 154 = some (.getfield 36) := rfl
set_option maxRecDepth 100000 in
theorem yr2s_157 : j_code jP 61 157 = some (.iconst 0) := rfl
set_option maxRecDepth 100000 in
theorem yr2s_158 : j_code jP 61 158 = some (.aload_n 0) := rfl
set_option maxRecDepth 100000 in
theorem yr2s_159 : j_code jP 61 159 = some (.getfield 36) := rfl
set_option maxRecDepth 100000 in
theorem yr2s_162 : j_code jP 61 162 = some (.iconst 0) := rfl
set_option maxRecDepth 100000 in
theorem yr2s_163 : j_code jP 61 163 = some (.bipush 6) := rfl
set_option maxRecDepth 100000 in
theorem yr2s_165 : j_code jP 61 165 = some (.invokestatic 84) := rfl
set_option maxRecDepth 100000 in
theorem yr2s_168 : j_code jP 61 168 = some (.aload_n 1) := rfl
set_option maxRecDepth 100000 in
theorem yr2s_169 : j_code jP 61 169 = some (.getfield 39) := rfl
set_option maxRecDepth 100000 in
theorem yr2s_172 : j_code jP 61 172 = some (.iconst 0) := rfl
set_option maxRecDepth 100000 in
theorem yr2s_173 : j_code jP 61 173 = some (.aload_n 0) := rfl
set_option maxRecDepth 100000 in
theorem yr2s_174 : j_code jP 61 174 = some (.getfield 39) := rfl
set_option maxRecDepth 100000 in
theorem yr2s_177 : j_code jP 61 177 = some (.iconst 0) := rfl
set_option maxRecDepth 100000 in
theorem yr2s_178 : j_code jP 61 178 = some (.aload_n 0) := rfl
set_option maxRecDepth 100000 in
theorem yr2s_179 : j_code jP 61 179 = some (.getfield 39) := rfl
set_option maxRecDepth 100000 in
theorem yr2s_182 : j_code jP 61 182 = some (.arraylength) := rfl
set_option maxRecDepth 100000 in
theorem yr2s_183 : j_code jP 61 183 = some (.invokestatic 84) := rfl
set_option maxRecDepth 100000 in
theorem yr2s_186 : j_code jP 61 186 = some (.aload_n 1) := rfl
set_option maxRecDepth 100000 in
theorem yr2s_187 : j_code jP 61 187 = some (.getfield 42) := rfl
set_option maxRecDepth 100000 in
theorem yr2s_190 : j_code jP 61 190 = some (.iconst 0) := rfl
set_option maxRecDepth 100000 in
theorem yr2s_191 : j_code jP 61 191 = some (.aload_n 0) := rfl
set_option maxRecDepth 100000 in
theorem yr2s_192 : j_code jP 61 192 = some (.getfield 42) := rfl
set_option maxRecDepth 100000 in
theorem yr2s_195 : j_code jP 61 195 = some (.iconst 0) := rfl
set_option maxRecDepth 100000 in
theorem yr2s_196 : j_code jP 61 196 = some (.aload_n 0) := rfl
set_option maxRecDepth 100000 in
theorem yr2s_197 : j_code jP 61 197 = some (.getfield 42) := rfl
set_option maxRecDepth 100000 in
theorem yr2s_200 : j_code jP 61 200 = some (.arraylength) := rfl
set_option maxRecDepth 100000 in
theorem yr2s_201 : j_code jP 61 201 = some (.invokestatic 84) := rfl
set_option maxRecDepth 100000 in
theorem yr2s_204 : j_code jP 61 204 = some (.aload_n 1) := rfl
set_option maxRecDepth 100000 in
theorem yr2s_205 : j_code jP 61 205 = some (.getfield 45) := rfl
set_option maxRecDepth 100000 in
theorem yr2s_208 : j_code jP 61 208 = some (.iconst 0) := rfl
set_option maxRecDepth 100000 in
theorem yr2s_209 : j_code jP 61 209 = some (.aload_n 0) := rfl
set_option maxRecDepth 100000 in
theorem yr2s_210 : j_code jP 61 210 = some (.getfield 45) := rfl
set_option maxRecDepth 100000 in
theorem yr2s_213 : j_code jP 61 213 = some (.iconst 0) := rfl
set_option maxRecDepth 100000 in
theorem yr2s_214 : j_code jP 61 214 = some (.aload_n 0) := rfl
set_option maxRecDepth 100000 in
theorem yr2s_215 : j_code jP 61 215 = some (.getfield 45) := rfl
set_option maxRecDepth 100000 in
theorem yr2s_218 : j_code jP 61 218 = some (.arraylength) := rfl
set_option maxRecDepth 100000 in
theorem yr2s_219 : j_code jP 61 219 = some (.invokestatic 84) := rfl
set_option maxRecDepth 100000 in
theorem yr2s_222 : j_code jP 61 222 = some (.aload_n 0) := rfl
set_option maxRecDepth 100000 in
theorem yr2s_223 : j_code jP 61 223 = some (.getfield 60) := rfl
set_option maxRecDepth 100000 in
theorem yr2s_226 : j_code jP 61 226 = some (.aload_n 1) := rfl
set_option maxRecDepth 100000 in
theorem yr2s_227 : j_code jP 61 227 = some (.getfield 60) := rfl
set_option maxRecDepth 100000 in
theorem yr2s_230 : j_code jP 61 230 = some (.invokevirtual 108) := rfl
set_option maxRecDepth 100000 in
theorem yr2s_233 : j_code jP 61 233 = some (.return_) := rfl
set_option maxRecDepth 1000000 in
theorem yr2s_k0 {ly : Value} {mi : Int32} {shu : Int32} {bus : Int32} {lks : Int32} {lys : Nat} {mis : Int32} {shus : Int32} {buss : Int32} {lkss : Int32} {d : Nat} {lv : J_L} {h h0 : J_H} {Q : Option Value → J_H → Prop} (L : LK lv [(0, .ref 81), (1, .ref 4)]) (K : KN h [(4, .inl (7, [.ref lys, .int mis, .int shus, .int buss, .ref 5, .ref 6, .ref 7, .ref 8, .ref 9, .ref 10, .ref 11, .ref 12, .ref 13, .ref 14, .ref 15, .int lkss, .ref 16, .ref 17, .ref 20])), (81, .inl (7, [ly, .int mi, .int shu, .int bus, .ref 82, .ref 83, .ref 84, .ref 85, .ref 86, .ref 87, .ref 88, .ref 89, .ref 90, .ref 91, .ref 92, .int lks, .ref 93, .ref 94, .ref 97]))] h0) (kk : ∀ lv h, LK lv [(0, .ref 81), (1, .ref 4)] → KN h [(4, .inl (7, [.ref lys, .int mis, .int shus, .int buss, .ref 5, .ref 6, .ref 7, .ref 8, .ref 9, .ref 10, .ref 11, .ref 12, .ref 13, .ref 14, .ref 15, .int lkss, .ref 16, .ref 17, .ref 20])), (81, .inl (7, [.ref lys, .int mis, .int shus, .int buss, .ref 82, .ref 83, .ref 84, .ref 85, .ref 86, .ref 87, .ref 88, .ref 89, .ref 90, .ref 91, .ref 92, .int lkss, .ref 93, .ref 94, .ref 97]))] h0 → j_V jP d 61 40 lv [] h Q) : j_V jP d 61 0 lv [] h Q := by
  refine j_V.ldL yr2s_M yr2s_0 rfl (i := 0) (kd := 2) (v := .ref 81) (pcJ := 1) rfl L rfl rfl rfl ?_
  refine j_V.ldL yr2s_M yr2s_1 rfl (i := 1) (kd := 2) (v := .ref 4) (pcJ := 2) rfl L rfl rfl rfl ?_
  refine j_V.getK yr2s_M yr2s_2 (ci := 7) (j := 0) rfl K rfl rfl ?_
  refine j_V.putK yr2s_M yr2s_5 (ci := 7) (j := 0) (k' := [(4, .inl (7, [.ref lys, .int mis, .int shus, .int buss, .ref 5, .ref 6, .ref 7, .ref 8, .ref 9, .ref 10, .ref 11, .ref 12, .ref 13, .ref 14, .ref 15, .int lkss, .ref 16, .ref 17, .ref 20])), (81, .inl (7, [.ref lys, .int mi, .int shu, .int bus, .ref 82, .ref 83, .ref 84, .ref 85, .ref 86, .ref 87, .ref 88, .ref 89, .ref 90, .ref 91, .ref 92, .int lks, .ref 93, .ref 94, .ref 97]))]) rfl K rfl (Nat.le_of_ble_eq_true rfl) rfl (Or.inl rfl) rfl rfl (fun h K => ?_)
  refine j_V.ldL yr2s_M yr2s_8 rfl (i := 0) (kd := 2) (v := .ref 81) (pcJ := 9) rfl L rfl rfl rfl ?_
  refine j_V.ldL yr2s_M yr2s_9 rfl (i := 1) (kd := 2) (v := .ref 4) (pcJ := 10) rfl L rfl rfl rfl ?_
  refine j_V.getK yr2s_M yr2s_10 (ci := 7) (j := 1) rfl K rfl rfl ?_
  refine j_V.putK yr2s_M yr2s_13 (ci := 7) (j := 1) (k' := [(4, .inl (7, [.ref lys, .int mis, .int shus, .int buss, .ref 5, .ref 6, .ref 7, .ref 8, .ref 9, .ref 10, .ref 11, .ref 12, .ref 13, .ref 14, .ref 15, .int lkss, .ref 16, .ref 17, .ref 20])), (81, .inl (7, [.ref lys, .int mis, .int shu, .int bus, .ref 82, .ref 83, .ref 84, .ref 85, .ref 86, .ref 87, .ref 88, .ref 89, .ref 90, .ref 91, .ref 92, .int lks, .ref 93, .ref 94, .ref 97]))]) rfl K rfl (Nat.le_of_ble_eq_true rfl) rfl (Or.inl rfl) rfl rfl (fun h K => ?_)
  refine j_V.ldL yr2s_M yr2s_16 rfl (i := 0) (kd := 2) (v := .ref 81) (pcJ := 17) rfl L rfl rfl rfl ?_
  refine j_V.ldL yr2s_M yr2s_17 rfl (i := 1) (kd := 2) (v := .ref 4) (pcJ := 18) rfl L rfl rfl rfl ?_
  refine j_V.getK yr2s_M yr2s_18 (ci := 7) (j := 2) rfl K rfl rfl ?_
  refine j_V.putK yr2s_M yr2s_21 (ci := 7) (j := 2) (k' := [(4, .inl (7, [.ref lys, .int mis, .int shus, .int buss, .ref 5, .ref 6, .ref 7, .ref 8, .ref 9, .ref 10, .ref 11, .ref 12, .ref 13, .ref 14, .ref 15, .int lkss, .ref 16, .ref 17, .ref 20])), (81, .inl (7, [.ref lys, .int mis, .int shus, .int bus, .ref 82, .ref 83, .ref 84, .ref 85, .ref 86, .ref 87, .ref 88, .ref 89, .ref 90, .ref 91, .ref 92, .int lks, .ref 93, .ref 94, .ref 97]))]) rfl K rfl (Nat.le_of_ble_eq_true rfl) rfl (Or.inl rfl) rfl rfl (fun h K => ?_)
  refine j_V.ldL yr2s_M yr2s_24 rfl (i := 0) (kd := 2) (v := .ref 81) (pcJ := 25) rfl L rfl rfl rfl ?_
  refine j_V.ldL yr2s_M yr2s_25 rfl (i := 1) (kd := 2) (v := .ref 4) (pcJ := 26) rfl L rfl rfl rfl ?_
  refine j_V.getK yr2s_M yr2s_26 (ci := 7) (j := 3) rfl K rfl rfl ?_
  refine j_V.putK yr2s_M yr2s_29 (ci := 7) (j := 3) (k' := [(4, .inl (7, [.ref lys, .int mis, .int shus, .int buss, .ref 5, .ref 6, .ref 7, .ref 8, .ref 9, .ref 10, .ref 11, .ref 12, .ref 13, .ref 14, .ref 15, .int lkss, .ref 16, .ref 17, .ref 20])), (81, .inl (7, [.ref lys, .int mis, .int shus, .int buss, .ref 82, .ref 83, .ref 84, .ref 85, .ref 86, .ref 87, .ref 88, .ref 89, .ref 90, .ref 91, .ref 92, .int lks, .ref 93, .ref 94, .ref 97]))]) rfl K rfl (Nat.le_of_ble_eq_true rfl) rfl (Or.inl rfl) rfl rfl (fun h K => ?_)
  refine j_V.ldL yr2s_M yr2s_32 rfl (i := 0) (kd := 2) (v := .ref 81) (pcJ := 33) rfl L rfl rfl rfl ?_
  refine j_V.ldL yr2s_M yr2s_33 rfl (i := 1) (kd := 2) (v := .ref 4) (pcJ := 34) rfl L rfl rfl rfl ?_
  refine j_V.getK yr2s_M yr2s_34 (ci := 7) (j := 15) rfl K rfl rfl ?_
  refine j_V.putK yr2s_M yr2s_37 (ci := 7) (j := 15) (k' := [(4, .inl (7, [.ref lys, .int mis, .int shus, .int buss, .ref 5, .ref 6, .ref 7, .ref 8, .ref 9, .ref 10, .ref 11, .ref 12, .ref 13, .ref 14, .ref 15, .int lkss, .ref 16, .ref 17, .ref 20])), (81, .inl (7, [.ref lys, .int mis, .int shus, .int buss, .ref 82, .ref 83, .ref 84, .ref 85, .ref 86, .ref 87, .ref 88, .ref 89, .ref 90, .ref 91, .ref 92, .int lkss, .ref 93, .ref 94, .ref 97]))]) rfl K rfl (Nat.le_of_ble_eq_true rfl) rfl (Or.inl rfl) rfl rfl (fun h K => ?_)
  exact kk _ _ L K
set_option maxRecDepth 1000000 in
theorem yr2s_k40 {rk : List Int32} {sta : List Int32} {ph : List Int32} {lys : Nat} {mis : Int32} {shus : Int32} {buss : Int32} {lkss : Int32} {rks : List Int32} {stas : List Int32} {phs : List Int32} {d : Nat} {lv : J_L} {h h0 : J_H} {Q : Option Value → J_H → Prop} (L : LK lv [(0, .ref 81), (1, .ref 4)]) (K : KN h [(4, .inl (7, [.ref lys, .int mis, .int shus, .int buss, .ref 5, .ref 6, .ref 7, .ref 8, .ref 9, .ref 10, .ref 11, .ref 12, .ref 13, .ref 14, .ref 15, .int lkss, .ref 16, .ref 17, .ref 20])), (5, .inr (.inl (0, rks))), (6, .inr (.inl (0, stas))), (7, .inr (.inl (0, phs))), (81, .inl (7, [.ref lys, .int mis, .int shus, .int buss, .ref 82, .ref 83, .ref 84, .ref 85, .ref 86, .ref 87, .ref 88, .ref 89, .ref 90, .ref 91, .ref 92, .int lkss, .ref 93, .ref 94, .ref 97])), (82, .inr (.inl (0, rk))), (83, .inr (.inl (0, sta))), (84, .inr (.inl (0, ph)))] h0) (kk : ∀ lv h, LK lv [(0, .ref 81), (1, .ref 4)] → KN h [(4, .inl (7, [.ref lys, .int mis, .int shus, .int buss, .ref 5, .ref 6, .ref 7, .ref 8, .ref 9, .ref 10, .ref 11, .ref 12, .ref 13, .ref 14, .ref 15, .int lkss, .ref 16, .ref 17, .ref 20])), (5, .inr (.inl (0, rks))), (6, .inr (.inl (0, stas))), (7, .inr (.inl (0, phs))), (81, .inl (7, [.ref lys, .int mis, .int shus, .int buss, .ref 82, .ref 83, .ref 84, .ref 85, .ref 86, .ref 87, .ref 88, .ref 89, .ref 90, .ref 91, .ref 92, .int lkss, .ref 93, .ref 94, .ref 97])), (82, .inr (.inl (0, (aC 5 rks rk)))), (83, .inr (.inl (0, (aC 5 stas sta)))), (84, .inr (.inl (0, (aC 5 phs ph))))] h0 → j_V jP d 61 82 lv [] h Q) : j_V jP d 61 40 lv [] h Q := by
  refine j_V.ldL yr2s_M yr2s_40 rfl (i := 1) (kd := 2) (v := .ref 4) (pcJ := 41) rfl L rfl rfl rfl ?_
  refine j_V.getK yr2s_M yr2s_41 (ci := 7) (j := 4) rfl K rfl rfl ?_
  refine j_V.one yr2s_M yr2s_44 (by decide) (pcJ := 45) (stJ := [.int 0, .ref 5]) rfl ?_
  refine j_V.ldL yr2s_M yr2s_45 rfl (i := 0) (kd := 2) (v := .ref 81) (pcJ := 46) rfl L rfl rfl rfl ?_
  refine j_V.getK yr2s_M yr2s_46 (ci := 7) (j := 4) rfl K rfl rfl ?_
  refine j_V.one yr2s_M yr2s_49 (by decide) (pcJ := 50) (stJ := [.int 0, .ref 82, .int 0, .ref 5]) rfl ?_
  refine j_V.one yr2s_M yr2s_50 (by decide) (pcJ := 51) (stJ := [.int 5, .int 0, .ref 82, .int 0, .ref 5]) rfl ?_
  refine j_V.acp yr2s_M yr2s_51 rfl rfl K rfl rfl rfl (fun h K => ?_)
  refine j_V.ldL yr2s_M yr2s_54 rfl (i := 1) (kd := 2) (v := .ref 4) (pcJ := 55) rfl L rfl rfl rfl ?_
  refine j_V.getK yr2s_M yr2s_55 (ci := 7) (j := 5) rfl K rfl rfl ?_
  refine j_V.one yr2s_M yr2s_58 (by decide) (pcJ := 59) (stJ := [.int 0, .ref 6]) rfl ?_
  refine j_V.ldL yr2s_M yr2s_59 rfl (i := 0) (kd := 2) (v := .ref 81) (pcJ := 60) rfl L rfl rfl rfl ?_
  refine j_V.getK yr2s_M yr2s_60 (ci := 7) (j := 5) rfl K rfl rfl ?_
  refine j_V.one yr2s_M yr2s_63 (by decide) (pcJ := 64) (stJ := [.int 0, .ref 83, .int 0, .ref 6]) rfl ?_
  refine j_V.one yr2s_M yr2s_64 (by decide) (pcJ := 65) (stJ := [.int 5, .int 0, .ref 83, .int 0, .ref 6]) rfl ?_
  refine j_V.acp yr2s_M yr2s_65 rfl rfl K rfl rfl rfl (fun h K => ?_)
  refine j_V.ldL yr2s_M yr2s_68 rfl (i := 1) (kd := 2) (v := .ref 4) (pcJ := 69) rfl L rfl rfl rfl ?_
  refine j_V.getK yr2s_M yr2s_69 (ci := 7) (j := 6) rfl K rfl rfl ?_
  refine j_V.one yr2s_M yr2s_72 (by decide) (pcJ := 73) (stJ := [.int 0, .ref 7]) rfl ?_
  refine j_V.ldL yr2s_M yr2s_73 rfl (i := 0) (kd := 2) (v := .ref 81) (pcJ := 74) rfl L rfl rfl rfl ?_
  refine j_V.getK yr2s_M yr2s_74 (ci := 7) (j := 6) rfl K rfl rfl ?_
  refine j_V.one yr2s_M yr2s_77 (by decide) (pcJ := 78) (stJ := [.int 0, .ref 84, .int 0, .ref 7]) rfl ?_
  refine j_V.one yr2s_M yr2s_78 (by decide) (pcJ := 79) (stJ := [.int 5, .int 0, .ref 84, .int 0, .ref 7]) rfl ?_
  refine j_V.acp yr2s_M yr2s_79 rfl rfl K rfl rfl rfl (fun h K => ?_)
  exact kk _ _ L K
set_option maxRecDepth 1000000 in
theorem yr2s_k82 {sp : List Int32} {ce : List Int32} {du : List Int32} {lys : Nat} {mis : Int32} {shus : Int32} {buss : Int32} {lkss : Int32} {sps : List Int32} {ces : List Int32} {dus : List Int32} {d : Nat} {lv : J_L} {h h0 : J_H} {Q : Option Value → J_H → Prop} (L : LK lv [(0, .ref 81), (1, .ref 4)]) (K : KN h [(4, .inl (7, [.ref lys, .int mis, .int shus, .int buss, .ref 5, .ref 6, .ref 7, .ref 8, .ref 9, .ref 10, .ref 11, .ref 12, .ref 13, .ref 14, .ref 15, .int lkss, .ref 16, .ref 17, .ref 20])), (8, .inr (.inl (0, sps))), (9, .inr (.inl (0, ces))), (10, .inr (.inl (0, dus))), (81, .inl (7, [.ref lys, .int mis, .int shus, .int buss, .ref 82, .ref 83, .ref 84, .ref 85, .ref 86, .ref 87, .ref 88, .ref 89, .ref 90, .ref 91, .ref 92, .int lkss, .ref 93, .ref 94, .ref 97])), (85, .inr (.inl (0, sp))), (86, .inr (.inl (0, ce))), (87, .inr (.inl (0, du)))] h0) (kk : ∀ lv h, LK lv [(0, .ref 81), (1, .ref 4)] → KN h [(4, .inl (7, [.ref lys, .int mis, .int shus, .int buss, .ref 5, .ref 6, .ref 7, .ref 8, .ref 9, .ref 10, .ref 11, .ref 12, .ref 13, .ref 14, .ref 15, .int lkss, .ref 16, .ref 17, .ref 20])), (8, .inr (.inl (0, sps))), (9, .inr (.inl (0, ces))), (10, .inr (.inl (0, dus))), (81, .inl (7, [.ref lys, .int mis, .int shus, .int buss, .ref 82, .ref 83, .ref 84, .ref 85, .ref 86, .ref 87, .ref 88, .ref 89, .ref 90, .ref 91, .ref 92, .int lkss, .ref 93, .ref 94, .ref 97])), (85, .inr (.inl (0, (aC 5 sps sp)))), (86, .inr (.inl (0, (aC 5 ces ce)))), (87, .inr (.inl (0, (aC 5 dus du))))] h0 → j_V jP d 61 124 lv [] h Q) : j_V jP d 61 82 lv [] h Q := by
  refine j_V.ldL yr2s_M yr2s_82 rfl (i := 1) (kd := 2) (v := .ref 4) (pcJ := 83) rfl L rfl rfl rfl ?_
  refine j_V.getK yr2s_M yr2s_83 (ci := 7) (j := 7) rfl K rfl rfl ?_
  refine j_V.one yr2s_M yr2s_86 (by decide) (pcJ := 87) (stJ := [.int 0, .ref 8]) rfl ?_
  refine j_V.ldL yr2s_M yr2s_87 rfl (i := 0) (kd := 2) (v := .ref 81) (pcJ := 88) rfl L rfl rfl rfl ?_
  refine j_V.getK yr2s_M yr2s_88 (ci := 7) (j := 7) rfl K rfl rfl ?_
  refine j_V.one yr2s_M yr2s_91 (by decide) (pcJ := 92) (stJ := [.int 0, .ref 85, .int 0, .ref 8]) rfl ?_
  refine j_V.one yr2s_M yr2s_92 (by decide) (pcJ := 93) (stJ := [.int 5, .int 0, .ref 85, .int 0, .ref 8]) rfl ?_
  refine j_V.acp yr2s_M yr2s_93 rfl rfl K rfl rfl rfl (fun h K => ?_)
  refine j_V.ldL yr2s_M yr2s_96 rfl (i := 1) (kd := 2) (v := .ref 4) (pcJ := 97) rfl L rfl rfl rfl ?_
  refine j_V.getK yr2s_M yr2s_97 (ci := 7) (j := 8) rfl K rfl rfl ?_
  refine j_V.one yr2s_M yr2s_100 (by decide) (pcJ := 101) (stJ := [.int 0, .ref 9]) rfl ?_
  refine j_V.ldL yr2s_M yr2s_101 rfl (i := 0) (kd := 2) (v := .ref 81) (pcJ := 102) rfl L rfl rfl rfl ?_
  refine j_V.getK yr2s_M yr2s_102 (ci := 7) (j := 8) rfl K rfl rfl ?_
  refine j_V.one yr2s_M yr2s_105 (by decide) (pcJ := 106) (stJ := [.int 0, .ref 86, .int 0, .ref 9]) rfl ?_
  refine j_V.one yr2s_M yr2s_106 (by decide) (pcJ := 107) (stJ := [.int 5, .int 0, .ref 86, .int 0, .ref 9]) rfl ?_
  refine j_V.acp yr2s_M yr2s_107 rfl rfl K rfl rfl rfl (fun h K => ?_)
  refine j_V.ldL yr2s_M yr2s_110 rfl (i := 1) (kd := 2) (v := .ref 4) (pcJ := 111) rfl L rfl rfl rfl ?_
  refine j_V.getK yr2s_M yr2s_111 (ci := 7) (j := 9) rfl K rfl rfl ?_
  refine j_V.one yr2s_M yr2s_114 (by decide) (pcJ := 115) (stJ := [.int 0, .ref 10]) rfl ?_
  refine j_V.ldL yr2s_M yr2s_115 rfl (i := 0) (kd := 2) (v := .ref 81) (pcJ := 116) rfl L rfl rfl rfl ?_
  refine j_V.getK yr2s_M yr2s_116 (ci := 7) (j := 9) rfl K rfl rfl ?_
  refine j_V.one yr2s_M yr2s_119 (by decide) (pcJ := 120) (stJ := [.int 0, .ref 87, .int 0, .ref 10]) rfl ?_
  refine j_V.one yr2s_M yr2s_120 (by decide) (pcJ := 121) (stJ := [.int 5, .int 0, .ref 87, .int 0, .ref 10]) rfl ?_
  refine j_V.acp yr2s_M yr2s_121 rfl rfl K rfl rfl rfl (fun h K => ?_)
  exact kk _ _ L K
set_option maxRecDepth 1000000 in
theorem yr2s_k124 {he : List Int32} {ri : List Int32} {us : List Int32} {lys : Nat} {mis : Int32} {shus : Int32} {buss : Int32} {lkss : Int32} {hes : List Int32} {ris : List Int32} {uss : List Int32} {d : Nat} {lv : J_L} {h h0 : J_H} {Q : Option Value → J_H → Prop} (L : LK lv [(0, .ref 81), (1, .ref 4)]) (K : KN h [(4, .inl (7, [.ref lys, .int mis, .int shus, .int buss, .ref 5, .ref 6, .ref 7, .ref 8, .ref 9, .ref 10, .ref 11, .ref 12, .ref 13, .ref 14, .ref 15, .int lkss, .ref 16, .ref 17, .ref 20])), (11, .inr (.inl (0, hes))), (12, .inr (.inl (0, ris))), (13, .inr (.inl (0, uss))), (81, .inl (7, [.ref lys, .int mis, .int shus, .int buss, .ref 82, .ref 83, .ref 84, .ref 85, .ref 86, .ref 87, .ref 88, .ref 89, .ref 90, .ref 91, .ref 92, .int lkss, .ref 93, .ref 94, .ref 97])), (88, .inr (.inl (0, he))), (89, .inr (.inl (0, ri))), (90, .inr (.inl (0, us)))] h0) (kk : ∀ lv h, LK lv [(0, .ref 81), (1, .ref 4)] → KN h [(4, .inl (7, [.ref lys, .int mis, .int shus, .int buss, .ref 5, .ref 6, .ref 7, .ref 8, .ref 9, .ref 10, .ref 11, .ref 12, .ref 13, .ref 14, .ref 15, .int lkss, .ref 16, .ref 17, .ref 20])), (11, .inr (.inl (0, hes))), (12, .inr (.inl (0, ris))), (13, .inr (.inl (0, uss))), (81, .inl (7, [.ref lys, .int mis, .int shus, .int buss, .ref 82, .ref 83, .ref 84, .ref 85, .ref 86, .ref 87, .ref 88, .ref 89, .ref 90, .ref 91, .ref 92, .int lkss, .ref 93, .ref 94, .ref 97])), (88, .inr (.inl (0, (aC 5 hes he)))), (89, .inr (.inl (0, (aC 6 ris ri)))), (90, .inr (.inl (0, (aC 6 uss us))))] h0 → j_V jP d 61 168 lv [] h Q) : j_V jP d 61 124 lv [] h Q := by
  refine j_V.ldL yr2s_M yr2s_124 rfl (i := 1) (kd := 2) (v := .ref 4) (pcJ := 125) rfl L rfl rfl rfl ?_
  refine j_V.getK yr2s_M yr2s_125 (ci := 7) (j := 10) rfl K rfl rfl ?_
  refine j_V.one yr2s_M yr2s_128 (by decide) (pcJ := 129) (stJ := [.int 0, .ref 11]) rfl ?_
  refine j_V.ldL yr2s_M yr2s_129 rfl (i := 0) (kd := 2) (v := .ref 81) (pcJ := 130) rfl L rfl rfl rfl ?_
  refine j_V.getK yr2s_M yr2s_130 (ci := 7) (j := 10) rfl K rfl rfl ?_
  refine j_V.one yr2s_M yr2s_133 (by decide) (pcJ := 134) (stJ := [.int 0, .ref 88, .int 0, .ref 11]) rfl ?_
  refine j_V.one yr2s_M yr2s_134 (by decide) (pcJ := 135) (stJ := [.int 5, .int 0, .ref 88, .int 0, .ref 11]) rfl ?_
  refine j_V.acp yr2s_M yr2s_135 rfl rfl K rfl rfl rfl (fun h K => ?_)
  refine j_V.ldL yr2s_M yr2s_138 rfl (i := 1) (kd := 2) (v := .ref 4) (pcJ := 139) rfl L rfl rfl rfl ?_
  refine j_V.getK yr2s_M yr2s_139 (ci := 7) (j := 11) rfl K rfl rfl ?_
  refine j_V.one yr2s_M yr2s_142 (by decide) (pcJ := 143) (stJ := [.int 0, .ref 12]) rfl ?_
  refine j_V.ldL yr2s_M yr2s_143 rfl (i := 0) (kd := 2) (v := .ref 81) (pcJ := 144) rfl L rfl rfl rfl ?_
  refine j_V.getK yr2s_M yr2s_144 (ci := 7) (j := 11) rfl K rfl rfl ?_
  refine j_V.one yr2s_M yr2s_147 (by decide) (pcJ := 148) (stJ := [.int 0, .ref 89, .int 0, .ref 12]) rfl ?_
  refine j_V.one yr2s_M yr2s_148 (by decide) (pcJ := 150) (stJ := [.int 6, .int 0, .ref 89, .int 0, .ref 12]) rfl ?_
  refine j_V.acp yr2s_M yr2s_150 rfl rfl K rfl rfl rfl (fun h K => ?_)
  refine j_V.ldL yr2s_M yr2s_153 rfl (i := 1) (kd := 2) (v := .ref 4) (pcJ := 154) rfl L rfl rfl rfl ?_
  refine j_V.getK yr2s_M yr2s_154 (ci := 7) (j := 12) rfl K rfl rfl ?_
  refine j_V.one yr2s_M yr2s_157 (by decide) (pcJ := 158) (stJ := [.int 0, .ref 13]) rfl ?_
  refine j_V.ldL yr2s_M yr2s_158 rfl (i := 0) (kd := 2) (v := .ref 81) (pcJ := 159) rfl L rfl rfl rfl ?_
  refine j_V.getK yr2s_M yr2s_159 (ci := 7) (j := 12) rfl K rfl rfl ?_
  refine j_V.one yr2s_M yr2s_162 (by decide) (pcJ := 163) (stJ := [.int 0, .ref 90, .int 0, .ref 13]) rfl ?_
  refine j_V.one yr2s_M yr2s_163 (by decide) (pcJ := 165) (stJ := [.int 6, .int 0, .ref 90, .int 0, .ref 13]) rfl ?_
  refine j_V.acp yr2s_M yr2s_165 rfl rfl K rfl rfl rfl (fun h K => ?_)
  exact kk _ _ L K
set_option maxRecDepth 1000000 in
theorem yr2s_k168 {cm : List Int32} {lf : List Int32} {lkd : List Int32} {lys : Nat} {mis : Int32} {shus : Int32} {buss : Int32} {lkss : Int32} {cms : List Int32} {lfs : List Int32} {lkds : List Int32} {d : Nat} {lv : J_L} {h h0 : J_H} {Q : Option Value → J_H → Prop} (L : LK lv [(0, .ref 81), (1, .ref 4)]) (K : KN h [(4, .inl (7, [.ref lys, .int mis, .int shus, .int buss, .ref 5, .ref 6, .ref 7, .ref 8, .ref 9, .ref 10, .ref 11, .ref 12, .ref 13, .ref 14, .ref 15, .int lkss, .ref 16, .ref 17, .ref 20])), (14, .inr (.inl (0, cms))), (15, .inr (.inl (0, lfs))), (16, .inr (.inl (0, lkds))), (81, .inl (7, [.ref lys, .int mis, .int shus, .int buss, .ref 82, .ref 83, .ref 84, .ref 85, .ref 86, .ref 87, .ref 88, .ref 89, .ref 90, .ref 91, .ref 92, .int lkss, .ref 93, .ref 94, .ref 97])), (91, .inr (.inl (0, cm))), (92, .inr (.inl (0, lf))), (93, .inr (.inl (0, lkd)))] h0) (kk : ∀ lv h, LK lv [(0, .ref 81), (1, .ref 4)] → KN h [(4, .inl (7, [.ref lys, .int mis, .int shus, .int buss, .ref 5, .ref 6, .ref 7, .ref 8, .ref 9, .ref 10, .ref 11, .ref 12, .ref 13, .ref 14, .ref 15, .int lkss, .ref 16, .ref 17, .ref 20])), (14, .inr (.inl (0, cms))), (15, .inr (.inl (0, lfs))), (16, .inr (.inl (0, lkds))), (81, .inl (7, [.ref lys, .int mis, .int shus, .int buss, .ref 82, .ref 83, .ref 84, .ref 85, .ref 86, .ref 87, .ref 88, .ref 89, .ref 90, .ref 91, .ref 92, .int lkss, .ref 93, .ref 94, .ref 97])), (91, .inr (.inl (0, (aC (nI cm.length) cms cm)))), (92, .inr (.inl (0, (aC (nI lf.length) lfs lf)))), (93, .inr (.inl (0, (aC (nI lkd.length) lkds lkd))))] h0 → j_V jP d 61 222 lv [] h Q) : j_V jP d 61 168 lv [] h Q := by
  refine j_V.ldL yr2s_M yr2s_168 rfl (i := 1) (kd := 2) (v := .ref 4) (pcJ := 169) rfl L rfl rfl rfl ?_
  refine j_V.getK yr2s_M yr2s_169 (ci := 7) (j := 13) rfl K rfl rfl ?_
  refine j_V.one yr2s_M yr2s_172 (by decide) (pcJ := 173) (stJ := [.int 0, .ref 14]) rfl ?_
  refine j_V.ldL yr2s_M yr2s_173 rfl (i := 0) (kd := 2) (v := .ref 81) (pcJ := 174) rfl L rfl rfl rfl ?_
  refine j_V.getK yr2s_M yr2s_174 (ci := 7) (j := 13) rfl K rfl rfl ?_
  refine j_V.one yr2s_M yr2s_177 (by decide) (pcJ := 178) (stJ := [.int 0, .ref 91, .int 0, .ref 14]) rfl ?_
  refine j_V.ldL yr2s_M yr2s_178 rfl (i := 0) (kd := 2) (v := .ref 81) (pcJ := 179) rfl L rfl rfl rfl ?_
  refine j_V.getK yr2s_M yr2s_179 (ci := 7) (j := 13) rfl K rfl rfl ?_
  refine j_V.alnA yr2s_M yr2s_182 K rfl ?_
  refine j_V.acp yr2s_M yr2s_183 rfl rfl K rfl rfl rfl (fun h K => ?_)
  refine j_V.ldL yr2s_M yr2s_186 rfl (i := 1) (kd := 2) (v := .ref 4) (pcJ := 187) rfl L rfl rfl rfl ?_
  refine j_V.getK yr2s_M yr2s_187 (ci := 7) (j := 14) rfl K rfl rfl ?_
  refine j_V.one yr2s_M yr2s_190 (by decide) (pcJ := 191) (stJ := [.int 0, .ref 15]) rfl ?_
  refine j_V.ldL yr2s_M yr2s_191 rfl (i := 0) (kd := 2) (v := .ref 81) (pcJ := 192) rfl L rfl rfl rfl ?_
  refine j_V.getK yr2s_M yr2s_192 (ci := 7) (j := 14) rfl K rfl rfl ?_
  refine j_V.one yr2s_M yr2s_195 (by decide) (pcJ := 196) (stJ := [.int 0, .ref 92, .int 0, .ref 15]) rfl ?_
  refine j_V.ldL yr2s_M yr2s_196 rfl (i := 0) (kd := 2) (v := .ref 81) (pcJ := 197) rfl L rfl rfl rfl ?_
  refine j_V.getK yr2s_M yr2s_197 (ci := 7) (j := 14) rfl K rfl rfl ?_
  refine j_V.alnA yr2s_M yr2s_200 K rfl ?_
  refine j_V.acp yr2s_M yr2s_201 rfl rfl K rfl rfl rfl (fun h K => ?_)
  refine j_V.ldL yr2s_M yr2s_204 rfl (i := 1) (kd := 2) (v := .ref 4) (pcJ := 205) rfl L rfl rfl rfl ?_
  refine j_V.getK yr2s_M yr2s_205 (ci := 7) (j := 16) rfl K rfl rfl ?_
  refine j_V.one yr2s_M yr2s_208 (by decide) (pcJ := 209) (stJ := [.int 0, .ref 16]) rfl ?_
  refine j_V.ldL yr2s_M yr2s_209 rfl (i := 0) (kd := 2) (v := .ref 81) (pcJ := 210) rfl L rfl rfl rfl ?_
  refine j_V.getK yr2s_M yr2s_210 (ci := 7) (j := 16) rfl K rfl rfl ?_
  refine j_V.one yr2s_M yr2s_213 (by decide) (pcJ := 214) (stJ := [.int 0, .ref 93, .int 0, .ref 16]) rfl ?_
  refine j_V.ldL yr2s_M yr2s_214 rfl (i := 0) (kd := 2) (v := .ref 81) (pcJ := 215) rfl L rfl rfl rfl ?_
  refine j_V.getK yr2s_M yr2s_215 (ci := 7) (j := 16) rfl K rfl rfl ?_
  refine j_V.alnA yr2s_M yr2s_218 K rfl ?_
  refine j_V.acp yr2s_M yr2s_219 rfl rfl K rfl rfl rfl (fun h K => ?_)
  exact kk _ _ L K
set_option maxRecDepth 1000000 in
theorem yr2s_ok {ly : Value} {mi : Int32} {shu : Int32} {bus : Int32} {lks : Int32} {rk : List Int32} {sta : List Int32} {ph : List Int32} {sp : List Int32} {ce : List Int32} {du : List Int32} {he : List Int32} {ri : List Int32} {us : List Int32} {cm : List Int32} {lf : List Int32} {lkd : List Int32} {pev : Int32} {pms : List Int32} {pmm : List Int32} {pmt : List Int32} {pst : List Int32} {pwa : List Int32} {prs : List Int32} {prr : List Int32} {pfa : List Int32} {lys : Nat} {mis : Int32} {shus : Int32} {buss : Int32} {lkss : Int32} {rks : List Int32} {stas : List Int32} {phs : List Int32} {sps : List Int32} {ces : List Int32} {dus : List Int32} {hes : List Int32} {ris : List Int32} {uss : List Int32} {cms : List Int32} {lfs : List Int32} {lkds : List Int32} {pevs : Int32} {pmss : List Int32} {pmms : List Int32} {pmts : List Int32} {psts : List Int32} {pwas : List Int32} {prss : List Int32} {prrs : List Int32} {pfas : List Int32} {d : Nat} {h h0 : J_H} (K : KN h [(4, .inl (7, [.ref lys, .int mis, .int shus, .int buss, .ref 5, .ref 6, .ref 7, .ref 8, .ref 9, .ref 10, .ref 11, .ref 12, .ref 13, .ref 14, .ref 15, .int lkss, .ref 16, .ref 17, .ref 20])), (5, .inr (.inl (0, rks))), (6, .inr (.inl (0, stas))), (7, .inr (.inl (0, phs))), (8, .inr (.inl (0, sps))), (9, .inr (.inl (0, ces))), (10, .inr (.inl (0, dus))), (11, .inr (.inl (0, hes))), (12, .inr (.inl (0, ris))), (13, .inr (.inl (0, uss))), (14, .inr (.inl (0, cms))), (15, .inr (.inl (0, lfs))), (16, .inr (.inl (0, lkds))), (20, .inl (3, [.ref 21, .ref 22, .ref 23, .ref 24, .ref 25, .ref 26, .ref 27, .ref 28, .int pevs, .int 1])), (21, .inr (.inl (0, pmss))), (22, .inr (.inl (0, pmms))), (23, .inr (.inl (0, pmts))), (24, .inr (.inl (0, psts))), (25, .inr (.inl (0, pwas))), (26, .inr (.inl (0, prss))), (27, .inr (.inl (0, prrs))), (28, .inr (.inl (0, pfas))), (81, .inl (7, [ly, .int mi, .int shu, .int bus, .ref 82, .ref 83, .ref 84, .ref 85, .ref 86, .ref 87, .ref 88, .ref 89, .ref 90, .ref 91, .ref 92, .int lks, .ref 93, .ref 94, .ref 97])), (82, .inr (.inl (0, rk))), (83, .inr (.inl (0, sta))), (84, .inr (.inl (0, ph))), (85, .inr (.inl (0, sp))), (86, .inr (.inl (0, ce))), (87, .inr (.inl (0, du))), (88, .inr (.inl (0, he))), (89, .inr (.inl (0, ri))), (90, .inr (.inl (0, us))), (91, .inr (.inl (0, cm))), (92, .inr (.inl (0, lf))), (93, .inr (.inl (0, lkd))), (97, .inl (3, [.ref 98, .ref 99, .ref 100, .ref 101, .ref 102, .ref 103, .ref 104, .ref 105, .int pev, .int 1])), (98, .inr (.inl (0, pms))), (99, .inr (.inl (0, pmm))), (100, .inr (.inl (0, pmt))), (101, .inr (.inl (0, pst))), (102, .inr (.inl (0, pwa))), (103, .inr (.inl (0, prs))), (104, .inr (.inl (0, prr))), (105, .inr (.inl (0, pfa)))] h0) : j_V jP d 61 0 (lv_args 0 [.ref 81, .ref 4]) [] h (fun rv h' => rv = none ∧ KN h' [(4, .inl (7, [.ref lys, .int mis, .int shus, .int buss, .ref 5, .ref 6, .ref 7, .ref 8, .ref 9, .ref 10, .ref 11, .ref 12, .ref 13, .ref 14, .ref 15, .int lkss, .ref 16, .ref 17, .ref 20])), (5, .inr (.inl (0, rks))), (6, .inr (.inl (0, stas))), (7, .inr (.inl (0, phs))), (8, .inr (.inl (0, sps))), (9, .inr (.inl (0, ces))), (10, .inr (.inl (0, dus))), (11, .inr (.inl (0, hes))), (12, .inr (.inl (0, ris))), (13, .inr (.inl (0, uss))), (14, .inr (.inl (0, cms))), (15, .inr (.inl (0, lfs))), (16, .inr (.inl (0, lkds))), (20, .inl (3, [.ref 21, .ref 22, .ref 23, .ref 24, .ref 25, .ref 26, .ref 27, .ref 28, .int pevs, .int 1])), (21, .inr (.inl (0, pmss))), (22, .inr (.inl (0, pmms))), (23, .inr (.inl (0, pmts))), (24, .inr (.inl (0, psts))), (25, .inr (.inl (0, pwas))), (26, .inr (.inl (0, prss))), (27, .inr (.inl (0, prrs))), (28, .inr (.inl (0, pfas))), (81, .inl (7, [.ref lys, .int mis, .int shus, .int buss, .ref 82, .ref 83, .ref 84, .ref 85, .ref 86, .ref 87, .ref 88, .ref 89, .ref 90, .ref 91, .ref 92, .int lkss, .ref 93, .ref 94, .ref 97])), (82, .inr (.inl (0, (aC 5 rks rk)))), (83, .inr (.inl (0, (aC 5 stas sta)))), (84, .inr (.inl (0, (aC 5 phs ph)))), (85, .inr (.inl (0, (aC 5 sps sp)))), (86, .inr (.inl (0, (aC 5 ces ce)))), (87, .inr (.inl (0, (aC 5 dus du)))), (88, .inr (.inl (0, (aC 5 hes he)))), (89, .inr (.inl (0, (aC 6 ris ri)))), (90, .inr (.inl (0, (aC 6 uss us)))), (91, .inr (.inl (0, (aC (nI cm.length) cms cm)))), (92, .inr (.inl (0, (aC (nI lf.length) lfs lf)))), (93, .inr (.inl (0, (aC (nI lkd.length) lkds lkd)))), (97, .inl (3, [.ref 98, .ref 99, .ref 100, .ref 101, .ref 102, .ref 103, .ref 104, .ref 105, .int pevs, .int 1])), (98, .inr (.inl (0, (aC (nI pms.length) pmss pms)))), (99, .inr (.inl (0, (aC (nI pmm.length) pmms pmm)))), (100, .inr (.inl (0, (aC (nI pmt.length) pmts pmt)))), (101, .inr (.inl (0, (aC (nI pst.length) psts pst)))), (102, .inr (.inl (0, (aC (nI pwa.length) pwas pwa)))), (103, .inr (.inl (0, (aC (nI prs.length) prss prs)))), (104, .inr (.inl (0, (aC (nI prr.length) prrs prr)))), (105, .inr (.inl (0, (aC (nI pfa.length) pfas pfa))))] h0) := by
  show j_V jP d 61 0 [(0, .ref 81), (1, .ref 4)] [] h _
  obtain ⟨lv, elv, L⟩ : ∃ lv, lv = [(0, .ref 81), (1, .ref 4)] ∧ LK lv [(0, .ref 81), (1, .ref 4)] := ⟨_, rfl, LK.rf⟩
  rw [← elv]
  clear elv
  refine yr2s_k0 L (K.fi [4, 81] rfl rfl) (fun lv h9 L K9 => ?_)
  have K : KN h9 [(4, .inl (7, [.ref lys, .int mis, .int shus, .int buss, .ref 5, .ref 6, .ref 7, .ref 8, .ref 9, .ref 10, .ref 11, .ref 12, .ref 13, .ref 14, .ref 15, .int lkss, .ref 16, .ref 17, .ref 20])), (5, .inr (.inl (0, rks))), (6, .inr (.inl (0, stas))), (7, .inr (.inl (0, phs))), (8, .inr (.inl (0, sps))), (9, .inr (.inl (0, ces))), (10, .inr (.inl (0, dus))), (11, .inr (.inl (0, hes))), (12, .inr (.inl (0, ris))), (13, .inr (.inl (0, uss))), (14, .inr (.inl (0, cms))), (15, .inr (.inl (0, lfs))), (16, .inr (.inl (0, lkds))), (20, .inl (3, [.ref 21, .ref 22, .ref 23, .ref 24, .ref 25, .ref 26, .ref 27, .ref 28, .int pevs, .int 1])), (21, .inr (.inl (0, pmss))), (22, .inr (.inl (0, pmms))), (23, .inr (.inl (0, pmts))), (24, .inr (.inl (0, psts))), (25, .inr (.inl (0, pwas))), (26, .inr (.inl (0, prss))), (27, .inr (.inl (0, prrs))), (28, .inr (.inl (0, pfas))), (81, .inl (7, [.ref lys, .int mis, .int shus, .int buss, .ref 82, .ref 83, .ref 84, .ref 85, .ref 86, .ref 87, .ref 88, .ref 89, .ref 90, .ref 91, .ref 92, .int lkss, .ref 93, .ref 94, .ref 97])), (82, .inr (.inl (0, rk))), (83, .inr (.inl (0, sta))), (84, .inr (.inl (0, ph))), (85, .inr (.inl (0, sp))), (86, .inr (.inl (0, ce))), (87, .inr (.inl (0, du))), (88, .inr (.inl (0, he))), (89, .inr (.inl (0, ri))), (90, .inr (.inl (0, us))), (91, .inr (.inl (0, cm))), (92, .inr (.inl (0, lf))), (93, .inr (.inl (0, lkd))), (97, .inl (3, [.ref 98, .ref 99, .ref 100, .ref 101, .ref 102, .ref 103, .ref 104, .ref 105, .int pev, .int 1])), (98, .inr (.inl (0, pms))), (99, .inr (.inl (0, pmm))), (100, .inr (.inl (0, pmt))), (101, .inr (.inl (0, pst))), (102, .inr (.inl (0, pwa))), (103, .inr (.inl (0, prs))), (104, .inr (.inl (0, prr))), (105, .inr (.inl (0, pfa)))] h0 := K.mg K9 rfl rfl
  clear K9
  refine yr2s_k40 L (K.fi [4, 5, 6, 7, 81, 82, 83, 84] rfl rfl) (fun lv h9 L K9 => ?_)
  have K : KN h9 [(4, .inl (7, [.ref lys, .int mis, .int shus, .int buss, .ref 5, .ref 6, .ref 7, .ref 8, .ref 9, .ref 10, .ref 11, .ref 12, .ref 13, .ref 14, .ref 15, .int lkss, .ref 16, .ref 17, .ref 20])), (5, .inr (.inl (0, rks))), (6, .inr (.inl (0, stas))), (7, .inr (.inl (0, phs))), (8, .inr (.inl (0, sps))), (9, .inr (.inl (0, ces))), (10, .inr (.inl (0, dus))), (11, .inr (.inl (0, hes))), (12, .inr (.inl (0, ris))), (13, .inr (.inl (0, uss))), (14, .inr (.inl (0, cms))), (15, .inr (.inl (0, lfs))), (16, .inr (.inl (0, lkds))), (20, .inl (3, [.ref 21, .ref 22, .ref 23, .ref 24, .ref 25, .ref 26, .ref 27, .ref 28, .int pevs, .int 1])), (21, .inr (.inl (0, pmss))), (22, .inr (.inl (0, pmms))), (23, .inr (.inl (0, pmts))), (24, .inr (.inl (0, psts))), (25, .inr (.inl (0, pwas))), (26, .inr (.inl (0, prss))), (27, .inr (.inl (0, prrs))), (28, .inr (.inl (0, pfas))), (81, .inl (7, [.ref lys, .int mis, .int shus, .int buss, .ref 82, .ref 83, .ref 84, .ref 85, .ref 86, .ref 87, .ref 88, .ref 89, .ref 90, .ref 91, .ref 92, .int lkss, .ref 93, .ref 94, .ref 97])), (82, .inr (.inl (0, (aC 5 rks rk)))), (83, .inr (.inl (0, (aC 5 stas sta)))), (84, .inr (.inl (0, (aC 5 phs ph)))), (85, .inr (.inl (0, sp))), (86, .inr (.inl (0, ce))), (87, .inr (.inl (0, du))), (88, .inr (.inl (0, he))), (89, .inr (.inl (0, ri))), (90, .inr (.inl (0, us))), (91, .inr (.inl (0, cm))), (92, .inr (.inl (0, lf))), (93, .inr (.inl (0, lkd))), (97, .inl (3, [.ref 98, .ref 99, .ref 100, .ref 101, .ref 102, .ref 103, .ref 104, .ref 105, .int pev, .int 1])), (98, .inr (.inl (0, pms))), (99, .inr (.inl (0, pmm))), (100, .inr (.inl (0, pmt))), (101, .inr (.inl (0, pst))), (102, .inr (.inl (0, pwa))), (103, .inr (.inl (0, prs))), (104, .inr (.inl (0, prr))), (105, .inr (.inl (0, pfa)))] h0 := K.mg K9 rfl rfl
  clear K9
  refine yr2s_k82 L (K.fi [4, 8, 9, 10, 81, 85, 86, 87] rfl rfl) (fun lv h9 L K9 => ?_)
  have K : KN h9 [(4, .inl (7, [.ref lys, .int mis, .int shus, .int buss, .ref 5, .ref 6, .ref 7, .ref 8, .ref 9, .ref 10, .ref 11, .ref 12, .ref 13, .ref 14, .ref 15, .int lkss, .ref 16, .ref 17, .ref 20])), (5, .inr (.inl (0, rks))), (6, .inr (.inl (0, stas))), (7, .inr (.inl (0, phs))), (8, .inr (.inl (0, sps))), (9, .inr (.inl (0, ces))), (10, .inr (.inl (0, dus))), (11, .inr (.inl (0, hes))), (12, .inr (.inl (0, ris))), (13, .inr (.inl (0, uss))), (14, .inr (.inl (0, cms))), (15, .inr (.inl (0, lfs))), (16, .inr (.inl (0, lkds))), (20, .inl (3, [.ref 21, .ref 22, .ref 23, .ref 24, .ref 25, .ref 26, .ref 27, .ref 28, .int pevs, .int 1])), (21, .inr (.inl (0, pmss))), (22, .inr (.inl (0, pmms))), (23, .inr (.inl (0, pmts))), (24, .inr (.inl (0, psts))), (25, .inr (.inl (0, pwas))), (26, .inr (.inl (0, prss))), (27, .inr (.inl (0, prrs))), (28, .inr (.inl (0, pfas))), (81, .inl (7, [.ref lys, .int mis, .int shus, .int buss, .ref 82, .ref 83, .ref 84, .ref 85, .ref 86, .ref 87, .ref 88, .ref 89, .ref 90, .ref 91, .ref 92, .int lkss, .ref 93, .ref 94, .ref 97])), (82, .inr (.inl (0, (aC 5 rks rk)))), (83, .inr (.inl (0, (aC 5 stas sta)))), (84, .inr (.inl (0, (aC 5 phs ph)))), (85, .inr (.inl (0, (aC 5 sps sp)))), (86, .inr (.inl (0, (aC 5 ces ce)))), (87, .inr (.inl (0, (aC 5 dus du)))), (88, .inr (.inl (0, he))), (89, .inr (.inl (0, ri))), (90, .inr (.inl (0, us))), (91, .inr (.inl (0, cm))), (92, .inr (.inl (0, lf))), (93, .inr (.inl (0, lkd))), (97, .inl (3, [.ref 98, .ref 99, .ref 100, .ref 101, .ref 102, .ref 103, .ref 104, .ref 105, .int pev, .int 1])), (98, .inr (.inl (0, pms))), (99, .inr (.inl (0, pmm))), (100, .inr (.inl (0, pmt))), (101, .inr (.inl (0, pst))), (102, .inr (.inl (0, pwa))), (103, .inr (.inl (0, prs))), (104, .inr (.inl (0, prr))), (105, .inr (.inl (0, pfa)))] h0 := K.mg K9 rfl rfl
  clear K9
  refine yr2s_k124 L (K.fi [4, 11, 12, 13, 81, 88, 89, 90] rfl rfl) (fun lv h9 L K9 => ?_)
  have K : KN h9 [(4, .inl (7, [.ref lys, .int mis, .int shus, .int buss, .ref 5, .ref 6, .ref 7, .ref 8, .ref 9, .ref 10, .ref 11, .ref 12, .ref 13, .ref 14, .ref 15, .int lkss, .ref 16, .ref 17, .ref 20])), (5, .inr (.inl (0, rks))), (6, .inr (.inl (0, stas))), (7, .inr (.inl (0, phs))), (8, .inr (.inl (0, sps))), (9, .inr (.inl (0, ces))), (10, .inr (.inl (0, dus))), (11, .inr (.inl (0, hes))), (12, .inr (.inl (0, ris))), (13, .inr (.inl (0, uss))), (14, .inr (.inl (0, cms))), (15, .inr (.inl (0, lfs))), (16, .inr (.inl (0, lkds))), (20, .inl (3, [.ref 21, .ref 22, .ref 23, .ref 24, .ref 25, .ref 26, .ref 27, .ref 28, .int pevs, .int 1])), (21, .inr (.inl (0, pmss))), (22, .inr (.inl (0, pmms))), (23, .inr (.inl (0, pmts))), (24, .inr (.inl (0, psts))), (25, .inr (.inl (0, pwas))), (26, .inr (.inl (0, prss))), (27, .inr (.inl (0, prrs))), (28, .inr (.inl (0, pfas))), (81, .inl (7, [.ref lys, .int mis, .int shus, .int buss, .ref 82, .ref 83, .ref 84, .ref 85, .ref 86, .ref 87, .ref 88, .ref 89, .ref 90, .ref 91, .ref 92, .int lkss, .ref 93, .ref 94, .ref 97])), (82, .inr (.inl (0, (aC 5 rks rk)))), (83, .inr (.inl (0, (aC 5 stas sta)))), (84, .inr (.inl (0, (aC 5 phs ph)))), (85, .inr (.inl (0, (aC 5 sps sp)))), (86, .inr (.inl (0, (aC 5 ces ce)))), (87, .inr (.inl (0, (aC 5 dus du)))), (88, .inr (.inl (0, (aC 5 hes he)))), (89, .inr (.inl (0, (aC 6 ris ri)))), (90, .inr (.inl (0, (aC 6 uss us)))), (91, .inr (.inl (0, cm))), (92, .inr (.inl (0, lf))), (93, .inr (.inl (0, lkd))), (97, .inl (3, [.ref 98, .ref 99, .ref 100, .ref 101, .ref 102, .ref 103, .ref 104, .ref 105, .int pev, .int 1])), (98, .inr (.inl (0, pms))), (99, .inr (.inl (0, pmm))), (100, .inr (.inl (0, pmt))), (101, .inr (.inl (0, pst))), (102, .inr (.inl (0, pwa))), (103, .inr (.inl (0, prs))), (104, .inr (.inl (0, prr))), (105, .inr (.inl (0, pfa)))] h0 := K.mg K9 rfl rfl
  clear K9
  refine yr2s_k168 L (K.fi [4, 14, 15, 16, 81, 91, 92, 93] rfl rfl) (fun lv h9 L K9 => ?_)
  have K : KN h9 [(4, .inl (7, [.ref lys, .int mis, .int shus, .int buss, .ref 5, .ref 6, .ref 7, .ref 8, .ref 9, .ref 10, .ref 11, .ref 12, .ref 13, .ref 14, .ref 15, .int lkss, .ref 16, .ref 17, .ref 20])), (5, .inr (.inl (0, rks))), (6, .inr (.inl (0, stas))), (7, .inr (.inl (0, phs))), (8, .inr (.inl (0, sps))), (9, .inr (.inl (0, ces))), (10, .inr (.inl (0, dus))), (11, .inr (.inl (0, hes))), (12, .inr (.inl (0, ris))), (13, .inr (.inl (0, uss))), (14, .inr (.inl (0, cms))), (15, .inr (.inl (0, lfs))), (16, .inr (.inl (0, lkds))), (20, .inl (3, [.ref 21, .ref 22, .ref 23, .ref 24, .ref 25, .ref 26, .ref 27, .ref 28, .int pevs, .int 1])), (21, .inr (.inl (0, pmss))), (22, .inr (.inl (0, pmms))), (23, .inr (.inl (0, pmts))), (24, .inr (.inl (0, psts))), (25, .inr (.inl (0, pwas))), (26, .inr (.inl (0, prss))), (27, .inr (.inl (0, prrs))), (28, .inr (.inl (0, pfas))), (81, .inl (7, [.ref lys, .int mis, .int shus, .int buss, .ref 82, .ref 83, .ref 84, .ref 85, .ref 86, .ref 87, .ref 88, .ref 89, .ref 90, .ref 91, .ref 92, .int lkss, .ref 93, .ref 94, .ref 97])), (82, .inr (.inl (0, (aC 5 rks rk)))), (83, .inr (.inl (0, (aC 5 stas sta)))), (84, .inr (.inl (0, (aC 5 phs ph)))), (85, .inr (.inl (0, (aC 5 sps sp)))), (86, .inr (.inl (0, (aC 5 ces ce)))), (87, .inr (.inl (0, (aC 5 dus du)))), (88, .inr (.inl (0, (aC 5 hes he)))), (89, .inr (.inl (0, (aC 6 ris ri)))), (90, .inr (.inl (0, (aC 6 uss us)))), (91, .inr (.inl (0, (aC (nI cm.length) cms cm)))), (92, .inr (.inl (0, (aC (nI lf.length) lfs lf)))), (93, .inr (.inl (0, (aC (nI lkd.length) lkds lkd)))), (97, .inl (3, [.ref 98, .ref 99, .ref 100, .ref 101, .ref 102, .ref 103, .ref 104, .ref 105, .int pev, .int 1])), (98, .inr (.inl (0, pms))), (99, .inr (.inl (0, pmm))), (100, .inr (.inl (0, pmt))), (101, .inr (.inl (0, pst))), (102, .inr (.inl (0, pwa))), (103, .inr (.inl (0, prs))), (104, .inr (.inl (0, prr))), (105, .inr (.inl (0, pfa)))] h0 := K.mg K9 rfl rfl
  clear K9
  refine j_V.ldL yr2s_M yr2s_222 rfl (i := 0) (kd := 2) (v := .ref 81) (pcJ := 223) rfl L rfl rfl rfl ?_
  refine j_V.getK yr2s_M yr2s_223 (ci := 7) (j := 18) rfl K rfl rfl ?_
  refine j_V.ldL yr2s_M yr2s_226 rfl (i := 1) (kd := 2) (v := .ref 4) (pcJ := 227) rfl L rfl rfl rfl ?_
  refine j_V.getK yr2s_M yr2s_227 (ci := 7) (j := 18) rfl K rfl rfl ?_
  refine j_V.cl yr2s_M yr2s_230 rfl (md := 3) (mj := 28) rfl (by decide) yr2p_M (As := [.ref 97, .ref 20]) (rest := []) (jk_spl3 (K.at rfl) rfl rfl rfl (Nat.le_of_ble_eq_true rfl) (Nat.le_of_ble_eq_true rfl)) (fun d => yr2p_ok (K.fi [20, 21, 22, 23, 24, 25, 26, 27, 28, 97, 98, 99, 100, 101, 102, 103, 104, 105] rfl rfl)) ?_
  rintro r h9 ⟨rfl, K9⟩
  have K : KN h9 [(4, .inl (7, [.ref lys, .int mis, .int shus, .int buss, .ref 5, .ref 6, .ref 7, .ref 8, .ref 9, .ref 10, .ref 11, .ref 12, .ref 13, .ref 14, .ref 15, .int lkss, .ref 16, .ref 17, .ref 20])), (5, .inr (.inl (0, rks))), (6, .inr (.inl (0, stas))), (7, .inr (.inl (0, phs))), (8, .inr (.inl (0, sps))), (9, .inr (.inl (0, ces))), (10, .inr (.inl (0, dus))), (11, .inr (.inl (0, hes))), (12, .inr (.inl (0, ris))), (13, .inr (.inl (0, uss))), (14, .inr (.inl (0, cms))), (15, .inr (.inl (0, lfs))), (16, .inr (.inl (0, lkds))), (20, .inl (3, [.ref 21, .ref 22, .ref 23, .ref 24, .ref 25, .ref 26, .ref 27, .ref 28, .int pevs, .int 1])), (21, .inr (.inl (0, pmss))), (22, .inr (.inl (0, pmms))), (23, .inr (.inl (0, pmts))), (24, .inr (.inl (0, psts))), (25, .inr (.inl (0, pwas))), (26, .inr (.inl (0, prss))), (27, .inr (.inl (0, prrs))), (28, .inr (.inl (0, pfas))), (81, .inl (7, [.ref lys, .int mis, .int shus, .int buss, .ref 82, .ref 83, .ref 84, .ref 85, .ref 86, .ref 87, .ref 88, .ref 89, .ref 90, .ref 91, .ref 92, .int lkss, .ref 93, .ref 94, .ref 97])), (82, .inr (.inl (0, (aC 5 rks rk)))), (83, .inr (.inl (0, (aC 5 stas sta)))), (84, .inr (.inl (0, (aC 5 phs ph)))), (85, .inr (.inl (0, (aC 5 sps sp)))), (86, .inr (.inl (0, (aC 5 ces ce)))), (87, .inr (.inl (0, (aC 5 dus du)))), (88, .inr (.inl (0, (aC 5 hes he)))), (89, .inr (.inl (0, (aC 6 ris ri)))), (90, .inr (.inl (0, (aC 6 uss us)))), (91, .inr (.inl (0, (aC (nI cm.length) cms cm)))), (92, .inr (.inl (0, (aC (nI lf.length) lfs lf)))), (93, .inr (.inl (0, (aC (nI lkd.length) lkds lkd)))), (97, .inl (3, [.ref 98, .ref 99, .ref 100, .ref 101, .ref 102, .ref 103, .ref 104, .ref 105, .int pevs, .int 1])), (98, .inr (.inl (0, (aC (nI pms.length) pmss pms)))), (99, .inr (.inl (0, (aC (nI pmm.length) pmms pmm)))), (100, .inr (.inl (0, (aC (nI pmt.length) pmts pmt)))), (101, .inr (.inl (0, (aC (nI pst.length) psts pst)))), (102, .inr (.inl (0, (aC (nI pwa.length) pwas pwa)))), (103, .inr (.inl (0, (aC (nI prs.length) prss prs)))), (104, .inr (.inl (0, (aC (nI prr.length) prrs prr)))), (105, .inr (.inl (0, (aC (nI pfa.length) pfas pfa))))] h0 := K.mg K9 rfl rfl
  clear K9
  show j_V jP _ 61 233 lv [] h9 _
  exact j_V.ret yr2s_M yr2s_233 rfl rfl ⟨rfl, K⟩
set_option maxRecDepth 100000 in
theorem yr2m_M : j_meth jP 2 = some (yX0_remember, cX0_remember, 2, none, 1, false, 0) := rfl
set_option maxRecDepth 100000 in
theorem yr2m_0 : j_code jP 2 0 = some (.aload_n 0) := rfl
set_option maxRecDepth 100000 in
theorem yr2m_1 : j_code jP 2 1 = some (.getfield 11) := rfl
set_option maxRecDepth 100000 in
theorem yr2m_4 : j_code jP 2 4 = some (.aload_n 0) := rfl
set_option maxRecDepth 100000 in
theorem yr2m_5 : j_code jP 2 5 = some (.getfield 24) := rfl
set_option maxRecDepth 100000 in
theorem yr2m_8 : j_code jP 2 8 = some (.aaload) := rfl
set_option maxRecDepth 100000 in
theorem yr2m_9 : j_code jP 2 9 = some (.aload_n 1) := rfl
set_option maxRecDepth 100000 in
theorem yr2m_10 : j_code jP 2 10 = some (.invokevirtual 27) := rfl
set_option maxRecDepth 100000 in
theorem yr2m_13 : j_code jP 2 13 = some (.aload_n 0) := rfl
set_option maxRecDepth 100000 in
theorem yr2m_14 : j_code jP 2 14 = some (.aload_n 0) := rfl
set_option maxRecDepth 100000 in
theorem yr2m_15 : j_code jP 2 15 = some (.getfield 24) := rfl
set_option maxRecDepth 100000 in
theorem yr2m_18 : j_code jP 2 18 = some (.iconst 1) := rfl
set_option maxRecDepth 100000 in
theorem yr2m_19 : j_code jP 2 19 = some (.iadd) := rfl
set_option maxRecDepth 100000 in
theorem yr2m_20 : j_code jP 2 20 = some (.bipush 10) := rfl
set_option maxRecDepth 100000 in
theorem yr2m_22 : j_code jP 2 22 = some (.irem) := rfl
set_option maxRecDepth 100000 in
theorem yr2m_23 : j_code jP 2 23 = some (.putfield 24) := rfl
set_option maxRecDepth 100000 in
theorem yr2m_26 : j_code jP 2 26 = some (.aload_n 0) := rfl
set_option maxRecDepth 100000 in
theorem yr2m_27 : j_code jP 2 27 = some (.aload_n 0) := rfl
set_option maxRecDepth 100000 in
theorem yr2m_28 : j_code jP 2 28 = some (.getfield 20) := rfl
set_option maxRecDepth 100000 in
theorem yr2m_31 : j_code jP 2 31 = some (.iconst 1) := rfl
set_option maxRecDepth 100000 in
theorem yr2m_32 : j_code jP 2 32 = some (.iadd) := rfl
set_option maxRecDepth 100000 in
theorem yr2m_33 : j_code jP 2 33 = some (.bipush 10) := rfl
set_option maxRecDepth 100000 in
theorem yr2m_35 : j_code jP 2 35 = some (.invokestatic 31) := rfl
set_option maxRecDepth 100000 in
theorem yr2m_38 : j_code jP 2 38 = some (.putfield 20) := rfl
set_option maxRecDepth 100000 in
theorem yr2m_41 : j_code jP 2 41 = some (.return_) := rfl
set_option maxRecDepth 1000000 in
theorem yr2m_ok {ly : Value} {mi : Int32} {shu : Int32} {bus : Int32} {lks : Int32} {rk : List Int32} {sta : List Int32} {ph : List Int32} {sp : List Int32} {ce : List Int32} {du : List Int32} {he : List Int32} {ri : List Int32} {us : List Int32} {cm : List Int32} {lf : List Int32} {lkd : List Int32} {pev : Int32} {pms : List Int32} {pmm : List Int32} {pmt : List Int32} {pst : List Int32} {pwa : List Int32} {prs : List Int32} {prr : List Int32} {pfa : List Int32} {lys : Nat} {mis : Int32} {shus : Int32} {buss : Int32} {lkss : Int32} {rks : List Int32} {stas : List Int32} {phs : List Int32} {sps : List Int32} {ces : List Int32} {dus : List Int32} {hes : List Int32} {ris : List Int32} {uss : List Int32} {cms : List Int32} {lfs : List Int32} {lkds : List Int32} {pevs : Int32} {pmss : List Int32} {pmms : List Int32} {pmts : List Int32} {psts : List Int32} {pwas : List Int32} {prss : List Int32} {prrs : List Int32} {pfas : List Int32} {acco : Int32} {d : Nat} {h h0 : J_H} (K : KN h [(4, .inl (7, [.ref lys, .int mis, .int shus, .int buss, .ref 5, .ref 6, .ref 7, .ref 8, .ref 9, .ref 10, .ref 11, .ref 12, .ref 13, .ref 14, .ref 15, .int lkss, .ref 16, .ref 17, .ref 20])), (5, .inr (.inl (0, rks))), (6, .inr (.inl (0, stas))), (7, .inr (.inl (0, phs))), (8, .inr (.inl (0, sps))), (9, .inr (.inl (0, ces))), (10, .inr (.inl (0, dus))), (11, .inr (.inl (0, hes))), (12, .inr (.inl (0, ris))), (13, .inr (.inl (0, uss))), (14, .inr (.inl (0, cms))), (15, .inr (.inl (0, lfs))), (16, .inr (.inl (0, lkds))), (20, .inl (3, [.ref 21, .ref 22, .ref 23, .ref 24, .ref 25, .ref 26, .ref 27, .ref 28, .int pevs, .int 1])), (21, .inr (.inl (0, pmss))), (22, .inr (.inl (0, pmms))), (23, .inr (.inl (0, pmts))), (24, .inr (.inl (0, psts))), (25, .inr (.inl (0, pwas))), (26, .inr (.inl (0, prss))), (27, .inr (.inl (0, prrs))), (28, .inr (.inl (0, pfas))), (29, .inl (0, [.ref 30, .int 2, .int acco])), (30, .inr (.inr (.inr [some 31, some 56, some 81, some 106, some 131, some 156, some 181, some 206, some 231, some 256]))), (81, .inl (7, [ly, .int mi, .int shu, .int bus, .ref 82, .ref 83, .ref 84, .ref 85, .ref 86, .ref 87, .ref 88, .ref 89, .ref 90, .ref 91, .ref 92, .int lks, .ref 93, .ref 94, .ref 97])), (82, .inr (.inl (0, rk))), (83, .inr (.inl (0, sta))), (84, .inr (.inl (0, ph))), (85, .inr (.inl (0, sp))), (86, .inr (.inl (0, ce))), (87, .inr (.inl (0, du))), (88, .inr (.inl (0, he))), (89, .inr (.inl (0, ri))), (90, .inr (.inl (0, us))), (91, .inr (.inl (0, cm))), (92, .inr (.inl (0, lf))), (93, .inr (.inl (0, lkd))), (97, .inl (3, [.ref 98, .ref 99, .ref 100, .ref 101, .ref 102, .ref 103, .ref 104, .ref 105, .int pev, .int 1])), (98, .inr (.inl (0, pms))), (99, .inr (.inl (0, pmm))), (100, .inr (.inl (0, pmt))), (101, .inr (.inl (0, pst))), (102, .inr (.inl (0, pwa))), (103, .inr (.inl (0, prs))), (104, .inr (.inl (0, prr))), (105, .inr (.inl (0, pfa)))] h0) : j_V jP d 2 0 (lv_args 0 [.ref 29, .ref 4]) [] h (fun rv h' => rv = none ∧ KN h' [(4, .inl (7, [.ref lys, .int mis, .int shus, .int buss, .ref 5, .ref 6, .ref 7, .ref 8, .ref 9, .ref 10, .ref 11, .ref 12, .ref 13, .ref 14, .ref 15, .int lkss, .ref 16, .ref 17, .ref 20])), (5, .inr (.inl (0, rks))), (6, .inr (.inl (0, stas))), (7, .inr (.inl (0, phs))), (8, .inr (.inl (0, sps))), (9, .inr (.inl (0, ces))), (10, .inr (.inl (0, dus))), (11, .inr (.inl (0, hes))), (12, .inr (.inl (0, ris))), (13, .inr (.inl (0, uss))), (14, .inr (.inl (0, cms))), (15, .inr (.inl (0, lfs))), (16, .inr (.inl (0, lkds))), (20, .inl (3, [.ref 21, .ref 22, .ref 23, .ref 24, .ref 25, .ref 26, .ref 27, .ref 28, .int pevs, .int 1])), (21, .inr (.inl (0, pmss))), (22, .inr (.inl (0, pmms))), (23, .inr (.inl (0, pmts))), (24, .inr (.inl (0, psts))), (25, .inr (.inl (0, pwas))), (26, .inr (.inl (0, prss))), (27, .inr (.inl (0, prrs))), (28, .inr (.inl (0, pfas))), (29, .inl (0, [.ref 30, .int 3, .int (iMn (acco + 1) 10)])), (30, .inr (.inr (.inr [some 31, some 56, some 81, some 106, some 131, some 156, some 181, some 206, some 231, some 256]))), (81, .inl (7, [.ref lys, .int mis, .int shus, .int buss, .ref 82, .ref 83, .ref 84, .ref 85, .ref 86, .ref 87, .ref 88, .ref 89, .ref 90, .ref 91, .ref 92, .int lkss, .ref 93, .ref 94, .ref 97])), (82, .inr (.inl (0, (aC 5 rks rk)))), (83, .inr (.inl (0, (aC 5 stas sta)))), (84, .inr (.inl (0, (aC 5 phs ph)))), (85, .inr (.inl (0, (aC 5 sps sp)))), (86, .inr (.inl (0, (aC 5 ces ce)))), (87, .inr (.inl (0, (aC 5 dus du)))), (88, .inr (.inl (0, (aC 5 hes he)))), (89, .inr (.inl (0, (aC 6 ris ri)))), (90, .inr (.inl (0, (aC 6 uss us)))), (91, .inr (.inl (0, (aC (nI cm.length) cms cm)))), (92, .inr (.inl (0, (aC (nI lf.length) lfs lf)))), (93, .inr (.inl (0, (aC (nI lkd.length) lkds lkd)))), (97, .inl (3, [.ref 98, .ref 99, .ref 100, .ref 101, .ref 102, .ref 103, .ref 104, .ref 105, .int pevs, .int 1])), (98, .inr (.inl (0, (aC (nI pms.length) pmss pms)))), (99, .inr (.inl (0, (aC (nI pmm.length) pmms pmm)))), (100, .inr (.inl (0, (aC (nI pmt.length) pmts pmt)))), (101, .inr (.inl (0, (aC (nI pst.length) psts pst)))), (102, .inr (.inl (0, (aC (nI pwa.length) pwas pwa)))), (103, .inr (.inl (0, (aC (nI prs.length) prss prs)))), (104, .inr (.inl (0, (aC (nI prr.length) prrs prr)))), (105, .inr (.inl (0, (aC (nI pfa.length) pfas pfa))))] h0) := by
  show j_V jP d 2 0 [(0, .ref 29), (1, .ref 4)] [] h _
  obtain ⟨lv, elv, L⟩ : ∃ lv, lv = [(0, .ref 29), (1, .ref 4)] ∧ LK lv [(0, .ref 29), (1, .ref 4)] := ⟨_, rfl, LK.rf⟩
  rw [← elv]
  clear elv
  refine j_V.ldL yr2m_M yr2m_0 rfl (i := 0) (kd := 2) (v := .ref 29) (pcJ := 1) rfl L rfl rfl rfl ?_
  refine j_V.getK yr2m_M yr2m_1 (ci := 0) (j := 0) rfl K rfl rfl ?_
  refine j_V.ldL yr2m_M yr2m_4 rfl (i := 0) (kd := 2) (v := .ref 29) (pcJ := 5) rfl L rfl rfl rfl ?_
  refine j_V.getK yr2m_M yr2m_5 (ci := 0) (j := 1) rfl K rfl rfl ?_
  refine j_V.aaA yr2m_M yr2m_8 K rfl (i := 2) (v := 81) rfl rfl ?_
  refine j_V.ldL yr2m_M yr2m_9 rfl (i := 1) (kd := 2) (v := .ref 4) (pcJ := 10) rfl L rfl rfl rfl ?_
  refine j_V.cl yr2m_M yr2m_10 rfl (md := 3) (mj := 61) rfl (by decide) yr2s_M (As := [.ref 81, .ref 4]) (rest := []) (jk_spl3 (K.at rfl) rfl rfl rfl (Nat.le_of_ble_eq_true rfl) (Nat.le_of_ble_eq_true rfl)) (fun d => yr2s_ok (K.fi [4, 5, 6, 7, 8, 9, 10, 11, 12, 13, 14, 15, 16, 20, 21, 22, 23, 24, 25, 26, 27, 28, 81, 82, 83, 84, 85, 86, 87, 88, 89, 90, 91, 92, 93, 97, 98, 99, 100, 101, 102, 103, 104, 105] rfl rfl)) ?_
  rintro r h9 ⟨rfl, K9⟩
  have K : KN h9 [(4, .inl (7, [.ref lys, .int mis, .int shus, .int buss, .ref 5, .ref 6, .ref 7, .ref 8, .ref 9, .ref 10, .ref 11, .ref 12, .ref 13, .ref 14, .ref 15, .int lkss, .ref 16, .ref 17, .ref 20])), (5, .inr (.inl (0, rks))), (6, .inr (.inl (0, stas))), (7, .inr (.inl (0, phs))), (8, .inr (.inl (0, sps))), (9, .inr (.inl (0, ces))), (10, .inr (.inl (0, dus))), (11, .inr (.inl (0, hes))), (12, .inr (.inl (0, ris))), (13, .inr (.inl (0, uss))), (14, .inr (.inl (0, cms))), (15, .inr (.inl (0, lfs))), (16, .inr (.inl (0, lkds))), (20, .inl (3, [.ref 21, .ref 22, .ref 23, .ref 24, .ref 25, .ref 26, .ref 27, .ref 28, .int pevs, .int 1])), (21, .inr (.inl (0, pmss))), (22, .inr (.inl (0, pmms))), (23, .inr (.inl (0, pmts))), (24, .inr (.inl (0, psts))), (25, .inr (.inl (0, pwas))), (26, .inr (.inl (0, prss))), (27, .inr (.inl (0, prrs))), (28, .inr (.inl (0, pfas))), (29, .inl (0, [.ref 30, .int 2, .int acco])), (30, .inr (.inr (.inr [some 31, some 56, some 81, some 106, some 131, some 156, some 181, some 206, some 231, some 256]))), (81, .inl (7, [.ref lys, .int mis, .int shus, .int buss, .ref 82, .ref 83, .ref 84, .ref 85, .ref 86, .ref 87, .ref 88, .ref 89, .ref 90, .ref 91, .ref 92, .int lkss, .ref 93, .ref 94, .ref 97])), (82, .inr (.inl (0, (aC 5 rks rk)))), (83, .inr (.inl (0, (aC 5 stas sta)))), (84, .inr (.inl (0, (aC 5 phs ph)))), (85, .inr (.inl (0, (aC 5 sps sp)))), (86, .inr (.inl (0, (aC 5 ces ce)))), (87, .inr (.inl (0, (aC 5 dus du)))), (88, .inr (.inl (0, (aC 5 hes he)))), (89, .inr (.inl (0, (aC 6 ris ri)))), (90, .inr (.inl (0, (aC 6 uss us)))), (91, .inr (.inl (0, (aC (nI cm.length) cms cm)))), (92, .inr (.inl (0, (aC (nI lf.length) lfs lf)))), (93, .inr (.inl (0, (aC (nI lkd.length) lkds lkd)))), (97, .inl (3, [.ref 98, .ref 99, .ref 100, .ref 101, .ref 102, .ref 103, .ref 104, .ref 105, .int pevs, .int 1])), (98, .inr (.inl (0, (aC (nI pms.length) pmss pms)))), (99, .inr (.inl (0, (aC (nI pmm.length) pmms pmm)))), (100, .inr (.inl (0, (aC (nI pmt.length) pmts pmt)))), (101, .inr (.inl (0, (aC (nI pst.length) psts pst)))), (102, .inr (.inl (0, (aC (nI pwa.length) pwas pwa)))), (103, .inr (.inl (0, (aC (nI prs.length) prss prs)))), (104, .inr (.inl (0, (aC (nI prr.length) prrs prr)))), (105, .inr (.inl (0, (aC (nI pfa.length) pfas pfa))))] h0 := K.mg K9 rfl rfl
  clear K9
  show j_V jP _ 2 13 lv [] h9 _
  refine j_V.ldL yr2m_M yr2m_13 rfl (i := 0) (kd := 2) (v := .ref 29) (pcJ := 14) rfl L rfl rfl rfl ?_
  refine j_V.ldL yr2m_M yr2m_14 rfl (i := 0) (kd := 2) (v := .ref 29) (pcJ := 15) rfl L rfl rfl rfl ?_
  refine j_V.getK yr2m_M yr2m_15 (ci := 0) (j := 1) rfl K rfl rfl ?_
  refine j_V.one yr2m_M yr2m_18 (by decide) (pcJ := 19) (stJ := [.int 1, .int 2, .ref 29]) rfl ?_
  refine j_V.one yr2m_M yr2m_19 (by decide) (pcJ := 20) (stJ := [.int 3, .ref 29]) rfl ?_
  refine j_V.one yr2m_M yr2m_20 (by decide) (pcJ := 22) (stJ := [.int 10, .int 3, .ref 29]) rfl ?_
  refine j_V.one yr2m_M yr2m_22 (by decide) (pcJ := 23) (stJ := [.int 3, .ref 29]) rfl ?_
  refine j_V.putK yr2m_M yr2m_23 (ci := 0) (j := 1) (k' := [(4, .inl (7, [.ref lys, .int mis, .int shus, .int buss, .ref 5, .ref 6, .ref 7, .ref 8, .ref 9, .ref 10, .ref 11, .ref 12, .ref 13, .ref 14, .ref 15, .int lkss, .ref 16, .ref 17, .ref 20])), (5, .inr (.inl (0, rks))), (6, .inr (.inl (0, stas))), (7, .inr (.inl (0, phs))), (8, .inr (.inl (0, sps))), (9, .inr (.inl (0, ces))), (10, .inr (.inl (0, dus))), (11, .inr (.inl (0, hes))), (12, .inr (.inl (0, ris))), (13, .inr (.inl (0, uss))), (14, .inr (.inl (0, cms))), (15, .inr (.inl (0, lfs))), (16, .inr (.inl (0, lkds))), (20, .inl (3, [.ref 21, .ref 22, .ref 23, .ref 24, .ref 25, .ref 26, .ref 27, .ref 28, .int pevs, .int 1])), (21, .inr (.inl (0, pmss))), (22, .inr (.inl (0, pmms))), (23, .inr (.inl (0, pmts))), (24, .inr (.inl (0, psts))), (25, .inr (.inl (0, pwas))), (26, .inr (.inl (0, prss))), (27, .inr (.inl (0, prrs))), (28, .inr (.inl (0, pfas))), (29, .inl (0, [.ref 30, .int 3, .int acco])), (30, .inr (.inr (.inr [some 31, some 56, some 81, some 106, some 131, some 156, some 181, some 206, some 231, some 256]))), (81, .inl (7, [.ref lys, .int mis, .int shus, .int buss, .ref 82, .ref 83, .ref 84, .ref 85, .ref 86, .ref 87, .ref 88, .ref 89, .ref 90, .ref 91, .ref 92, .int lkss, .ref 93, .ref 94, .ref 97])), (82, .inr (.inl (0, (aC 5 rks rk)))), (83, .inr (.inl (0, (aC 5 stas sta)))), (84, .inr (.inl (0, (aC 5 phs ph)))), (85, .inr (.inl (0, (aC 5 sps sp)))), (86, .inr (.inl (0, (aC 5 ces ce)))), (87, .inr (.inl (0, (aC 5 dus du)))), (88, .inr (.inl (0, (aC 5 hes he)))), (89, .inr (.inl (0, (aC 6 ris ri)))), (90, .inr (.inl (0, (aC 6 uss us)))), (91, .inr (.inl (0, (aC (nI cm.length) cms cm)))), (92, .inr (.inl (0, (aC (nI lf.length) lfs lf)))), (93, .inr (.inl (0, (aC (nI lkd.length) lkds lkd)))), (97, .inl (3, [.ref 98, .ref 99, .ref 100, .ref 101, .ref 102, .ref 103, .ref 104, .ref 105, .int pevs, .int 1])), (98, .inr (.inl (0, (aC (nI pms.length) pmss pms)))), (99, .inr (.inl (0, (aC (nI pmm.length) pmms pmm)))), (100, .inr (.inl (0, (aC (nI pmt.length) pmts pmt)))), (101, .inr (.inl (0, (aC (nI pst.length) psts pst)))), (102, .inr (.inl (0, (aC (nI pwa.length) pwas pwa)))), (103, .inr (.inl (0, (aC (nI prs.length) prss prs)))), (104, .inr (.inl (0, (aC (nI prr.length) prrs prr)))), (105, .inr (.inl (0, (aC (nI pfa.length) pfas pfa))))]) rfl K rfl (Nat.le_of_ble_eq_true rfl) rfl (Or.inl rfl) rfl rfl (fun h K => ?_)
  refine j_V.ldL yr2m_M yr2m_26 rfl (i := 0) (kd := 2) (v := .ref 29) (pcJ := 27) rfl L rfl rfl rfl ?_
  refine j_V.ldL yr2m_M yr2m_27 rfl (i := 0) (kd := 2) (v := .ref 29) (pcJ := 28) rfl L rfl rfl rfl ?_
  refine j_V.getK yr2m_M yr2m_28 (ci := 0) (j := 2) rfl K rfl rfl ?_
  refine j_V.one yr2m_M yr2m_31 (by decide) (pcJ := 32) (stJ := [.int 1, .int acco, .ref 29]) rfl ?_
  refine j_V.one yr2m_M yr2m_32 (by decide) (pcJ := 33) (stJ := [.int (acco + 1), .ref 29]) rfl ?_
  refine j_V.one yr2m_M yr2m_33 (by decide) (pcJ := 35) (stJ := [.int 10, .int (acco + 1), .ref 29]) rfl ?_
  refine j_V.mn yr2m_M yr2m_35 rfl rfl (Nat.le_of_ble_eq_true rfl) ?_
  refine j_V.putK yr2m_M yr2m_38 (ci := 0) (j := 2) (k' := [(4, .inl (7, [.ref lys, .int mis, .int shus, .int buss, .ref 5, .ref 6, .ref 7, .ref 8, .ref 9, .ref 10, .ref 11, .ref 12, .ref 13, .ref 14, .ref 15, .int lkss, .ref 16, .ref 17, .ref 20])), (5, .inr (.inl (0, rks))), (6, .inr (.inl (0, stas))), (7, .inr (.inl (0, phs))), (8, .inr (.inl (0, sps))), (9, .inr (.inl (0, ces))), (10, .inr (.inl (0, dus))), (11, .inr (.inl (0, hes))), (12, .inr (.inl (0, ris))), (13, .inr (.inl (0, uss))), (14, .inr (.inl (0, cms))), (15, .inr (.inl (0, lfs))), (16, .inr (.inl (0, lkds))), (20, .inl (3, [.ref 21, .ref 22, .ref 23, .ref 24, .ref 25, .ref 26, .ref 27, .ref 28, .int pevs, .int 1])), (21, .inr (.inl (0, pmss))), (22, .inr (.inl (0, pmms))), (23, .inr (.inl (0, pmts))), (24, .inr (.inl (0, psts))), (25, .inr (.inl (0, pwas))), (26, .inr (.inl (0, prss))), (27, .inr (.inl (0, prrs))), (28, .inr (.inl (0, pfas))), (29, .inl (0, [.ref 30, .int 3, .int (iMn (acco + 1) 10)])), (30, .inr (.inr (.inr [some 31, some 56, some 81, some 106, some 131, some 156, some 181, some 206, some 231, some 256]))), (81, .inl (7, [.ref lys, .int mis, .int shus, .int buss, .ref 82, .ref 83, .ref 84, .ref 85, .ref 86, .ref 87, .ref 88, .ref 89, .ref 90, .ref 91, .ref 92, .int lkss, .ref 93, .ref 94, .ref 97])), (82, .inr (.inl (0, (aC 5 rks rk)))), (83, .inr (.inl (0, (aC 5 stas sta)))), (84, .inr (.inl (0, (aC 5 phs ph)))), (85, .inr (.inl (0, (aC 5 sps sp)))), (86, .inr (.inl (0, (aC 5 ces ce)))), (87, .inr (.inl (0, (aC 5 dus du)))), (88, .inr (.inl (0, (aC 5 hes he)))), (89, .inr (.inl (0, (aC 6 ris ri)))), (90, .inr (.inl (0, (aC 6 uss us)))), (91, .inr (.inl (0, (aC (nI cm.length) cms cm)))), (92, .inr (.inl (0, (aC (nI lf.length) lfs lf)))), (93, .inr (.inl (0, (aC (nI lkd.length) lkds lkd)))), (97, .inl (3, [.ref 98, .ref 99, .ref 100, .ref 101, .ref 102, .ref 103, .ref 104, .ref 105, .int pevs, .int 1])), (98, .inr (.inl (0, (aC (nI pms.length) pmss pms)))), (99, .inr (.inl (0, (aC (nI pmm.length) pmms pmm)))), (100, .inr (.inl (0, (aC (nI pmt.length) pmts pmt)))), (101, .inr (.inl (0, (aC (nI pst.length) psts pst)))), (102, .inr (.inl (0, (aC (nI pwa.length) pwas pwa)))), (103, .inr (.inl (0, (aC (nI prs.length) prss prs)))), (104, .inr (.inl (0, (aC (nI prr.length) prrs prr)))), (105, .inr (.inl (0, (aC (nI pfa.length) pfas pfa))))]) rfl K rfl (Nat.le_of_ble_eq_true rfl) rfl (Or.inl rfl) rfl rfl (fun h K => ?_)
  exact j_V.ret yr2m_M yr2m_41 rfl rfl ⟨rfl, K⟩
set_option maxRecDepth 100000 in
theorem yr3p_M : j_meth jP 28 = some (yX3_copyFrom, cX3_copyFrom, 2, none, 1, false, 3) := rfl
set_option maxRecDepth 100000 in
theorem yr3p_0 : j_code jP 28 0 = some (.aload_n 0) := rfl
set_option maxRecDepth 100000 in
theorem yr3p_1 : j_code jP 28 1 = some (.getfield 36) := rfl
set_option maxRecDepth 100000 in
theorem yr3p_4 : j_code jP 28 4 = some (.ifCond .ne 4) := rfl
set_option maxRecDepth 100000 in
theorem yr3p_7 : j_code jP 28 7 = some (.return_) := rfl
set_option maxRecDepth 100000 in
theorem yr3p_8 : j_code jP 28 8 = some (.aload_n 1) := rfl
set_option maxRecDepth 100000 in
theorem yr3p_9 : j_code jP 28 9 = some (.getfield 9) := rfl
set_option maxRecDepth 100000 in
theorem yr3p_12 : j_code jP 28 12 = some (.iconst 0) := rfl
set_option maxRecDepth 100000 in
theorem yr3p_13 : j_code jP 28 13 = some (.aload_n 0) := rfl
set_option maxRecDepth 100000 in
theorem yr3p_14 : j_code jP 28 14 = some (.getfield 9) := rfl
set_option maxRecDepth 100000 in
theorem yr3p_17 : j_code jP 28 17 = some (.iconst 0) := rfl
set_option maxRecDepth 100000 in
theorem yr3p_18 : j_code jP 28 18 = some (.aload_n 0) := rfl
set_option maxRecDepth 100000 in
theorem yr3p_19 : j_code jP 28 19 = some (.getfield 9) := rfl
set_option maxRecDepth 100000 in
theorem yr3p_22 : j_code jP 28 22 = some (.arraylength) := rfl
set_option maxRecDepth 100000 in
theorem yr3p_23 : j_code jP 28 23 = some (.invokestatic 50) := rfl
set_option maxRecDepth 100000 in
theorem yr3p_26 : j_code jP 28 26 = some (.aload_n 1) := rfl
set_option maxRecDepth 100000 in
theorem yr3p_27 : j_code jP 28 27 = some (.getfield 15) := rfl
set_option maxRecDepth 100000 in
theorem yr3p_30 : j_code jP 28 30 = some (.iconst 0) := rfl
set_option maxRecDepth 100000 in
theorem yr3p_31 : j_code jP 28 31 = some (.aload_n 0) := rfl
set_option maxRecDepth 100000 in
theorem yr3p_32 : j_code jP 28 32 = some (.getfield 15) := rfl
set_option maxRecDepth 100000 in
theorem yr3p_35 : j_code jP 28 35 = some (.iconst 0) := rfl
set_option maxRecDepth 100000 in
theorem yr3p_36 : j_code jP 28 36 = some (.aload_n 0) := rfl
set_option maxRecDepth 100000 in
theorem yr3p_37 : j_code jP 28 37 = some (.getfield 15) := rfl
set_option maxRecDepth 100000 in
theorem yr3p_40 : j_code jP 28 40 = some (.arraylength) := rfl
set_option maxRecDepth 100000 in
theorem yr3p_41 : j_code jP 28 41 = some (.invokestatic 50) := rfl
set_option maxRecDepth 100000 in
theorem yr3p_44 : j_code jP 28 44 = some (.aload_n 1) := rfl
set_option maxRecDepth 100000 in
theorem yr3p_45 : j_code jP 28 45 = some (.getfield 18) := rfl
set_option maxRecDepth 100000 in
theorem yr3p_48 : j_code jP 28 48 = some (.iconst 0) := rfl
set_option maxRecDepth 100000 in
theorem yr3p_49 : j_code jP 28 49 = some (.aload_n 0) := rfl
set_option maxRecDepth 100000 in
theorem yr3p_50 : j_code jP 28 50 = some (.getfield 18) := rfl
set_option maxRecDepth 100000 in
theorem yr3p_53 : j_code jP 28 53 = some (.iconst 0) := rfl
set_option maxRecDepth 100000 in
theorem yr3p_54 : j_code jP 28 54 = some (.aload_n 0) := rfl
set_option maxRecDepth 100000 in
theorem yr3p_55 : j_code jP 28 55 = some (.getfield 18) := rfl
set_option maxRecDepth 100000 in
theorem yr3p_58 : j_code jP 28 58 = some (.arraylength) := rfl
set_option maxRecDepth 100000 in
theorem yr3p_59 : j_code jP 28 59 = some (.invokestatic 50) := rfl
set_option maxRecDepth 100000 in
theorem yr3p_62 : j_code jP 28 62 = some (.aload_n 1) := rfl
set_option maxRecDepth 100000 in
theorem yr3p_63 : j_code jP 28 63 = some (.getfield 21) := rfl
set_option maxRecDepth 100000 in
theorem yr3p_66 : j_code jP 28 66 = some (.iconst 0) := rfl
set_option maxRecDepth 100000 in
theorem yr3p_67 : j_code jP 28 67 = some (.aload_n 0) := rfl
set_option maxRecDepth 100000 in
theorem yr3p_68 : j_code jP 28 68 = some (.getfield 21) := rfl
set_option maxRecDepth 100000 in
theorem yr3p_71 : j_code jP 28 71 = some (.iconst 0) := rfl
set_option maxRecDepth 100000 in
theorem yr3p_72 : j_code jP 28 72 = some (.aload_n 0) := rfl
set_option maxRecDepth 100000 in
theorem yr3p_73 : j_code jP 28 73 = some (.getfield 21) := rfl
set_option maxRecDepth 100000 in
theorem yr3p_76 : j_code jP 28 76 = some (.arraylength) := rfl
set_option maxRecDepth 100000 in
theorem yr3p_77 : j_code jP 28 77 = some (.invokestatic 50) := rfl
set_option maxRecDepth 100000 in
theorem yr3p_80 : j_code jP 28 80 = some (.aload_n 1) := rfl
set_option maxRecDepth 100000 in
theorem yr3p_81 : j_code jP 28 81 = some (.getfield 24) := rfl
set_option maxRecDepth 100000 in
theorem yr3p_84 : j_code jP 28 84 = some (.iconst 0) := rfl
set_option maxRecDepth 100000 in
theorem yr3p_85 : j_code jP 28 85 = some (.aload_n 0) := rfl
set_option maxRecDepth 100000 in
theorem yr3p_86 : j_code jP 28 86 = some (.getfield 24) := rfl
set_option maxRecDepth 100000 in
theorem yr3p_89 : j_code jP 28 89 = some (.iconst 0) := rfl
set_option maxRecDepth 100000 in
theorem yr3p_90 : j_code jP 28 90 = some (.aload_n 0) := rfl
set_option maxRecDepth 100000 in
theorem yr3p_91 : j_code jP 28 91 = some (.getfield 24) := rfl
set_option maxRecDepth 100000 in
theorem yr3p_94 : j_code jP 28 94 = some (.arraylength) := rfl
set_option maxRecDepth 100000 in
theorem yr3p_95 : j_code jP 28 95 = some (.invokestatic 50) := rfl
set_option maxRecDepth 100000 in
theorem yr3p_98 : j_code jP 28 98 = some (.aload_n 1) := rfl
set_option maxRecDepth 100000 in
theorem yr3p_99 : j_code jP 28 99 = some (.getfield 27) := rfl
set_option maxRecDepth 100000 in
theorem yr3p_102 : j_code jP 28 102 = some (.iconst 0) := rfl
set_option maxRecDepth 100000 in
theorem yr3p_103 : j_code jP 28 103 = some (.aload_n 0) := rfl
set_option maxRecDepth 100000 in
theorem yr3p_104 : j_code jP 28 104 = some (.getfield 27) := rfl
set_option maxRecDepth 100000 in
theorem yr3p_107 : j_code jP 28 107 = some (.iconst 0) := rfl
set_option maxRecDepth 100000 in
theorem yr3p_108 : j_code jP 28 108 = some (.aload_n 0) := rfl
set_option maxRecDepth 100000 in
theorem yr3p_109 : j_code jP 28 109 = some (.getfield 27) := rfl
set_option maxRecDepth 100000 in
theorem yr3p_112 : j_code jP 28 112 = some (.arraylength) := rfl
set_option maxRecDepth 100000 in
theorem yr3p_113 : j_code jP 28 113 = some (.invokestatic 50) := rfl
set_option maxRecDepth 100000 in
theorem yr3p_116 : j_code jP 28 116 = some (.aload_n 1) := rfl
set_option maxRecDepth 100000 in
theorem yr3p_117 : j_code jP 28 117 = some (.getfield 30) := rfl
set_option maxRecDepth 100000 in
theorem yr3p_120 : j_code jP 28 120 = some (.iconst 0) := rfl
set_option maxRecDepth 100000 in
theorem yr3p_121 : j_code jP 28 121 = some (.aload_n 0) := rfl
set_option maxRecDepth 100000 in
theorem yr3p_122 : j_code jP 28 122 = some (.getfield 30) := rfl
set_option maxRecDepth 100000 in
theorem yr3p_125 : j_code jP 28 125 = some (.iconst 0) := rfl
set_option maxRecDepth 100000 in
theorem yr3p_126 : j_code jP 28 126 = some (.aload_n 0) := rfl
set_option maxRecDepth 100000 in
theorem yr3p_127 : j_code jP 28 127 = some (.getfield 30) := rfl
set_option maxRecDepth 100000 in
theorem yr3p_130 : j_code jP 28 130 = some (.arraylength) := rfl
set_option maxRecDepth 100000 in
theorem yr3p_131 : j_code jP 28 131 = some (.invokestatic 50) := rfl
set_option maxRecDepth 100000 in
theorem yr3p_134 : j_code jP 28 134 = some (.aload_n 1) := rfl
set_option maxRecDepth 100000 in
theorem yr3p_135 : j_code jP 28 135 = some (.getfield 33) := rfl
set_option maxRecDepth 100000 in
theorem yr3p_138 : j_code jP 28 138 = some (.iconst 0) := rfl
set_option maxRecDepth 100000 in
theorem yr3p_139 : j_code jP 28 139 = some (.aload_n 0) := rfl
set_option maxRecDepth 100000 in
theorem yr3p_140 : j_code jP 28 140 = some (.getfield 33) := rfl
set_option maxRecDepth 100000 in
theorem yr3p_143 : j_code jP 28 143 = some (.iconst 0) := rfl
set_option maxRecDepth 100000 in
theorem yr3p_144 : j_code jP 28 144 = some (.aload_n 0) := rfl
set_option maxRecDepth 100000 in
theorem yr3p_145 : j_code jP 28 145 = some (.getfield 33) := rfl
set_option maxRecDepth 100000 in
theorem yr3p_148 : j_code jP 28 148 = some (.arraylength) := rfl
set_option maxRecDepth 100000 in
theorem yr3p_149 : j_code jP 28 149 = some (.invokestatic 50) := rfl
set_option maxRecDepth 100000 in
theorem yr3p_152 : j_code jP 28 152 = some (.aload_n 0) := rfl
set_option maxRecDepth 100000 in
theorem yr3p_153 : j_code jP 28 153 = some (.aload_n 1) := rfl
set_option maxRecDepth 100000 in
theorem yr3p_154 : j_code jP 28 154 = some (.getfield 46) := rfl
set_option maxRecDepth 100000 in
theorem yr3p_157 : j_code jP 28 157 = some (.putfield 46) := rfl
set_option maxRecDepth 100000 in
theorem yr3p_160 : j_code jP 28 160 = some (.return_) := rfl
set_option maxRecDepth 1000000 in
theorem yr3p_k8 {pev : Int32} {pms : List Int32} {pmm : List Int32} {pevs : Int32} {pmss : List Int32} {pmms : List Int32} {d : Nat} {lv : J_L} {h h0 : J_H} {Q : Option Value → J_H → Prop} (L : LK lv [(0, .ref 122), (1, .ref 20)]) (K : KN h [(20, .inl (3, [.ref 21, .ref 22, .ref 23, .ref 24, .ref 25, .ref 26, .ref 27, .ref 28, .int pevs, .int 1])), (21, .inr (.inl (0, pmss))), (22, .inr (.inl (0, pmms))), (122, .inl (3, [.ref 123, .ref 124, .ref 125, .ref 126, .ref 127, .ref 128, .ref 129, .ref 130, .int pev, .int 1])), (123, .inr (.inl (0, pms))), (124, .inr (.inl (0, pmm)))] h0) (kk : ∀ lv h, LK lv [(0, .ref 122), (1, .ref 20)] → KN h [(20, .inl (3, [.ref 21, .ref 22, .ref 23, .ref 24, .ref 25, .ref 26, .ref 27, .ref 28, .int pevs, .int 1])), (21, .inr (.inl (0, pmss))), (22, .inr (.inl (0, pmms))), (122, .inl (3, [.ref 123, .ref 124, .ref 125, .ref 126, .ref 127, .ref 128, .ref 129, .ref 130, .int pev, .int 1])), (123, .inr (.inl (0, (aC (nI pms.length) pmss pms)))), (124, .inr (.inl (0, (aC (nI pmm.length) pmms pmm))))] h0 → j_V jP d 28 44 lv [] h Q) : j_V jP d 28 8 lv [] h Q := by
  refine j_V.ldL yr3p_M yr3p_8 rfl (i := 1) (kd := 2) (v := .ref 20) (pcJ := 9) rfl L rfl rfl rfl ?_
  refine j_V.getK yr3p_M yr3p_9 (ci := 3) (j := 0) rfl K rfl rfl ?_
  refine j_V.one yr3p_M yr3p_12 (by decide) (pcJ := 13) (stJ := [.int 0, .ref 21]) rfl ?_
  refine j_V.ldL yr3p_M yr3p_13 rfl (i := 0) (kd := 2) (v := .ref 122) (pcJ := 14) rfl L rfl rfl rfl ?_
  refine j_V.getK yr3p_M yr3p_14 (ci := 3) (j := 0) rfl K rfl rfl ?_
  refine j_V.one yr3p_M yr3p_17 (by decide) (pcJ := 18) (stJ := [.int 0, .ref 123, .int 0, .ref 21]) rfl ?_
  refine j_V.ldL yr3p_M yr3p_18 rfl (i := 0) (kd := 2) (v := .ref 122) (pcJ := 19) rfl L rfl rfl rfl ?_
  refine j_V.getK yr3p_M yr3p_19 (ci := 3) (j := 0) rfl K rfl rfl ?_
  refine j_V.alnA yr3p_M yr3p_22 K rfl ?_
  refine j_V.acp yr3p_M yr3p_23 rfl rfl K rfl rfl rfl (fun h K => ?_)
  refine j_V.ldL yr3p_M yr3p_26 rfl (i := 1) (kd := 2) (v := .ref 20) (pcJ := 27) rfl L rfl rfl rfl ?_
  refine j_V.getK yr3p_M yr3p_27 (ci := 3) (j := 1) rfl K rfl rfl ?_
  refine j_V.one yr3p_M yr3p_30 (by decide) (pcJ := 31) (stJ := [.int 0, .ref 22]) rfl ?_
  refine j_V.ldL yr3p_M yr3p_31 rfl (i := 0) (kd := 2) (v := .ref 122) (pcJ := 32) rfl L rfl rfl rfl ?_
  refine j_V.getK yr3p_M yr3p_32 (ci := 3) (j := 1) rfl K rfl rfl ?_
  refine j_V.one yr3p_M yr3p_35 (by decide) (pcJ := 36) (stJ := [.int 0, .ref 124, .int 0, .ref 22]) rfl ?_
  refine j_V.ldL yr3p_M yr3p_36 rfl (i := 0) (kd := 2) (v := .ref 122) (pcJ := 37) rfl L rfl rfl rfl ?_
  refine j_V.getK yr3p_M yr3p_37 (ci := 3) (j := 1) rfl K rfl rfl ?_
  refine j_V.alnA yr3p_M yr3p_40 K rfl ?_
  refine j_V.acp yr3p_M yr3p_41 rfl rfl K rfl rfl rfl (fun h K => ?_)
  exact kk _ _ L K
set_option maxRecDepth 1000000 in
theorem yr3p_k44 {pev : Int32} {pmt : List Int32} {pst : List Int32} {pevs : Int32} {pmts : List Int32} {psts : List Int32} {d : Nat} {lv : J_L} {h h0 : J_H} {Q : Option Value → J_H → Prop} (L : LK lv [(0, .ref 122), (1, .ref 20)]) (K : KN h [(20, .inl (3, [.ref 21, .ref 22, .ref 23, .ref 24, .ref 25, .ref 26, .ref 27, .ref 28, .int pevs, .int 1])), (23, .inr (.inl (0, pmts))), (24, .inr (.inl (0, psts))), (122, .inl (3, [.ref 123, .ref 124, .ref 125, .ref 126, .ref 127, .ref 128, .ref 129, .ref 130, .int pev, .int 1])), (125, .inr (.inl (0, pmt))), (126, .inr (.inl (0, pst)))] h0) (kk : ∀ lv h, LK lv [(0, .ref 122), (1, .ref 20)] → KN h [(20, .inl (3, [.ref 21, .ref 22, .ref 23, .ref 24, .ref 25, .ref 26, .ref 27, .ref 28, .int pevs, .int 1])), (23, .inr (.inl (0, pmts))), (24, .inr (.inl (0, psts))), (122, .inl (3, [.ref 123, .ref 124, .ref 125, .ref 126, .ref 127, .ref 128, .ref 129, .ref 130, .int pev, .int 1])), (125, .inr (.inl (0, (aC (nI pmt.length) pmts pmt)))), (126, .inr (.inl (0, (aC (nI pst.length) psts pst))))] h0 → j_V jP d 28 80 lv [] h Q) : j_V jP d 28 44 lv [] h Q := by
  refine j_V.ldL yr3p_M yr3p_44 rfl (i := 1) (kd := 2) (v := .ref 20) (pcJ := 45) rfl L rfl rfl rfl ?_
  refine j_V.getK yr3p_M yr3p_45 (ci := 3) (j := 2) rfl K rfl rfl ?_
  refine j_V.one yr3p_M yr3p_48 (by decide) (pcJ := 49) (stJ := [.int 0, .ref 23]) rfl ?_
  refine j_V.ldL yr3p_M yr3p_49 rfl (i := 0) (kd := 2) (v := .ref 122) (pcJ := 50) rfl L rfl rfl rfl ?_
  refine j_V.getK yr3p_M yr3p_50 (ci := 3) (j := 2) rfl K rfl rfl ?_
  refine j_V.one yr3p_M yr3p_53 (by decide) (pcJ := 54) (stJ := [.int 0, .ref 125, .int 0, .ref 23]) rfl ?_
  refine j_V.ldL yr3p_M yr3p_54 rfl (i := 0) (kd := 2) (v := .ref 122) (pcJ := 55) rfl L rfl rfl rfl ?_
  refine j_V.getK yr3p_M yr3p_55 (ci := 3) (j := 2) rfl K rfl rfl ?_
  refine j_V.alnA yr3p_M yr3p_58 K rfl ?_
  refine j_V.acp yr3p_M yr3p_59 rfl rfl K rfl rfl rfl (fun h K => ?_)
  refine j_V.ldL yr3p_M yr3p_62 rfl (i := 1) (kd := 2) (v := .ref 20) (pcJ := 63) rfl L rfl rfl rfl ?_
  refine j_V.getK yr3p_M yr3p_63 (ci := 3) (j := 3) rfl K rfl rfl ?_
  refine j_V.one yr3p_M yr3p_66 (by decide) (pcJ := 67) (stJ := [.int 0, .ref 24]) rfl ?_
  refine j_V.ldL yr3p_M yr3p_67 rfl (i := 0) (kd := 2) (v := .ref 122) (pcJ := 68) rfl L rfl rfl rfl ?_
  refine j_V.getK yr3p_M yr3p_68 (ci := 3) (j := 3) rfl K rfl rfl ?_
  refine j_V.one yr3p_M yr3p_71 (by decide) (pcJ := 72) (stJ := [.int 0, .ref 126, .int 0, .ref 24]) rfl ?_
  refine j_V.ldL yr3p_M yr3p_72 rfl (i := 0) (kd := 2) (v := .ref 122) (pcJ := 73) rfl L rfl rfl rfl ?_
  refine j_V.getK yr3p_M yr3p_73 (ci := 3) (j := 3) rfl K rfl rfl ?_
  refine j_V.alnA yr3p_M yr3p_76 K rfl ?_
  refine j_V.acp yr3p_M yr3p_77 rfl rfl K rfl rfl rfl (fun h K => ?_)
  exact kk _ _ L K
set_option maxRecDepth 1000000 in
theorem yr3p_k80 {pev : Int32} {pwa : List Int32} {prs : List Int32} {pevs : Int32} {pwas : List Int32} {prss : List Int32} {d : Nat} {lv : J_L} {h h0 : J_H} {Q : Option Value → J_H → Prop} (L : LK lv [(0, .ref 122), (1, .ref 20)]) (K : KN h [(20, .inl (3, [.ref 21, .ref 22, .ref 23, .ref 24, .ref 25, .ref 26, .ref 27, .ref 28, .int pevs, .int 1])), (25, .inr (.inl (0, pwas))), (26, .inr (.inl (0, prss))), (122, .inl (3, [.ref 123, .ref 124, .ref 125, .ref 126, .ref 127, .ref 128, .ref 129, .ref 130, .int pev, .int 1])), (127, .inr (.inl (0, pwa))), (128, .inr (.inl (0, prs)))] h0) (kk : ∀ lv h, LK lv [(0, .ref 122), (1, .ref 20)] → KN h [(20, .inl (3, [.ref 21, .ref 22, .ref 23, .ref 24, .ref 25, .ref 26, .ref 27, .ref 28, .int pevs, .int 1])), (25, .inr (.inl (0, pwas))), (26, .inr (.inl (0, prss))), (122, .inl (3, [.ref 123, .ref 124, .ref 125, .ref 126, .ref 127, .ref 128, .ref 129, .ref 130, .int pev, .int 1])), (127, .inr (.inl (0, (aC (nI pwa.length) pwas pwa)))), (128, .inr (.inl (0, (aC (nI prs.length) prss prs))))] h0 → j_V jP d 28 116 lv [] h Q) : j_V jP d 28 80 lv [] h Q := by
  refine j_V.ldL yr3p_M yr3p_80 rfl (i := 1) (kd := 2) (v := .ref 20) (pcJ := 81) rfl L rfl rfl rfl ?_
  refine j_V.getK yr3p_M yr3p_81 (ci := 3) (j := 4) rfl K rfl rfl ?_
  refine j_V.one yr3p_M yr3p_84 (by decide) (pcJ := 85) (stJ := [.int 0, .ref 25]) rfl ?_
  refine j_V.ldL yr3p_M yr3p_85 rfl (i := 0) (kd := 2) (v := .ref 122) (pcJ := 86) rfl L rfl rfl rfl ?_
  refine j_V.getK yr3p_M yr3p_86 (ci := 3) (j := 4) rfl K rfl rfl ?_
  refine j_V.one yr3p_M yr3p_89 (by decide) (pcJ := 90) (stJ := [.int 0, .ref 127, .int 0, .ref 25]) rfl ?_
  refine j_V.ldL yr3p_M yr3p_90 rfl (i := 0) (kd := 2) (v := .ref 122) (pcJ := 91) rfl L rfl rfl rfl ?_
  refine j_V.getK yr3p_M yr3p_91 (ci := 3) (j := 4) rfl K rfl rfl ?_
  refine j_V.alnA yr3p_M yr3p_94 K rfl ?_
  refine j_V.acp yr3p_M yr3p_95 rfl rfl K rfl rfl rfl (fun h K => ?_)
  refine j_V.ldL yr3p_M yr3p_98 rfl (i := 1) (kd := 2) (v := .ref 20) (pcJ := 99) rfl L rfl rfl rfl ?_
  refine j_V.getK yr3p_M yr3p_99 (ci := 3) (j := 5) rfl K rfl rfl ?_
  refine j_V.one yr3p_M yr3p_102 (by decide) (pcJ := 103) (stJ := [.int 0, .ref 26]) rfl ?_
  refine j_V.ldL yr3p_M yr3p_103 rfl (i := 0) (kd := 2) (v := .ref 122) (pcJ := 104) rfl L rfl rfl rfl ?_
  refine j_V.getK yr3p_M yr3p_104 (ci := 3) (j := 5) rfl K rfl rfl ?_
  refine j_V.one yr3p_M yr3p_107 (by decide) (pcJ := 108) (stJ := [.int 0, .ref 128, .int 0, .ref 26]) rfl ?_
  refine j_V.ldL yr3p_M yr3p_108 rfl (i := 0) (kd := 2) (v := .ref 122) (pcJ := 109) rfl L rfl rfl rfl ?_
  refine j_V.getK yr3p_M yr3p_109 (ci := 3) (j := 5) rfl K rfl rfl ?_
  refine j_V.alnA yr3p_M yr3p_112 K rfl ?_
  refine j_V.acp yr3p_M yr3p_113 rfl rfl K rfl rfl rfl (fun h K => ?_)
  exact kk _ _ L K
set_option maxRecDepth 1000000 in
theorem yr3p_k116 {pev : Int32} {prr : List Int32} {pfa : List Int32} {pevs : Int32} {prrs : List Int32} {pfas : List Int32} {d : Nat} {lv : J_L} {h h0 : J_H} {Q : Option Value → J_H → Prop} (L : LK lv [(0, .ref 122), (1, .ref 20)]) (K : KN h [(20, .inl (3, [.ref 21, .ref 22, .ref 23, .ref 24, .ref 25, .ref 26, .ref 27, .ref 28, .int pevs, .int 1])), (27, .inr (.inl (0, prrs))), (28, .inr (.inl (0, pfas))), (122, .inl (3, [.ref 123, .ref 124, .ref 125, .ref 126, .ref 127, .ref 128, .ref 129, .ref 130, .int pev, .int 1])), (129, .inr (.inl (0, prr))), (130, .inr (.inl (0, pfa)))] h0) (kk : ∀ lv h, LK lv [(0, .ref 122), (1, .ref 20)] → KN h [(20, .inl (3, [.ref 21, .ref 22, .ref 23, .ref 24, .ref 25, .ref 26, .ref 27, .ref 28, .int pevs, .int 1])), (27, .inr (.inl (0, prrs))), (28, .inr (.inl (0, pfas))), (122, .inl (3, [.ref 123, .ref 124, .ref 125, .ref 126, .ref 127, .ref 128, .ref 129, .ref 130, .int pev, .int 1])), (129, .inr (.inl (0, (aC (nI prr.length) prrs prr)))), (130, .inr (.inl (0, (aC (nI pfa.length) pfas pfa))))] h0 → j_V jP d 28 152 lv [] h Q) : j_V jP d 28 116 lv [] h Q := by
  refine j_V.ldL yr3p_M yr3p_116 rfl (i := 1) (kd := 2) (v := .ref 20) (pcJ := 117) rfl L rfl rfl rfl ?_
  refine j_V.getK yr3p_M yr3p_117 (ci := 3) (j := 6) rfl K rfl rfl ?_
  refine j_V.one yr3p_M yr3p_120 (by decide) (pcJ := 121) (stJ := [.int 0, .ref 27]) rfl ?_
  refine j_V.ldL yr3p_M yr3p_121 rfl (i := 0) (kd := 2) (v := .ref 122) (pcJ := 122) rfl L rfl rfl rfl ?_
  refine j_V.getK yr3p_M yr3p_122 (ci := 3) (j := 6) rfl K rfl rfl ?_
  refine j_V.one yr3p_M yr3p_125 (by decide) (pcJ := 126) (stJ := [.int 0, .ref 129, .int 0, .ref 27]) rfl ?_
  refine j_V.ldL yr3p_M yr3p_126 rfl (i := 0) (kd := 2) (v := .ref 122) (pcJ := 127) rfl L rfl rfl rfl ?_
  refine j_V.getK yr3p_M yr3p_127 (ci := 3) (j := 6) rfl K rfl rfl ?_
  refine j_V.alnA yr3p_M yr3p_130 K rfl ?_
  refine j_V.acp yr3p_M yr3p_131 rfl rfl K rfl rfl rfl (fun h K => ?_)
  refine j_V.ldL yr3p_M yr3p_134 rfl (i := 1) (kd := 2) (v := .ref 20) (pcJ := 135) rfl L rfl rfl rfl ?_
  refine j_V.getK yr3p_M yr3p_135 (ci := 3) (j := 7) rfl K rfl rfl ?_
  refine j_V.one yr3p_M yr3p_138 (by decide) (pcJ := 139) (stJ := [.int 0, .ref 28]) rfl ?_
  refine j_V.ldL yr3p_M yr3p_139 rfl (i := 0) (kd := 2) (v := .ref 122) (pcJ := 140) rfl L rfl rfl rfl ?_
  refine j_V.getK yr3p_M yr3p_140 (ci := 3) (j := 7) rfl K rfl rfl ?_
  refine j_V.one yr3p_M yr3p_143 (by decide) (pcJ := 144) (stJ := [.int 0, .ref 130, .int 0, .ref 28]) rfl ?_
  refine j_V.ldL yr3p_M yr3p_144 rfl (i := 0) (kd := 2) (v := .ref 122) (pcJ := 145) rfl L rfl rfl rfl ?_
  refine j_V.getK yr3p_M yr3p_145 (ci := 3) (j := 7) rfl K rfl rfl ?_
  refine j_V.alnA yr3p_M yr3p_148 K rfl ?_
  refine j_V.acp yr3p_M yr3p_149 rfl rfl K rfl rfl rfl (fun h K => ?_)
  exact kk _ _ L K
set_option maxRecDepth 1000000 in
theorem yr3p_ok {pev : Int32} {pms : List Int32} {pmm : List Int32} {pmt : List Int32} {pst : List Int32} {pwa : List Int32} {prs : List Int32} {prr : List Int32} {pfa : List Int32} {pevs : Int32} {pmss : List Int32} {pmms : List Int32} {pmts : List Int32} {psts : List Int32} {pwas : List Int32} {prss : List Int32} {prrs : List Int32} {pfas : List Int32} {d : Nat} {h h0 : J_H} (K : KN h [(20, .inl (3, [.ref 21, .ref 22, .ref 23, .ref 24, .ref 25, .ref 26, .ref 27, .ref 28, .int pevs, .int 1])), (21, .inr (.inl (0, pmss))), (22, .inr (.inl (0, pmms))), (23, .inr (.inl (0, pmts))), (24, .inr (.inl (0, psts))), (25, .inr (.inl (0, pwas))), (26, .inr (.inl (0, prss))), (27, .inr (.inl (0, prrs))), (28, .inr (.inl (0, pfas))), (122, .inl (3, [.ref 123, .ref 124, .ref 125, .ref 126, .ref 127, .ref 128, .ref 129, .ref 130, .int pev, .int 1])), (123, .inr (.inl (0, pms))), (124, .inr (.inl (0, pmm))), (125, .inr (.inl (0, pmt))), (126, .inr (.inl (0, pst))), (127, .inr (.inl (0, pwa))), (128, .inr (.inl (0, prs))), (129, .inr (.inl (0, prr))), (130, .inr (.inl (0, pfa)))] h0) : j_V jP d 28 0 (lv_args 0 [.ref 122, .ref 20]) [] h (fun rv h' => rv = none ∧ KN h' [(20, .inl (3, [.ref 21, .ref 22, .ref 23, .ref 24, .ref 25, .ref 26, .ref 27, .ref 28, .int pevs, .int 1])), (21, .inr (.inl (0, pmss))), (22, .inr (.inl (0, pmms))), (23, .inr (.inl (0, pmts))), (24, .inr (.inl (0, psts))), (25, .inr (.inl (0, pwas))), (26, .inr (.inl (0, prss))), (27, .inr (.inl (0, prrs))), (28, .inr (.inl (0, pfas))), (122, .inl (3, [.ref 123, .ref 124, .ref 125, .ref 126, .ref 127, .ref 128, .ref 129, .ref 130, .int pevs, .int 1])), (123, .inr (.inl (0, (aC (nI pms.length) pmss pms)))), (124, .inr (.inl (0, (aC (nI pmm.length) pmms pmm)))), (125, .inr (.inl (0, (aC (nI pmt.length) pmts pmt)))), (126, .inr (.inl (0, (aC (nI pst.length) psts pst)))), (127, .inr (.inl (0, (aC (nI pwa.length) pwas pwa)))), (128, .inr (.inl (0, (aC (nI prs.length) prss prs)))), (129, .inr (.inl (0, (aC (nI prr.length) prrs prr)))), (130, .inr (.inl (0, (aC (nI pfa.length) pfas pfa))))] h0) := by
  show j_V jP d 28 0 [(0, .ref 122), (1, .ref 20)] [] h _
  obtain ⟨lv, elv, L⟩ : ∃ lv, lv = [(0, .ref 122), (1, .ref 20)] ∧ LK lv [(0, .ref 122), (1, .ref 20)] := ⟨_, rfl, LK.rf⟩
  rw [← elv]
  clear elv
  refine j_V.ldL yr3p_M yr3p_0 rfl (i := 0) (kd := 2) (v := .ref 122) (pcJ := 1) rfl L rfl rfl rfl ?_
  refine j_V.getK yr3p_M yr3p_1 (ci := 3) (j := 9) rfl K rfl rfl ?_
  refine j_V.ifc yr3p_M yr3p_4 (t := 8) rfl (fun c4_0 => ?_) (fun c4_0 => ?_)
  · replace c4_0 : ¬ ((1 : Int32) = 0) := jd_ne c4_0
    refine yr3p_k8 L (K.fi [20, 21, 22, 122, 123, 124] rfl rfl) (fun lv h9 L K9 => ?_)
    have K : KN h9 [(20, .inl (3, [.ref 21, .ref 22, .ref 23, .ref 24, .ref 25, .ref 26, .ref 27, .ref 28, .int pevs, .int 1])), (21, .inr (.inl (0, pmss))), (22, .inr (.inl (0, pmms))), (23, .inr (.inl (0, pmts))), (24, .inr (.inl (0, psts))), (25, .inr (.inl (0, pwas))), (26, .inr (.inl (0, prss))), (27, .inr (.inl (0, prrs))), (28, .inr (.inl (0, pfas))), (122, .inl (3, [.ref 123, .ref 124, .ref 125, .ref 126, .ref 127, .ref 128, .ref 129, .ref 130, .int pev, .int 1])), (123, .inr (.inl (0, (aC (nI pms.length) pmss pms)))), (124, .inr (.inl (0, (aC (nI pmm.length) pmms pmm)))), (125, .inr (.inl (0, pmt))), (126, .inr (.inl (0, pst))), (127, .inr (.inl (0, pwa))), (128, .inr (.inl (0, prs))), (129, .inr (.inl (0, prr))), (130, .inr (.inl (0, pfa)))] h0 := K.mg K9 rfl rfl
    clear K9
    refine yr3p_k44 L (K.fi [20, 23, 24, 122, 125, 126] rfl rfl) (fun lv h9 L K9 => ?_)
    have K : KN h9 [(20, .inl (3, [.ref 21, .ref 22, .ref 23, .ref 24, .ref 25, .ref 26, .ref 27, .ref 28, .int pevs, .int 1])), (21, .inr (.inl (0, pmss))), (22, .inr (.inl (0, pmms))), (23, .inr (.inl (0, pmts))), (24, .inr (.inl (0, psts))), (25, .inr (.inl (0, pwas))), (26, .inr (.inl (0, prss))), (27, .inr (.inl (0, prrs))), (28, .inr (.inl (0, pfas))), (122, .inl (3, [.ref 123, .ref 124, .ref 125, .ref 126, .ref 127, .ref 128, .ref 129, .ref 130, .int pev, .int 1])), (123, .inr (.inl (0, (aC (nI pms.length) pmss pms)))), (124, .inr (.inl (0, (aC (nI pmm.length) pmms pmm)))), (125, .inr (.inl (0, (aC (nI pmt.length) pmts pmt)))), (126, .inr (.inl (0, (aC (nI pst.length) psts pst)))), (127, .inr (.inl (0, pwa))), (128, .inr (.inl (0, prs))), (129, .inr (.inl (0, prr))), (130, .inr (.inl (0, pfa)))] h0 := K.mg K9 rfl rfl
    clear K9
    refine yr3p_k80 L (K.fi [20, 25, 26, 122, 127, 128] rfl rfl) (fun lv h9 L K9 => ?_)
    have K : KN h9 [(20, .inl (3, [.ref 21, .ref 22, .ref 23, .ref 24, .ref 25, .ref 26, .ref 27, .ref 28, .int pevs, .int 1])), (21, .inr (.inl (0, pmss))), (22, .inr (.inl (0, pmms))), (23, .inr (.inl (0, pmts))), (24, .inr (.inl (0, psts))), (25, .inr (.inl (0, pwas))), (26, .inr (.inl (0, prss))), (27, .inr (.inl (0, prrs))), (28, .inr (.inl (0, pfas))), (122, .inl (3, [.ref 123, .ref 124, .ref 125, .ref 126, .ref 127, .ref 128, .ref 129, .ref 130, .int pev, .int 1])), (123, .inr (.inl (0, (aC (nI pms.length) pmss pms)))), (124, .inr (.inl (0, (aC (nI pmm.length) pmms pmm)))), (125, .inr (.inl (0, (aC (nI pmt.length) pmts pmt)))), (126, .inr (.inl (0, (aC (nI pst.length) psts pst)))), (127, .inr (.inl (0, (aC (nI pwa.length) pwas pwa)))), (128, .inr (.inl (0, (aC (nI prs.length) prss prs)))), (129, .inr (.inl (0, prr))), (130, .inr (.inl (0, pfa)))] h0 := K.mg K9 rfl rfl
    clear K9
    refine yr3p_k116 L (K.fi [20, 27, 28, 122, 129, 130] rfl rfl) (fun lv h9 L K9 => ?_)
    have K : KN h9 [(20, .inl (3, [.ref 21, .ref 22, .ref 23, .ref 24, .ref 25, .ref 26, .ref 27, .ref 28, .int pevs, .int 1])), (21, .inr (.inl (0, pmss))), (22, .inr (.inl (0, pmms))), (23, .inr (.inl (0, pmts))), (24, .inr (.inl (0, psts))), (25, .inr (.inl (0, pwas))), (26, .inr (.inl (0, prss))), (27, .inr (.inl (0, prrs))), (28, .inr (.inl (0, pfas))), (122, .inl (3, [.ref 123, .ref 124, .ref 125, .ref 126, .ref 127, .ref 128, .ref 129, .ref 130, .int pev, .int 1])), (123, .inr (.inl (0, (aC (nI pms.length) pmss pms)))), (124, .inr (.inl (0, (aC (nI pmm.length) pmms pmm)))), (125, .inr (.inl (0, (aC (nI pmt.length) pmts pmt)))), (126, .inr (.inl (0, (aC (nI pst.length) psts pst)))), (127, .inr (.inl (0, (aC (nI pwa.length) pwas pwa)))), (128, .inr (.inl (0, (aC (nI prs.length) prss prs)))), (129, .inr (.inl (0, (aC (nI prr.length) prrs prr)))), (130, .inr (.inl (0, (aC (nI pfa.length) pfas pfa))))] h0 := K.mg K9 rfl rfl
    clear K9
    refine j_V.ldL yr3p_M yr3p_152 rfl (i := 0) (kd := 2) (v := .ref 122) (pcJ := 153) rfl L rfl rfl rfl ?_
    refine j_V.ldL yr3p_M yr3p_153 rfl (i := 1) (kd := 2) (v := .ref 20) (pcJ := 154) rfl L rfl rfl rfl ?_
    refine j_V.getK yr3p_M yr3p_154 (ci := 3) (j := 8) rfl K rfl rfl ?_
    refine j_V.putK yr3p_M yr3p_157 (ci := 3) (j := 8) (k' := [(20, .inl (3, [.ref 21, .ref 22, .ref 23, .ref 24, .ref 25, .ref 26, .ref 27, .ref 28, .int pevs, .int 1])), (21, .inr (.inl (0, pmss))), (22, .inr (.inl (0, pmms))), (23, .inr (.inl (0, pmts))), (24, .inr (.inl (0, psts))), (25, .inr (.inl (0, pwas))), (26, .inr (.inl (0, prss))), (27, .inr (.inl (0, prrs))), (28, .inr (.inl (0, pfas))), (122, .inl (3, [.ref 123, .ref 124, .ref 125, .ref 126, .ref 127, .ref 128, .ref 129, .ref 130, .int pevs, .int 1])), (123, .inr (.inl (0, (aC (nI pms.length) pmss pms)))), (124, .inr (.inl (0, (aC (nI pmm.length) pmms pmm)))), (125, .inr (.inl (0, (aC (nI pmt.length) pmts pmt)))), (126, .inr (.inl (0, (aC (nI pst.length) psts pst)))), (127, .inr (.inl (0, (aC (nI pwa.length) pwas pwa)))), (128, .inr (.inl (0, (aC (nI prs.length) prss prs)))), (129, .inr (.inl (0, (aC (nI prr.length) prrs prr)))), (130, .inr (.inl (0, (aC (nI pfa.length) pfas pfa))))]) rfl K rfl (Nat.le_of_ble_eq_true rfl) rfl (Or.inl rfl) rfl rfl (fun h K => ?_)
    exact j_V.ret yr3p_M yr3p_160 rfl rfl ⟨rfl, K⟩
  · replace c4_0 : (1 : Int32) = 0 := jd_nen c4_0
    exact absurd c4_0 (by decide)
set_option maxRecDepth 100000 in
theorem yr3s_M : j_meth jP 61 = some (yX7_copyFrom, cX7_copyFrom, 2, none, 1, false, 7) := rfl
set_option maxRecDepth 100000 in
theorem yr3s_0 : j_code jP 61 0 = some (.aload_n 0) := rfl
set_option maxRecDepth 100000 in
theorem yr3s_1 : j_code jP 61 1 = some (.aload_n 1) := rfl
set_option maxRecDepth 100000 in
theorem yr3s_2 : j_code jP 61 2 = some (.getfield 64) := rfl
set_option maxRecDepth 100000 in
theorem yr3s_5 : j_code jP 61 5 = some (.putfield 64) := rfl
set_option maxRecDepth 100000 in
theorem yr3s_8 : j_code jP 61 8 = some (.aload_n 0) := rfl
set_option maxRecDepth 100000 in
theorem yr3s_9 : j_code jP 61 9 = some (.aload_n 1) := rfl
set_option maxRecDepth 100000 in
theorem yr3s_10 : j_code jP 61 10 = some (.getfield 68) := rfl
set_option maxRecDepth 100000 in
theorem yr3s_13 : j_code jP 61 13 = some (.putfield 68) := rfl
set_option maxRecDepth 100000 in
theorem yr3s_16 : j_code jP 61 16 = some (.aload_n 0) := rfl
set_option maxRecDepth 100000 in
theorem yr3s_17 : j_code jP 61 17 = some (.aload_n 1) := rfl
set_option maxRecDepth 100000 in
theorem yr3s_18 : j_code jP 61 18 = some (.getfield 72) := rfl
set_option maxRecDepth 100000 in
theorem yr3s_21 : j_code jP 61 21 = some (.putfield 72) := rfl
set_option maxRecDepth 100000 in
theorem yr3s_24 : j_code jP 61 24 = some (.aload_n 0) := rfl
set_option maxRecDepth 100000 in
theorem yr3s_25 : j_code jP 61 25 = some (.aload_n 1) := rfl
set_option maxRecDepth 100000 in
theorem yr3s_26 : j_code jP 61 26 = some (.getfield 75) := rfl
set_option maxRecDepth 100000 in
theorem yr3s_29 : j_code jP 61 29 = some (.putfield 75) := rfl
set_option maxRecDepth 100000 in
theorem yr3s_32 : j_code jP 61 32 = some (.aload_n 0) := rfl
set_option maxRecDepth 100000 in
theorem yr3s_33 : j_code jP 61 33 = some (.aload_n 1) := rfl
set_option maxRecDepth 100000 in
theorem yr3s_34 : j_code jP 61 34 = some (.getfield 78) := rfl
set_option maxRecDepth 100000 in
theorem yr3s_37 : j_code jP 61 37 = some (.putfield 78) := rfl
set_option maxRecDepth 100000 in
theorem yr3s_40 : j_code jP 61 40 = some (.aload_n 1) := rfl
set_option maxRecDepth 100000 in
theorem yr3s_41 : j_code jP 61 41 = some (.getfield 9) := rfl
set_option maxRecDepth 100000 in
theorem yr3s_44 : j_code jP 61 44 = some (.iconst 0) := rfl
set_option maxRecDepth 100000 in
theorem yr3s_45 : j_code jP 61 45 = some (.aload_n 0) := rfl
set_option maxRecDepth 100000 in
theorem yr3s_46 : j_code jP 61 46 = some (.getfield 9) := rfl
set_option maxRecDepth 100000 in
theorem yr3s_49 : j_code jP 61 49 = some (.iconst 0) := rfl
set_option maxRecDepth 100000 in
theorem yr3s_50 : j_code jP 61 50 = some (.iconst 5) := rfl
set_option maxRecDepth 100000 in
theorem yr3s_51 : j_code jP 61 51 = some (.invokestatic 84) := rfl
set_option maxRecDepth 100000 in
theorem yr3s_54 : j_code jP 61 54 = some (.aload_n 1) := rfl
set_option maxRecDepth 100000 in
theorem yr3s_55 : j_code jP 61 55 = some (.getfield 15) := rfl
set_option maxRecDepth 100000 in
theorem yr3s_58 : j_code jP 61 58 = some (.iconst 0) := rfl
set_option maxRecDepth 100000 in
theorem yr3s_59 : j_code jP 61 59 = some (.aload_n 0) := rfl
set_option maxRecDepth 100000 in
theorem yr3s_60 : j_code jP 61 60 = some (.getfield 15) := rfl
set_option maxRecDepth 100000 in
theorem yr3s_63 : j_code jP 61 63 = some (.iconst 0) := rfl
set_option maxRecDepth 100000 in
theorem yr3s_64 : j_code jP 61 64 = some (.iconst 5) := rfl
set_option maxRecDepth 100000 in
theorem yr3s_65 : j_code jP 61 65 = some (.invokestatic 84) := rfl
set_option maxRecDepth 100000 in
theorem yr3s_68 : j_code jP 61 68 = some (.aload_n 1) := rfl
set_option maxRecDepth 100000 in
theorem yr3s_69 : j_code jP 61 69 = some (.getfield 18) := rfl
set_option maxRecDepth 100000 in
theorem yr3s_72 : j_code jP 61 72 = some (.iconst 0) := rfl
set_option maxRecDepth 100000 in
theorem yr3s_73 : j_code jP 61 73 = some (.aload_n 0) := rfl
set_option maxRecDepth 100000 in
theorem yr3s_74 : j_code jP 61 74 = some (.getfield 18) := rfl
set_option maxRecDepth 100000 in
theorem yr3s_77 : j_code jP 61 77 = some (.iconst 0) := rfl
set_option maxRecDepth 100000 in
theorem yr3s_78 : j_code jP 61 78 = some (.iconst 5) := rfl
set_option maxRecDepth 100000 in
theorem yr3s_79 : j_code jP 61 79 = some (.invokestatic 84) := rfl
set_option maxRecDepth 100000 in
theorem yr3s_82 : j_code jP 61 82 = some (.aload_n 1) := rfl
set_option maxRecDepth 100000 in
theorem yr3s_83 : j_code jP 61 83 = some (.getfield 21) := rfl
set_option maxRecDepth 100000 in
theorem yr3s_86 : j_code jP 61 86 = some (.iconst 0) := rfl
set_option maxRecDepth 100000 in
theorem yr3s_87 : j_code jP 61 87 = some (.aload_n 0) := rfl
set_option maxRecDepth 100000 in
theorem yr3s_88 : j_code jP 61 88 = some (.getfield 21) := rfl
set_option maxRecDepth 100000 in
theorem yr3s_91 : j_code jP 61 91 = some (.iconst 0) := rfl
set_option maxRecDepth 100000 in
theorem yr3s_92 : j_code jP 61 92 = some (.iconst 5) := rfl
set_option maxRecDepth 100000 in
theorem yr3s_93 : j_code jP 61 93 = some (.invokestatic 84) := rfl
set_option maxRecDepth 100000 in
theorem yr3s_96 : j_code jP 61 96 = some (.aload_n 1) := rfl
set_option maxRecDepth 100000 in
theorem yr3s_97 : j_code jP 61 97 = some (.getfield 24) := rfl
set_option maxRecDepth 100000 in
theorem yr3s_100 : j_code jP 61 100 = some (.iconst 0) := rfl
set_option maxRecDepth 100000 in
theorem yr3s_101 : j_code jP 61 101 = some (.aload_n 0) := rfl
set_option maxRecDepth 100000 in
theorem yr3s_102 : j_code jP 61 102 = some (.getfield 24) := rfl
set_option maxRecDepth 100000 in
theorem yr3s_105 : j_code jP 61 105 = some (.iconst 0) := rfl
set_option maxRecDepth 100000 in
theorem yr3s_106 : j_code jP 61 106 = some (.iconst 5) := rfl
set_option maxRecDepth 100000 in
theorem yr3s_107 : j_code jP 61 107 = some (.invokestatic 84) := rfl
set_option maxRecDepth 100000 in
theorem yr3s_110 : j_code jP 61 110 = some (.aload_n 1) := rfl
set_option maxRecDepth 100000 in
theorem yr3s_111 : j_code jP 61 111 = some (.getfield 27) := rfl
set_option maxRecDepth 100000 in
theorem yr3s_114 : j_code jP 61 114 = some (.iconst 0) := rfl
set_option maxRecDepth 100000 in
theorem yr3s_115 : j_code jP 61 115 = some (.aload_n 0) := rfl
set_option maxRecDepth 100000 in
theorem yr3s_116 : j_code jP 61 116 = some (.getfield 27) := rfl
set_option maxRecDepth 100000 in
theorem yr3s_119 : j_code jP 61 119 = some (.iconst 0) := rfl
set_option maxRecDepth 100000 in
theorem yr3s_120 : j_code jP 61 120 = some (.iconst 5) := rfl
set_option maxRecDepth 100000 in
theorem yr3s_121 : j_code jP 61 121 = some (.invokestatic 84) := rfl
set_option maxRecDepth 100000 in
theorem yr3s_124 : j_code jP 61 124 = some (.aload_n 1) := rfl
set_option maxRecDepth 100000 in
theorem yr3s_125 : j_code jP 61 125 = some (.getfield 30) := rfl
set_option maxRecDepth 100000 in
theorem yr3s_128 : j_code jP 61 128 = some (.iconst 0) := rfl
set_option maxRecDepth 100000 in
theorem yr3s_129 : j_code jP 61 129 = some (.aload_n 0) := rfl
set_option maxRecDepth 100000 in
theorem yr3s_130 : j_code jP 61 130 = some (.getfield 30) := rfl
set_option maxRecDepth 100000 in
theorem yr3s_133 : j_code jP 61 133 = some (.iconst 0) := rfl
set_option maxRecDepth 100000 in
theorem yr3s_134 : j_code jP 61 134 = some (.iconst 5) := rfl
set_option maxRecDepth 100000 in
theorem yr3s_135 : j_code jP 61 135 = some (.invokestatic 84) := rfl
set_option maxRecDepth 100000 in
theorem yr3s_138 : j_code jP 61 138 = some (.aload_n 1) := rfl
set_option maxRecDepth 100000 in
theorem yr3s_139 : j_code jP 61 139 = some (.getfield 33) := rfl
set_option maxRecDepth 100000 in
theorem yr3s_142 : j_code jP 61 142 = some (.iconst 0) := rfl
set_option maxRecDepth 100000 in
theorem yr3s_143 : j_code jP 61 143 = some (.aload_n 0) := rfl
set_option maxRecDepth 100000 in
theorem yr3s_144 : j_code jP 61 144 = some (.getfield 33) := rfl
set_option maxRecDepth 100000 in
theorem yr3s_147 : j_code jP 61 147 = some (.iconst 0) := rfl
set_option maxRecDepth 100000 in
theorem yr3s_148 : j_code jP 61 148 = some (.bipush 6) := rfl
set_option maxRecDepth 100000 in
theorem yr3s_150 : j_code jP 61 150 = some (.invokestatic 84) := rfl
set_option maxRecDepth 100000 in
theorem yr3s_153 : j_code jP 61 153 = some (.aload_n 1) := rfl
set_option maxRecDepth 100000 in
theorem yr3s_154 : j_code jP 61 154 = some (.getfield 36) := rfl
set_option maxRecDepth 100000 in
theorem yr3s_157 : j_code jP 61 157 = some (.iconst 0) := rfl
set_option maxRecDepth 100000 in
theorem yr3s_158 : j_code jP 61 158 = some (.aload_n 0) := rfl
set_option maxRecDepth 100000 in
theorem yr3s_159 : j_code jP 61 159 = some (.getfield 36) := rfl
set_option maxRecDepth 100000 in
theorem yr3s_162 : j_code jP 61 162 = some (.iconst 0) := rfl
set_option maxRecDepth 100000 in
theorem yr3s_163 : j_code jP 61 163 = some (.bipush 6) := rfl
set_option maxRecDepth 100000 in
theorem yr3s_165 : j_code jP 61 165 = some (.invokestatic 84) := rfl
set_option maxRecDepth 100000 in
theorem yr3s_168 : j_code jP 61 168 = some (.aload_n 1) := rfl
set_option maxRecDepth 100000 in
theorem yr3s_169 : j_code jP 61 169 = some (.getfield 39) := rfl
set_option maxRecDepth 100000 in
theorem yr3s_172 : j_code jP 61 172 = some (.iconst 0) := rfl
set_option maxRecDepth 100000 in
theorem yr3s_173 : j_code jP 61 173 = some (.aload_n 0) := rfl
set_option maxRecDepth 100000 in
theorem yr3s_174 : j_code jP 61 174 = some (.getfield 39) := rfl
set_option maxRecDepth 100000 in
theorem yr3s_177 : j_code jP 61 177 = some (.iconst 0) := rfl
set_option maxRecDepth 100000 in
theorem yr3s_178 : j_code jP 61 178 = some (.aload_n 0) := rfl
set_option maxRecDepth 100000 in
theorem yr3s_179 : j_code jP 61 179 = some (.getfield 39) := rfl
set_option maxRecDepth 100000 in
theorem yr3s_182 : j_code jP 61 182 = some (.arraylength) := rfl
set_option maxRecDepth 100000 in
theorem yr3s_183 : j_code jP 61 183 = some (.invokestatic 84) := rfl
set_option maxRecDepth 100000 in
theorem yr3s_186 : j_code jP 61 186 = some (.aload_n 1) := rfl
set_option maxRecDepth 100000 in
theorem yr3s_187 : j_code jP 61 187 = some (.getfield 42) := rfl
set_option maxRecDepth 100000 in
theorem yr3s_190 : j_code jP 61 190 = some (.iconst 0) := rfl
set_option maxRecDepth 100000 in
theorem yr3s_191 : j_code jP 61 191 = some (.aload_n 0) := rfl
set_option maxRecDepth 100000 in
theorem yr3s_192 : j_code jP 61 192 = some (.getfield 42) := rfl
set_option maxRecDepth 100000 in
theorem yr3s_195 : j_code jP 61 195 = some (.iconst 0) := rfl
set_option maxRecDepth 100000 in
theorem yr3s_196 : j_code jP 61 196 = some (.aload_n 0) := rfl
set_option maxRecDepth 100000 in
theorem yr3s_197 : j_code jP 61 197 = some (.getfield 42) := rfl
set_option maxRecDepth 100000 in
theorem yr3s_200 : j_code jP 61 200 = some (.arraylength) := rfl
set_option maxRecDepth 100000 in
theorem yr3s_201 : j_code jP 61 201 = some (.invokestatic 84) := rfl
set_option maxRecDepth 100000 in
theorem yr3s_204 : j_code jP 61 204 = some (.aload_n 1) := rfl
set_option maxRecDepth 100000 in
theorem yr3s_205 : j_code jP 61 205 = some (.getfield 45) := rfl
set_option maxRecDepth 100000 in
theorem yr3s_208 : j_code jP 61 208 = some (.iconst 0) := rfl
set_option maxRecDepth 100000 in
theorem yr3s_209 : j_code jP 61 209 = some (.aload_n 0) := rfl
set_option maxRecDepth 100000 in
theorem yr3s_210 : j_code jP 61 210 = some (.getfield 45) := rfl
set_option maxRecDepth 100000 in
theorem yr3s_213 : j_code jP 61 213 = some (.iconst 0) := rfl
set_option maxRecDepth 100000 in
theorem yr3s_214 : j_code jP 61 214 = some (.aload_n 0) := rfl
set_option maxRecDepth 100000 in
theorem yr3s_215 : j_code jP 61 215 = some (.getfield 45) := rfl
set_option maxRecDepth 100000 in
theorem yr3s_218 : j_code jP 61 218 = some (.arraylength) := rfl
set_option maxRecDepth 100000 in
theorem yr3s_219 : j_code jP 61 219 = some (.invokestatic 84) := rfl
set_option maxRecDepth 100000 in
theorem yr3s_222 : j_code jP 61 222 = some (.aload_n 0) := rfl
set_option maxRecDepth 100000 in
theorem yr3s_223 : j_code jP 61 223 = some (.getfield 60) := rfl
set_option maxRecDepth 100000 in
theorem yr3s_226 : j_code jP 61 226 = some (.aload_n 1) := rfl
set_option maxRecDepth 100000 in
theorem yr3s_227 : j_code jP 61 227 = some (.getfield 60) := rfl
set_option maxRecDepth 100000 in
theorem yr3s_230 : j_code jP 61 230 = some (.invokevirtual 108) := rfl
set_option maxRecDepth 100000 in
theorem yr3s_233 : j_code jP 61 233 = some (.return_) := rfl
set_option maxRecDepth 1000000 in
theorem yr3s_k0 {ly : Value} {mi : Int32} {shu : Int32} {bus : Int32} {lks : Int32} {lys : Nat} {mis : Int32} {shus : Int32} {buss : Int32} {lkss : Int32} {d : Nat} {lv : J_L} {h h0 : J_H} {Q : Option Value → J_H → Prop} (L : LK lv [(0, .ref 106), (1, .ref 4)]) (K : KN h [(4, .inl (7, [.ref lys, .int mis, .int shus, .int buss, .ref 5, .ref 6, .ref 7, .ref 8, .ref 9, .ref 10, .ref 11, .ref 12, .ref 13, .ref 14, .ref 15, .int lkss, .ref 16, .ref 17, .ref 20])), (106, .inl (7, [ly, .int mi, .int shu, .int bus, .ref 107, .ref 108, .ref 109, .ref 110, .ref 111, .ref 112, .ref 113, .ref 114, .ref 115, .ref 116, .ref 117, .int lks, .ref 118, .ref 119, .ref 122]))] h0) (kk : ∀ lv h, LK lv [(0, .ref 106), (1, .ref 4)] → KN h [(4, .inl (7, [.ref lys, .int mis, .int shus, .int buss, .ref 5, .ref 6, .ref 7, .ref 8, .ref 9, .ref 10, .ref 11, .ref 12, .ref 13, .ref 14, .ref 15, .int lkss, .ref 16, .ref 17, .ref 20])), (106, .inl (7, [.ref lys, .int mis, .int shus, .int buss, .ref 107, .ref 108, .ref 109, .ref 110, .ref 111, .ref 112, .ref 113, .ref 114, .ref 115, .ref 116, .ref 117, .int lkss, .ref 118, .ref 119, .ref 122]))] h0 → j_V jP d 61 40 lv [] h Q) : j_V jP d 61 0 lv [] h Q := by
  refine j_V.ldL yr3s_M yr3s_0 rfl (i := 0) (kd := 2) (v := .ref 106) (pcJ := 1) rfl L rfl rfl rfl ?_
  refine j_V.ldL yr3s_M yr3s_1 rfl (i := 1) (kd := 2) (v := .ref 4) (pcJ := 2) rfl L rfl rfl rfl ?_
  refine j_V.getK yr3s_M yr3s_2 (ci := 7) (j := 0) rfl K rfl rfl ?_
  refine j_V.putK yr3s_M yr3s_5 (ci := 7) (j := 0) (k' := [(4, .inl (7, [.ref lys, .int mis, .int shus, .int buss, .ref 5, .ref 6, .ref 7, .ref 8, .ref 9, .ref 10, .ref 11, .ref 12, .ref 13, .ref 14, .ref 15, .int lkss, .ref 16, .ref 17, .ref 20])), (106, .inl (7, [.ref lys, .int mi, .int shu, .int bus, .ref 107, .ref 108, .ref 109, .ref 110, .ref 111, .ref 112, .ref 113, .ref 114, .ref 115, .ref 116, .ref 117, .int lks, .ref 118, .ref 119, .ref 122]))]) rfl K rfl (Nat.le_of_ble_eq_true rfl) rfl (Or.inl rfl) rfl rfl (fun h K => ?_)
  refine j_V.ldL yr3s_M yr3s_8 rfl (i := 0) (kd := 2) (v := .ref 106) (pcJ := 9) rfl L rfl rfl rfl ?_
  refine j_V.ldL yr3s_M yr3s_9 rfl (i := 1) (kd := 2) (v := .ref 4) (pcJ := 10) rfl L rfl rfl rfl ?_
  refine j_V.getK yr3s_M yr3s_10 (ci := 7) (j := 1) rfl K rfl rfl ?_
  refine j_V.putK yr3s_M yr3s_13 (ci := 7) (j := 1) (k' := [(4, .inl (7, [.ref lys, .int mis, .int shus, .int buss, .ref 5, .ref 6, .ref 7, .ref 8, .ref 9, .ref 10, .ref 11, .ref 12, .ref 13, .ref 14, .ref 15, .int lkss, .ref 16, .ref 17, .ref 20])), (106, .inl (7, [.ref lys, .int mis, .int shu, .int bus, .ref 107, .ref 108, .ref 109, .ref 110, .ref 111, .ref 112, .ref 113, .ref 114, .ref 115, .ref 116, .ref 117, .int lks, .ref 118, .ref 119, .ref 122]))]) rfl K rfl (Nat.le_of_ble_eq_true rfl) rfl (Or.inl rfl) rfl rfl (fun h K => ?_)
  refine j_V.ldL yr3s_M yr3s_16 rfl (i := 0) (kd := 2) (v := .ref 106) (pcJ := 17) rfl L rfl rfl rfl ?_
  refine j_V.ldL yr3s_M yr3s_17 rfl (i := 1) (kd := 2) (v := .ref 4) (pcJ := 18) rfl L rfl rfl rfl ?_
  refine j_V.getK yr3s_M yr3s_18 (ci := 7) (j := 2) rfl K rfl rfl ?_
  refine j_V.putK yr3s_M yr3s_21 (ci := 7) (j := 2) (k' := [(4, .inl (7, [.ref lys, .int mis, .int shus, .int buss, .ref 5, .ref 6, .ref 7, .ref 8, .ref 9, .ref 10, .ref 11, .ref 12, .ref 13, .ref 14, .ref 15, .int lkss, .ref 16, .ref 17, .ref 20])), (106, .inl (7, [.ref lys, .int mis, .int shus, .int bus, .ref 107, .ref 108, .ref 109, .ref 110, .ref 111, .ref 112, .ref 113, .ref 114, .ref 115, .ref 116, .ref 117, .int lks, .ref 118, .ref 119, .ref 122]))]) rfl K rfl (Nat.le_of_ble_eq_true rfl) rfl (Or.inl rfl) rfl rfl (fun h K => ?_)
  refine j_V.ldL yr3s_M yr3s_24 rfl (i := 0) (kd := 2) (v := .ref 106) (pcJ := 25) rfl L rfl rfl rfl ?_
  refine j_V.ldL yr3s_M yr3s_25 rfl (i := 1) (kd := 2) (v := .ref 4) (pcJ := 26) rfl L rfl rfl rfl ?_
  refine j_V.getK yr3s_M yr3s_26 (ci := 7) (j := 3) rfl K rfl rfl ?_
  refine j_V.putK yr3s_M yr3s_29 (ci := 7) (j := 3) (k' := [(4, .inl (7, [.ref lys, .int mis, .int shus, .int buss, .ref 5, .ref 6, .ref 7, .ref 8, .ref 9, .ref 10, .ref 11, .ref 12, .ref 13, .ref 14, .ref 15, .int lkss, .ref 16, .ref 17, .ref 20])), (106, .inl (7, [.ref lys, .int mis, .int shus, .int buss, .ref 107, .ref 108, .ref 109, .ref 110, .ref 111, .ref 112, .ref 113, .ref 114, .ref 115, .ref 116, .ref 117, .int lks, .ref 118, .ref 119, .ref 122]))]) rfl K rfl (Nat.le_of_ble_eq_true rfl) rfl (Or.inl rfl) rfl rfl (fun h K => ?_)
  refine j_V.ldL yr3s_M yr3s_32 rfl (i := 0) (kd := 2) (v := .ref 106) (pcJ := 33) rfl L rfl rfl rfl ?_
  refine j_V.ldL yr3s_M yr3s_33 rfl (i := 1) (kd := 2) (v := .ref 4) (pcJ := 34) rfl L rfl rfl rfl ?_
  refine j_V.getK yr3s_M yr3s_34 (ci := 7) (j := 15) rfl K rfl rfl ?_
  refine j_V.putK yr3s_M yr3s_37 (ci := 7) (j := 15) (k' := [(4, .inl (7, [.ref lys, .int mis, .int shus, .int buss, .ref 5, .ref 6, .ref 7, .ref 8, .ref 9, .ref 10, .ref 11, .ref 12, .ref 13, .ref 14, .ref 15, .int lkss, .ref 16, .ref 17, .ref 20])), (106, .inl (7, [.ref lys, .int mis, .int shus, .int buss, .ref 107, .ref 108, .ref 109, .ref 110, .ref 111, .ref 112, .ref 113, .ref 114, .ref 115, .ref 116, .ref 117, .int lkss, .ref 118, .ref 119, .ref 122]))]) rfl K rfl (Nat.le_of_ble_eq_true rfl) rfl (Or.inl rfl) rfl rfl (fun h K => ?_)
  exact kk _ _ L K
set_option maxRecDepth 1000000 in
theorem yr3s_k40 {rk : List Int32} {sta : List Int32} {ph : List Int32} {lys : Nat} {mis : Int32} {shus : Int32} {buss : Int32} {lkss : Int32} {rks : List Int32} {stas : List Int32} {phs : List Int32} {d : Nat} {lv : J_L} {h h0 : J_H} {Q : Option Value → J_H → Prop} (L : LK lv [(0, .ref 106), (1, .ref 4)]) (K : KN h [(4, .inl (7, [.ref lys, .int mis, .int shus, .int buss, .ref 5, .ref 6, .ref 7, .ref 8, .ref 9, .ref 10, .ref 11, .ref 12, .ref 13, .ref 14, .ref 15, .int lkss, .ref 16, .ref 17, .ref 20])), (5, .inr (.inl (0, rks))), (6, .inr (.inl (0, stas))), (7, .inr (.inl (0, phs))), (106, .inl (7, [.ref lys, .int mis, .int shus, .int buss, .ref 107, .ref 108, .ref 109, .ref 110, .ref 111, .ref 112, .ref 113, .ref 114, .ref 115, .ref 116, .ref 117, .int lkss, .ref 118, .ref 119, .ref 122])), (107, .inr (.inl (0, rk))), (108, .inr (.inl (0, sta))), (109, .inr (.inl (0, ph)))] h0) (kk : ∀ lv h, LK lv [(0, .ref 106), (1, .ref 4)] → KN h [(4, .inl (7, [.ref lys, .int mis, .int shus, .int buss, .ref 5, .ref 6, .ref 7, .ref 8, .ref 9, .ref 10, .ref 11, .ref 12, .ref 13, .ref 14, .ref 15, .int lkss, .ref 16, .ref 17, .ref 20])), (5, .inr (.inl (0, rks))), (6, .inr (.inl (0, stas))), (7, .inr (.inl (0, phs))), (106, .inl (7, [.ref lys, .int mis, .int shus, .int buss, .ref 107, .ref 108, .ref 109, .ref 110, .ref 111, .ref 112, .ref 113, .ref 114, .ref 115, .ref 116, .ref 117, .int lkss, .ref 118, .ref 119, .ref 122])), (107, .inr (.inl (0, (aC 5 rks rk)))), (108, .inr (.inl (0, (aC 5 stas sta)))), (109, .inr (.inl (0, (aC 5 phs ph))))] h0 → j_V jP d 61 82 lv [] h Q) : j_V jP d 61 40 lv [] h Q := by
  refine j_V.ldL yr3s_M yr3s_40 rfl (i := 1) (kd := 2) (v := .ref 4) (pcJ := 41) rfl L rfl rfl rfl ?_
  refine j_V.getK yr3s_M yr3s_41 (ci := 7) (j := 4) rfl K rfl rfl ?_
  refine j_V.one yr3s_M yr3s_44 (by decide) (pcJ := 45) (stJ := [.int 0, .ref 5]) rfl ?_
  refine j_V.ldL yr3s_M yr3s_45 rfl (i := 0) (kd := 2) (v := .ref 106) (pcJ := 46) rfl L rfl rfl rfl ?_
  refine j_V.getK yr3s_M yr3s_46 (ci := 7) (j := 4) rfl K rfl rfl ?_
  refine j_V.one yr3s_M yr3s_49 (by decide) (pcJ := 50) (stJ := [.int 0, .ref 107, .int 0, .ref 5]) rfl ?_
  refine j_V.one yr3s_M yr3s_50 (by decide) (pcJ := 51) (stJ := [.int 5, .int 0, .ref 107, .int 0, .ref 5]) rfl ?_
  refine j_V.acp yr3s_M yr3s_51 rfl rfl K rfl rfl rfl (fun h K => ?_)
  refine j_V.ldL yr3s_M yr3s_54 rfl (i := 1) (kd := 2) (v := .ref 4) (pcJ := 55) rfl L rfl rfl rfl ?_
  refine j_V.getK yr3s_M yr3s_55 (ci := 7) (j := 5) rfl K rfl rfl ?_
  refine j_V.one yr3s_M yr3s_58 (by decide) (pcJ := 59) (stJ := [.int 0, .ref 6]) rfl ?_
  refine j_V.ldL yr3s_M yr3s_59 rfl (i := 0) (kd := 2) (v := .ref 106) (pcJ := 60) rfl L rfl rfl rfl ?_
  refine j_V.getK yr3s_M yr3s_60 (ci := 7) (j := 5) rfl K rfl rfl ?_
  refine j_V.one yr3s_M yr3s_63 (by decide) (pcJ := 64) (stJ := [.int 0, .ref 108, .int 0, .ref 6]) rfl ?_
  refine j_V.one yr3s_M yr3s_64 (by decide) (pcJ := 65) (stJ := [.int 5, .int 0, .ref 108, .int 0, .ref 6]) rfl ?_
  refine j_V.acp yr3s_M yr3s_65 rfl rfl K rfl rfl rfl (fun h K => ?_)
  refine j_V.ldL yr3s_M yr3s_68 rfl (i := 1) (kd := 2) (v := .ref 4) (pcJ := 69) rfl L rfl rfl rfl ?_
  refine j_V.getK yr3s_M yr3s_69 (ci := 7) (j := 6) rfl K rfl rfl ?_
  refine j_V.one yr3s_M yr3s_72 (by decide) (pcJ := 73) (stJ := [.int 0, .ref 7]) rfl ?_
  refine j_V.ldL yr3s_M yr3s_73 rfl (i := 0) (kd := 2) (v := .ref 106) (pcJ := 74) rfl L rfl rfl rfl ?_
  refine j_V.getK yr3s_M yr3s_74 (ci := 7) (j := 6) rfl K rfl rfl ?_
  refine j_V.one yr3s_M yr3s_77 (by decide) (pcJ := 78) (stJ := [.int 0, .ref 109, .int 0, .ref 7]) rfl ?_
  refine j_V.one yr3s_M yr3s_78 (by decide) (pcJ := 79) (stJ := [.int 5, .int 0, .ref 109, .int 0, .ref 7]) rfl ?_
  refine j_V.acp yr3s_M yr3s_79 rfl rfl K rfl rfl rfl (fun h K => ?_)
  exact kk _ _ L K
set_option maxRecDepth 1000000 in
theorem yr3s_k82 {sp : List Int32} {ce : List Int32} {du : List Int32} {lys : Nat} {mis : Int32} {shus : Int32} {buss : Int32} {lkss : Int32} {sps : List Int32} {ces : List Int32} {dus : List Int32} {d : Nat} {lv : J_L} {h h0 : J_H} {Q : Option Value → J_H → Prop} (L : LK lv [(0, .ref 106), (1, .ref 4)]) (K : KN h [(4, .inl (7, [.ref lys, .int mis, .int shus, .int buss, .ref 5, .ref 6, .ref 7, .ref 8, .ref 9, .ref 10, .ref 11, .ref 12, .ref 13, .ref 14, .ref 15, .int lkss, .ref 16, .ref 17, .ref 20])), (8, .inr (.inl (0, sps))), (9, .inr (.inl (0, ces))), (10, .inr (.inl (0, dus))), (106, .inl (7, [.ref lys, .int mis, .int shus, .int buss, .ref 107, .ref 108, .ref 109, .ref 110, .ref 111, .ref 112, .ref 113, .ref 114, .ref 115, .ref 116, .ref 117, .int lkss, .ref 118, .ref 119, .ref 122])), (110, .inr (.inl (0, sp))), (111, .inr (.inl (0, ce))), (112, .inr (.inl (0, du)))] h0) (kk : ∀ lv h, LK lv [(0, .ref 106), (1, .ref 4)] → KN h [(4, .inl (7, [.ref lys, .int mis, .int shus, .int buss, .ref 5, .ref 6, .ref 7, .ref 8, .ref 9, .ref 10, .ref 11, .ref 12, .ref 13, .ref 14, .ref 15, .int lkss, .ref 16, .ref 17, .ref 20])), (8, .inr (.inl (0, sps))), (9, .inr (.inl (0, ces))), (10, .inr (.inl (0, dus))), (106, .inl (7, [.ref lys, .int mis, .int shus, .int buss, .ref 107, .ref 108, .ref 109, .ref 110, .ref 111, .ref 112, .ref 113, .ref 114, .ref 115, .ref 116, .ref 117, .int lkss, .ref 118, .ref 119, .ref 122])), (110, .inr (.inl (0, (aC 5 sps sp)))), (111, .inr (.inl (0, (aC 5 ces ce)))), (112, .inr (.inl (0, (aC 5 dus du))))] h0 → j_V jP d 61 124 lv [] h Q) : j_V jP d 61 82 lv [] h Q := by
  refine j_V.ldL yr3s_M yr3s_82 rfl (i := 1) (kd := 2) (v := .ref 4) (pcJ := 83) rfl L rfl rfl rfl ?_
  refine j_V.getK yr3s_M yr3s_83 (ci := 7) (j := 7) rfl K rfl rfl ?_
  refine j_V.one yr3s_M yr3s_86 (by decide) (pcJ := 87) (stJ := [.int 0, .ref 8]) rfl ?_
  refine j_V.ldL yr3s_M yr3s_87 rfl (i := 0) (kd := 2) (v := .ref 106) (pcJ := 88) rfl L rfl rfl rfl ?_
  refine j_V.getK yr3s_M yr3s_88 (ci := 7) (j := 7) rfl K rfl rfl ?_
  refine j_V.one yr3s_M yr3s_91 (by decide) (pcJ := 92) (stJ := [.int 0, .ref 110, .int 0, .ref 8]) rfl ?_
  refine j_V.one yr3s_M yr3s_92 (by decide) (pcJ := 93) (stJ := [.int 5, .int 0, .ref 110, .int 0, .ref 8]) rfl ?_
  refine j_V.acp yr3s_M yr3s_93 rfl rfl K rfl rfl rfl (fun h K => ?_)
  refine j_V.ldL yr3s_M yr3s_96 rfl (i := 1) (kd := 2) (v := .ref 4) (pcJ := 97) rfl L rfl rfl rfl ?_
  refine j_V.getK yr3s_M yr3s_97 (ci := 7) (j := 8) rfl K rfl rfl ?_
  refine j_V.one yr3s_M yr3s_100 (by decide) (pcJ := 101) (stJ := [.int 0, .ref 9]) rfl ?_
  refine j_V.ldL yr3s_M yr3s_101 rfl (i := 0) (kd := 2) (v := .ref 106) (pcJ := 102) rfl L rfl rfl rfl ?_
  refine j_V.getK yr3s_M yr3s_102 (ci := 7) (j := 8) rfl K rfl rfl ?_
  refine j_V.one yr3s_M yr3s_105 (by decide) (pcJ := 106) (stJ := [.int 0, .ref 111, .int 0, .ref 9]) rfl ?_
  refine j_V.one yr3s_M yr3s_106 (by decide) (pcJ := 107) (stJ := [.int 5, .int 0, .ref 111, .int 0, .ref 9]) rfl ?_
  refine j_V.acp yr3s_M yr3s_107 rfl rfl K rfl rfl rfl (fun h K => ?_)
  refine j_V.ldL yr3s_M yr3s_110 rfl (i := 1) (kd := 2) (v := .ref 4) (pcJ := 111) rfl L rfl rfl rfl ?_
  refine j_V.getK yr3s_M yr3s_111 (ci := 7) (j := 9) rfl K rfl rfl ?_
  refine j_V.one yr3s_M yr3s_114 (by decide) (pcJ := 115) (stJ := [.int 0, .ref 10]) rfl ?_
  refine j_V.ldL yr3s_M yr3s_115 rfl (i := 0) (kd := 2) (v := .ref 106) (pcJ := 116) rfl L rfl rfl rfl ?_
  refine j_V.getK yr3s_M yr3s_116 (ci := 7) (j := 9) rfl K rfl rfl ?_
  refine j_V.one yr3s_M yr3s_119 (by decide) (pcJ := 120) (stJ := [.int 0, .ref 112, .int 0, .ref 10]) rfl ?_
  refine j_V.one yr3s_M yr3s_120 (by decide) (pcJ := 121) (stJ := [.int 5, .int 0, .ref 112, .int 0, .ref 10]) rfl ?_
  refine j_V.acp yr3s_M yr3s_121 rfl rfl K rfl rfl rfl (fun h K => ?_)
  exact kk _ _ L K
set_option maxRecDepth 1000000 in
theorem yr3s_k124 {he : List Int32} {ri : List Int32} {us : List Int32} {lys : Nat} {mis : Int32} {shus : Int32} {buss : Int32} {lkss : Int32} {hes : List Int32} {ris : List Int32} {uss : List Int32} {d : Nat} {lv : J_L} {h h0 : J_H} {Q : Option Value → J_H → Prop} (L : LK lv [(0, .ref 106), (1, .ref 4)]) (K : KN h [(4, .inl (7, [.ref lys, .int mis, .int shus, .int buss, .ref 5, .ref 6, .ref 7, .ref 8, .ref 9, .ref 10, .ref 11, .ref 12, .ref 13, .ref 14, .ref 15, .int lkss, .ref 16, .ref 17, .ref 20])), (11, .inr (.inl (0, hes))), (12, .inr (.inl (0, ris))), (13, .inr (.inl (0, uss))), (106, .inl (7, [.ref lys, .int mis, .int shus, .int buss, .ref 107, .ref 108, .ref 109, .ref 110, .ref 111, .ref 112, .ref 113, .ref 114, .ref 115, .ref 116, .ref 117, .int lkss, .ref 118, .ref 119, .ref 122])), (113, .inr (.inl (0, he))), (114, .inr (.inl (0, ri))), (115, .inr (.inl (0, us)))] h0) (kk : ∀ lv h, LK lv [(0, .ref 106), (1, .ref 4)] → KN h [(4, .inl (7, [.ref lys, .int mis, .int shus, .int buss, .ref 5, .ref 6, .ref 7, .ref 8, .ref 9, .ref 10, .ref 11, .ref 12, .ref 13, .ref 14, .ref 15, .int lkss, .ref 16, .ref 17, .ref 20])), (11, .inr (.inl (0, hes))), (12, .inr (.inl (0, ris))), (13, .inr (.inl (0, uss))), (106, .inl (7, [.ref lys, .int mis, .int shus, .int buss, .ref 107, .ref 108, .ref 109, .ref 110, .ref 111, .ref 112, .ref 113, .ref 114, .ref 115, .ref 116, .ref 117, .int lkss, .ref 118, .ref 119, .ref 122])), (113, .inr (.inl (0, (aC 5 hes he)))), (114, .inr (.inl (0, (aC 6 ris ri)))), (115, .inr (.inl (0, (aC 6 uss us))))] h0 → j_V jP d 61 168 lv [] h Q) : j_V jP d 61 124 lv [] h Q := by
  refine j_V.ldL yr3s_M yr3s_124 rfl (i := 1) (kd := 2) (v := .ref 4) (pcJ := 125) rfl L rfl rfl rfl ?_
  refine j_V.getK yr3s_M yr3s_125 (ci := 7) (j := 10) rfl K rfl rfl ?_
  refine j_V.one yr3s_M yr3s_128 (by decide) (pcJ := 129) (stJ := [.int 0, .ref 11]) rfl ?_
  refine j_V.ldL yr3s_M yr3s_129 rfl (i := 0) (kd := 2) (v := .ref 106) (pcJ := 130) rfl L rfl rfl rfl ?_
  refine j_V.getK yr3s_M yr3s_130 (ci := 7) (j := 10) rfl K rfl rfl ?_
  refine j_V.one yr3s_M yr3s_133 (by decide) (pcJ := 134) (stJ := [.int 0, .ref 113, .int 0, .ref 11]) rfl ?_
  refine j_V.one yr3s_M yr3s_134 (by decide) (pcJ := 135) (stJ := [.int 5, .int 0, .ref 113, .int 0, .ref 11]) rfl ?_
  refine j_V.acp yr3s_M yr3s_135 rfl rfl K rfl rfl rfl (fun h K => ?_)
  refine j_V.ldL yr3s_M yr3s_138 rfl (i := 1) (kd := 2) (v := .ref 4) (pcJ := 139) rfl L rfl rfl rfl ?_
  refine j_V.getK yr3s_M yr3s_139 (ci := 7) (j := 11) rfl K rfl rfl ?_
  refine j_V.one yr3s_M yr3s_142 (by decide) (pcJ := 143) (stJ := [.int 0, .ref 12]) rfl ?_
  refine j_V.ldL yr3s_M yr3s_143 rfl (i := 0) (kd := 2) (v := .ref 106) (pcJ := 144) rfl L rfl rfl rfl ?_
  refine j_V.getK yr3s_M yr3s_144 (ci := 7) (j := 11) rfl K rfl rfl ?_
  refine j_V.one yr3s_M yr3s_147 (by decide) (pcJ := 148) (stJ := [.int 0, .ref 114, .int 0, .ref 12]) rfl ?_
  refine j_V.one yr3s_M yr3s_148 (by decide) (pcJ := 150) (stJ := [.int 6, .int 0, .ref 114, .int 0, .ref 12]) rfl ?_
  refine j_V.acp yr3s_M yr3s_150 rfl rfl K rfl rfl rfl (fun h K => ?_)
  refine j_V.ldL yr3s_M yr3s_153 rfl (i := 1) (kd := 2) (v := .ref 4) (pcJ := 154) rfl L rfl rfl rfl ?_
  refine j_V.getK yr3s_M yr3s_154 (ci := 7) (j := 12) rfl K rfl rfl ?_
  refine j_V.one yr3s_M yr3s_157 (by decide) (pcJ := 158) (stJ := [.int 0, .ref 13]) rfl ?_
  refine j_V.ldL yr3s_M yr3s_158 rfl (i := 0) (kd := 2) (v := .ref 106) (pcJ := 159) rfl L rfl rfl rfl ?_
  refine j_V.getK yr3s_M yr3s_159 (ci := 7) (j := 12) rfl K rfl rfl ?_
  refine j_V.one yr3s_M yr3s_162 (by decide) (pcJ := 163) (stJ := [.int 0, .ref 115, .int 0, .ref 13]) rfl ?_
  refine j_V.one yr3s_M yr3s_163 (by decide) (pcJ := 165) (stJ := [.int 6, .int 0, .ref 115, .int 0, .ref 13]) rfl ?_
  refine j_V.acp yr3s_M yr3s_165 rfl rfl K rfl rfl rfl (fun h K => ?_)
  exact kk _ _ L K
set_option maxRecDepth 1000000 in
theorem yr3s_k168 {cm : List Int32} {lf : List Int32} {lkd : List Int32} {lys : Nat} {mis : Int32} {shus : Int32} {buss : Int32} {lkss : Int32} {cms : List Int32} {lfs : List Int32} {lkds : List Int32} {d : Nat} {lv : J_L} {h h0 : J_H} {Q : Option Value → J_H → Prop} (L : LK lv [(0, .ref 106), (1, .ref 4)]) (K : KN h [(4, .inl (7, [.ref lys, .int mis, .int shus, .int buss, .ref 5, .ref 6, .ref 7, .ref 8, .ref 9, .ref 10, .ref 11, .ref 12, .ref 13, .ref 14, .ref 15, .int lkss, .ref 16, .ref 17, .ref 20])), (14, .inr (.inl (0, cms))), (15, .inr (.inl (0, lfs))), (16, .inr (.inl (0, lkds))), (106, .inl (7, [.ref lys, .int mis, .int shus, .int buss, .ref 107, .ref 108, .ref 109, .ref 110, .ref 111, .ref 112, .ref 113, .ref 114, .ref 115, .ref 116, .ref 117, .int lkss, .ref 118, .ref 119, .ref 122])), (116, .inr (.inl (0, cm))), (117, .inr (.inl (0, lf))), (118, .inr (.inl (0, lkd)))] h0) (kk : ∀ lv h, LK lv [(0, .ref 106), (1, .ref 4)] → KN h [(4, .inl (7, [.ref lys, .int mis, .int shus, .int buss, .ref 5, .ref 6, .ref 7, .ref 8, .ref 9, .ref 10, .ref 11, .ref 12, .ref 13, .ref 14, .ref 15, .int lkss, .ref 16, .ref 17, .ref 20])), (14, .inr (.inl (0, cms))), (15, .inr (.inl (0, lfs))), (16, .inr (.inl (0, lkds))), (106, .inl (7, [.ref lys, .int mis, .int shus, .int buss, .ref 107, .ref 108, .ref 109, .ref 110, .ref 111, .ref 112, .ref 113, .ref 114, .ref 115, .ref 116, .ref 117, .int lkss, .ref 118, .ref 119, .ref 122])), (116, .inr (.inl (0, (aC (nI cm.length) cms cm)))), (117, .inr (.inl (0, (aC (nI lf.length) lfs lf)))), (118, .inr (.inl (0, (aC (nI lkd.length) lkds lkd))))] h0 → j_V jP d 61 222 lv [] h Q) : j_V jP d 61 168 lv [] h Q := by
  refine j_V.ldL yr3s_M yr3s_168 rfl (i := 1) (kd := 2) (v := .ref 4) (pcJ := 169) rfl L rfl rfl rfl ?_
  refine j_V.getK yr3s_M yr3s_169 (ci := 7) (j := 13) rfl K rfl rfl ?_
  refine j_V.one yr3s_M yr3s_172 (by decide) (pcJ := 173) (stJ := [.int 0, .ref 14]) rfl ?_
  refine j_V.ldL yr3s_M yr3s_173 rfl (i := 0) (kd := 2) (v := .ref 106) (pcJ := 174) rfl L rfl rfl rfl ?_
  refine j_V.getK yr3s_M yr3s_174 (ci := 7) (j := 13) rfl K rfl rfl ?_
  refine j_V.one yr3s_M yr3s_177 (by decide) (pcJ := 178) (stJ := [.int 0, .ref 116, .int 0, .ref 14]) rfl ?_
  refine j_V.ldL yr3s_M yr3s_178 rfl (i := 0) (kd := 2) (v := .ref 106) (pcJ := 179) rfl L rfl rfl rfl ?_
  refine j_V.getK yr3s_M yr3s_179 (ci := 7) (j := 13) rfl K rfl rfl ?_
  refine j_V.alnA yr3s_M yr3s_182 K rfl ?_
  refine j_V.acp yr3s_M yr3s_183 rfl rfl K rfl rfl rfl (fun h K => ?_)
  refine j_V.ldL yr3s_M yr3s_186 rfl (i := 1) (kd := 2) (v := .ref 4) (pcJ := 187) rfl L rfl rfl rfl ?_
  refine j_V.getK yr3s_M yr3s_187 (ci := 7) (j := 14) rfl K rfl rfl ?_
  refine j_V.one yr3s_M yr3s_190 (by decide) (pcJ := 191) (stJ := [.int 0, .ref 15]) rfl ?_
  refine j_V.ldL yr3s_M yr3s_191 rfl (i := 0) (kd := 2) (v := .ref 106) (pcJ := 192) rfl L rfl rfl rfl ?_
  refine j_V.getK yr3s_M yr3s_192 (ci := 7) (j := 14) rfl K rfl rfl ?_
  refine j_V.one yr3s_M yr3s_195 (by decide) (pcJ := 196) (stJ := [.int 0, .ref 117, .int 0, .ref 15]) rfl ?_
  refine j_V.ldL yr3s_M yr3s_196 rfl (i := 0) (kd := 2) (v := .ref 106) (pcJ := 197) rfl L rfl rfl rfl ?_
  refine j_V.getK yr3s_M yr3s_197 (ci := 7) (j := 14) rfl K rfl rfl ?_
  refine j_V.alnA yr3s_M yr3s_200 K rfl ?_
  refine j_V.acp yr3s_M yr3s_201 rfl rfl K rfl rfl rfl (fun h K => ?_)
  refine j_V.ldL yr3s_M yr3s_204 rfl (i := 1) (kd := 2) (v := .ref 4) (pcJ := 205) rfl L rfl rfl rfl ?_
  refine j_V.getK yr3s_M yr3s_205 (ci := 7) (j := 16) rfl K rfl rfl ?_
  refine j_V.one yr3s_M yr3s_208 (by decide) (pcJ := 209) (stJ := [.int 0, .ref 16]) rfl ?_
  refine j_V.ldL yr3s_M yr3s_209 rfl (i := 0) (kd := 2) (v := .ref 106) (pcJ := 210) rfl L rfl rfl rfl ?_
  refine j_V.getK yr3s_M yr3s_210 (ci := 7) (j := 16) rfl K rfl rfl ?_
  refine j_V.one yr3s_M yr3s_213 (by decide) (pcJ := 214) (stJ := [.int 0, .ref 118, .int 0, .ref 16]) rfl ?_
  refine j_V.ldL yr3s_M yr3s_214 rfl (i := 0) (kd := 2) (v := .ref 106) (pcJ := 215) rfl L rfl rfl rfl ?_
  refine j_V.getK yr3s_M yr3s_215 (ci := 7) (j := 16) rfl K rfl rfl ?_
  refine j_V.alnA yr3s_M yr3s_218 K rfl ?_
  refine j_V.acp yr3s_M yr3s_219 rfl rfl K rfl rfl rfl (fun h K => ?_)
  exact kk _ _ L K
set_option maxRecDepth 1000000 in
theorem yr3s_ok {ly : Value} {mi : Int32} {shu : Int32} {bus : Int32} {lks : Int32} {rk : List Int32} {sta : List Int32} {ph : List Int32} {sp : List Int32} {ce : List Int32} {du : List Int32} {he : List Int32} {ri : List Int32} {us : List Int32} {cm : List Int32} {lf : List Int32} {lkd : List Int32} {pev : Int32} {pms : List Int32} {pmm : List Int32} {pmt : List Int32} {pst : List Int32} {pwa : List Int32} {prs : List Int32} {prr : List Int32} {pfa : List Int32} {lys : Nat} {mis : Int32} {shus : Int32} {buss : Int32} {lkss : Int32} {rks : List Int32} {stas : List Int32} {phs : List Int32} {sps : List Int32} {ces : List Int32} {dus : List Int32} {hes : List Int32} {ris : List Int32} {uss : List Int32} {cms : List Int32} {lfs : List Int32} {lkds : List Int32} {pevs : Int32} {pmss : List Int32} {pmms : List Int32} {pmts : List Int32} {psts : List Int32} {pwas : List Int32} {prss : List Int32} {prrs : List Int32} {pfas : List Int32} {d : Nat} {h h0 : J_H} (K : KN h [(4, .inl (7, [.ref lys, .int mis, .int shus, .int buss, .ref 5, .ref 6, .ref 7, .ref 8, .ref 9, .ref 10, .ref 11, .ref 12, .ref 13, .ref 14, .ref 15, .int lkss, .ref 16, .ref 17, .ref 20])), (5, .inr (.inl (0, rks))), (6, .inr (.inl (0, stas))), (7, .inr (.inl (0, phs))), (8, .inr (.inl (0, sps))), (9, .inr (.inl (0, ces))), (10, .inr (.inl (0, dus))), (11, .inr (.inl (0, hes))), (12, .inr (.inl (0, ris))), (13, .inr (.inl (0, uss))), (14, .inr (.inl (0, cms))), (15, .inr (.inl (0, lfs))), (16, .inr (.inl (0, lkds))), (20, .inl (3, [.ref 21, .ref 22, .ref 23, .ref 24, .ref 25, .ref 26, .ref 27, .ref 28, .int pevs, .int 1])), (21, .inr (.inl (0, pmss))), (22, .inr (.inl (0, pmms))), (23, .inr (.inl (0, pmts))), (24, .inr (.inl (0, psts))), (25, .inr (.inl (0, pwas))), (26, .inr (.inl (0, prss))), (27, .inr (.inl (0, prrs))), (28, .inr (.inl (0, pfas))), (106, .inl (7, [ly, .int mi, .int shu, .int bus, .ref 107, .ref 108, .ref 109, .ref 110, .ref 111, .ref 112, .ref 113, .ref 114, .ref 115, .ref 116, .ref 117, .int lks, .ref 118, .ref 119, .ref 122])), (107, .inr (.inl (0, rk))), (108, .inr (.inl (0, sta))), (109, .inr (.inl (0, ph))), (110, .inr (.inl (0, sp))), (111, .inr (.inl (0, ce))), (112, .inr (.inl (0, du))), (113, .inr (.inl (0, he))), (114, .inr (.inl (0, ri))), (115, .inr (.inl (0, us))), (116, .inr (.inl (0, cm))), (117, .inr (.inl (0, lf))), (118, .inr (.inl (0, lkd))), (122, .inl (3, [.ref 123, .ref 124, .ref 125, .ref 126, .ref 127, .ref 128, .ref 129, .ref 130, .int pev, .int 1])), (123, .inr (.inl (0, pms))), (124, .inr (.inl (0, pmm))), (125, .inr (.inl (0, pmt))), (126, .inr (.inl (0, pst))), (127, .inr (.inl (0, pwa))), (128, .inr (.inl (0, prs))), (129, .inr (.inl (0, prr))), (130, .inr (.inl (0, pfa)))] h0) : j_V jP d 61 0 (lv_args 0 [.ref 106, .ref 4]) [] h (fun rv h' => rv = none ∧ KN h' [(4, .inl (7, [.ref lys, .int mis, .int shus, .int buss, .ref 5, .ref 6, .ref 7, .ref 8, .ref 9, .ref 10, .ref 11, .ref 12, .ref 13, .ref 14, .ref 15, .int lkss, .ref 16, .ref 17, .ref 20])), (5, .inr (.inl (0, rks))), (6, .inr (.inl (0, stas))), (7, .inr (.inl (0, phs))), (8, .inr (.inl (0, sps))), (9, .inr (.inl (0, ces))), (10, .inr (.inl (0, dus))), (11, .inr (.inl (0, hes))), (12, .inr (.inl (0, ris))), (13, .inr (.inl (0, uss))), (14, .inr (.inl (0, cms))), (15, .inr (.inl (0, lfs))), (16, .inr (.inl (0, lkds))), (20, .inl (3, [.ref 21, .ref 22, .ref 23, .ref 24, .ref 25, .ref 26, .ref 27, .ref 28, .int pevs, .int 1])), (21, .inr (.inl (0, pmss))), (22, .inr (.inl (0, pmms))), (23, .inr (.inl (0, pmts))), (24, .inr (.inl (0, psts))), (25, .inr (.inl (0, pwas))), (26, .inr (.inl (0, prss))), (27, .inr (.inl (0, prrs))), (28, .inr (.inl (0, pfas))), (106, .inl (7, [.ref lys, .int mis, .int shus, .int buss, .ref 107, .ref 108, .ref 109, .ref 110, .ref 111, .ref 112, .ref 113, .ref 114, .ref 115, .ref 116, .ref 117, .int lkss, .ref 118, .ref 119, .ref 122])), (107, .inr (.inl (0, (aC 5 rks rk)))), (108, .inr (.inl (0, (aC 5 stas sta)))), (109, .inr (.inl (0, (aC 5 phs ph)))), (110, .inr (.inl (0, (aC 5 sps sp)))), (111, .inr (.inl (0, (aC 5 ces ce)))), (112, .inr (.inl (0, (aC 5 dus du)))), (113, .inr (.inl (0, (aC 5 hes he)))), (114, .inr (.inl (0, (aC 6 ris ri)))), (115, .inr (.inl (0, (aC 6 uss us)))), (116, .inr (.inl (0, (aC (nI cm.length) cms cm)))), (117, .inr (.inl (0, (aC (nI lf.length) lfs lf)))), (118, .inr (.inl (0, (aC (nI lkd.length) lkds lkd)))), (122, .inl (3, [.ref 123, .ref 124, .ref 125, .ref 126, .ref 127, .ref 128, .ref 129, .ref 130, .int pevs, .int 1])), (123, .inr (.inl (0, (aC (nI pms.length) pmss pms)))), (124, .inr (.inl (0, (aC (nI pmm.length) pmms pmm)))), (125, .inr (.inl (0, (aC (nI pmt.length) pmts pmt)))), (126, .inr (.inl (0, (aC (nI pst.length) psts pst)))), (127, .inr (.inl (0, (aC (nI pwa.length) pwas pwa)))), (128, .inr (.inl (0, (aC (nI prs.length) prss prs)))), (129, .inr (.inl (0, (aC (nI prr.length) prrs prr)))), (130, .inr (.inl (0, (aC (nI pfa.length) pfas pfa))))] h0) := by
  show j_V jP d 61 0 [(0, .ref 106), (1, .ref 4)] [] h _
  obtain ⟨lv, elv, L⟩ : ∃ lv, lv = [(0, .ref 106), (1, .ref 4)] ∧ LK lv [(0, .ref 106), (1, .ref 4)] := ⟨_, rfl, LK.rf⟩
  rw [← elv]
  clear elv
  refine yr3s_k0 L (K.fi [4, 106] rfl rfl) (fun lv h9 L K9 => ?_)
  have K : KN h9 [(4, .inl (7, [.ref lys, .int mis, .int shus, .int buss, .ref 5, .ref 6, .ref 7, .ref 8, .ref 9, .ref 10, .ref 11, .ref 12, .ref 13, .ref 14, .ref 15, .int lkss, .ref 16, .ref 17, .ref 20])), (5, .inr (.inl (0, rks))), (6, .inr (.inl (0, stas))), (7, .inr (.inl (0, phs))), (8, .inr (.inl (0, sps))), (9, .inr (.inl (0, ces))), (10, .inr (.inl (0, dus))), (11, .inr (.inl (0, hes))), (12, .inr (.inl (0, ris))), (13, .inr (.inl (0, uss))), (14, .inr (.inl (0, cms))), (15, .inr (.inl (0, lfs))), (16, .inr (.inl (0, lkds))), (20, .inl (3, [.ref 21, .ref 22, .ref 23, .ref 24, .ref 25, .ref 26, .ref 27, .ref 28, .int pevs, .int 1])), (21, .inr (.inl (0, pmss))), (22, .inr (.inl (0, pmms))), (23, .inr (.inl (0, pmts))), (24, .inr (.inl (0, psts))), (25, .inr (.inl (0, pwas))), (26, .inr (.inl (0, prss))), (27, .inr (.inl (0, prrs))), (28, .inr (.inl (0, pfas))), (106, .inl (7, [.ref lys, .int mis, .int shus, .int buss, .ref 107, .ref 108, .ref 109, .ref 110, .ref 111, .ref 112, .ref 113, .ref 114, .ref 115, .ref 116, .ref 117, .int lkss, .ref 118, .ref 119, .ref 122])), (107, .inr (.inl (0, rk))), (108, .inr (.inl (0, sta))), (109, .inr (.inl (0, ph))), (110, .inr (.inl (0, sp))), (111, .inr (.inl (0, ce))), (112, .inr (.inl (0, du))), (113, .inr (.inl (0, he))), (114, .inr (.inl (0, ri))), (115, .inr (.inl (0, us))), (116, .inr (.inl (0, cm))), (117, .inr (.inl (0, lf))), (118, .inr (.inl (0, lkd))), (122, .inl (3, [.ref 123, .ref 124, .ref 125, .ref 126, .ref 127, .ref 128, .ref 129, .ref 130, .int pev, .int 1])), (123, .inr (.inl (0, pms))), (124, .inr (.inl (0, pmm))), (125, .inr (.inl (0, pmt))), (126, .inr (.inl (0, pst))), (127, .inr (.inl (0, pwa))), (128, .inr (.inl (0, prs))), (129, .inr (.inl (0, prr))), (130, .inr (.inl (0, pfa)))] h0 := K.mg K9 rfl rfl
  clear K9
  refine yr3s_k40 L (K.fi [4, 5, 6, 7, 106, 107, 108, 109] rfl rfl) (fun lv h9 L K9 => ?_)
  have K : KN h9 [(4, .inl (7, [.ref lys, .int mis, .int shus, .int buss, .ref 5, .ref 6, .ref 7, .ref 8, .ref 9, .ref 10, .ref 11, .ref 12, .ref 13, .ref 14, .ref 15, .int lkss, .ref 16, .ref 17, .ref 20])), (5, .inr (.inl (0, rks))), (6, .inr (.inl (0, stas))), (7, .inr (.inl (0, phs))), (8, .inr (.inl (0, sps))), (9, .inr (.inl (0, ces))), (10, .inr (.inl (0, dus))), (11, .inr (.inl (0, hes))), (12, .inr (.inl (0, ris))), (13, .inr (.inl (0, uss))), (14, .inr (.inl (0, cms))), (15, .inr (.inl (0, lfs))), (16, .inr (.inl (0, lkds))), (20, .inl (3, [.ref 21, .ref 22, .ref 23, .ref 24, .ref 25, .ref 26, .ref 27, .ref 28, .int pevs, .int 1])), (21, .inr (.inl (0, pmss))), (22, .inr (.inl (0, pmms))), (23, .inr (.inl (0, pmts))), (24, .inr (.inl (0, psts))), (25, .inr (.inl (0, pwas))), (26, .inr (.inl (0, prss))), (27, .inr (.inl (0, prrs))), (28, .inr (.inl (0, pfas))), (106, .inl (7, [.ref lys, .int mis, .int shus, .int buss, .ref 107, .ref 108, .ref 109, .ref 110, .ref 111, .ref 112, .ref 113, .ref 114, .ref 115, .ref 116, .ref 117, .int lkss, .ref 118, .ref 119, .ref 122])), (107, .inr (.inl (0, (aC 5 rks rk)))), (108, .inr (.inl (0, (aC 5 stas sta)))), (109, .inr (.inl (0, (aC 5 phs ph)))), (110, .inr (.inl (0, sp))), (111, .inr (.inl (0, ce))), (112, .inr (.inl (0, du))), (113, .inr (.inl (0, he))), (114, .inr (.inl (0, ri))), (115, .inr (.inl (0, us))), (116, .inr (.inl (0, cm))), (117, .inr (.inl (0, lf))), (118, .inr (.inl (0, lkd))), (122, .inl (3, [.ref 123, .ref 124, .ref 125, .ref 126, .ref 127, .ref 128, .ref 129, .ref 130, .int pev, .int 1])), (123, .inr (.inl (0, pms))), (124, .inr (.inl (0, pmm))), (125, .inr (.inl (0, pmt))), (126, .inr (.inl (0, pst))), (127, .inr (.inl (0, pwa))), (128, .inr (.inl (0, prs))), (129, .inr (.inl (0, prr))), (130, .inr (.inl (0, pfa)))] h0 := K.mg K9 rfl rfl
  clear K9
  refine yr3s_k82 L (K.fi [4, 8, 9, 10, 106, 110, 111, 112] rfl rfl) (fun lv h9 L K9 => ?_)
  have K : KN h9 [(4, .inl (7, [.ref lys, .int mis, .int shus, .int buss, .ref 5, .ref 6, .ref 7, .ref 8, .ref 9, .ref 10, .ref 11, .ref 12, .ref 13, .ref 14, .ref 15, .int lkss, .ref 16, .ref 17, .ref 20])), (5, .inr (.inl (0, rks))), (6, .inr (.inl (0, stas))), (7, .inr (.inl (0, phs))), (8, .inr (.inl (0, sps))), (9, .inr (.inl (0, ces))), (10, .inr (.inl (0, dus))), (11, .inr (.inl (0, hes))), (12, .inr (.inl (0, ris))), (13, .inr (.inl (0, uss))), (14, .inr (.inl (0, cms))), (15, .inr (.inl (0, lfs))), (16, .inr (.inl (0, lkds))), (20, .inl (3, [.ref 21, .ref 22, .ref 23, .ref 24, .ref 25, .ref 26, .ref 27, .ref 28, .int pevs, .int 1])), (21, .inr (.inl (0, pmss))), (22, .inr (.inl (0, pmms))), (23, .inr (.inl (0, pmts))), (24, .inr (.inl (0, psts))), (25, .inr (.inl (0, pwas))), (26, .inr (.inl (0, prss))), (27, .inr (.inl (0, prrs))), (28, .inr (.inl (0, pfas))), (106, .inl (7, [.ref lys, .int mis, .int shus, .int buss, .ref 107, .ref 108, .ref 109, .ref 110, .ref 111, .ref 112, .ref 113, .ref 114, .ref 115, .ref 116, .ref 117, .int lkss, .ref 118, .ref 119, .ref 122])), (107, .inr (.inl (0, (aC 5 rks rk)))), (108, .inr (.inl (0, (aC 5 stas sta)))), (109, .inr (.inl (0, (aC 5 phs ph)))), (110, .inr (.inl (0, (aC 5 sps sp)))), (111, .inr (.inl (0, (aC 5 ces ce)))), (112, .inr (.inl (0, (aC 5 dus du)))), (113, .inr (.inl (0, he))), (114, .inr (.inl (0, ri))), (115, .inr (.inl (0, us))), (116, .inr (.inl (0, cm))), (117, .inr (.inl (0, lf))), (118, .inr (.inl (0, lkd))), (122, .inl (3, [.ref 123, .ref 124, .ref 125, .ref 126, .ref 127, .ref 128, .ref 129, .ref 130, .int pev, .int 1])), (123, .inr (.inl (0, pms))), (124, .inr (.inl (0, pmm))), (125, .inr (.inl (0, pmt))), (126, .inr (.inl (0, pst))), (127, .inr (.inl (0, pwa))), (128, .inr (.inl (0, prs))), (129, .inr (.inl (0, prr))), (130, .inr (.inl (0, pfa)))] h0 := K.mg K9 rfl rfl
  clear K9
  refine yr3s_k124 L (K.fi [4, 11, 12, 13, 106, 113, 114, 115] rfl rfl) (fun lv h9 L K9 => ?_)
  have K : KN h9 [(4, .inl (7, [.ref lys, .int mis, .int shus, .int buss, .ref 5, .ref 6, .ref 7, .ref 8, .ref 9, .ref 10, .ref 11, .ref 12, .ref 13, .ref 14, .ref 15, .int lkss, .ref 16, .ref 17, .ref 20])), (5, .inr (.inl (0, rks))), (6, .inr (.inl (0, stas))), (7, .inr (.inl (0, phs))), (8, .inr (.inl (0, sps))), (9, .inr (.inl (0, ces))), (10, .inr (.inl (0, dus))), (11, .inr (.inl (0, hes))), (12, .inr (.inl (0, ris))), (13, .inr (.inl (0, uss))), (14, .inr (.inl (0, cms))), (15, .inr (.inl (0, lfs))), (16, .inr (.inl (0, lkds))), (20, .inl (3, [.ref 21, .ref 22, .ref 23, .ref 24, .ref 25, .ref 26, .ref 27, .ref 28, .int pevs, .int 1])), (21, .inr (.inl (0, pmss))), (22, .inr (.inl (0, pmms))), (23, .inr (.inl (0, pmts))), (24, .inr (.inl (0, psts))), (25, .inr (.inl (0, pwas))), (26, .inr (.inl (0, prss))), (27, .inr (.inl (0, prrs))), (28, .inr (.inl (0, pfas))), (106, .inl (7, [.ref lys, .int mis, .int shus, .int buss, .ref 107, .ref 108, .ref 109, .ref 110, .ref 111, .ref 112, .ref 113, .ref 114, .ref 115, .ref 116, .ref 117, .int lkss, .ref 118, .ref 119, .ref 122])), (107, .inr (.inl (0, (aC 5 rks rk)))), (108, .inr (.inl (0, (aC 5 stas sta)))), (109, .inr (.inl (0, (aC 5 phs ph)))), (110, .inr (.inl (0, (aC 5 sps sp)))), (111, .inr (.inl (0, (aC 5 ces ce)))), (112, .inr (.inl (0, (aC 5 dus du)))), (113, .inr (.inl (0, (aC 5 hes he)))), (114, .inr (.inl (0, (aC 6 ris ri)))), (115, .inr (.inl (0, (aC 6 uss us)))), (116, .inr (.inl (0, cm))), (117, .inr (.inl (0, lf))), (118, .inr (.inl (0, lkd))), (122, .inl (3, [.ref 123, .ref 124, .ref 125, .ref 126, .ref 127, .ref 128, .ref 129, .ref 130, .int pev, .int 1])), (123, .inr (.inl (0, pms))), (124, .inr (.inl (0, pmm))), (125, .inr (.inl (0, pmt))), (126, .inr (.inl (0, pst))), (127, .inr (.inl (0, pwa))), (128, .inr (.inl (0, prs))), (129, .inr (.inl (0, prr))), (130, .inr (.inl (0, pfa)))] h0 := K.mg K9 rfl rfl
  clear K9
  refine yr3s_k168 L (K.fi [4, 14, 15, 16, 106, 116, 117, 118] rfl rfl) (fun lv h9 L K9 => ?_)
  have K : KN h9 [(4, .inl (7, [.ref lys, .int mis, .int shus, .int buss, .ref 5, .ref 6, .ref 7, .ref 8, .ref 9, .ref 10, .ref 11, .ref 12, .ref 13, .ref 14, .ref 15, .int lkss, .ref 16, .ref 17, .ref 20])), (5, .inr (.inl (0, rks))), (6, .inr (.inl (0, stas))), (7, .inr (.inl (0, phs))), (8, .inr (.inl (0, sps))), (9, .inr (.inl (0, ces))), (10, .inr (.inl (0, dus))), (11, .inr (.inl (0, hes))), (12, .inr (.inl (0, ris))), (13, .inr (.inl (0, uss))), (14, .inr (.inl (0, cms))), (15, .inr (.inl (0, lfs))), (16, .inr (.inl (0, lkds))), (20, .inl (3, [.ref 21, .ref 22, .ref 23, .ref 24, .ref 25, .ref 26, .ref 27, .ref 28, .int pevs, .int 1])), (21, .inr (.inl (0, pmss))), (22, .inr (.inl (0, pmms))), (23, .inr (.inl (0, pmts))), (24, .inr (.inl (0, psts))), (25, .inr (.inl (0, pwas))), (26, .inr (.inl (0, prss))), (27, .inr (.inl (0, prrs))), (28, .inr (.inl (0, pfas))), (106, .inl (7, [.ref lys, .int mis, .int shus, .int buss, .ref 107, .ref 108, .ref 109, .ref 110, .ref 111, .ref 112, .ref 113, .ref 114, .ref 115, .ref 116, .ref 117, .int lkss, .ref 118, .ref 119, .ref 122])), (107, .inr (.inl (0, (aC 5 rks rk)))), (108, .inr (.inl (0, (aC 5 stas sta)))), (109, .inr (.inl (0, (aC 5 phs ph)))), (110, .inr (.inl (0, (aC 5 sps sp)))), (111, .inr (.inl (0, (aC 5 ces ce)))), (112, .inr (.inl (0, (aC 5 dus du)))), (113, .inr (.inl (0, (aC 5 hes he)))), (114, .inr (.inl (0, (aC 6 ris ri)))), (115, .inr (.inl (0, (aC 6 uss us)))), (116, .inr (.inl (0, (aC (nI cm.length) cms cm)))), (117, .inr (.inl (0, (aC (nI lf.length) lfs lf)))), (118, .inr (.inl (0, (aC (nI lkd.length) lkds lkd)))), (122, .inl (3, [.ref 123, .ref 124, .ref 125, .ref 126, .ref 127, .ref 128, .ref 129, .ref 130, .int pev, .int 1])), (123, .inr (.inl (0, pms))), (124, .inr (.inl (0, pmm))), (125, .inr (.inl (0, pmt))), (126, .inr (.inl (0, pst))), (127, .inr (.inl (0, pwa))), (128, .inr (.inl (0, prs))), (129, .inr (.inl (0, prr))), (130, .inr (.inl (0, pfa)))] h0 := K.mg K9 rfl rfl
  clear K9
  refine j_V.ldL yr3s_M yr3s_222 rfl (i := 0) (kd := 2) (v := .ref 106) (pcJ := 223) rfl L rfl rfl rfl ?_
  refine j_V.getK yr3s_M yr3s_223 (ci := 7) (j := 18) rfl K rfl rfl ?_
  refine j_V.ldL yr3s_M yr3s_226 rfl (i := 1) (kd := 2) (v := .ref 4) (pcJ := 227) rfl L rfl rfl rfl ?_
  refine j_V.getK yr3s_M yr3s_227 (ci := 7) (j := 18) rfl K rfl rfl ?_
  refine j_V.cl yr3s_M yr3s_230 rfl (md := 3) (mj := 28) rfl (by decide) yr3p_M (As := [.ref 122, .ref 20]) (rest := []) (jk_spl3 (K.at rfl) rfl rfl rfl (Nat.le_of_ble_eq_true rfl) (Nat.le_of_ble_eq_true rfl)) (fun d => yr3p_ok (K.fi [20, 21, 22, 23, 24, 25, 26, 27, 28, 122, 123, 124, 125, 126, 127, 128, 129, 130] rfl rfl)) ?_
  rintro r h9 ⟨rfl, K9⟩
  have K : KN h9 [(4, .inl (7, [.ref lys, .int mis, .int shus, .int buss, .ref 5, .ref 6, .ref 7, .ref 8, .ref 9, .ref 10, .ref 11, .ref 12, .ref 13, .ref 14, .ref 15, .int lkss, .ref 16, .ref 17, .ref 20])), (5, .inr (.inl (0, rks))), (6, .inr (.inl (0, stas))), (7, .inr (.inl (0, phs))), (8, .inr (.inl (0, sps))), (9, .inr (.inl (0, ces))), (10, .inr (.inl (0, dus))), (11, .inr (.inl (0, hes))), (12, .inr (.inl (0, ris))), (13, .inr (.inl (0, uss))), (14, .inr (.inl (0, cms))), (15, .inr (.inl (0, lfs))), (16, .inr (.inl (0, lkds))), (20, .inl (3, [.ref 21, .ref 22, .ref 23, .ref 24, .ref 25, .ref 26, .ref 27, .ref 28, .int pevs, .int 1])), (21, .inr (.inl (0, pmss))), (22, .inr (.inl (0, pmms))), (23, .inr (.inl (0, pmts))), (24, .inr (.inl (0, psts))), (25, .inr (.inl (0, pwas))), (26, .inr (.inl (0, prss))), (27, .inr (.inl (0, prrs))), (28, .inr (.inl (0, pfas))), (106, .inl (7, [.ref lys, .int mis, .int shus, .int buss, .ref 107, .ref 108, .ref 109, .ref 110, .ref 111, .ref 112, .ref 113, .ref 114, .ref 115, .ref 116, .ref 117, .int lkss, .ref 118, .ref 119, .ref 122])), (107, .inr (.inl (0, (aC 5 rks rk)))), (108, .inr (.inl (0, (aC 5 stas sta)))), (109, .inr (.inl (0, (aC 5 phs ph)))), (110, .inr (.inl (0, (aC 5 sps sp)))), (111, .inr (.inl (0, (aC 5 ces ce)))), (112, .inr (.inl (0, (aC 5 dus du)))), (113, .inr (.inl (0, (aC 5 hes he)))), (114, .inr (.inl (0, (aC 6 ris ri)))), (115, .inr (.inl (0, (aC 6 uss us)))), (116, .inr (.inl (0, (aC (nI cm.length) cms cm)))), (117, .inr (.inl (0, (aC (nI lf.length) lfs lf)))), (118, .inr (.inl (0, (aC (nI lkd.length) lkds lkd)))), (122, .inl (3, [.ref 123, .ref 124, .ref 125, .ref 126, .ref 127, .ref 128, .ref 129, .ref 130, .int pevs, .int 1])), (123, .inr (.inl (0, (aC (nI pms.length) pmss pms)))), (124, .inr (.inl (0, (aC (nI pmm.length) pmms pmm)))), (125, .inr (.inl (0, (aC (nI pmt.length) pmts pmt)))), (126, .inr (.inl (0, (aC (nI pst.length) psts pst)))), (127, .inr (.inl (0, (aC (nI pwa.length) pwas pwa)))), (128, .inr (.inl (0, (aC (nI prs.length) prss prs)))), (129, .inr (.inl (0, (aC (nI prr.length) prrs prr)))), (130, .inr (.inl (0, (aC (nI pfa.length) pfas pfa))))] h0 := K.mg K9 rfl rfl
  clear K9
  show j_V jP _ 61 233 lv [] h9 _
  exact j_V.ret yr3s_M yr3s_233 rfl rfl ⟨rfl, K⟩
set_option maxRecDepth 100000 in
theorem yr3m_M : j_meth jP 2 = some (yX0_remember, cX0_remember, 2, none, 1, false, 0) := rfl
set_option maxRecDepth 100000 in
theorem yr3m_0 : j_code jP 2 0 = some (.aload_n 0) := rfl
set_option maxRecDepth 100000 in
theorem yr3m_1 : j_code jP 2 1 = some (.getfield 11) := rfl
set_option maxRecDepth 100000 in
theorem yr3m_4 : j_code jP 2 4 = some (.aload_n 0) := rfl
set_option maxRecDepth 100000 in
theorem yr3m_5 : j_code jP 2 5 = some (.getfield 24) := rfl
set_option maxRecDepth 100000 in
theorem yr3m_8 : j_code jP 2 8 = some (.aaload) := rfl
set_option maxRecDepth 100000 in
theorem yr3m_9 : j_code jP 2 9 = some (.aload_n 1) := rfl
set_option maxRecDepth 100000 in
theorem yr3m_10 : j_code jP 2 10 = some (.invokevirtual 27) := rfl
set_option maxRecDepth 100000 in
theorem yr3m_13 : j_code jP 2 13 = some (.aload_n 0) := rfl
set_option maxRecDepth 100000 in
theorem yr3m_14 : j_code jP 2 14 = some (.aload_n 0) := rfl
set_option maxRecDepth 100000 in
theorem yr3m_15 : j_code jP 2 15 = some (.getfield 24) := rfl
set_option maxRecDepth 100000 in
theorem yr3m_18 : j_code jP 2 18 = some (.iconst 1) := rfl
set_option maxRecDepth 100000 in
theorem yr3m_19 : j_code jP 2 19 = some (.iadd) := rfl
set_option maxRecDepth 100000 in
theorem yr3m_20 : j_code jP 2 20 = some (.bipush 10) := rfl
set_option maxRecDepth 100000 in
theorem yr3m_22 : j_code jP 2 22 = some (.irem) := rfl
set_option maxRecDepth 100000 in
theorem yr3m_23 : j_code jP 2 23 = some (.putfield 24) := rfl
set_option maxRecDepth 100000 in
theorem yr3m_26 : j_code jP 2 26 = some (.aload_n 0) := rfl
set_option maxRecDepth 100000 in
theorem yr3m_27 : j_code jP 2 27 = some (.aload_n 0) := rfl
set_option maxRecDepth 100000 in
theorem yr3m_28 : j_code jP 2 28 = some (.getfield 20) := rfl
set_option maxRecDepth 100000 in
theorem yr3m_31 : j_code jP 2 31 = some (.iconst 1) := rfl
set_option maxRecDepth 100000 in
theorem yr3m_32 : j_code jP 2 32 = some (.iadd) := rfl
set_option maxRecDepth 100000 in
theorem yr3m_33 : j_code jP 2 33 = some (.bipush 10) := rfl
set_option maxRecDepth 100000 in
theorem yr3m_35 : j_code jP 2 35 = some (.invokestatic 31) := rfl
set_option maxRecDepth 100000 in
theorem yr3m_38 : j_code jP 2 38 = some (.putfield 20) := rfl
set_option maxRecDepth 100000 in
theorem yr3m_41 : j_code jP 2 41 = some (.return_) := rfl
set_option maxRecDepth 1000000 in
theorem yr3m_ok {ly : Value} {mi : Int32} {shu : Int32} {bus : Int32} {lks : Int32} {rk : List Int32} {sta : List Int32} {ph : List Int32} {sp : List Int32} {ce : List Int32} {du : List Int32} {he : List Int32} {ri : List Int32} {us : List Int32} {cm : List Int32} {lf : List Int32} {lkd : List Int32} {pev : Int32} {pms : List Int32} {pmm : List Int32} {pmt : List Int32} {pst : List Int32} {pwa : List Int32} {prs : List Int32} {prr : List Int32} {pfa : List Int32} {lys : Nat} {mis : Int32} {shus : Int32} {buss : Int32} {lkss : Int32} {rks : List Int32} {stas : List Int32} {phs : List Int32} {sps : List Int32} {ces : List Int32} {dus : List Int32} {hes : List Int32} {ris : List Int32} {uss : List Int32} {cms : List Int32} {lfs : List Int32} {lkds : List Int32} {pevs : Int32} {pmss : List Int32} {pmms : List Int32} {pmts : List Int32} {psts : List Int32} {pwas : List Int32} {prss : List Int32} {prrs : List Int32} {pfas : List Int32} {acco : Int32} {d : Nat} {h h0 : J_H} (K : KN h [(4, .inl (7, [.ref lys, .int mis, .int shus, .int buss, .ref 5, .ref 6, .ref 7, .ref 8, .ref 9, .ref 10, .ref 11, .ref 12, .ref 13, .ref 14, .ref 15, .int lkss, .ref 16, .ref 17, .ref 20])), (5, .inr (.inl (0, rks))), (6, .inr (.inl (0, stas))), (7, .inr (.inl (0, phs))), (8, .inr (.inl (0, sps))), (9, .inr (.inl (0, ces))), (10, .inr (.inl (0, dus))), (11, .inr (.inl (0, hes))), (12, .inr (.inl (0, ris))), (13, .inr (.inl (0, uss))), (14, .inr (.inl (0, cms))), (15, .inr (.inl (0, lfs))), (16, .inr (.inl (0, lkds))), (20, .inl (3, [.ref 21, .ref 22, .ref 23, .ref 24, .ref 25, .ref 26, .ref 27, .ref 28, .int pevs, .int 1])), (21, .inr (.inl (0, pmss))), (22, .inr (.inl (0, pmms))), (23, .inr (.inl (0, pmts))), (24, .inr (.inl (0, psts))), (25, .inr (.inl (0, pwas))), (26, .inr (.inl (0, prss))), (27, .inr (.inl (0, prrs))), (28, .inr (.inl (0, pfas))), (29, .inl (0, [.ref 30, .int 3, .int acco])), (30, .inr (.inr (.inr [some 31, some 56, some 81, some 106, some 131, some 156, some 181, some 206, some 231, some 256]))), (106, .inl (7, [ly, .int mi, .int shu, .int bus, .ref 107, .ref 108, .ref 109, .ref 110, .ref 111, .ref 112, .ref 113, .ref 114, .ref 115, .ref 116, .ref 117, .int lks, .ref 118, .ref 119, .ref 122])), (107, .inr (.inl (0, rk))), (108, .inr (.inl (0, sta))), (109, .inr (.inl (0, ph))), (110, .inr (.inl (0, sp))), (111, .inr (.inl (0, ce))), (112, .inr (.inl (0, du))), (113, .inr (.inl (0, he))), (114, .inr (.inl (0, ri))), (115, .inr (.inl (0, us))), (116, .inr (.inl (0, cm))), (117, .inr (.inl (0, lf))), (118, .inr (.inl (0, lkd))), (122, .inl (3, [.ref 123, .ref 124, .ref 125, .ref 126, .ref 127, .ref 128, .ref 129, .ref 130, .int pev, .int 1])), (123, .inr (.inl (0, pms))), (124, .inr (.inl (0, pmm))), (125, .inr (.inl (0, pmt))), (126, .inr (.inl (0, pst))), (127, .inr (.inl (0, pwa))), (128, .inr (.inl (0, prs))), (129, .inr (.inl (0, prr))), (130, .inr (.inl (0, pfa)))] h0) : j_V jP d 2 0 (lv_args 0 [.ref 29, .ref 4]) [] h (fun rv h' => rv = none ∧ KN h' [(4, .inl (7, [.ref lys, .int mis, .int shus, .int buss, .ref 5, .ref 6, .ref 7, .ref 8, .ref 9, .ref 10, .ref 11, .ref 12, .ref 13, .ref 14, .ref 15, .int lkss, .ref 16, .ref 17, .ref 20])), (5, .inr (.inl (0, rks))), (6, .inr (.inl (0, stas))), (7, .inr (.inl (0, phs))), (8, .inr (.inl (0, sps))), (9, .inr (.inl (0, ces))), (10, .inr (.inl (0, dus))), (11, .inr (.inl (0, hes))), (12, .inr (.inl (0, ris))), (13, .inr (.inl (0, uss))), (14, .inr (.inl (0, cms))), (15, .inr (.inl (0, lfs))), (16, .inr (.inl (0, lkds))), (20, .inl (3, [.ref 21, .ref 22, .ref 23, .ref 24, .ref 25, .ref 26, .ref 27, .ref 28, .int pevs, .int 1])), (21, .inr (.inl (0, pmss))), (22, .inr (.inl (0, pmms))), (23, .inr (.inl (0, pmts))), (24, .inr (.inl (0, psts))), (25, .inr (.inl (0, pwas))), (26, .inr (.inl (0, prss))), (27, .inr (.inl (0, prrs))), (28, .inr (.inl (0, pfas))), (29, .inl (0, [.ref 30, .int 4, .int (iMn (acco + 1) 10)])), (30, .inr (.inr (.inr [some 31, some 56, some 81, some 106, some 131, some 156, some 181, some 206, some 231, some 256]))), (106, .inl (7, [.ref lys, .int mis, .int shus, .int buss, .ref 107, .ref 108, .ref 109, .ref 110, .ref 111, .ref 112, .ref 113, .ref 114, .ref 115, .ref 116, .ref 117, .int lkss, .ref 118, .ref 119, .ref 122])), (107, .inr (.inl (0, (aC 5 rks rk)))), (108, .inr (.inl (0, (aC 5 stas sta)))), (109, .inr (.inl (0, (aC 5 phs ph)))), (110, .inr (.inl (0, (aC 5 sps sp)))), (111, .inr (.inl (0, (aC 5 ces ce)))), (112, .inr (.inl (0, (aC 5 dus du)))), (113, .inr (.inl (0, (aC 5 hes he)))), (114, .inr (.inl (0, (aC 6 ris ri)))), (115, .inr (.inl (0, (aC 6 uss us)))), (116, .inr (.inl (0, (aC (nI cm.length) cms cm)))), (117, .inr (.inl (0, (aC (nI lf.length) lfs lf)))), (118, .inr (.inl (0, (aC (nI lkd.length) lkds lkd)))), (122, .inl (3, [.ref 123, .ref 124, .ref 125, .ref 126, .ref 127, .ref 128, .ref 129, .ref 130, .int pevs, .int 1])), (123, .inr (.inl (0, (aC (nI pms.length) pmss pms)))), (124, .inr (.inl (0, (aC (nI pmm.length) pmms pmm)))), (125, .inr (.inl (0, (aC (nI pmt.length) pmts pmt)))), (126, .inr (.inl (0, (aC (nI pst.length) psts pst)))), (127, .inr (.inl (0, (aC (nI pwa.length) pwas pwa)))), (128, .inr (.inl (0, (aC (nI prs.length) prss prs)))), (129, .inr (.inl (0, (aC (nI prr.length) prrs prr)))), (130, .inr (.inl (0, (aC (nI pfa.length) pfas pfa))))] h0) := by
  show j_V jP d 2 0 [(0, .ref 29), (1, .ref 4)] [] h _
  obtain ⟨lv, elv, L⟩ : ∃ lv, lv = [(0, .ref 29), (1, .ref 4)] ∧ LK lv [(0, .ref 29), (1, .ref 4)] := ⟨_, rfl, LK.rf⟩
  rw [← elv]
  clear elv
  refine j_V.ldL yr3m_M yr3m_0 rfl (i := 0) (kd := 2) (v := .ref 29) (pcJ := 1) rfl L rfl rfl rfl ?_
  refine j_V.getK yr3m_M yr3m_1 (ci := 0) (j := 0) rfl K rfl rfl ?_
  refine j_V.ldL yr3m_M yr3m_4 rfl (i := 0) (kd := 2) (v := .ref 29) (pcJ := 5) rfl L rfl rfl rfl ?_
  refine j_V.getK yr3m_M yr3m_5 (ci := 0) (j := 1) rfl K rfl rfl ?_
  refine j_V.aaA yr3m_M yr3m_8 K rfl (i := 3) (v := 106) rfl rfl ?_
  refine j_V.ldL yr3m_M yr3m_9 rfl (i := 1) (kd := 2) (v := .ref 4) (pcJ := 10) rfl L rfl rfl rfl ?_
  refine j_V.cl yr3m_M yr3m_10 rfl (md := 3) (mj := 61) rfl (by decide) yr3s_M (As := [.ref 106, .ref 4]) (rest := []) (jk_spl3 (K.at rfl) rfl rfl rfl (Nat.le_of_ble_eq_true rfl) (Nat.le_of_ble_eq_true rfl)) (fun d => yr3s_ok (K.fi [4, 5, 6, 7, 8, 9, 10, 11, 12, 13, 14, 15, 16, 20, 21, 22, 23, 24, 25, 26, 27, 28, 106, 107, 108, 109, 110, 111, 112, 113, 114, 115, 116, 117, 118, 122, 123, 124, 125, 126, 127, 128, 129, 130] rfl rfl)) ?_
  rintro r h9 ⟨rfl, K9⟩
  have K : KN h9 [(4, .inl (7, [.ref lys, .int mis, .int shus, .int buss, .ref 5, .ref 6, .ref 7, .ref 8, .ref 9, .ref 10, .ref 11, .ref 12, .ref 13, .ref 14, .ref 15, .int lkss, .ref 16, .ref 17, .ref 20])), (5, .inr (.inl (0, rks))), (6, .inr (.inl (0, stas))), (7, .inr (.inl (0, phs))), (8, .inr (.inl (0, sps))), (9, .inr (.inl (0, ces))), (10, .inr (.inl (0, dus))), (11, .inr (.inl (0, hes))), (12, .inr (.inl (0, ris))), (13, .inr (.inl (0, uss))), (14, .inr (.inl (0, cms))), (15, .inr (.inl (0, lfs))), (16, .inr (.inl (0, lkds))), (20, .inl (3, [.ref 21, .ref 22, .ref 23, .ref 24, .ref 25, .ref 26, .ref 27, .ref 28, .int pevs, .int 1])), (21, .inr (.inl (0, pmss))), (22, .inr (.inl (0, pmms))), (23, .inr (.inl (0, pmts))), (24, .inr (.inl (0, psts))), (25, .inr (.inl (0, pwas))), (26, .inr (.inl (0, prss))), (27, .inr (.inl (0, prrs))), (28, .inr (.inl (0, pfas))), (29, .inl (0, [.ref 30, .int 3, .int acco])), (30, .inr (.inr (.inr [some 31, some 56, some 81, some 106, some 131, some 156, some 181, some 206, some 231, some 256]))), (106, .inl (7, [.ref lys, .int mis, .int shus, .int buss, .ref 107, .ref 108, .ref 109, .ref 110, .ref 111, .ref 112, .ref 113, .ref 114, .ref 115, .ref 116, .ref 117, .int lkss, .ref 118, .ref 119, .ref 122])), (107, .inr (.inl (0, (aC 5 rks rk)))), (108, .inr (.inl (0, (aC 5 stas sta)))), (109, .inr (.inl (0, (aC 5 phs ph)))), (110, .inr (.inl (0, (aC 5 sps sp)))), (111, .inr (.inl (0, (aC 5 ces ce)))), (112, .inr (.inl (0, (aC 5 dus du)))), (113, .inr (.inl (0, (aC 5 hes he)))), (114, .inr (.inl (0, (aC 6 ris ri)))), (115, .inr (.inl (0, (aC 6 uss us)))), (116, .inr (.inl (0, (aC (nI cm.length) cms cm)))), (117, .inr (.inl (0, (aC (nI lf.length) lfs lf)))), (118, .inr (.inl (0, (aC (nI lkd.length) lkds lkd)))), (122, .inl (3, [.ref 123, .ref 124, .ref 125, .ref 126, .ref 127, .ref 128, .ref 129, .ref 130, .int pevs, .int 1])), (123, .inr (.inl (0, (aC (nI pms.length) pmss pms)))), (124, .inr (.inl (0, (aC (nI pmm.length) pmms pmm)))), (125, .inr (.inl (0, (aC (nI pmt.length) pmts pmt)))), (126, .inr (.inl (0, (aC (nI pst.length) psts pst)))), (127, .inr (.inl (0, (aC (nI pwa.length) pwas pwa)))), (128, .inr (.inl (0, (aC (nI prs.length) prss prs)))), (129, .inr (.inl (0, (aC (nI prr.length) prrs prr)))), (130, .inr (.inl (0, (aC (nI pfa.length) pfas pfa))))] h0 := K.mg K9 rfl rfl
  clear K9
  show j_V jP _ 2 13 lv [] h9 _
  refine j_V.ldL yr3m_M yr3m_13 rfl (i := 0) (kd := 2) (v := .ref 29) (pcJ := 14) rfl L rfl rfl rfl ?_
  refine j_V.ldL yr3m_M yr3m_14 rfl (i := 0) (kd := 2) (v := .ref 29) (pcJ := 15) rfl L rfl rfl rfl ?_
  refine j_V.getK yr3m_M yr3m_15 (ci := 0) (j := 1) rfl K rfl rfl ?_
  refine j_V.one yr3m_M yr3m_18 (by decide) (pcJ := 19) (stJ := [.int 1, .int 3, .ref 29]) rfl ?_
  refine j_V.one yr3m_M yr3m_19 (by decide) (pcJ := 20) (stJ := [.int 4, .ref 29]) rfl ?_
  refine j_V.one yr3m_M yr3m_20 (by decide) (pcJ := 22) (stJ := [.int 10, .int 4, .ref 29]) rfl ?_
  refine j_V.one yr3m_M yr3m_22 (by decide) (pcJ := 23) (stJ := [.int 4, .ref 29]) rfl ?_
  refine j_V.putK yr3m_M yr3m_23 (ci := 0) (j := 1) (k' := [(4, .inl (7, [.ref lys, .int mis, .int shus, .int buss, .ref 5, .ref 6, .ref 7, .ref 8, .ref 9, .ref 10, .ref 11, .ref 12, .ref 13, .ref 14, .ref 15, .int lkss, .ref 16, .ref 17, .ref 20])), (5, .inr (.inl (0, rks))), (6, .inr (.inl (0, stas))), (7, .inr (.inl (0, phs))), (8, .inr (.inl (0, sps))), (9, .inr (.inl (0, ces))), (10, .inr (.inl (0, dus))), (11, .inr (.inl (0, hes))), (12, .inr (.inl (0, ris))), (13, .inr (.inl (0, uss))), (14, .inr (.inl (0, cms))), (15, .inr (.inl (0, lfs))), (16, .inr (.inl (0, lkds))), (20, .inl (3, [.ref 21, .ref 22, .ref 23, .ref 24, .ref 25, .ref 26, .ref 27, .ref 28, .int pevs, .int 1])), (21, .inr (.inl (0, pmss))), (22, .inr (.inl (0, pmms))), (23, .inr (.inl (0, pmts))), (24, .inr (.inl (0, psts))), (25, .inr (.inl (0, pwas))), (26, .inr (.inl (0, prss))), (27, .inr (.inl (0, prrs))), (28, .inr (.inl (0, pfas))), (29, .inl (0, [.ref 30, .int 4, .int acco])), (30, .inr (.inr (.inr [some 31, some 56, some 81, some 106, some 131, some 156, some 181, some 206, some 231, some 256]))), (106, .inl (7, [.ref lys, .int mis, .int shus, .int buss, .ref 107, .ref 108, .ref 109, .ref 110, .ref 111, .ref 112, .ref 113, .ref 114, .ref 115, .ref 116, .ref 117, .int lkss, .ref 118, .ref 119, .ref 122])), (107, .inr (.inl (0, (aC 5 rks rk)))), (108, .inr (.inl (0, (aC 5 stas sta)))), (109, .inr (.inl (0, (aC 5 phs ph)))), (110, .inr (.inl (0, (aC 5 sps sp)))), (111, .inr (.inl (0, (aC 5 ces ce)))), (112, .inr (.inl (0, (aC 5 dus du)))), (113, .inr (.inl (0, (aC 5 hes he)))), (114, .inr (.inl (0, (aC 6 ris ri)))), (115, .inr (.inl (0, (aC 6 uss us)))), (116, .inr (.inl (0, (aC (nI cm.length) cms cm)))), (117, .inr (.inl (0, (aC (nI lf.length) lfs lf)))), (118, .inr (.inl (0, (aC (nI lkd.length) lkds lkd)))), (122, .inl (3, [.ref 123, .ref 124, .ref 125, .ref 126, .ref 127, .ref 128, .ref 129, .ref 130, .int pevs, .int 1])), (123, .inr (.inl (0, (aC (nI pms.length) pmss pms)))), (124, .inr (.inl (0, (aC (nI pmm.length) pmms pmm)))), (125, .inr (.inl (0, (aC (nI pmt.length) pmts pmt)))), (126, .inr (.inl (0, (aC (nI pst.length) psts pst)))), (127, .inr (.inl (0, (aC (nI pwa.length) pwas pwa)))), (128, .inr (.inl (0, (aC (nI prs.length) prss prs)))), (129, .inr (.inl (0, (aC (nI prr.length) prrs prr)))), (130, .inr (.inl (0, (aC (nI pfa.length) pfas pfa))))]) rfl K rfl (Nat.le_of_ble_eq_true rfl) rfl (Or.inl rfl) rfl rfl (fun h K => ?_)
  refine j_V.ldL yr3m_M yr3m_26 rfl (i := 0) (kd := 2) (v := .ref 29) (pcJ := 27) rfl L rfl rfl rfl ?_
  refine j_V.ldL yr3m_M yr3m_27 rfl (i := 0) (kd := 2) (v := .ref 29) (pcJ := 28) rfl L rfl rfl rfl ?_
  refine j_V.getK yr3m_M yr3m_28 (ci := 0) (j := 2) rfl K rfl rfl ?_
  refine j_V.one yr3m_M yr3m_31 (by decide) (pcJ := 32) (stJ := [.int 1, .int acco, .ref 29]) rfl ?_
  refine j_V.one yr3m_M yr3m_32 (by decide) (pcJ := 33) (stJ := [.int (acco + 1), .ref 29]) rfl ?_
  refine j_V.one yr3m_M yr3m_33 (by decide) (pcJ := 35) (stJ := [.int 10, .int (acco + 1), .ref 29]) rfl ?_
  refine j_V.mn yr3m_M yr3m_35 rfl rfl (Nat.le_of_ble_eq_true rfl) ?_
  refine j_V.putK yr3m_M yr3m_38 (ci := 0) (j := 2) (k' := [(4, .inl (7, [.ref lys, .int mis, .int shus, .int buss, .ref 5, .ref 6, .ref 7, .ref 8, .ref 9, .ref 10, .ref 11, .ref 12, .ref 13, .ref 14, .ref 15, .int lkss, .ref 16, .ref 17, .ref 20])), (5, .inr (.inl (0, rks))), (6, .inr (.inl (0, stas))), (7, .inr (.inl (0, phs))), (8, .inr (.inl (0, sps))), (9, .inr (.inl (0, ces))), (10, .inr (.inl (0, dus))), (11, .inr (.inl (0, hes))), (12, .inr (.inl (0, ris))), (13, .inr (.inl (0, uss))), (14, .inr (.inl (0, cms))), (15, .inr (.inl (0, lfs))), (16, .inr (.inl (0, lkds))), (20, .inl (3, [.ref 21, .ref 22, .ref 23, .ref 24, .ref 25, .ref 26, .ref 27, .ref 28, .int pevs, .int 1])), (21, .inr (.inl (0, pmss))), (22, .inr (.inl (0, pmms))), (23, .inr (.inl (0, pmts))), (24, .inr (.inl (0, psts))), (25, .inr (.inl (0, pwas))), (26, .inr (.inl (0, prss))), (27, .inr (.inl (0, prrs))), (28, .inr (.inl (0, pfas))), (29, .inl (0, [.ref 30, .int 4, .int (iMn (acco + 1) 10)])), (30, .inr (.inr (.inr [some 31, some 56, some 81, some 106, some 131, some 156, some 181, some 206, some 231, some 256]))), (106, .inl (7, [.ref lys, .int mis, .int shus, .int buss, .ref 107, .ref 108, .ref 109, .ref 110, .ref 111, .ref 112, .ref 113, .ref 114, .ref 115, .ref 116, .ref 117, .int lkss, .ref 118, .ref 119, .ref 122])), (107, .inr (.inl (0, (aC 5 rks rk)))), (108, .inr (.inl (0, (aC 5 stas sta)))), (109, .inr (.inl (0, (aC 5 phs ph)))), (110, .inr (.inl (0, (aC 5 sps sp)))), (111, .inr (.inl (0, (aC 5 ces ce)))), (112, .inr (.inl (0, (aC 5 dus du)))), (113, .inr (.inl (0, (aC 5 hes he)))), (114, .inr (.inl (0, (aC 6 ris ri)))), (115, .inr (.inl (0, (aC 6 uss us)))), (116, .inr (.inl (0, (aC (nI cm.length) cms cm)))), (117, .inr (.inl (0, (aC (nI lf.length) lfs lf)))), (118, .inr (.inl (0, (aC (nI lkd.length) lkds lkd)))), (122, .inl (3, [.ref 123, .ref 124, .ref 125, .ref 126, .ref 127, .ref 128, .ref 129, .ref 130, .int pevs, .int 1])), (123, .inr (.inl (0, (aC (nI pms.length) pmss pms)))), (124, .inr (.inl (0, (aC (nI pmm.length) pmms pmm)))), (125, .inr (.inl (0, (aC (nI pmt.length) pmts pmt)))), (126, .inr (.inl (0, (aC (nI pst.length) psts pst)))), (127, .inr (.inl (0, (aC (nI pwa.length) pwas pwa)))), (128, .inr (.inl (0, (aC (nI prs.length) prss prs)))), (129, .inr (.inl (0, (aC (nI prr.length) prrs prr)))), (130, .inr (.inl (0, (aC (nI pfa.length) pfas pfa))))]) rfl K rfl (Nat.le_of_ble_eq_true rfl) rfl (Or.inl rfl) rfl rfl (fun h K => ?_)
  exact j_V.ret yr3m_M yr3m_41 rfl rfl ⟨rfl, K⟩
set_option maxRecDepth 100000 in
theorem yr4p_M : j_meth jP 28 = some (yX3_copyFrom, cX3_copyFrom, 2, none, 1, false, 3) := rfl
set_option maxRecDepth 100000 in
theorem yr4p_0 : j_code jP 28 0 = some (.aload_n 0) := rfl
set_option maxRecDepth 100000 in
theorem yr4p_1 : j_code jP 28 1 = some (.getfield 36) := rfl
set_option maxRecDepth 100000 in
theorem yr4p_4 : j_code jP 28 4 = some (.ifCond .ne 4) := rfl
set_option maxRecDepth 100000 in
theorem yr4p_7 : j_code jP 28 7 = some (.return_) := rfl
set_option maxRecDepth 100000 in
theorem yr4p_8 : j_code jP 28 8 = some (.aload_n 1) := rfl
set_option maxRecDepth 100000 in
theorem yr4p_9 : j_code jP 28 9 = some (.getfield 9) := rfl
set_option maxRecDepth 100000 in
theorem yr4p_12 : j_code jP 28 12 = some (.iconst 0) := rfl
set_option maxRecDepth 100000 in
theorem yr4p_13 : j_code jP 28 13 = some (.aload_n 0) := rfl
set_option maxRecDepth 100000 in
theorem yr4p_14 : j_code jP 28 14 = some (.getfield 9) := rfl
set_option maxRecDepth 100000 in
theorem yr4p_17 : j_code jP 28 17 = some (.iconst 0) := rfl
set_option maxRecDepth 100000 in
theorem yr4p_18 : j_code jP 28 18 = some (.aload_n 0) := rfl
set_option maxRecDepth 100000 in
theorem yr4p_19 : j_code jP 28 19 = some (.getfield 9) := rfl
set_option maxRecDepth 100000 in
theorem yr4p_22 : j_code jP 28 22 = some (.arraylength) := rfl
set_option maxRecDepth 100000 in
theorem yr4p_23 : j_code jP 28 23 = some (.invokestatic 50) := rfl
set_option maxRecDepth 100000 in
theorem yr4p_26 : j_code jP 28 26 = some (.aload_n 1) := rfl
set_option maxRecDepth 100000 in
theorem yr4p_27 : j_code jP 28 27 = some (.getfield 15) := rfl
set_option maxRecDepth 100000 in
theorem yr4p_30 : j_code jP 28 30 = some (.iconst 0) := rfl
set_option maxRecDepth 100000 in
theorem yr4p_31 : j_code jP 28 31 = some (.aload_n 0) := rfl
set_option maxRecDepth 100000 in
theorem yr4p_32 : j_code jP 28 32 = some (.getfield 15) := rfl
set_option maxRecDepth 100000 in
theorem yr4p_35 : j_code jP 28 35 = some (.iconst 0) := rfl
set_option maxRecDepth 100000 in
theorem yr4p_36 : j_code jP 28 36 = some (.aload_n 0) := rfl
set_option maxRecDepth 100000 in
theorem yr4p_37 : j_code jP 28 37 = some (.getfield 15) := rfl
set_option maxRecDepth 100000 in
theorem yr4p_40 : j_code jP 28 40 = some (.arraylength) := rfl
set_option maxRecDepth 100000 in
theorem yr4p_41 : j_code jP 28 41 = some (.invokestatic 50) := rfl
set_option maxRecDepth 100000 in
theorem yr4p_44 : j_code jP 28 44 = some (.aload_n 1) := rfl
set_option maxRecDepth 100000 in
theorem yr4p_45 : j_code jP 28 45 = some (.getfield 18) := rfl
set_option maxRecDepth 100000 in
theorem yr4p_48 : j_code jP 28 48 = some (.iconst 0) := rfl
set_option maxRecDepth 100000 in
theorem yr4p_49 : j_code jP 28 49 = some (.aload_n 0) := rfl
set_option maxRecDepth 100000 in
theorem yr4p_50 : j_code jP 28 50 = some (.getfield 18) := rfl
set_option maxRecDepth 100000 in
theorem yr4p_53 : j_code jP 28 53 = some (.iconst 0) := rfl
set_option maxRecDepth 100000 in
theorem yr4p_54 : j_code jP 28 54 = some (.aload_n 0) := rfl
set_option maxRecDepth 100000 in
theorem yr4p_55 : j_code jP 28 55 = some (.getfield 18) := rfl
set_option maxRecDepth 100000 in
theorem yr4p_58 : j_code jP 28 58 = some (.arraylength) := rfl
set_option maxRecDepth 100000 in
theorem yr4p_59 : j_code jP 28 59 = some (.invokestatic 50) := rfl
set_option maxRecDepth 100000 in
theorem yr4p_62 : j_code jP 28 62 = some (.aload_n 1) := rfl
set_option maxRecDepth 100000 in
theorem yr4p_63 : j_code jP 28 63 = some (.getfield 21) := rfl
set_option maxRecDepth 100000 in
theorem yr4p_66 : j_code jP 28 66 = some (.iconst 0) := rfl
set_option maxRecDepth 100000 in
theorem yr4p_67 : j_code jP 28 67 = some (.aload_n 0) := rfl
set_option maxRecDepth 100000 in
theorem yr4p_68 : j_code jP 28 68 = some (.getfield 21) := rfl
set_option maxRecDepth 100000 in
theorem yr4p_71 : j_code jP 28 71 = some (.iconst 0) := rfl
set_option maxRecDepth 100000 in
theorem yr4p_72 : j_code jP 28 72 = some (.aload_n 0) := rfl
set_option maxRecDepth 100000 in
theorem yr4p_73 : j_code jP 28 73 = some (.getfield 21) := rfl
set_option maxRecDepth 100000 in
theorem yr4p_76 : j_code jP 28 76 = some (.arraylength) := rfl
set_option maxRecDepth 100000 in
theorem yr4p_77 : j_code jP 28 77 = some (.invokestatic 50) := rfl
set_option maxRecDepth 100000 in
theorem yr4p_80 : j_code jP 28 80 = some (.aload_n 1) := rfl
set_option maxRecDepth 100000 in
theorem yr4p_81 : j_code jP 28 81 = some (.getfield 24) := rfl
set_option maxRecDepth 100000 in
theorem yr4p_84 : j_code jP 28 84 = some (.iconst 0) := rfl
set_option maxRecDepth 100000 in
theorem yr4p_85 : j_code jP 28 85 = some (.aload_n 0) := rfl
set_option maxRecDepth 100000 in
theorem yr4p_86 : j_code jP 28 86 = some (.getfield 24) := rfl
set_option maxRecDepth 100000 in
theorem yr4p_89 : j_code jP 28 89 = some (.iconst 0) := rfl
set_option maxRecDepth 100000 in
theorem yr4p_90 : j_code jP 28 90 = some (.aload_n 0) := rfl
set_option maxRecDepth 100000 in
theorem yr4p_91 : j_code jP 28 91 = some (.getfield 24) := rfl
set_option maxRecDepth 100000 in
theorem yr4p_94 : j_code jP 28 94 = some (.arraylength) := rfl
set_option maxRecDepth 100000 in
theorem yr4p_95 : j_code jP 28 95 = some (.invokestatic 50) := rfl
set_option maxRecDepth 100000 in
theorem yr4p_98 : j_code jP 28 98 = some (.aload_n 1) := rfl
set_option maxRecDepth 100000 in
theorem yr4p_99 : j_code jP 28 99 = some (.getfield 27) := rfl
set_option maxRecDepth 100000 in
theorem yr4p_102 : j_code jP 28 102 = some (.iconst 0) := rfl
set_option maxRecDepth 100000 in
theorem yr4p_103 : j_code jP 28 103 = some (.aload_n 0) := rfl
set_option maxRecDepth 100000 in
theorem yr4p_104 : j_code jP 28 104 = some (.getfield 27) := rfl
set_option maxRecDepth 100000 in
theorem yr4p_107 : j_code jP 28 107 = some (.iconst 0) := rfl
set_option maxRecDepth 100000 in
theorem yr4p_108 : j_code jP 28 108 = some (.aload_n 0) := rfl
set_option maxRecDepth 100000 in
theorem yr4p_109 : j_code jP 28 109 = some (.getfield 27) := rfl
set_option maxRecDepth 100000 in
theorem yr4p_112 : j_code jP 28 112 = some (.arraylength) := rfl
set_option maxRecDepth 100000 in
theorem yr4p_113 : j_code jP 28 113 = some (.invokestatic 50) := rfl
set_option maxRecDepth 100000 in
theorem yr4p_116 : j_code jP 28 116 = some (.aload_n 1) := rfl
set_option maxRecDepth 100000 in
theorem yr4p_117 : j_code jP 28 117 = some (.getfield 30) := rfl
set_option maxRecDepth 100000 in
theorem yr4p_120 : j_code jP 28 120 = some (.iconst 0) := rfl
set_option maxRecDepth 100000 in
theorem yr4p_121 : j_code jP 28 121 = some (.aload_n 0) := rfl
set_option maxRecDepth 100000 in
theorem yr4p_122 : j_code jP 28 122 = some (.getfield 30) := rfl
set_option maxRecDepth 100000 in
theorem yr4p_125 : j_code jP 28 125 = some (.iconst 0) := rfl
set_option maxRecDepth 100000 in
theorem yr4p_126 : j_code jP 28 126 = some (.aload_n 0) := rfl
set_option maxRecDepth 100000 in
theorem yr4p_127 : j_code jP 28 127 = some (.getfield 30) := rfl
set_option maxRecDepth 100000 in
theorem yr4p_130 : j_code jP 28 130 = some (.arraylength) := rfl
set_option maxRecDepth 100000 in
theorem yr4p_131 : j_code jP 28 131 = some (.invokestatic 50) := rfl
set_option maxRecDepth 100000 in
theorem yr4p_134 : j_code jP 28 134 = some (.aload_n 1) := rfl
set_option maxRecDepth 100000 in
theorem yr4p_135 : j_code jP 28 135 = some (.getfield 33) := rfl
set_option maxRecDepth 100000 in
theorem yr4p_138 : j_code jP 28 138 = some (.iconst 0) := rfl
set_option maxRecDepth 100000 in
theorem yr4p_139 : j_code jP 28 139 = some (.aload_n 0) := rfl
set_option maxRecDepth 100000 in
theorem yr4p_140 : j_code jP 28 140 = some (.getfield 33) := rfl
set_option maxRecDepth 100000 in
theorem yr4p_143 : j_code jP 28 143 = some (.iconst 0) := rfl
set_option maxRecDepth 100000 in
theorem yr4p_144 : j_code jP 28 144 = some (.aload_n 0) := rfl
set_option maxRecDepth 100000 in
theorem yr4p_145 : j_code jP 28 145 = some (.getfield 33) := rfl
set_option maxRecDepth 100000 in
theorem yr4p_148 : j_code jP 28 148 = some (.arraylength) := rfl
set_option maxRecDepth 100000 in
theorem yr4p_149 : j_code jP 28 149 = some (.invokestatic 50) := rfl
set_option maxRecDepth 100000 in
theorem yr4p_152 : j_code jP 28 152 = some (.aload_n 0) := rfl
set_option maxRecDepth 100000 in
theorem yr4p_153 : j_code jP 28 153 = some (.aload_n 1) := rfl
set_option maxRecDepth 100000 in
theorem yr4p_154 : j_code jP 28 154 = some (.getfield 46) := rfl
set_option maxRecDepth 100000 in
theorem yr4p_157 : j_code jP 28 157 = some (.putfield 46) := rfl
set_option maxRecDepth 100000 in
theorem yr4p_160 : j_code jP 28 160 = some (.return_) := rfl
set_option maxRecDepth 1000000 in
theorem yr4p_k8 {pev : Int32} {pms : List Int32} {pmm : List Int32} {pevs : Int32} {pmss : List Int32} {pmms : List Int32} {d : Nat} {lv : J_L} {h h0 : J_H} {Q : Option Value → J_H → Prop} (L : LK lv [(0, .ref 147), (1, .ref 20)]) (K : KN h [(20, .inl (3, [.ref 21, .ref 22, .ref 23, .ref 24, .ref 25, .ref 26, .ref 27, .ref 28, .int pevs, .int 1])), (21, .inr (.inl (0, pmss))), (22, .inr (.inl (0, pmms))), (147, .inl (3, [.ref 148, .ref 149, .ref 150, .ref 151, .ref 152, .ref 153, .ref 154, .ref 155, .int pev, .int 1])), (148, .inr (.inl (0, pms))), (149, .inr (.inl (0, pmm)))] h0) (kk : ∀ lv h, LK lv [(0, .ref 147), (1, .ref 20)] → KN h [(20, .inl (3, [.ref 21, .ref 22, .ref 23, .ref 24, .ref 25, .ref 26, .ref 27, .ref 28, .int pevs, .int 1])), (21, .inr (.inl (0, pmss))), (22, .inr (.inl (0, pmms))), (147, .inl (3, [.ref 148, .ref 149, .ref 150, .ref 151, .ref 152, .ref 153, .ref 154, .ref 155, .int pev, .int 1])), (148, .inr (.inl (0, (aC (nI pms.length) pmss pms)))), (149, .inr (.inl (0, (aC (nI pmm.length) pmms pmm))))] h0 → j_V jP d 28 44 lv [] h Q) : j_V jP d 28 8 lv [] h Q := by
  refine j_V.ldL yr4p_M yr4p_8 rfl (i := 1) (kd := 2) (v := .ref 20) (pcJ := 9) rfl L rfl rfl rfl ?_
  refine j_V.getK yr4p_M yr4p_9 (ci := 3) (j := 0) rfl K rfl rfl ?_
  refine j_V.one yr4p_M yr4p_12 (by decide) (pcJ := 13) (stJ := [.int 0, .ref 21]) rfl ?_
  refine j_V.ldL yr4p_M yr4p_13 rfl (i := 0) (kd := 2) (v := .ref 147) (pcJ := 14) rfl L rfl rfl rfl ?_
  refine j_V.getK yr4p_M yr4p_14 (ci := 3) (j := 0) rfl K rfl rfl ?_
  refine j_V.one yr4p_M yr4p_17 (by decide) (pcJ := 18) (stJ := [.int 0, .ref 148, .int 0, .ref 21]) rfl ?_
  refine j_V.ldL yr4p_M yr4p_18 rfl (i := 0) (kd := 2) (v := .ref 147) (pcJ := 19) rfl L rfl rfl rfl ?_
  refine j_V.getK yr4p_M yr4p_19 (ci := 3) (j := 0) rfl K rfl rfl ?_
  refine j_V.alnA yr4p_M yr4p_22 K rfl ?_
  refine j_V.acp yr4p_M yr4p_23 rfl rfl K rfl rfl rfl (fun h K => ?_)
  refine j_V.ldL yr4p_M yr4p_26 rfl (i := 1) (kd := 2) (v := .ref 20) (pcJ := 27) rfl L rfl rfl rfl ?_
  refine j_V.getK yr4p_M yr4p_27 (ci := 3) (j := 1) rfl K rfl rfl ?_
  refine j_V.one yr4p_M yr4p_30 (by decide) (pcJ := 31) (stJ := [.int 0, .ref 22]) rfl ?_
  refine j_V.ldL yr4p_M yr4p_31 rfl (i := 0) (kd := 2) (v := .ref 147) (pcJ := 32) rfl L rfl rfl rfl ?_
  refine j_V.getK yr4p_M yr4p_32 (ci := 3) (j := 1) rfl K rfl rfl ?_
  refine j_V.one yr4p_M yr4p_35 (by decide) (pcJ := 36) (stJ := [.int 0, .ref 149, .int 0, .ref 22]) rfl ?_
  refine j_V.ldL yr4p_M yr4p_36 rfl (i := 0) (kd := 2) (v := .ref 147) (pcJ := 37) rfl L rfl rfl rfl ?_
  refine j_V.getK yr4p_M yr4p_37 (ci := 3) (j := 1) rfl K rfl rfl ?_
  refine j_V.alnA yr4p_M yr4p_40 K rfl ?_
  refine j_V.acp yr4p_M yr4p_41 rfl rfl K rfl rfl rfl (fun h K => ?_)
  exact kk _ _ L K
set_option maxRecDepth 1000000 in
theorem yr4p_k44 {pev : Int32} {pmt : List Int32} {pst : List Int32} {pevs : Int32} {pmts : List Int32} {psts : List Int32} {d : Nat} {lv : J_L} {h h0 : J_H} {Q : Option Value → J_H → Prop} (L : LK lv [(0, .ref 147), (1, .ref 20)]) (K : KN h [(20, .inl (3, [.ref 21, .ref 22, .ref 23, .ref 24, .ref 25, .ref 26, .ref 27, .ref 28, .int pevs, .int 1])), (23, .inr (.inl (0, pmts))), (24, .inr (.inl (0, psts))), (147, .inl (3, [.ref 148, .ref 149, .ref 150, .ref 151, .ref 152, .ref 153, .ref 154, .ref 155, .int pev, .int 1])), (150, .inr (.inl (0, pmt))), (151, .inr (.inl (0, pst)))] h0) (kk : ∀ lv h, LK lv [(0, .ref 147), (1, .ref 20)] → KN h [(20, .inl (3, [.ref 21, .ref 22, .ref 23, .ref 24, .ref 25, .ref 26, .ref 27, .ref 28, .int pevs, .int 1])), (23, .inr (.inl (0, pmts))), (24, .inr (.inl (0, psts))), (147, .inl (3, [.ref 148, .ref 149, .ref 150, .ref 151, .ref 152, .ref 153, .ref 154, .ref 155, .int pev, .int 1])), (150, .inr (.inl (0, (aC (nI pmt.length) pmts pmt)))), (151, .inr (.inl (0, (aC (nI pst.length) psts pst))))] h0 → j_V jP d 28 80 lv [] h Q) : j_V jP d 28 44 lv [] h Q := by
  refine j_V.ldL yr4p_M yr4p_44 rfl (i := 1) (kd := 2) (v := .ref 20) (pcJ := 45) rfl L rfl rfl rfl ?_
  refine j_V.getK yr4p_M yr4p_45 (ci := 3) (j := 2) rfl K rfl rfl ?_
  refine j_V.one yr4p_M yr4p_48 (by decide) (pcJ := 49) (stJ := [.int 0, .ref 23]) rfl ?_
  refine j_V.ldL yr4p_M yr4p_49 rfl (i := 0) (kd := 2) (v := .ref 147) (pcJ := 50) rfl L rfl rfl rfl ?_
  refine j_V.getK yr4p_M yr4p_50 (ci := 3) (j := 2) rfl K rfl rfl ?_
  refine j_V.one yr4p_M yr4p_53 (by decide) (pcJ := 54) (stJ := [.int 0, .ref 150, .int 0, .ref 23]) rfl ?_
  refine j_V.ldL yr4p_M yr4p_54 rfl (i := 0) (kd := 2) (v := .ref 147) (pcJ := 55) rfl L rfl rfl rfl ?_
  refine j_V.getK yr4p_M yr4p_55 (ci := 3) (j := 2) rfl K rfl rfl ?_
  refine j_V.alnA yr4p_M yr4p_58 K rfl ?_
  refine j_V.acp yr4p_M yr4p_59 rfl rfl K rfl rfl rfl (fun h K => ?_)
  refine j_V.ldL yr4p_M yr4p_62 rfl (i := 1) (kd := 2) (v := .ref 20) (pcJ := 63) rfl L rfl rfl rfl ?_
  refine j_V.getK yr4p_M yr4p_63 (ci := 3) (j := 3) rfl K rfl rfl ?_
  refine j_V.one yr4p_M yr4p_66 (by decide) (pcJ := 67) (stJ := [.int 0, .ref 24]) rfl ?_
  refine j_V.ldL yr4p_M yr4p_67 rfl (i := 0) (kd := 2) (v := .ref 147) (pcJ := 68) rfl L rfl rfl rfl ?_
  refine j_V.getK yr4p_M yr4p_68 (ci := 3) (j := 3) rfl K rfl rfl ?_
  refine j_V.one yr4p_M yr4p_71 (by decide) (pcJ := 72) (stJ := [.int 0, .ref 151, .int 0, .ref 24]) rfl ?_
  refine j_V.ldL yr4p_M yr4p_72 rfl (i := 0) (kd := 2) (v := .ref 147) (pcJ := 73) rfl L rfl rfl rfl ?_
  refine j_V.getK yr4p_M yr4p_73 (ci := 3) (j := 3) rfl K rfl rfl ?_
  refine j_V.alnA yr4p_M yr4p_76 K rfl ?_
  refine j_V.acp yr4p_M yr4p_77 rfl rfl K rfl rfl rfl (fun h K => ?_)
  exact kk _ _ L K
set_option maxRecDepth 1000000 in
theorem yr4p_k80 {pev : Int32} {pwa : List Int32} {prs : List Int32} {pevs : Int32} {pwas : List Int32} {prss : List Int32} {d : Nat} {lv : J_L} {h h0 : J_H} {Q : Option Value → J_H → Prop} (L : LK lv [(0, .ref 147), (1, .ref 20)]) (K : KN h [(20, .inl (3, [.ref 21, .ref 22, .ref 23, .ref 24, .ref 25, .ref 26, .ref 27, .ref 28, .int pevs, .int 1])), (25, .inr (.inl (0, pwas))), (26, .inr (.inl (0, prss))), (147, .inl (3, [.ref 148, .ref 149, .ref 150, .ref 151, .ref 152, .ref 153, .ref 154, .ref 155, .int pev, .int 1])), (152, .inr (.inl (0, pwa))), (153, .inr (.inl (0, prs)))] h0) (kk : ∀ lv h, LK lv [(0, .ref 147), (1, .ref 20)] → KN h [(20, .inl (3, [.ref 21, .ref 22, .ref 23, .ref 24, .ref 25, .ref 26, .ref 27, .ref 28, .int pevs, .int 1])), (25, .inr (.inl (0, pwas))), (26, .inr (.inl (0, prss))), (147, .inl (3, [.ref 148, .ref 149, .ref 150, .ref 151, .ref 152, .ref 153, .ref 154, .ref 155, .int pev, .int 1])), (152, .inr (.inl (0, (aC (nI pwa.length) pwas pwa)))), (153, .inr (.inl (0, (aC (nI prs.length) prss prs))))] h0 → j_V jP d 28 116 lv [] h Q) : j_V jP d 28 80 lv [] h Q := by
  refine j_V.ldL yr4p_M yr4p_80 rfl (i := 1) (kd := 2) (v := .ref 20) (pcJ := 81) rfl L rfl rfl rfl ?_
  refine j_V.getK yr4p_M yr4p_81 (ci := 3) (j := 4) rfl K rfl rfl ?_
  refine j_V.one yr4p_M yr4p_84 (by decide) (pcJ := 85) (stJ := [.int 0, .ref 25]) rfl ?_
  refine j_V.ldL yr4p_M yr4p_85 rfl (i := 0) (kd := 2) (v := .ref 147) (pcJ := 86) rfl L rfl rfl rfl ?_
  refine j_V.getK yr4p_M yr4p_86 (ci := 3) (j := 4) rfl K rfl rfl ?_
  refine j_V.one yr4p_M yr4p_89 (by decide) (pcJ := 90) (stJ := [.int 0, .ref 152, .int 0, .ref 25]) rfl ?_
  refine j_V.ldL yr4p_M yr4p_90 rfl (i := 0) (kd := 2) (v := .ref 147) (pcJ := 91) rfl L rfl rfl rfl ?_
  refine j_V.getK yr4p_M yr4p_91 (ci := 3) (j := 4) rfl K rfl rfl ?_
  refine j_V.alnA yr4p_M yr4p_94 K rfl ?_
  refine j_V.acp yr4p_M yr4p_95 rfl rfl K rfl rfl rfl (fun h K => ?_)
  refine j_V.ldL yr4p_M yr4p_98 rfl (i := 1) (kd := 2) (v := .ref 20) (pcJ := 99) rfl L rfl rfl rfl ?_
  refine j_V.getK yr4p_M yr4p_99 (ci := 3) (j := 5) rfl K rfl rfl ?_
  refine j_V.one yr4p_M yr4p_102 (by decide) (pcJ := 103) (stJ := [.int 0, .ref 26]) rfl ?_
  refine j_V.ldL yr4p_M yr4p_103 rfl (i := 0) (kd := 2) (v := .ref 147) (pcJ := 104) rfl L rfl rfl rfl ?_
  refine j_V.getK yr4p_M yr4p_104 (ci := 3) (j := 5) rfl K rfl rfl ?_
  refine j_V.one yr4p_M yr4p_107 (by decide) (pcJ := 108) (stJ := [.int 0, .ref 153, .int 0, .ref 26]) rfl ?_
  refine j_V.ldL yr4p_M yr4p_108 rfl (i := 0) (kd := 2) (v := .ref 147) (pcJ := 109) rfl L rfl rfl rfl ?_
  refine j_V.getK yr4p_M yr4p_109 (ci := 3) (j := 5) rfl K rfl rfl ?_
  refine j_V.alnA yr4p_M yr4p_112 K rfl ?_
  refine j_V.acp yr4p_M yr4p_113 rfl rfl K rfl rfl rfl (fun h K => ?_)
  exact kk _ _ L K
set_option maxRecDepth 1000000 in
theorem yr4p_k116 {pev : Int32} {prr : List Int32} {pfa : List Int32} {pevs : Int32} {prrs : List Int32} {pfas : List Int32} {d : Nat} {lv : J_L} {h h0 : J_H} {Q : Option Value → J_H → Prop} (L : LK lv [(0, .ref 147), (1, .ref 20)]) (K : KN h [(20, .inl (3, [.ref 21, .ref 22, .ref 23, .ref 24, .ref 25, .ref 26, .ref 27, .ref 28, .int pevs, .int 1])), (27, .inr (.inl (0, prrs))), (28, .inr (.inl (0, pfas))), (147, .inl (3, [.ref 148, .ref 149, .ref 150, .ref 151, .ref 152, .ref 153, .ref 154, .ref 155, .int pev, .int 1])), (154, .inr (.inl (0, prr))), (155, .inr (.inl (0, pfa)))] h0) (kk : ∀ lv h, LK lv [(0, .ref 147), (1, .ref 20)] → KN h [(20, .inl (3, [.ref 21, .ref 22, .ref 23, .ref 24, .ref 25, .ref 26, .ref 27, .ref 28, .int pevs, .int 1])), (27, .inr (.inl (0, prrs))), (28, .inr (.inl (0, pfas))), (147, .inl (3, [.ref 148, .ref 149, .ref 150, .ref 151, .ref 152, .ref 153, .ref 154, .ref 155, .int pev, .int 1])), (154, .inr (.inl (0, (aC (nI prr.length) prrs prr)))), (155, .inr (.inl (0, (aC (nI pfa.length) pfas pfa))))] h0 → j_V jP d 28 152 lv [] h Q) : j_V jP d 28 116 lv [] h Q := by
  refine j_V.ldL yr4p_M yr4p_116 rfl (i := 1) (kd := 2) (v := .ref 20) (pcJ := 117) rfl L rfl rfl rfl ?_
  refine j_V.getK yr4p_M yr4p_117 (ci := 3) (j := 6) rfl K rfl rfl ?_
  refine j_V.one yr4p_M yr4p_120 (by decide) (pcJ := 121) (stJ := [.int 0, .ref 27]) rfl ?_
  refine j_V.ldL yr4p_M yr4p_121 rfl (i := 0) (kd := 2) (v := .ref 147) (pcJ := 122) rfl L rfl rfl rfl ?_
  refine j_V.getK yr4p_M yr4p_122 (ci := 3) (j := 6) rfl K rfl rfl ?_
  refine j_V.one yr4p_M yr4p_125 (by decide) (pcJ := 126) (stJ := [.int 0, .ref 154, .int 0, .ref 27]) rfl ?_
  refine j_V.ldL yr4p_M yr4p_126 rfl (i := 0) (kd := 2) (v := .ref 147) (pcJ := 127) rfl L rfl rfl rfl ?_
  refine j_V.getK yr4p_M yr4p_127 (ci := 3) (j := 6) rfl K rfl rfl ?_
  refine j_V.alnA yr4p_M yr4p_130 K rfl ?_
  refine j_V.acp yr4p_M yr4p_131 rfl rfl K rfl rfl rfl (fun h K => ?_)
  refine j_V.ldL yr4p_M yr4p_134 rfl (i := 1) (kd := 2) (v := .ref 20) (pcJ := 135) rfl L rfl rfl rfl ?_
  refine j_V.getK yr4p_M yr4p_135 (ci := 3) (j := 7) rfl K rfl rfl ?_
  refine j_V.one yr4p_M yr4p_138 (by decide) (pcJ := 139) (stJ := [.int 0, .ref 28]) rfl ?_
  refine j_V.ldL yr4p_M yr4p_139 rfl (i := 0) (kd := 2) (v := .ref 147) (pcJ := 140) rfl L rfl rfl rfl ?_
  refine j_V.getK yr4p_M yr4p_140 (ci := 3) (j := 7) rfl K rfl rfl ?_
  refine j_V.one yr4p_M yr4p_143 (by decide) (pcJ := 144) (stJ := [.int 0, .ref 155, .int 0, .ref 28]) rfl ?_
  refine j_V.ldL yr4p_M yr4p_144 rfl (i := 0) (kd := 2) (v := .ref 147) (pcJ := 145) rfl L rfl rfl rfl ?_
  refine j_V.getK yr4p_M yr4p_145 (ci := 3) (j := 7) rfl K rfl rfl ?_
  refine j_V.alnA yr4p_M yr4p_148 K rfl ?_
  refine j_V.acp yr4p_M yr4p_149 rfl rfl K rfl rfl rfl (fun h K => ?_)
  exact kk _ _ L K
set_option maxRecDepth 1000000 in
theorem yr4p_ok {pev : Int32} {pms : List Int32} {pmm : List Int32} {pmt : List Int32} {pst : List Int32} {pwa : List Int32} {prs : List Int32} {prr : List Int32} {pfa : List Int32} {pevs : Int32} {pmss : List Int32} {pmms : List Int32} {pmts : List Int32} {psts : List Int32} {pwas : List Int32} {prss : List Int32} {prrs : List Int32} {pfas : List Int32} {d : Nat} {h h0 : J_H} (K : KN h [(20, .inl (3, [.ref 21, .ref 22, .ref 23, .ref 24, .ref 25, .ref 26, .ref 27, .ref 28, .int pevs, .int 1])), (21, .inr (.inl (0, pmss))), (22, .inr (.inl (0, pmms))), (23, .inr (.inl (0, pmts))), (24, .inr (.inl (0, psts))), (25, .inr (.inl (0, pwas))), (26, .inr (.inl (0, prss))), (27, .inr (.inl (0, prrs))), (28, .inr (.inl (0, pfas))), (147, .inl (3, [.ref 148, .ref 149, .ref 150, .ref 151, .ref 152, .ref 153, .ref 154, .ref 155, .int pev, .int 1])), (148, .inr (.inl (0, pms))), (149, .inr (.inl (0, pmm))), (150, .inr (.inl (0, pmt))), (151, .inr (.inl (0, pst))), (152, .inr (.inl (0, pwa))), (153, .inr (.inl (0, prs))), (154, .inr (.inl (0, prr))), (155, .inr (.inl (0, pfa)))] h0) : j_V jP d 28 0 (lv_args 0 [.ref 147, .ref 20]) [] h (fun rv h' => rv = none ∧ KN h' [(20, .inl (3, [.ref 21, .ref 22, .ref 23, .ref 24, .ref 25, .ref 26, .ref 27, .ref 28, .int pevs, .int 1])), (21, .inr (.inl (0, pmss))), (22, .inr (.inl (0, pmms))), (23, .inr (.inl (0, pmts))), (24, .inr (.inl (0, psts))), (25, .inr (.inl (0, pwas))), (26, .inr (.inl (0, prss))), (27, .inr (.inl (0, prrs))), (28, .inr (.inl (0, pfas))), (147, .inl (3, [.ref 148, .ref 149, .ref 150, .ref 151, .ref 152, .ref 153, .ref 154, .ref 155, .int pevs, .int 1])), (148, .inr (.inl (0, (aC (nI pms.length) pmss pms)))), (149, .inr (.inl (0, (aC (nI pmm.length) pmms pmm)))), (150, .inr (.inl (0, (aC (nI pmt.length) pmts pmt)))), (151, .inr (.inl (0, (aC (nI pst.length) psts pst)))), (152, .inr (.inl (0, (aC (nI pwa.length) pwas pwa)))), (153, .inr (.inl (0, (aC (nI prs.length) prss prs)))), (154, .inr (.inl (0, (aC (nI prr.length) prrs prr)))), (155, .inr (.inl (0, (aC (nI pfa.length) pfas pfa))))] h0) := by
  show j_V jP d 28 0 [(0, .ref 147), (1, .ref 20)] [] h _
  obtain ⟨lv, elv, L⟩ : ∃ lv, lv = [(0, .ref 147), (1, .ref 20)] ∧ LK lv [(0, .ref 147), (1, .ref 20)] := ⟨_, rfl, LK.rf⟩
  rw [← elv]
  clear elv
  refine j_V.ldL yr4p_M yr4p_0 rfl (i := 0) (kd := 2) (v := .ref 147) (pcJ := 1) rfl L rfl rfl rfl ?_
  refine j_V.getK yr4p_M yr4p_1 (ci := 3) (j := 9) rfl K rfl rfl ?_
  refine j_V.ifc yr4p_M yr4p_4 (t := 8) rfl (fun c4_0 => ?_) (fun c4_0 => ?_)
  · replace c4_0 : ¬ ((1 : Int32) = 0) := jd_ne c4_0
    refine yr4p_k8 L (K.fi [20, 21, 22, 147, 148, 149] rfl rfl) (fun lv h9 L K9 => ?_)
    have K : KN h9 [(20, .inl (3, [.ref 21, .ref 22, .ref 23, .ref 24, .ref 25, .ref 26, .ref 27, .ref 28, .int pevs, .int 1])), (21, .inr (.inl (0, pmss))), (22, .inr (.inl (0, pmms))), (23, .inr (.inl (0, pmts))), (24, .inr (.inl (0, psts))), (25, .inr (.inl (0, pwas))), (26, .inr (.inl (0, prss))), (27, .inr (.inl (0, prrs))), (28, .inr (.inl (0, pfas))), (147, .inl (3, [.ref 148, .ref 149, .ref 150, .ref 151, .ref 152, .ref 153, .ref 154, .ref 155, .int pev, .int 1])), (148, .inr (.inl (0, (aC (nI pms.length) pmss pms)))), (149, .inr (.inl (0, (aC (nI pmm.length) pmms pmm)))), (150, .inr (.inl (0, pmt))), (151, .inr (.inl (0, pst))), (152, .inr (.inl (0, pwa))), (153, .inr (.inl (0, prs))), (154, .inr (.inl (0, prr))), (155, .inr (.inl (0, pfa)))] h0 := K.mg K9 rfl rfl
    clear K9
    refine yr4p_k44 L (K.fi [20, 23, 24, 147, 150, 151] rfl rfl) (fun lv h9 L K9 => ?_)
    have K : KN h9 [(20, .inl (3, [.ref 21, .ref 22, .ref 23, .ref 24, .ref 25, .ref 26, .ref 27, .ref 28, .int pevs, .int 1])), (21, .inr (.inl (0, pmss))), (22, .inr (.inl (0, pmms))), (23, .inr (.inl (0, pmts))), (24, .inr (.inl (0, psts))), (25, .inr (.inl (0, pwas))), (26, .inr (.inl (0, prss))), (27, .inr (.inl (0, prrs))), (28, .inr (.inl (0, pfas))), (147, .inl (3, [.ref 148, .ref 149, .ref 150, .ref 151, .ref 152, .ref 153, .ref 154, .ref 155, .int pev, .int 1])), (148, .inr (.inl (0, (aC (nI pms.length) pmss pms)))), (149, .inr (.inl (0, (aC (nI pmm.length) pmms pmm)))), (150, .inr (.inl (0, (aC (nI pmt.length) pmts pmt)))), (151, .inr (.inl (0, (aC (nI pst.length) psts pst)))), (152, .inr (.inl (0, pwa))), (153, .inr (.inl (0, prs))), (154, .inr (.inl (0, prr))), (155, .inr (.inl (0, pfa)))] h0 := K.mg K9 rfl rfl
    clear K9
    refine yr4p_k80 L (K.fi [20, 25, 26, 147, 152, 153] rfl rfl) (fun lv h9 L K9 => ?_)
    have K : KN h9 [(20, .inl (3, [.ref 21, .ref 22, .ref 23, .ref 24, .ref 25, .ref 26, .ref 27, .ref 28, .int pevs, .int 1])), (21, .inr (.inl (0, pmss))), (22, .inr (.inl (0, pmms))), (23, .inr (.inl (0, pmts))), (24, .inr (.inl (0, psts))), (25, .inr (.inl (0, pwas))), (26, .inr (.inl (0, prss))), (27, .inr (.inl (0, prrs))), (28, .inr (.inl (0, pfas))), (147, .inl (3, [.ref 148, .ref 149, .ref 150, .ref 151, .ref 152, .ref 153, .ref 154, .ref 155, .int pev, .int 1])), (148, .inr (.inl (0, (aC (nI pms.length) pmss pms)))), (149, .inr (.inl (0, (aC (nI pmm.length) pmms pmm)))), (150, .inr (.inl (0, (aC (nI pmt.length) pmts pmt)))), (151, .inr (.inl (0, (aC (nI pst.length) psts pst)))), (152, .inr (.inl (0, (aC (nI pwa.length) pwas pwa)))), (153, .inr (.inl (0, (aC (nI prs.length) prss prs)))), (154, .inr (.inl (0, prr))), (155, .inr (.inl (0, pfa)))] h0 := K.mg K9 rfl rfl
    clear K9
    refine yr4p_k116 L (K.fi [20, 27, 28, 147, 154, 155] rfl rfl) (fun lv h9 L K9 => ?_)
    have K : KN h9 [(20, .inl (3, [.ref 21, .ref 22, .ref 23, .ref 24, .ref 25, .ref 26, .ref 27, .ref 28, .int pevs, .int 1])), (21, .inr (.inl (0, pmss))), (22, .inr (.inl (0, pmms))), (23, .inr (.inl (0, pmts))), (24, .inr (.inl (0, psts))), (25, .inr (.inl (0, pwas))), (26, .inr (.inl (0, prss))), (27, .inr (.inl (0, prrs))), (28, .inr (.inl (0, pfas))), (147, .inl (3, [.ref 148, .ref 149, .ref 150, .ref 151, .ref 152, .ref 153, .ref 154, .ref 155, .int pev, .int 1])), (148, .inr (.inl (0, (aC (nI pms.length) pmss pms)))), (149, .inr (.inl (0, (aC (nI pmm.length) pmms pmm)))), (150, .inr (.inl (0, (aC (nI pmt.length) pmts pmt)))), (151, .inr (.inl (0, (aC (nI pst.length) psts pst)))), (152, .inr (.inl (0, (aC (nI pwa.length) pwas pwa)))), (153, .inr (.inl (0, (aC (nI prs.length) prss prs)))), (154, .inr (.inl (0, (aC (nI prr.length) prrs prr)))), (155, .inr (.inl (0, (aC (nI pfa.length) pfas pfa))))] h0 := K.mg K9 rfl rfl
    clear K9
    refine j_V.ldL yr4p_M yr4p_152 rfl (i := 0) (kd := 2) (v := .ref 147) (pcJ := 153) rfl L rfl rfl rfl ?_
    refine j_V.ldL yr4p_M yr4p_153 rfl (i := 1) (kd := 2) (v := .ref 20) (pcJ := 154) rfl L rfl rfl rfl ?_
    refine j_V.getK yr4p_M yr4p_154 (ci := 3) (j := 8) rfl K rfl rfl ?_
    refine j_V.putK yr4p_M yr4p_157 (ci := 3) (j := 8) (k' := [(20, .inl (3, [.ref 21, .ref 22, .ref 23, .ref 24, .ref 25, .ref 26, .ref 27, .ref 28, .int pevs, .int 1])), (21, .inr (.inl (0, pmss))), (22, .inr (.inl (0, pmms))), (23, .inr (.inl (0, pmts))), (24, .inr (.inl (0, psts))), (25, .inr (.inl (0, pwas))), (26, .inr (.inl (0, prss))), (27, .inr (.inl (0, prrs))), (28, .inr (.inl (0, pfas))), (147, .inl (3, [.ref 148, .ref 149, .ref 150, .ref 151, .ref 152, .ref 153, .ref 154, .ref 155, .int pevs, .int 1])), (148, .inr (.inl (0, (aC (nI pms.length) pmss pms)))), (149, .inr (.inl (0, (aC (nI pmm.length) pmms pmm)))), (150, .inr (.inl (0, (aC (nI pmt.length) pmts pmt)))), (151, .inr (.inl (0, (aC (nI pst.length) psts pst)))), (152, .inr (.inl (0, (aC (nI pwa.length) pwas pwa)))), (153, .inr (.inl (0, (aC (nI prs.length) prss prs)))), (154, .inr (.inl (0, (aC (nI prr.length) prrs prr)))), (155, .inr (.inl (0, (aC (nI pfa.length) pfas pfa))))]) rfl K rfl (Nat.le_of_ble_eq_true rfl) rfl (Or.inl rfl) rfl rfl (fun h K => ?_)
    exact j_V.ret yr4p_M yr4p_160 rfl rfl ⟨rfl, K⟩
  · replace c4_0 : (1 : Int32) = 0 := jd_nen c4_0
    exact absurd c4_0 (by decide)
set_option maxRecDepth 100000 in
theorem yr4s_M : j_meth jP 61 = some (yX7_copyFrom, cX7_copyFrom, 2, none, 1, false, 7) := rfl
set_option maxRecDepth 100000 in
theorem yr4s_0 : j_code jP 61 0 = some (.aload_n 0) := rfl
set_option maxRecDepth 100000 in
theorem yr4s_1 : j_code jP 61 1 = some (.aload_n 1) := rfl
set_option maxRecDepth 100000 in
theorem yr4s_2 : j_code jP 61 2 = some (.getfield 64) := rfl
set_option maxRecDepth 100000 in
theorem yr4s_5 : j_code jP 61 5 = some (.putfield 64) := rfl
set_option maxRecDepth 100000 in
theorem yr4s_8 : j_code jP 61 8 = some (.aload_n 0) := rfl
set_option maxRecDepth 100000 in
theorem yr4s_9 : j_code jP 61 9 = some (.aload_n 1) := rfl
set_option maxRecDepth 100000 in
theorem yr4s_10 : j_code jP 61 10 = some (.getfield 68) := rfl
set_option maxRecDepth 100000 in
theorem yr4s_13 : j_code jP 61 13 = some (.putfield 68) := rfl
set_option maxRecDepth 100000 in
theorem yr4s_16 : j_code jP 61 16 = some (.aload_n 0) := rfl
set_option maxRecDepth 100000 in
theorem yr4s_17 : j_code jP 61 17 = some (.aload_n 1) := rfl
set_option maxRecDepth 100000 in
theorem yr4s_18 : j_code jP 61 18 = some (.getfield 72) := rfl
set_option maxRecDepth 100000 in
theorem yr4s_21 : j_code jP 61 21 = some (.putfield 72) := rfl
set_option maxRecDepth 100000 in
theorem yr4s_24 : j_code jP 61 24 = some (.aload_n 0) := rfl
set_option maxRecDepth 100000 in
theorem yr4s_25 : j_code jP 61 25 = some (.aload_n 1) := rfl
set_option maxRecDepth 100000 in
theorem yr4s_26 : j_code jP 61 26 = some (.getfield 75) := rfl
set_option maxRecDepth 100000 in
theorem yr4s_29 : j_code jP 61 29 = some (.putfield 75) := rfl
set_option maxRecDepth 100000 in
theorem yr4s_32 : j_code jP 61 32 = some (.aload_n 0) := rfl
set_option maxRecDepth 100000 in
theorem yr4s_33 : j_code jP 61 33 = some (.aload_n 1) := rfl
set_option maxRecDepth 100000 in
theorem yr4s_34 : j_code jP 61 34 = some (.getfield 78) := rfl
set_option maxRecDepth 100000 in
theorem yr4s_37 : j_code jP 61 37 = some (.putfield 78) := rfl
set_option maxRecDepth 100000 in
theorem yr4s_40 : j_code jP 61 40 = some (.aload_n 1) := rfl
set_option maxRecDepth 100000 in
theorem yr4s_41 : j_code jP 61 41 = some (.getfield 9) := rfl
set_option maxRecDepth 100000 in
theorem yr4s_44 : j_code jP 61 44 = some (.iconst 0) := rfl
set_option maxRecDepth 100000 in
theorem yr4s_45 : j_code jP 61 45 = some (.aload_n 0) := rfl
set_option maxRecDepth 100000 in
theorem yr4s_46 : j_code jP 61 46 = some (.getfield 9) := rfl
set_option maxRecDepth 100000 in
theorem yr4s_49 : j_code jP 61 49 = some (.iconst 0) := rfl
set_option maxRecDepth 100000 in
theorem yr4s_50 : j_code jP 61 50 = some (.iconst 5) := rfl
set_option maxRecDepth 100000 in
theorem yr4s_51 : j_code jP 61 51 = some (.invokestatic 84) := rfl
set_option maxRecDepth 100000 in
theorem yr4s_54 : j_code jP 61 54 = some (.aload_n 1) := rfl
set_option maxRecDepth 100000 in
theorem yr4s_55 : j_code jP 61 55 = some (.getfield 15) := rfl
set_option maxRecDepth 100000 in
theorem yr4s_58 : j_code jP 61 58 = some (.iconst 0) := rfl
set_option maxRecDepth 100000 in
theorem yr4s_59 : j_code jP 61 59 = some (.aload_n 0) := rfl
set_option maxRecDepth 100000 in
theorem yr4s_60 : j_code jP 61 60 = some (.getfield 15) := rfl
set_option maxRecDepth 100000 in
theorem yr4s_63 : j_code jP 61 63 = some (.iconst 0) := rfl
set_option maxRecDepth 100000 in
theorem yr4s_64 : j_code jP 61 64 = some (.iconst 5) := rfl
set_option maxRecDepth 100000 in
theorem yr4s_65 : j_code jP 61 65 = some (.invokestatic 84) := rfl
set_option maxRecDepth 100000 in
theorem yr4s_68 : j_code jP 61 68 = some (.aload_n 1) := rfl
set_option maxRecDepth 100000 in
theorem yr4s_69 : j_code jP 61 69 = some (.getfield 18) := rfl
set_option maxRecDepth 100000 in
theorem yr4s_72 : j_code jP 61 72 = some (.iconst 0) := rfl
set_option maxRecDepth 100000 in
theorem yr4s_73 : j_code jP 61 73 = some (.aload_n 0) := rfl
set_option maxRecDepth 100000 in
theorem yr4s_74 : j_code jP 61 74 = some (.getfield 18) := rfl
set_option maxRecDepth 100000 in
theorem yr4s_77 : j_code jP 61 77 = some (.iconst 0) := rfl
set_option maxRecDepth 100000 in
theorem yr4s_78 : j_code jP 61 78 = some (.iconst 5) := rfl
set_option maxRecDepth 100000 in
theorem yr4s_79 : j_code jP 61 79 = some (.invokestatic 84) := rfl
set_option maxRecDepth 100000 in
theorem yr4s_82 : j_code jP 61 82 = some (.aload_n 1) := rfl
set_option maxRecDepth 100000 in
theorem yr4s_83 : j_code jP 61 83 = some (.getfield 21) := rfl
set_option maxRecDepth 100000 in
theorem yr4s_86 : j_code jP 61 86 = some (.iconst 0) := rfl
set_option maxRecDepth 100000 in
theorem yr4s_87 : j_code jP 61 87 = some (.aload_n 0) := rfl
set_option maxRecDepth 100000 in
theorem yr4s_88 : j_code jP 61 88 = some (.getfield 21) := rfl
set_option maxRecDepth 100000 in
theorem yr4s_91 : j_code jP 61 91 = some (.iconst 0) := rfl
set_option maxRecDepth 100000 in
theorem yr4s_92 : j_code jP 61 92 = some (.iconst 5) := rfl
set_option maxRecDepth 100000 in
theorem yr4s_93 : j_code jP 61 93 = some (.invokestatic 84) := rfl
set_option maxRecDepth 100000 in
theorem yr4s_96 : j_code jP 61 96 = some (.aload_n 1) := rfl
set_option maxRecDepth 100000 in
theorem yr4s_97 : j_code jP 61 97 = some (.getfield 24) := rfl
set_option maxRecDepth 100000 in
theorem yr4s_100 : j_code jP 61 100 = some (.iconst 0) := rfl
set_option maxRecDepth 100000 in
theorem yr4s_101 : j_code jP 61 101 = some (.aload_n 0) := rfl
set_option maxRecDepth 100000 in
theorem yr4s_102 : j_code jP 61 102 = some (.getfield 24) := rfl
set_option maxRecDepth 100000 in
theorem yr4s_105 : j_code jP 61 105 = some (.iconst 0) := rfl
set_option maxRecDepth 100000 in
theorem yr4s_106 : j_code jP 61 106 = some (.iconst 5) := rfl
set_option maxRecDepth 100000 in
theorem yr4s_107 : j_code jP 61 107 = some (.invokestatic 84) := rfl
set_option maxRecDepth 100000 in
theorem yr4s_110 : j_code jP 61 110 = some (.aload_n 1) := rfl
set_option maxRecDepth 100000 in
theorem yr4s_111 : j_code jP 61 111 = some (.getfield 27) := rfl
set_option maxRecDepth 100000 in
theorem yr4s_114 : j_code jP 61 114 = some (.iconst 0) := rfl
set_option maxRecDepth 100000 in
theorem yr4s_115 : j_code jP 61 115 = some (.aload_n 0) := rfl
set_option maxRecDepth 100000 in
theorem yr4s_116 : j_code jP 61 116 = some (.getfield 27) := rfl
set_option maxRecDepth 100000 in
theorem yr4s_119 : j_code jP 61 119 = some (.iconst 0) := rfl
set_option maxRecDepth 100000 in
theorem yr4s_120 : j_code jP 61 120 = some (.iconst 5) := rfl
set_option maxRecDepth 100000 in
theorem yr4s_121 : j_code jP 61 121 = some (.invokestatic 84) := rfl
set_option maxRecDepth 100000 in
theorem yr4s_124 : j_code jP 61 124 = some (.aload_n 1) := rfl
set_option maxRecDepth 100000 in
theorem yr4s_125 : j_code jP 61 125 = some (.getfield 30) := rfl
set_option maxRecDepth 100000 in
theorem yr4s_128 : j_code jP 61 128 = some (.iconst 0) := rfl
set_option maxRecDepth 100000 in
theorem yr4s_129 : j_code jP 61 129 = some (.aload_n 0) := rfl
set_option maxRecDepth 100000 in
theorem yr4s_130 : j_code jP 61 130 = some (.getfield 30) := rfl
set_option maxRecDepth 100000 in
theorem yr4s_133 : j_code jP 61 133 = some (.iconst 0) := rfl
set_option maxRecDepth 100000 in
theorem yr4s_134 : j_code jP 61 134 = some (.iconst 5) := rfl
set_option maxRecDepth 100000 in
theorem yr4s_135 : j_code jP 61 135 = some (.invokestatic 84) := rfl
set_option maxRecDepth 100000 in
theorem yr4s_138 : j_code jP 61 138 = some (.aload_n 1) := rfl
set_option maxRecDepth 100000 in
theorem yr4s_139 : j_code jP 61 139 = some (.getfield 33) := rfl
set_option maxRecDepth 100000 in
theorem yr4s_142 : j_code jP 61 142 = some (.iconst 0) := rfl
set_option maxRecDepth 100000 in
theorem yr4s_143 : j_code jP 61 143 = some (.aload_n 0) := rfl
set_option maxRecDepth 100000 in
theorem yr4s_144 : j_code jP 61 144 = some (.getfield 33) := rfl
set_option maxRecDepth 100000 in
theorem yr4s_147 : j_code jP 61 147 = some (.iconst 0) := rfl
set_option maxRecDepth 100000 in
theorem yr4s_148 : j_code jP 61 148 = some (.bipush 6) := rfl
set_option maxRecDepth 100000 in
theorem yr4s_150 : j_code jP 61 150 = some (.invokestatic 84) := rfl
set_option maxRecDepth 100000 in
theorem yr4s_153 : j_code jP 61 153 = some (.aload_n 1) := rfl
set_option maxRecDepth 100000 in
theorem yr4s_154 : j_code jP 61 154 = some (.getfield 36) := rfl
set_option maxRecDepth 100000 in
theorem yr4s_157 : j_code jP 61 157 = some (.iconst 0) := rfl
set_option maxRecDepth 100000 in
theorem yr4s_158 : j_code jP 61 158 = some (.aload_n 0) := rfl
set_option maxRecDepth 100000 in
theorem yr4s_159 : j_code jP 61 159 = some (.getfield 36) := rfl
set_option maxRecDepth 100000 in
theorem yr4s_162 : j_code jP 61 162 = some (.iconst 0) := rfl
set_option maxRecDepth 100000 in
theorem yr4s_163 : j_code jP 61 163 = some (.bipush 6) := rfl
set_option maxRecDepth 100000 in
theorem yr4s_165 : j_code jP 61 165 = some (.invokestatic 84) := rfl
set_option maxRecDepth 100000 in
theorem yr4s_168 : j_code jP 61 168 = some (.aload_n 1) := rfl
set_option maxRecDepth 100000 in
theorem yr4s_169 : j_code jP 61 169 = some (.getfield 39) := rfl
set_option maxRecDepth 100000 in
theorem yr4s_172 : j_code jP 61 172 = some (.iconst 0) := rfl
set_option maxRecDepth 100000 in
theorem yr4s_173 : j_code jP 61 173 = some (.aload_n 0) := rfl
set_option maxRecDepth 100000 in
theorem yr4s_174 : j_code jP 61 174 = some (.getfield 39) := rfl
set_option maxRecDepth 100000 in
theorem yr4s_177 : j_code jP 61 177 = some (.iconst 0) := rfl
set_option maxRecDepth 100000 in
theorem yr4s_178 : j_code jP 61 178 = some (.aload_n 0) := rfl
set_option maxRecDepth 100000 in
theorem yr4s_179 : j_code jP 61 179 = some (.getfield 39) := rfl
set_option maxRecDepth 100000 in
theorem yr4s_182 : j_code jP 61 182 = some (.arraylength) := rfl
set_option maxRecDepth 100000 in
theorem yr4s_183 : j_code jP 61 183 = some (.invokestatic 84) := rfl
set_option maxRecDepth 100000 in
theorem yr4s_186 : j_code jP 61 186 = some (.aload_n 1) := rfl
set_option maxRecDepth 100000 in
theorem yr4s_187 : j_code jP 61 187 = some (.getfield 42) := rfl
set_option maxRecDepth 100000 in
theorem yr4s_190 : j_code jP 61 190 = some (.iconst 0) := rfl
set_option maxRecDepth 100000 in
theorem yr4s_191 : j_code jP 61 191 = some (.aload_n 0) := rfl
set_option maxRecDepth 100000 in
theorem yr4s_192 : j_code jP 61 192 = some (.getfield 42) := rfl
set_option maxRecDepth 100000 in
theorem yr4s_195 : j_code jP 61 195 = some (.iconst 0) := rfl
set_option maxRecDepth 100000 in
theorem yr4s_196 : j_code jP 61 196 = some (.aload_n 0) := rfl
set_option maxRecDepth 100000 in
theorem yr4s_197 : j_code jP 61 197 = some (.getfield 42) := rfl
set_option maxRecDepth 100000 in
theorem yr4s_200 : j_code jP 61 200 = some (.arraylength) := rfl
set_option maxRecDepth 100000 in
theorem yr4s_201 : j_code jP 61 201 = some (.invokestatic 84) := rfl
set_option maxRecDepth 100000 in
theorem yr4s_204 : j_code jP 61 204 = some (.aload_n 1) := rfl
set_option maxRecDepth 100000 in
theorem yr4s_205 : j_code jP 61 205 = some (.getfield 45) := rfl
set_option maxRecDepth 100000 in
theorem yr4s_208 : j_code jP 61 208 = some (.iconst 0) := rfl
set_option maxRecDepth 100000 in
theorem yr4s_209 : j_code jP 61 209 = some (.aload_n 0) := rfl
set_option maxRecDepth 100000 in
theorem yr4s_210 : j_code jP 61 210 = some (.getfield 45) := rfl
set_option maxRecDepth 100000 in
theorem yr4s_213 : j_code jP 61 213 = some (.iconst 0) := rfl
set_option maxRecDepth 100000 in
theorem yr4s_214 : j_code jP 61 214 = some (.aload_n 0) := rfl
set_option maxRecDepth 100000 in
theorem yr4s_215 : j_code jP 61 215 = some (.getfield 45) := rfl
set_option maxRecDepth 100000 in
theorem yr4s_218 : j_code jP 61 218 = some (.arraylength) := rfl
set_option maxRecDepth 100000 in
theorem yr4s_219 : j_code jP 61 219 = some (.invokestatic 84) := rfl
set_option maxRecDepth 100000 in
theorem yr4s_222 : j_code jP 61 222 = some (.aload_n 0) := rfl
set_option maxRecDepth 100000 in
theorem yr4s_223 : j_code jP 61 223 = some (.getfield 60) := rfl
set_option maxRecDepth 100000 in
theorem yr4s_226 : j_code jP 61 226 = some (.aload_n 1) := rfl
set_option maxRecDepth 100000 in
theorem yr4s_227 : j_code jP 61 227 = some (.getfield 60) := rfl
set_option maxRecDepth 100000 in
theorem yr4s_230 : j_code jP 61 230 = some (.invokevirtual 108) := rfl
set_option maxRecDepth 100000 in
theorem yr4s_233 : j_code jP 61 233 = some (.return_) := rfl
set_option maxRecDepth 1000000 in
theorem yr4s_k0 {ly : Value} {mi : Int32} {shu : Int32} {bus : Int32} {lks : Int32} {lys : Nat} {mis : Int32} {shus : Int32} {buss : Int32} {lkss : Int32} {d : Nat} {lv : J_L} {h h0 : J_H} {Q : Option Value → J_H → Prop} (L : LK lv [(0, .ref 131), (1, .ref 4)]) (K : KN h [(4, .inl (7, [.ref lys, .int mis, .int shus, .int buss, .ref 5, .ref 6, .ref 7, .ref 8, .ref 9, .ref 10, .ref 11, .ref 12, .ref 13, .ref 14, .ref 15, .int lkss, .ref 16, .ref 17, .ref 20])), (131, .inl (7, [ly, .int mi, .int shu, .int bus, .ref 132, .ref 133, .ref 134, .ref 135, .ref 136, .ref 137, .ref 138, .ref 139, .ref 140, .ref 141, .ref 142, .int lks, .ref 143, .ref 144, .ref 147]))] h0) (kk : ∀ lv h, LK lv [(0, .ref 131), (1, .ref 4)] → KN h [(4, .inl (7, [.ref lys, .int mis, .int shus, .int buss, .ref 5, .ref 6, .ref 7, .ref 8, .ref 9, .ref 10, .ref 11, .ref 12, .ref 13, .ref 14, .ref 15, .int lkss, .ref 16, .ref 17, .ref 20])), (131, .inl (7, [.ref lys, .int mis, .int shus, .int buss, .ref 132, .ref 133, .ref 134, .ref 135, .ref 136, .ref 137, .ref 138, .ref 139, .ref 140, .ref 141, .ref 142, .int lkss, .ref 143, .ref 144, .ref 147]))] h0 → j_V jP d 61 40 lv [] h Q) : j_V jP d 61 0 lv [] h Q := by
  refine j_V.ldL yr4s_M yr4s_0 rfl (i := 0) (kd := 2) (v := .ref 131) (pcJ := 1) rfl L rfl rfl rfl ?_
  refine j_V.ldL yr4s_M yr4s_1 rfl (i := 1) (kd := 2) (v := .ref 4) (pcJ := 2) rfl L rfl rfl rfl ?_
  refine j_V.getK yr4s_M yr4s_2 (ci := 7) (j := 0) rfl K rfl rfl ?_
  refine j_V.putK yr4s_M yr4s_5 (ci := 7) (j := 0) (k' := [(4, .inl (7, [.ref lys, .int mis, .int shus, .int buss, .ref 5, .ref 6, .ref 7, .ref 8, .ref 9, .ref 10, .ref 11, .ref 12, .ref 13, .ref 14, .ref 15, .int lkss, .ref 16, .ref 17, .ref 20])), (131, .inl (7, [.ref lys, .int mi, .int shu, .int bus, .ref 132, .ref 133, .ref 134, .ref 135, .ref 136, .ref 137, .ref 138, .ref 139, .ref 140, .ref 141, .ref 142, .int lks, .ref 143, .ref 144, .ref 147]))]) rfl K rfl (Nat.le_of_ble_eq_true rfl) rfl (Or.inl rfl) rfl rfl (fun h K => ?_)
  refine j_V.ldL yr4s_M yr4s_8 rfl (i := 0) (kd := 2) (v := .ref 131) (pcJ := 9) rfl L rfl rfl rfl ?_
  refine j_V.ldL yr4s_M yr4s_9 rfl (i := 1) (kd := 2) (v := .ref 4) (pcJ := 10) rfl L rfl rfl rfl ?_
  refine j_V.getK yr4s_M yr4s_10 (ci := 7) (j := 1) rfl K rfl rfl ?_
  refine j_V.putK yr4s_M yr4s_13 (ci := 7) (j := 1) (k' := [(4, .inl (7, [.ref lys, .int mis, .int shus, .int buss, .ref 5, .ref 6, .ref 7, .ref 8, .ref 9, .ref 10, .ref 11, .ref 12, .ref 13, .ref 14, .ref 15, .int lkss, .ref 16, .ref 17, .ref 20])), (131, .inl (7, [.ref lys, .int mis, .int shu, .int bus, .ref 132, .ref 133, .ref 134, .ref 135, .ref 136, .ref 137, .ref 138, .ref 139, .ref 140, .ref 141, .ref 142, .int lks, .ref 143, .ref 144, .ref 147]))]) rfl K rfl (Nat.le_of_ble_eq_true rfl) rfl (Or.inl rfl) rfl rfl (fun h K => ?_)
  refine j_V.ldL yr4s_M yr4s_16 rfl (i := 0) (kd := 2) (v := .ref 131) (pcJ := 17) rfl L rfl rfl rfl ?_
  refine j_V.ldL yr4s_M yr4s_17 rfl (i := 1) (kd := 2) (v := .ref 4) (pcJ := 18) rfl L rfl rfl rfl ?_
  refine j_V.getK yr4s_M yr4s_18 (ci := 7) (j := 2) rfl K rfl rfl ?_
  refine j_V.putK yr4s_M yr4s_21 (ci := 7) (j := 2) (k' := [(4, .inl (7, [.ref lys, .int mis, .int shus, .int buss, .ref 5, .ref 6, .ref 7, .ref 8, .ref 9, .ref 10, .ref 11, .ref 12, .ref 13, .ref 14, .ref 15, .int lkss, .ref 16, .ref 17, .ref 20])), (131, .inl (7, [.ref lys, .int mis, .int shus, .int bus, .ref 132, .ref 133, .ref 134, .ref 135, .ref 136, .ref 137, .ref 138, .ref 139, .ref 140, .ref 141, .ref 142, .int lks, .ref 143, .ref 144, .ref 147]))]) rfl K rfl (Nat.le_of_ble_eq_true rfl) rfl (Or.inl rfl) rfl rfl (fun h K => ?_)
  refine j_V.ldL yr4s_M yr4s_24 rfl (i := 0) (kd := 2) (v := .ref 131) (pcJ := 25) rfl L rfl rfl rfl ?_
  refine j_V.ldL yr4s_M yr4s_25 rfl (i := 1) (kd := 2) (v := .ref 4) (pcJ := 26) rfl L rfl rfl rfl ?_
  refine j_V.getK yr4s_M yr4s_26 (ci := 7) (j := 3) rfl K rfl rfl ?_
  refine j_V.putK yr4s_M yr4s_29 (ci := 7) (j := 3) (k' := [(4, .inl (7, [.ref lys, .int mis, .int shus, .int buss, .ref 5, .ref 6, .ref 7, .ref 8, .ref 9, .ref 10, .ref 11, .ref 12, .ref 13, .ref 14, .ref 15, .int lkss, .ref 16, .ref 17, .ref 20])), (131, .inl (7, [.ref lys, .int mis, .int shus, .int buss, .ref 132, .ref 133, .ref 134, .ref 135, .ref 136, .ref 137, .ref 138, .ref 139, .ref 140, .ref 141, .ref 142, .int lks, .ref 143, .ref 144, .ref 147]))]) rfl K rfl (Nat.le_of_ble_eq_true rfl) rfl (Or.inl rfl) rfl rfl (fun h K => ?_)
  refine j_V.ldL yr4s_M yr4s_32 rfl (i := 0) (kd := 2) (v := .ref 131) (pcJ := 33) rfl L rfl rfl rfl ?_
  refine j_V.ldL yr4s_M yr4s_33 rfl (i := 1) (kd := 2) (v := .ref 4) (pcJ := 34) rfl L rfl rfl rfl ?_
  refine j_V.getK yr4s_M yr4s_34 (ci := 7) (j := 15) rfl K rfl rfl ?_
  refine j_V.putK yr4s_M yr4s_37 (ci := 7) (j := 15) (k' := [(4, .inl (7, [.ref lys, .int mis, .int shus, .int buss, .ref 5, .ref 6, .ref 7, .ref 8, .ref 9, .ref 10, .ref 11, .ref 12, .ref 13, .ref 14, .ref 15, .int lkss, .ref 16, .ref 17, .ref 20])), (131, .inl (7, [.ref lys, .int mis, .int shus, .int buss, .ref 132, .ref 133, .ref 134, .ref 135, .ref 136, .ref 137, .ref 138, .ref 139, .ref 140, .ref 141, .ref 142, .int lkss, .ref 143, .ref 144, .ref 147]))]) rfl K rfl (Nat.le_of_ble_eq_true rfl) rfl (Or.inl rfl) rfl rfl (fun h K => ?_)
  exact kk _ _ L K
set_option maxRecDepth 1000000 in
theorem yr4s_k40 {rk : List Int32} {sta : List Int32} {ph : List Int32} {lys : Nat} {mis : Int32} {shus : Int32} {buss : Int32} {lkss : Int32} {rks : List Int32} {stas : List Int32} {phs : List Int32} {d : Nat} {lv : J_L} {h h0 : J_H} {Q : Option Value → J_H → Prop} (L : LK lv [(0, .ref 131), (1, .ref 4)]) (K : KN h [(4, .inl (7, [.ref lys, .int mis, .int shus, .int buss, .ref 5, .ref 6, .ref 7, .ref 8, .ref 9, .ref 10, .ref 11, .ref 12, .ref 13, .ref 14, .ref 15, .int lkss, .ref 16, .ref 17, .ref 20])), (5, .inr (.inl (0, rks))), (6, .inr (.inl (0, stas))), (7, .inr (.inl (0, phs))), (131, .inl (7, [.ref lys, .int mis, .int shus, .int buss, .ref 132, .ref 133, .ref 134, .ref 135, .ref 136, .ref 137, .ref 138, .ref 139, .ref 140, .ref 141, .ref 142, .int lkss, .ref 143, .ref 144, .ref 147])), (132, .inr (.inl (0, rk))), (133, .inr (.inl (0, sta))), (134, .inr (.inl (0, ph)))] h0) (kk : ∀ lv h, LK lv [(0, .ref 131), (1, .ref 4)] → KN h [(4, .inl (7, [.ref lys, .int mis, .int shus, .int buss, .ref 5, .ref 6, .ref 7, .ref 8, .ref 9, .ref 10, .ref 11, .ref 12, .ref 13, .ref 14, .ref 15, .int lkss, .ref 16, .ref 17, .ref 20])), (5, .inr (.inl (0, rks))), (6, .inr (.inl (0, stas))), (7, .inr (.inl (0, phs))), (131, .inl (7, [.ref lys, .int mis, .int shus, .int buss, .ref 132, .ref 133, .ref 134, .ref 135, .ref 136, .ref 137, .ref 138, .ref 139, .ref 140, .ref 141, .ref 142, .int lkss, .ref 143, .ref 144, .ref 147])), (132, .inr (.inl (0, (aC 5 rks rk)))), (133, .inr (.inl (0, (aC 5 stas sta)))), (134, .inr (.inl (0, (aC 5 phs ph))))] h0 → j_V jP d 61 82 lv [] h Q) : j_V jP d 61 40 lv [] h Q := by
  refine j_V.ldL yr4s_M yr4s_40 rfl (i := 1) (kd := 2) (v := .ref 4) (pcJ := 41) rfl L rfl rfl rfl ?_
  refine j_V.getK yr4s_M yr4s_41 (ci := 7) (j := 4) rfl K rfl rfl ?_
  refine j_V.one yr4s_M yr4s_44 (by decide) (pcJ := 45) (stJ := [.int 0, .ref 5]) rfl ?_
  refine j_V.ldL yr4s_M yr4s_45 rfl (i := 0) (kd := 2) (v := .ref 131) (pcJ := 46) rfl L rfl rfl rfl ?_
  refine j_V.getK yr4s_M yr4s_46 (ci := 7) (j := 4) rfl K rfl rfl ?_
  refine j_V.one yr4s_M yr4s_49 (by decide) (pcJ := 50) (stJ := [.int 0, .ref 132, .int 0, .ref 5]) rfl ?_
  refine j_V.one yr4s_M yr4s_50 (by decide) (pcJ := 51) (stJ := [.int 5, .int 0, .ref 132, .int 0, .ref 5]) rfl ?_
  refine j_V.acp yr4s_M yr4s_51 rfl rfl K rfl rfl rfl (fun h K => ?_)
  refine j_V.ldL yr4s_M yr4s_54 rfl (i := 1) (kd := 2) (v := .ref 4) (pcJ := 55) rfl L rfl rfl rfl ?_
  refine j_V.getK yr4s_M yr4s_55 (ci := 7) (j := 5) rfl K rfl rfl ?_
  refine j_V.one yr4s_M yr4s_58 (by decide) (pcJ := 59) (stJ := [.int 0, .ref 6]) rfl ?_
  refine j_V.ldL yr4s_M yr4s_59 rfl (i := 0) (kd := 2) (v := .ref 131) (pcJ := 60) rfl L rfl rfl rfl ?_
  refine j_V.getK yr4s_M yr4s_60 (ci := 7) (j := 5) rfl K rfl rfl ?_
  refine j_V.one yr4s_M yr4s_63 (by decide) (pcJ := 64) (stJ := [.int 0, .ref 133, .int 0, .ref 6]) rfl ?_
  refine j_V.one yr4s_M yr4s_64 (by decide) (pcJ := 65) (stJ := [.int 5, .int 0, .ref 133, .int 0, .ref 6]) rfl ?_
  refine j_V.acp yr4s_M yr4s_65 rfl rfl K rfl rfl rfl (fun h K => ?_)
  refine j_V.ldL yr4s_M yr4s_68 rfl (i := 1) (kd := 2) (v := .ref 4) (pcJ := 69) rfl L rfl rfl rfl ?_
  refine j_V.getK yr4s_M yr4s_69 (ci := 7) (j := 6) rfl K rfl rfl ?_
  refine j_V.one yr4s_M yr4s_72 (by decide) (pcJ := 73) (stJ := [.int 0, .ref 7]) rfl ?_
  refine j_V.ldL yr4s_M yr4s_73 rfl (i := 0) (kd := 2) (v := .ref 131) (pcJ := 74) rfl L rfl rfl rfl ?_
  refine j_V.getK yr4s_M yr4s_74 (ci := 7) (j := 6) rfl K rfl rfl ?_
  refine j_V.one yr4s_M yr4s_77 (by decide) (pcJ := 78) (stJ := [.int 0, .ref 134, .int 0, .ref 7]) rfl ?_
  refine j_V.one yr4s_M yr4s_78 (by decide) (pcJ := 79) (stJ := [.int 5, .int 0, .ref 134, .int 0, .ref 7]) rfl ?_
  refine j_V.acp yr4s_M yr4s_79 rfl rfl K rfl rfl rfl (fun h K => ?_)
  exact kk _ _ L K
set_option maxRecDepth 1000000 in
theorem yr4s_k82 {sp : List Int32} {ce : List Int32} {du : List Int32} {lys : Nat} {mis : Int32} {shus : Int32} {buss : Int32} {lkss : Int32} {sps : List Int32} {ces : List Int32} {dus : List Int32} {d : Nat} {lv : J_L} {h h0 : J_H} {Q : Option Value → J_H → Prop} (L : LK lv [(0, .ref 131), (1, .ref 4)]) (K : KN h [(4, .inl (7, [.ref lys, .int mis, .int shus, .int buss, .ref 5, .ref 6, .ref 7, .ref 8, .ref 9, .ref 10, .ref 11, .ref 12, .ref 13, .ref 14, .ref 15, .int lkss, .ref 16, .ref 17, .ref 20])), (8, .inr (.inl (0, sps))), (9, .inr (.inl (0, ces))), (10, .inr (.inl (0, dus))), (131, .inl (7, [.ref lys, .int mis, .int shus, .int buss, .ref 132, .ref 133, .ref 134, .ref 135, .ref 136, .ref 137, .ref 138, .ref 139, .ref 140, .ref 141, .ref 142, .int lkss, .ref 143, .ref 144, .ref 147])), (135, .inr (.inl (0, sp))), (136, .inr (.inl (0, ce))), (137, .inr (.inl (0, du)))] h0) (kk : ∀ lv h, LK lv [(0, .ref 131), (1, .ref 4)] → KN h [(4, .inl (7, [.ref lys, .int mis, .int shus, .int buss, .ref 5, .ref 6, .ref 7, .ref 8, .ref 9, .ref 10, .ref 11, .ref 12, .ref 13, .ref 14, .ref 15, .int lkss, .ref 16, .ref 17, .ref 20])), (8, .inr (.inl (0, sps))), (9, .inr (.inl (0, ces))), (10, .inr (.inl (0, dus))), (131, .inl (7, [.ref lys, .int mis, .int shus, .int buss, .ref 132, .ref 133, .ref 134, .ref 135, .ref 136, .ref 137, .ref 138, .ref 139, .ref 140, .ref 141, .ref 142, .int lkss, .ref 143, .ref 144, .ref 147])), (135, .inr (.inl (0, (aC 5 sps sp)))), (136, .inr (.inl (0, (aC 5 ces ce)))), (137, .inr (.inl (0, (aC 5 dus du))))] h0 → j_V jP d 61 124 lv [] h Q) : j_V jP d 61 82 lv [] h Q := by
  refine j_V.ldL yr4s_M yr4s_82 rfl (i := 1) (kd := 2) (v := .ref 4) (pcJ := 83) rfl L rfl rfl rfl ?_
  refine j_V.getK yr4s_M yr4s_83 (ci := 7) (j := 7) rfl K rfl rfl ?_
  refine j_V.one yr4s_M yr4s_86 (by decide) (pcJ := 87) (stJ := [.int 0, .ref 8]) rfl ?_
  refine j_V.ldL yr4s_M yr4s_87 rfl (i := 0) (kd := 2) (v := .ref 131) (pcJ := 88) rfl L rfl rfl rfl ?_
  refine j_V.getK yr4s_M yr4s_88 (ci := 7) (j := 7) rfl K rfl rfl ?_
  refine j_V.one yr4s_M yr4s_91 (by decide) (pcJ := 92) (stJ := [.int 0, .ref 135, .int 0, .ref 8]) rfl ?_
  refine j_V.one yr4s_M yr4s_92 (by decide) (pcJ := 93) (stJ := [.int 5, .int 0, .ref 135, .int 0, .ref 8]) rfl ?_
  refine j_V.acp yr4s_M yr4s_93 rfl rfl K rfl rfl rfl (fun h K => ?_)
  refine j_V.ldL yr4s_M yr4s_96 rfl (i := 1) (kd := 2) (v := .ref 4) (pcJ := 97) rfl L rfl rfl rfl ?_
  refine j_V.getK yr4s_M yr4s_97 (ci := 7) (j := 8) rfl K rfl rfl ?_
  refine j_V.one yr4s_M yr4s_100 (by decide) (pcJ := 101) (stJ := [.int 0, .ref 9]) rfl ?_
  refine j_V.ldL yr4s_M yr4s_101 rfl (i := 0) (kd := 2) (v := .ref 131) (pcJ := 102) rfl L rfl rfl rfl ?_
  refine j_V.getK yr4s_M yr4s_102 (ci := 7) (j := 8) rfl K rfl rfl ?_
  refine j_V.one yr4s_M yr4s_105 (by decide) (pcJ := 106) (stJ := [.int 0, .ref 136, .int 0, .ref 9]) rfl ?_
  refine j_V.one yr4s_M yr4s_106 (by decide) (pcJ := 107) (stJ := [.int 5, .int 0, .ref 136, .int 0, .ref 9]) rfl ?_
  refine j_V.acp yr4s_M yr4s_107 rfl rfl K rfl rfl rfl (fun h K => ?_)
  refine j_V.ldL yr4s_M yr4s_110 rfl (i := 1) (kd := 2) (v := .ref 4) (pcJ := 111) rfl L rfl rfl rfl ?_
  refine j_V.getK yr4s_M yr4s_111 (ci := 7) (j := 9) rfl K rfl rfl ?_
  refine j_V.one yr4s_M yr4s_114 (by decide) (pcJ := 115) (stJ := [.int 0, .ref 10]) rfl ?_
  refine j_V.ldL yr4s_M yr4s_115 rfl (i := 0) (kd := 2) (v := .ref 131) (pcJ := 116) rfl L rfl rfl rfl ?_
  refine j_V.getK yr4s_M yr4s_116 (ci := 7) (j := 9) rfl K rfl rfl ?_
  refine j_V.one yr4s_M yr4s_119 (by decide) (pcJ := 120) (stJ := [.int 0, .ref 137, .int 0, .ref 10]) rfl ?_
  refine j_V.one yr4s_M yr4s_120 (by decide) (pcJ := 121) (stJ := [.int 5, .int 0, .ref 137, .int 0, .ref 10]) rfl ?_
  refine j_V.acp yr4s_M yr4s_121 rfl rfl K rfl rfl rfl (fun h K => ?_)
  exact kk _ _ L K
set_option maxRecDepth 1000000 in
theorem yr4s_k124 {he : List Int32} {ri : List Int32} {us : List Int32} {lys : Nat} {mis : Int32} {shus : Int32} {buss : Int32} {lkss : Int32} {hes : List Int32} {ris : List Int32} {uss : List Int32} {d : Nat} {lv : J_L} {h h0 : J_H} {Q : Option Value → J_H → Prop} (L : LK lv [(0, .ref 131), (1, .ref 4)]) (K : KN h [(4, .inl (7, [.ref lys, .int mis, .int shus, .int buss, .ref 5, .ref 6, .ref 7, .ref 8, .ref 9, .ref 10, .ref 11, .ref 12, .ref 13, .ref 14, .ref 15, .int lkss, .ref 16, .ref 17, .ref 20])), (11, .inr (.inl (0, hes))), (12, .inr (.inl (0, ris))), (13, .inr (.inl (0, uss))), (131, .inl (7, [.ref lys, .int mis, .int shus, .int buss, .ref 132, .ref 133, .ref 134, .ref 135, .ref 136, .ref 137, .ref 138, .ref 139, .ref 140, .ref 141, .ref 142, .int lkss, .ref 143, .ref 144, .ref 147])), (138, .inr (.inl (0, he))), (139, .inr (.inl (0, ri))), (140, .inr (.inl (0, us)))] h0) (kk : ∀ lv h, LK lv [(0, .ref 131), (1, .ref 4)] → KN h [(4, .inl (7, [.ref lys, .int mis, .int shus, .int buss, .ref 5, .ref 6, .ref 7, .ref 8, .ref 9, .ref 10, .ref 11, .ref 12, .ref 13, .ref 14, .ref 15, .int lkss, .ref 16, .ref 17, .ref 20])), (11, .inr (.inl (0, hes))), (12, .inr (.inl (0, ris))), (13, .inr (.inl (0, uss))), (131, .inl (7, [.ref lys, .int mis, .int shus, .int buss, .ref 132, .ref 133, .ref 134, .ref 135, .ref 136, .ref 137, .ref 138, .ref 139, .ref 140, .ref 141, .ref 142, .int lkss, .ref 143, .ref 144, .ref 147])), (138, .inr (.inl (0, (aC 5 hes he)))), (139, .inr (.inl (0, (aC 6 ris ri)))), (140, .inr (.inl (0, (aC 6 uss us))))] h0 → j_V jP d 61 168 lv [] h Q) : j_V jP d 61 124 lv [] h Q := by
  refine j_V.ldL yr4s_M yr4s_124 rfl (i := 1) (kd := 2) (v := .ref 4) (pcJ := 125) rfl L rfl rfl rfl ?_
  refine j_V.getK yr4s_M yr4s_125 (ci := 7) (j := 10) rfl K rfl rfl ?_
  refine j_V.one yr4s_M yr4s_128 (by decide) (pcJ := 129) (stJ := [.int 0, .ref 11]) rfl ?_
  refine j_V.ldL yr4s_M yr4s_129 rfl (i := 0) (kd := 2) (v := .ref 131) (pcJ := 130) rfl L rfl rfl rfl ?_
  refine j_V.getK yr4s_M yr4s_130 (ci := 7) (j := 10) rfl K rfl rfl ?_
  refine j_V.one yr4s_M yr4s_133 (by decide) (pcJ := 134) (stJ := [.int 0, .ref 138, .int 0, .ref 11]) rfl ?_
  refine j_V.one yr4s_M yr4s_134 (by decide) (pcJ := 135) (stJ := [.int 5, .int 0, .ref 138, .int 0, .ref 11]) rfl ?_
  refine j_V.acp yr4s_M yr4s_135 rfl rfl K rfl rfl rfl (fun h K => ?_)
  refine j_V.ldL yr4s_M yr4s_138 rfl (i := 1) (kd := 2) (v := .ref 4) (pcJ := 139) rfl L rfl rfl rfl ?_
  refine j_V.getK yr4s_M yr4s_139 (ci := 7) (j := 11) rfl K rfl rfl ?_
  refine j_V.one yr4s_M yr4s_142 (by decide) (pcJ := 143) (stJ := [.int 0, .ref 12]) rfl ?_
  refine j_V.ldL yr4s_M yr4s_143 rfl (i := 0) (kd := 2) (v := .ref 131) (pcJ := 144) rfl L rfl rfl rfl ?_
  refine j_V.getK yr4s_M yr4s_144 (ci := 7) (j := 11) rfl K rfl rfl ?_
  refine j_V.one yr4s_M yr4s_147 (by decide) (pcJ := 148) (stJ := [.int 0, .ref 139, .int 0, .ref 12]) rfl ?_
  refine j_V.one yr4s_M yr4s_148 (by decide) (pcJ := 150) (stJ := [.int 6, .int 0, .ref 139, .int 0, .ref 12]) rfl ?_
  refine j_V.acp yr4s_M yr4s_150 rfl rfl K rfl rfl rfl (fun h K => ?_)
  refine j_V.ldL yr4s_M yr4s_153 rfl (i := 1) (kd := 2) (v := .ref 4) (pcJ := 154) rfl L rfl rfl rfl ?_
  refine j_V.getK yr4s_M yr4s_154 (ci := 7) (j := 12) rfl K rfl rfl ?_
  refine j_V.one yr4s_M yr4s_157 (by decide) (pcJ := 158) (stJ := [.int 0, .ref 13]) rfl ?_
  refine j_V.ldL yr4s_M yr4s_158 rfl (i := 0) (kd := 2) (v := .ref 131) (pcJ := 159) rfl L rfl rfl rfl ?_
  refine j_V.getK yr4s_M yr4s_159 (ci := 7) (j := 12) rfl K rfl rfl ?_
  refine j_V.one yr4s_M yr4s_162 (by decide) (pcJ := 163) (stJ := [.int 0, .ref 140, .int 0, .ref 13]) rfl ?_
  refine j_V.one yr4s_M yr4s_163 (by decide) (pcJ := 165) (stJ := [.int 6, .int 0, .ref 140, .int 0, .ref 13]) rfl ?_
  refine j_V.acp yr4s_M yr4s_165 rfl rfl K rfl rfl rfl (fun h K => ?_)
  exact kk _ _ L K
set_option maxRecDepth 1000000 in
theorem yr4s_k168 {cm : List Int32} {lf : List Int32} {lkd : List Int32} {lys : Nat} {mis : Int32} {shus : Int32} {buss : Int32} {lkss : Int32} {cms : List Int32} {lfs : List Int32} {lkds : List Int32} {d : Nat} {lv : J_L} {h h0 : J_H} {Q : Option Value → J_H → Prop} (L : LK lv [(0, .ref 131), (1, .ref 4)]) (K : KN h [(4, .inl (7, [.ref lys, .int mis, .int shus, .int buss, .ref 5, .ref 6, .ref 7, .ref 8, .ref 9, .ref 10, .ref 11, .ref 12, .ref 13, .ref 14, .ref 15, .int lkss, .ref 16, .ref 17, .ref 20])), (14, .inr (.inl (0, cms))), (15, .inr (.inl (0, lfs))), (16, .inr (.inl (0, lkds))), (131, .inl (7, [.ref lys, .int mis, .int shus, .int buss, .ref 132, .ref 133, .ref 134, .ref 135, .ref 136, .ref 137, .ref 138, .ref 139, .ref 140, .ref 141, .ref 142, .int lkss, .ref 143, .ref 144, .ref 147])), (141, .inr (.inl (0, cm))), (142, .inr (.inl (0, lf))), (143, .inr (.inl (0, lkd)))] h0) (kk : ∀ lv h, LK lv [(0, .ref 131), (1, .ref 4)] → KN h [(4, .inl (7, [.ref lys, .int mis, .int shus, .int buss, .ref 5, .ref 6, .ref 7, .ref 8, .ref 9, .ref 10, .ref 11, .ref 12, .ref 13, .ref 14, .ref 15, .int lkss, .ref 16, .ref 17, .ref 20])), (14, .inr (.inl (0, cms))), (15, .inr (.inl (0, lfs))), (16, .inr (.inl (0, lkds))), (131, .inl (7, [.ref lys, .int mis, .int shus, .int buss, .ref 132, .ref 133, .ref 134, .ref 135, .ref 136, .ref 137, .ref 138, .ref 139, .ref 140, .ref 141, .ref 142, .int lkss, .ref 143, .ref 144, .ref 147])), (141, .inr (.inl (0, (aC (nI cm.length) cms cm)))), (142, .inr (.inl (0, (aC (nI lf.length) lfs lf)))), (143, .inr (.inl (0, (aC (nI lkd.length) lkds lkd))))] h0 → j_V jP d 61 222 lv [] h Q) : j_V jP d 61 168 lv [] h Q := by
  refine j_V.ldL yr4s_M yr4s_168 rfl (i := 1) (kd := 2) (v := .ref 4) (pcJ := 169) rfl L rfl rfl rfl ?_
  refine j_V.getK yr4s_M yr4s_169 (ci := 7) (j := 13) rfl K rfl rfl ?_
  refine j_V.one yr4s_M yr4s_172 (by decide) (pcJ := 173) (stJ := [.int 0, .ref 14]) rfl ?_
  refine j_V.ldL yr4s_M yr4s_173 rfl (i := 0) (kd := 2) (v := .ref 131) (pcJ := 174) rfl L rfl rfl rfl ?_
  refine j_V.getK yr4s_M yr4s_174 (ci := 7) (j := 13) rfl K rfl rfl ?_
  refine j_V.one yr4s_M yr4s_177 (by decide) (pcJ := 178) (stJ := [.int 0, .ref 141, .int 0, .ref 14]) rfl ?_
  refine j_V.ldL yr4s_M yr4s_178 rfl (i := 0) (kd := 2) (v := .ref 131) (pcJ := 179) rfl L rfl rfl rfl ?_
  refine j_V.getK yr4s_M yr4s_179 (ci := 7) (j := 13) rfl K rfl rfl ?_
  refine j_V.alnA yr4s_M yr4s_182 K rfl ?_
  refine j_V.acp yr4s_M yr4s_183 rfl rfl K rfl rfl rfl (fun h K => ?_)
  refine j_V.ldL yr4s_M yr4s_186 rfl (i := 1) (kd := 2) (v := .ref 4) (pcJ := 187) rfl L rfl rfl rfl ?_
  refine j_V.getK yr4s_M yr4s_187 (ci := 7) (j := 14) rfl K rfl rfl ?_
  refine j_V.one yr4s_M yr4s_190 (by decide) (pcJ := 191) (stJ := [.int 0, .ref 15]) rfl ?_
  refine j_V.ldL yr4s_M yr4s_191 rfl (i := 0) (kd := 2) (v := .ref 131) (pcJ := 192) rfl L rfl rfl rfl ?_
  refine j_V.getK yr4s_M yr4s_192 (ci := 7) (j := 14) rfl K rfl rfl ?_
  refine j_V.one yr4s_M yr4s_195 (by decide) (pcJ := 196) (stJ := [.int 0, .ref 142, .int 0, .ref 15]) rfl ?_
  refine j_V.ldL yr4s_M yr4s_196 rfl (i := 0) (kd := 2) (v := .ref 131) (pcJ := 197) rfl L rfl rfl rfl ?_
  refine j_V.getK yr4s_M yr4s_197 (ci := 7) (j := 14) rfl K rfl rfl ?_
  refine j_V.alnA yr4s_M yr4s_200 K rfl ?_
  refine j_V.acp yr4s_M yr4s_201 rfl rfl K rfl rfl rfl (fun h K => ?_)
  refine j_V.ldL yr4s_M yr4s_204 rfl (i := 1) (kd := 2) (v := .ref 4) (pcJ := 205) rfl L rfl rfl rfl ?_
  refine j_V.getK yr4s_M yr4s_205 (ci := 7) (j := 16) rfl K rfl rfl ?_
  refine j_V.one yr4s_M yr4s_208 (by decide) (pcJ := 209) (stJ := [.int 0, .ref 16]) rfl ?_
  refine j_V.ldL yr4s_M yr4s_209 rfl (i := 0) (kd := 2) (v := .ref 131) (pcJ := 210) rfl L rfl rfl rfl ?_
  refine j_V.getK yr4s_M yr4s_210 (ci := 7) (j := 16) rfl K rfl rfl ?_
  refine j_V.one yr4s_M yr4s_213 (by decide) (pcJ := 214) (stJ := [.int 0, .ref 143, .int 0, .ref 16]) rfl ?_
  refine j_V.ldL yr4s_M yr4s_214 rfl (i := 0) (kd := 2) (v := .ref 131) (pcJ := 215) rfl L rfl rfl rfl ?_
  refine j_V.getK yr4s_M yr4s_215 (ci := 7) (j := 16) rfl K rfl rfl ?_
  refine j_V.alnA yr4s_M yr4s_218 K rfl ?_
  refine j_V.acp yr4s_M yr4s_219 rfl rfl K rfl rfl rfl (fun h K => ?_)
  exact kk _ _ L K
set_option maxRecDepth 1000000 in
theorem yr4s_ok {ly : Value} {mi : Int32} {shu : Int32} {bus : Int32} {lks : Int32} {rk : List Int32} {sta : List Int32} {ph : List Int32} {sp : List Int32} {ce : List Int32} {du : List Int32} {he : List Int32} {ri : List Int32} {us : List Int32} {cm : List Int32} {lf : List Int32} {lkd : List Int32} {pev : Int32} {pms : List Int32} {pmm : List Int32} {pmt : List Int32} {pst : List Int32} {pwa : List Int32} {prs : List Int32} {prr : List Int32} {pfa : List Int32} {lys : Nat} {mis : Int32} {shus : Int32} {buss : Int32} {lkss : Int32} {rks : List Int32} {stas : List Int32} {phs : List Int32} {sps : List Int32} {ces : List Int32} {dus : List Int32} {hes : List Int32} {ris : List Int32} {uss : List Int32} {cms : List Int32} {lfs : List Int32} {lkds : List Int32} {pevs : Int32} {pmss : List Int32} {pmms : List Int32} {pmts : List Int32} {psts : List Int32} {pwas : List Int32} {prss : List Int32} {prrs : List Int32} {pfas : List Int32} {d : Nat} {h h0 : J_H} (K : KN h [(4, .inl (7, [.ref lys, .int mis, .int shus, .int buss, .ref 5, .ref 6, .ref 7, .ref 8, .ref 9, .ref 10, .ref 11, .ref 12, .ref 13, .ref 14, .ref 15, .int lkss, .ref 16, .ref 17, .ref 20])), (5, .inr (.inl (0, rks))), (6, .inr (.inl (0, stas))), (7, .inr (.inl (0, phs))), (8, .inr (.inl (0, sps))), (9, .inr (.inl (0, ces))), (10, .inr (.inl (0, dus))), (11, .inr (.inl (0, hes))), (12, .inr (.inl (0, ris))), (13, .inr (.inl (0, uss))), (14, .inr (.inl (0, cms))), (15, .inr (.inl (0, lfs))), (16, .inr (.inl (0, lkds))), (20, .inl (3, [.ref 21, .ref 22, .ref 23, .ref 24, .ref 25, .ref 26, .ref 27, .ref 28, .int pevs, .int 1])), (21, .inr (.inl (0, pmss))), (22, .inr (.inl (0, pmms))), (23, .inr (.inl (0, pmts))), (24, .inr (.inl (0, psts))), (25, .inr (.inl (0, pwas))), (26, .inr (.inl (0, prss))), (27, .inr (.inl (0, prrs))), (28, .inr (.inl (0, pfas))), (131, .inl (7, [ly, .int mi, .int shu, .int bus, .ref 132, .ref 133, .ref 134, .ref 135, .ref 136, .ref 137, .ref 138, .ref 139, .ref 140, .ref 141, .ref 142, .int lks, .ref 143, .ref 144, .ref 147])), (132, .inr (.inl (0, rk))), (133, .inr (.inl (0, sta))), (134, .inr (.inl (0, ph))), (135, .inr (.inl (0, sp))), (136, .inr (.inl (0, ce))), (137, .inr (.inl (0, du))), (138, .inr (.inl (0, he))), (139, .inr (.inl (0, ri))), (140, .inr (.inl (0, us))), (141, .inr (.inl (0, cm))), (142, .inr (.inl (0, lf))), (143, .inr (.inl (0, lkd))), (147, .inl (3, [.ref 148, .ref 149, .ref 150, .ref 151, .ref 152, .ref 153, .ref 154, .ref 155, .int pev, .int 1])), (148, .inr (.inl (0, pms))), (149, .inr (.inl (0, pmm))), (150, .inr (.inl (0, pmt))), (151, .inr (.inl (0, pst))), (152, .inr (.inl (0, pwa))), (153, .inr (.inl (0, prs))), (154, .inr (.inl (0, prr))), (155, .inr (.inl (0, pfa)))] h0) : j_V jP d 61 0 (lv_args 0 [.ref 131, .ref 4]) [] h (fun rv h' => rv = none ∧ KN h' [(4, .inl (7, [.ref lys, .int mis, .int shus, .int buss, .ref 5, .ref 6, .ref 7, .ref 8, .ref 9, .ref 10, .ref 11, .ref 12, .ref 13, .ref 14, .ref 15, .int lkss, .ref 16, .ref 17, .ref 20])), (5, .inr (.inl (0, rks))), (6, .inr (.inl (0, stas))), (7, .inr (.inl (0, phs))), (8, .inr (.inl (0, sps))), (9, .inr (.inl (0, ces))), (10, .inr (.inl (0, dus))), (11, .inr (.inl (0, hes))), (12, .inr (.inl (0, ris))), (13, .inr (.inl (0, uss))), (14, .inr (.inl (0, cms))), (15, .inr (.inl (0, lfs))), (16, .inr (.inl (0, lkds))), (20, .inl (3, [.ref 21, .ref 22, .ref 23, .ref 24, .ref 25, .ref 26, .ref 27, .ref 28, .int pevs, .int 1])), (21, .inr (.inl (0, pmss))), (22, .inr (.inl (0, pmms))), (23, .inr (.inl (0, pmts))), (24, .inr (.inl (0, psts))), (25, .inr (.inl (0, pwas))), (26, .inr (.inl (0, prss))), (27, .inr (.inl (0, prrs))), (28, .inr (.inl (0, pfas))), (131, .inl (7, [.ref lys, .int mis, .int shus, .int buss, .ref 132, .ref 133, .ref 134, .ref 135, .ref 136, .ref 137, .ref 138, .ref 139, .ref 140, .ref 141, .ref 142, .int lkss, .ref 143, .ref 144, .ref 147])), (132, .inr (.inl (0, (aC 5 rks rk)))), (133, .inr (.inl (0, (aC 5 stas sta)))), (134, .inr (.inl (0, (aC 5 phs ph)))), (135, .inr (.inl (0, (aC 5 sps sp)))), (136, .inr (.inl (0, (aC 5 ces ce)))), (137, .inr (.inl (0, (aC 5 dus du)))), (138, .inr (.inl (0, (aC 5 hes he)))), (139, .inr (.inl (0, (aC 6 ris ri)))), (140, .inr (.inl (0, (aC 6 uss us)))), (141, .inr (.inl (0, (aC (nI cm.length) cms cm)))), (142, .inr (.inl (0, (aC (nI lf.length) lfs lf)))), (143, .inr (.inl (0, (aC (nI lkd.length) lkds lkd)))), (147, .inl (3, [.ref 148, .ref 149, .ref 150, .ref 151, .ref 152, .ref 153, .ref 154, .ref 155, .int pevs, .int 1])), (148, .inr (.inl (0, (aC (nI pms.length) pmss pms)))), (149, .inr (.inl (0, (aC (nI pmm.length) pmms pmm)))), (150, .inr (.inl (0, (aC (nI pmt.length) pmts pmt)))), (151, .inr (.inl (0, (aC (nI pst.length) psts pst)))), (152, .inr (.inl (0, (aC (nI pwa.length) pwas pwa)))), (153, .inr (.inl (0, (aC (nI prs.length) prss prs)))), (154, .inr (.inl (0, (aC (nI prr.length) prrs prr)))), (155, .inr (.inl (0, (aC (nI pfa.length) pfas pfa))))] h0) := by
  show j_V jP d 61 0 [(0, .ref 131), (1, .ref 4)] [] h _
  obtain ⟨lv, elv, L⟩ : ∃ lv, lv = [(0, .ref 131), (1, .ref 4)] ∧ LK lv [(0, .ref 131), (1, .ref 4)] := ⟨_, rfl, LK.rf⟩
  rw [← elv]
  clear elv
  refine yr4s_k0 L (K.fi [4, 131] rfl rfl) (fun lv h9 L K9 => ?_)
  have K : KN h9 [(4, .inl (7, [.ref lys, .int mis, .int shus, .int buss, .ref 5, .ref 6, .ref 7, .ref 8, .ref 9, .ref 10, .ref 11, .ref 12, .ref 13, .ref 14, .ref 15, .int lkss, .ref 16, .ref 17, .ref 20])), (5, .inr (.inl (0, rks))), (6, .inr (.inl (0, stas))), (7, .inr (.inl (0, phs))), (8, .inr (.inl (0, sps))), (9, .inr (.inl (0, ces))), (10, .inr (.inl (0, dus))), (11, .inr (.inl (0, hes))), (12, .inr (.inl (0, ris))), (13, .inr (.inl (0, uss))), (14, .inr (.inl (0, cms))), (15, .inr (.inl (0, lfs))), (16, .inr (.inl (0, lkds))), (20, .inl (3, [.ref 21, .ref 22, .ref 23, .ref 24, .ref 25, .ref 26, .ref 27, .ref 28, .int pevs, .int 1])), (21, .inr (.inl (0, pmss))), (22, .inr (.inl (0, pmms))), (23, .inr (.inl (0, pmts))), (24, .inr (.inl (0, psts))), (25, .inr (.inl (0, pwas))), (26, .inr (.inl (0, prss))), (27, .inr (.inl (0, prrs))), (28, .inr (.inl (0, pfas))), (131, .inl (7, [.ref lys, .int mis, .int shus, .int buss, .ref 132, .ref 133, .ref 134, .ref 135, .ref 136, .ref 137, .ref 138, .ref 139, .ref 140, .ref 141, .ref 142, .int lkss, .ref 143, .ref 144, .ref 147])), (132, .inr (.inl (0, rk))), (133, .inr (.inl (0, sta))), (134, .inr (.inl (0, ph))), (135, .inr (.inl (0, sp))), (136, .inr (.inl (0, ce))), (137, .inr (.inl (0, du))), (138, .inr (.inl (0, he))), (139, .inr (.inl (0, ri))), (140, .inr (.inl (0, us))), (141, .inr (.inl (0, cm))), (142, .inr (.inl (0, lf))), (143, .inr (.inl (0, lkd))), (147, .inl (3, [.ref 148, .ref 149, .ref 150, .ref 151, .ref 152, .ref 153, .ref 154, .ref 155, .int pev, .int 1])), (148, .inr (.inl (0, pms))), (149, .inr (.inl (0, pmm))), (150, .inr (.inl (0, pmt))), (151, .inr (.inl (0, pst))), (152, .inr (.inl (0, pwa))), (153, .inr (.inl (0, prs))), (154, .inr (.inl (0, prr))), (155, .inr (.inl (0, pfa)))] h0 := K.mg K9 rfl rfl
  clear K9
  refine yr4s_k40 L (K.fi [4, 5, 6, 7, 131, 132, 133, 134] rfl rfl) (fun lv h9 L K9 => ?_)
  have K : KN h9 [(4, .inl (7, [.ref lys, .int mis, .int shus, .int buss, .ref 5, .ref 6, .ref 7, .ref 8, .ref 9, .ref 10, .ref 11, .ref 12, .ref 13, .ref 14, .ref 15, .int lkss, .ref 16, .ref 17, .ref 20])), (5, .inr (.inl (0, rks))), (6, .inr (.inl (0, stas))), (7, .inr (.inl (0, phs))), (8, .inr (.inl (0, sps))), (9, .inr (.inl (0, ces))), (10, .inr (.inl (0, dus))), (11, .inr (.inl (0, hes))), (12, .inr (.inl (0, ris))), (13, .inr (.inl (0, uss))), (14, .inr (.inl (0, cms))), (15, .inr (.inl (0, lfs))), (16, .inr (.inl (0, lkds))), (20, .inl (3, [.ref 21, .ref 22, .ref 23, .ref 24, .ref 25, .ref 26, .ref 27, .ref 28, .int pevs, .int 1])), (21, .inr (.inl (0, pmss))), (22, .inr (.inl (0, pmms))), (23, .inr (.inl (0, pmts))), (24, .inr (.inl (0, psts))), (25, .inr (.inl (0, pwas))), (26, .inr (.inl (0, prss))), (27, .inr (.inl (0, prrs))), (28, .inr (.inl (0, pfas))), (131, .inl (7, [.ref lys, .int mis, .int shus, .int buss, .ref 132, .ref 133, .ref 134, .ref 135, .ref 136, .ref 137, .ref 138, .ref 139, .ref 140, .ref 141, .ref 142, .int lkss, .ref 143, .ref 144, .ref 147])), (132, .inr (.inl (0, (aC 5 rks rk)))), (133, .inr (.inl (0, (aC 5 stas sta)))), (134, .inr (.inl (0, (aC 5 phs ph)))), (135, .inr (.inl (0, sp))), (136, .inr (.inl (0, ce))), (137, .inr (.inl (0, du))), (138, .inr (.inl (0, he))), (139, .inr (.inl (0, ri))), (140, .inr (.inl (0, us))), (141, .inr (.inl (0, cm))), (142, .inr (.inl (0, lf))), (143, .inr (.inl (0, lkd))), (147, .inl (3, [.ref 148, .ref 149, .ref 150, .ref 151, .ref 152, .ref 153, .ref 154, .ref 155, .int pev, .int 1])), (148, .inr (.inl (0, pms))), (149, .inr (.inl (0, pmm))), (150, .inr (.inl (0, pmt))), (151, .inr (.inl (0, pst))), (152, .inr (.inl (0, pwa))), (153, .inr (.inl (0, prs))), (154, .inr (.inl (0, prr))), (155, .inr (.inl (0, pfa)))] h0 := K.mg K9 rfl rfl
  clear K9
  refine yr4s_k82 L (K.fi [4, 8, 9, 10, 131, 135, 136, 137] rfl rfl) (fun lv h9 L K9 => ?_)
  have K : KN h9 [(4, .inl (7, [.ref lys, .int mis, .int shus, .int buss, .ref 5, .ref 6, .ref 7, .ref 8, .ref 9, .ref 10, .ref 11, .ref 12, .ref 13, .ref 14, .ref 15, .int lkss, .ref 16, .ref 17, .ref 20])), (5, .inr (.inl (0, rks))), (6, .inr (.inl (0, stas))), (7, .inr (.inl (0, phs))), (8, .inr (.inl (0, sps))), (9, .inr (.inl (0, ces))), (10, .inr (.inl (0, dus))), (11, .inr (.inl (0, hes))), (12, .inr (.inl (0, ris))), (13, .inr (.inl (0, uss))), (14, .inr (.inl (0, cms))), (15, .inr (.inl (0, lfs))), (16, .inr (.inl (0, lkds))), (20, .inl (3, [.ref 21, .ref 22, .ref 23, .ref 24, .ref 25, .ref 26, .ref 27, .ref 28, .int pevs, .int 1])), (21, .inr (.inl (0, pmss))), (22, .inr (.inl (0, pmms))), (23, .inr (.inl (0, pmts))), (24, .inr (.inl (0, psts))), (25, .inr (.inl (0, pwas))), (26, .inr (.inl (0, prss))), (27, .inr (.inl (0, prrs))), (28, .inr (.inl (0, pfas))), (131, .inl (7, [.ref lys, .int mis, .int shus, .int buss, .ref 132, .ref 133, .ref 134, .ref 135, .ref 136, .ref 137, .ref 138, .ref 139, .ref 140, .ref 141, .ref 142, .int lkss, .ref 143, .ref 144, .ref 147])), (132, .inr (.inl (0, (aC 5 rks rk)))), (133, .inr (.inl (0, (aC 5 stas sta)))), (134, .inr (.inl (0, (aC 5 phs ph)))), (135, .inr (.inl (0, (aC 5 sps sp)))), (136, .inr (.inl (0, (aC 5 ces ce)))), (137, .inr (.inl (0, (aC 5 dus du)))), (138, .inr (.inl (0, he))), (139, .inr (.inl (0, ri))), (140, .inr (.inl (0, us))), (141, .inr (.inl (0, cm))), (142, .inr (.inl (0, lf))), (143, .inr (.inl (0, lkd))), (147, .inl (3, [.ref 148, .ref 149, .ref 150, .ref 151, .ref 152, .ref 153, .ref 154, .ref 155, .int pev, .int 1])), (148, .inr (.inl (0, pms))), (149, .inr (.inl (0, pmm))), (150, .inr (.inl (0, pmt))), (151, .inr (.inl (0, pst))), (152, .inr (.inl (0, pwa))), (153, .inr (.inl (0, prs))), (154, .inr (.inl (0, prr))), (155, .inr (.inl (0, pfa)))] h0 := K.mg K9 rfl rfl
  clear K9
  refine yr4s_k124 L (K.fi [4, 11, 12, 13, 131, 138, 139, 140] rfl rfl) (fun lv h9 L K9 => ?_)
  have K : KN h9 [(4, .inl (7, [.ref lys, .int mis, .int shus, .int buss, .ref 5, .ref 6, .ref 7, .ref 8, .ref 9, .ref 10, .ref 11, .ref 12, .ref 13, .ref 14, .ref 15, .int lkss, .ref 16, .ref 17, .ref 20])), (5, .inr (.inl (0, rks))), (6, .inr (.inl (0, stas))), (7, .inr (.inl (0, phs))), (8, .inr (.inl (0, sps))), (9, .inr (.inl (0, ces))), (10, .inr (.inl (0, dus))), (11, .inr (.inl (0, hes))), (12, .inr (.inl (0, ris))), (13, .inr (.inl (0, uss))), (14, .inr (.inl (0, cms))), (15, .inr (.inl (0, lfs))), (16, .inr (.inl (0, lkds))), (20, .inl (3, [.ref 21, .ref 22, .ref 23, .ref 24, .ref 25, .ref 26, .ref 27, .ref 28, .int pevs, .int 1])), (21, .inr (.inl (0, pmss))), (22, .inr (.inl (0, pmms))), (23, .inr (.inl (0, pmts))), (24, .inr (.inl (0, psts))), (25, .inr (.inl (0, pwas))), (26, .inr (.inl (0, prss))), (27, .inr (.inl (0, prrs))), (28, .inr (.inl (0, pfas))), (131, .inl (7, [.ref lys, .int mis, .int shus, .int buss, .ref 132, .ref 133, .ref 134, .ref 135, .ref 136, .ref 137, .ref 138, .ref 139, .ref 140, .ref 141, .ref 142, .int lkss, .ref 143, .ref 144, .ref 147])), (132, .inr (.inl (0, (aC 5 rks rk)))), (133, .inr (.inl (0, (aC 5 stas sta)))), (134, .inr (.inl (0, (aC 5 phs ph)))), (135, .inr (.inl (0, (aC 5 sps sp)))), (136, .inr (.inl (0, (aC 5 ces ce)))), (137, .inr (.inl (0, (aC 5 dus du)))), (138, .inr (.inl (0, (aC 5 hes he)))), (139, .inr (.inl (0, (aC 6 ris ri)))), (140, .inr (.inl (0, (aC 6 uss us)))), (141, .inr (.inl (0, cm))), (142, .inr (.inl (0, lf))), (143, .inr (.inl (0, lkd))), (147, .inl (3, [.ref 148, .ref 149, .ref 150, .ref 151, .ref 152, .ref 153, .ref 154, .ref 155, .int pev, .int 1])), (148, .inr (.inl (0, pms))), (149, .inr (.inl (0, pmm))), (150, .inr (.inl (0, pmt))), (151, .inr (.inl (0, pst))), (152, .inr (.inl (0, pwa))), (153, .inr (.inl (0, prs))), (154, .inr (.inl (0, prr))), (155, .inr (.inl (0, pfa)))] h0 := K.mg K9 rfl rfl
  clear K9
  refine yr4s_k168 L (K.fi [4, 14, 15, 16, 131, 141, 142, 143] rfl rfl) (fun lv h9 L K9 => ?_)
  have K : KN h9 [(4, .inl (7, [.ref lys, .int mis, .int shus, .int buss, .ref 5, .ref 6, .ref 7, .ref 8, .ref 9, .ref 10, .ref 11, .ref 12, .ref 13, .ref 14, .ref 15, .int lkss, .ref 16, .ref 17, .ref 20])), (5, .inr (.inl (0, rks))), (6, .inr (.inl (0, stas))), (7, .inr (.inl (0, phs))), (8, .inr (.inl (0, sps))), (9, .inr (.inl (0, ces))), (10, .inr (.inl (0, dus))), (11, .inr (.inl (0, hes))), (12, .inr (.inl (0, ris))), (13, .inr (.inl (0, uss))), (14, .inr (.inl (0, cms))), (15, .inr (.inl (0, lfs))), (16, .inr (.inl (0, lkds))), (20, .inl (3, [.ref 21, .ref 22, .ref 23, .ref 24, .ref 25, .ref 26, .ref 27, .ref 28, .int pevs, .int 1])), (21, .inr (.inl (0, pmss))), (22, .inr (.inl (0, pmms))), (23, .inr (.inl (0, pmts))), (24, .inr (.inl (0, psts))), (25, .inr (.inl (0, pwas))), (26, .inr (.inl (0, prss))), (27, .inr (.inl (0, prrs))), (28, .inr (.inl (0, pfas))), (131, .inl (7, [.ref lys, .int mis, .int shus, .int buss, .ref 132, .ref 133, .ref 134, .ref 135, .ref 136, .ref 137, .ref 138, .ref 139, .ref 140, .ref 141, .ref 142, .int lkss, .ref 143, .ref 144, .ref 147])), (132, .inr (.inl (0, (aC 5 rks rk)))), (133, .inr (.inl (0, (aC 5 stas sta)))), (134, .inr (.inl (0, (aC 5 phs ph)))), (135, .inr (.inl (0, (aC 5 sps sp)))), (136, .inr (.inl (0, (aC 5 ces ce)))), (137, .inr (.inl (0, (aC 5 dus du)))), (138, .inr (.inl (0, (aC 5 hes he)))), (139, .inr (.inl (0, (aC 6 ris ri)))), (140, .inr (.inl (0, (aC 6 uss us)))), (141, .inr (.inl (0, (aC (nI cm.length) cms cm)))), (142, .inr (.inl (0, (aC (nI lf.length) lfs lf)))), (143, .inr (.inl (0, (aC (nI lkd.length) lkds lkd)))), (147, .inl (3, [.ref 148, .ref 149, .ref 150, .ref 151, .ref 152, .ref 153, .ref 154, .ref 155, .int pev, .int 1])), (148, .inr (.inl (0, pms))), (149, .inr (.inl (0, pmm))), (150, .inr (.inl (0, pmt))), (151, .inr (.inl (0, pst))), (152, .inr (.inl (0, pwa))), (153, .inr (.inl (0, prs))), (154, .inr (.inl (0, prr))), (155, .inr (.inl (0, pfa)))] h0 := K.mg K9 rfl rfl
  clear K9
  refine j_V.ldL yr4s_M yr4s_222 rfl (i := 0) (kd := 2) (v := .ref 131) (pcJ := 223) rfl L rfl rfl rfl ?_
  refine j_V.getK yr4s_M yr4s_223 (ci := 7) (j := 18) rfl K rfl rfl ?_
  refine j_V.ldL yr4s_M yr4s_226 rfl (i := 1) (kd := 2) (v := .ref 4) (pcJ := 227) rfl L rfl rfl rfl ?_
  refine j_V.getK yr4s_M yr4s_227 (ci := 7) (j := 18) rfl K rfl rfl ?_
  refine j_V.cl yr4s_M yr4s_230 rfl (md := 3) (mj := 28) rfl (by decide) yr4p_M (As := [.ref 147, .ref 20]) (rest := []) (jk_spl3 (K.at rfl) rfl rfl rfl (Nat.le_of_ble_eq_true rfl) (Nat.le_of_ble_eq_true rfl)) (fun d => yr4p_ok (K.fi [20, 21, 22, 23, 24, 25, 26, 27, 28, 147, 148, 149, 150, 151, 152, 153, 154, 155] rfl rfl)) ?_
  rintro r h9 ⟨rfl, K9⟩
  have K : KN h9 [(4, .inl (7, [.ref lys, .int mis, .int shus, .int buss, .ref 5, .ref 6, .ref 7, .ref 8, .ref 9, .ref 10, .ref 11, .ref 12, .ref 13, .ref 14, .ref 15, .int lkss, .ref 16, .ref 17, .ref 20])), (5, .inr (.inl (0, rks))), (6, .inr (.inl (0, stas))), (7, .inr (.inl (0, phs))), (8, .inr (.inl (0, sps))), (9, .inr (.inl (0, ces))), (10, .inr (.inl (0, dus))), (11, .inr (.inl (0, hes))), (12, .inr (.inl (0, ris))), (13, .inr (.inl (0, uss))), (14, .inr (.inl (0, cms))), (15, .inr (.inl (0, lfs))), (16, .inr (.inl (0, lkds))), (20, .inl (3, [.ref 21, .ref 22, .ref 23, .ref 24, .ref 25, .ref 26, .ref 27, .ref 28, .int pevs, .int 1])), (21, .inr (.inl (0, pmss))), (22, .inr (.inl (0, pmms))), (23, .inr (.inl (0, pmts))), (24, .inr (.inl (0, psts))), (25, .inr (.inl (0, pwas))), (26, .inr (.inl (0, prss))), (27, .inr (.inl (0, prrs))), (28, .inr (.inl (0, pfas))), (131, .inl (7, [.ref lys, .int mis, .int shus, .int buss, .ref 132, .ref 133, .ref 134, .ref 135, .ref 136, .ref 137, .ref 138, .ref 139, .ref 140, .ref 141, .ref 142, .int lkss, .ref 143, .ref 144, .ref 147])), (132, .inr (.inl (0, (aC 5 rks rk)))), (133, .inr (.inl (0, (aC 5 stas sta)))), (134, .inr (.inl (0, (aC 5 phs ph)))), (135, .inr (.inl (0, (aC 5 sps sp)))), (136, .inr (.inl (0, (aC 5 ces ce)))), (137, .inr (.inl (0, (aC 5 dus du)))), (138, .inr (.inl (0, (aC 5 hes he)))), (139, .inr (.inl (0, (aC 6 ris ri)))), (140, .inr (.inl (0, (aC 6 uss us)))), (141, .inr (.inl (0, (aC (nI cm.length) cms cm)))), (142, .inr (.inl (0, (aC (nI lf.length) lfs lf)))), (143, .inr (.inl (0, (aC (nI lkd.length) lkds lkd)))), (147, .inl (3, [.ref 148, .ref 149, .ref 150, .ref 151, .ref 152, .ref 153, .ref 154, .ref 155, .int pevs, .int 1])), (148, .inr (.inl (0, (aC (nI pms.length) pmss pms)))), (149, .inr (.inl (0, (aC (nI pmm.length) pmms pmm)))), (150, .inr (.inl (0, (aC (nI pmt.length) pmts pmt)))), (151, .inr (.inl (0, (aC (nI pst.length) psts pst)))), (152, .inr (.inl (0, (aC (nI pwa.length) pwas pwa)))), (153, .inr (.inl (0, (aC (nI prs.length) prss prs)))), (154, .inr (.inl (0, (aC (nI prr.length) prrs prr)))), (155, .inr (.inl (0, (aC (nI pfa.length) pfas pfa))))] h0 := K.mg K9 rfl rfl
  clear K9
  show j_V jP _ 61 233 lv [] h9 _
  exact j_V.ret yr4s_M yr4s_233 rfl rfl ⟨rfl, K⟩
set_option maxRecDepth 100000 in
theorem yr4m_M : j_meth jP 2 = some (yX0_remember, cX0_remember, 2, none, 1, false, 0) := rfl
set_option maxRecDepth 100000 in
theorem yr4m_0 : j_code jP 2 0 = some (.aload_n 0) := rfl
set_option maxRecDepth 100000 in
theorem yr4m_1 : j_code jP 2 1 = some (.getfield 11) := rfl
set_option maxRecDepth 100000 in
theorem yr4m_4 : j_code jP 2 4 = some (.aload_n 0) := rfl
set_option maxRecDepth 100000 in
theorem yr4m_5 : j_code jP 2 5 = some (.getfield 24) := rfl
set_option maxRecDepth 100000 in
theorem yr4m_8 : j_code jP 2 8 = some (.aaload) := rfl
set_option maxRecDepth 100000 in
theorem yr4m_9 : j_code jP 2 9 = some (.aload_n 1) := rfl
set_option maxRecDepth 100000 in
theorem yr4m_10 : j_code jP 2 10 = some (.invokevirtual 27) := rfl
set_option maxRecDepth 100000 in
theorem yr4m_13 : j_code jP 2 13 = some (.aload_n 0) := rfl
set_option maxRecDepth 100000 in
theorem yr4m_14 : j_code jP 2 14 = some (.aload_n 0) := rfl
set_option maxRecDepth 100000 in
theorem yr4m_15 : j_code jP 2 15 = some (.getfield 24) := rfl
set_option maxRecDepth 100000 in
theorem yr4m_18 : j_code jP 2 18 = some (.iconst 1) := rfl
set_option maxRecDepth 100000 in
theorem yr4m_19 : j_code jP 2 19 = some (.iadd) := rfl
set_option maxRecDepth 100000 in
theorem yr4m_20 : j_code jP 2 20 = some (.bipush 10) := rfl
set_option maxRecDepth 100000 in
theorem yr4m_22 : j_code jP 2 22 = some (.irem) := rfl
set_option maxRecDepth 100000 in
theorem yr4m_23 : j_code jP 2 23 = some (.putfield 24) := rfl
set_option maxRecDepth 100000 in
theorem yr4m_26 : j_code jP 2 26 = some (.aload_n 0) := rfl
set_option maxRecDepth 100000 in
theorem yr4m_27 : j_code jP 2 27 = some (.aload_n 0) := rfl
set_option maxRecDepth 100000 in
theorem yr4m_28 : j_code jP 2 28 = some (.getfield 20) := rfl
set_option maxRecDepth 100000 in
theorem yr4m_31 : j_code jP 2 31 = some (.iconst 1) := rfl
set_option maxRecDepth 100000 in
theorem yr4m_32 : j_code jP 2 32 = some (.iadd) := rfl
set_option maxRecDepth 100000 in
theorem yr4m_33 : j_code jP 2 33 = some (.bipush 10) := rfl
set_option maxRecDepth 100000 in
theorem yr4m_35 : j_code jP 2 35 = some (.invokestatic 31) := rfl
set_option maxRecDepth 100000 in
theorem yr4m_38 : j_code jP 2 38 = some (.putfield 20) := rfl
set_option maxRecDepth 100000 in
theorem yr4m_41 : j_code jP 2 41 = some (.return_) := rfl
set_option maxRecDepth 1000000 in
theorem yr4m_ok {ly : Value} {mi : Int32} {shu : Int32} {bus : Int32} {lks : Int32} {rk : List Int32} {sta : List Int32} {ph : List Int32} {sp : List Int32} {ce : List Int32} {du : List Int32} {he : List Int32} {ri : List Int32} {us : List Int32} {cm : List Int32} {lf : List Int32} {lkd : List Int32} {pev : Int32} {pms : List Int32} {pmm : List Int32} {pmt : List Int32} {pst : List Int32} {pwa : List Int32} {prs : List Int32} {prr : List Int32} {pfa : List Int32} {lys : Nat} {mis : Int32} {shus : Int32} {buss : Int32} {lkss : Int32} {rks : List Int32} {stas : List Int32} {phs : List Int32} {sps : List Int32} {ces : List Int32} {dus : List Int32} {hes : List Int32} {ris : List Int32} {uss : List Int32} {cms : List Int32} {lfs : List Int32} {lkds : List Int32} {pevs : Int32} {pmss : List Int32} {pmms : List Int32} {pmts : List Int32} {psts : List Int32} {pwas : List Int32} {prss : List Int32} {prrs : List Int32} {pfas : List Int32} {acco : Int32} {d : Nat} {h h0 : J_H} (K : KN h [(4, .inl (7, [.ref lys, .int mis, .int shus, .int buss, .ref 5, .ref 6, .ref 7, .ref 8, .ref 9, .ref 10, .ref 11, .ref 12, .ref 13, .ref 14, .ref 15, .int lkss, .ref 16, .ref 17, .ref 20])), (5, .inr (.inl (0, rks))), (6, .inr (.inl (0, stas))), (7, .inr (.inl (0, phs))), (8, .inr (.inl (0, sps))), (9, .inr (.inl (0, ces))), (10, .inr (.inl (0, dus))), (11, .inr (.inl (0, hes))), (12, .inr (.inl (0, ris))), (13, .inr (.inl (0, uss))), (14, .inr (.inl (0, cms))), (15, .inr (.inl (0, lfs))), (16, .inr (.inl (0, lkds))), (20, .inl (3, [.ref 21, .ref 22, .ref 23, .ref 24, .ref 25, .ref 26, .ref 27, .ref 28, .int pevs, .int 1])), (21, .inr (.inl (0, pmss))), (22, .inr (.inl (0, pmms))), (23, .inr (.inl (0, pmts))), (24, .inr (.inl (0, psts))), (25, .inr (.inl (0, pwas))), (26, .inr (.inl (0, prss))), (27, .inr (.inl (0, prrs))), (28, .inr (.inl (0, pfas))), (29, .inl (0, [.ref 30, .int 4, .int acco])), (30, .inr (.inr (.inr [some 31, some 56, some 81, some 106, some 131, some 156, some 181, some 206, some 231, some 256]))), (131, .inl (7, [ly, .int mi, .int shu, .int bus, .ref 132, .ref 133, .ref 134, .ref 135, .ref 136, .ref 137, .ref 138, .ref 139, .ref 140, .ref 141, .ref 142, .int lks, .ref 143, .ref 144, .ref 147])), (132, .inr (.inl (0, rk))), (133, .inr (.inl (0, sta))), (134, .inr (.inl (0, ph))), (135, .inr (.inl (0, sp))), (136, .inr (.inl (0, ce))), (137, .inr (.inl (0, du))), (138, .inr (.inl (0, he))), (139, .inr (.inl (0, ri))), (140, .inr (.inl (0, us))), (141, .inr (.inl (0, cm))), (142, .inr (.inl (0, lf))), (143, .inr (.inl (0, lkd))), (147, .inl (3, [.ref 148, .ref 149, .ref 150, .ref 151, .ref 152, .ref 153, .ref 154, .ref 155, .int pev, .int 1])), (148, .inr (.inl (0, pms))), (149, .inr (.inl (0, pmm))), (150, .inr (.inl (0, pmt))), (151, .inr (.inl (0, pst))), (152, .inr (.inl (0, pwa))), (153, .inr (.inl (0, prs))), (154, .inr (.inl (0, prr))), (155, .inr (.inl (0, pfa)))] h0) : j_V jP d 2 0 (lv_args 0 [.ref 29, .ref 4]) [] h (fun rv h' => rv = none ∧ KN h' [(4, .inl (7, [.ref lys, .int mis, .int shus, .int buss, .ref 5, .ref 6, .ref 7, .ref 8, .ref 9, .ref 10, .ref 11, .ref 12, .ref 13, .ref 14, .ref 15, .int lkss, .ref 16, .ref 17, .ref 20])), (5, .inr (.inl (0, rks))), (6, .inr (.inl (0, stas))), (7, .inr (.inl (0, phs))), (8, .inr (.inl (0, sps))), (9, .inr (.inl (0, ces))), (10, .inr (.inl (0, dus))), (11, .inr (.inl (0, hes))), (12, .inr (.inl (0, ris))), (13, .inr (.inl (0, uss))), (14, .inr (.inl (0, cms))), (15, .inr (.inl (0, lfs))), (16, .inr (.inl (0, lkds))), (20, .inl (3, [.ref 21, .ref 22, .ref 23, .ref 24, .ref 25, .ref 26, .ref 27, .ref 28, .int pevs, .int 1])), (21, .inr (.inl (0, pmss))), (22, .inr (.inl (0, pmms))), (23, .inr (.inl (0, pmts))), (24, .inr (.inl (0, psts))), (25, .inr (.inl (0, pwas))), (26, .inr (.inl (0, prss))), (27, .inr (.inl (0, prrs))), (28, .inr (.inl (0, pfas))), (29, .inl (0, [.ref 30, .int 5, .int (iMn (acco + 1) 10)])), (30, .inr (.inr (.inr [some 31, some 56, some 81, some 106, some 131, some 156, some 181, some 206, some 231, some 256]))), (131, .inl (7, [.ref lys, .int mis, .int shus, .int buss, .ref 132, .ref 133, .ref 134, .ref 135, .ref 136, .ref 137, .ref 138, .ref 139, .ref 140, .ref 141, .ref 142, .int lkss, .ref 143, .ref 144, .ref 147])), (132, .inr (.inl (0, (aC 5 rks rk)))), (133, .inr (.inl (0, (aC 5 stas sta)))), (134, .inr (.inl (0, (aC 5 phs ph)))), (135, .inr (.inl (0, (aC 5 sps sp)))), (136, .inr (.inl (0, (aC 5 ces ce)))), (137, .inr (.inl (0, (aC 5 dus du)))), (138, .inr (.inl (0, (aC 5 hes he)))), (139, .inr (.inl (0, (aC 6 ris ri)))), (140, .inr (.inl (0, (aC 6 uss us)))), (141, .inr (.inl (0, (aC (nI cm.length) cms cm)))), (142, .inr (.inl (0, (aC (nI lf.length) lfs lf)))), (143, .inr (.inl (0, (aC (nI lkd.length) lkds lkd)))), (147, .inl (3, [.ref 148, .ref 149, .ref 150, .ref 151, .ref 152, .ref 153, .ref 154, .ref 155, .int pevs, .int 1])), (148, .inr (.inl (0, (aC (nI pms.length) pmss pms)))), (149, .inr (.inl (0, (aC (nI pmm.length) pmms pmm)))), (150, .inr (.inl (0, (aC (nI pmt.length) pmts pmt)))), (151, .inr (.inl (0, (aC (nI pst.length) psts pst)))), (152, .inr (.inl (0, (aC (nI pwa.length) pwas pwa)))), (153, .inr (.inl (0, (aC (nI prs.length) prss prs)))), (154, .inr (.inl (0, (aC (nI prr.length) prrs prr)))), (155, .inr (.inl (0, (aC (nI pfa.length) pfas pfa))))] h0) := by
  show j_V jP d 2 0 [(0, .ref 29), (1, .ref 4)] [] h _
  obtain ⟨lv, elv, L⟩ : ∃ lv, lv = [(0, .ref 29), (1, .ref 4)] ∧ LK lv [(0, .ref 29), (1, .ref 4)] := ⟨_, rfl, LK.rf⟩
  rw [← elv]
  clear elv
  refine j_V.ldL yr4m_M yr4m_0 rfl (i := 0) (kd := 2) (v := .ref 29) (pcJ := 1) rfl L rfl rfl rfl ?_
  refine j_V.getK yr4m_M yr4m_1 (ci := 0) (j := 0) rfl K rfl rfl ?_
  refine j_V.ldL yr4m_M yr4m_4 rfl (i := 0) (kd := 2) (v := .ref 29) (pcJ := 5) rfl L rfl rfl rfl ?_
  refine j_V.getK yr4m_M yr4m_5 (ci := 0) (j := 1) rfl K rfl rfl ?_
  refine j_V.aaA yr4m_M yr4m_8 K rfl (i := 4) (v := 131) rfl rfl ?_
  refine j_V.ldL yr4m_M yr4m_9 rfl (i := 1) (kd := 2) (v := .ref 4) (pcJ := 10) rfl L rfl rfl rfl ?_
  refine j_V.cl yr4m_M yr4m_10 rfl (md := 3) (mj := 61) rfl (by decide) yr4s_M (As := [.ref 131, .ref 4]) (rest := []) (jk_spl3 (K.at rfl) rfl rfl rfl (Nat.le_of_ble_eq_true rfl) (Nat.le_of_ble_eq_true rfl)) (fun d => yr4s_ok (K.fi [4, 5, 6, 7, 8, 9, 10, 11, 12, 13, 14, 15, 16, 20, 21, 22, 23, 24, 25, 26, 27, 28, 131, 132, 133, 134, 135, 136, 137, 138, 139, 140, 141, 142, 143, 147, 148, 149, 150, 151, 152, 153, 154, 155] rfl rfl)) ?_
  rintro r h9 ⟨rfl, K9⟩
  have K : KN h9 [(4, .inl (7, [.ref lys, .int mis, .int shus, .int buss, .ref 5, .ref 6, .ref 7, .ref 8, .ref 9, .ref 10, .ref 11, .ref 12, .ref 13, .ref 14, .ref 15, .int lkss, .ref 16, .ref 17, .ref 20])), (5, .inr (.inl (0, rks))), (6, .inr (.inl (0, stas))), (7, .inr (.inl (0, phs))), (8, .inr (.inl (0, sps))), (9, .inr (.inl (0, ces))), (10, .inr (.inl (0, dus))), (11, .inr (.inl (0, hes))), (12, .inr (.inl (0, ris))), (13, .inr (.inl (0, uss))), (14, .inr (.inl (0, cms))), (15, .inr (.inl (0, lfs))), (16, .inr (.inl (0, lkds))), (20, .inl (3, [.ref 21, .ref 22, .ref 23, .ref 24, .ref 25, .ref 26, .ref 27, .ref 28, .int pevs, .int 1])), (21, .inr (.inl (0, pmss))), (22, .inr (.inl (0, pmms))), (23, .inr (.inl (0, pmts))), (24, .inr (.inl (0, psts))), (25, .inr (.inl (0, pwas))), (26, .inr (.inl (0, prss))), (27, .inr (.inl (0, prrs))), (28, .inr (.inl (0, pfas))), (29, .inl (0, [.ref 30, .int 4, .int acco])), (30, .inr (.inr (.inr [some 31, some 56, some 81, some 106, some 131, some 156, some 181, some 206, some 231, some 256]))), (131, .inl (7, [.ref lys, .int mis, .int shus, .int buss, .ref 132, .ref 133, .ref 134, .ref 135, .ref 136, .ref 137, .ref 138, .ref 139, .ref 140, .ref 141, .ref 142, .int lkss, .ref 143, .ref 144, .ref 147])), (132, .inr (.inl (0, (aC 5 rks rk)))), (133, .inr (.inl (0, (aC 5 stas sta)))), (134, .inr (.inl (0, (aC 5 phs ph)))), (135, .inr (.inl (0, (aC 5 sps sp)))), (136, .inr (.inl (0, (aC 5 ces ce)))), (137, .inr (.inl (0, (aC 5 dus du)))), (138, .inr (.inl (0, (aC 5 hes he)))), (139, .inr (.inl (0, (aC 6 ris ri)))), (140, .inr (.inl (0, (aC 6 uss us)))), (141, .inr (.inl (0, (aC (nI cm.length) cms cm)))), (142, .inr (.inl (0, (aC (nI lf.length) lfs lf)))), (143, .inr (.inl (0, (aC (nI lkd.length) lkds lkd)))), (147, .inl (3, [.ref 148, .ref 149, .ref 150, .ref 151, .ref 152, .ref 153, .ref 154, .ref 155, .int pevs, .int 1])), (148, .inr (.inl (0, (aC (nI pms.length) pmss pms)))), (149, .inr (.inl (0, (aC (nI pmm.length) pmms pmm)))), (150, .inr (.inl (0, (aC (nI pmt.length) pmts pmt)))), (151, .inr (.inl (0, (aC (nI pst.length) psts pst)))), (152, .inr (.inl (0, (aC (nI pwa.length) pwas pwa)))), (153, .inr (.inl (0, (aC (nI prs.length) prss prs)))), (154, .inr (.inl (0, (aC (nI prr.length) prrs prr)))), (155, .inr (.inl (0, (aC (nI pfa.length) pfas pfa))))] h0 := K.mg K9 rfl rfl
  clear K9
  show j_V jP _ 2 13 lv [] h9 _
  refine j_V.ldL yr4m_M yr4m_13 rfl (i := 0) (kd := 2) (v := .ref 29) (pcJ := 14) rfl L rfl rfl rfl ?_
  refine j_V.ldL yr4m_M yr4m_14 rfl (i := 0) (kd := 2) (v := .ref 29) (pcJ := 15) rfl L rfl rfl rfl ?_
  refine j_V.getK yr4m_M yr4m_15 (ci := 0) (j := 1) rfl K rfl rfl ?_
  refine j_V.one yr4m_M yr4m_18 (by decide) (pcJ := 19) (stJ := [.int 1, .int 4, .ref 29]) rfl ?_
  refine j_V.one yr4m_M yr4m_19 (by decide) (pcJ := 20) (stJ := [.int 5, .ref 29]) rfl ?_
  refine j_V.one yr4m_M yr4m_20 (by decide) (pcJ := 22) (stJ := [.int 10, .int 5, .ref 29]) rfl ?_
  refine j_V.one yr4m_M yr4m_22 (by decide) (pcJ := 23) (stJ := [.int 5, .ref 29]) rfl ?_
  refine j_V.putK yr4m_M yr4m_23 (ci := 0) (j := 1) (k' := [(4, .inl (7, [.ref lys, .int mis, .int shus, .int buss, .ref 5, .ref 6, .ref 7, .ref 8, .ref 9, .ref 10, .ref 11, .ref 12, .ref 13, .ref 14, .ref 15, .int lkss, .ref 16, .ref 17, .ref 20])), (5, .inr (.inl (0, rks))), (6, .inr (.inl (0, stas))), (7, .inr (.inl (0, phs))), (8, .inr (.inl (0, sps))), (9, .inr (.inl (0, ces))), (10, .inr (.inl (0, dus))), (11, .inr (.inl (0, hes))), (12, .inr (.inl (0, ris))), (13, .inr (.inl (0, uss))), (14, .inr (.inl (0, cms))), (15, .inr (.inl (0, lfs))), (16, .inr (.inl (0, lkds))), (20, .inl (3, [.ref 21, .ref 22, .ref 23, .ref 24, .ref 25, .ref 26, .ref 27, .ref 28, .int pevs, .int 1])), (21, .inr (.inl (0, pmss))), (22, .inr (.inl (0, pmms))), (23, .inr (.inl (0, pmts))), (24, .inr (.inl (0, psts))), (25, .inr (.inl (0, pwas))), (26, .inr (.inl (0, prss))), (27, .inr (.inl (0, prrs))), (28, .inr (.inl (0, pfas))), (29, .inl (0, [.ref 30, .int 5, .int acco])), (30, .inr (.inr (.inr [some 31, some 56, some 81, some 106, some 131, some 156, some 181, some 206, some 231, some 256]))), (131, .inl (7, [.ref lys, .int mis, .int shus, .int buss, .ref 132, .ref 133, .ref 134, .ref 135, .ref 136, .ref 137, .ref 138, .ref 139, .ref 140, .ref 141, .ref 142, .int lkss, .ref 143, .ref 144, .ref 147])), (132, .inr (.inl (0, (aC 5 rks rk)))), (133, .inr (.inl (0, (aC 5 stas sta)))), (134, .inr (.inl (0, (aC 5 phs ph)))), (135, .inr (.inl (0, (aC 5 sps sp)))), (136, .inr (.inl (0, (aC 5 ces ce)))), (137, .inr (.inl (0, (aC 5 dus du)))), (138, .inr (.inl (0, (aC 5 hes he)))), (139, .inr (.inl (0, (aC 6 ris ri)))), (140, .inr (.inl (0, (aC 6 uss us)))), (141, .inr (.inl (0, (aC (nI cm.length) cms cm)))), (142, .inr (.inl (0, (aC (nI lf.length) lfs lf)))), (143, .inr (.inl (0, (aC (nI lkd.length) lkds lkd)))), (147, .inl (3, [.ref 148, .ref 149, .ref 150, .ref 151, .ref 152, .ref 153, .ref 154, .ref 155, .int pevs, .int 1])), (148, .inr (.inl (0, (aC (nI pms.length) pmss pms)))), (149, .inr (.inl (0, (aC (nI pmm.length) pmms pmm)))), (150, .inr (.inl (0, (aC (nI pmt.length) pmts pmt)))), (151, .inr (.inl (0, (aC (nI pst.length) psts pst)))), (152, .inr (.inl (0, (aC (nI pwa.length) pwas pwa)))), (153, .inr (.inl (0, (aC (nI prs.length) prss prs)))), (154, .inr (.inl (0, (aC (nI prr.length) prrs prr)))), (155, .inr (.inl (0, (aC (nI pfa.length) pfas pfa))))]) rfl K rfl (Nat.le_of_ble_eq_true rfl) rfl (Or.inl rfl) rfl rfl (fun h K => ?_)
  refine j_V.ldL yr4m_M yr4m_26 rfl (i := 0) (kd := 2) (v := .ref 29) (pcJ := 27) rfl L rfl rfl rfl ?_
  refine j_V.ldL yr4m_M yr4m_27 rfl (i := 0) (kd := 2) (v := .ref 29) (pcJ := 28) rfl L rfl rfl rfl ?_
  refine j_V.getK yr4m_M yr4m_28 (ci := 0) (j := 2) rfl K rfl rfl ?_
  refine j_V.one yr4m_M yr4m_31 (by decide) (pcJ := 32) (stJ := [.int 1, .int acco, .ref 29]) rfl ?_
  refine j_V.one yr4m_M yr4m_32 (by decide) (pcJ := 33) (stJ := [.int (acco + 1), .ref 29]) rfl ?_
  refine j_V.one yr4m_M yr4m_33 (by decide) (pcJ := 35) (stJ := [.int 10, .int (acco + 1), .ref 29]) rfl ?_
  refine j_V.mn yr4m_M yr4m_35 rfl rfl (Nat.le_of_ble_eq_true rfl) ?_
  refine j_V.putK yr4m_M yr4m_38 (ci := 0) (j := 2) (k' := [(4, .inl (7, [.ref lys, .int mis, .int shus, .int buss, .ref 5, .ref 6, .ref 7, .ref 8, .ref 9, .ref 10, .ref 11, .ref 12, .ref 13, .ref 14, .ref 15, .int lkss, .ref 16, .ref 17, .ref 20])), (5, .inr (.inl (0, rks))), (6, .inr (.inl (0, stas))), (7, .inr (.inl (0, phs))), (8, .inr (.inl (0, sps))), (9, .inr (.inl (0, ces))), (10, .inr (.inl (0, dus))), (11, .inr (.inl (0, hes))), (12, .inr (.inl (0, ris))), (13, .inr (.inl (0, uss))), (14, .inr (.inl (0, cms))), (15, .inr (.inl (0, lfs))), (16, .inr (.inl (0, lkds))), (20, .inl (3, [.ref 21, .ref 22, .ref 23, .ref 24, .ref 25, .ref 26, .ref 27, .ref 28, .int pevs, .int 1])), (21, .inr (.inl (0, pmss))), (22, .inr (.inl (0, pmms))), (23, .inr (.inl (0, pmts))), (24, .inr (.inl (0, psts))), (25, .inr (.inl (0, pwas))), (26, .inr (.inl (0, prss))), (27, .inr (.inl (0, prrs))), (28, .inr (.inl (0, pfas))), (29, .inl (0, [.ref 30, .int 5, .int (iMn (acco + 1) 10)])), (30, .inr (.inr (.inr [some 31, some 56, some 81, some 106, some 131, some 156, some 181, some 206, some 231, some 256]))), (131, .inl (7, [.ref lys, .int mis, .int shus, .int buss, .ref 132, .ref 133, .ref 134, .ref 135, .ref 136, .ref 137, .ref 138, .ref 139, .ref 140, .ref 141, .ref 142, .int lkss, .ref 143, .ref 144, .ref 147])), (132, .inr (.inl (0, (aC 5 rks rk)))), (133, .inr (.inl (0, (aC 5 stas sta)))), (134, .inr (.inl (0, (aC 5 phs ph)))), (135, .inr (.inl (0, (aC 5 sps sp)))), (136, .inr (.inl (0, (aC 5 ces ce)))), (137, .inr (.inl (0, (aC 5 dus du)))), (138, .inr (.inl (0, (aC 5 hes he)))), (139, .inr (.inl (0, (aC 6 ris ri)))), (140, .inr (.inl (0, (aC 6 uss us)))), (141, .inr (.inl (0, (aC (nI cm.length) cms cm)))), (142, .inr (.inl (0, (aC (nI lf.length) lfs lf)))), (143, .inr (.inl (0, (aC (nI lkd.length) lkds lkd)))), (147, .inl (3, [.ref 148, .ref 149, .ref 150, .ref 151, .ref 152, .ref 153, .ref 154, .ref 155, .int pevs, .int 1])), (148, .inr (.inl (0, (aC (nI pms.length) pmss pms)))), (149, .inr (.inl (0, (aC (nI pmm.length) pmms pmm)))), (150, .inr (.inl (0, (aC (nI pmt.length) pmts pmt)))), (151, .inr (.inl (0, (aC (nI pst.length) psts pst)))), (152, .inr (.inl (0, (aC (nI pwa.length) pwas pwa)))), (153, .inr (.inl (0, (aC (nI prs.length) prss prs)))), (154, .inr (.inl (0, (aC (nI prr.length) prrs prr)))), (155, .inr (.inl (0, (aC (nI pfa.length) pfas pfa))))]) rfl K rfl (Nat.le_of_ble_eq_true rfl) rfl (Or.inl rfl) rfl rfl (fun h K => ?_)
  exact j_V.ret yr4m_M yr4m_41 rfl rfl ⟨rfl, K⟩
set_option maxRecDepth 100000 in
theorem yr5p_M : j_meth jP 28 = some (yX3_copyFrom, cX3_copyFrom, 2, none, 1, false, 3) := rfl
set_option maxRecDepth 100000 in
theorem yr5p_0 : j_code jP 28 0 = some (.aload_n 0) := rfl
set_option maxRecDepth 100000 in
theorem yr5p_1 : j_code jP 28 1 = some (.getfield 36) := rfl
set_option maxRecDepth 100000 in
theorem yr5p_4 : j_code jP 28 4 = some (.ifCond .ne 4) := rfl
set_option maxRecDepth 100000 in
theorem yr5p_7 : j_code jP 28 7 = some (.return_) := rfl
set_option maxRecDepth 100000 in
theorem yr5p_8 : j_code jP 28 8 = some (.aload_n 1) := rfl
set_option maxRecDepth 100000 in
theorem yr5p_9 : j_code jP 28 9 = some (.getfield 9) := rfl
set_option maxRecDepth 100000 in
theorem yr5p_12 : j_code jP 28 12 = some (.iconst 0) := rfl
set_option maxRecDepth 100000 in
theorem yr5p_13 : j_code jP 28 13 = some (.aload_n 0) := rfl
set_option maxRecDepth 100000 in
theorem yr5p_14 : j_code jP 28 14 = some (.getfield 9) := rfl
set_option maxRecDepth 100000 in
theorem yr5p_17 : j_code jP 28 17 = some (.iconst 0) := rfl
set_option maxRecDepth 100000 in
theorem yr5p_18 : j_code jP 28 18 = some (.aload_n 0) := rfl
set_option maxRecDepth 100000 in
theorem yr5p_19 : j_code jP 28 19 = some (.getfield 9) := rfl
set_option maxRecDepth 100000 in
theorem yr5p_22 : j_code jP 28 22 = some (.arraylength) := rfl
set_option maxRecDepth 100000 in
theorem yr5p_23 : j_code jP 28 23 = some (.invokestatic 50) := rfl
set_option maxRecDepth 100000 in
theorem yr5p_26 : j_code jP 28 26 = some (.aload_n 1) := rfl
set_option maxRecDepth 100000 in
theorem yr5p_27 : j_code jP 28 27 = some (.getfield 15) := rfl
set_option maxRecDepth 100000 in
theorem yr5p_30 : j_code jP 28 30 = some (.iconst 0) := rfl
set_option maxRecDepth 100000 in
theorem yr5p_31 : j_code jP 28 31 = some (.aload_n 0) := rfl
set_option maxRecDepth 100000 in
theorem yr5p_32 : j_code jP 28 32 = some (.getfield 15) := rfl
set_option maxRecDepth 100000 in
theorem yr5p_35 : j_code jP 28 35 = some (.iconst 0) := rfl
set_option maxRecDepth 100000 in
theorem yr5p_36 : j_code jP 28 36 = some (.aload_n 0) := rfl
set_option maxRecDepth 100000 in
theorem yr5p_37 : j_code jP 28 37 = some (.getfield 15) := rfl
set_option maxRecDepth 100000 in
theorem yr5p_40 : j_code jP 28 40 = some (.arraylength) := rfl
set_option maxRecDepth 100000 in
theorem yr5p_41 : j_code jP 28 41 = some (.invokestatic 50) := rfl
set_option maxRecDepth 100000 in
theorem yr5p_44 : j_code jP 28 44 = some (.aload_n 1) := rfl
set_option maxRecDepth 100000 in
theorem yr5p_45 : j_code jP 28 45 = some (.getfield 18) := rfl
set_option maxRecDepth 100000 in
theorem yr5p_48 : j_code jP 28 48 = some (.iconst 0) := rfl
set_option maxRecDepth 100000 in
theorem yr5p_49 : j_code jP 28 49 = some (.aload_n 0) := rfl
set_option maxRecDepth 100000 in
theorem yr5p_50 : j_code jP 28 50 = some (.getfield 18) := rfl
set_option maxRecDepth 100000 in
theorem yr5p_53 : j_code jP 28 53 = some (.iconst 0) := rfl
set_option maxRecDepth 100000 in
theorem yr5p_54 : j_code jP 28 54 = some (.aload_n 0) := rfl
set_option maxRecDepth 100000 in
theorem yr5p_55 : j_code jP 28 55 = some (.getfield 18) := rfl
set_option maxRecDepth 100000 in
theorem yr5p_58 : j_code jP 28 58 = some (.arraylength) := rfl
set_option maxRecDepth 100000 in
theorem yr5p_59 : j_code jP 28 59 = some (.invokestatic 50) := rfl
set_option maxRecDepth 100000 in
theorem yr5p_62 : j_code jP 28 62 = some (.aload_n 1) := rfl
set_option maxRecDepth 100000 in
theorem yr5p_63 : j_code jP 28 63 = some (.getfield 21) := rfl
set_option maxRecDepth 100000 in
theorem yr5p_66 : j_code jP 28 66 = some (.iconst 0) := rfl
set_option maxRecDepth 100000 in
theorem yr5p_67 : j_code jP 28 67 = some (.aload_n 0) := rfl
set_option maxRecDepth 100000 in
theorem yr5p_68 : j_code jP 28 68 = some (.getfield 21) := rfl
set_option maxRecDepth 100000 in
theorem yr5p_71 : j_code jP 28 71 = some (.iconst 0) := rfl
set_option maxRecDepth 100000 in
theorem yr5p_72 : j_code jP 28 72 = some (.aload_n 0) := rfl
set_option maxRecDepth 100000 in
theorem yr5p_73 : j_code jP 28 73 = some (.getfield 21) := rfl
set_option maxRecDepth 100000 in
theorem yr5p_76 : j_code jP 28 76 = some (.arraylength) := rfl
set_option maxRecDepth 100000 in
theorem yr5p_77 : j_code jP 28 77 = some (.invokestatic 50) := rfl
set_option maxRecDepth 100000 in
theorem yr5p_80 : j_code jP 28 80 = some (.aload_n 1) := rfl
set_option maxRecDepth 100000 in
theorem yr5p_81 : j_code jP 28 81 = some (.getfield 24) := rfl
set_option maxRecDepth 100000 in
theorem yr5p_84 : j_code jP 28 84 = some (.iconst 0) := rfl
set_option maxRecDepth 100000 in
theorem yr5p_85 : j_code jP 28 85 = some (.aload_n 0) := rfl
set_option maxRecDepth 100000 in
theorem yr5p_86 : j_code jP 28 86 = some (.getfield 24) := rfl
set_option maxRecDepth 100000 in
theorem yr5p_89 : j_code jP 28 89 = some (.iconst 0) := rfl
set_option maxRecDepth 100000 in
theorem yr5p_90 : j_code jP 28 90 = some (.aload_n 0) := rfl
set_option maxRecDepth 100000 in
theorem yr5p_91 : j_code jP 28 91 = some (.getfield 24) := rfl
set_option maxRecDepth 100000 in
theorem yr5p_94 : j_code jP 28 94 = some (.arraylength) := rfl
set_option maxRecDepth 100000 in
theorem yr5p_95 : j_code jP 28 95 = some (.invokestatic 50) := rfl
set_option maxRecDepth 100000 in
theorem yr5p_98 : j_code jP 28 98 = some (.aload_n 1) := rfl
set_option maxRecDepth 100000 in
theorem yr5p_99 : j_code jP 28 99 = some (.getfield 27) := rfl
set_option maxRecDepth 100000 in
theorem yr5p_102 : j_code jP 28 102 = some (.iconst 0) := rfl
set_option maxRecDepth 100000 in
theorem yr5p_103 : j_code jP 28 103 = some (.aload_n 0) := rfl
set_option maxRecDepth 100000 in
theorem yr5p_104 : j_code jP 28 104 = some (.getfield 27) := rfl
set_option maxRecDepth 100000 in
theorem yr5p_107 : j_code jP 28 107 = some (.iconst 0) := rfl
set_option maxRecDepth 100000 in
theorem yr5p_108 : j_code jP 28 108 = some (.aload_n 0) := rfl
set_option maxRecDepth 100000 in
theorem yr5p_109 : j_code jP 28 109 = some (.getfield 27) := rfl
set_option maxRecDepth 100000 in
theorem yr5p_112 : j_code jP 28 112 = some (.arraylength) := rfl
set_option maxRecDepth 100000 in
theorem yr5p_113 : j_code jP 28 113 = some (.invokestatic 50) := rfl
set_option maxRecDepth 100000 in
theorem yr5p_116 : j_code jP 28 116 = some (.aload_n 1) := rfl
set_option maxRecDepth 100000 in
theorem yr5p_117 : j_code jP 28 117 = some (.getfield 30) := rfl
set_option maxRecDepth 100000 in
theorem yr5p_120 : j_code jP 28 120 = some (.iconst 0) := rfl
set_option maxRecDepth 100000 in
theorem yr5p_121 : j_code jP 28 121 = some (.aload_n 0) := rfl
set_option maxRecDepth 100000 in
theorem yr5p_122 : j_code jP 28 122 = some (.getfield 30) := rfl
set_option maxRecDepth 100000 in
theorem yr5p_125 : j_code jP 28 125 = some (.iconst 0) := rfl
set_option maxRecDepth 100000 in
theorem yr5p_126 : j_code jP 28 126 = some (.aload_n 0) := rfl
set_option maxRecDepth 100000 in
theorem yr5p_127 : j_code jP 28 127 = some (.getfield 30) := rfl
set_option maxRecDepth 100000 in
theorem yr5p_130 : j_code jP 28 130 = some (.arraylength) := rfl
set_option maxRecDepth 100000 in
theorem yr5p_131 : j_code jP 28 131 = some (.invokestatic 50) := rfl
set_option maxRecDepth 100000 in
theorem yr5p_134 : j_code jP 28 134 = some (.aload_n 1) := rfl
set_option maxRecDepth 100000 in
theorem yr5p_135 : j_code jP 28 135 = some (.getfield 33) := rfl
set_option maxRecDepth 100000 in
theorem yr5p_138 : j_code jP 28 138 = some (.iconst 0) := rfl
set_option maxRecDepth 100000 in
theorem yr5p_139 : j_code jP 28 139 = some (.aload_n 0) := rfl
set_option maxRecDepth 100000 in
theorem yr5p_140 : j_code jP 28 140 = some (.getfield 33) := rfl
set_option maxRecDepth 100000 in
theorem yr5p_143 : j_code jP 28 143 = some (.iconst 0) := rfl
set_option maxRecDepth 100000 in
theorem yr5p_144 : j_code jP 28 144 = some (.aload_n 0) := rfl
set_option maxRecDepth 100000 in
theorem yr5p_145 : j_code jP 28 145 = some (.getfield 33) := rfl
set_option maxRecDepth 100000 in
theorem yr5p_148 : j_code jP 28 148 = some (.arraylength) := rfl
set_option maxRecDepth 100000 in
theorem yr5p_149 : j_code jP 28 149 = some (.invokestatic 50) := rfl
set_option maxRecDepth 100000 in
theorem yr5p_152 : j_code jP 28 152 = some (.aload_n 0) := rfl
set_option maxRecDepth 100000 in
theorem yr5p_153 : j_code jP 28 153 = some (.aload_n 1) := rfl
set_option maxRecDepth 100000 in
theorem yr5p_154 : j_code jP 28 154 = some (.getfield 46) := rfl
set_option maxRecDepth 100000 in
theorem yr5p_157 : j_code jP 28 157 = some (.putfield 46) := rfl
set_option maxRecDepth 100000 in
theorem yr5p_160 : j_code jP 28 160 = some (.return_) := rfl
set_option maxRecDepth 1000000 in
theorem yr5p_k8 {pev : Int32} {pms : List Int32} {pmm : List Int32} {pevs : Int32} {pmss : List Int32} {pmms : List Int32} {d : Nat} {lv : J_L} {h h0 : J_H} {Q : Option Value → J_H → Prop} (L : LK lv [(0, .ref 172), (1, .ref 20)]) (K : KN h [(20, .inl (3, [.ref 21, .ref 22, .ref 23, .ref 24, .ref 25, .ref 26, .ref 27, .ref 28, .int pevs, .int 1])), (21, .inr (.inl (0, pmss))), (22, .inr (.inl (0, pmms))), (172, .inl (3, [.ref 173, .ref 174, .ref 175, .ref 176, .ref 177, .ref 178, .ref 179, .ref 180, .int pev, .int 1])), (173, .inr (.inl (0, pms))), (174, .inr (.inl (0, pmm)))] h0) (kk : ∀ lv h, LK lv [(0, .ref 172), (1, .ref 20)] → KN h [(20, .inl (3, [.ref 21, .ref 22, .ref 23, .ref 24, .ref 25, .ref 26, .ref 27, .ref 28, .int pevs, .int 1])), (21, .inr (.inl (0, pmss))), (22, .inr (.inl (0, pmms))), (172, .inl (3, [.ref 173, .ref 174, .ref 175, .ref 176, .ref 177, .ref 178, .ref 179, .ref 180, .int pev, .int 1])), (173, .inr (.inl (0, (aC (nI pms.length) pmss pms)))), (174, .inr (.inl (0, (aC (nI pmm.length) pmms pmm))))] h0 → j_V jP d 28 44 lv [] h Q) : j_V jP d 28 8 lv [] h Q := by
  refine j_V.ldL yr5p_M yr5p_8 rfl (i := 1) (kd := 2) (v := .ref 20) (pcJ := 9) rfl L rfl rfl rfl ?_
  refine j_V.getK yr5p_M yr5p_9 (ci := 3) (j := 0) rfl K rfl rfl ?_
  refine j_V.one yr5p_M yr5p_12 (by decide) (pcJ := 13) (stJ := [.int 0, .ref 21]) rfl ?_
  refine j_V.ldL yr5p_M yr5p_13 rfl (i := 0) (kd := 2) (v := .ref 172) (pcJ := 14) rfl L rfl rfl rfl ?_
  refine j_V.getK yr5p_M yr5p_14 (ci := 3) (j := 0) rfl K rfl rfl ?_
  refine j_V.one yr5p_M yr5p_17 (by decide) (pcJ := 18) (stJ := [.int 0, .ref 173, .int 0, .ref 21]) rfl ?_
  refine j_V.ldL yr5p_M yr5p_18 rfl (i := 0) (kd := 2) (v := .ref 172) (pcJ := 19) rfl L rfl rfl rfl ?_
  refine j_V.getK yr5p_M yr5p_19 (ci := 3) (j := 0) rfl K rfl rfl ?_
  refine j_V.alnA yr5p_M yr5p_22 K rfl ?_
  refine j_V.acp yr5p_M yr5p_23 rfl rfl K rfl rfl rfl (fun h K => ?_)
  refine j_V.ldL yr5p_M yr5p_26 rfl (i := 1) (kd := 2) (v := .ref 20) (pcJ := 27) rfl L rfl rfl rfl ?_
  refine j_V.getK yr5p_M yr5p_27 (ci := 3) (j := 1) rfl K rfl rfl ?_
  refine j_V.one yr5p_M yr5p_30 (by decide) (pcJ := 31) (stJ := [.int 0, .ref 22]) rfl ?_
  refine j_V.ldL yr5p_M yr5p_31 rfl (i := 0) (kd := 2) (v := .ref 172) (pcJ := 32) rfl L rfl rfl rfl ?_
  refine j_V.getK yr5p_M yr5p_32 (ci := 3) (j := 1) rfl K rfl rfl ?_
  refine j_V.one yr5p_M yr5p_35 (by decide) (pcJ := 36) (stJ := [.int 0, .ref 174, .int 0, .ref 22]) rfl ?_
  refine j_V.ldL yr5p_M yr5p_36 rfl (i := 0) (kd := 2) (v := .ref 172) (pcJ := 37) rfl L rfl rfl rfl ?_
  refine j_V.getK yr5p_M yr5p_37 (ci := 3) (j := 1) rfl K rfl rfl ?_
  refine j_V.alnA yr5p_M yr5p_40 K rfl ?_
  refine j_V.acp yr5p_M yr5p_41 rfl rfl K rfl rfl rfl (fun h K => ?_)
  exact kk _ _ L K
set_option maxRecDepth 1000000 in
theorem yr5p_k44 {pev : Int32} {pmt : List Int32} {pst : List Int32} {pevs : Int32} {pmts : List Int32} {psts : List Int32} {d : Nat} {lv : J_L} {h h0 : J_H} {Q : Option Value → J_H → Prop} (L : LK lv [(0, .ref 172), (1, .ref 20)]) (K : KN h [(20, .inl (3, [.ref 21, .ref 22, .ref 23, .ref 24, .ref 25, .ref 26, .ref 27, .ref 28, .int pevs, .int 1])), (23, .inr (.inl (0, pmts))), (24, .inr (.inl (0, psts))), (172, .inl (3, [.ref 173, .ref 174, .ref 175, .ref 176, .ref 177, .ref 178, .ref 179, .ref 180, .int pev, .int 1])), (175, .inr (.inl (0, pmt))), (176, .inr (.inl (0, pst)))] h0) (kk : ∀ lv h, LK lv [(0, .ref 172), (1, .ref 20)] → KN h [(20, .inl (3, [.ref 21, .ref 22, .ref 23, .ref 24, .ref 25, .ref 26, .ref 27, .ref 28, .int pevs, .int 1])), (23, .inr (.inl (0, pmts))), (24, .inr (.inl (0, psts))), (172, .inl (3, [.ref 173, .ref 174, .ref 175, .ref 176, .ref 177, .ref 178, .ref 179, .ref 180, .int pev, .int 1])), (175, .inr (.inl (0, (aC (nI pmt.length) pmts pmt)))), (176, .inr (.inl (0, (aC (nI pst.length) psts pst))))] h0 → j_V jP d 28 80 lv [] h Q) : j_V jP d 28 44 lv [] h Q := by
  refine j_V.ldL yr5p_M yr5p_44 rfl (i := 1) (kd := 2) (v := .ref 20) (pcJ := 45) rfl L rfl rfl rfl ?_
  refine j_V.getK yr5p_M yr5p_45 (ci := 3) (j := 2) rfl K rfl rfl ?_
  refine j_V.one yr5p_M yr5p_48 (by decide) (pcJ := 49) (stJ := [.int 0, .ref 23]) rfl ?_
  refine j_V.ldL yr5p_M yr5p_49 rfl (i := 0) (kd := 2) (v := .ref 172) (pcJ := 50) rfl L rfl rfl rfl ?_
  refine j_V.getK yr5p_M yr5p_50 (ci := 3) (j := 2) rfl K rfl rfl ?_
  refine j_V.one yr5p_M yr5p_53 (by decide) (pcJ := 54) (stJ := [.int 0, .ref 175, .int 0, .ref 23]) rfl ?_
  refine j_V.ldL yr5p_M yr5p_54 rfl (i := 0) (kd := 2) (v := .ref 172) (pcJ := 55) rfl L rfl rfl rfl ?_
  refine j_V.getK yr5p_M yr5p_55 (ci := 3) (j := 2) rfl K rfl rfl ?_
  refine j_V.alnA yr5p_M yr5p_58 K rfl ?_
  refine j_V.acp yr5p_M yr5p_59 rfl rfl K rfl rfl rfl (fun h K => ?_)
  refine j_V.ldL yr5p_M yr5p_62 rfl (i := 1) (kd := 2) (v := .ref 20) (pcJ := 63) rfl L rfl rfl rfl ?_
  refine j_V.getK yr5p_M yr5p_63 (ci := 3) (j := 3) rfl K rfl rfl ?_
  refine j_V.one yr5p_M yr5p_66 (by decide) (pcJ := 67) (stJ := [.int 0, .ref 24]) rfl ?_
  refine j_V.ldL yr5p_M yr5p_67 rfl (i := 0) (kd := 2) (v := .ref 172) (pcJ := 68) rfl L rfl rfl rfl ?_
  refine j_V.getK yr5p_M yr5p_68 (ci := 3) (j := 3) rfl K rfl rfl ?_
  refine j_V.one yr5p_M yr5p_71 (by decide) (pcJ := 72) (stJ := [.int 0, .ref 176, .int 0, .ref 24]) rfl ?_
  refine j_V.ldL yr5p_M yr5p_72 rfl (i := 0) (kd := 2) (v := .ref 172) (pcJ := 73) rfl L rfl rfl rfl ?_
  refine j_V.getK yr5p_M yr5p_73 (ci := 3) (j := 3) rfl K rfl rfl ?_
  refine j_V.alnA yr5p_M yr5p_76 K rfl ?_
  refine j_V.acp yr5p_M yr5p_77 rfl rfl K rfl rfl rfl (fun h K => ?_)
  exact kk _ _ L K
set_option maxRecDepth 1000000 in
theorem yr5p_k80 {pev : Int32} {pwa : List Int32} {prs : List Int32} {pevs : Int32} {pwas : List Int32} {prss : List Int32} {d : Nat} {lv : J_L} {h h0 : J_H} {Q : Option Value → J_H → Prop} (L : LK lv [(0, .ref 172), (1, .ref 20)]) (K : KN h [(20, .inl (3, [.ref 21, .ref 22, .ref 23, .ref 24, .ref 25, .ref 26, .ref 27, .ref 28, .int pevs, .int 1])), (25, .inr (.inl (0, pwas))), (26, .inr (.inl (0, prss))), (172, .inl (3, [.ref 173, .ref 174, .ref 175, .ref 176, .ref 177, .ref 178, .ref 179, .ref 180, .int pev, .int 1])), (177, .inr (.inl (0, pwa))), (178, .inr (.inl (0, prs)))] h0) (kk : ∀ lv h, LK lv [(0, .ref 172), (1, .ref 20)] → KN h [(20, .inl (3, [.ref 21, .ref 22, .ref 23, .ref 24, .ref 25, .ref 26, .ref 27, .ref 28, .int pevs, .int 1])), (25, .inr (.inl (0, pwas))), (26, .inr (.inl (0, prss))), (172, .inl (3, [.ref 173, .ref 174, .ref 175, .ref 176, .ref 177, .ref 178, .ref 179, .ref 180, .int pev, .int 1])), (177, .inr (.inl (0, (aC (nI pwa.length) pwas pwa)))), (178, .inr (.inl (0, (aC (nI prs.length) prss prs))))] h0 → j_V jP d 28 116 lv [] h Q) : j_V jP d 28 80 lv [] h Q := by
  refine j_V.ldL yr5p_M yr5p_80 rfl (i := 1) (kd := 2) (v := .ref 20) (pcJ := 81) rfl L rfl rfl rfl ?_
  refine j_V.getK yr5p_M yr5p_81 (ci := 3) (j := 4) rfl K rfl rfl ?_
  refine j_V.one yr5p_M yr5p_84 (by decide) (pcJ := 85) (stJ := [.int 0, .ref 25]) rfl ?_
  refine j_V.ldL yr5p_M yr5p_85 rfl (i := 0) (kd := 2) (v := .ref 172) (pcJ := 86) rfl L rfl rfl rfl ?_
  refine j_V.getK yr5p_M yr5p_86 (ci := 3) (j := 4) rfl K rfl rfl ?_
  refine j_V.one yr5p_M yr5p_89 (by decide) (pcJ := 90) (stJ := [.int 0, .ref 177, .int 0, .ref 25]) rfl ?_
  refine j_V.ldL yr5p_M yr5p_90 rfl (i := 0) (kd := 2) (v := .ref 172) (pcJ := 91) rfl L rfl rfl rfl ?_
  refine j_V.getK yr5p_M yr5p_91 (ci := 3) (j := 4) rfl K rfl rfl ?_
  refine j_V.alnA yr5p_M yr5p_94 K rfl ?_
  refine j_V.acp yr5p_M yr5p_95 rfl rfl K rfl rfl rfl (fun h K => ?_)
  refine j_V.ldL yr5p_M yr5p_98 rfl (i := 1) (kd := 2) (v := .ref 20) (pcJ := 99) rfl L rfl rfl rfl ?_
  refine j_V.getK yr5p_M yr5p_99 (ci := 3) (j := 5) rfl K rfl rfl ?_
  refine j_V.one yr5p_M yr5p_102 (by decide) (pcJ := 103) (stJ := [.int 0, .ref 26]) rfl ?_
  refine j_V.ldL yr5p_M yr5p_103 rfl (i := 0) (kd := 2) (v := .ref 172) (pcJ := 104) rfl L rfl rfl rfl ?_
  refine j_V.getK yr5p_M yr5p_104 (ci := 3) (j := 5) rfl K rfl rfl ?_
  refine j_V.one yr5p_M yr5p_107 (by decide) (pcJ := 108) (stJ := [.int 0, .ref 178, .int 0, .ref 26]) rfl ?_
  refine j_V.ldL yr5p_M yr5p_108 rfl (i := 0) (kd := 2) (v := .ref 172) (pcJ := 109) rfl L rfl rfl rfl ?_
  refine j_V.getK yr5p_M yr5p_109 (ci := 3) (j := 5) rfl K rfl rfl ?_
  refine j_V.alnA yr5p_M yr5p_112 K rfl ?_
  refine j_V.acp yr5p_M yr5p_113 rfl rfl K rfl rfl rfl (fun h K => ?_)
  exact kk _ _ L K
set_option maxRecDepth 1000000 in
theorem yr5p_k116 {pev : Int32} {prr : List Int32} {pfa : List Int32} {pevs : Int32} {prrs : List Int32} {pfas : List Int32} {d : Nat} {lv : J_L} {h h0 : J_H} {Q : Option Value → J_H → Prop} (L : LK lv [(0, .ref 172), (1, .ref 20)]) (K : KN h [(20, .inl (3, [.ref 21, .ref 22, .ref 23, .ref 24, .ref 25, .ref 26, .ref 27, .ref 28, .int pevs, .int 1])), (27, .inr (.inl (0, prrs))), (28, .inr (.inl (0, pfas))), (172, .inl (3, [.ref 173, .ref 174, .ref 175, .ref 176, .ref 177, .ref 178, .ref 179, .ref 180, .int pev, .int 1])), (179, .inr (.inl (0, prr))), (180, .inr (.inl (0, pfa)))] h0) (kk : ∀ lv h, LK lv [(0, .ref 172), (1, .ref 20)] → KN h [(20, .inl (3, [.ref 21, .ref 22, .ref 23, .ref 24, .ref 25, .ref 26, .ref 27, .ref 28, .int pevs, .int 1])), (27, .inr (.inl (0, prrs))), (28, .inr (.inl (0, pfas))), (172, .inl (3, [.ref 173, .ref 174, .ref 175, .ref 176, .ref 177, .ref 178, .ref 179, .ref 180, .int pev, .int 1])), (179, .inr (.inl (0, (aC (nI prr.length) prrs prr)))), (180, .inr (.inl (0, (aC (nI pfa.length) pfas pfa))))] h0 → j_V jP d 28 152 lv [] h Q) : j_V jP d 28 116 lv [] h Q := by
  refine j_V.ldL yr5p_M yr5p_116 rfl (i := 1) (kd := 2) (v := .ref 20) (pcJ := 117) rfl L rfl rfl rfl ?_
  refine j_V.getK yr5p_M yr5p_117 (ci := 3) (j := 6) rfl K rfl rfl ?_
  refine j_V.one yr5p_M yr5p_120 (by decide) (pcJ := 121) (stJ := [.int 0, .ref 27]) rfl ?_
  refine j_V.ldL yr5p_M yr5p_121 rfl (i := 0) (kd := 2) (v := .ref 172) (pcJ := 122) rfl L rfl rfl rfl ?_
  refine j_V.getK yr5p_M yr5p_122 (ci := 3) (j := 6) rfl K rfl rfl ?_
  refine j_V.one yr5p_M yr5p_125 (by decide) (pcJ := 126) (stJ := [.int 0, .ref 179, .int 0, .ref 27]) rfl ?_
  refine j_V.ldL yr5p_M yr5p_126 rfl (i := 0) (kd := 2) (v := .ref 172) (pcJ := 127) rfl L rfl rfl rfl ?_
  refine j_V.getK yr5p_M yr5p_127 (ci := 3) (j := 6) rfl K rfl rfl ?_
  refine j_V.alnA yr5p_M yr5p_130 K rfl ?_
  refine j_V.acp yr5p_M yr5p_131 rfl rfl K rfl rfl rfl (fun h K => ?_)
  refine j_V.ldL yr5p_M yr5p_134 rfl (i := 1) (kd := 2) (v := .ref 20) (pcJ := 135) rfl L rfl rfl rfl ?_
  refine j_V.getK yr5p_M yr5p_135 (ci := 3) (j := 7) rfl K rfl rfl ?_
  refine j_V.one yr5p_M yr5p_138 (by decide) (pcJ := 139) (stJ := [.int 0, .ref 28]) rfl ?_
  refine j_V.ldL yr5p_M yr5p_139 rfl (i := 0) (kd := 2) (v := .ref 172) (pcJ := 140) rfl L rfl rfl rfl ?_
  refine j_V.getK yr5p_M yr5p_140 (ci := 3) (j := 7) rfl K rfl rfl ?_
  refine j_V.one yr5p_M yr5p_143 (by decide) (pcJ := 144) (stJ := [.int 0, .ref 180, .int 0, .ref 28]) rfl ?_
  refine j_V.ldL yr5p_M yr5p_144 rfl (i := 0) (kd := 2) (v := .ref 172) (pcJ := 145) rfl L rfl rfl rfl ?_
  refine j_V.getK yr5p_M yr5p_145 (ci := 3) (j := 7) rfl K rfl rfl ?_
  refine j_V.alnA yr5p_M yr5p_148 K rfl ?_
  refine j_V.acp yr5p_M yr5p_149 rfl rfl K rfl rfl rfl (fun h K => ?_)
  exact kk _ _ L K
set_option maxRecDepth 1000000 in
theorem yr5p_ok {pev : Int32} {pms : List Int32} {pmm : List Int32} {pmt : List Int32} {pst : List Int32} {pwa : List Int32} {prs : List Int32} {prr : List Int32} {pfa : List Int32} {pevs : Int32} {pmss : List Int32} {pmms : List Int32} {pmts : List Int32} {psts : List Int32} {pwas : List Int32} {prss : List Int32} {prrs : List Int32} {pfas : List Int32} {d : Nat} {h h0 : J_H} (K : KN h [(20, .inl (3, [.ref 21, .ref 22, .ref 23, .ref 24, .ref 25, .ref 26, .ref 27, .ref 28, .int pevs, .int 1])), (21, .inr (.inl (0, pmss))), (22, .inr (.inl (0, pmms))), (23, .inr (.inl (0, pmts))), (24, .inr (.inl (0, psts))), (25, .inr (.inl (0, pwas))), (26, .inr (.inl (0, prss))), (27, .inr (.inl (0, prrs))), (28, .inr (.inl (0, pfas))), (172, .inl (3, [.ref 173, .ref 174, .ref 175, .ref 176, .ref 177, .ref 178, .ref 179, .ref 180, .int pev, .int 1])), (173, .inr (.inl (0, pms))), (174, .inr (.inl (0, pmm))), (175, .inr (.inl (0, pmt))), (176, .inr (.inl (0, pst))), (177, .inr (.inl (0, pwa))), (178, .inr (.inl (0, prs))), (179, .inr (.inl (0, prr))), (180, .inr (.inl (0, pfa)))] h0) : j_V jP d 28 0 (lv_args 0 [.ref 172, .ref 20]) [] h (fun rv h' => rv = none ∧ KN h' [(20, .inl (3, [.ref 21, .ref 22, .ref 23, .ref 24, .ref 25, .ref 26, .ref 27, .ref 28, .int pevs, .int 1])), (21, .inr (.inl (0, pmss))), (22, .inr (.inl (0, pmms))), (23, .inr (.inl (0, pmts))), (24, .inr (.inl (0, psts))), (25, .inr (.inl (0, pwas))), (26, .inr (.inl (0, prss))), (27, .inr (.inl (0, prrs))), (28, .inr (.inl (0, pfas))), (172, .inl (3, [.ref 173, .ref 174, .ref 175, .ref 176, .ref 177, .ref 178, .ref 179, .ref 180, .int pevs, .int 1])), (173, .inr (.inl (0, (aC (nI pms.length) pmss pms)))), (174, .inr (.inl (0, (aC (nI pmm.length) pmms pmm)))), (175, .inr (.inl (0, (aC (nI pmt.length) pmts pmt)))), (176, .inr (.inl (0, (aC (nI pst.length) psts pst)))), (177, .inr (.inl (0, (aC (nI pwa.length) pwas pwa)))), (178, .inr (.inl (0, (aC (nI prs.length) prss prs)))), (179, .inr (.inl (0, (aC (nI prr.length) prrs prr)))), (180, .inr (.inl (0, (aC (nI pfa.length) pfas pfa))))] h0) := by
  show j_V jP d 28 0 [(0, .ref 172), (1, .ref 20)] [] h _
  obtain ⟨lv, elv, L⟩ : ∃ lv, lv = [(0, .ref 172), (1, .ref 20)] ∧ LK lv [(0, .ref 172), (1, .ref 20)] := ⟨_, rfl, LK.rf⟩
  rw [← elv]
  clear elv
  refine j_V.ldL yr5p_M yr5p_0 rfl (i := 0) (kd := 2) (v := .ref 172) (pcJ := 1) rfl L rfl rfl rfl ?_
  refine j_V.getK yr5p_M yr5p_1 (ci := 3) (j := 9) rfl K rfl rfl ?_
  refine j_V.ifc yr5p_M yr5p_4 (t := 8) rfl (fun c4_0 => ?_) (fun c4_0 => ?_)
  · replace c4_0 : ¬ ((1 : Int32) = 0) := jd_ne c4_0
    refine yr5p_k8 L (K.fi [20, 21, 22, 172, 173, 174] rfl rfl) (fun lv h9 L K9 => ?_)
    have K : KN h9 [(20, .inl (3, [.ref 21, .ref 22, .ref 23, .ref 24, .ref 25, .ref 26, .ref 27, .ref 28, .int pevs, .int 1])), (21, .inr (.inl (0, pmss))), (22, .inr (.inl (0, pmms))), (23, .inr (.inl (0, pmts))), (24, .inr (.inl (0, psts))), (25, .inr (.inl (0, pwas))), (26, .inr (.inl (0, prss))), (27, .inr (.inl (0, prrs))), (28, .inr (.inl (0, pfas))), (172, .inl (3, [.ref 173, .ref 174, .ref 175, .ref 176, .ref 177, .ref 178, .ref 179, .ref 180, .int pev, .int 1])), (173, .inr (.inl (0, (aC (nI pms.length) pmss pms)))), (174, .inr (.inl (0, (aC (nI pmm.length) pmms pmm)))), (175, .inr (.inl (0, pmt))), (176, .inr (.inl (0, pst))), (177, .inr (.inl (0, pwa))), (178, .inr (.inl (0, prs))), (179, .inr (.inl (0, prr))), (180, .inr (.inl (0, pfa)))] h0 := K.mg K9 rfl rfl
    clear K9
    refine yr5p_k44 L (K.fi [20, 23, 24, 172, 175, 176] rfl rfl) (fun lv h9 L K9 => ?_)
    have K : KN h9 [(20, .inl (3, [.ref 21, .ref 22, .ref 23, .ref 24, .ref 25, .ref 26, .ref 27, .ref 28, .int pevs, .int 1])), (21, .inr (.inl (0, pmss))), (22, .inr (.inl (0, pmms))), (23, .inr (.inl (0, pmts))), (24, .inr (.inl (0, psts))), (25, .inr (.inl (0, pwas))), (26, .inr (.inl (0, prss))), (27, .inr (.inl (0, prrs))), (28, .inr (.inl (0, pfas))), (172, .inl (3, [.ref 173, .ref 174, .ref 175, .ref 176, .ref 177, .ref 178, .ref 179, .ref 180, .int pev, .int 1])), (173, .inr (.inl (0, (aC (nI pms.length) pmss pms)))), (174, .inr (.inl (0, (aC (nI pmm.length) pmms pmm)))), (175, .inr (.inl (0, (aC (nI pmt.length) pmts pmt)))), (176, .inr (.inl (0, (aC (nI pst.length) psts pst)))), (177, .inr (.inl (0, pwa))), (178, .inr (.inl (0, prs))), (179, .inr (.inl (0, prr))), (180, .inr (.inl (0, pfa)))] h0 := K.mg K9 rfl rfl
    clear K9
    refine yr5p_k80 L (K.fi [20, 25, 26, 172, 177, 178] rfl rfl) (fun lv h9 L K9 => ?_)
    have K : KN h9 [(20, .inl (3, [.ref 21, .ref 22, .ref 23, .ref 24, .ref 25, .ref 26, .ref 27, .ref 28, .int pevs, .int 1])), (21, .inr (.inl (0, pmss))), (22, .inr (.inl (0, pmms))), (23, .inr (.inl (0, pmts))), (24, .inr (.inl (0, psts))), (25, .inr (.inl (0, pwas))), (26, .inr (.inl (0, prss))), (27, .inr (.inl (0, prrs))), (28, .inr (.inl (0, pfas))), (172, .inl (3, [.ref 173, .ref 174, .ref 175, .ref 176, .ref 177, .ref 178, .ref 179, .ref 180, .int pev, .int 1])), (173, .inr (.inl (0, (aC (nI pms.length) pmss pms)))), (174, .inr (.inl (0, (aC (nI pmm.length) pmms pmm)))), (175, .inr (.inl (0, (aC (nI pmt.length) pmts pmt)))), (176, .inr (.inl (0, (aC (nI pst.length) psts pst)))), (177, .inr (.inl (0, (aC (nI pwa.length) pwas pwa)))), (178, .inr (.inl (0, (aC (nI prs.length) prss prs)))), (179, .inr (.inl (0, prr))), (180, .inr (.inl (0, pfa)))] h0 := K.mg K9 rfl rfl
    clear K9
    refine yr5p_k116 L (K.fi [20, 27, 28, 172, 179, 180] rfl rfl) (fun lv h9 L K9 => ?_)
    have K : KN h9 [(20, .inl (3, [.ref 21, .ref 22, .ref 23, .ref 24, .ref 25, .ref 26, .ref 27, .ref 28, .int pevs, .int 1])), (21, .inr (.inl (0, pmss))), (22, .inr (.inl (0, pmms))), (23, .inr (.inl (0, pmts))), (24, .inr (.inl (0, psts))), (25, .inr (.inl (0, pwas))), (26, .inr (.inl (0, prss))), (27, .inr (.inl (0, prrs))), (28, .inr (.inl (0, pfas))), (172, .inl (3, [.ref 173, .ref 174, .ref 175, .ref 176, .ref 177, .ref 178, .ref 179, .ref 180, .int pev, .int 1])), (173, .inr (.inl (0, (aC (nI pms.length) pmss pms)))), (174, .inr (.inl (0, (aC (nI pmm.length) pmms pmm)))), (175, .inr (.inl (0, (aC (nI pmt.length) pmts pmt)))), (176, .inr (.inl (0, (aC (nI pst.length) psts pst)))), (177, .inr (.inl (0, (aC (nI pwa.length) pwas pwa)))), (178, .inr (.inl (0, (aC (nI prs.length) prss prs)))), (179, .inr (.inl (0, (aC (nI prr.length) prrs prr)))), (180, .inr (.inl (0, (aC (nI pfa.length) pfas pfa))))] h0 := K.mg K9 rfl rfl
    clear K9
    refine j_V.ldL yr5p_M yr5p_152 rfl (i := 0) (kd := 2) (v := .ref 172) (pcJ := 153) rfl L rfl rfl rfl ?_
    refine j_V.ldL yr5p_M yr5p_153 rfl (i := 1) (kd := 2) (v := .ref 20) (pcJ := 154) rfl L rfl rfl rfl ?_
    refine j_V.getK yr5p_M yr5p_154 (ci := 3) (j := 8) rfl K rfl rfl ?_
    refine j_V.putK yr5p_M yr5p_157 (ci := 3) (j := 8) (k' := [(20, .inl (3, [.ref 21, .ref 22, .ref 23, .ref 24, .ref 25, .ref 26, .ref 27, .ref 28, .int pevs, .int 1])), (21, .inr (.inl (0, pmss))), (22, .inr (.inl (0, pmms))), (23, .inr (.inl (0, pmts))), (24, .inr (.inl (0, psts))), (25, .inr (.inl (0, pwas))), (26, .inr (.inl (0, prss))), (27, .inr (.inl (0, prrs))), (28, .inr (.inl (0, pfas))), (172, .inl (3, [.ref 173, .ref 174, .ref 175, .ref 176, .ref 177, .ref 178, .ref 179, .ref 180, .int pevs, .int 1])), (173, .inr (.inl (0, (aC (nI pms.length) pmss pms)))), (174, .inr (.inl (0, (aC (nI pmm.length) pmms pmm)))), (175, .inr (.inl (0, (aC (nI pmt.length) pmts pmt)))), (176, .inr (.inl (0, (aC (nI pst.length) psts pst)))), (177, .inr (.inl (0, (aC (nI pwa.length) pwas pwa)))), (178, .inr (.inl (0, (aC (nI prs.length) prss prs)))), (179, .inr (.inl (0, (aC (nI prr.length) prrs prr)))), (180, .inr (.inl (0, (aC (nI pfa.length) pfas pfa))))]) rfl K rfl (Nat.le_of_ble_eq_true rfl) rfl (Or.inl rfl) rfl rfl (fun h K => ?_)
    exact j_V.ret yr5p_M yr5p_160 rfl rfl ⟨rfl, K⟩
  · replace c4_0 : (1 : Int32) = 0 := jd_nen c4_0
    exact absurd c4_0 (by decide)
set_option maxRecDepth 100000 in
theorem yr5s_M : j_meth jP 61 = some (yX7_copyFrom, cX7_copyFrom, 2, none, 1, false, 7) := rfl
set_option maxRecDepth 100000 in
theorem yr5s_0 : j_code jP 61 0 = some (.aload_n 0) := rfl
set_option maxRecDepth 100000 in
theorem yr5s_1 : j_code jP 61 1 = some (.aload_n 1) := rfl
set_option maxRecDepth 100000 in
theorem yr5s_2 : j_code jP 61 2 = some (.getfield 64) := rfl
set_option maxRecDepth 100000 in
theorem yr5s_5 : j_code jP 61 5 = some (.putfield 64) := rfl
set_option maxRecDepth 100000 in
theorem yr5s_8 : j_code jP 61 8 = some (.aload_n 0) := rfl
set_option maxRecDepth 100000 in
theorem yr5s_9 : j_code jP 61 9 = some (.aload_n 1) := rfl
set_option maxRecDepth 100000 in
theorem yr5s_10 : j_code jP 61 10 = some (.getfield 68) := rfl
set_option maxRecDepth 100000 in
theorem yr5s_13 : j_code jP 61 13 = some (.putfield 68) := rfl
set_option maxRecDepth 100000 in
theorem yr5s_16 : j_code jP 61 16 = some (.aload_n 0) := rfl
set_option maxRecDepth 100000 in
theorem yr5s_17 : j_code jP 61 17 = some (.aload_n 1) := rfl
set_option maxRecDepth 100000 in
theorem yr5s_18 : j_code jP 61 18 = some (.getfield 72) := rfl
set_option maxRecDepth 100000 in
theorem yr5s_21 : j_code jP 61 21 = some (.putfield 72) := rfl
set_option maxRecDepth 100000 in
theorem yr5s_24 : j_code jP 61 24 = some (.aload_n 0) := rfl
set_option maxRecDepth 100000 in
theorem yr5s_25 : j_code jP 61 25 = some (.aload_n 1) := rfl
set_option maxRecDepth 100000 in
theorem yr5s_26 : j_code jP 61 26 = some (.getfield 75) := rfl
set_option maxRecDepth 100000 in
theorem yr5s_29 : j_code jP 61 29 = some (.putfield 75) := rfl
set_option maxRecDepth 100000 in
theorem yr5s_32 : j_code jP 61 32 = some (.aload_n 0) := rfl
set_option maxRecDepth 100000 in
theorem yr5s_33 : j_code jP 61 33 = some (.aload_n 1) := rfl
set_option maxRecDepth 100000 in
theorem yr5s_34 : j_code jP 61 34 = some (.getfield 78) := rfl
set_option maxRecDepth 100000 in
theorem yr5s_37 : j_code jP 61 37 = some (.putfield 78) := rfl
set_option maxRecDepth 100000 in
theorem yr5s_40 : j_code jP 61 40 = some (.aload_n 1) := rfl
set_option maxRecDepth 100000 in
theorem yr5s_41 : j_code jP 61 41 = some (.getfield 9) := rfl
set_option maxRecDepth 100000 in
theorem yr5s_44 : j_code jP 61 44 = some (.iconst 0) := rfl
set_option maxRecDepth 100000 in
theorem yr5s_45 : j_code jP 61 45 = some (.aload_n 0) := rfl
set_option maxRecDepth 100000 in
theorem yr5s_46 : j_code jP 61 46 = some (.getfield 9) := rfl
set_option maxRecDepth 100000 in
theorem yr5s_49 : j_code jP 61 49 = some (.iconst 0) := rfl
set_option maxRecDepth 100000 in
theorem yr5s_50 : j_code jP 61 50 = some (.iconst 5) := rfl
set_option maxRecDepth 100000 in
theorem yr5s_51 : j_code jP 61 51 = some (.invokestatic 84) := rfl
set_option maxRecDepth 100000 in
theorem yr5s_54 : j_code jP 61 54 = some (.aload_n 1) := rfl
set_option maxRecDepth 100000 in
theorem yr5s_55 : j_code jP 61 55 = some (.getfield 15) := rfl
set_option maxRecDepth 100000 in
theorem yr5s_58 : j_code jP 61 58 = some (.iconst 0) := rfl
set_option maxRecDepth 100000 in
theorem yr5s_59 : j_code jP 61 59 = some (.aload_n 0) := rfl
set_option maxRecDepth 100000 in
theorem yr5s_60 : j_code jP 61 60 = some (.getfield 15) := rfl
set_option maxRecDepth 100000 in
theorem yr5s_63 : j_code jP 61 63 = some (.iconst 0) := rfl
set_option maxRecDepth 100000 in
theorem yr5s_64 : j_code jP 61 64 = some (.iconst 5) := rfl
set_option maxRecDepth 100000 in
theorem yr5s_65 : j_code jP 61 65 = some (.invokestatic 84) := rfl
set_option maxRecDepth 100000 in
theorem yr5s_68 : j_code jP 61 68 = some (.aload_n 1) := rfl
set_option maxRecDepth 100000 in
theorem yr5s_69 : j_code jP 61 69 = some (.getfield 18) := rfl
set_option maxRecDepth 100000 in
theorem yr5s_72 : j_code jP 61 72 = some (.iconst 0) := rfl
set_option maxRecDepth 100000 in
theorem yr5s_73 : j_code jP 61 73 = some (.aload_n 0) := rfl
set_option maxRecDepth 100000 in
theorem yr5s_74 : j_code jP 61 74 = some (.getfield 18) := rfl
set_option maxRecDepth 100000 in
theorem yr5s_77 : j_code jP 61 77 = some (.iconst 0) := rfl
set_option maxRecDepth 100000 in
theorem yr5s_78 : j_code jP 61 78 = some (.iconst 5) := rfl
set_option maxRecDepth 100000 in
theorem yr5s_79 : j_code jP 61 79 = some (.invokestatic 84) := rfl
set_option maxRecDepth 100000 in
theorem yr5s_82 : j_code jP 61 82 = some (.aload_n 1) := rfl
set_option maxRecDepth 100000 in
theorem yr5s_83 : j_code jP 61 83 = some (.getfield 21) := rfl
set_option maxRecDepth 100000 in
theorem yr5s_86 : j_code jP 61 86 = some (.iconst 0) := rfl
set_option maxRecDepth 100000 in
theorem yr5s_87 : j_code jP 61 87 = some (.aload_n 0) := rfl
set_option maxRecDepth 100000 in
theorem yr5s_88 : j_code jP 61 88 = some (.getfield 21) := rfl
set_option maxRecDepth 100000 in
theorem yr5s_91 : j_code jP 61 91 = some (.iconst 0) := rfl
set_option maxRecDepth 100000 in
theorem yr5s_92 : j_code jP 61 92 = some (.iconst 5) := rfl
set_option maxRecDepth 100000 in
theorem yr5s_93 : j_code jP 61 93 = some (.invokestatic 84) := rfl
set_option maxRecDepth 100000 in
theorem yr5s_96 : j_code jP 61 96 = some (.aload_n 1) := rfl
set_option maxRecDepth 100000 in
theorem yr5s_97 : j_code jP 61 97 = some (.getfield 24) := rfl
set_option maxRecDepth 100000 in
theorem yr5s_100 : j_code jP 61 100 = some (.iconst 0) := rfl
set_option maxRecDepth 100000 in
theorem yr5s_101 : j_code jP 61 101 = some (.aload_n 0) := rfl
set_option maxRecDepth 100000 in
theorem yr5s_102 : j_code jP 61 102 = some (.getfield 24) := rfl
set_option maxRecDepth 100000 in
theorem yr5s_105 : j_code jP 61 105 = some (.iconst 0) := rfl
set_option maxRecDepth 100000 in
theorem yr5s_106 : j_code jP 61 106 = some (.iconst 5) := rfl
set_option maxRecDepth 100000 in
theorem yr5s_107 : j_code jP 61 107 = some (.invokestatic 84) := rfl
set_option maxRecDepth 100000 in
theorem yr5s_110 : j_code jP 61 110 = some (.aload_n 1) := rfl
set_option maxRecDepth 100000 in
theorem yr5s_111 : j_code jP 61 111 = some (.getfield 27) := rfl
set_option maxRecDepth 100000 in
theorem yr5s_114 : j_code jP 61 114 = some (.iconst 0) := rfl
set_option maxRecDepth 100000 in
theorem yr5s_115 : j_code jP 61 115 = some (.aload_n 0) := rfl
set_option maxRecDepth 100000 in
theorem yr5s_116 : j_code jP 61 116 = some (.getfield 27) := rfl
set_option maxRecDepth 100000 in
theorem yr5s_119 : j_code jP 61 119 = some (.iconst 0) := rfl
set_option maxRecDepth 100000 in
theorem yr5s_120 : j_code jP 61 120 = some (.iconst 5) := rfl
set_option maxRecDepth 100000 in
theorem yr5s_121 : j_code jP 61 121 = some (.invokestatic 84) := rfl
set_option maxRecDepth 100000 in
theorem yr5s_124 : j_code jP 61 124 = some (.aload_n 1) := rfl
set_option maxRecDepth 100000 in
theorem yr5s_125 : j_code jP 61 125 = some (.getfield 30) := rfl
set_option maxRecDepth 100000 in
theorem yr5s_128 : j_code jP 61 128 = some (.iconst 0) := rfl
set_option maxRecDepth 100000 in
theorem yr5s_129 : j_code jP 61 129 = some (.aload_n 0) := rfl
set_option maxRecDepth 100000 in
theorem yr5s_130 : j_code jP 61 130 = some (.getfield 30) := rfl
set_option maxRecDepth 100000 in
theorem yr5s_133 : j_code jP 61 133 = some (.iconst 0) := rfl
set_option maxRecDepth 100000 in
theorem yr5s_134 : j_code jP 61 134 = some (.iconst 5) := rfl
set_option maxRecDepth 100000 in
theorem yr5s_135 : j_code jP 61 135 = some (.invokestatic 84) := rfl
set_option maxRecDepth 100000 in
theorem yr5s_138 : j_code jP 61 138 = some (.aload_n 1) := rfl
set_option maxRecDepth 100000 in
theorem yr5s_139 : j_code jP 61 139 = some (.getfield 33) := rfl
set_option maxRecDepth 100000 in
theorem yr5s_142 : j_code jP 61 142 = some (.iconst 0) := rfl
set_option maxRecDepth 100000 in
theorem yr5s_143 : j_code jP 61 143 = some (.aload_n 0) := rfl
set_option maxRecDepth 100000 in
theorem yr5s_144 : j_code jP 61 144 = some (.getfield 33) := rfl
set_option maxRecDepth 100000 in
theorem yr5s_147 : j_code jP 61 147 = some (.iconst 0) := rfl
set_option maxRecDepth 100000 in
theorem yr5s_148 : j_code jP 61 148 = some (.bipush 6) := rfl
set_option maxRecDepth 100000 in
theorem yr5s_150 : j_code jP 61 150 = some (.invokestatic 84) := rfl
set_option maxRecDepth 100000 in
theorem yr5s_153 : j_code jP 61 153 = some (.aload_n 1) := rfl
set_option maxRecDepth 100000 in
theorem yr5s_154 : j_code jP 61 154 = some (.getfield 36) := rfl
set_option maxRecDepth 100000 in
theorem yr5s_157 : j_code jP 61 157 = some (.iconst 0) := rfl
set_option maxRecDepth 100000 in
theorem yr5s_158 : j_code jP 61 158 = some (.aload_n 0) := rfl
set_option maxRecDepth 100000 in
theorem yr5s_159 : j_code jP 61 159 = some (.getfield 36) := rfl
set_option maxRecDepth 100000 in
theorem yr5s_162 : j_code jP 61 162 = some (.iconst 0) := rfl
set_option maxRecDepth 100000 in
theorem yr5s_163 : j_code jP 61 163 = some (.bipush 6) := rfl
set_option maxRecDepth 100000 in
theorem yr5s_165 : j_code jP 61 165 = some (.invokestatic 84) := rfl
set_option maxRecDepth 100000 in
theorem yr5s_168 : j_code jP 61 168 = some (.aload_n 1) := rfl
set_option maxRecDepth 100000 in
theorem yr5s_169 : j_code jP 61 169 = some (.getfield 39) := rfl
set_option maxRecDepth 100000 in
theorem yr5s_172 : j_code jP 61 172 = some (.iconst 0) := rfl
set_option maxRecDepth 100000 in
theorem yr5s_173 : j_code jP 61 173 = some (.aload_n 0) := rfl
set_option maxRecDepth 100000 in
theorem yr5s_174 : j_code jP 61 174 = some (.getfield 39) := rfl
set_option maxRecDepth 100000 in
theorem yr5s_177 : j_code jP 61 177 = some (.iconst 0) := rfl
set_option maxRecDepth 100000 in
theorem yr5s_178 : j_code jP 61 178 = some (.aload_n 0) := rfl
set_option maxRecDepth 100000 in
theorem yr5s_179 : j_code jP 61 179 = some (.getfield 39) := rfl
set_option maxRecDepth 100000 in
theorem yr5s_182 : j_code jP 61 182 = some (.arraylength) := rfl
set_option maxRecDepth 100000 in
theorem yr5s_183 : j_code jP 61 183 = some (.invokestatic 84) := rfl
set_option maxRecDepth 100000 in
theorem yr5s_186 : j_code jP 61 186 = some (.aload_n 1) := rfl
set_option maxRecDepth 100000 in
theorem yr5s_187 : j_code jP 61 187 = some (.getfield 42) := rfl
set_option maxRecDepth 100000 in
theorem yr5s_190 : j_code jP 61 190 = some (.iconst 0) := rfl
set_option maxRecDepth 100000 in
theorem yr5s_191 : j_code jP 61 191 = some (.aload_n 0) := rfl
set_option maxRecDepth 100000 in
theorem yr5s_192 : j_code jP 61 192 = some (.getfield 42) := rfl
set_option maxRecDepth 100000 in
theorem yr5s_195 : j_code jP 61 195 = some (.iconst 0) := rfl
set_option maxRecDepth 100000 in
theorem yr5s_196 : j_code jP 61 196 = some (.aload_n 0) := rfl
set_option maxRecDepth 100000 in
theorem yr5s_197 : j_code jP 61 197 = some (.getfield 42) := rfl
set_option maxRecDepth 100000 in
theorem yr5s_200 : j_code jP 61 200 = some (.arraylength) := rfl
set_option maxRecDepth 100000 in
theorem yr5s_201 : j_code jP 61 201 = some (.invokestatic 84) := rfl
set_option maxRecDepth 100000 in
theorem yr5s_204 : j_code jP 61 204 = some (.aload_n 1) := rfl
set_option maxRecDepth 100000 in
theorem yr5s_205 : j_code jP 61 205 = some (.getfield 45) := rfl
set_option maxRecDepth 100000 in
theorem yr5s_208 : j_code jP 61 208 = some (.iconst 0) := rfl
set_option maxRecDepth 100000 in
theorem yr5s_209 : j_code jP 61 209 = some (.aload_n 0) := rfl
set_option maxRecDepth 100000 in
theorem yr5s_210 : j_code jP 61 210 = some (.getfield 45) := rfl
set_option maxRecDepth 100000 in
theorem yr5s_213 : j_code jP 61 213 = some (.iconst 0) := rfl
set_option maxRecDepth 100000 in
theorem yr5s_214 : j_code jP 61 214 = some (.aload_n 0) := rfl
set_option maxRecDepth 100000 in
theorem yr5s_215 : j_code jP 61 215 = some (.getfield 45) := rfl
set_option maxRecDepth 100000 in
theorem yr5s_218 : j_code jP 61 218 = some (.arraylength) := rfl
set_option maxRecDepth 100000 in
theorem yr5s_219 : j_code jP 61 219 = some (.invokestatic 84) := rfl
set_option maxRecDepth 100000 in
theorem yr5s_222 : j_code jP 61 222 = some (.aload_n 0) := rfl
set_option maxRecDepth 100000 in
theorem yr5s_223 : j_code jP 61 223 = some (.getfield 60) := rfl
set_option maxRecDepth 100000 in
theorem yr5s_226 : j_code jP 61 226 = some (.aload_n 1) := rfl
set_option maxRecDepth 100000 in
theorem yr5s_227 : j_code jP 61 227 = some (.getfield 60) := rfl
set_option maxRecDepth 100000 in
theorem yr5s_230 : j_code jP 61 230 = some (.invokevirtual 108) := rfl
set_option maxRecDepth 100000 in
theorem yr5s_233 : j_code jP 61 233 = some (.return_) := rfl
set_option maxRecDepth 1000000 in
theorem yr5s_k0 {ly : Value} {mi : Int32} {shu : Int32} {bus : Int32} {lks : Int32} {lys : Nat} {mis : Int32} {shus : Int32} {buss : Int32} {lkss : Int32} {d : Nat} {lv : J_L} {h h0 : J_H} {Q : Option Value → J_H → Prop} (L : LK lv [(0, .ref 156), (1, .ref 4)]) (K : KN h [(4, .inl (7, [.ref lys, .int mis, .int shus, .int buss, .ref 5, .ref 6, .ref 7, .ref 8, .ref 9, .ref 10, .ref 11, .ref 12, .ref 13, .ref 14, .ref 15, .int lkss, .ref 16, .ref 17, .ref 20])), (156, .inl (7, [ly, .int mi, .int shu, .int bus, .ref 157, .ref 158, .ref 159, .ref 160, .ref 161, .ref 162, .ref 163, .ref 164, .ref 165, .ref 166, .ref 167, .int lks, .ref 168, .ref 169, .ref 172]))] h0) (kk : ∀ lv h, LK lv [(0, .ref 156), (1, .ref 4)] → KN h [(4, .inl (7, [.ref lys, .int mis, .int shus, .int buss, .ref 5, .ref 6, .ref 7, .ref 8, .ref 9, .ref 10, .ref 11, .ref 12, .ref 13, .ref 14, .ref 15, .int lkss, .ref 16, .ref 17, .ref 20])), (156, .inl (7, [.ref lys, .int mis, .int shus, .int buss, .ref 157, .ref 158, .ref 159, .ref 160, .ref 161, .ref 162, .ref 163, .ref 164, .ref 165, .ref 166, .ref 167, .int lkss, .ref 168, .ref 169, .ref 172]))] h0 → j_V jP d 61 40 lv [] h Q) : j_V jP d 61 0 lv [] h Q := by
  refine j_V.ldL yr5s_M yr5s_0 rfl (i := 0) (kd := 2) (v := .ref 156) (pcJ := 1) rfl L rfl rfl rfl ?_
  refine j_V.ldL yr5s_M yr5s_1 rfl (i := 1) (kd := 2) (v := .ref 4) (pcJ := 2) rfl L rfl rfl rfl ?_
  refine j_V.getK yr5s_M yr5s_2 (ci := 7) (j := 0) rfl K rfl rfl ?_
  refine j_V.putK yr5s_M yr5s_5 (ci := 7) (j := 0) (k' := [(4, .inl (7, [.ref lys, .int mis, .int shus, .int buss, .ref 5, .ref 6, .ref 7, .ref 8, .ref 9, .ref 10, .ref 11, .ref 12, .ref 13, .ref 14, .ref 15, .int lkss, .ref 16, .ref 17, .ref 20])), (156, .inl (7, [.ref lys, .int mi, .int shu, .int bus, .ref 157, .ref 158, .ref 159, .ref 160, .ref 161, .ref 162, .ref 163, .ref 164, .ref 165, .ref 166, .ref 167, .int lks, .ref 168, .ref 169, .ref 172]))]) rfl K rfl (Nat.le_of_ble_eq_true rfl) rfl (Or.inl rfl) rfl rfl (fun h K => ?_)
  refine j_V.ldL yr5s_M yr5s_8 rfl (i := 0) (kd := 2) (v := .ref 156) (pcJ := 9) rfl L rfl rfl rfl ?_
  refine j_V.ldL yr5s_M yr5s_9 rfl (i := 1) (kd := 2) (v := .ref 4) (pcJ := 10) rfl L rfl rfl rfl ?_
  refine j_V.getK yr5s_M yr5s_10 (ci := 7) (j := 1) rfl K rfl rfl ?_
  refine j_V.putK yr5s_M yr5s_13 (ci := 7) (j := 1) (k' := [(4, .inl (7, [.ref lys, .int mis, .int shus, .int buss, .ref 5, .ref 6, .ref 7, .ref 8, .ref 9, .ref 10, .ref 11, .ref 12, .ref 13, .ref 14, .ref 15, .int lkss, .ref 16, .ref 17, .ref 20])), (156, .inl (7, [.ref lys, .int mis, .int shu, .int bus, .ref 157, .ref 158, .ref 159, .ref 160, .ref 161, .ref 162, .ref 163, .ref 164, .ref 165, .ref 166, .ref 167, .int lks, .ref 168, .ref 169, .ref 172]))]) rfl K rfl (Nat.le_of_ble_eq_true rfl) rfl (Or.inl rfl) rfl rfl (fun h K => ?_)
  refine j_V.ldL yr5s_M yr5s_16 rfl (i := 0) (kd := 2) (v := .ref 156) (pcJ := 17) rfl L rfl rfl rfl ?_
  refine j_V.ldL yr5s_M yr5s_17 rfl (i := 1) (kd := 2) (v := .ref 4) (pcJ := 18) rfl L rfl rfl rfl ?_
  refine j_V.getK yr5s_M yr5s_18 (ci := 7) (j := 2) rfl K rfl rfl ?_
  refine j_V.putK yr5s_M yr5s_21 (ci := 7) (j := 2) (k' := [(4, .inl (7, [.ref lys, .int mis, .int shus, .int buss, .ref 5, .ref 6, .ref 7, .ref 8, .ref 9, .ref 10, .ref 11, .ref 12, .ref 13, .ref 14, .ref 15, .int lkss, .ref 16, .ref 17, .ref 20])), (156, .inl (7, [.ref lys, .int mis, .int shus, .int bus, .ref 157, .ref 158, .ref 159, .ref 160, .ref 161, .ref 162, .ref 163, .ref 164, .ref 165, .ref 166, .ref 167, .int lks, .ref 168, .ref 169, .ref 172]))]) rfl K rfl (Nat.le_of_ble_eq_true rfl) rfl (Or.inl rfl) rfl rfl (fun h K => ?_)
  refine j_V.ldL yr5s_M yr5s_24 rfl (i := 0) (kd := 2) (v := .ref 156) (pcJ := 25) rfl L rfl rfl rfl ?_
  refine j_V.ldL yr5s_M yr5s_25 rfl (i := 1) (kd := 2) (v := .ref 4) (pcJ := 26) rfl L rfl rfl rfl ?_
  refine j_V.getK yr5s_M yr5s_26 (ci := 7) (j := 3) rfl K rfl rfl ?_
  refine j_V.putK yr5s_M yr5s_29 (ci := 7) (j := 3) (k' := [(4, .inl (7, [.ref lys, .int mis, .int shus, .int buss, .ref 5, .ref 6, .ref 7, .ref 8, .ref 9, .ref 10, .ref 11, .ref 12, .ref 13, .ref 14, .ref 15, .int lkss, .ref 16, .ref 17, .ref 20])), (156, .inl (7, [.ref lys, .int mis, .int shus, .int buss, .ref 157, .ref 158, .ref 159, .ref 160, .ref 161, .ref 162, .ref 163, .ref 164, .ref 165, .ref 166, .ref 167, .int lks, .ref 168, .ref 169, .ref 172]))]) rfl K rfl (Nat.le_of_ble_eq_true rfl) rfl (Or.inl rfl) rfl rfl (fun h K => ?_)
  refine j_V.ldL yr5s_M yr5s_32 rfl (i := 0) (kd := 2) (v := .ref 156) (pcJ := 33) rfl L rfl rfl rfl ?_
  refine j_V.ldL yr5s_M yr5s_33 rfl (i := 1) (kd := 2) (v := .ref 4) (pcJ := 34) rfl L rfl rfl rfl ?_
  refine j_V.getK yr5s_M yr5s_34 (ci := 7) (j := 15) rfl K rfl rfl ?_
  refine j_V.putK yr5s_M yr5s_37 (ci := 7) (j := 15) (k' := [(4, .inl (7, [.ref lys, .int mis, .int shus, .int buss, .ref 5, .ref 6, .ref 7, .ref 8, .ref 9, .ref 10, .ref 11, .ref 12, .ref 13, .ref 14, .ref 15, .int lkss, .ref 16, .ref 17, .ref 20])), (156, .inl (7, [.ref lys, .int mis, .int shus, .int buss, .ref 157, .ref 158, .ref 159, .ref 160, .ref 161, .ref 162, .ref 163, .ref 164, .ref 165, .ref 166, .ref 167, .int lkss, .ref 168, .ref 169, .ref 172]))]) rfl K rfl (Nat.le_of_ble_eq_true rfl) rfl (Or.inl rfl) rfl rfl (fun h K => ?_)
  exact kk _ _ L K
set_option maxRecDepth 1000000 in
theorem yr5s_k40 {rk : List Int32} {sta : List Int32} {ph : List Int32} {lys : Nat} {mis : Int32} {shus : Int32} {buss : Int32} {lkss : Int32} {rks : List Int32} {stas : List Int32} {phs : List Int32} {d : Nat} {lv : J_L} {h h0 : J_H} {Q : Option Value → J_H → Prop} (L : LK lv [(0, .ref 156), (1, .ref 4)]) (K : KN h [(4, .inl (7, [.ref lys, .int mis, .int shus, .int buss, .ref 5, .ref 6, .ref 7, .ref 8, .ref 9, .ref 10, .ref 11, .ref 12, .ref 13, .ref 14, .ref 15, .int lkss, .ref 16, .ref 17, .ref 20])), (5, .inr (.inl (0, rks))), (6, .inr (.inl (0, stas))), (7, .inr (.inl (0, phs))), (156, .inl (7, [.ref lys, .int mis, .int shus, .int buss, .ref 157, .ref 158, .ref 159, .ref 160, .ref 161, .ref 162, .ref 163, .ref 164, .ref 165, .ref 166, .ref 167, .int lkss, .ref 168, .ref 169, .ref 172])), (157, .inr (.inl (0, rk))), (158, .inr (.inl (0, sta))), (159, .inr (.inl (0, ph)))] h0) (kk : ∀ lv h, LK lv [(0, .ref 156), (1, .ref 4)] → KN h [(4, .inl (7, [.ref lys, .int mis, .int shus, .int buss, .ref 5, .ref 6, .ref 7, .ref 8, .ref 9, .ref 10, .ref 11, .ref 12, .ref 13, .ref 14, .ref 15, .int lkss, .ref 16, .ref 17, .ref 20])), (5, .inr (.inl (0, rks))), (6, .inr (.inl (0, stas))), (7, .inr (.inl (0, phs))), (156, .inl (7, [.ref lys, .int mis, .int shus, .int buss, .ref 157, .ref 158, .ref 159, .ref 160, .ref 161, .ref 162, .ref 163, .ref 164, .ref 165, .ref 166, .ref 167, .int lkss, .ref 168, .ref 169, .ref 172])), (157, .inr (.inl (0, (aC 5 rks rk)))), (158, .inr (.inl (0, (aC 5 stas sta)))), (159, .inr (.inl (0, (aC 5 phs ph))))] h0 → j_V jP d 61 82 lv [] h Q) : j_V jP d 61 40 lv [] h Q := by
  refine j_V.ldL yr5s_M yr5s_40 rfl (i := 1) (kd := 2) (v := .ref 4) (pcJ := 41) rfl L rfl rfl rfl ?_
  refine j_V.getK yr5s_M yr5s_41 (ci := 7) (j := 4) rfl K rfl rfl ?_
  refine j_V.one yr5s_M yr5s_44 (by decide) (pcJ := 45) (stJ := [.int 0, .ref 5]) rfl ?_
  refine j_V.ldL yr5s_M yr5s_45 rfl (i := 0) (kd := 2) (v := .ref 156) (pcJ := 46) rfl L rfl rfl rfl ?_
  refine j_V.getK yr5s_M yr5s_46 (ci := 7) (j := 4) rfl K rfl rfl ?_
  refine j_V.one yr5s_M yr5s_49 (by decide) (pcJ := 50) (stJ := [.int 0, .ref 157, .int 0, .ref 5]) rfl ?_
  refine j_V.one yr5s_M yr5s_50 (by decide) (pcJ := 51) (stJ := [.int 5, .int 0, .ref 157, .int 0, .ref 5]) rfl ?_
  refine j_V.acp yr5s_M yr5s_51 rfl rfl K rfl rfl rfl (fun h K => ?_)
  refine j_V.ldL yr5s_M yr5s_54 rfl (i := 1) (kd := 2) (v := .ref 4) (pcJ := 55) rfl L rfl rfl rfl ?_
  refine j_V.getK yr5s_M yr5s_55 (ci := 7) (j := 5) rfl K rfl rfl ?_
  refine j_V.one yr5s_M yr5s_58 (by decide) (pcJ := 59) (stJ := [.int 0, .ref 6]) rfl ?_
  refine j_V.ldL yr5s_M yr5s_59 rfl (i := 0) (kd := 2) (v := .ref 156) (pcJ := 60) rfl L rfl rfl rfl ?_
  refine j_V.getK yr5s_M yr5s_60 (ci := 7) (j := 5) rfl K rfl rfl ?_
  refine j_V.one yr5s_M yr5s_63 (by decide) (pcJ := 64) (stJ := [.int 0, .ref 158, .int 0, .ref 6]) rfl ?_
  refine j_V.one yr5s_M yr5s_64 (by decide) (pcJ := 65) (stJ := [.int 5, .int 0, .ref 158, .int 0, .ref 6]) rfl ?_
  refine j_V.acp yr5s_M yr5s_65 rfl rfl K rfl rfl rfl (fun h K => ?_)
  refine j_V.ldL yr5s_M yr5s_68 rfl (i := 1) (kd := 2) (v := .ref 4) (pcJ := 69) rfl L rfl rfl rfl ?_
  refine j_V.getK yr5s_M yr5s_69 (ci := 7) (j := 6) rfl K rfl rfl ?_
  refine j_V.one yr5s_M yr5s_72 (by decide) (pcJ := 73) (stJ := [.int 0, .ref 7]) rfl ?_
  refine j_V.ldL yr5s_M yr5s_73 rfl (i := 0) (kd := 2) (v := .ref 156) (pcJ := 74) rfl L rfl rfl rfl ?_
  refine j_V.getK yr5s_M yr5s_74 (ci := 7) (j := 6) rfl K rfl rfl ?_
  refine j_V.one yr5s_M yr5s_77 (by decide) (pcJ := 78) (stJ := [.int 0, .ref 159, .int 0, .ref 7]) rfl ?_
  refine j_V.one yr5s_M yr5s_78 (by decide) (pcJ := 79) (stJ := [.int 5, .int 0, .ref 159, .int 0, .ref 7]) rfl ?_
  refine j_V.acp yr5s_M yr5s_79 rfl rfl K rfl rfl rfl (fun h K => ?_)
  exact kk _ _ L K
set_option maxRecDepth 1000000 in
theorem yr5s_k82 {sp : List Int32} {ce : List Int32} {du : List Int32} {lys : Nat} {mis : Int32} {shus : Int32} {buss : Int32} {lkss : Int32} {sps : List Int32} {ces : List Int32} {dus : List Int32} {d : Nat} {lv : J_L} {h h0 : J_H} {Q : Option Value → J_H → Prop} (L : LK lv [(0, .ref 156), (1, .ref 4)]) (K : KN h [(4, .inl (7, [.ref lys, .int mis, .int shus, .int buss, .ref 5, .ref 6, .ref 7, .ref 8, .ref 9, .ref 10, .ref 11, .ref 12, .ref 13, .ref 14, .ref 15, .int lkss, .ref 16, .ref 17, .ref 20])), (8, .inr (.inl (0, sps))), (9, .inr (.inl (0, ces))), (10, .inr (.inl (0, dus))), (156, .inl (7, [.ref lys, .int mis, .int shus, .int buss, .ref 157, .ref 158, .ref 159, .ref 160, .ref 161, .ref 162, .ref 163, .ref 164, .ref 165, .ref 166, .ref 167, .int lkss, .ref 168, .ref 169, .ref 172])), (160, .inr (.inl (0, sp))), (161, .inr (.inl (0, ce))), (162, .inr (.inl (0, du)))] h0) (kk : ∀ lv h, LK lv [(0, .ref 156), (1, .ref 4)] → KN h [(4, .inl (7, [.ref lys, .int mis, .int shus, .int buss, .ref 5, .ref 6, .ref 7, .ref 8, .ref 9, .ref 10, .ref 11, .ref 12, .ref 13, .ref 14, .ref 15, .int lkss, .ref 16, .ref 17, .ref 20])), (8, .inr (.inl (0, sps))), (9, .inr (.inl (0, ces))), (10, .inr (.inl (0, dus))), (156, .inl (7, [.ref lys, .int mis, .int shus, .int buss, .ref 157, .ref 158, .ref 159, .ref 160, .ref 161, .ref 162, .ref 163, .ref 164, .ref 165, .ref 166, .ref 167, .int lkss, .ref 168, .ref 169, .ref 172])), (160, .inr (.inl (0, (aC 5 sps sp)))), (161, .inr (.inl (0, (aC 5 ces ce)))), (162, .inr (.inl (0, (aC 5 dus du))))] h0 → j_V jP d 61 124 lv [] h Q) : j_V jP d 61 82 lv [] h Q := by
  refine j_V.ldL yr5s_M yr5s_82 rfl (i := 1) (kd := 2) (v := .ref 4) (pcJ := 83) rfl L rfl rfl rfl ?_
  refine j_V.getK yr5s_M yr5s_83 (ci := 7) (j := 7) rfl K rfl rfl ?_
  refine j_V.one yr5s_M yr5s_86 (by decide) (pcJ := 87) (stJ := [.int 0, .ref 8]) rfl ?_
  refine j_V.ldL yr5s_M yr5s_87 rfl (i := 0) (kd := 2) (v := .ref 156) (pcJ := 88) rfl L rfl rfl rfl ?_
  refine j_V.getK yr5s_M yr5s_88 (ci := 7) (j := 7) rfl K rfl rfl ?_
  refine j_V.one yr5s_M yr5s_91 (by decide) (pcJ := 92) (stJ := [.int 0, .ref 160, .int 0, .ref 8]) rfl ?_
  refine j_V.one yr5s_M yr5s_92 (by decide) (pcJ := 93) (stJ := [.int 5, .int 0, .ref 160, .int 0, .ref 8]) rfl ?_
  refine j_V.acp yr5s_M yr5s_93 rfl rfl K rfl rfl rfl (fun h K => ?_)
  refine j_V.ldL yr5s_M yr5s_96 rfl (i := 1) (kd := 2) (v := .ref 4) (pcJ := 97) rfl L rfl rfl rfl ?_
  refine j_V.getK yr5s_M yr5s_97 (ci := 7) (j := 8) rfl K rfl rfl ?_
  refine j_V.one yr5s_M yr5s_100 (by decide) (pcJ := 101) (stJ := [.int 0, .ref 9]) rfl ?_
  refine j_V.ldL yr5s_M yr5s_101 rfl (i := 0) (kd := 2) (v := .ref 156) (pcJ := 102) rfl L rfl rfl rfl ?_
  refine j_V.getK yr5s_M yr5s_102 (ci := 7) (j := 8) rfl K rfl rfl ?_
  refine j_V.one yr5s_M yr5s_105 (by decide) (pcJ := 106) (stJ := [.int 0, .ref 161, .int 0, .ref 9]) rfl ?_
  refine j_V.one yr5s_M yr5s_106 (by decide) (pcJ := 107) (stJ := [.int 5, .int 0, .ref 161, .int 0, .ref 9]) rfl ?_
  refine j_V.acp yr5s_M yr5s_107 rfl rfl K rfl rfl rfl (fun h K => ?_)
  refine j_V.ldL yr5s_M yr5s_110 rfl (i := 1) (kd := 2) (v := .ref 4) (pcJ := 111) rfl L rfl rfl rfl ?_
  refine j_V.getK yr5s_M yr5s_111 (ci := 7) (j := 9) rfl K rfl rfl ?_
  refine j_V.one yr5s_M yr5s_114 (by decide) (pcJ := 115) (stJ := [.int 0, .ref 10]) rfl ?_
  refine j_V.ldL yr5s_M yr5s_115 rfl (i := 0) (kd := 2) (v := .ref 156) (pcJ := 116) rfl L rfl rfl rfl ?_
  refine j_V.getK yr5s_M yr5s_116 (ci := 7) (j := 9) rfl K rfl rfl ?_
  refine j_V.one yr5s_M yr5s_119 (by decide) (pcJ := 120) (stJ := [.int 0, .ref 162, .int 0, .ref 10]) rfl ?_
  refine j_V.one yr5s_M yr5s_120 (by decide) (pcJ := 121) (stJ := [.int 5, .int 0, .ref 162, .int 0, .ref 10]) rfl ?_
  refine j_V.acp yr5s_M yr5s_121 rfl rfl K rfl rfl rfl (fun h K => ?_)
  exact kk _ _ L K
set_option maxRecDepth 1000000 in
theorem yr5s_k124 {he : List Int32} {ri : List Int32} {us : List Int32} {lys : Nat} {mis : Int32} {shus : Int32} {buss : Int32} {lkss : Int32} {hes : List Int32} {ris : List Int32} {uss : List Int32} {d : Nat} {lv : J_L} {h h0 : J_H} {Q : Option Value → J_H → Prop} (L : LK lv [(0, .ref 156), (1, .ref 4)]) (K : KN h [(4, .inl (7, [.ref lys, .int mis, .int shus, .int buss, .ref 5, .ref 6, .ref 7, .ref 8, .ref 9, .ref 10, .ref 11, .ref 12, .ref 13, .ref 14, .ref 15, .int lkss, .ref 16, .ref 17, .ref 20])), (11, .inr (.inl (0, hes))), (12, .inr (.inl (0, ris))), (13, .inr (.inl (0, uss))), (156, .inl (7, [.ref lys, .int mis, .int shus, .int buss, .ref 157, .ref 158, .ref 159, .ref 160, .ref 161, .ref 162, .ref 163, .ref 164, .ref 165, .ref 166, .ref 167, .int lkss, .ref 168, .ref 169, .ref 172])), (163, .inr (.inl (0, he))), (164, .inr (.inl (0, ri))), (165, .inr (.inl (0, us)))] h0) (kk : ∀ lv h, LK lv [(0, .ref 156), (1, .ref 4)] → KN h [(4, .inl (7, [.ref lys, .int mis, .int shus, .int buss, .ref 5, .ref 6, .ref 7, .ref 8, .ref 9, .ref 10, .ref 11, .ref 12, .ref 13, .ref 14, .ref 15, .int lkss, .ref 16, .ref 17, .ref 20])), (11, .inr (.inl (0, hes))), (12, .inr (.inl (0, ris))), (13, .inr (.inl (0, uss))), (156, .inl (7, [.ref lys, .int mis, .int shus, .int buss, .ref 157, .ref 158, .ref 159, .ref 160, .ref 161, .ref 162, .ref 163, .ref 164, .ref 165, .ref 166, .ref 167, .int lkss, .ref 168, .ref 169, .ref 172])), (163, .inr (.inl (0, (aC 5 hes he)))), (164, .inr (.inl (0, (aC 6 ris ri)))), (165, .inr (.inl (0, (aC 6 uss us))))] h0 → j_V jP d 61 168 lv [] h Q) : j_V jP d 61 124 lv [] h Q := by
  refine j_V.ldL yr5s_M yr5s_124 rfl (i := 1) (kd := 2) (v := .ref 4) (pcJ := 125) rfl L rfl rfl rfl ?_
  refine j_V.getK yr5s_M yr5s_125 (ci := 7) (j := 10) rfl K rfl rfl ?_
  refine j_V.one yr5s_M yr5s_128 (by decide) (pcJ := 129) (stJ := [.int 0, .ref 11]) rfl ?_
  refine j_V.ldL yr5s_M yr5s_129 rfl (i := 0) (kd := 2) (v := .ref 156) (pcJ := 130) rfl L rfl rfl rfl ?_
  refine j_V.getK yr5s_M yr5s_130 (ci := 7) (j := 10) rfl K rfl rfl ?_
  refine j_V.one yr5s_M yr5s_133 (by decide) (pcJ := 134) (stJ := [.int 0, .ref 163, .int 0, .ref 11]) rfl ?_
  refine j_V.one yr5s_M yr5s_134 (by decide) (pcJ := 135) (stJ := [.int 5, .int 0, .ref 163, .int 0, .ref 11]) rfl ?_
  refine j_V.acp yr5s_M yr5s_135 rfl rfl K rfl rfl rfl (fun h K => ?_)
  refine j_V.ldL yr5s_M yr5s_138 rfl (i := 1) (kd := 2) (v := .ref 4) (pcJ := 139) rfl L rfl rfl rfl ?_
  refine j_V.getK yr5s_M yr5s_139 (ci := 7) (j := 11) rfl K rfl rfl ?_
  refine j_V.one yr5s_M yr5s_142 (by decide) (pcJ := 143) (stJ := [.int 0, .ref 12]) rfl ?_
  refine j_V.ldL yr5s_M yr5s_143 rfl (i := 0) (kd := 2) (v := .ref 156) (pcJ := 144) rfl L rfl rfl rfl ?_
  refine j_V.getK yr5s_M yr5s_144 (ci := 7) (j := 11) rfl K rfl rfl ?_
  refine j_V.one yr5s_M yr5s_147 (by decide) (pcJ := 148) (stJ := [.int 0, .ref 164, .int 0, .ref 12]) rfl ?_
  refine j_V.one yr5s_M yr5s_148 (by decide) (pcJ := 150) (stJ := [.int 6, .int 0, .ref 164, .int 0, .ref 12]) rfl ?_
  refine j_V.acp yr5s_M yr5s_150 rfl rfl K rfl rfl rfl (fun h K => ?_)
  refine j_V.ldL yr5s_M yr5s_153 rfl (i := 1) (kd := 2) (v := .ref 4) (pcJ := 154) rfl L rfl rfl rfl ?_
  refine j_V.getK yr5s_M yr5s_154 (ci := 7) (j := 12) rfl K rfl rfl ?_
  refine j_V.one yr5s_M yr5s_157 (by decide) (pcJ := 158) (stJ := [.int 0, .ref 13]) rfl ?_
  refine j_V.ldL yr5s_M yr5s_158 rfl (i := 0) (kd := 2) (v := .ref 156) (pcJ := 159) rfl L rfl rfl rfl ?_
  refine j_V.getK yr5s_M yr5s_159 (ci := 7) (j := 12) rfl K rfl rfl ?_
  refine j_V.one yr5s_M yr5s_162 (by decide) (pcJ := 163) (stJ := [.int 0, .ref 165, .int 0, .ref 13]) rfl ?_
  refine j_V.one yr5s_M yr5s_163 (by decide) (pcJ := 165) (stJ := [.int 6, .int 0, .ref 165, .int 0, .ref 13]) rfl ?_
  refine j_V.acp yr5s_M yr5s_165 rfl rfl K rfl rfl rfl (fun h K => ?_)
  exact kk _ _ L K
set_option maxRecDepth 1000000 in
theorem yr5s_k168 {cm : List Int32} {lf : List Int32} {lkd : List Int32} {lys : Nat} {mis : Int32} {shus : Int32} {buss : Int32} {lkss : Int32} {cms : List Int32} {lfs : List Int32} {lkds : List Int32} {d : Nat} {lv : J_L} {h h0 : J_H} {Q : Option Value → J_H → Prop} (L : LK lv [(0, .ref 156), (1, .ref 4)]) (K : KN h [(4, .inl (7, [.ref lys, .int mis, .int shus, .int buss, .ref 5, .ref 6, .ref 7, .ref 8, .ref 9, .ref 10, .ref 11, .ref 12, .ref 13, .ref 14, .ref 15, .int lkss, .ref 16, .ref 17, .ref 20])), (14, .inr (.inl (0, cms))), (15, .inr (.inl (0, lfs))), (16, .inr (.inl (0, lkds))), (156, .inl (7, [.ref lys, .int mis, .int shus, .int buss, .ref 157, .ref 158, .ref 159, .ref 160, .ref 161, .ref 162, .ref 163, .ref 164, .ref 165, .ref 166, .ref 167, .int lkss, .ref 168, .ref 169, .ref 172])), (166, .inr (.inl (0, cm))), (167, .inr (.inl (0, lf))), (168, .inr (.inl (0, lkd)))] h0) (kk : ∀ lv h, LK lv [(0, .ref 156), (1, .ref 4)] → KN h [(4, .inl (7, [.ref lys, .int mis, .int shus, .int buss, .ref 5, .ref 6, .ref 7, .ref 8, .ref 9, .ref 10, .ref 11, .ref 12, .ref 13, .ref 14, .ref 15, .int lkss, .ref 16, .ref 17, .ref 20])), (14, .inr (.inl (0, cms))), (15, .inr (.inl (0, lfs))), (16, .inr (.inl (0, lkds))), (156, .inl (7, [.ref lys, .int mis, .int shus, .int buss, .ref 157, .ref 158, .ref 159, .ref 160, .ref 161, .ref 162, .ref 163, .ref 164, .ref 165, .ref 166, .ref 167, .int lkss, .ref 168, .ref 169, .ref 172])), (166, .inr (.inl (0, (aC (nI cm.length) cms cm)))), (167, .inr (.inl (0, (aC (nI lf.length) lfs lf)))), (168, .inr (.inl (0, (aC (nI lkd.length) lkds lkd))))] h0 → j_V jP d 61 222 lv [] h Q) : j_V jP d 61 168 lv [] h Q := by
  refine j_V.ldL yr5s_M yr5s_168 rfl (i := 1) (kd := 2) (v := .ref 4) (pcJ := 169) rfl L rfl rfl rfl ?_
  refine j_V.getK yr5s_M yr5s_169 (ci := 7) (j := 13) rfl K rfl rfl ?_
  refine j_V.one yr5s_M yr5s_172 (by decide) (pcJ := 173) (stJ := [.int 0, .ref 14]) rfl ?_
  refine j_V.ldL yr5s_M yr5s_173 rfl (i := 0) (kd := 2) (v := .ref 156) (pcJ := 174) rfl L rfl rfl rfl ?_
  refine j_V.getK yr5s_M yr5s_174 (ci := 7) (j := 13) rfl K rfl rfl ?_
  refine j_V.one yr5s_M yr5s_177 (by decide) (pcJ := 178) (stJ := [.int 0, .ref 166, .int 0, .ref 14]) rfl ?_
  refine j_V.ldL yr5s_M yr5s_178 rfl (i := 0) (kd := 2) (v := .ref 156) (pcJ := 179) rfl L rfl rfl rfl ?_
  refine j_V.getK yr5s_M yr5s_179 (ci := 7) (j := 13) rfl K rfl rfl ?_
  refine j_V.alnA yr5s_M yr5s_182 K rfl ?_
  refine j_V.acp yr5s_M yr5s_183 rfl rfl K rfl rfl rfl (fun h K => ?_)
  refine j_V.ldL yr5s_M yr5s_186 rfl (i := 1) (kd := 2) (v := .ref 4) (pcJ := 187) rfl L rfl rfl rfl ?_
  refine j_V.getK yr5s_M yr5s_187 (ci := 7) (j := 14) rfl K rfl rfl ?_
  refine j_V.one yr5s_M yr5s_190 (by decide) (pcJ := 191) (stJ := [.int 0, .ref 15]) rfl ?_
  refine j_V.ldL yr5s_M yr5s_191 rfl (i := 0) (kd := 2) (v := .ref 156) (pcJ := 192) rfl L rfl rfl rfl ?_
  refine j_V.getK yr5s_M yr5s_192 (ci := 7) (j := 14) rfl K rfl rfl ?_
  refine j_V.one yr5s_M yr5s_195 (by decide) (pcJ := 196) (stJ := [.int 0, .ref 167, .int 0, .ref 15]) rfl ?_
  refine j_V.ldL yr5s_M yr5s_196 rfl (i := 0) (kd := 2) (v := .ref 156) (pcJ := 197) rfl L rfl rfl rfl ?_
  refine j_V.getK yr5s_M yr5s_197 (ci := 7) (j := 14) rfl K rfl rfl ?_
  refine j_V.alnA yr5s_M yr5s_200 K rfl ?_
  refine j_V.acp yr5s_M yr5s_201 rfl rfl K rfl rfl rfl (fun h K => ?_)
  refine j_V.ldL yr5s_M yr5s_204 rfl (i := 1) (kd := 2) (v := .ref 4) (pcJ := 205) rfl L rfl rfl rfl ?_
  refine j_V.getK yr5s_M yr5s_205 (ci := 7) (j := 16) rfl K rfl rfl ?_
  refine j_V.one yr5s_M yr5s_208 (by decide) (pcJ := 209) (stJ := [.int 0, .ref 16]) rfl ?_
  refine j_V.ldL yr5s_M yr5s_209 rfl (i := 0) (kd := 2) (v := .ref 156) (pcJ := 210) rfl L rfl rfl rfl ?_
  refine j_V.getK yr5s_M yr5s_210 (ci := 7) (j := 16) rfl K rfl rfl ?_
  refine j_V.one yr5s_M yr5s_213 (by decide) (pcJ := 214) (stJ := [.int 0, .ref 168, .int 0, .ref 16]) rfl ?_
  refine j_V.ldL yr5s_M yr5s_214 rfl (i := 0) (kd := 2) (v := .ref 156) (pcJ := 215) rfl L rfl rfl rfl ?_
  refine j_V.getK yr5s_M yr5s_215 (ci := 7) (j := 16) rfl K rfl rfl ?_
  refine j_V.alnA yr5s_M yr5s_218 K rfl ?_
  refine j_V.acp yr5s_M yr5s_219 rfl rfl K rfl rfl rfl (fun h K => ?_)
  exact kk _ _ L K
set_option maxRecDepth 1000000 in
theorem yr5s_ok {ly : Value} {mi : Int32} {shu : Int32} {bus : Int32} {lks : Int32} {rk : List Int32} {sta : List Int32} {ph : List Int32} {sp : List Int32} {ce : List Int32} {du : List Int32} {he : List Int32} {ri : List Int32} {us : List Int32} {cm : List Int32} {lf : List Int32} {lkd : List Int32} {pev : Int32} {pms : List Int32} {pmm : List Int32} {pmt : List Int32} {pst : List Int32} {pwa : List Int32} {prs : List Int32} {prr : List Int32} {pfa : List Int32} {lys : Nat} {mis : Int32} {shus : Int32} {buss : Int32} {lkss : Int32} {rks : List Int32} {stas : List Int32} {phs : List Int32} {sps : List Int32} {ces : List Int32} {dus : List Int32} {hes : List Int32} {ris : List Int32} {uss : List Int32} {cms : List Int32} {lfs : List Int32} {lkds : List Int32} {pevs : Int32} {pmss : List Int32} {pmms : List Int32} {pmts : List Int32} {psts : List Int32} {pwas : List Int32} {prss : List Int32} {prrs : List Int32} {pfas : List Int32} {d : Nat} {h h0 : J_H} (K : KN h [(4, .inl (7, [.ref lys, .int mis, .int shus, .int buss, .ref 5, .ref 6, .ref 7, .ref 8, .ref 9, .ref 10, .ref 11, .ref 12, .ref 13, .ref 14, .ref 15, .int lkss, .ref 16, .ref 17, .ref 20])), (5, .inr (.inl (0, rks))), (6, .inr (.inl (0, stas))), (7, .inr (.inl (0, phs))), (8, .inr (.inl (0, sps))), (9, .inr (.inl (0, ces))), (10, .inr (.inl (0, dus))), (11, .inr (.inl (0, hes))), (12, .inr (.inl (0, ris))), (13, .inr (.inl (0, uss))), (14, .inr (.inl (0, cms))), (15, .inr (.inl (0, lfs))), (16, .inr (.inl (0, lkds))), (20, .inl (3, [.ref 21, .ref 22, .ref 23, .ref 24, .ref 25, .ref 26, .ref 27, .ref 28, .int pevs, .int 1])), (21, .inr (.inl (0, pmss))), (22, .inr (.inl (0, pmms))), (23, .inr (.inl (0, pmts))), (24, .inr (.inl (0, psts))), (25, .inr (.inl (0, pwas))), (26, .inr (.inl (0, prss))), (27, .inr (.inl (0, prrs))), (28, .inr (.inl (0, pfas))), (156, .inl (7, [ly, .int mi, .int shu, .int bus, .ref 157, .ref 158, .ref 159, .ref 160, .ref 161, .ref 162, .ref 163, .ref 164, .ref 165, .ref 166, .ref 167, .int lks, .ref 168, .ref 169, .ref 172])), (157, .inr (.inl (0, rk))), (158, .inr (.inl (0, sta))), (159, .inr (.inl (0, ph))), (160, .inr (.inl (0, sp))), (161, .inr (.inl (0, ce))), (162, .inr (.inl (0, du))), (163, .inr (.inl (0, he))), (164, .inr (.inl (0, ri))), (165, .inr (.inl (0, us))), (166, .inr (.inl (0, cm))), (167, .inr (.inl (0, lf))), (168, .inr (.inl (0, lkd))), (172, .inl (3, [.ref 173, .ref 174, .ref 175, .ref 176, .ref 177, .ref 178, .ref 179, .ref 180, .int pev, .int 1])), (173, .inr (.inl (0, pms))), (174, .inr (.inl (0, pmm))), (175, .inr (.inl (0, pmt))), (176, .inr (.inl (0, pst))), (177, .inr (.inl (0, pwa))), (178, .inr (.inl (0, prs))), (179, .inr (.inl (0, prr))), (180, .inr (.inl (0, pfa)))] h0) : j_V jP d 61 0 (lv_args 0 [.ref 156, .ref 4]) [] h (fun rv h' => rv = none ∧ KN h' [(4, .inl (7, [.ref lys, .int mis, .int shus, .int buss, .ref 5, .ref 6, .ref 7, .ref 8, .ref 9, .ref 10, .ref 11, .ref 12, .ref 13, .ref 14, .ref 15, .int lkss, .ref 16, .ref 17, .ref 20])), (5, .inr (.inl (0, rks))), (6, .inr (.inl (0, stas))), (7, .inr (.inl (0, phs))), (8, .inr (.inl (0, sps))), (9, .inr (.inl (0, ces))), (10, .inr (.inl (0, dus))), (11, .inr (.inl (0, hes))), (12, .inr (.inl (0, ris))), (13, .inr (.inl (0, uss))), (14, .inr (.inl (0, cms))), (15, .inr (.inl (0, lfs))), (16, .inr (.inl (0, lkds))), (20, .inl (3, [.ref 21, .ref 22, .ref 23, .ref 24, .ref 25, .ref 26, .ref 27, .ref 28, .int pevs, .int 1])), (21, .inr (.inl (0, pmss))), (22, .inr (.inl (0, pmms))), (23, .inr (.inl (0, pmts))), (24, .inr (.inl (0, psts))), (25, .inr (.inl (0, pwas))), (26, .inr (.inl (0, prss))), (27, .inr (.inl (0, prrs))), (28, .inr (.inl (0, pfas))), (156, .inl (7, [.ref lys, .int mis, .int shus, .int buss, .ref 157, .ref 158, .ref 159, .ref 160, .ref 161, .ref 162, .ref 163, .ref 164, .ref 165, .ref 166, .ref 167, .int lkss, .ref 168, .ref 169, .ref 172])), (157, .inr (.inl (0, (aC 5 rks rk)))), (158, .inr (.inl (0, (aC 5 stas sta)))), (159, .inr (.inl (0, (aC 5 phs ph)))), (160, .inr (.inl (0, (aC 5 sps sp)))), (161, .inr (.inl (0, (aC 5 ces ce)))), (162, .inr (.inl (0, (aC 5 dus du)))), (163, .inr (.inl (0, (aC 5 hes he)))), (164, .inr (.inl (0, (aC 6 ris ri)))), (165, .inr (.inl (0, (aC 6 uss us)))), (166, .inr (.inl (0, (aC (nI cm.length) cms cm)))), (167, .inr (.inl (0, (aC (nI lf.length) lfs lf)))), (168, .inr (.inl (0, (aC (nI lkd.length) lkds lkd)))), (172, .inl (3, [.ref 173, .ref 174, .ref 175, .ref 176, .ref 177, .ref 178, .ref 179, .ref 180, .int pevs, .int 1])), (173, .inr (.inl (0, (aC (nI pms.length) pmss pms)))), (174, .inr (.inl (0, (aC (nI pmm.length) pmms pmm)))), (175, .inr (.inl (0, (aC (nI pmt.length) pmts pmt)))), (176, .inr (.inl (0, (aC (nI pst.length) psts pst)))), (177, .inr (.inl (0, (aC (nI pwa.length) pwas pwa)))), (178, .inr (.inl (0, (aC (nI prs.length) prss prs)))), (179, .inr (.inl (0, (aC (nI prr.length) prrs prr)))), (180, .inr (.inl (0, (aC (nI pfa.length) pfas pfa))))] h0) := by
  show j_V jP d 61 0 [(0, .ref 156), (1, .ref 4)] [] h _
  obtain ⟨lv, elv, L⟩ : ∃ lv, lv = [(0, .ref 156), (1, .ref 4)] ∧ LK lv [(0, .ref 156), (1, .ref 4)] := ⟨_, rfl, LK.rf⟩
  rw [← elv]
  clear elv
  refine yr5s_k0 L (K.fi [4, 156] rfl rfl) (fun lv h9 L K9 => ?_)
  have K : KN h9 [(4, .inl (7, [.ref lys, .int mis, .int shus, .int buss, .ref 5, .ref 6, .ref 7, .ref 8, .ref 9, .ref 10, .ref 11, .ref 12, .ref 13, .ref 14, .ref 15, .int lkss, .ref 16, .ref 17, .ref 20])), (5, .inr (.inl (0, rks))), (6, .inr (.inl (0, stas))), (7, .inr (.inl (0, phs))), (8, .inr (.inl (0, sps))), (9, .inr (.inl (0, ces))), (10, .inr (.inl (0, dus))), (11, .inr (.inl (0, hes))), (12, .inr (.inl (0, ris))), (13, .inr (.inl (0, uss))), (14, .inr (.inl (0, cms))), (15, .inr (.inl (0, lfs))), (16, .inr (.inl (0, lkds))), (20, .inl (3, [.ref 21, .ref 22, .ref 23, .ref 24, .ref 25, .ref 26, .ref 27, .ref 28, .int pevs, .int 1])), (21, .inr (.inl (0, pmss))), (22, .inr (.inl (0, pmms))), (23, .inr (.inl (0, pmts))), (24, .inr (.inl (0, psts))), (25, .inr (.inl (0, pwas))), (26, .inr (.inl (0, prss))), (27, .inr (.inl (0, prrs))), (28, .inr (.inl (0, pfas))), (156, .inl (7, [.ref lys, .int mis, .int shus, .int buss, .ref 157, .ref 158, .ref 159, .ref 160, .ref 161, .ref 162, .ref 163, .ref 164, .ref 165, .ref 166, .ref 167, .int lkss, .ref 168, .ref 169, .ref 172])), (157, .inr (.inl (0, rk))), (158, .inr (.inl (0, sta))), (159, .inr (.inl (0, ph))), (160, .inr (.inl (0, sp))), (161, .inr (.inl (0, ce))), (162, .inr (.inl (0, du))), (163, .inr (.inl (0, he))), (164, .inr (.inl (0, ri))), (165, .inr (.inl (0, us))), (166, .inr (.inl (0, cm))), (167, .inr (.inl (0, lf))), (168, .inr (.inl (0, lkd))), (172, .inl (3, [.ref 173, .ref 174, .ref 175, .ref 176, .ref 177, .ref 178, .ref 179, .ref 180, .int pev, .int 1])), (173, .inr (.inl (0, pms))), (174, .inr (.inl (0, pmm))), (175, .inr (.inl (0, pmt))), (176, .inr (.inl (0, pst))), (177, .inr (.inl (0, pwa))), (178, .inr (.inl (0, prs))), (179, .inr (.inl (0, prr))), (180, .inr (.inl (0, pfa)))] h0 := K.mg K9 rfl rfl
  clear K9
  refine yr5s_k40 L (K.fi [4, 5, 6, 7, 156, 157, 158, 159] rfl rfl) (fun lv h9 L K9 => ?_)
  have K : KN h9 [(4, .inl (7, [.ref lys, .int mis, .int shus, .int buss, .ref 5, .ref 6, .ref 7, .ref 8, .ref 9, .ref 10, .ref 11, .ref 12, .ref 13, .ref 14, .ref 15, .int lkss, .ref 16, .ref 17, .ref 20])), (5, .inr (.inl (0, rks))), (6, .inr (.inl (0, stas))), (7, .inr (.inl (0, phs))), (8, .inr (.inl (0, sps))), (9, .inr (.inl (0, ces))), (10, .inr (.inl (0, dus))), (11, .inr (.inl (0, hes))), (12, .inr (.inl (0, ris))), (13, .inr (.inl (0, uss))), (14, .inr (.inl (0, cms))), (15, .inr (.inl (0, lfs))), (16, .inr (.inl (0, lkds))), (20, .inl (3, [.ref 21, .ref 22, .ref 23, .ref 24, .ref 25, .ref 26, .ref 27, .ref 28, .int pevs, .int 1])), (21, .inr (.inl (0, pmss))), (22, .inr (.inl (0, pmms))), (23, .inr (.inl (0, pmts))), (24, .inr (.inl (0, psts))), (25, .inr (.inl (0, pwas))), (26, .inr (.inl (0, prss))), (27, .inr (.inl (0, prrs))), (28, .inr (.inl (0, pfas))), (156, .inl (7, [.ref lys, .int mis, .int shus, .int buss, .ref 157, .ref 158, .ref 159, .ref 160, .ref 161, .ref 162, .ref 163, .ref 164, .ref 165, .ref 166, .ref 167, .int lkss, .ref 168, .ref 169, .ref 172])), (157, .inr (.inl (0, (aC 5 rks rk)))), (158, .inr (.inl (0, (aC 5 stas sta)))), (159, .inr (.inl (0, (aC 5 phs ph)))), (160, .inr (.inl (0, sp))), (161, .inr (.inl (0, ce))), (162, .inr (.inl (0, du))), (163, .inr (.inl (0, he))), (164, .inr (.inl (0, ri))), (165, .inr (.inl (0, us))), (166, .inr (.inl (0, cm))), (167, .inr (.inl (0, lf))), (168, .inr (.inl (0, lkd))), (172, .inl (3, [.ref 173, .ref 174, .ref 175, .ref 176, .ref 177, .ref 178, .ref 179, .ref 180, .int pev, .int 1])), (173, .inr (.inl (0, pms))), (174, .inr (.inl (0, pmm))), (175, .inr (.inl (0, pmt))), (176, .inr (.inl (0, pst))), (177, .inr (.inl (0, pwa))), (178, .inr (.inl (0, prs))), (179, .inr (.inl (0, prr))), (180, .inr (.inl (0, pfa)))] h0 := K.mg K9 rfl rfl
  clear K9
  refine yr5s_k82 L (K.fi [4, 8, 9, 10, 156, 160, 161, 162] rfl rfl) (fun lv h9 L K9 => ?_)
  have K : KN h9 [(4, .inl (7, [.ref lys, .int mis, .int shus, .int buss, .ref 5, .ref 6, .ref 7, .ref 8, .ref 9, .ref 10, .ref 11, .ref 12, .ref 13, .ref 14, .ref 15, .int lkss, .ref 16, .ref 17, .ref 20])), (5, .inr (.inl (0, rks))), (6, .inr (.inl (0, stas))), (7, .inr (.inl (0, phs))), (8, .inr (.inl (0, sps))), (9, .inr (.inl (0, ces))), (10, .inr (.inl (0, dus))), (11, .inr (.inl (0, hes))), (12, .inr (.inl (0, ris))), (13, .inr (.inl (0, uss))), (14, .inr (.inl (0, cms))), (15, .inr (.inl (0, lfs))), (16, .inr (.inl (0, lkds))), (20, .inl (3, [.ref 21, .ref 22, .ref 23, .ref 24, .ref 25, .ref 26, .ref 27, .ref 28, .int pevs, .int 1])), (21, .inr (.inl (0, pmss))), (22, .inr (.inl (0, pmms))), (23, .inr (.inl (0, pmts))), (24, .inr (.inl (0, psts))), (25, .inr (.inl (0, pwas))), (26, .inr (.inl (0, prss))), (27, .inr (.inl (0, prrs))), (28, .inr (.inl (0, pfas))), (156, .inl (7, [.ref lys, .int mis, .int shus, .int buss, .ref 157, .ref 158, .ref 159, .ref 160, .ref 161, .ref 162, .ref 163, .ref 164, .ref 165, .ref 166, .ref 167, .int lkss, .ref 168, .ref 169, .ref 172])), (157, .inr (.inl (0, (aC 5 rks rk)))), (158, .inr (.inl (0, (aC 5 stas sta)))), (159, .inr (.inl (0, (aC 5 phs ph)))), (160, .inr (.inl (0, (aC 5 sps sp)))), (161, .inr (.inl (0, (aC 5 ces ce)))), (162, .inr (.inl (0, (aC 5 dus du)))), (163, .inr (.inl (0, he))), (164, .inr (.inl (0, ri))), (165, .inr (.inl (0, us))), (166, .inr (.inl (0, cm))), (167, .inr (.inl (0, lf))), (168, .inr (.inl (0, lkd))), (172, .inl (3, [.ref 173, .ref 174, .ref 175, .ref 176, .ref 177, .ref 178, .ref 179, .ref 180, .int pev, .int 1])), (173, .inr (.inl (0, pms))), (174, .inr (.inl (0, pmm))), (175, .inr (.inl (0, pmt))), (176, .inr (.inl (0, pst))), (177, .inr (.inl (0, pwa))), (178, .inr (.inl (0, prs))), (179, .inr (.inl (0, prr))), (180, .inr (.inl (0, pfa)))] h0 := K.mg K9 rfl rfl
  clear K9
  refine yr5s_k124 L (K.fi [4, 11, 12, 13, 156, 163, 164, 165] rfl rfl) (fun lv h9 L K9 => ?_)
  have K : KN h9 [(4, .inl (7, [.ref lys, .int mis, .int shus, .int buss, .ref 5, .ref 6, .ref 7, .ref 8, .ref 9, .ref 10, .ref 11, .ref 12, .ref 13, .ref 14, .ref 15, .int lkss, .ref 16, .ref 17, .ref 20])), (5, .inr (.inl (0, rks))), (6, .inr (.inl (0, stas))), (7, .inr (.inl (0, phs))), (8, .inr (.inl (0, sps))), (9, .inr (.inl (0, ces))), (10, .inr (.inl (0, dus))), (11, .inr (.inl (0, hes))), (12, .inr (.inl (0, ris))), (13, .inr (.inl (0, uss))), (14, .inr (.inl (0, cms))), (15, .inr (.inl (0, lfs))), (16, .inr (.inl (0, lkds))), (20, .inl (3, [.ref 21, .ref 22, .ref 23, .ref 24, .ref 25, .ref 26, .ref 27, .ref 28, .int pevs, .int 1])), (21, .inr (.inl (0, pmss))), (22, .inr (.inl (0, pmms))), (23, .inr (.inl (0, pmts))), (24, .inr (.inl (0, psts))), (25, .inr (.inl (0, pwas))), (26, .inr (.inl (0, prss))), (27, .inr (.inl (0, prrs))), (28, .inr (.inl (0, pfas))), (156, .inl (7, [.ref lys, .int mis, .int shus, .int buss, .ref 157, .ref 158, .ref 159, .ref 160, .ref 161, .ref 162, .ref 163, .ref 164, .ref 165, .ref 166, .ref 167, .int lkss, .ref 168, .ref 169, .ref 172])), (157, .inr (.inl (0, (aC 5 rks rk)))), (158, .inr (.inl (0, (aC 5 stas sta)))), (159, .inr (.inl (0, (aC 5 phs ph)))), (160, .inr (.inl (0, (aC 5 sps sp)))), (161, .inr (.inl (0, (aC 5 ces ce)))), (162, .inr (.inl (0, (aC 5 dus du)))), (163, .inr (.inl (0, (aC 5 hes he)))), (164, .inr (.inl (0, (aC 6 ris ri)))), (165, .inr (.inl (0, (aC 6 uss us)))), (166, .inr (.inl (0, cm))), (167, .inr (.inl (0, lf))), (168, .inr (.inl (0, lkd))), (172, .inl (3, [.ref 173, .ref 174, .ref 175, .ref 176, .ref 177, .ref 178, .ref 179, .ref 180, .int pev, .int 1])), (173, .inr (.inl (0, pms))), (174, .inr (.inl (0, pmm))), (175, .inr (.inl (0, pmt))), (176, .inr (.inl (0, pst))), (177, .inr (.inl (0, pwa))), (178, .inr (.inl (0, prs))), (179, .inr (.inl (0, prr))), (180, .inr (.inl (0, pfa)))] h0 := K.mg K9 rfl rfl
  clear K9
  refine yr5s_k168 L (K.fi [4, 14, 15, 16, 156, 166, 167, 168] rfl rfl) (fun lv h9 L K9 => ?_)
  have K : KN h9 [(4, .inl (7, [.ref lys, .int mis, .int shus, .int buss, .ref 5, .ref 6, .ref 7, .ref 8, .ref 9, .ref 10, .ref 11, .ref 12, .ref 13, .ref 14, .ref 15, .int lkss, .ref 16, .ref 17, .ref 20])), (5, .inr (.inl (0, rks))), (6, .inr (.inl (0, stas))), (7, .inr (.inl (0, phs))), (8, .inr (.inl (0, sps))), (9, .inr (.inl (0, ces))), (10, .inr (.inl (0, dus))), (11, .inr (.inl (0, hes))), (12, .inr (.inl (0, ris))), (13, .inr (.inl (0, uss))), (14, .inr (.inl (0, cms))), (15, .inr (.inl (0, lfs))), (16, .inr (.inl (0, lkds))), (20, .inl (3, [.ref 21, .ref 22, .ref 23, .ref 24, .ref 25, .ref 26, .ref 27, .ref 28, .int pevs, .int 1])), (21, .inr (.inl (0, pmss))), (22, .inr (.inl (0, pmms))), (23, .inr (.inl (0, pmts))), (24, .inr (.inl (0, psts))), (25, .inr (.inl (0, pwas))), (26, .inr (.inl (0, prss))), (27, .inr (.inl (0, prrs))), (28, .inr (.inl (0, pfas))), (156, .inl (7, [.ref lys, .int mis, .int shus, .int buss, .ref 157, .ref 158, .ref 159, .ref 160, .ref 161, .ref 162, .ref 163, .ref 164, .ref 165, .ref 166, .ref 167, .int lkss, .ref 168, .ref 169, .ref 172])), (157, .inr (.inl (0, (aC 5 rks rk)))), (158, .inr (.inl (0, (aC 5 stas sta)))), (159, .inr (.inl (0, (aC 5 phs ph)))), (160, .inr (.inl (0, (aC 5 sps sp)))), (161, .inr (.inl (0, (aC 5 ces ce)))), (162, .inr (.inl (0, (aC 5 dus du)))), (163, .inr (.inl (0, (aC 5 hes he)))), (164, .inr (.inl (0, (aC 6 ris ri)))), (165, .inr (.inl (0, (aC 6 uss us)))), (166, .inr (.inl (0, (aC (nI cm.length) cms cm)))), (167, .inr (.inl (0, (aC (nI lf.length) lfs lf)))), (168, .inr (.inl (0, (aC (nI lkd.length) lkds lkd)))), (172, .inl (3, [.ref 173, .ref 174, .ref 175, .ref 176, .ref 177, .ref 178, .ref 179, .ref 180, .int pev, .int 1])), (173, .inr (.inl (0, pms))), (174, .inr (.inl (0, pmm))), (175, .inr (.inl (0, pmt))), (176, .inr (.inl (0, pst))), (177, .inr (.inl (0, pwa))), (178, .inr (.inl (0, prs))), (179, .inr (.inl (0, prr))), (180, .inr (.inl (0, pfa)))] h0 := K.mg K9 rfl rfl
  clear K9
  refine j_V.ldL yr5s_M yr5s_222 rfl (i := 0) (kd := 2) (v := .ref 156) (pcJ := 223) rfl L rfl rfl rfl ?_
  refine j_V.getK yr5s_M yr5s_223 (ci := 7) (j := 18) rfl K rfl rfl ?_
  refine j_V.ldL yr5s_M yr5s_226 rfl (i := 1) (kd := 2) (v := .ref 4) (pcJ := 227) rfl L rfl rfl rfl ?_
  refine j_V.getK yr5s_M yr5s_227 (ci := 7) (j := 18) rfl K rfl rfl ?_
  refine j_V.cl yr5s_M yr5s_230 rfl (md := 3) (mj := 28) rfl (by decide) yr5p_M (As := [.ref 172, .ref 20]) (rest := []) (jk_spl3 (K.at rfl) rfl rfl rfl (Nat.le_of_ble_eq_true rfl) (Nat.le_of_ble_eq_true rfl)) (fun d => yr5p_ok (K.fi [20, 21, 22, 23, 24, 25, 26, 27, 28, 172, 173, 174, 175, 176, 177, 178, 179, 180] rfl rfl)) ?_
  rintro r h9 ⟨rfl, K9⟩
  have K : KN h9 [(4, .inl (7, [.ref lys, .int mis, .int shus, .int buss, .ref 5, .ref 6, .ref 7, .ref 8, .ref 9, .ref 10, .ref 11, .ref 12, .ref 13, .ref 14, .ref 15, .int lkss, .ref 16, .ref 17, .ref 20])), (5, .inr (.inl (0, rks))), (6, .inr (.inl (0, stas))), (7, .inr (.inl (0, phs))), (8, .inr (.inl (0, sps))), (9, .inr (.inl (0, ces))), (10, .inr (.inl (0, dus))), (11, .inr (.inl (0, hes))), (12, .inr (.inl (0, ris))), (13, .inr (.inl (0, uss))), (14, .inr (.inl (0, cms))), (15, .inr (.inl (0, lfs))), (16, .inr (.inl (0, lkds))), (20, .inl (3, [.ref 21, .ref 22, .ref 23, .ref 24, .ref 25, .ref 26, .ref 27, .ref 28, .int pevs, .int 1])), (21, .inr (.inl (0, pmss))), (22, .inr (.inl (0, pmms))), (23, .inr (.inl (0, pmts))), (24, .inr (.inl (0, psts))), (25, .inr (.inl (0, pwas))), (26, .inr (.inl (0, prss))), (27, .inr (.inl (0, prrs))), (28, .inr (.inl (0, pfas))), (156, .inl (7, [.ref lys, .int mis, .int shus, .int buss, .ref 157, .ref 158, .ref 159, .ref 160, .ref 161, .ref 162, .ref 163, .ref 164, .ref 165, .ref 166, .ref 167, .int lkss, .ref 168, .ref 169, .ref 172])), (157, .inr (.inl (0, (aC 5 rks rk)))), (158, .inr (.inl (0, (aC 5 stas sta)))), (159, .inr (.inl (0, (aC 5 phs ph)))), (160, .inr (.inl (0, (aC 5 sps sp)))), (161, .inr (.inl (0, (aC 5 ces ce)))), (162, .inr (.inl (0, (aC 5 dus du)))), (163, .inr (.inl (0, (aC 5 hes he)))), (164, .inr (.inl (0, (aC 6 ris ri)))), (165, .inr (.inl (0, (aC 6 uss us)))), (166, .inr (.inl (0, (aC (nI cm.length) cms cm)))), (167, .inr (.inl (0, (aC (nI lf.length) lfs lf)))), (168, .inr (.inl (0, (aC (nI lkd.length) lkds lkd)))), (172, .inl (3, [.ref 173, .ref 174, .ref 175, .ref 176, .ref 177, .ref 178, .ref 179, .ref 180, .int pevs, .int 1])), (173, .inr (.inl (0, (aC (nI pms.length) pmss pms)))), (174, .inr (.inl (0, (aC (nI pmm.length) pmms pmm)))), (175, .inr (.inl (0, (aC (nI pmt.length) pmts pmt)))), (176, .inr (.inl (0, (aC (nI pst.length) psts pst)))), (177, .inr (.inl (0, (aC (nI pwa.length) pwas pwa)))), (178, .inr (.inl (0, (aC (nI prs.length) prss prs)))), (179, .inr (.inl (0, (aC (nI prr.length) prrs prr)))), (180, .inr (.inl (0, (aC (nI pfa.length) pfas pfa))))] h0 := K.mg K9 rfl rfl
  clear K9
  show j_V jP _ 61 233 lv [] h9 _
  exact j_V.ret yr5s_M yr5s_233 rfl rfl ⟨rfl, K⟩
set_option maxRecDepth 100000 in
theorem yr5m_M : j_meth jP 2 = some (yX0_remember, cX0_remember, 2, none, 1, false, 0) := rfl
set_option maxRecDepth 100000 in
theorem yr5m_0 : j_code jP 2 0 = some (.aload_n 0) := rfl
set_option maxRecDepth 100000 in
theorem yr5m_1 : j_code jP 2 1 = some (.getfield 11) := rfl
set_option maxRecDepth 100000 in
theorem yr5m_4 : j_code jP 2 4 = some (.aload_n 0) := rfl
set_option maxRecDepth 100000 in
theorem yr5m_5 : j_code jP 2 5 = some (.getfield 24) := rfl
set_option maxRecDepth 100000 in
theorem yr5m_8 : j_code jP 2 8 = some (.aaload) := rfl
set_option maxRecDepth 100000 in
theorem yr5m_9 : j_code jP 2 9 = some (.aload_n 1) := rfl
set_option maxRecDepth 100000 in
theorem yr5m_10 : j_code jP 2 10 = some (.invokevirtual 27) := rfl
set_option maxRecDepth 100000 in
theorem yr5m_13 : j_code jP 2 13 = some (.aload_n 0) := rfl
set_option maxRecDepth 100000 in
theorem yr5m_14 : j_code jP 2 14 = some (.aload_n 0) := rfl
set_option maxRecDepth 100000 in
theorem yr5m_15 : j_code jP 2 15 = some (.getfield 24) := rfl
set_option maxRecDepth 100000 in
theorem yr5m_18 : j_code jP 2 18 = some (.iconst 1) := rfl
set_option maxRecDepth 100000 in
theorem yr5m_19 : j_code jP 2 19 = some (.iadd) := rfl
set_option maxRecDepth 100000 in
theorem yr5m_20 : j_code jP 2 20 = some (.bipush 10) := rfl
set_option maxRecDepth 100000 in
theorem yr5m_22 : j_code jP 2 22 = some (.irem) := rfl
set_option maxRecDepth 100000 in
theorem yr5m_23 : j_code jP 2 23 = some (.putfield 24) := rfl
set_option maxRecDepth 100000 in
theorem yr5m_26 : j_code jP 2 26 = some (.aload_n 0) := rfl
set_option maxRecDepth 100000 in
theorem yr5m_27 : j_code jP 2 27 = some (.aload_n 0) := rfl
set_option maxRecDepth 100000 in
theorem yr5m_28 : j_code jP 2 28 = some (.getfield 20) := rfl
set_option maxRecDepth 100000 in
theorem yr5m_31 : j_code jP 2 31 = some (.iconst 1) := rfl
set_option maxRecDepth 100000 in
theorem yr5m_32 : j_code jP 2 32 = some (.iadd) := rfl
set_option maxRecDepth 100000 in
theorem yr5m_33 : j_code jP 2 33 = some (.bipush 10) := rfl
set_option maxRecDepth 100000 in
theorem yr5m_35 : j_code jP 2 35 = some (.invokestatic 31) := rfl
set_option maxRecDepth 100000 in
theorem yr5m_38 : j_code jP 2 38 = some (.putfield 20) := rfl
set_option maxRecDepth 100000 in
theorem yr5m_41 : j_code jP 2 41 = some (.return_) := rfl
set_option maxRecDepth 1000000 in
theorem yr5m_ok {ly : Value} {mi : Int32} {shu : Int32} {bus : Int32} {lks : Int32} {rk : List Int32} {sta : List Int32} {ph : List Int32} {sp : List Int32} {ce : List Int32} {du : List Int32} {he : List Int32} {ri : List Int32} {us : List Int32} {cm : List Int32} {lf : List Int32} {lkd : List Int32} {pev : Int32} {pms : List Int32} {pmm : List Int32} {pmt : List Int32} {pst : List Int32} {pwa : List Int32} {prs : List Int32} {prr : List Int32} {pfa : List Int32} {lys : Nat} {mis : Int32} {shus : Int32} {buss : Int32} {lkss : Int32} {rks : List Int32} {stas : List Int32} {phs : List Int32} {sps : List Int32} {ces : List Int32} {dus : List Int32} {hes : List Int32} {ris : List Int32} {uss : List Int32} {cms : List Int32} {lfs : List Int32} {lkds : List Int32} {pevs : Int32} {pmss : List Int32} {pmms : List Int32} {pmts : List Int32} {psts : List Int32} {pwas : List Int32} {prss : List Int32} {prrs : List Int32} {pfas : List Int32} {acco : Int32} {d : Nat} {h h0 : J_H} (K : KN h [(4, .inl (7, [.ref lys, .int mis, .int shus, .int buss, .ref 5, .ref 6, .ref 7, .ref 8, .ref 9, .ref 10, .ref 11, .ref 12, .ref 13, .ref 14, .ref 15, .int lkss, .ref 16, .ref 17, .ref 20])), (5, .inr (.inl (0, rks))), (6, .inr (.inl (0, stas))), (7, .inr (.inl (0, phs))), (8, .inr (.inl (0, sps))), (9, .inr (.inl (0, ces))), (10, .inr (.inl (0, dus))), (11, .inr (.inl (0, hes))), (12, .inr (.inl (0, ris))), (13, .inr (.inl (0, uss))), (14, .inr (.inl (0, cms))), (15, .inr (.inl (0, lfs))), (16, .inr (.inl (0, lkds))), (20, .inl (3, [.ref 21, .ref 22, .ref 23, .ref 24, .ref 25, .ref 26, .ref 27, .ref 28, .int pevs, .int 1])), (21, .inr (.inl (0, pmss))), (22, .inr (.inl (0, pmms))), (23, .inr (.inl (0, pmts))), (24, .inr (.inl (0, psts))), (25, .inr (.inl (0, pwas))), (26, .inr (.inl (0, prss))), (27, .inr (.inl (0, prrs))), (28, .inr (.inl (0, pfas))), (29, .inl (0, [.ref 30, .int 5, .int acco])), (30, .inr (.inr (.inr [some 31, some 56, some 81, some 106, some 131, some 156, some 181, some 206, some 231, some 256]))), (156, .inl (7, [ly, .int mi, .int shu, .int bus, .ref 157, .ref 158, .ref 159, .ref 160, .ref 161, .ref 162, .ref 163, .ref 164, .ref 165, .ref 166, .ref 167, .int lks, .ref 168, .ref 169, .ref 172])), (157, .inr (.inl (0, rk))), (158, .inr (.inl (0, sta))), (159, .inr (.inl (0, ph))), (160, .inr (.inl (0, sp))), (161, .inr (.inl (0, ce))), (162, .inr (.inl (0, du))), (163, .inr (.inl (0, he))), (164, .inr (.inl (0, ri))), (165, .inr (.inl (0, us))), (166, .inr (.inl (0, cm))), (167, .inr (.inl (0, lf))), (168, .inr (.inl (0, lkd))), (172, .inl (3, [.ref 173, .ref 174, .ref 175, .ref 176, .ref 177, .ref 178, .ref 179, .ref 180, .int pev, .int 1])), (173, .inr (.inl (0, pms))), (174, .inr (.inl (0, pmm))), (175, .inr (.inl (0, pmt))), (176, .inr (.inl (0, pst))), (177, .inr (.inl (0, pwa))), (178, .inr (.inl (0, prs))), (179, .inr (.inl (0, prr))), (180, .inr (.inl (0, pfa)))] h0) : j_V jP d 2 0 (lv_args 0 [.ref 29, .ref 4]) [] h (fun rv h' => rv = none ∧ KN h' [(4, .inl (7, [.ref lys, .int mis, .int shus, .int buss, .ref 5, .ref 6, .ref 7, .ref 8, .ref 9, .ref 10, .ref 11, .ref 12, .ref 13, .ref 14, .ref 15, .int lkss, .ref 16, .ref 17, .ref 20])), (5, .inr (.inl (0, rks))), (6, .inr (.inl (0, stas))), (7, .inr (.inl (0, phs))), (8, .inr (.inl (0, sps))), (9, .inr (.inl (0, ces))), (10, .inr (.inl (0, dus))), (11, .inr (.inl (0, hes))), (12, .inr (.inl (0, ris))), (13, .inr (.inl (0, uss))), (14, .inr (.inl (0, cms))), (15, .inr (.inl (0, lfs))), (16, .inr (.inl (0, lkds))), (20, .inl (3, [.ref 21, .ref 22, .ref 23, .ref 24, .ref 25, .ref 26, .ref 27, .ref 28, .int pevs, .int 1])), (21, .inr (.inl (0, pmss))), (22, .inr (.inl (0, pmms))), (23, .inr (.inl (0, pmts))), (24, .inr (.inl (0, psts))), (25, .inr (.inl (0, pwas))), (26, .inr (.inl (0, prss))), (27, .inr (.inl (0, prrs))), (28, .inr (.inl (0, pfas))), (29, .inl (0, [.ref 30, .int 6, .int (iMn (acco + 1) 10)])), (30, .inr (.inr (.inr [some 31, some 56, some 81, some 106, some 131, some 156, some 181, some 206, some 231, some 256]))), (156, .inl (7, [.ref lys, .int mis, .int shus, .int buss, .ref 157, .ref 158, .ref 159, .ref 160, .ref 161, .ref 162, .ref 163, .ref 164, .ref 165, .ref 166, .ref 167, .int lkss, .ref 168, .ref 169, .ref 172])), (157, .inr (.inl (0, (aC 5 rks rk)))), (158, .inr (.inl (0, (aC 5 stas sta)))), (159, .inr (.inl (0, (aC 5 phs ph)))), (160, .inr (.inl (0, (aC 5 sps sp)))), (161, .inr (.inl (0, (aC 5 ces ce)))), (162, .inr (.inl (0, (aC 5 dus du)))), (163, .inr (.inl (0, (aC 5 hes he)))), (164, .inr (.inl (0, (aC 6 ris ri)))), (165, .inr (.inl (0, (aC 6 uss us)))), (166, .inr (.inl (0, (aC (nI cm.length) cms cm)))), (167, .inr (.inl (0, (aC (nI lf.length) lfs lf)))), (168, .inr (.inl (0, (aC (nI lkd.length) lkds lkd)))), (172, .inl (3, [.ref 173, .ref 174, .ref 175, .ref 176, .ref 177, .ref 178, .ref 179, .ref 180, .int pevs, .int 1])), (173, .inr (.inl (0, (aC (nI pms.length) pmss pms)))), (174, .inr (.inl (0, (aC (nI pmm.length) pmms pmm)))), (175, .inr (.inl (0, (aC (nI pmt.length) pmts pmt)))), (176, .inr (.inl (0, (aC (nI pst.length) psts pst)))), (177, .inr (.inl (0, (aC (nI pwa.length) pwas pwa)))), (178, .inr (.inl (0, (aC (nI prs.length) prss prs)))), (179, .inr (.inl (0, (aC (nI prr.length) prrs prr)))), (180, .inr (.inl (0, (aC (nI pfa.length) pfas pfa))))] h0) := by
  show j_V jP d 2 0 [(0, .ref 29), (1, .ref 4)] [] h _
  obtain ⟨lv, elv, L⟩ : ∃ lv, lv = [(0, .ref 29), (1, .ref 4)] ∧ LK lv [(0, .ref 29), (1, .ref 4)] := ⟨_, rfl, LK.rf⟩
  rw [← elv]
  clear elv
  refine j_V.ldL yr5m_M yr5m_0 rfl (i := 0) (kd := 2) (v := .ref 29) (pcJ := 1) rfl L rfl rfl rfl ?_
  refine j_V.getK yr5m_M yr5m_1 (ci := 0) (j := 0) rfl K rfl rfl ?_
  refine j_V.ldL yr5m_M yr5m_4 rfl (i := 0) (kd := 2) (v := .ref 29) (pcJ := 5) rfl L rfl rfl rfl ?_
  refine j_V.getK yr5m_M yr5m_5 (ci := 0) (j := 1) rfl K rfl rfl ?_
  refine j_V.aaA yr5m_M yr5m_8 K rfl (i := 5) (v := 156) rfl rfl ?_
  refine j_V.ldL yr5m_M yr5m_9 rfl (i := 1) (kd := 2) (v := .ref 4) (pcJ := 10) rfl L rfl rfl rfl ?_
  refine j_V.cl yr5m_M yr5m_10 rfl (md := 3) (mj := 61) rfl (by decide) yr5s_M (As := [.ref 156, .ref 4]) (rest := []) (jk_spl3 (K.at rfl) rfl rfl rfl (Nat.le_of_ble_eq_true rfl) (Nat.le_of_ble_eq_true rfl)) (fun d => yr5s_ok (K.fi [4, 5, 6, 7, 8, 9, 10, 11, 12, 13, 14, 15, 16, 20, 21, 22, 23, 24, 25, 26, 27, 28, 156, 157, 158, 159, 160, 161, 162, 163, 164, 165, 166, 167, 168, 172, 173, 174, 175, 176, 177, 178, 179, 180] rfl rfl)) ?_
  rintro r h9 ⟨rfl, K9⟩
  have K : KN h9 [(4, .inl (7, [.ref lys, .int mis, .int shus, .int buss, .ref 5, .ref 6, .ref 7, .ref 8, .ref 9, .ref 10, .ref 11, .ref 12, .ref 13, .ref 14, .ref 15, .int lkss, .ref 16, .ref 17, .ref 20])), (5, .inr (.inl (0, rks))), (6, .inr (.inl (0, stas))), (7, .inr (.inl (0, phs))), (8, .inr (.inl (0, sps))), (9, .inr (.inl (0, ces))), (10, .inr (.inl (0, dus))), (11, .inr (.inl (0, hes))), (12, .inr (.inl (0, ris))), (13, .inr (.inl (0, uss))), (14, .inr (.inl (0, cms))), (15, .inr (.inl (0, lfs))), (16, .inr (.inl (0, lkds))), (20, .inl (3, [.ref 21, .ref 22, .ref 23, .ref 24, .ref 25, .ref 26, .ref 27, .ref 28, .int pevs, .int 1])), (21, .inr (.inl (0, pmss))), (22, .inr (.inl (0, pmms))), (23, .inr (.inl (0, pmts))), (24, .inr (.inl (0, psts))), (25, .inr (.inl (0, pwas))), (26, .inr (.inl (0, prss))), (27, .inr (.inl (0, prrs))), (28, .inr (.inl (0, pfas))), (29, .inl (0, [.ref 30, .int 5, .int acco])), (30, .inr (.inr (.inr [some 31, some 56, some 81, some 106, some 131, some 156, some 181, some 206, some 231, some 256]))), (156, .inl (7, [.ref lys, .int mis, .int shus, .int buss, .ref 157, .ref 158, .ref 159, .ref 160, .ref 161, .ref 162, .ref 163, .ref 164, .ref 165, .ref 166, .ref 167, .int lkss, .ref 168, .ref 169, .ref 172])), (157, .inr (.inl (0, (aC 5 rks rk)))), (158, .inr (.inl (0, (aC 5 stas sta)))), (159, .inr (.inl (0, (aC 5 phs ph)))), (160, .inr (.inl (0, (aC 5 sps sp)))), (161, .inr (.inl (0, (aC 5 ces ce)))), (162, .inr (.inl (0, (aC 5 dus du)))), (163, .inr (.inl (0, (aC 5 hes he)))), (164, .inr (.inl (0, (aC 6 ris ri)))), (165, .inr (.inl (0, (aC 6 uss us)))), (166, .inr (.inl (0, (aC (nI cm.length) cms cm)))), (167, .inr (.inl (0, (aC (nI lf.length) lfs lf)))), (168, .inr (.inl (0, (aC (nI lkd.length) lkds lkd)))), (172, .inl (3, [.ref 173, .ref 174, .ref 175, .ref 176, .ref 177, .ref 178, .ref 179, .ref 180, .int pevs, .int 1])), (173, .inr (.inl (0, (aC (nI pms.length) pmss pms)))), (174, .inr (.inl (0, (aC (nI pmm.length) pmms pmm)))), (175, .inr (.inl (0, (aC (nI pmt.length) pmts pmt)))), (176, .inr (.inl (0, (aC (nI pst.length) psts pst)))), (177, .inr (.inl (0, (aC (nI pwa.length) pwas pwa)))), (178, .inr (.inl (0, (aC (nI prs.length) prss prs)))), (179, .inr (.inl (0, (aC (nI prr.length) prrs prr)))), (180, .inr (.inl (0, (aC (nI pfa.length) pfas pfa))))] h0 := K.mg K9 rfl rfl
  clear K9
  show j_V jP _ 2 13 lv [] h9 _
  refine j_V.ldL yr5m_M yr5m_13 rfl (i := 0) (kd := 2) (v := .ref 29) (pcJ := 14) rfl L rfl rfl rfl ?_
  refine j_V.ldL yr5m_M yr5m_14 rfl (i := 0) (kd := 2) (v := .ref 29) (pcJ := 15) rfl L rfl rfl rfl ?_
  refine j_V.getK yr5m_M yr5m_15 (ci := 0) (j := 1) rfl K rfl rfl ?_
  refine j_V.one yr5m_M yr5m_18 (by decide) (pcJ := 19) (stJ := [.int 1, .int 5, .ref 29]) rfl ?_
  refine j_V.one yr5m_M yr5m_19 (by decide) (pcJ := 20) (stJ := [.int 6, .ref 29]) rfl ?_
  refine j_V.one yr5m_M yr5m_20 (by decide) (pcJ := 22) (stJ := [.int 10, .int 6, .ref 29]) rfl ?_
  refine j_V.one yr5m_M yr5m_22 (by decide) (pcJ := 23) (stJ := [.int 6, .ref 29]) rfl ?_
  refine j_V.putK yr5m_M yr5m_23 (ci := 0) (j := 1) (k' := [(4, .inl (7, [.ref lys, .int mis, .int shus, .int buss, .ref 5, .ref 6, .ref 7, .ref 8, .ref 9, .ref 10, .ref 11, .ref 12, .ref 13, .ref 14, .ref 15, .int lkss, .ref 16, .ref 17, .ref 20])), (5, .inr (.inl (0, rks))), (6, .inr (.inl (0, stas))), (7, .inr (.inl (0, phs))), (8, .inr (.inl (0, sps))), (9, .inr (.inl (0, ces))), (10, .inr (.inl (0, dus))), (11, .inr (.inl (0, hes))), (12, .inr (.inl (0, ris))), (13, .inr (.inl (0, uss))), (14, .inr (.inl (0, cms))), (15, .inr (.inl (0, lfs))), (16, .inr (.inl (0, lkds))), (20, .inl (3, [.ref 21, .ref 22, .ref 23, .ref 24, .ref 25, .ref 26, .ref 27, .ref 28, .int pevs, .int 1])), (21, .inr (.inl (0, pmss))), (22, .inr (.inl (0, pmms))), (23, .inr (.inl (0, pmts))), (24, .inr (.inl (0, psts))), (25, .inr (.inl (0, pwas))), (26, .inr (.inl (0, prss))), (27, .inr (.inl (0, prrs))), (28, .inr (.inl (0, pfas))), (29, .inl (0, [.ref 30, .int 6, .int acco])), (30, .inr (.inr (.inr [some 31, some 56, some 81, some 106, some 131, some 156, some 181, some 206, some 231, some 256]))), (156, .inl (7, [.ref lys, .int mis, .int shus, .int buss, .ref 157, .ref 158, .ref 159, .ref 160, .ref 161, .ref 162, .ref 163, .ref 164, .ref 165, .ref 166, .ref 167, .int lkss, .ref 168, .ref 169, .ref 172])), (157, .inr (.inl (0, (aC 5 rks rk)))), (158, .inr (.inl (0, (aC 5 stas sta)))), (159, .inr (.inl (0, (aC 5 phs ph)))), (160, .inr (.inl (0, (aC 5 sps sp)))), (161, .inr (.inl (0, (aC 5 ces ce)))), (162, .inr (.inl (0, (aC 5 dus du)))), (163, .inr (.inl (0, (aC 5 hes he)))), (164, .inr (.inl (0, (aC 6 ris ri)))), (165, .inr (.inl (0, (aC 6 uss us)))), (166, .inr (.inl (0, (aC (nI cm.length) cms cm)))), (167, .inr (.inl (0, (aC (nI lf.length) lfs lf)))), (168, .inr (.inl (0, (aC (nI lkd.length) lkds lkd)))), (172, .inl (3, [.ref 173, .ref 174, .ref 175, .ref 176, .ref 177, .ref 178, .ref 179, .ref 180, .int pevs, .int 1])), (173, .inr (.inl (0, (aC (nI pms.length) pmss pms)))), (174, .inr (.inl (0, (aC (nI pmm.length) pmms pmm)))), (175, .inr (.inl (0, (aC (nI pmt.length) pmts pmt)))), (176, .inr (.inl (0, (aC (nI pst.length) psts pst)))), (177, .inr (.inl (0, (aC (nI pwa.length) pwas pwa)))), (178, .inr (.inl (0, (aC (nI prs.length) prss prs)))), (179, .inr (.inl (0, (aC (nI prr.length) prrs prr)))), (180, .inr (.inl (0, (aC (nI pfa.length) pfas pfa))))]) rfl K rfl (Nat.le_of_ble_eq_true rfl) rfl (Or.inl rfl) rfl rfl (fun h K => ?_)
  refine j_V.ldL yr5m_M yr5m_26 rfl (i := 0) (kd := 2) (v := .ref 29) (pcJ := 27) rfl L rfl rfl rfl ?_
  refine j_V.ldL yr5m_M yr5m_27 rfl (i := 0) (kd := 2) (v := .ref 29) (pcJ := 28) rfl L rfl rfl rfl ?_
  refine j_V.getK yr5m_M yr5m_28 (ci := 0) (j := 2) rfl K rfl rfl ?_
  refine j_V.one yr5m_M yr5m_31 (by decide) (pcJ := 32) (stJ := [.int 1, .int acco, .ref 29]) rfl ?_
  refine j_V.one yr5m_M yr5m_32 (by decide) (pcJ := 33) (stJ := [.int (acco + 1), .ref 29]) rfl ?_
  refine j_V.one yr5m_M yr5m_33 (by decide) (pcJ := 35) (stJ := [.int 10, .int (acco + 1), .ref 29]) rfl ?_
  refine j_V.mn yr5m_M yr5m_35 rfl rfl (Nat.le_of_ble_eq_true rfl) ?_
  refine j_V.putK yr5m_M yr5m_38 (ci := 0) (j := 2) (k' := [(4, .inl (7, [.ref lys, .int mis, .int shus, .int buss, .ref 5, .ref 6, .ref 7, .ref 8, .ref 9, .ref 10, .ref 11, .ref 12, .ref 13, .ref 14, .ref 15, .int lkss, .ref 16, .ref 17, .ref 20])), (5, .inr (.inl (0, rks))), (6, .inr (.inl (0, stas))), (7, .inr (.inl (0, phs))), (8, .inr (.inl (0, sps))), (9, .inr (.inl (0, ces))), (10, .inr (.inl (0, dus))), (11, .inr (.inl (0, hes))), (12, .inr (.inl (0, ris))), (13, .inr (.inl (0, uss))), (14, .inr (.inl (0, cms))), (15, .inr (.inl (0, lfs))), (16, .inr (.inl (0, lkds))), (20, .inl (3, [.ref 21, .ref 22, .ref 23, .ref 24, .ref 25, .ref 26, .ref 27, .ref 28, .int pevs, .int 1])), (21, .inr (.inl (0, pmss))), (22, .inr (.inl (0, pmms))), (23, .inr (.inl (0, pmts))), (24, .inr (.inl (0, psts))), (25, .inr (.inl (0, pwas))), (26, .inr (.inl (0, prss))), (27, .inr (.inl (0, prrs))), (28, .inr (.inl (0, pfas))), (29, .inl (0, [.ref 30, .int 6, .int (iMn (acco + 1) 10)])), (30, .inr (.inr (.inr [some 31, some 56, some 81, some 106, some 131, some 156, some 181, some 206, some 231, some 256]))), (156, .inl (7, [.ref lys, .int mis, .int shus, .int buss, .ref 157, .ref 158, .ref 159, .ref 160, .ref 161, .ref 162, .ref 163, .ref 164, .ref 165, .ref 166, .ref 167, .int lkss, .ref 168, .ref 169, .ref 172])), (157, .inr (.inl (0, (aC 5 rks rk)))), (158, .inr (.inl (0, (aC 5 stas sta)))), (159, .inr (.inl (0, (aC 5 phs ph)))), (160, .inr (.inl (0, (aC 5 sps sp)))), (161, .inr (.inl (0, (aC 5 ces ce)))), (162, .inr (.inl (0, (aC 5 dus du)))), (163, .inr (.inl (0, (aC 5 hes he)))), (164, .inr (.inl (0, (aC 6 ris ri)))), (165, .inr (.inl (0, (aC 6 uss us)))), (166, .inr (.inl (0, (aC (nI cm.length) cms cm)))), (167, .inr (.inl (0, (aC (nI lf.length) lfs lf)))), (168, .inr (.inl (0, (aC (nI lkd.length) lkds lkd)))), (172, .inl (3, [.ref 173, .ref 174, .ref 175, .ref 176, .ref 177, .ref 178, .ref 179, .ref 180, .int pevs, .int 1])), (173, .inr (.inl (0, (aC (nI pms.length) pmss pms)))), (174, .inr (.inl (0, (aC (nI pmm.length) pmms pmm)))), (175, .inr (.inl (0, (aC (nI pmt.length) pmts pmt)))), (176, .inr (.inl (0, (aC (nI pst.length) psts pst)))), (177, .inr (.inl (0, (aC (nI pwa.length) pwas pwa)))), (178, .inr (.inl (0, (aC (nI prs.length) prss prs)))), (179, .inr (.inl (0, (aC (nI prr.length) prrs prr)))), (180, .inr (.inl (0, (aC (nI pfa.length) pfas pfa))))]) rfl K rfl (Nat.le_of_ble_eq_true rfl) rfl (Or.inl rfl) rfl rfl (fun h K => ?_)
  exact j_V.ret yr5m_M yr5m_41 rfl rfl ⟨rfl, K⟩
set_option maxRecDepth 100000 in
theorem yr6p_M : j_meth jP 28 = some (yX3_copyFrom, cX3_copyFrom, 2, none, 1, false, 3) := rfl
set_option maxRecDepth 100000 in
theorem yr6p_0 : j_code jP 28 0 = some (.aload_n 0) := rfl
set_option maxRecDepth 100000 in
theorem yr6p_1 : j_code jP 28 1 = some (.getfield 36) := rfl
set_option maxRecDepth 100000 in
theorem yr6p_4 : j_code jP 28 4 = some (.ifCond .ne 4) := rfl
set_option maxRecDepth 100000 in
theorem yr6p_7 : j_code jP 28 7 = some (.return_) := rfl
set_option maxRecDepth 100000 in
theorem yr6p_8 : j_code jP 28 8 = some (.aload_n 1) := rfl
set_option maxRecDepth 100000 in
theorem yr6p_9 : j_code jP 28 9 = some (.getfield 9) := rfl
set_option maxRecDepth 100000 in
theorem yr6p_12 : j_code jP 28 12 = some (.iconst 0) := rfl
set_option maxRecDepth 100000 in
theorem yr6p_13 : j_code jP 28 13 = some (.aload_n 0) := rfl
set_option maxRecDepth 100000 in
theorem yr6p_14 : j_code jP 28 14 = some (.getfield 9) := rfl
set_option maxRecDepth 100000 in
theorem yr6p_17 : j_code jP 28 17 = some (.iconst 0) := rfl
set_option maxRecDepth 100000 in
theorem yr6p_18 : j_code jP 28 18 = some (.aload_n 0) := rfl
set_option maxRecDepth 100000 in
theorem yr6p_19 : j_code jP 28 19 = some (.getfield 9) := rfl
set_option maxRecDepth 100000 in
theorem yr6p_22 : j_code jP 28 22 = some (.arraylength) := rfl
set_option maxRecDepth 100000 in
theorem yr6p_23 : j_code jP 28 23 = some (.invokestatic 50) := rfl
set_option maxRecDepth 100000 in
theorem yr6p_26 : j_code jP 28 26 = some (.aload_n 1) := rfl
set_option maxRecDepth 100000 in
theorem yr6p_27 : j_code jP 28 27 = some (.getfield 15) := rfl
set_option maxRecDepth 100000 in
theorem yr6p_30 : j_code jP 28 30 = some (.iconst 0) := rfl
set_option maxRecDepth 100000 in
theorem yr6p_31 : j_code jP 28 31 = some (.aload_n 0) := rfl
set_option maxRecDepth 100000 in
theorem yr6p_32 : j_code jP 28 32 = some (.getfield 15) := rfl
set_option maxRecDepth 100000 in
theorem yr6p_35 : j_code jP 28 35 = some (.iconst 0) := rfl
set_option maxRecDepth 100000 in
theorem yr6p_36 : j_code jP 28 36 = some (.aload_n 0) := rfl
set_option maxRecDepth 100000 in
theorem yr6p_37 : j_code jP 28 37 = some (.getfield 15) := rfl
set_option maxRecDepth 100000 in
theorem yr6p_40 : j_code jP 28 40 = some (.arraylength) := rfl
set_option maxRecDepth 100000 in
theorem yr6p_41 : j_code jP 28 41 = some (.invokestatic 50) := rfl
set_option maxRecDepth 100000 in
theorem yr6p_44 : j_code jP 28 44 = some (.aload_n 1) := rfl
set_option maxRecDepth 100000 in
theorem yr6p_45 : j_code jP 28 45 = some (.getfield 18) := rfl
set_option maxRecDepth 100000 in
theorem yr6p_48 : j_code jP 28 48 = some (.iconst 0) := rfl
set_option maxRecDepth 100000 in
theorem yr6p_49 : j_code jP 28 49 = some (.aload_n 0) := rfl
set_option maxRecDepth 100000 in
theorem yr6p_50 : j_code jP 28 50 = some (.getfield 18) := rfl
set_option maxRecDepth 100000 in
theorem yr6p_53 : j_code jP 28 53 = some (.iconst 0) := rfl
set_option maxRecDepth 100000 in
theorem yr6p_54 : j_code jP 28 54 = some (.aload_n 0) := rfl
set_option maxRecDepth 100000 in
theorem yr6p_55 : j_code jP 28 55 = some (.getfield 18) := rfl
set_option maxRecDepth 100000 in
theorem yr6p_58 : j_code jP 28 58 = some (.arraylength) := rfl
set_option maxRecDepth 100000 in
theorem yr6p_59 : j_code jP 28 59 = some (.invokestatic 50) := rfl
set_option maxRecDepth 100000 in
theorem yr6p_62 : j_code jP 28 62 = some (.aload_n 1) := rfl
set_option maxRecDepth 100000 in
theorem yr6p_63 : j_code jP 28 63 = some (.getfield 21) := rfl
set_option maxRecDepth 100000 in
theorem yr6p_66 : j_code jP 28 66 = some (.iconst 0) := rfl
set_option maxRecDepth 100000 in
theorem yr6p_67 : j_code jP 28 67 = some (.aload_n 0) := rfl
set_option maxRecDepth 100000 in
theorem yr6p_68 : j_code jP 28 68 = some (.getfield 21) := rfl
set_option maxRecDepth 100000 in
theorem yr6p_71 : j_code jP 28 71 = some (.iconst 0) := rfl
set_option maxRecDepth 100000 in
theorem yr6p_72 : j_code jP 28 72 = some (.aload_n 0) := rfl
set_option maxRecDepth 100000 in
theorem yr6p_73 : j_code jP 28 73 = some (.getfield 21) := rfl
set_option maxRecDepth 100000 in
theorem yr6p_76 : j_code jP 28 76 = some (.arraylength) := rfl
set_option maxRecDepth 100000 in
theorem yr6p_77 : j_code jP 28 77 = some (.invokestatic 50) := rfl
set_option maxRecDepth 100000 in
theorem yr6p_80 : j_code jP 28 80 = some (.aload_n 1) := rfl
set_option maxRecDepth 100000 in
theorem yr6p_81 : j_code jP 28 81 = some (.getfield 24) := rfl
set_option maxRecDepth 100000 in
theorem yr6p_84 : j_code jP 28 84 = some (.iconst 0) := rfl
set_option maxRecDepth 100000 in
theorem yr6p_85 : j_code jP 28 85 = some (.aload_n 0) := rfl
set_option maxRecDepth 100000 in
theorem yr6p_86 : j_code jP 28 86 = some (.getfield 24) := rfl
set_option maxRecDepth 100000 in
theorem yr6p_89 : j_code jP 28 89 = some (.iconst 0) := rfl
set_option maxRecDepth 100000 in
theorem yr6p_90 : j_code jP 28 90 = some (.aload_n 0) := rfl
set_option maxRecDepth 100000 in
theorem yr6p_91 : j_code jP 28 91 = some (.getfield 24) := rfl
set_option maxRecDepth 100000 in
theorem yr6p_94 : j_code jP 28 94 = some (.arraylength) := rfl
set_option maxRecDepth 100000 in
theorem yr6p_95 : j_code jP 28 95 = some (.invokestatic 50) := rfl
set_option maxRecDepth 100000 in
theorem yr6p_98 : j_code jP 28 98 = some (.aload_n 1) := rfl
set_option maxRecDepth 100000 in
theorem yr6p_99 : j_code jP 28 99 = some (.getfield 27) := rfl
set_option maxRecDepth 100000 in
theorem yr6p_102 : j_code jP 28 102 = some (.iconst 0) := rfl
set_option maxRecDepth 100000 in
theorem yr6p_103 : j_code jP 28 103 = some (.aload_n 0) := rfl
set_option maxRecDepth 100000 in
theorem yr6p_104 : j_code jP 28 104 = some (.getfield 27) := rfl
set_option maxRecDepth 100000 in
theorem yr6p_107 : j_code jP 28 107 = some (.iconst 0) := rfl
set_option maxRecDepth 100000 in
theorem yr6p_108 : j_code jP 28 108 = some (.aload_n 0) := rfl
set_option maxRecDepth 100000 in
theorem yr6p_109 : j_code jP 28 109 = some (.getfield 27) := rfl
set_option maxRecDepth 100000 in
theorem yr6p_112 : j_code jP 28 112 = some (.arraylength) := rfl
set_option maxRecDepth 100000 in
theorem yr6p_113 : j_code jP 28 113 = some (.invokestatic 50) := rfl
set_option maxRecDepth 100000 in
theorem yr6p_116 : j_code jP 28 116 = some (.aload_n 1) := rfl
set_option maxRecDepth 100000 in
theorem yr6p_117 : j_code jP 28 117 = some (.getfield 30) := rfl
set_option maxRecDepth 100000 in
theorem yr6p_120 : j_code jP 28 120 = some (.iconst 0) := rfl
set_option maxRecDepth 100000 in
theorem yr6p_121 : j_code jP 28 121 = some (.aload_n 0) := rfl
set_option maxRecDepth 100000 in
theorem yr6p_122 : j_code jP 28 122 = some (.getfield 30) := rfl
set_option maxRecDepth 100000 in
theorem yr6p_125 : j_code jP 28 125 = some (.iconst 0) := rfl
set_option maxRecDepth 100000 in
theorem yr6p_126 : j_code jP 28 126 = some (.aload_n 0) := rfl
set_option maxRecDepth 100000 in
theorem yr6p_127 : j_code jP 28 127 = some (.getfield 30) := rfl
set_option maxRecDepth 100000 in
theorem yr6p_130 : j_code jP 28 130 = some (.arraylength) := rfl
set_option maxRecDepth 100000 in
theorem yr6p_131 : j_code jP 28 131 = some (.invokestatic 50) := rfl
set_option maxRecDepth 100000 in
theorem yr6p_134 : j_code jP 28 134 = some (.aload_n 1) := rfl
set_option maxRecDepth 100000 in
theorem yr6p_135 : j_code jP 28 135 = some (.getfield 33) := rfl
set_option maxRecDepth 100000 in
theorem yr6p_138 : j_code jP 28 138 = some (.iconst 0) := rfl
set_option maxRecDepth 100000 in
theorem yr6p_139 : j_code jP 28 139 = some (.aload_n 0) := rfl
set_option maxRecDepth 100000 in
theorem yr6p_140 : j_code jP 28 140 = some (.getfield 33) := rfl
set_option maxRecDepth 100000 in
theorem yr6p_143 : j_code jP 28 143 = some (.iconst 0) := rfl
set_option maxRecDepth 100000 in
theorem yr6p_144 : j_code jP 28 144 = some (.aload_n 0) := rfl
set_option maxRecDepth 100000 in
theorem yr6p_145 : j_code jP 28 145 = some (.getfield 33) := rfl
set_option maxRecDepth 100000 in
theorem yr6p_148 : j_code jP 28 148 = some (.arraylength) := rfl
set_option maxRecDepth 100000 in
theorem yr6p_149 : j_code jP 28 149 = some (.invokestatic 50) := rfl
set_option maxRecDepth 100000 in
theorem yr6p_152 : j_code jP 28 152 = some (.aload_n 0) := rfl
set_option maxRecDepth 100000 in
theorem yr6p_153 : j_code jP 28 153 = some (.aload_n 1) := rfl
set_option maxRecDepth 100000 in
theorem yr6p_154 : j_code jP 28 154 = some (.getfield 46) := rfl
set_option maxRecDepth 100000 in
theorem yr6p_157 : j_code jP 28 157 = some (.putfield 46) := rfl
set_option maxRecDepth 100000 in
theorem yr6p_160 : j_code jP 28 160 = some (.return_) := rfl
set_option maxRecDepth 1000000 in
theorem yr6p_k8 {pev : Int32} {pms : List Int32} {pmm : List Int32} {pevs : Int32} {pmss : List Int32} {pmms : List Int32} {d : Nat} {lv : J_L} {h h0 : J_H} {Q : Option Value → J_H → Prop} (L : LK lv [(0, .ref 197), (1, .ref 20)]) (K : KN h [(20, .inl (3, [.ref 21, .ref 22, .ref 23, .ref 24, .ref 25, .ref 26, .ref 27, .ref 28, .int pevs, .int 1])), (21, .inr (.inl (0, pmss))), (22, .inr (.inl (0, pmms))), (197, .inl (3, [.ref 198, .ref 199, .ref 200, .ref 201, .ref 202, .ref 203, .ref 204, .ref 205, .int pev, .int 1])), (198, .inr (.inl (0, pms))), (199, .inr (.inl (0, pmm)))] h0) (kk : ∀ lv h, LK lv [(0, .ref 197), (1, .ref 20)] → KN h [(20, .inl (3, [.ref 21, .ref 22, .ref 23, .ref 24, .ref 25, .ref 26, .ref 27, .ref 28, .int pevs, .int 1])), (21, .inr (.inl (0, pmss))), (22, .inr (.inl (0, pmms))), (197, .inl (3, [.ref 198, .ref 199, .ref 200, .ref 201, .ref 202, .ref 203, .ref 204, .ref 205, .int pev, .int 1])), (198, .inr (.inl (0, (aC (nI pms.length) pmss pms)))), (199, .inr (.inl (0, (aC (nI pmm.length) pmms pmm))))] h0 → j_V jP d 28 44 lv [] h Q) : j_V jP d 28 8 lv [] h Q := by
  refine j_V.ldL yr6p_M yr6p_8 rfl (i := 1) (kd := 2) (v := .ref 20) (pcJ := 9) rfl L rfl rfl rfl ?_
  refine j_V.getK yr6p_M yr6p_9 (ci := 3) (j := 0) rfl K rfl rfl ?_
  refine j_V.one yr6p_M yr6p_12 (by decide) (pcJ := 13) (stJ := [.int 0, .ref 21]) rfl ?_
  refine j_V.ldL yr6p_M yr6p_13 rfl (i := 0) (kd := 2) (v := .ref 197) (pcJ := 14) rfl L rfl rfl rfl ?_
  refine j_V.getK yr6p_M yr6p_14 (ci := 3) (j := 0) rfl K rfl rfl ?_
  refine j_V.one yr6p_M yr6p_17 (by decide) (pcJ := 18) (stJ := [.int 0, .ref 198, .int 0, .ref 21]) rfl ?_
  refine j_V.ldL yr6p_M yr6p_18 rfl (i := 0) (kd := 2) (v := .ref 197) (pcJ := 19) rfl L rfl rfl rfl ?_
  refine j_V.getK yr6p_M yr6p_19 (ci := 3) (j := 0) rfl K rfl rfl ?_
  refine j_V.alnA yr6p_M yr6p_22 K rfl ?_
  refine j_V.acp yr6p_M yr6p_23 rfl rfl K rfl rfl rfl (fun h K => ?_)
  refine j_V.ldL yr6p_M yr6p_26 rfl (i := 1) (kd := 2) (v := .ref 20) (pcJ := 27) rfl L rfl rfl rfl ?_
  refine j_V.getK yr6p_M yr6p_27 (ci := 3) (j := 1) rfl K rfl rfl ?_
  refine j_V.one yr6p_M yr6p_30 (by decide) (pcJ := 31) (stJ := [.int 0, .ref 22]) rfl ?_
  refine j_V.ldL yr6p_M yr6p_31 rfl (i := 0) (kd := 2) (v := .ref 197) (pcJ := 32) rfl L rfl rfl rfl ?_
  refine j_V.getK yr6p_M yr6p_32 (ci := 3) (j := 1) rfl K rfl rfl ?_
  refine j_V.one yr6p_M yr6p_35 (by decide) (pcJ := 36) (stJ := [.int 0, .ref 199, .int 0, .ref 22]) rfl ?_
  refine j_V.ldL yr6p_M yr6p_36 rfl (i := 0) (kd := 2) (v := .ref 197) (pcJ := 37) rfl L rfl rfl rfl ?_
  refine j_V.getK yr6p_M yr6p_37 (ci := 3) (j := 1) rfl K rfl rfl ?_
  refine j_V.alnA yr6p_M yr6p_40 K rfl ?_
  refine j_V.acp yr6p_M yr6p_41 rfl rfl K rfl rfl rfl (fun h K => ?_)
  exact kk _ _ L K
set_option maxRecDepth 1000000 in
theorem yr6p_k44 {pev : Int32} {pmt : List Int32} {pst : List Int32} {pevs : Int32} {pmts : List Int32} {psts : List Int32} {d : Nat} {lv : J_L} {h h0 : J_H} {Q : Option Value → J_H → Prop} (L : LK lv [(0, .ref 197), (1, .ref 20)]) (K : KN h [(20, .inl (3, [.ref 21, .ref 22, .ref 23, .ref 24, .ref 25, .ref 26, .ref 27, .ref 28, .int pevs, .int 1])), (23, .inr (.inl (0, pmts))), (24, .inr (.inl (0, psts))), (197, .inl (3, [.ref 198, .ref 199, .ref 200, .ref 201, .ref 202, .ref 203, .ref 204, .ref 205, .int pev, .int 1])), (200, .inr (.inl (0, pmt))), (201, .inr (.inl (0, pst)))] h0) (kk : ∀ lv h, LK lv [(0, .ref 197), (1, .ref 20)] → KN h [(20, .inl (3, [.ref 21, .ref 22, .ref 23, .ref 24, .ref 25, .ref 26, .ref 27, .ref 28, .int pevs, .int 1])), (23, .inr (.inl (0, pmts))), (24, .inr (.inl (0, psts))), (197, .inl (3, [.ref 198, .ref 199, .ref 200, .ref 201, .ref 202, .ref 203, .ref 204, .ref 205, .int pev, .int 1])), (200, .inr (.inl (0, (aC (nI pmt.length) pmts pmt)))), (201, .inr (.inl (0, (aC (nI pst.length) psts pst))))] h0 → j_V jP d 28 80 lv [] h Q) : j_V jP d 28 44 lv [] h Q := by
  refine j_V.ldL yr6p_M yr6p_44 rfl (i := 1) (kd := 2) (v := .ref 20) (pcJ := 45) rfl L rfl rfl rfl ?_
  refine j_V.getK yr6p_M yr6p_45 (ci := 3) (j := 2) rfl K rfl rfl ?_
  refine j_V.one yr6p_M yr6p_48 (by decide) (pcJ := 49) (stJ := [.int 0, .ref 23]) rfl ?_
  refine j_V.ldL yr6p_M yr6p_49 rfl (i := 0) (kd := 2) (v := .ref 197) (pcJ := 50) rfl L rfl rfl rfl ?_
  refine j_V.getK yr6p_M yr6p_50 (ci := 3) (j := 2) rfl K rfl rfl ?_
  refine j_V.one yr6p_M yr6p_53 (by decide) (pcJ := 54) (stJ := [.int 0, .ref 200, .int 0, .ref 23]) rfl ?_
  refine j_V.ldL yr6p_M yr6p_54 rfl (i := 0) (kd := 2) (v := .ref 197) (pcJ := 55) rfl L rfl rfl rfl ?_
  refine j_V.getK yr6p_M yr6p_55 (ci := 3) (j := 2) rfl K rfl rfl ?_
  refine j_V.alnA yr6p_M yr6p_58 K rfl ?_
  refine j_V.acp yr6p_M yr6p_59 rfl rfl K rfl rfl rfl (fun h K => ?_)
  refine j_V.ldL yr6p_M yr6p_62 rfl (i := 1) (kd := 2) (v := .ref 20) (pcJ := 63) rfl L rfl rfl rfl ?_
  refine j_V.getK yr6p_M yr6p_63 (ci := 3) (j := 3) rfl K rfl rfl ?_
  refine j_V.one yr6p_M yr6p_66 (by decide) (pcJ := 67) (stJ := [.int 0, .ref 24]) rfl ?_
  refine j_V.ldL yr6p_M yr6p_67 rfl (i := 0) (kd := 2) (v := .ref 197) (pcJ := 68) rfl L rfl rfl rfl ?_
  refine j_V.getK yr6p_M yr6p_68 (ci := 3) (j := 3) rfl K rfl rfl ?_
  refine j_V.one yr6p_M yr6p_71 (by decide) (pcJ := 72) (stJ := [.int 0, .ref 201, .int 0, .ref 24]) rfl ?_
  refine j_V.ldL yr6p_M yr6p_72 rfl (i := 0) (kd := 2) (v := .ref 197) (pcJ := 73) rfl L rfl rfl rfl ?_
  refine j_V.getK yr6p_M yr6p_73 (ci := 3) (j := 3) rfl K rfl rfl ?_
  refine j_V.alnA yr6p_M yr6p_76 K rfl ?_
  refine j_V.acp yr6p_M yr6p_77 rfl rfl K rfl rfl rfl (fun h K => ?_)
  exact kk _ _ L K
set_option maxRecDepth 1000000 in
theorem yr6p_k80 {pev : Int32} {pwa : List Int32} {prs : List Int32} {pevs : Int32} {pwas : List Int32} {prss : List Int32} {d : Nat} {lv : J_L} {h h0 : J_H} {Q : Option Value → J_H → Prop} (L : LK lv [(0, .ref 197), (1, .ref 20)]) (K : KN h [(20, .inl (3, [.ref 21, .ref 22, .ref 23, .ref 24, .ref 25, .ref 26, .ref 27, .ref 28, .int pevs, .int 1])), (25, .inr (.inl (0, pwas))), (26, .inr (.inl (0, prss))), (197, .inl (3, [.ref 198, .ref 199, .ref 200, .ref 201, .ref 202, .ref 203, .ref 204, .ref 205, .int pev, .int 1])), (202, .inr (.inl (0, pwa))), (203, .inr (.inl (0, prs)))] h0) (kk : ∀ lv h, LK lv [(0, .ref 197), (1, .ref 20)] → KN h [(20, .inl (3, [.ref 21, .ref 22, .ref 23, .ref 24, .ref 25, .ref 26, .ref 27, .ref 28, .int pevs, .int 1])), (25, .inr (.inl (0, pwas))), (26, .inr (.inl (0, prss))), (197, .inl (3, [.ref 198, .ref 199, .ref 200, .ref 201, .ref 202, .ref 203, .ref 204, .ref 205, .int pev, .int 1])), (202, .inr (.inl (0, (aC (nI pwa.length) pwas pwa)))), (203, .inr (.inl (0, (aC (nI prs.length) prss prs))))] h0 → j_V jP d 28 116 lv [] h Q) : j_V jP d 28 80 lv [] h Q := by
  refine j_V.ldL yr6p_M yr6p_80 rfl (i := 1) (kd := 2) (v := .ref 20) (pcJ := 81) rfl L rfl rfl rfl ?_
  refine j_V.getK yr6p_M yr6p_81 (ci := 3) (j := 4) rfl K rfl rfl ?_
  refine j_V.one yr6p_M yr6p_84 (by decide) (pcJ := 85) (stJ := [.int 0, .ref 25]) rfl ?_
  refine j_V.ldL yr6p_M yr6p_85 rfl (i := 0) (kd := 2) (v := .ref 197) (pcJ := 86) rfl L rfl rfl rfl ?_
  refine j_V.getK yr6p_M yr6p_86 (ci := 3) (j := 4) rfl K rfl rfl ?_
  refine j_V.one yr6p_M yr6p_89 (by decide) (pcJ := 90) (stJ := [.int 0, .ref 202, .int 0, .ref 25]) rfl ?_
  refine j_V.ldL yr6p_M yr6p_90 rfl (i := 0) (kd := 2) (v := .ref 197) (pcJ := 91) rfl L rfl rfl rfl ?_
  refine j_V.getK yr6p_M yr6p_91 (ci := 3) (j := 4) rfl K rfl rfl ?_
  refine j_V.alnA yr6p_M yr6p_94 K rfl ?_
  refine j_V.acp yr6p_M yr6p_95 rfl rfl K rfl rfl rfl (fun h K => ?_)
  refine j_V.ldL yr6p_M yr6p_98 rfl (i := 1) (kd := 2) (v := .ref 20) (pcJ := 99) rfl L rfl rfl rfl ?_
  refine j_V.getK yr6p_M yr6p_99 (ci := 3) (j := 5) rfl K rfl rfl ?_
  refine j_V.one yr6p_M yr6p_102 (by decide) (pcJ := 103) (stJ := [.int 0, .ref 26]) rfl ?_
  refine j_V.ldL yr6p_M yr6p_103 rfl (i := 0) (kd := 2) (v := .ref 197) (pcJ := 104) rfl L rfl rfl rfl ?_
  refine j_V.getK yr6p_M yr6p_104 (ci := 3) (j := 5) rfl K rfl rfl ?_
  refine j_V.one yr6p_M yr6p_107 (by decide) (pcJ := 108) (stJ := [.int 0, .ref 203, .int 0, .ref 26]) rfl ?_
  refine j_V.ldL yr6p_M yr6p_108 rfl (i := 0) (kd := 2) (v := .ref 197) (pcJ := 109) rfl L rfl rfl rfl ?_
  refine j_V.getK yr6p_M yr6p_109 (ci := 3) (j := 5) rfl K rfl rfl ?_
  refine j_V.alnA yr6p_M yr6p_112 K rfl ?_
  refine j_V.acp yr6p_M yr6p_113 rfl rfl K rfl rfl rfl (fun h K => ?_)
  exact kk _ _ L K
set_option maxRecDepth 1000000 in
theorem yr6p_k116 {pev : Int32} {prr : List Int32} {pfa : List Int32} {pevs : Int32} {prrs : List Int32} {pfas : List Int32} {d : Nat} {lv : J_L} {h h0 : J_H} {Q : Option Value → J_H → Prop} (L : LK lv [(0, .ref 197), (1, .ref 20)]) (K : KN h [(20, .inl (3, [.ref 21, .ref 22, .ref 23, .ref 24, .ref 25, .ref 26, .ref 27, .ref 28, .int pevs, .int 1])), (27, .inr (.inl (0, prrs))), (28, .inr (.inl (0, pfas))), (197, .inl (3, [.ref 198, .ref 199, .ref 200, .ref 201, .ref 202, .ref 203, .ref 204, .ref 205, .int pev, .int 1])), (204, .inr (.inl (0, prr))), (205, .inr (.inl (0, pfa)))] h0) (kk : ∀ lv h, LK lv [(0, .ref 197), (1, .ref 20)] → KN h [(20, .inl (3, [.ref 21, .ref 22, .ref 23, .ref 24, .ref 25, .ref 26, .ref 27, .ref 28, .int pevs, .int 1])), (27, .inr (.inl (0, prrs))), (28, .inr (.inl (0, pfas))), (197, .inl (3, [.ref 198, .ref 199, .ref 200, .ref 201, .ref 202, .ref 203, .ref 204, .ref 205, .int pev, .int 1])), (204, .inr (.inl (0, (aC (nI prr.length) prrs prr)))), (205, .inr (.inl (0, (aC (nI pfa.length) pfas pfa))))] h0 → j_V jP d 28 152 lv [] h Q) : j_V jP d 28 116 lv [] h Q := by
  refine j_V.ldL yr6p_M yr6p_116 rfl (i := 1) (kd := 2) (v := .ref 20) (pcJ := 117) rfl L rfl rfl rfl ?_
  refine j_V.getK yr6p_M yr6p_117 (ci := 3) (j := 6) rfl K rfl rfl ?_
  refine j_V.one yr6p_M yr6p_120 (by decide) (pcJ := 121) (stJ := [.int 0, .ref 27]) rfl ?_
  refine j_V.ldL yr6p_M yr6p_121 rfl (i := 0) (kd := 2) (v := .ref 197) (pcJ := 122) rfl L rfl rfl rfl ?_
  refine j_V.getK yr6p_M yr6p_122 (ci := 3) (j := 6) rfl K rfl rfl ?_
  refine j_V.one yr6p_M yr6p_125 (by decide) (pcJ := 126) (stJ := [.int 0, .ref 204, .int 0, .ref 27]) rfl ?_
  refine j_V.ldL yr6p_M yr6p_126 rfl (i := 0) (kd := 2) (v := .ref 197) (pcJ := 127) rfl L rfl rfl rfl ?_
  refine j_V.getK yr6p_M yr6p_127 (ci := 3) (j := 6) rfl K rfl rfl ?_
  refine j_V.alnA yr6p_M yr6p_130 K rfl ?_
  refine j_V.acp yr6p_M yr6p_131 rfl rfl K rfl rfl rfl (fun h K => ?_)
  refine j_V.ldL yr6p_M yr6p_134 rfl (i := 1) (kd := 2) (v := .ref 20) (pcJ := 135) rfl L rfl rfl rfl ?_
  refine j_V.getK yr6p_M yr6p_135 (ci := 3) (j := 7) rfl K rfl rfl ?_
  refine j_V.one yr6p_M yr6p_138 (by decide) (pcJ := 139) (stJ := [.int 0, .ref 28]) rfl ?_
  refine j_V.ldL yr6p_M yr6p_139 rfl (i := 0) (kd := 2) (v := .ref 197) (pcJ := 140) rfl L rfl rfl rfl ?_
  refine j_V.getK yr6p_M yr6p_140 (ci := 3) (j := 7) rfl K rfl rfl ?_
  refine j_V.one yr6p_M yr6p_143 (by decide) (pcJ := 144) (stJ := [.int 0, .ref 205, .int 0, .ref 28]) rfl ?_
  refine j_V.ldL yr6p_M yr6p_144 rfl (i := 0) (kd := 2) (v := .ref 197) (pcJ := 145) rfl L rfl rfl rfl ?_
  refine j_V.getK yr6p_M yr6p_145 (ci := 3) (j := 7) rfl K rfl rfl ?_
  refine j_V.alnA yr6p_M yr6p_148 K rfl ?_
  refine j_V.acp yr6p_M yr6p_149 rfl rfl K rfl rfl rfl (fun h K => ?_)
  exact kk _ _ L K
set_option maxRecDepth 1000000 in
theorem yr6p_ok {pev : Int32} {pms : List Int32} {pmm : List Int32} {pmt : List Int32} {pst : List Int32} {pwa : List Int32} {prs : List Int32} {prr : List Int32} {pfa : List Int32} {pevs : Int32} {pmss : List Int32} {pmms : List Int32} {pmts : List Int32} {psts : List Int32} {pwas : List Int32} {prss : List Int32} {prrs : List Int32} {pfas : List Int32} {d : Nat} {h h0 : J_H} (K : KN h [(20, .inl (3, [.ref 21, .ref 22, .ref 23, .ref 24, .ref 25, .ref 26, .ref 27, .ref 28, .int pevs, .int 1])), (21, .inr (.inl (0, pmss))), (22, .inr (.inl (0, pmms))), (23, .inr (.inl (0, pmts))), (24, .inr (.inl (0, psts))), (25, .inr (.inl (0, pwas))), (26, .inr (.inl (0, prss))), (27, .inr (.inl (0, prrs))), (28, .inr (.inl (0, pfas))), (197, .inl (3, [.ref 198, .ref 199, .ref 200, .ref 201, .ref 202, .ref 203, .ref 204, .ref 205, .int pev, .int 1])), (198, .inr (.inl (0, pms))), (199, .inr (.inl (0, pmm))), (200, .inr (.inl (0, pmt))), (201, .inr (.inl (0, pst))), (202, .inr (.inl (0, pwa))), (203, .inr (.inl (0, prs))), (204, .inr (.inl (0, prr))), (205, .inr (.inl (0, pfa)))] h0) : j_V jP d 28 0 (lv_args 0 [.ref 197, .ref 20]) [] h (fun rv h' => rv = none ∧ KN h' [(20, .inl (3, [.ref 21, .ref 22, .ref 23, .ref 24, .ref 25, .ref 26, .ref 27, .ref 28, .int pevs, .int 1])), (21, .inr (.inl (0, pmss))), (22, .inr (.inl (0, pmms))), (23, .inr (.inl (0, pmts))), (24, .inr (.inl (0, psts))), (25, .inr (.inl (0, pwas))), (26, .inr (.inl (0, prss))), (27, .inr (.inl (0, prrs))), (28, .inr (.inl (0, pfas))), (197, .inl (3, [.ref 198, .ref 199, .ref 200, .ref 201, .ref 202, .ref 203, .ref 204, .ref 205, .int pevs, .int 1])), (198, .inr (.inl (0, (aC (nI pms.length) pmss pms)))), (199, .inr (.inl (0, (aC (nI pmm.length) pmms pmm)))), (200, .inr (.inl (0, (aC (nI pmt.length) pmts pmt)))), (201, .inr (.inl (0, (aC (nI pst.length) psts pst)))), (202, .inr (.inl (0, (aC (nI pwa.length) pwas pwa)))), (203, .inr (.inl (0, (aC (nI prs.length) prss prs)))), (204, .inr (.inl (0, (aC (nI prr.length) prrs prr)))), (205, .inr (.inl (0, (aC (nI pfa.length) pfas pfa))))] h0) := by
  show j_V jP d 28 0 [(0, .ref 197), (1, .ref 20)] [] h _
  obtain ⟨lv, elv, L⟩ : ∃ lv, lv = [(0, .ref 197), (1, .ref 20)] ∧ LK lv [(0, .ref 197), (1, .ref 20)] := ⟨_, rfl, LK.rf⟩
  rw [← elv]
  clear elv
  refine j_V.ldL yr6p_M yr6p_0 rfl (i := 0) (kd := 2) (v := .ref 197) (pcJ := 1) rfl L rfl rfl rfl ?_
  refine j_V.getK yr6p_M yr6p_1 (ci := 3) (j := 9) rfl K rfl rfl ?_
  refine j_V.ifc yr6p_M yr6p_4 (t := 8) rfl (fun c4_0 => ?_) (fun c4_0 => ?_)
  · replace c4_0 : ¬ ((1 : Int32) = 0) := jd_ne c4_0
    refine yr6p_k8 L (K.fi [20, 21, 22, 197, 198, 199] rfl rfl) (fun lv h9 L K9 => ?_)
    have K : KN h9 [(20, .inl (3, [.ref 21, .ref 22, .ref 23, .ref 24, .ref 25, .ref 26, .ref 27, .ref 28, .int pevs, .int 1])), (21, .inr (.inl (0, pmss))), (22, .inr (.inl (0, pmms))), (23, .inr (.inl (0, pmts))), (24, .inr (.inl (0, psts))), (25, .inr (.inl (0, pwas))), (26, .inr (.inl (0, prss))), (27, .inr (.inl (0, prrs))), (28, .inr (.inl (0, pfas))), (197, .inl (3, [.ref 198, .ref 199, .ref 200, .ref 201, .ref 202, .ref 203, .ref 204, .ref 205, .int pev, .int 1])), (198, .inr (.inl (0, (aC (nI pms.length) pmss pms)))), (199, .inr (.inl (0, (aC (nI pmm.length) pmms pmm)))), (200, .inr (.inl (0, pmt))), (201, .inr (.inl (0, pst))), (202, .inr (.inl (0, pwa))), (203, .inr (.inl (0, prs))), (204, .inr (.inl (0, prr))), (205, .inr (.inl (0, pfa)))] h0 := K.mg K9 rfl rfl
    clear K9
    refine yr6p_k44 L (K.fi [20, 23, 24, 197, 200, 201] rfl rfl) (fun lv h9 L K9 => ?_)
    have K : KN h9 [(20, .inl (3, [.ref 21, .ref 22, .ref 23, .ref 24, .ref 25, .ref 26, .ref 27, .ref 28, .int pevs, .int 1])), (21, .inr (.inl (0, pmss))), (22, .inr (.inl (0, pmms))), (23, .inr (.inl (0, pmts))), (24, .inr (.inl (0, psts))), (25, .inr (.inl (0, pwas))), (26, .inr (.inl (0, prss))), (27, .inr (.inl (0, prrs))), (28, .inr (.inl (0, pfas))), (197, .inl (3, [.ref 198, .ref 199, .ref 200, .ref 201, .ref 202, .ref 203, .ref 204, .ref 205, .int pev, .int 1])), (198, .inr (.inl (0, (aC (nI pms.length) pmss pms)))), (199, .inr (.inl (0, (aC (nI pmm.length) pmms pmm)))), (200, .inr (.inl (0, (aC (nI pmt.length) pmts pmt)))), (201, .inr (.inl (0, (aC (nI pst.length) psts pst)))), (202, .inr (.inl (0, pwa))), (203, .inr (.inl (0, prs))), (204, .inr (.inl (0, prr))), (205, .inr (.inl (0, pfa)))] h0 := K.mg K9 rfl rfl
    clear K9
    refine yr6p_k80 L (K.fi [20, 25, 26, 197, 202, 203] rfl rfl) (fun lv h9 L K9 => ?_)
    have K : KN h9 [(20, .inl (3, [.ref 21, .ref 22, .ref 23, .ref 24, .ref 25, .ref 26, .ref 27, .ref 28, .int pevs, .int 1])), (21, .inr (.inl (0, pmss))), (22, .inr (.inl (0, pmms))), (23, .inr (.inl (0, pmts))), (24, .inr (.inl (0, psts))), (25, .inr (.inl (0, pwas))), (26, .inr (.inl (0, prss))), (27, .inr (.inl (0, prrs))), (28, .inr (.inl (0, pfas))), (197, .inl (3, [.ref 198, .ref 199, .ref 200, .ref 201, .ref 202, .ref 203, .ref 204, .ref 205, .int pev, .int 1])), (198, .inr (.inl (0, (aC (nI pms.length) pmss pms)))), (199, .inr (.inl (0, (aC (nI pmm.length) pmms pmm)))), (200, .inr (.inl (0, (aC (nI pmt.length) pmts pmt)))), (201, .inr (.inl (0, (aC (nI pst.length) psts pst)))), (202, .inr (.inl (0, (aC (nI pwa.length) pwas pwa)))), (203, .inr (.inl (0, (aC (nI prs.length) prss prs)))), (204, .inr (.inl (0, prr))), (205, .inr (.inl (0, pfa)))] h0 := K.mg K9 rfl rfl
    clear K9
    refine yr6p_k116 L (K.fi [20, 27, 28, 197, 204, 205] rfl rfl) (fun lv h9 L K9 => ?_)
    have K : KN h9 [(20, .inl (3, [.ref 21, .ref 22, .ref 23, .ref 24, .ref 25, .ref 26, .ref 27, .ref 28, .int pevs, .int 1])), (21, .inr (.inl (0, pmss))), (22, .inr (.inl (0, pmms))), (23, .inr (.inl (0, pmts))), (24, .inr (.inl (0, psts))), (25, .inr (.inl (0, pwas))), (26, .inr (.inl (0, prss))), (27, .inr (.inl (0, prrs))), (28, .inr (.inl (0, pfas))), (197, .inl (3, [.ref 198, .ref 199, .ref 200, .ref 201, .ref 202, .ref 203, .ref 204, .ref 205, .int pev, .int 1])), (198, .inr (.inl (0, (aC (nI pms.length) pmss pms)))), (199, .inr (.inl (0, (aC (nI pmm.length) pmms pmm)))), (200, .inr (.inl (0, (aC (nI pmt.length) pmts pmt)))), (201, .inr (.inl (0, (aC (nI pst.length) psts pst)))), (202, .inr (.inl (0, (aC (nI pwa.length) pwas pwa)))), (203, .inr (.inl (0, (aC (nI prs.length) prss prs)))), (204, .inr (.inl (0, (aC (nI prr.length) prrs prr)))), (205, .inr (.inl (0, (aC (nI pfa.length) pfas pfa))))] h0 := K.mg K9 rfl rfl
    clear K9
    refine j_V.ldL yr6p_M yr6p_152 rfl (i := 0) (kd := 2) (v := .ref 197) (pcJ := 153) rfl L rfl rfl rfl ?_
    refine j_V.ldL yr6p_M yr6p_153 rfl (i := 1) (kd := 2) (v := .ref 20) (pcJ := 154) rfl L rfl rfl rfl ?_
    refine j_V.getK yr6p_M yr6p_154 (ci := 3) (j := 8) rfl K rfl rfl ?_
    refine j_V.putK yr6p_M yr6p_157 (ci := 3) (j := 8) (k' := [(20, .inl (3, [.ref 21, .ref 22, .ref 23, .ref 24, .ref 25, .ref 26, .ref 27, .ref 28, .int pevs, .int 1])), (21, .inr (.inl (0, pmss))), (22, .inr (.inl (0, pmms))), (23, .inr (.inl (0, pmts))), (24, .inr (.inl (0, psts))), (25, .inr (.inl (0, pwas))), (26, .inr (.inl (0, prss))), (27, .inr (.inl (0, prrs))), (28, .inr (.inl (0, pfas))), (197, .inl (3, [.ref 198, .ref 199, .ref 200, .ref 201, .ref 202, .ref 203, .ref 204, .ref 205, .int pevs, .int 1])), (198, .inr (.inl (0, (aC (nI pms.length) pmss pms)))), (199, .inr (.inl (0, (aC (nI pmm.length) pmms pmm)))), (200, .inr (.inl (0, (aC (nI pmt.length) pmts pmt)))), (201, .inr (.inl (0, (aC (nI pst.length) psts pst)))), (202, .inr (.inl (0, (aC (nI pwa.length) pwas pwa)))), (203, .inr (.inl (0, (aC (nI prs.length) prss prs)))), (204, .inr (.inl (0, (aC (nI prr.length) prrs prr)))), (205, .inr (.inl (0, (aC (nI pfa.length) pfas pfa))))]) rfl K rfl (Nat.le_of_ble_eq_true rfl) rfl (Or.inl rfl) rfl rfl (fun h K => ?_)
    exact j_V.ret yr6p_M yr6p_160 rfl rfl ⟨rfl, K⟩
  · replace c4_0 : (1 : Int32) = 0 := jd_nen c4_0
    exact absurd c4_0 (by decide)
set_option maxRecDepth 100000 in
theorem yr6s_M : j_meth jP 61 = some (yX7_copyFrom, cX7_copyFrom, 2, none, 1, false, 7) := rfl
set_option maxRecDepth 100000 in
theorem yr6s_0 : j_code jP 61 0 = some (.aload_n 0) := rfl
set_option maxRecDepth 100000 in
theorem yr6s_1 : j_code jP 61 1 = some (.aload_n 1) := rfl
set_option maxRecDepth 100000 in
theorem yr6s_2 : j_code jP 61 2 = some (.getfield 64) := rfl
set_option maxRecDepth 100000 in
theorem yr6s_5 : j_code jP 61 5 = some (.putfield 64) := rfl
set_option maxRecDepth 100000 in
theorem yr6s_8 : j_code jP 61 8 = some (.aload_n 0) := rfl
set_option maxRecDepth 100000 in
theorem yr6s_9 : j_code jP 61 9 = some (.aload_n 1) := rfl
set_option maxRecDepth 100000 in
theorem yr6s_10 : j_code jP 61 10 = some (.getfield 68) := rfl
set_option maxRecDepth 100000 in
theorem yr6s_13 : j_code jP 61 13 = some (.putfield 68) := rfl
set_option maxRecDepth 100000 in
theorem yr6s_16 : j_code jP 61 16 = some (.aload_n 0) := rfl
set_option maxRecDepth 100000 in
theorem yr6s_17 : j_code jP 61 17 = some (.aload_n 1) := rfl
set_option maxRecDepth 100000 in
theorem yr6s_18 : j_code jP 61 18 = some (.getfield 72) := rfl
set_option maxRecDepth 100000 in
theorem yr6s_21 : j_code jP 61 21 = some (.putfield 72) := rfl
set_option maxRecDepth 100000 in
theorem yr6s_24 : j_code jP 61 24 = some (.aload_n 0) := rfl
set_option maxRecDepth 100000 in
theorem yr6s_25 : j_code jP 61 25 = some (.aload_n 1) := rfl
set_option maxRecDepth 100000 in
theorem yr6s_26 : j_code jP 61 26 = some (.getfield 75) := rfl
set_option maxRecDepth 100000 in
theorem yr6s_29 : j_code jP 61 29 = some (.putfield 75) := rfl
set_option maxRecDepth 100000 in
theorem yr6s_32 : j_code jP 61 32 = some (.aload_n 0) := rfl
set_option maxRecDepth 100000 in
theorem yr6s_33 : j_code jP 61 33 = some (.aload_n 1) := rfl
set_option maxRecDepth 100000 in
theorem yr6s_34 : j_code jP 61 34 = some (.getfield 78) := rfl
set_option maxRecDepth 100000 in
theorem yr6s_37 : j_code jP 61 37 = some (.putfield 78) := rfl
set_option maxRecDepth 100000 in
theorem yr6s_40 : j_code jP 61 40 = some (.aload_n 1) := rfl
set_option maxRecDepth 100000 in
theorem yr6s_41 : j_code jP 61 41 = some (.getfield 9) := rfl
set_option maxRecDepth 100000 in
theorem yr6s_44 : j_code jP 61 44 = some (.iconst 0) := rfl
set_option maxRecDepth 100000 in
theorem yr6s_45 : j_code jP 61 45 = some (.aload_n 0) := rfl
set_option maxRecDepth 100000 in
theorem yr6s_46 : j_code jP 61 46 = some (.getfield 9) := rfl
set_option maxRecDepth 100000 in
theorem yr6s_49 : j_code jP 61 49 = some (.iconst 0) := rfl
set_option maxRecDepth 100000 in
theorem yr6s_50 : j_code jP 61 50 = some (.iconst 5) := rfl
set_option maxRecDepth 100000 in
theorem yr6s_51 : j_code jP 61 51 = some (.invokestatic 84) := rfl
set_option maxRecDepth 100000 in
theorem yr6s_54 : j_code jP 61 54 = some (.aload_n 1) := rfl
set_option maxRecDepth 100000 in
theorem yr6s_55 : j_code jP 61 55 = some (.getfield 15) := rfl
set_option maxRecDepth 100000 in
theorem yr6s_58 : j_code jP 61 58 = some (.iconst 0) := rfl
set_option maxRecDepth 100000 in
theorem yr6s_59 : j_code jP 61 59 = some (.aload_n 0) := rfl
set_option maxRecDepth 100000 in
theorem yr6s_60 : j_code jP 61 60 = some (.getfield 15) := rfl
set_option maxRecDepth 100000 in
theorem yr6s_63 : j_code jP 61 63 = some (.iconst 0) := rfl
set_option maxRecDepth 100000 in
theorem yr6s_64 : j_code jP 61 64 = some (.iconst 5) := rfl
set_option maxRecDepth 100000 in
theorem yr6s_65 : j_code jP 61 65 = some (.invokestatic 84) := rfl
set_option maxRecDepth 100000 in
theorem yr6s_68 : j_code jP 61 68 = some (.aload_n 1) := rfl
set_option maxRecDepth 100000 in
theorem yr6s_69 : j_code jP 61 69 = some (.getfield 18) := rfl
set_option maxRecDepth 100000 in
theorem yr6s_72 : j_code jP 61 72 = some (.iconst 0) := rfl
set_option maxRecDepth 100000 in
theorem yr6s_73 : j_code jP 61 73 = some (.aload_n 0) := rfl
set_option maxRecDepth 100000 in
theorem yr6s_74 : j_code jP 61 74 = some (.getfield 18) := rfl
set_option maxRecDepth 100000 in
theorem yr6s_77 : j_code jP 61 77 = some (.iconst 0) := rfl
set_option maxRecDepth 100000 in
theorem yr6s_78 : j_code jP 61 78 = some (.iconst 5) := rfl
set_option maxRecDepth 100000 in
theorem yr6s_79 : j_code jP 61 79 = some (.invokestatic 84) := rfl
set_option maxRecDepth 100000 in
theorem yr6s_82 : j_code jP 61 82 = some (.aload_n 1) := rfl
set_option maxRecDepth 100000 in
theorem yr6s_83 : j_code jP 61 83 = some (.getfield 21) := rfl
set_option maxRecDepth 100000 in
theorem yr6s_86 : j_code jP 61 86 = some (.iconst 0) := rfl
set_option maxRecDepth 100000 in
theorem yr6s_87 : j_code jP 61 87 = some (.aload_n 0) := rfl
set_option maxRecDepth 100000 in
theorem yr6s_88 : j_code jP 61 88 = some (.getfield 21) := rfl
set_option maxRecDepth 100000 in
theorem yr6s_91 : j_code jP 61 91 = some (.iconst 0) := rfl
set_option maxRecDepth 100000 in
theorem yr6s_92 : j_code jP 61 92 = some (.iconst 5) := rfl
set_option maxRecDepth 100000 in
theorem yr6s_93 : j_code jP 61 93 = some (.invokestatic 84) := rfl
set_option maxRecDepth 100000 in
theorem yr6s_96 : j_code jP 61 96 = some (.aload_n 1) := rfl
set_option maxRecDepth 100000 in
theorem yr6s_97 : j_code jP 61 97 = some (.getfield 24) := rfl
set_option maxRecDepth 100000 in
theorem yr6s_100 : j_code jP 61 100 = some (.iconst 0) := rfl
set_option maxRecDepth 100000 in
theorem yr6s_101 : j_code jP 61 101 = some (.aload_n 0) := rfl
set_option maxRecDepth 100000 in
theorem yr6s_102 : j_code jP 61 102 = some (.getfield 24) := rfl
set_option maxRecDepth 100000 in
theorem yr6s_105 : j_code jP 61 105 = some (.iconst 0) := rfl
set_option maxRecDepth 100000 in
theorem yr6s_106 : j_code jP 61 106 = some (.iconst 5) := rfl
set_option maxRecDepth 100000 in
theorem yr6s_107 : j_code jP 61 107 = some (.invokestatic 84) := rfl
set_option maxRecDepth 100000 in
theorem yr6s_110 : j_code jP 61 110 = some (.aload_n 1) := rfl
set_option maxRecDepth 100000 in
theorem yr6s_111 : j_code jP 61 111 = some (.getfield 27) := rfl
set_option maxRecDepth 100000 in
theorem yr6s_114 : j_code jP 61 114 = some (.iconst 0) := rfl
set_option maxRecDepth 100000 in
theorem yr6s_115 : j_code jP 61 115 = some (.aload_n 0) := rfl
set_option maxRecDepth 100000 in
theorem yr6s_116 : j_code jP 61 116 = some (.getfield 27) := rfl
set_option maxRecDepth 100000 in
theorem yr6s_119 : j_code jP 61 119 = some (.iconst 0) := rfl
set_option maxRecDepth 100000 in
theorem yr6s_120 : j_code jP 61 120 = some (.iconst 5) := rfl
set_option maxRecDepth 100000 in
theorem yr6s_121 : j_code jP 61 121 = some (.invokestatic 84) := rfl
set_option maxRecDepth 100000 in
theorem yr6s_124 : j_code jP 61 124 = some (.aload_n 1) := rfl
set_option maxRecDepth 100000 in
theorem yr6s_125 : j_code jP 61 125 = some (.getfield 30) := rfl
set_option maxRecDepth 100000 in
theorem yr6s_128 : j_code jP 61 128 = some (.iconst 0) := rfl
set_option maxRecDepth 100000 in
theorem yr6s_129 : j_code jP 61 129 = some (.aload_n 0) := rfl
set_option maxRecDepth 100000 in
theorem yr6s_130 : j_code jP 61 130 = some (.getfield 30) := rfl
set_option maxRecDepth 100000 in
theorem yr6s_133 : j_code jP 61 133 = some (.iconst 0) := rfl
set_option maxRecDepth 100000 in
theorem yr6s_134 : j_code jP 61 134 = some (.iconst 5) := rfl
set_option maxRecDepth 100000 in
theorem yr6s_135 : j_code jP 61 135 = some (.invokestatic 84) := rfl
set_option maxRecDepth 100000 in
theorem yr6s_138 : j_code jP 61 138 = some (.aload_n 1) := rfl
set_option maxRecDepth 100000 in
theorem yr6s_139 : j_code jP 61 139 = some (.getfield 33) := rfl
set_option maxRecDepth 100000 in
theorem yr6s_142 : j_code jP 61 142 = some (.iconst 0) := rfl
set_option maxRecDepth 100000 in
theorem yr6s_143 : j_code jP 61 143 = some (.aload_n 0) := rfl
set_option maxRecDepth 100000 in
theorem yr6s_144 : j_code jP 61 144 = some (.getfield 33) := rfl
set_option maxRecDepth 100000 in
theorem yr6s_147 : j_code jP 61 147 = some (.iconst 0) := rfl
set_option maxRecDepth 100000 in
theorem yr6s_148 : j_code jP 61 148 = some (.bipush 6) := rfl
set_option maxRecDepth 100000 in
theorem yr6s_150 : j_code jP 61 150 = some (.invokestatic 84) := rfl
set_option maxRecDepth 100000 in
theorem yr6s_153 : j_code jP 61 153 = some (.aload_n 1) := rfl
set_option maxRecDepth 100000 in
theorem yr6s_154 : j_code jP 61 154 = some (.getfield 36) := rfl
set_option maxRecDepth 100000 in
theorem yr6s_157 : j_code jP 61 157 = some (.iconst 0) := rfl
set_option maxRecDepth 100000 in
theorem yr6s_158 : j_code jP 61 158 = some (.aload_n 0) := rfl
set_option maxRecDepth 100000 in
theorem yr6s_159 : j_code jP 61 159 = some (.getfield 36) := rfl
set_option maxRecDepth 100000 in
theorem yr6s_162 : j_code jP 61 162 = some (.iconst 0) := rfl
set_option maxRecDepth 100000 in
theorem yr6s_163 : j_code jP 61 163 = some (.bipush 6) := rfl
set_option maxRecDepth 100000 in
theorem yr6s_165 : j_code jP 61 165 = some (.invokestatic 84) := rfl
set_option maxRecDepth 100000 in
theorem yr6s_168 : j_code jP 61 168 = some (.aload_n 1) := rfl
set_option maxRecDepth 100000 in
theorem yr6s_169 : j_code jP 61 169 = some (.getfield 39) := rfl
set_option maxRecDepth 100000 in
theorem yr6s_172 : j_code jP 61 172 = some (.iconst 0) := rfl
set_option maxRecDepth 100000 in
theorem yr6s_173 : j_code jP 61 173 = some (.aload_n 0) := rfl
set_option maxRecDepth 100000 in
theorem yr6s_174 : j_code jP 61 174 = some (.getfield 39) := rfl
set_option maxRecDepth 100000 in
theorem yr6s_177 : j_code jP 61 177 = some (.iconst 0) := rfl
set_option maxRecDepth 100000 in
theorem yr6s_178 : j_code jP 61 178 = some (.aload_n 0) := rfl
set_option maxRecDepth 100000 in
theorem yr6s_179 : j_code jP 61 179 = some (.getfield 39) := rfl
set_option maxRecDepth 100000 in
theorem yr6s_182 : j_code jP 61 182 = some (.arraylength) := rfl
set_option maxRecDepth 100000 in
theorem yr6s_183 : j_code jP 61 183 = some (.invokestatic 84) := rfl
set_option maxRecDepth 100000 in
theorem yr6s_186 : j_code jP 61 186 = some (.aload_n 1) := rfl
set_option maxRecDepth 100000 in
theorem yr6s_187 : j_code jP 61 187 = some (.getfield 42) := rfl
set_option maxRecDepth 100000 in
theorem yr6s_190 : j_code jP 61 190 = some (.iconst 0) := rfl
set_option maxRecDepth 100000 in
theorem yr6s_191 : j_code jP 61 191 = some (.aload_n 0) := rfl
set_option maxRecDepth 100000 in
theorem yr6s_192 : j_code jP 61 192 = some (.getfield 42) := rfl
set_option maxRecDepth 100000 in
theorem yr6s_195 : j_code jP 61 195 = some (.iconst 0) := rfl
set_option maxRecDepth 100000 in
theorem yr6s_196 : j_code jP 61 196 = some (.aload_n 0) := rfl
set_option maxRecDepth 100000 in
theorem yr6s_197 : j_code jP 61 197 = some (.getfield 42) := rfl
set_option maxRecDepth 100000 in
theorem yr6s_200 : j_code jP 61 200 = some (.arraylength) := rfl
set_option maxRecDepth 100000 in
theorem yr6s_201 : j_code jP 61 201 = some (.invokestatic 84) := rfl
set_option maxRecDepth 100000 in
theorem yr6s_204 : j_code jP 61 204 = some (.aload_n 1) := rfl
set_option maxRecDepth 100000 in
theorem yr6s_205 : j_code jP 61 205 = some (.getfield 45) := rfl
set_option maxRecDepth 100000 in
theorem yr6s_208 : j_code jP 61 208 = some (.iconst 0) := rfl
set_option maxRecDepth 100000 in
theorem yr6s_209 : j_code jP 61 209 = some (.aload_n 0) := rfl
set_option maxRecDepth 100000 in
theorem yr6s_210 : j_code jP 61 210 = some (.getfield 45) := rfl
set_option maxRecDepth 100000 in
theorem yr6s_213 : j_code jP 61 213 = some (.iconst 0) := rfl
set_option maxRecDepth 100000 in
theorem yr6s_214 : j_code jP 61 214 = some (.aload_n 0) := rfl
set_option maxRecDepth 100000 in
theorem yr6s_215 : j_code jP 61 215 = some (.getfield 45) := rfl
set_option maxRecDepth 100000 in
theorem yr6s_218 : j_code jP 61 218 = some (.arraylength) := rfl
set_option maxRecDepth 100000 in
theorem yr6s_219 : j_code jP 61 219 = some (.invokestatic 84) := rfl
set_option maxRecDepth 100000 in
theorem yr6s_222 : j_code jP 61 222 = some (.aload_n 0) := rfl
set_option maxRecDepth 100000 in
theorem yr6s_223 : j_code jP 61 223 = some (.getfield 60) := rfl
set_option maxRecDepth 100000 in
theorem yr6s_226 : j_code jP 61 226 = some (.aload_n 1) := rfl
set_option maxRecDepth 100000 in
theorem yr6s_227 : j_code jP 61 227 = some (.getfield 60) := rfl
set_option maxRecDepth 100000 in
theorem yr6s_230 : j_code jP 61 230 = some (.invokevirtual 108) := rfl
set_option maxRecDepth 100000 in
theorem yr6s_233 : j_code jP 61 233 = some (.return_) := rfl
set_option maxRecDepth 1000000 in
theorem yr6s_k0 {ly : Value} {mi : Int32} {shu : Int32} {bus : Int32} {lks : Int32} {lys : Nat} {mis : Int32} {shus : Int32} {buss : Int32} {lkss : Int32} {d : Nat} {lv : J_L} {h h0 : J_H} {Q : Option Value → J_H → Prop} (L : LK lv [(0, .ref 181), (1, .ref 4)]) (K : KN h [(4, .inl (7, [.ref lys, .int mis, .int shus, .int buss, .ref 5, .ref 6, .ref 7, .ref 8, .ref 9, .ref 10, .ref 11, .ref 12, .ref 13, .ref 14, .ref 15, .int lkss, .ref 16, .ref 17, .ref 20])), (181, .inl (7, [ly, .int mi, .int shu, .int bus, .ref 182, .ref 183, .ref 184, .ref 185, .ref 186, .ref 187, .ref 188, .ref 189, .ref 190, .ref 191, .ref 192, .int lks, .ref 193, .ref 194, .ref 197]))] h0) (kk : ∀ lv h, LK lv [(0, .ref 181), (1, .ref 4)] → KN h [(4, .inl (7, [.ref lys, .int mis, .int shus, .int buss, .ref 5, .ref 6, .ref 7, .ref 8, .ref 9, .ref 10, .ref 11, .ref 12, .ref 13, .ref 14, .ref 15, .int lkss, .ref 16, .ref 17, .ref 20])), (181, .inl (7, [.ref lys, .int mis, .int shus, .int buss, .ref 182, .ref 183, .ref 184, .ref 185, .ref 186, .ref 187, .ref 188, .ref 189, .ref 190, .ref 191, .ref 192, .int lkss, .ref 193, .ref 194, .ref 197]))] h0 → j_V jP d 61 40 lv [] h Q) : j_V jP d 61 0 lv [] h Q := by
  refine j_V.ldL yr6s_M yr6s_0 rfl (i := 0) (kd := 2) (v := .ref 181) (pcJ := 1) rfl L rfl rfl rfl ?_
  refine j_V.ldL yr6s_M yr6s_1 rfl (i := 1) (kd := 2) (v := .ref 4) (pcJ := 2) rfl L rfl rfl rfl ?_
  refine j_V.getK yr6s_M yr6s_2 (ci := 7) (j := 0) rfl K rfl rfl ?_
  refine j_V.putK yr6s_M yr6s_5 (ci := 7) (j := 0) (k' := [(4, .inl (7, [.ref lys, .int mis, .int shus, .int buss, .ref 5, .ref 6, .ref 7, .ref 8, .ref 9, .ref 10, .ref 11, .ref 12, .ref 13, .ref 14, .ref 15, .int lkss, .ref 16, .ref 17, .ref 20])), (181, .inl (7, [.ref lys, .int mi, .int shu, .int bus, .ref 182, .ref 183, .ref 184, .ref 185, .ref 186, .ref 187, .ref 188, .ref 189, .ref 190, .ref 191, .ref 192, .int lks, .ref 193, .ref 194, .ref 197]))]) rfl K rfl (Nat.le_of_ble_eq_true rfl) rfl (Or.inl rfl) rfl rfl (fun h K => ?_)
  refine j_V.ldL yr6s_M yr6s_8 rfl (i := 0) (kd := 2) (v := .ref 181) (pcJ := 9) rfl L rfl rfl rfl ?_
  refine j_V.ldL yr6s_M yr6s_9 rfl (i := 1) (kd := 2) (v := .ref 4) (pcJ := 10) rfl L rfl rfl rfl ?_
  refine j_V.getK yr6s_M yr6s_10 (ci := 7) (j := 1) rfl K rfl rfl ?_
  refine j_V.putK yr6s_M yr6s_13 (ci := 7) (j := 1) (k' := [(4, .inl (7, [.ref lys, .int mis, .int shus, .int buss, .ref 5, .ref 6, .ref 7, .ref 8, .ref 9, .ref 10, .ref 11, .ref 12, .ref 13, .ref 14, .ref 15, .int lkss, .ref 16, .ref 17, .ref 20])), (181, .inl (7, [.ref lys, .int mis, .int shu, .int bus, .ref 182, .ref 183, .ref 184, .ref 185, .ref 186, .ref 187, .ref 188, .ref 189, .ref 190, .ref 191, .ref 192, .int lks, .ref 193, .ref 194, .ref 197]))]) rfl K rfl (Nat.le_of_ble_eq_true rfl) rfl (Or.inl rfl) rfl rfl (fun h K => ?_)
  refine j_V.ldL yr6s_M yr6s_16 rfl (i := 0) (kd := 2) (v := .ref 181) (pcJ := 17) rfl L rfl rfl rfl ?_
  refine j_V.ldL yr6s_M yr6s_17 rfl (i := 1) (kd := 2) (v := .ref 4) (pcJ := 18) rfl L rfl rfl rfl ?_
  refine j_V.getK yr6s_M yr6s_18 (ci := 7) (j := 2) rfl K rfl rfl ?_
  refine j_V.putK yr6s_M yr6s_21 (ci := 7) (j := 2) (k' := [(4, .inl (7, [.ref lys, .int mis, .int shus, .int buss, .ref 5, .ref 6, .ref 7, .ref 8, .ref 9, .ref 10, .ref 11, .ref 12, .ref 13, .ref 14, .ref 15, .int lkss, .ref 16, .ref 17, .ref 20])), (181, .inl (7, [.ref lys, .int mis, .int shus, .int bus, .ref 182, .ref 183, .ref 184, .ref 185, .ref 186, .ref 187, .ref 188, .ref 189, .ref 190, .ref 191, .ref 192, .int lks, .ref 193, .ref 194, .ref 197]))]) rfl K rfl (Nat.le_of_ble_eq_true rfl) rfl (Or.inl rfl) rfl rfl (fun h K => ?_)
  refine j_V.ldL yr6s_M yr6s_24 rfl (i := 0) (kd := 2) (v := .ref 181) (pcJ := 25) rfl L rfl rfl rfl ?_
  refine j_V.ldL yr6s_M yr6s_25 rfl (i := 1) (kd := 2) (v := .ref 4) (pcJ := 26) rfl L rfl rfl rfl ?_
  refine j_V.getK yr6s_M yr6s_26 (ci := 7) (j := 3) rfl K rfl rfl ?_
  refine j_V.putK yr6s_M yr6s_29 (ci := 7) (j := 3) (k' := [(4, .inl (7, [.ref lys, .int mis, .int shus, .int buss, .ref 5, .ref 6, .ref 7, .ref 8, .ref 9, .ref 10, .ref 11, .ref 12, .ref 13, .ref 14, .ref 15, .int lkss, .ref 16, .ref 17, .ref 20])), (181, .inl (7, [.ref lys, .int mis, .int shus, .int buss, .ref 182, .ref 183, .ref 184, .ref 185, .ref 186, .ref 187, .ref 188, .ref 189, .ref 190, .ref 191, .ref 192, .int lks, .ref 193, .ref 194, .ref 197]))]) rfl K rfl (Nat.le_of_ble_eq_true rfl) rfl (Or.inl rfl) rfl rfl (fun h K => ?_)
  refine j_V.ldL yr6s_M yr6s_32 rfl (i := 0) (kd := 2) (v := .ref 181) (pcJ := 33) rfl L rfl rfl rfl ?_
  refine j_V.ldL yr6s_M yr6s_33 rfl (i := 1) (kd := 2) (v := .ref 4) (pcJ := 34) rfl L rfl rfl rfl ?_
  refine j_V.getK yr6s_M yr6s_34 (ci := 7) (j := 15) rfl K rfl rfl ?_
  refine j_V.putK yr6s_M yr6s_37 (ci := 7) (j := 15) (k' := [(4, .inl (7, [.ref lys, .int mis, .int shus, .int buss, .ref 5, .ref 6, .ref 7, .ref 8, .ref 9, .ref 10, .ref 11, .ref 12, .ref 13, .ref 14, .ref 15, .int lkss, .ref 16, .ref 17, .ref 20])), (181, .inl (7, [.ref lys, .int mis, .int shus, .int buss, .ref 182, .ref 183, .ref 184, .ref 185, .ref 186, .ref 187, .ref 188, .ref 189, .ref 190, .ref 191, .ref 192, .int lkss, .ref 193, .ref 194, .ref 197]))]) rfl K rfl (Nat.le_of_ble_eq_true rfl) rfl (Or.inl rfl) rfl rfl (fun h K => ?_)
  exact kk _ _ L K
set_option maxRecDepth 1000000 in
theorem yr6s_k40 {rk : List Int32} {sta : List Int32} {ph : List Int32} {lys : Nat} {mis : Int32} {shus : Int32} {buss : Int32} {lkss : Int32} {rks : List Int32} {stas : List Int32} {phs : List Int32} {d : Nat} {lv : J_L} {h h0 : J_H} {Q : Option Value → J_H → Prop} (L : LK lv [(0, .ref 181), (1, .ref 4)]) (K : KN h [(4, .inl (7, [.ref lys, .int mis, .int shus, .int buss, .ref 5, .ref 6, .ref 7, .ref 8, .ref 9, .ref 10, .ref 11, .ref 12, .ref 13, .ref 14, .ref 15, .int lkss, .ref 16, .ref 17, .ref 20])), (5, .inr (.inl (0, rks))), (6, .inr (.inl (0, stas))), (7, .inr (.inl (0, phs))), (181, .inl (7, [.ref lys, .int mis, .int shus, .int buss, .ref 182, .ref 183, .ref 184, .ref 185, .ref 186, .ref 187, .ref 188, .ref 189, .ref 190, .ref 191, .ref 192, .int lkss, .ref 193, .ref 194, .ref 197])), (182, .inr (.inl (0, rk))), (183, .inr (.inl (0, sta))), (184, .inr (.inl (0, ph)))] h0) (kk : ∀ lv h, LK lv [(0, .ref 181), (1, .ref 4)] → KN h [(4, .inl (7, [.ref lys, .int mis, .int shus, .int buss, .ref 5, .ref 6, .ref 7, .ref 8, .ref 9, .ref 10, .ref 11, .ref 12, .ref 13, .ref 14, .ref 15, .int lkss, .ref 16, .ref 17, .ref 20])), (5, .inr (.inl (0, rks))), (6, .inr (.inl (0, stas))), (7, .inr (.inl (0, phs))), (181, .inl (7, [.ref lys, .int mis, .int shus, .int buss, .ref 182, .ref 183, .ref 184, .ref 185, .ref 186, .ref 187, .ref 188, .ref 189, .ref 190, .ref 191, .ref 192, .int lkss, .ref 193, .ref 194, .ref 197])), (182, .inr (.inl (0, (aC 5 rks rk)))), (183, .inr (.inl (0, (aC 5 stas sta)))), (184, .inr (.inl (0, (aC 5 phs ph))))] h0 → j_V jP d 61 82 lv [] h Q) : j_V jP d 61 40 lv [] h Q := by
  refine j_V.ldL yr6s_M yr6s_40 rfl (i := 1) (kd := 2) (v := .ref 4) (pcJ := 41) rfl L rfl rfl rfl ?_
  refine j_V.getK yr6s_M yr6s_41 (ci := 7) (j := 4) rfl K rfl rfl ?_
  refine j_V.one yr6s_M yr6s_44 (by decide) (pcJ := 45) (stJ := [.int 0, .ref 5]) rfl ?_
  refine j_V.ldL yr6s_M yr6s_45 rfl (i := 0) (kd := 2) (v := .ref 181) (pcJ := 46) rfl L rfl rfl rfl ?_
  refine j_V.getK yr6s_M yr6s_46 (ci := 7) (j := 4) rfl K rfl rfl ?_
  refine j_V.one yr6s_M yr6s_49 (by decide) (pcJ := 50) (stJ := [.int 0, .ref 182, .int 0, .ref 5]) rfl ?_
  refine j_V.one yr6s_M yr6s_50 (by decide) (pcJ := 51) (stJ := [.int 5, .int 0, .ref 182, .int 0, .ref 5]) rfl ?_
  refine j_V.acp yr6s_M yr6s_51 rfl rfl K rfl rfl rfl (fun h K => ?_)
  refine j_V.ldL yr6s_M yr6s_54 rfl (i := 1) (kd := 2) (v := .ref 4) (pcJ := 55) rfl L rfl rfl rfl ?_
  refine j_V.getK yr6s_M yr6s_55 (ci := 7) (j := 5) rfl K rfl rfl ?_
  refine j_V.one yr6s_M yr6s_58 (by decide) (pcJ := 59) (stJ := [.int 0, .ref 6]) rfl ?_
  refine j_V.ldL yr6s_M yr6s_59 rfl (i := 0) (kd := 2) (v := .ref 181) (pcJ := 60) rfl L rfl rfl rfl ?_
  refine j_V.getK yr6s_M yr6s_60 (ci := 7) (j := 5) rfl K rfl rfl ?_
  refine j_V.one yr6s_M yr6s_63 (by decide) (pcJ := 64) (stJ := [.int 0, .ref 183, .int 0, .ref 6]) rfl ?_
  refine j_V.one yr6s_M yr6s_64 (by decide) (pcJ := 65) (stJ := [.int 5, .int 0, .ref 183, .int 0, .ref 6]) rfl ?_
  refine j_V.acp yr6s_M yr6s_65 rfl rfl K rfl rfl rfl (fun h K => ?_)
  refine j_V.ldL yr6s_M yr6s_68 rfl (i := 1) (kd := 2) (v := .ref 4) (pcJ := 69) rfl L rfl rfl rfl ?_
  refine j_V.getK yr6s_M yr6s_69 (ci := 7) (j := 6) rfl K rfl rfl ?_
  refine j_V.one yr6s_M yr6s_72 (by decide) (pcJ := 73) (stJ := [.int 0, .ref 7]) rfl ?_
  refine j_V.ldL yr6s_M yr6s_73 rfl (i := 0) (kd := 2) (v := .ref 181) (pcJ := 74) rfl L rfl rfl rfl ?_
  refine j_V.getK yr6s_M yr6s_74 (ci := 7) (j := 6) rfl K rfl rfl ?_
  refine j_V.one yr6s_M yr6s_77 (by decide) (pcJ := 78) (stJ := [.int 0, .ref 184, .int 0, .ref 7]) rfl ?_
  refine j_V.one yr6s_M yr6s_78 (by decide) (pcJ := 79) (stJ := [.int 5, .int 0, .ref 184, .int 0, .ref 7]) rfl ?_
  refine j_V.acp yr6s_M yr6s_79 rfl rfl K rfl rfl rfl (fun h K => ?_)
  exact kk _ _ L K
set_option maxRecDepth 1000000 in
theorem yr6s_k82 {sp : List Int32} {ce : List Int32} {du : List Int32} {lys : Nat} {mis : Int32} {shus : Int32} {buss : Int32} {lkss : Int32} {sps : List Int32} {ces : List Int32} {dus : List Int32} {d : Nat} {lv : J_L} {h h0 : J_H} {Q : Option Value → J_H → Prop} (L : LK lv [(0, .ref 181), (1, .ref 4)]) (K : KN h [(4, .inl (7, [.ref lys, .int mis, .int shus, .int buss, .ref 5, .ref 6, .ref 7, .ref 8, .ref 9, .ref 10, .ref 11, .ref 12, .ref 13, .ref 14, .ref 15, .int lkss, .ref 16, .ref 17, .ref 20])), (8, .inr (.inl (0, sps))), (9, .inr (.inl (0, ces))), (10, .inr (.inl (0, dus))), (181, .inl (7, [.ref lys, .int mis, .int shus, .int buss, .ref 182, .ref 183, .ref 184, .ref 185, .ref 186, .ref 187, .ref 188, .ref 189, .ref 190, .ref 191, .ref 192, .int lkss, .ref 193, .ref 194, .ref 197])), (185, .inr (.inl (0, sp))), (186, .inr (.inl (0, ce))), (187, .inr (.inl (0, du)))] h0) (kk : ∀ lv h, LK lv [(0, .ref 181), (1, .ref 4)] → KN h [(4, .inl (7, [.ref lys, .int mis, .int shus, .int buss, .ref 5, .ref 6, .ref 7, .ref 8, .ref 9, .ref 10, .ref 11, .ref 12, .ref 13, .ref 14, .ref 15, .int lkss, .ref 16, .ref 17, .ref 20])), (8, .inr (.inl (0, sps))), (9, .inr (.inl (0, ces))), (10, .inr (.inl (0, dus))), (181, .inl (7, [.ref lys, .int mis, .int shus, .int buss, .ref 182, .ref 183, .ref 184, .ref 185, .ref 186, .ref 187, .ref 188, .ref 189, .ref 190, .ref 191, .ref 192, .int lkss, .ref 193, .ref 194, .ref 197])), (185, .inr (.inl (0, (aC 5 sps sp)))), (186, .inr (.inl (0, (aC 5 ces ce)))), (187, .inr (.inl (0, (aC 5 dus du))))] h0 → j_V jP d 61 124 lv [] h Q) : j_V jP d 61 82 lv [] h Q := by
  refine j_V.ldL yr6s_M yr6s_82 rfl (i := 1) (kd := 2) (v := .ref 4) (pcJ := 83) rfl L rfl rfl rfl ?_
  refine j_V.getK yr6s_M yr6s_83 (ci := 7) (j := 7) rfl K rfl rfl ?_
  refine j_V.one yr6s_M yr6s_86 (by decide) (pcJ := 87) (stJ := [.int 0, .ref 8]) rfl ?_
  refine j_V.ldL yr6s_M yr6s_87 rfl (i := 0) (kd := 2) (v := .ref 181) (pcJ := 88) rfl L rfl rfl rfl ?_
  refine j_V.getK yr6s_M yr6s_88 (ci := 7) (j := 7) rfl K rfl rfl ?_
  refine j_V.one yr6s_M yr6s_91 (by decide) (pcJ := 92) (stJ := [.int 0, .ref 185, .int 0, .ref 8]) rfl ?_
  refine j_V.one yr6s_M yr6s_92 (by decide) (pcJ := 93) (stJ := [.int 5, .int 0, .ref 185, .int 0, .ref 8]) rfl ?_
  refine j_V.acp yr6s_M yr6s_93 rfl rfl K rfl rfl rfl (fun h K => ?_)
  refine j_V.ldL yr6s_M yr6s_96 rfl (i := 1) (kd := 2) (v := .ref 4) (pcJ := 97) rfl L rfl rfl rfl ?_
  refine j_V.getK yr6s_M yr6s_97 (ci := 7) (j := 8) rfl K rfl rfl ?_
  refine j_V.one yr6s_M yr6s_100 (by decide) (pcJ := 101) (stJ := [.int 0, .ref 9]) rfl ?_
  refine j_V.ldL yr6s_M yr6s_101 rfl (i := 0) (kd := 2) (v := .ref 181) (pcJ := 102) rfl L rfl rfl rfl ?_
  refine j_V.getK yr6s_M yr6s_102 (ci := 7) (j := 8) rfl K rfl rfl ?_
  refine j_V.one yr6s_M yr6s_105 (by decide) (pcJ := 106) (stJ := [.int 0, .ref 186, .int 0, .ref 9]) rfl ?_
  refine j_V.one yr6s_M yr6s_106 (by decide) (pcJ := 107) (stJ := [.int 5, .int 0, .ref 186, .int 0, .ref 9]) rfl ?_
  refine j_V.acp yr6s_M yr6s_107 rfl rfl K rfl rfl rfl (fun h K => ?_)
  refine j_V.ldL yr6s_M yr6s_110 rfl (i := 1) (kd := 2) (v := .ref 4) (pcJ := 111) rfl L rfl rfl rfl ?_
  refine j_V.getK yr6s_M yr6s_111 (ci := 7) (j := 9) rfl K rfl rfl ?_
  refine j_V.one yr6s_M yr6s_114 (by decide) (pcJ := 115) (stJ := [.int 0, .ref 10]) rfl ?_
  refine j_V.ldL yr6s_M yr6s_115 rfl (i := 0) (kd := 2) (v := .ref 181) (pcJ := 116) rfl L rfl rfl rfl ?_
  refine j_V.getK yr6s_M yr6s_116 (ci := 7) (j := 9) rfl K rfl rfl ?_
  refine j_V.one yr6s_M yr6s_119 (by decide) (pcJ := 120) (stJ := [.int 0, .ref 187, .int 0, .ref 10]) rfl ?_
  refine j_V.one yr6s_M yr6s_120 (by decide) (pcJ := 121) (stJ := [.int 5, .int 0, .ref 187, .int 0, .ref 10]) rfl ?_
  refine j_V.acp yr6s_M yr6s_121 rfl rfl K rfl rfl rfl (fun h K => ?_)
  exact kk _ _ L K
set_option maxRecDepth 1000000 in
theorem yr6s_k124 {he : List Int32} {ri : List Int32} {us : List Int32} {lys : Nat} {mis : Int32} {shus : Int32} {buss : Int32} {lkss : Int32} {hes : List Int32} {ris : List Int32} {uss : List Int32} {d : Nat} {lv : J_L} {h h0 : J_H} {Q : Option Value → J_H → Prop} (L : LK lv [(0, .ref 181), (1, .ref 4)]) (K : KN h [(4, .inl (7, [.ref lys, .int mis, .int shus, .int buss, .ref 5, .ref 6, .ref 7, .ref 8, .ref 9, .ref 10, .ref 11, .ref 12, .ref 13, .ref 14, .ref 15, .int lkss, .ref 16, .ref 17, .ref 20])), (11, .inr (.inl (0, hes))), (12, .inr (.inl (0, ris))), (13, .inr (.inl (0, uss))), (181, .inl (7, [.ref lys, .int mis, .int shus, .int buss, .ref 182, .ref 183, .ref 184, .ref 185, .ref 186, .ref 187, .ref 188, .ref 189, .ref 190, .ref 191, .ref 192, .int lkss, .ref 193, .ref 194, .ref 197])), (188, .inr (.inl (0, he))), (189, .inr (.inl (0, ri))), (190, .inr (.inl (0, us)))] h0) (kk : ∀ lv h, LK lv [(0, .ref 181), (1, .ref 4)] → KN h [(4, .inl (7, [.ref lys, .int mis, .int shus, .int buss, .ref 5, .ref 6, .ref 7, .ref 8, .ref 9, .ref 10, .ref 11, .ref 12, .ref 13, .ref 14, .ref 15, .int lkss, .ref 16, .ref 17, .ref 20])), (11, .inr (.inl (0, hes))), (12, .inr (.inl (0, ris))), (13, .inr (.inl (0, uss))), (181, .inl (7, [.ref lys, .int mis, .int shus, .int buss, .ref 182, .ref 183, .ref 184, .ref 185, .ref 186, .ref 187, .ref 188, .ref 189, .ref 190, .ref 191, .ref 192, .int lkss, .ref 193, .ref 194, .ref 197])), (188, .inr (.inl (0, (aC 5 hes he)))), (189, .inr (.inl (0, (aC 6 ris ri)))), (190, .inr (.inl (0, (aC 6 uss us))))] h0 → j_V jP d 61 168 lv [] h Q) : j_V jP d 61 124 lv [] h Q := by
  refine j_V.ldL yr6s_M yr6s_124 rfl (i := 1) (kd := 2) (v := .ref 4) (pcJ := 125) rfl L rfl rfl rfl ?_
  refine j_V.getK yr6s_M yr6s_125 (ci := 7) (j := 10) rfl K rfl rfl ?_
  refine j_V.one yr6s_M yr6s_128 (by decide) (pcJ := 129) (stJ := [.int 0, .ref 11]) rfl ?_
  refine j_V.ldL yr6s_M yr6s_129 rfl (i := 0) (kd := 2) (v := .ref 181) (pcJ := 130) rfl L rfl rfl rfl ?_
  refine j_V.getK yr6s_M yr6s_130 (ci := 7) (j := 10) rfl K rfl rfl ?_
  refine j_V.one yr6s_M yr6s_133 (by decide) (pcJ := 134) (stJ := [.int 0, .ref 188, .int 0, .ref 11]) rfl ?_
  refine j_V.one yr6s_M yr6s_134 (by decide) (pcJ := 135) (stJ := [.int 5, .int 0, .ref 188, .int 0, .ref 11]) rfl ?_
  refine j_V.acp yr6s_M yr6s_135 rfl rfl K rfl rfl rfl (fun h K => ?_)
  refine j_V.ldL yr6s_M yr6s_138 rfl (i := 1) (kd := 2) (v := .ref 4) (pcJ := 139) rfl L rfl rfl rfl ?_
  refine j_V.getK yr6s_M yr6s_139 (ci := 7) (j := 11) rfl K rfl rfl ?_
  refine j_V.one yr6s_M yr6s_142 (by decide) (pcJ := 143) (stJ := [.int 0, .ref 12]) rfl ?_
  refine j_V.ldL yr6s_M yr6s_143 rfl (i := 0) (kd := 2) (v := .ref 181) (pcJ := 144) rfl L rfl rfl rfl ?_
  refine j_V.getK yr6s_M yr6s_144 (ci := 7) (j := 11) rfl K rfl rfl ?_
  refine j_V.one yr6s_M yr6s_147 (by decide) (pcJ := 148) (stJ := [.int 0, .ref 189, .int 0, .ref 12]) rfl ?_
  refine j_V.one yr6s_M yr6s_148 (by decide) (pcJ := 150) (stJ := [.int 6, .int 0, .ref 189, .int 0, .ref 12]) rfl ?_
  refine j_V.acp yr6s_M yr6s_150 rfl rfl K rfl rfl rfl (fun h K => ?_)
  refine j_V.ldL yr6s_M yr6s_153 rfl (i := 1) (kd := 2) (v := .ref 4) (pcJ := 154) rfl L rfl rfl rfl ?_
  refine j_V.getK yr6s_M yr6s_154 (ci := 7) (j := 12) rfl K rfl rfl ?_
  refine j_V.one yr6s_M yr6s_157 (by decide) (pcJ := 158) (stJ := [.int 0, .ref 13]) rfl ?_
  refine j_V.ldL yr6s_M yr6s_158 rfl (i := 0) (kd := 2) (v := .ref 181) (pcJ := 159) rfl L rfl rfl rfl ?_
  refine j_V.getK yr6s_M yr6s_159 (ci := 7) (j := 12) rfl K rfl rfl ?_
  refine j_V.one yr6s_M yr6s_162 (by decide) (pcJ := 163) (stJ := [.int 0, .ref 190, .int 0, .ref 13]) rfl ?_
  refine j_V.one yr6s_M yr6s_163 (by decide) (pcJ := 165) (stJ := [.int 6, .int 0, .ref 190, .int 0, .ref 13]) rfl ?_
  refine j_V.acp yr6s_M yr6s_165 rfl rfl K rfl rfl rfl (fun h K => ?_)
  exact kk _ _ L K
set_option maxRecDepth 1000000 in
theorem yr6s_k168 {cm : List Int32} {lf : List Int32} {lkd : List Int32} {lys : Nat} {mis : Int32} {shus : Int32} {buss : Int32} {lkss : Int32} {cms : List Int32} {lfs : List Int32} {lkds : List Int32} {d : Nat} {lv : J_L} {h h0 : J_H} {Q : Option Value → J_H → Prop} (L : LK lv [(0, .ref 181), (1, .ref 4)]) (K : KN h [(4, .inl (7, [.ref lys, .int mis, .int shus, .int buss, .ref 5, .ref 6, .ref 7, .ref 8, .ref 9, .ref 10, .ref 11, .ref 12, .ref 13, .ref 14, .ref 15, .int lkss, .ref 16, .ref 17, .ref 20])), (14, .inr (.inl (0, cms))), (15, .inr (.inl (0, lfs))), (16, .inr (.inl (0, lkds))), (181, .inl (7, [.ref lys, .int mis, .int shus, .int buss, .ref 182, .ref 183, .ref 184, .ref 185, .ref 186, .ref 187, .ref 188, .ref 189, .ref 190, .ref 191, .ref 192, .int lkss, .ref 193, .ref 194, .ref 197])), (191, .inr (.inl (0, cm))), (192, .inr (.inl (0, lf))), (193, .inr (.inl (0, lkd)))] h0) (kk : ∀ lv h, LK lv [(0, .ref 181), (1, .ref 4)] → KN h [(4, .inl (7, [.ref lys, .int mis, .int shus, .int buss, .ref 5, .ref 6, .ref 7, .ref 8, .ref 9, .ref 10, .ref 11, .ref 12, .ref 13, .ref 14, .ref 15, .int lkss, .ref 16, .ref 17, .ref 20])), (14, .inr (.inl (0, cms))), (15, .inr (.inl (0, lfs))), (16, .inr (.inl (0, lkds))), (181, .inl (7, [.ref lys, .int mis, .int shus, .int buss, .ref 182, .ref 183, .ref 184, .ref 185, .ref 186, .ref 187, .ref 188, .ref 189, .ref 190, .ref 191, .ref 192, .int lkss, .ref 193, .ref 194, .ref 197])), (191, .inr (.inl (0, (aC (nI cm.length) cms cm)))), (192, .inr (.inl (0, (aC (nI lf.length) lfs lf)))), (193, .inr (.inl (0, (aC (nI lkd.length) lkds lkd))))] h0 → j_V jP d 61 222 lv [] h Q) : j_V jP d 61 168 lv [] h Q := by
  refine j_V.ldL yr6s_M yr6s_168 rfl (i := 1) (kd := 2) (v := .ref 4) (pcJ := 169) rfl L rfl rfl rfl ?_
  refine j_V.getK yr6s_M yr6s_169 (ci := 7) (j := 13) rfl K rfl rfl ?_
  refine j_V.one yr6s_M yr6s_172 (by decide) (pcJ := 173) (stJ := [.int 0, .ref 14]) rfl ?_
  refine j_V.ldL yr6s_M yr6s_173 rfl (i := 0) (kd := 2) (v := .ref 181) (pcJ := 174) rfl L rfl rfl rfl ?_
  refine j_V.getK yr6s_M yr6s_174 (ci := 7) (j := 13) rfl K rfl rfl ?_
  refine j_V.one yr6s_M yr6s_177 (by decide) (pcJ := 178) (stJ := [.int 0, .ref 191, .int 0, .ref 14]) rfl ?_
  refine j_V.ldL yr6s_M yr6s_178 rfl (i := 0) (kd := 2) (v := .ref 181) (pcJ := 179) rfl L rfl rfl rfl ?_
  refine j_V.getK yr6s_M yr6s_179 (ci := 7) (j := 13) rfl K rfl rfl ?_
  refine j_V.alnA yr6s_M yr6s_182 K rfl ?_
  refine j_V.acp yr6s_M yr6s_183 rfl rfl K rfl rfl rfl (fun h K => ?_)
  refine j_V.ldL yr6s_M yr6s_186 rfl (i := 1) (kd := 2) (v := .ref 4) (pcJ := 187) rfl L rfl rfl rfl ?_
  refine j_V.getK yr6s_M yr6s_187 (ci := 7) (j := 14) rfl K rfl rfl ?_
  refine j_V.one yr6s_M yr6s_190 (by decide) (pcJ := 191) (stJ := [.int 0, .ref 15]) rfl ?_
  refine j_V.ldL yr6s_M yr6s_191 rfl (i := 0) (kd := 2) (v := .ref 181) (pcJ := 192) rfl L rfl rfl rfl ?_
  refine j_V.getK yr6s_M yr6s_192 (ci := 7) (j := 14) rfl K rfl rfl ?_
  refine j_V.one yr6s_M yr6s_195 (by decide) (pcJ := 196) (stJ := [.int 0, .ref 192, .int 0, .ref 15]) rfl ?_
  refine j_V.ldL yr6s_M yr6s_196 rfl (i := 0) (kd := 2) (v := .ref 181) (pcJ := 197) rfl L rfl rfl rfl ?_
  refine j_V.getK yr6s_M yr6s_197 (ci := 7) (j := 14) rfl K rfl rfl ?_
  refine j_V.alnA yr6s_M yr6s_200 K rfl ?_
  refine j_V.acp yr6s_M yr6s_201 rfl rfl K rfl rfl rfl (fun h K => ?_)
  refine j_V.ldL yr6s_M yr6s_204 rfl (i := 1) (kd := 2) (v := .ref 4) (pcJ := 205) rfl L rfl rfl rfl ?_
  refine j_V.getK yr6s_M yr6s_205 (ci := 7) (j := 16) rfl K rfl rfl ?_
  refine j_V.one yr6s_M yr6s_208 (by decide) (pcJ := 209) (stJ := [.int 0, .ref 16]) rfl ?_
  refine j_V.ldL yr6s_M yr6s_209 rfl (i := 0) (kd := 2) (v := .ref 181) (pcJ := 210) rfl L rfl rfl rfl ?_
  refine j_V.getK yr6s_M yr6s_210 (ci := 7) (j := 16) rfl K rfl rfl ?_
  refine j_V.one yr6s_M yr6s_213 (by decide) (pcJ := 214) (stJ := [.int 0, .ref 193, .int 0, .ref 16]) rfl ?_
  refine j_V.ldL yr6s_M yr6s_214 rfl (i := 0) (kd := 2) (v := .ref 181) (pcJ := 215) rfl L rfl rfl rfl ?_
  refine j_V.getK yr6s_M yr6s_215 (ci := 7) (j := 16) rfl K rfl rfl ?_
  refine j_V.alnA yr6s_M yr6s_218 K rfl ?_
  refine j_V.acp yr6s_M yr6s_219 rfl rfl K rfl rfl rfl (fun h K => ?_)
  exact kk _ _ L K
set_option maxRecDepth 1000000 in
theorem yr6s_ok {ly : Value} {mi : Int32} {shu : Int32} {bus : Int32} {lks : Int32} {rk : List Int32} {sta : List Int32} {ph : List Int32} {sp : List Int32} {ce : List Int32} {du : List Int32} {he : List Int32} {ri : List Int32} {us : List Int32} {cm : List Int32} {lf : List Int32} {lkd : List Int32} {pev : Int32} {pms : List Int32} {pmm : List Int32} {pmt : List Int32} {pst : List Int32} {pwa : List Int32} {prs : List Int32} {prr : List Int32} {pfa : List Int32} {lys : Nat} {mis : Int32} {shus : Int32} {buss : Int32} {lkss : Int32} {rks : List Int32} {stas : List Int32} {phs : List Int32} {sps : List Int32} {ces : List Int32} {dus : List Int32} {hes : List Int32} {ris : List Int32} {uss : List Int32} {cms : List Int32} {lfs : List Int32} {lkds : List Int32} {pevs : Int32} {pmss : List Int32} {pmms : List Int32} {pmts : List Int32} {psts : List Int32} {pwas : List Int32} {prss : List Int32} {prrs : List Int32} {pfas : List Int32} {d : Nat} {h h0 : J_H} (K : KN h [(4, .inl (7, [.ref lys, .int mis, .int shus, .int buss, .ref 5, .ref 6, .ref 7, .ref 8, .ref 9, .ref 10, .ref 11, .ref 12, .ref 13, .ref 14, .ref 15, .int lkss, .ref 16, .ref 17, .ref 20])), (5, .inr (.inl (0, rks))), (6, .inr (.inl (0, stas))), (7, .inr (.inl (0, phs))), (8, .inr (.inl (0, sps))), (9, .inr (.inl (0, ces))), (10, .inr (.inl (0, dus))), (11, .inr (.inl (0, hes))), (12, .inr (.inl (0, ris))), (13, .inr (.inl (0, uss))), (14, .inr (.inl (0, cms))), (15, .inr (.inl (0, lfs))), (16, .inr (.inl (0, lkds))), (20, .inl (3, [.ref 21, .ref 22, .ref 23, .ref 24, .ref 25, .ref 26, .ref 27, .ref 28, .int pevs, .int 1])), (21, .inr (.inl (0, pmss))), (22, .inr (.inl (0, pmms))), (23, .inr (.inl (0, pmts))), (24, .inr (.inl (0, psts))), (25, .inr (.inl (0, pwas))), (26, .inr (.inl (0, prss))), (27, .inr (.inl (0, prrs))), (28, .inr (.inl (0, pfas))), (181, .inl (7, [ly, .int mi, .int shu, .int bus, .ref 182, .ref 183, .ref 184, .ref 185, .ref 186, .ref 187, .ref 188, .ref 189, .ref 190, .ref 191, .ref 192, .int lks, .ref 193, .ref 194, .ref 197])), (182, .inr (.inl (0, rk))), (183, .inr (.inl (0, sta))), (184, .inr (.inl (0, ph))), (185, .inr (.inl (0, sp))), (186, .inr (.inl (0, ce))), (187, .inr (.inl (0, du))), (188, .inr (.inl (0, he))), (189, .inr (.inl (0, ri))), (190, .inr (.inl (0, us))), (191, .inr (.inl (0, cm))), (192, .inr (.inl (0, lf))), (193, .inr (.inl (0, lkd))), (197, .inl (3, [.ref 198, .ref 199, .ref 200, .ref 201, .ref 202, .ref 203, .ref 204, .ref 205, .int pev, .int 1])), (198, .inr (.inl (0, pms))), (199, .inr (.inl (0, pmm))), (200, .inr (.inl (0, pmt))), (201, .inr (.inl (0, pst))), (202, .inr (.inl (0, pwa))), (203, .inr (.inl (0, prs))), (204, .inr (.inl (0, prr))), (205, .inr (.inl (0, pfa)))] h0) : j_V jP d 61 0 (lv_args 0 [.ref 181, .ref 4]) [] h (fun rv h' => rv = none ∧ KN h' [(4, .inl (7, [.ref lys, .int mis, .int shus, .int buss, .ref 5, .ref 6, .ref 7, .ref 8, .ref 9, .ref 10, .ref 11, .ref 12, .ref 13, .ref 14, .ref 15, .int lkss, .ref 16, .ref 17, .ref 20])), (5, .inr (.inl (0, rks))), (6, .inr (.inl (0, stas))), (7, .inr (.inl (0, phs))), (8, .inr (.inl (0, sps))), (9, .inr (.inl (0, ces))), (10, .inr (.inl (0, dus))), (11, .inr (.inl (0, hes))), (12, .inr (.inl (0, ris))), (13, .inr (.inl (0, uss))), (14, .inr (.inl (0, cms))), (15, .inr (.inl (0, lfs))), (16, .inr (.inl (0, lkds))), (20, .inl (3, [.ref 21, .ref 22, .ref 23, .ref 24, .ref 25, .ref 26, .ref 27, .ref 28, .int pevs, .int 1])), (21, .inr (.inl (0, pmss))), (22, .inr (.inl (0, pmms))), (23, .inr (.inl (0, pmts))), (24, .inr (.inl (0, psts))), (25, .inr (.inl (0, pwas))), (26, .inr (.inl (0, prss))), (27, .inr (.inl (0, prrs))), (28, .inr (.inl (0, pfas))), (181, .inl (7, [.ref lys, .int mis, .int shus, .int buss, .ref 182, .ref 183, .ref 184, .ref 185, .ref 186, .ref 187, .ref 188, .ref 189, .ref 190, .ref 191, .ref 192, .int lkss, .ref 193, .ref 194, .ref 197])), (182, .inr (.inl (0, (aC 5 rks rk)))), (183, .inr (.inl (0, (aC 5 stas sta)))), (184, .inr (.inl (0, (aC 5 phs ph)))), (185, .inr (.inl (0, (aC 5 sps sp)))), (186, .inr (.inl (0, (aC 5 ces ce)))), (187, .inr (.inl (0, (aC 5 dus du)))), (188, .inr (.inl (0, (aC 5 hes he)))), (189, .inr (.inl (0, (aC 6 ris ri)))), (190, .inr (.inl (0, (aC 6 uss us)))), (191, .inr (.inl (0, (aC (nI cm.length) cms cm)))), (192, .inr (.inl (0, (aC (nI lf.length) lfs lf)))), (193, .inr (.inl (0, (aC (nI lkd.length) lkds lkd)))), (197, .inl (3, [.ref 198, .ref 199, .ref 200, .ref 201, .ref 202, .ref 203, .ref 204, .ref 205, .int pevs, .int 1])), (198, .inr (.inl (0, (aC (nI pms.length) pmss pms)))), (199, .inr (.inl (0, (aC (nI pmm.length) pmms pmm)))), (200, .inr (.inl (0, (aC (nI pmt.length) pmts pmt)))), (201, .inr (.inl (0, (aC (nI pst.length) psts pst)))), (202, .inr (.inl (0, (aC (nI pwa.length) pwas pwa)))), (203, .inr (.inl (0, (aC (nI prs.length) prss prs)))), (204, .inr (.inl (0, (aC (nI prr.length) prrs prr)))), (205, .inr (.inl (0, (aC (nI pfa.length) pfas pfa))))] h0) := by
  show j_V jP d 61 0 [(0, .ref 181), (1, .ref 4)] [] h _
  obtain ⟨lv, elv, L⟩ : ∃ lv, lv = [(0, .ref 181), (1, .ref 4)] ∧ LK lv [(0, .ref 181), (1, .ref 4)] := ⟨_, rfl, LK.rf⟩
  rw [← elv]
  clear elv
  refine yr6s_k0 L (K.fi [4, 181] rfl rfl) (fun lv h9 L K9 => ?_)
  have K : KN h9 [(4, .inl (7, [.ref lys, .int mis, .int shus, .int buss, .ref 5, .ref 6, .ref 7, .ref 8, .ref 9, .ref 10, .ref 11, .ref 12, .ref 13, .ref 14, .ref 15, .int lkss, .ref 16, .ref 17, .ref 20])), (5, .inr (.inl (0, rks))), (6, .inr (.inl (0, stas))), (7, .inr (.inl (0, phs))), (8, .inr (.inl (0, sps))), (9, .inr (.inl (0, ces))), (10, .inr (.inl (0, dus))), (11, .inr (.inl (0, hes))), (12, .inr (.inl (0, ris))), (13, .inr (.inl (0, uss))), (14, .inr (.inl (0, cms))), (15, .inr (.inl (0, lfs))), (16, .inr (.inl (0, lkds))), (20, .inl (3, [.ref 21, .ref 22, .ref 23, .ref 24, .ref 25, .ref 26, .ref 27, .ref 28, .int pevs, .int 1])), (21, .inr (.inl (0, pmss))), (22, .inr (.inl (0, pmms))), (23, .inr (.inl (0, pmts))), (24, .inr (.inl (0, psts))), (25, .inr (.inl (0, pwas))), (26, .inr (.inl (0, prss))), (27, .inr (.inl (0, prrs))), (28, .inr (.inl (0, pfas))), (181, .inl (7, [.ref lys, .int mis, .int shus, .int buss, .ref 182, .ref 183, .ref 184, .ref 185, .ref 186, .ref 187, .ref 188, .ref 189, .ref 190, .ref 191, .ref 192, .int lkss, .ref 193, .ref 194, .ref 197])), (182, .inr (.inl (0, rk))), (183, .inr (.inl (0, sta))), (184, .inr (.inl (0, ph))), (185, .inr (.inl (0, sp))), (186, .inr (.inl (0, ce))), (187, .inr (.inl (0, du))), (188, .inr (.inl (0, he))), (189, .inr (.inl (0, ri))), (190, .inr (.inl (0, us))), (191, .inr (.inl (0, cm))), (192, .inr (.inl (0, lf))), (193, .inr (.inl (0, lkd))), (197, .inl (3, [.ref 198, .ref 199, .ref 200, .ref 201, .ref 202, .ref 203, .ref 204, .ref 205, .int pev, .int 1])), (198, .inr (.inl (0, pms))), (199, .inr (.inl (0, pmm))), (200, .inr (.inl (0, pmt))), (201, .inr (.inl (0, pst))), (202, .inr (.inl (0, pwa))), (203, .inr (.inl (0, prs))), (204, .inr (.inl (0, prr))), (205, .inr (.inl (0, pfa)))] h0 := K.mg K9 rfl rfl
  clear K9
  refine yr6s_k40 L (K.fi [4, 5, 6, 7, 181, 182, 183, 184] rfl rfl) (fun lv h9 L K9 => ?_)
  have K : KN h9 [(4, .inl (7, [.ref lys, .int mis, .int shus, .int buss, .ref 5, .ref 6, .ref 7, .ref 8, .ref 9, .ref 10, .ref 11, .ref 12, .ref 13, .ref 14, .ref 15, .int lkss, .ref 16, .ref 17, .ref 20])), (5, .inr (.inl (0, rks))), (6, .inr (.inl (0, stas))), (7, .inr (.inl (0, phs))), (8, .inr (.inl (0, sps))), (9, .inr (.inl (0, ces))), (10, .inr (.inl (0, dus))), (11, .inr (.inl (0, hes))), (12, .inr (.inl (0, ris))), (13, .inr (.inl (0, uss))), (14, .inr (.inl (0, cms))), (15, .inr (.inl (0, lfs))), (16, .inr (.inl (0, lkds))), (20, .inl (3, [.ref 21, .ref 22, .ref 23, .ref 24, .ref 25, .ref 26, .ref 27, .ref 28, .int pevs, .int 1])), (21, .inr (.inl (0, pmss))), (22, .inr (.inl (0, pmms))), (23, .inr (.inl (0, pmts))), (24, .inr (.inl (0, psts))), (25, .inr (.inl (0, pwas))), (26, .inr (.inl (0, prss))), (27, .inr (.inl (0, prrs))), (28, .inr (.inl (0, pfas))), (181, .inl (7, [.ref lys, .int mis, .int shus, .int buss, .ref 182, .ref 183, .ref 184, .ref 185, .ref 186, .ref 187, .ref 188, .ref 189, .ref 190, .ref 191, .ref 192, .int lkss, .ref 193, .ref 194, .ref 197])), (182, .inr (.inl (0, (aC 5 rks rk)))), (183, .inr (.inl (0, (aC 5 stas sta)))), (184, .inr (.inl (0, (aC 5 phs ph)))), (185, .inr (.inl (0, sp))), (186, .inr (.inl (0, ce))), (187, .inr (.inl (0, du))), (188, .inr (.inl (0, he))), (189, .inr (.inl (0, ri))), (190, .inr (.inl (0, us))), (191, .inr (.inl (0, cm))), (192, .inr (.inl (0, lf))), (193, .inr (.inl (0, lkd))), (197, .inl (3, [.ref 198, .ref 199, .ref 200, .ref 201, .ref 202, .ref 203, .ref 204, .ref 205, .int pev, .int 1])), (198, .inr (.inl (0, pms))), (199, .inr (.inl (0, pmm))), (200, .inr (.inl (0, pmt))), (201, .inr (.inl (0, pst))), (202, .inr (.inl (0, pwa))), (203, .inr (.inl (0, prs))), (204, .inr (.inl (0, prr))), (205, .inr (.inl (0, pfa)))] h0 := K.mg K9 rfl rfl
  clear K9
  refine yr6s_k82 L (K.fi [4, 8, 9, 10, 181, 185, 186, 187] rfl rfl) (fun lv h9 L K9 => ?_)
  have K : KN h9 [(4, .inl (7, [.ref lys, .int mis, .int shus, .int buss, .ref 5, .ref 6, .ref 7, .ref 8, .ref 9, .ref 10, .ref 11, .ref 12, .ref 13, .ref 14, .ref 15, .int lkss, .ref 16, .ref 17, .ref 20])), (5, .inr (.inl (0, rks))), (6, .inr (.inl (0, stas))), (7, .inr (.inl (0, phs))), (8, .inr (.inl (0, sps))), (9, .inr (.inl (0, ces))), (10, .inr (.inl (0, dus))), (11, .inr (.inl (0, hes))), (12, .inr (.inl (0, ris))), (13, .inr (.inl (0, uss))), (14, .inr (.inl (0, cms))), (15, .inr (.inl (0, lfs))), (16, .inr (.inl (0, lkds))), (20, .inl (3, [.ref 21, .ref 22, .ref 23, .ref 24, .ref 25, .ref 26, .ref 27, .ref 28, .int pevs, .int 1])), (21, .inr (.inl (0, pmss))), (22, .inr (.inl (0, pmms))), (23, .inr (.inl (0, pmts))), (24, .inr (.inl (0, psts))), (25, .inr (.inl (0, pwas))), (26, .inr (.inl (0, prss))), (27, .inr (.inl (0, prrs))), (28, .inr (.inl (0, pfas))), (181, .inl (7, [.ref lys, .int mis, .int shus, .int buss, .ref 182, .ref 183, .ref 184, .ref 185, .ref 186, .ref 187, .ref 188, .ref 189, .ref 190, .ref 191, .ref 192, .int lkss, .ref 193, .ref 194, .ref 197])), (182, .inr (.inl (0, (aC 5 rks rk)))), (183, .inr (.inl (0, (aC 5 stas sta)))), (184, .inr (.inl (0, (aC 5 phs ph)))), (185, .inr (.inl (0, (aC 5 sps sp)))), (186, .inr (.inl (0, (aC 5 ces ce)))), (187, .inr (.inl (0, (aC 5 dus du)))), (188, .inr (.inl (0, he))), (189, .inr (.inl (0, ri))), (190, .inr (.inl (0, us))), (191, .inr (.inl (0, cm))), (192, .inr (.inl (0, lf))), (193, .inr (.inl (0, lkd))), (197, .inl (3, [.ref 198, .ref 199, .ref 200, .ref 201, .ref 202, .ref 203, .ref 204, .ref 205, .int pev, .int 1])), (198, .inr (.inl (0, pms))), (199, .inr (.inl (0, pmm))), (200, .inr (.inl (0, pmt))), (201, .inr (.inl (0, pst))), (202, .inr (.inl (0, pwa))), (203, .inr (.inl (0, prs))), (204, .inr (.inl (0, prr))), (205, .inr (.inl (0, pfa)))] h0 := K.mg K9 rfl rfl
  clear K9
  refine yr6s_k124 L (K.fi [4, 11, 12, 13, 181, 188, 189, 190] rfl rfl) (fun lv h9 L K9 => ?_)
  have K : KN h9 [(4, .inl (7, [.ref lys, .int mis, .int shus, .int buss, .ref 5, .ref 6, .ref 7, .ref 8, .ref 9, .ref 10, .ref 11, .ref 12, .ref 13, .ref 14, .ref 15, .int lkss, .ref 16, .ref 17, .ref 20])), (5, .inr (.inl (0, rks))), (6, .inr (.inl (0, stas))), (7, .inr (.inl (0, phs))), (8, .inr (.inl (0, sps))), (9, .inr (.inl (0, ces))), (10, .inr (.inl (0, dus))), (11, .inr (.inl (0, hes))), (12, .inr (.inl (0, ris))), (13, .inr (.inl (0, uss))), (14, .inr (.inl (0, cms))), (15, .inr (.inl (0, lfs))), (16, .inr (.inl (0, lkds))), (20, .inl (3, [.ref 21, .ref 22, .ref 23, .ref 24, .ref 25, .ref 26, .ref 27, .ref 28, .int pevs, .int 1])), (21, .inr (.inl (0, pmss))), (22, .inr (.inl (0, pmms))), (23, .inr (.inl (0, pmts))), (24, .inr (.inl (0, psts))), (25, .inr (.inl (0, pwas))), (26, .inr (.inl (0, prss))), (27, .inr (.inl (0, prrs))), (28, .inr (.inl (0, pfas))), (181, .inl (7, [.ref lys, .int mis, .int shus, .int buss, .ref 182, .ref 183, .ref 184, .ref 185, .ref 186, .ref 187, .ref 188, .ref 189, .ref 190, .ref 191, .ref 192, .int lkss, .ref 193, .ref 194, .ref 197])), (182, .inr (.inl (0, (aC 5 rks rk)))), (183, .inr (.inl (0, (aC 5 stas sta)))), (184, .inr (.inl (0, (aC 5 phs ph)))), (185, .inr (.inl (0, (aC 5 sps sp)))), (186, .inr (.inl (0, (aC 5 ces ce)))), (187, .inr (.inl (0, (aC 5 dus du)))), (188, .inr (.inl (0, (aC 5 hes he)))), (189, .inr (.inl (0, (aC 6 ris ri)))), (190, .inr (.inl (0, (aC 6 uss us)))), (191, .inr (.inl (0, cm))), (192, .inr (.inl (0, lf))), (193, .inr (.inl (0, lkd))), (197, .inl (3, [.ref 198, .ref 199, .ref 200, .ref 201, .ref 202, .ref 203, .ref 204, .ref 205, .int pev, .int 1])), (198, .inr (.inl (0, pms))), (199, .inr (.inl (0, pmm))), (200, .inr (.inl (0, pmt))), (201, .inr (.inl (0, pst))), (202, .inr (.inl (0, pwa))), (203, .inr (.inl (0, prs))), (204, .inr (.inl (0, prr))), (205, .inr (.inl (0, pfa)))] h0 := K.mg K9 rfl rfl
  clear K9
  refine yr6s_k168 L (K.fi [4, 14, 15, 16, 181, 191, 192, 193] rfl rfl) (fun lv h9 L K9 => ?_)
  have K : KN h9 [(4, .inl (7, [.ref lys, .int mis, .int shus, .int buss, .ref 5, .ref 6, .ref 7, .ref 8, .ref 9, .ref 10, .ref 11, .ref 12, .ref 13, .ref 14, .ref 15, .int lkss, .ref 16, .ref 17, .ref 20])), (5, .inr (.inl (0, rks))), (6, .inr (.inl (0, stas))), (7, .inr (.inl (0, phs))), (8, .inr (.inl (0, sps))), (9, .inr (.inl (0, ces))), (10, .inr (.inl (0, dus))), (11, .inr (.inl (0, hes))), (12, .inr (.inl (0, ris))), (13, .inr (.inl (0, uss))), (14, .inr (.inl (0, cms))), (15, .inr (.inl (0, lfs))), (16, .inr (.inl (0, lkds))), (20, .inl (3, [.ref 21, .ref 22, .ref 23, .ref 24, .ref 25, .ref 26, .ref 27, .ref 28, .int pevs, .int 1])), (21, .inr (.inl (0, pmss))), (22, .inr (.inl (0, pmms))), (23, .inr (.inl (0, pmts))), (24, .inr (.inl (0, psts))), (25, .inr (.inl (0, pwas))), (26, .inr (.inl (0, prss))), (27, .inr (.inl (0, prrs))), (28, .inr (.inl (0, pfas))), (181, .inl (7, [.ref lys, .int mis, .int shus, .int buss, .ref 182, .ref 183, .ref 184, .ref 185, .ref 186, .ref 187, .ref 188, .ref 189, .ref 190, .ref 191, .ref 192, .int lkss, .ref 193, .ref 194, .ref 197])), (182, .inr (.inl (0, (aC 5 rks rk)))), (183, .inr (.inl (0, (aC 5 stas sta)))), (184, .inr (.inl (0, (aC 5 phs ph)))), (185, .inr (.inl (0, (aC 5 sps sp)))), (186, .inr (.inl (0, (aC 5 ces ce)))), (187, .inr (.inl (0, (aC 5 dus du)))), (188, .inr (.inl (0, (aC 5 hes he)))), (189, .inr (.inl (0, (aC 6 ris ri)))), (190, .inr (.inl (0, (aC 6 uss us)))), (191, .inr (.inl (0, (aC (nI cm.length) cms cm)))), (192, .inr (.inl (0, (aC (nI lf.length) lfs lf)))), (193, .inr (.inl (0, (aC (nI lkd.length) lkds lkd)))), (197, .inl (3, [.ref 198, .ref 199, .ref 200, .ref 201, .ref 202, .ref 203, .ref 204, .ref 205, .int pev, .int 1])), (198, .inr (.inl (0, pms))), (199, .inr (.inl (0, pmm))), (200, .inr (.inl (0, pmt))), (201, .inr (.inl (0, pst))), (202, .inr (.inl (0, pwa))), (203, .inr (.inl (0, prs))), (204, .inr (.inl (0, prr))), (205, .inr (.inl (0, pfa)))] h0 := K.mg K9 rfl rfl
  clear K9
  refine j_V.ldL yr6s_M yr6s_222 rfl (i := 0) (kd := 2) (v := .ref 181) (pcJ := 223) rfl L rfl rfl rfl ?_
  refine j_V.getK yr6s_M yr6s_223 (ci := 7) (j := 18) rfl K rfl rfl ?_
  refine j_V.ldL yr6s_M yr6s_226 rfl (i := 1) (kd := 2) (v := .ref 4) (pcJ := 227) rfl L rfl rfl rfl ?_
  refine j_V.getK yr6s_M yr6s_227 (ci := 7) (j := 18) rfl K rfl rfl ?_
  refine j_V.cl yr6s_M yr6s_230 rfl (md := 3) (mj := 28) rfl (by decide) yr6p_M (As := [.ref 197, .ref 20]) (rest := []) (jk_spl3 (K.at rfl) rfl rfl rfl (Nat.le_of_ble_eq_true rfl) (Nat.le_of_ble_eq_true rfl)) (fun d => yr6p_ok (K.fi [20, 21, 22, 23, 24, 25, 26, 27, 28, 197, 198, 199, 200, 201, 202, 203, 204, 205] rfl rfl)) ?_
  rintro r h9 ⟨rfl, K9⟩
  have K : KN h9 [(4, .inl (7, [.ref lys, .int mis, .int shus, .int buss, .ref 5, .ref 6, .ref 7, .ref 8, .ref 9, .ref 10, .ref 11, .ref 12, .ref 13, .ref 14, .ref 15, .int lkss, .ref 16, .ref 17, .ref 20])), (5, .inr (.inl (0, rks))), (6, .inr (.inl (0, stas))), (7, .inr (.inl (0, phs))), (8, .inr (.inl (0, sps))), (9, .inr (.inl (0, ces))), (10, .inr (.inl (0, dus))), (11, .inr (.inl (0, hes))), (12, .inr (.inl (0, ris))), (13, .inr (.inl (0, uss))), (14, .inr (.inl (0, cms))), (15, .inr (.inl (0, lfs))), (16, .inr (.inl (0, lkds))), (20, .inl (3, [.ref 21, .ref 22, .ref 23, .ref 24, .ref 25, .ref 26, .ref 27, .ref 28, .int pevs, .int 1])), (21, .inr (.inl (0, pmss))), (22, .inr (.inl (0, pmms))), (23, .inr (.inl (0, pmts))), (24, .inr (.inl (0, psts))), (25, .inr (.inl (0, pwas))), (26, .inr (.inl (0, prss))), (27, .inr (.inl (0, prrs))), (28, .inr (.inl (0, pfas))), (181, .inl (7, [.ref lys, .int mis, .int shus, .int buss, .ref 182, .ref 183, .ref 184, .ref 185, .ref 186, .ref 187, .ref 188, .ref 189, .ref 190, .ref 191, .ref 192, .int lkss, .ref 193, .ref 194, .ref 197])), (182, .inr (.inl (0, (aC 5 rks rk)))), (183, .inr (.inl (0, (aC 5 stas sta)))), (184, .inr (.inl (0, (aC 5 phs ph)))), (185, .inr (.inl (0, (aC 5 sps sp)))), (186, .inr (.inl (0, (aC 5 ces ce)))), (187, .inr (.inl (0, (aC 5 dus du)))), (188, .inr (.inl (0, (aC 5 hes he)))), (189, .inr (.inl (0, (aC 6 ris ri)))), (190, .inr (.inl (0, (aC 6 uss us)))), (191, .inr (.inl (0, (aC (nI cm.length) cms cm)))), (192, .inr (.inl (0, (aC (nI lf.length) lfs lf)))), (193, .inr (.inl (0, (aC (nI lkd.length) lkds lkd)))), (197, .inl (3, [.ref 198, .ref 199, .ref 200, .ref 201, .ref 202, .ref 203, .ref 204, .ref 205, .int pevs, .int 1])), (198, .inr (.inl (0, (aC (nI pms.length) pmss pms)))), (199, .inr (.inl (0, (aC (nI pmm.length) pmms pmm)))), (200, .inr (.inl (0, (aC (nI pmt.length) pmts pmt)))), (201, .inr (.inl (0, (aC (nI pst.length) psts pst)))), (202, .inr (.inl (0, (aC (nI pwa.length) pwas pwa)))), (203, .inr (.inl (0, (aC (nI prs.length) prss prs)))), (204, .inr (.inl (0, (aC (nI prr.length) prrs prr)))), (205, .inr (.inl (0, (aC (nI pfa.length) pfas pfa))))] h0 := K.mg K9 rfl rfl
  clear K9
  show j_V jP _ 61 233 lv [] h9 _
  exact j_V.ret yr6s_M yr6s_233 rfl rfl ⟨rfl, K⟩
set_option maxRecDepth 100000 in
theorem yr6m_M : j_meth jP 2 = some (yX0_remember, cX0_remember, 2, none, 1, false, 0) := rfl
set_option maxRecDepth 100000 in
theorem yr6m_0 : j_code jP 2 0 = some (.aload_n 0) := rfl
set_option maxRecDepth 100000 in
theorem yr6m_1 : j_code jP 2 1 = some (.getfield 11) := rfl
set_option maxRecDepth 100000 in
theorem yr6m_4 : j_code jP 2 4 = some (.aload_n 0) := rfl
set_option maxRecDepth 100000 in
theorem yr6m_5 : j_code jP 2 5 = some (.getfield 24) := rfl
set_option maxRecDepth 100000 in
theorem yr6m_8 : j_code jP 2 8 = some (.aaload) := rfl
set_option maxRecDepth 100000 in
theorem yr6m_9 : j_code jP 2 9 = some (.aload_n 1) := rfl
set_option maxRecDepth 100000 in
theorem yr6m_10 : j_code jP 2 10 = some (.invokevirtual 27) := rfl
set_option maxRecDepth 100000 in
theorem yr6m_13 : j_code jP 2 13 = some (.aload_n 0) := rfl
set_option maxRecDepth 100000 in
theorem yr6m_14 : j_code jP 2 14 = some (.aload_n 0) := rfl
set_option maxRecDepth 100000 in
theorem yr6m_15 : j_code jP 2 15 = some (.getfield 24) := rfl
set_option maxRecDepth 100000 in
theorem yr6m_18 : j_code jP 2 18 = some (.iconst 1) := rfl
set_option maxRecDepth 100000 in
theorem yr6m_19 : j_code jP 2 19 = some (.iadd) := rfl
set_option maxRecDepth 100000 in
theorem yr6m_20 : j_code jP 2 20 = some (.bipush 10) := rfl
set_option maxRecDepth 100000 in
theorem yr6m_22 : j_code jP 2 22 = some (.irem) := rfl
set_option maxRecDepth 100000 in
theorem yr6m_23 : j_code jP 2 23 = some (.putfield 24) := rfl
set_option maxRecDepth 100000 in
theorem yr6m_26 : j_code jP 2 26 = some (.aload_n 0) := rfl
set_option maxRecDepth 100000 in
theorem yr6m_27 : j_code jP 2 27 = some (.aload_n 0) := rfl
set_option maxRecDepth 100000 in
theorem yr6m_28 : j_code jP 2 28 = some (.getfield 20) := rfl
set_option maxRecDepth 100000 in
theorem yr6m_31 : j_code jP 2 31 = some (.iconst 1) := rfl
set_option maxRecDepth 100000 in
theorem yr6m_32 : j_code jP 2 32 = some (.iadd) := rfl
set_option maxRecDepth 100000 in
theorem yr6m_33 : j_code jP 2 33 = some (.bipush 10) := rfl
set_option maxRecDepth 100000 in
theorem yr6m_35 : j_code jP 2 35 = some (.invokestatic 31) := rfl
set_option maxRecDepth 100000 in
theorem yr6m_38 : j_code jP 2 38 = some (.putfield 20) := rfl
set_option maxRecDepth 100000 in
theorem yr6m_41 : j_code jP 2 41 = some (.return_) := rfl
set_option maxRecDepth 1000000 in
theorem yr6m_ok {ly : Value} {mi : Int32} {shu : Int32} {bus : Int32} {lks : Int32} {rk : List Int32} {sta : List Int32} {ph : List Int32} {sp : List Int32} {ce : List Int32} {du : List Int32} {he : List Int32} {ri : List Int32} {us : List Int32} {cm : List Int32} {lf : List Int32} {lkd : List Int32} {pev : Int32} {pms : List Int32} {pmm : List Int32} {pmt : List Int32} {pst : List Int32} {pwa : List Int32} {prs : List Int32} {prr : List Int32} {pfa : List Int32} {lys : Nat} {mis : Int32} {shus : Int32} {buss : Int32} {lkss : Int32} {rks : List Int32} {stas : List Int32} {phs : List Int32} {sps : List Int32} {ces : List Int32} {dus : List Int32} {hes : List Int32} {ris : List Int32} {uss : List Int32} {cms : List Int32} {lfs : List Int32} {lkds : List Int32} {pevs : Int32} {pmss : List Int32} {pmms : List Int32} {pmts : List Int32} {psts : List Int32} {pwas : List Int32} {prss : List Int32} {prrs : List Int32} {pfas : List Int32} {acco : Int32} {d : Nat} {h h0 : J_H} (K : KN h [(4, .inl (7, [.ref lys, .int mis, .int shus, .int buss, .ref 5, .ref 6, .ref 7, .ref 8, .ref 9, .ref 10, .ref 11, .ref 12, .ref 13, .ref 14, .ref 15, .int lkss, .ref 16, .ref 17, .ref 20])), (5, .inr (.inl (0, rks))), (6, .inr (.inl (0, stas))), (7, .inr (.inl (0, phs))), (8, .inr (.inl (0, sps))), (9, .inr (.inl (0, ces))), (10, .inr (.inl (0, dus))), (11, .inr (.inl (0, hes))), (12, .inr (.inl (0, ris))), (13, .inr (.inl (0, uss))), (14, .inr (.inl (0, cms))), (15, .inr (.inl (0, lfs))), (16, .inr (.inl (0, lkds))), (20, .inl (3, [.ref 21, .ref 22, .ref 23, .ref 24, .ref 25, .ref 26, .ref 27, .ref 28, .int pevs, .int 1])), (21, .inr (.inl (0, pmss))), (22, .inr (.inl (0, pmms))), (23, .inr (.inl (0, pmts))), (24, .inr (.inl (0, psts))), (25, .inr (.inl (0, pwas))), (26, .inr (.inl (0, prss))), (27, .inr (.inl (0, prrs))), (28, .inr (.inl (0, pfas))), (29, .inl (0, [.ref 30, .int 6, .int acco])), (30, .inr (.inr (.inr [some 31, some 56, some 81, some 106, some 131, some 156, some 181, some 206, some 231, some 256]))), (181, .inl (7, [ly, .int mi, .int shu, .int bus, .ref 182, .ref 183, .ref 184, .ref 185, .ref 186, .ref 187, .ref 188, .ref 189, .ref 190, .ref 191, .ref 192, .int lks, .ref 193, .ref 194, .ref 197])), (182, .inr (.inl (0, rk))), (183, .inr (.inl (0, sta))), (184, .inr (.inl (0, ph))), (185, .inr (.inl (0, sp))), (186, .inr (.inl (0, ce))), (187, .inr (.inl (0, du))), (188, .inr (.inl (0, he))), (189, .inr (.inl (0, ri))), (190, .inr (.inl (0, us))), (191, .inr (.inl (0, cm))), (192, .inr (.inl (0, lf))), (193, .inr (.inl (0, lkd))), (197, .inl (3, [.ref 198, .ref 199, .ref 200, .ref 201, .ref 202, .ref 203, .ref 204, .ref 205, .int pev, .int 1])), (198, .inr (.inl (0, pms))), (199, .inr (.inl (0, pmm))), (200, .inr (.inl (0, pmt))), (201, .inr (.inl (0, pst))), (202, .inr (.inl (0, pwa))), (203, .inr (.inl (0, prs))), (204, .inr (.inl (0, prr))), (205, .inr (.inl (0, pfa)))] h0) : j_V jP d 2 0 (lv_args 0 [.ref 29, .ref 4]) [] h (fun rv h' => rv = none ∧ KN h' [(4, .inl (7, [.ref lys, .int mis, .int shus, .int buss, .ref 5, .ref 6, .ref 7, .ref 8, .ref 9, .ref 10, .ref 11, .ref 12, .ref 13, .ref 14, .ref 15, .int lkss, .ref 16, .ref 17, .ref 20])), (5, .inr (.inl (0, rks))), (6, .inr (.inl (0, stas))), (7, .inr (.inl (0, phs))), (8, .inr (.inl (0, sps))), (9, .inr (.inl (0, ces))), (10, .inr (.inl (0, dus))), (11, .inr (.inl (0, hes))), (12, .inr (.inl (0, ris))), (13, .inr (.inl (0, uss))), (14, .inr (.inl (0, cms))), (15, .inr (.inl (0, lfs))), (16, .inr (.inl (0, lkds))), (20, .inl (3, [.ref 21, .ref 22, .ref 23, .ref 24, .ref 25, .ref 26, .ref 27, .ref 28, .int pevs, .int 1])), (21, .inr (.inl (0, pmss))), (22, .inr (.inl (0, pmms))), (23, .inr (.inl (0, pmts))), (24, .inr (.inl (0, psts))), (25, .inr (.inl (0, pwas))), (26, .inr (.inl (0, prss))), (27, .inr (.inl (0, prrs))), (28, .inr (.inl (0, pfas))), (29, .inl (0, [.ref 30, .int 7, .int (iMn (acco + 1) 10)])), (30, .inr (.inr (.inr [some 31, some 56, some 81, some 106, some 131, some 156, some 181, some 206, some 231, some 256]))), (181, .inl (7, [.ref lys, .int mis, .int shus, .int buss, .ref 182, .ref 183, .ref 184, .ref 185, .ref 186, .ref 187, .ref 188, .ref 189, .ref 190, .ref 191, .ref 192, .int lkss, .ref 193, .ref 194, .ref 197])), (182, .inr (.inl (0, (aC 5 rks rk)))), (183, .inr (.inl (0, (aC 5 stas sta)))), (184, .inr (.inl (0, (aC 5 phs ph)))), (185, .inr (.inl (0, (aC 5 sps sp)))), (186, .inr (.inl (0, (aC 5 ces ce)))), (187, .inr (.inl (0, (aC 5 dus du)))), (188, .inr (.inl (0, (aC 5 hes he)))), (189, .inr (.inl (0, (aC 6 ris ri)))), (190, .inr (.inl (0, (aC 6 uss us)))), (191, .inr (.inl (0, (aC (nI cm.length) cms cm)))), (192, .inr (.inl (0, (aC (nI lf.length) lfs lf)))), (193, .inr (.inl (0, (aC (nI lkd.length) lkds lkd)))), (197, .inl (3, [.ref 198, .ref 199, .ref 200, .ref 201, .ref 202, .ref 203, .ref 204, .ref 205, .int pevs, .int 1])), (198, .inr (.inl (0, (aC (nI pms.length) pmss pms)))), (199, .inr (.inl (0, (aC (nI pmm.length) pmms pmm)))), (200, .inr (.inl (0, (aC (nI pmt.length) pmts pmt)))), (201, .inr (.inl (0, (aC (nI pst.length) psts pst)))), (202, .inr (.inl (0, (aC (nI pwa.length) pwas pwa)))), (203, .inr (.inl (0, (aC (nI prs.length) prss prs)))), (204, .inr (.inl (0, (aC (nI prr.length) prrs prr)))), (205, .inr (.inl (0, (aC (nI pfa.length) pfas pfa))))] h0) := by
  show j_V jP d 2 0 [(0, .ref 29), (1, .ref 4)] [] h _
  obtain ⟨lv, elv, L⟩ : ∃ lv, lv = [(0, .ref 29), (1, .ref 4)] ∧ LK lv [(0, .ref 29), (1, .ref 4)] := ⟨_, rfl, LK.rf⟩
  rw [← elv]
  clear elv
  refine j_V.ldL yr6m_M yr6m_0 rfl (i := 0) (kd := 2) (v := .ref 29) (pcJ := 1) rfl L rfl rfl rfl ?_
  refine j_V.getK yr6m_M yr6m_1 (ci := 0) (j := 0) rfl K rfl rfl ?_
  refine j_V.ldL yr6m_M yr6m_4 rfl (i := 0) (kd := 2) (v := .ref 29) (pcJ := 5) rfl L rfl rfl rfl ?_
  refine j_V.getK yr6m_M yr6m_5 (ci := 0) (j := 1) rfl K rfl rfl ?_
  refine j_V.aaA yr6m_M yr6m_8 K rfl (i := 6) (v := 181) rfl rfl ?_
  refine j_V.ldL yr6m_M yr6m_9 rfl (i := 1) (kd := 2) (v := .ref 4) (pcJ := 10) rfl L rfl rfl rfl ?_
  refine j_V.cl yr6m_M yr6m_10 rfl (md := 3) (mj := 61) rfl (by decide) yr6s_M (As := [.ref 181, .ref 4]) (rest := []) (jk_spl3 (K.at rfl) rfl rfl rfl (Nat.le_of_ble_eq_true rfl) (Nat.le_of_ble_eq_true rfl)) (fun d => yr6s_ok (K.fi [4, 5, 6, 7, 8, 9, 10, 11, 12, 13, 14, 15, 16, 20, 21, 22, 23, 24, 25, 26, 27, 28, 181, 182, 183, 184, 185, 186, 187, 188, 189, 190, 191, 192, 193, 197, 198, 199, 200, 201, 202, 203, 204, 205] rfl rfl)) ?_
  rintro r h9 ⟨rfl, K9⟩
  have K : KN h9 [(4, .inl (7, [.ref lys, .int mis, .int shus, .int buss, .ref 5, .ref 6, .ref 7, .ref 8, .ref 9, .ref 10, .ref 11, .ref 12, .ref 13, .ref 14, .ref 15, .int lkss, .ref 16, .ref 17, .ref 20])), (5, .inr (.inl (0, rks))), (6, .inr (.inl (0, stas))), (7, .inr (.inl (0, phs))), (8, .inr (.inl (0, sps))), (9, .inr (.inl (0, ces))), (10, .inr (.inl (0, dus))), (11, .inr (.inl (0, hes))), (12, .inr (.inl (0, ris))), (13, .inr (.inl (0, uss))), (14, .inr (.inl (0, cms))), (15, .inr (.inl (0, lfs))), (16, .inr (.inl (0, lkds))), (20, .inl (3, [.ref 21, .ref 22, .ref 23, .ref 24, .ref 25, .ref 26, .ref 27, .ref 28, .int pevs, .int 1])), (21, .inr (.inl (0, pmss))), (22, .inr (.inl (0, pmms))), (23, .inr (.inl (0, pmts))), (24, .inr (.inl (0, psts))), (25, .inr (.inl (0, pwas))), (26, .inr (.inl (0, prss))), (27, .inr (.inl (0, prrs))), (28, .inr (.inl (0, pfas))), (29, .inl (0, [.ref 30, .int 6, .int acco])), (30, .inr (.inr (.inr [some 31, some 56, some 81, some 106, some 131, some 156, some 181, some 206, some 231, some 256]))), (181, .inl (7, [.ref lys, .int mis, .int shus, .int buss, .ref 182, .ref 183, .ref 184, .ref 185, .ref 186, .ref 187, .ref 188, .ref 189, .ref 190, .ref 191, .ref 192, .int lkss, .ref 193, .ref 194, .ref 197])), (182, .inr (.inl (0, (aC 5 rks rk)))), (183, .inr (.inl (0, (aC 5 stas sta)))), (184, .inr (.inl (0, (aC 5 phs ph)))), (185, .inr (.inl (0, (aC 5 sps sp)))), (186, .inr (.inl (0, (aC 5 ces ce)))), (187, .inr (.inl (0, (aC 5 dus du)))), (188, .inr (.inl (0, (aC 5 hes he)))), (189, .inr (.inl (0, (aC 6 ris ri)))), (190, .inr (.inl (0, (aC 6 uss us)))), (191, .inr (.inl (0, (aC (nI cm.length) cms cm)))), (192, .inr (.inl (0, (aC (nI lf.length) lfs lf)))), (193, .inr (.inl (0, (aC (nI lkd.length) lkds lkd)))), (197, .inl (3, [.ref 198, .ref 199, .ref 200, .ref 201, .ref 202, .ref 203, .ref 204, .ref 205, .int pevs, .int 1])), (198, .inr (.inl (0, (aC (nI pms.length) pmss pms)))), (199, .inr (.inl (0, (aC (nI pmm.length) pmms pmm)))), (200, .inr (.inl (0, (aC (nI pmt.length) pmts pmt)))), (201, .inr (.inl (0, (aC (nI pst.length) psts pst)))), (202, .inr (.inl (0, (aC (nI pwa.length) pwas pwa)))), (203, .inr (.inl (0, (aC (nI prs.length) prss prs)))), (204, .inr (.inl (0, (aC (nI prr.length) prrs prr)))), (205, .inr (.inl (0, (aC (nI pfa.length) pfas pfa))))] h0 := K.mg K9 rfl rfl
  clear K9
  show j_V jP _ 2 13 lv [] h9 _
  refine j_V.ldL yr6m_M yr6m_13 rfl (i := 0) (kd := 2) (v := .ref 29) (pcJ := 14) rfl L rfl rfl rfl ?_
  refine j_V.ldL yr6m_M yr6m_14 rfl (i := 0) (kd := 2) (v := .ref 29) (pcJ := 15) rfl L rfl rfl rfl ?_
  refine j_V.getK yr6m_M yr6m_15 (ci := 0) (j := 1) rfl K rfl rfl ?_
  refine j_V.one yr6m_M yr6m_18 (by decide) (pcJ := 19) (stJ := [.int 1, .int 6, .ref 29]) rfl ?_
  refine j_V.one yr6m_M yr6m_19 (by decide) (pcJ := 20) (stJ := [.int 7, .ref 29]) rfl ?_
  refine j_V.one yr6m_M yr6m_20 (by decide) (pcJ := 22) (stJ := [.int 10, .int 7, .ref 29]) rfl ?_
  refine j_V.one yr6m_M yr6m_22 (by decide) (pcJ := 23) (stJ := [.int 7, .ref 29]) rfl ?_
  refine j_V.putK yr6m_M yr6m_23 (ci := 0) (j := 1) (k' := [(4, .inl (7, [.ref lys, .int mis, .int shus, .int buss, .ref 5, .ref 6, .ref 7, .ref 8, .ref 9, .ref 10, .ref 11, .ref 12, .ref 13, .ref 14, .ref 15, .int lkss, .ref 16, .ref 17, .ref 20])), (5, .inr (.inl (0, rks))), (6, .inr (.inl (0, stas))), (7, .inr (.inl (0, phs))), (8, .inr (.inl (0, sps))), (9, .inr (.inl (0, ces))), (10, .inr (.inl (0, dus))), (11, .inr (.inl (0, hes))), (12, .inr (.inl (0, ris))), (13, .inr (.inl (0, uss))), (14, .inr (.inl (0, cms))), (15, .inr (.inl (0, lfs))), (16, .inr (.inl (0, lkds))), (20, .inl (3, [.ref 21, .ref 22, .ref 23, .ref 24, .ref 25, .ref 26, .ref 27, .ref 28, .int pevs, .int 1])), (21, .inr (.inl (0, pmss))), (22, .inr (.inl (0, pmms))), (23, .inr (.inl (0, pmts))), (24, .inr (.inl (0, psts))), (25, .inr (.inl (0, pwas))), (26, .inr (.inl (0, prss))), (27, .inr (.inl (0, prrs))), (28, .inr (.inl (0, pfas))), (29, .inl (0, [.ref 30, .int 7, .int acco])), (30, .inr (.inr (.inr [some 31, some 56, some 81, some 106, some 131, some 156, some 181, some 206, some 231, some 256]))), (181, .inl (7, [.ref lys, .int mis, .int shus, .int buss, .ref 182, .ref 183, .ref 184, .ref 185, .ref 186, .ref 187, .ref 188, .ref 189, .ref 190, .ref 191, .ref 192, .int lkss, .ref 193, .ref 194, .ref 197])), (182, .inr (.inl (0, (aC 5 rks rk)))), (183, .inr (.inl (0, (aC 5 stas sta)))), (184, .inr (.inl (0, (aC 5 phs ph)))), (185, .inr (.inl (0, (aC 5 sps sp)))), (186, .inr (.inl (0, (aC 5 ces ce)))), (187, .inr (.inl (0, (aC 5 dus du)))), (188, .inr (.inl (0, (aC 5 hes he)))), (189, .inr (.inl (0, (aC 6 ris ri)))), (190, .inr (.inl (0, (aC 6 uss us)))), (191, .inr (.inl (0, (aC (nI cm.length) cms cm)))), (192, .inr (.inl (0, (aC (nI lf.length) lfs lf)))), (193, .inr (.inl (0, (aC (nI lkd.length) lkds lkd)))), (197, .inl (3, [.ref 198, .ref 199, .ref 200, .ref 201, .ref 202, .ref 203, .ref 204, .ref 205, .int pevs, .int 1])), (198, .inr (.inl (0, (aC (nI pms.length) pmss pms)))), (199, .inr (.inl (0, (aC (nI pmm.length) pmms pmm)))), (200, .inr (.inl (0, (aC (nI pmt.length) pmts pmt)))), (201, .inr (.inl (0, (aC (nI pst.length) psts pst)))), (202, .inr (.inl (0, (aC (nI pwa.length) pwas pwa)))), (203, .inr (.inl (0, (aC (nI prs.length) prss prs)))), (204, .inr (.inl (0, (aC (nI prr.length) prrs prr)))), (205, .inr (.inl (0, (aC (nI pfa.length) pfas pfa))))]) rfl K rfl (Nat.le_of_ble_eq_true rfl) rfl (Or.inl rfl) rfl rfl (fun h K => ?_)
  refine j_V.ldL yr6m_M yr6m_26 rfl (i := 0) (kd := 2) (v := .ref 29) (pcJ := 27) rfl L rfl rfl rfl ?_
  refine j_V.ldL yr6m_M yr6m_27 rfl (i := 0) (kd := 2) (v := .ref 29) (pcJ := 28) rfl L rfl rfl rfl ?_
  refine j_V.getK yr6m_M yr6m_28 (ci := 0) (j := 2) rfl K rfl rfl ?_
  refine j_V.one yr6m_M yr6m_31 (by decide) (pcJ := 32) (stJ := [.int 1, .int acco, .ref 29]) rfl ?_
  refine j_V.one yr6m_M yr6m_32 (by decide) (pcJ := 33) (stJ := [.int (acco + 1), .ref 29]) rfl ?_
  refine j_V.one yr6m_M yr6m_33 (by decide) (pcJ := 35) (stJ := [.int 10, .int (acco + 1), .ref 29]) rfl ?_
  refine j_V.mn yr6m_M yr6m_35 rfl rfl (Nat.le_of_ble_eq_true rfl) ?_
  refine j_V.putK yr6m_M yr6m_38 (ci := 0) (j := 2) (k' := [(4, .inl (7, [.ref lys, .int mis, .int shus, .int buss, .ref 5, .ref 6, .ref 7, .ref 8, .ref 9, .ref 10, .ref 11, .ref 12, .ref 13, .ref 14, .ref 15, .int lkss, .ref 16, .ref 17, .ref 20])), (5, .inr (.inl (0, rks))), (6, .inr (.inl (0, stas))), (7, .inr (.inl (0, phs))), (8, .inr (.inl (0, sps))), (9, .inr (.inl (0, ces))), (10, .inr (.inl (0, dus))), (11, .inr (.inl (0, hes))), (12, .inr (.inl (0, ris))), (13, .inr (.inl (0, uss))), (14, .inr (.inl (0, cms))), (15, .inr (.inl (0, lfs))), (16, .inr (.inl (0, lkds))), (20, .inl (3, [.ref 21, .ref 22, .ref 23, .ref 24, .ref 25, .ref 26, .ref 27, .ref 28, .int pevs, .int 1])), (21, .inr (.inl (0, pmss))), (22, .inr (.inl (0, pmms))), (23, .inr (.inl (0, pmts))), (24, .inr (.inl (0, psts))), (25, .inr (.inl (0, pwas))), (26, .inr (.inl (0, prss))), (27, .inr (.inl (0, prrs))), (28, .inr (.inl (0, pfas))), (29, .inl (0, [.ref 30, .int 7, .int (iMn (acco + 1) 10)])), (30, .inr (.inr (.inr [some 31, some 56, some 81, some 106, some 131, some 156, some 181, some 206, some 231, some 256]))), (181, .inl (7, [.ref lys, .int mis, .int shus, .int buss, .ref 182, .ref 183, .ref 184, .ref 185, .ref 186, .ref 187, .ref 188, .ref 189, .ref 190, .ref 191, .ref 192, .int lkss, .ref 193, .ref 194, .ref 197])), (182, .inr (.inl (0, (aC 5 rks rk)))), (183, .inr (.inl (0, (aC 5 stas sta)))), (184, .inr (.inl (0, (aC 5 phs ph)))), (185, .inr (.inl (0, (aC 5 sps sp)))), (186, .inr (.inl (0, (aC 5 ces ce)))), (187, .inr (.inl (0, (aC 5 dus du)))), (188, .inr (.inl (0, (aC 5 hes he)))), (189, .inr (.inl (0, (aC 6 ris ri)))), (190, .inr (.inl (0, (aC 6 uss us)))), (191, .inr (.inl (0, (aC (nI cm.length) cms cm)))), (192, .inr (.inl (0, (aC (nI lf.length) lfs lf)))), (193, .inr (.inl (0, (aC (nI lkd.length) lkds lkd)))), (197, .inl (3, [.ref 198, .ref 199, .ref 200, .ref 201, .ref 202, .ref 203, .ref 204, .ref 205, .int pevs, .int 1])), (198, .inr (.inl (0, (aC (nI pms.length) pmss pms)))), (199, .inr (.inl (0, (aC (nI pmm.length) pmms pmm)))), (200, .inr (.inl (0, (aC (nI pmt.length) pmts pmt)))), (201, .inr (.inl (0, (aC (nI pst.length) psts pst)))), (202, .inr (.inl (0, (aC (nI pwa.length) pwas pwa)))), (203, .inr (.inl (0, (aC (nI prs.length) prss prs)))), (204, .inr (.inl (0, (aC (nI prr.length) prrs prr)))), (205, .inr (.inl (0, (aC (nI pfa.length) pfas pfa))))]) rfl K rfl (Nat.le_of_ble_eq_true rfl) rfl (Or.inl rfl) rfl rfl (fun h K => ?_)
  exact j_V.ret yr6m_M yr6m_41 rfl rfl ⟨rfl, K⟩
set_option maxRecDepth 100000 in
theorem yr7p_M : j_meth jP 28 = some (yX3_copyFrom, cX3_copyFrom, 2, none, 1, false, 3) := rfl
set_option maxRecDepth 100000 in
theorem yr7p_0 : j_code jP 28 0 = some (.aload_n 0) := rfl
set_option maxRecDepth 100000 in
theorem yr7p_1 : j_code jP 28 1 = some (.getfield 36) := rfl
set_option maxRecDepth 100000 in
theorem yr7p_4 : j_code jP 28 4 = some (.ifCond .ne 4) := rfl
set_option maxRecDepth 100000 in
theorem yr7p_7 : j_code jP 28 7 = some (.return_) := rfl
set_option maxRecDepth 100000 in
theorem yr7p_8 : j_code jP 28 8 = some (.aload_n 1) := rfl
set_option maxRecDepth 100000 in
theorem yr7p_9 : j_code jP 28 9 = some (.getfield 9) := rfl
set_option maxRecDepth 100000 in
theorem yr7p_12 : j_code jP 28 12 = some (.iconst 0) := rfl
set_option maxRecDepth 100000 in
theorem yr7p_13 : j_code jP 28 13 = some (.aload_n 0) := rfl
set_option maxRecDepth 100000 in
theorem yr7p_14 : j_code jP 28 14 = some (.getfield 9) := rfl
set_option maxRecDepth 100000 in
theorem yr7p_17 : j_code jP 28 17 = some (.iconst 0) := rfl
set_option maxRecDepth 100000 in
theorem yr7p_18 : j_code jP 28 18 = some (.aload_n 0) := rfl
set_option maxRecDepth 100000 in
theorem yr7p_19 : j_code jP 28 19 = some (.getfield 9) := rfl
set_option maxRecDepth 100000 in
theorem yr7p_22 : j_code jP 28 22 = some (.arraylength) := rfl
set_option maxRecDepth 100000 in
theorem yr7p_23 : j_code jP 28 23 = some (.invokestatic 50) := rfl
set_option maxRecDepth 100000 in
theorem yr7p_26 : j_code jP 28 26 = some (.aload_n 1) := rfl
set_option maxRecDepth 100000 in
theorem yr7p_27 : j_code jP 28 27 = some (.getfield 15) := rfl
set_option maxRecDepth 100000 in
theorem yr7p_30 : j_code jP 28 30 = some (.iconst 0) := rfl
set_option maxRecDepth 100000 in
theorem yr7p_31 : j_code jP 28 31 = some (.aload_n 0) := rfl
set_option maxRecDepth 100000 in
theorem yr7p_32 : j_code jP 28 32 = some (.getfield 15) := rfl
set_option maxRecDepth 100000 in
theorem yr7p_35 : j_code jP 28 35 = some (.iconst 0) := rfl
set_option maxRecDepth 100000 in
theorem yr7p_36 : j_code jP 28 36 = some (.aload_n 0) := rfl
set_option maxRecDepth 100000 in
theorem yr7p_37 : j_code jP 28 37 = some (.getfield 15) := rfl
set_option maxRecDepth 100000 in
theorem yr7p_40 : j_code jP 28 40 = some (.arraylength) := rfl
set_option maxRecDepth 100000 in
theorem yr7p_41 : j_code jP 28 41 = some (.invokestatic 50) := rfl
set_option maxRecDepth 100000 in
theorem yr7p_44 : j_code jP 28 44 = some (.aload_n 1) := rfl
set_option maxRecDepth 100000 in
theorem yr7p_45 : j_code jP 28 45 = some (.getfield 18) := rfl
set_option maxRecDepth 100000 in
theorem yr7p_48 : j_code jP 28 48 = some (.iconst 0) := rfl
set_option maxRecDepth 100000 in
theorem yr7p_49 : j_code jP 28 49 = some (.aload_n 0) := rfl
set_option maxRecDepth 100000 in
theorem yr7p_50 : j_code jP 28 50 = some (.getfield 18) := rfl
set_option maxRecDepth 100000 in
theorem yr7p_53 : j_code jP 28 53 = some (.iconst 0) := rfl
set_option maxRecDepth 100000 in
theorem yr7p_54 : j_code jP 28 54 = some (.aload_n 0) := rfl
set_option maxRecDepth 100000 in
theorem yr7p_55 : j_code jP 28 55 = some (.getfield 18) := rfl
set_option maxRecDepth 100000 in
theorem yr7p_58 : j_code jP 28 58 = some (.arraylength) := rfl
set_option maxRecDepth 100000 in
theorem yr7p_59 : j_code jP 28 59 = some (.invokestatic 50) := rfl
set_option maxRecDepth 100000 in
theorem yr7p_62 : j_code jP 28 62 = some (.aload_n 1) := rfl
set_option maxRecDepth 100000 in
theorem yr7p_63 : j_code jP 28 63 = some (.getfield 21) := rfl
set_option maxRecDepth 100000 in
theorem yr7p_66 : j_code jP 28 66 = some (.iconst 0) := rfl
set_option maxRecDepth 100000 in
theorem yr7p_67 : j_code jP 28 67 = some (.aload_n 0) := rfl
set_option maxRecDepth 100000 in
theorem yr7p_68 : j_code jP 28 68 = some (.getfield 21) := rfl
set_option maxRecDepth 100000 in
theorem yr7p_71 : j_code jP 28 71 = some (.iconst 0) := rfl
set_option maxRecDepth 100000 in
theorem yr7p_72 : j_code jP 28 72 = some (.aload_n 0) := rfl
set_option maxRecDepth 100000 in
theorem yr7p_73 : j_code jP 28 73 = some (.getfield 21) := rfl
set_option maxRecDepth 100000 in
theorem yr7p_76 : j_code jP 28 76 = some (.arraylength) := rfl
set_option maxRecDepth 100000 in
theorem yr7p_77 : j_code jP 28 77 = some (.invokestatic 50) := rfl
set_option maxRecDepth 100000 in
theorem yr7p_80 : j_code jP 28 80 = some (.aload_n 1) := rfl
set_option maxRecDepth 100000 in
theorem yr7p_81 : j_code jP 28 81 = some (.getfield 24) := rfl
set_option maxRecDepth 100000 in
theorem yr7p_84 : j_code jP 28 84 = some (.iconst 0) := rfl
set_option maxRecDepth 100000 in
theorem yr7p_85 : j_code jP 28 85 = some (.aload_n 0) := rfl
set_option maxRecDepth 100000 in
theorem yr7p_86 : j_code jP 28 86 = some (.getfield 24) := rfl
set_option maxRecDepth 100000 in
theorem yr7p_89 : j_code jP 28 89 = some (.iconst 0) := rfl
set_option maxRecDepth 100000 in
theorem yr7p_90 : j_code jP 28 90 = some (.aload_n 0) := rfl
set_option maxRecDepth 100000 in
theorem yr7p_91 : j_code jP 28 91 = some (.getfield 24) := rfl
set_option maxRecDepth 100000 in
theorem yr7p_94 : j_code jP 28 94 = some (.arraylength) := rfl
set_option maxRecDepth 100000 in
theorem yr7p_95 : j_code jP 28 95 = some (.invokestatic 50) := rfl
set_option maxRecDepth 100000 in
theorem yr7p_98 : j_code jP 28 98 = some (.aload_n 1) := rfl
set_option maxRecDepth 100000 in
theorem yr7p_99 : j_code jP 28 99 = some (.getfield 27) := rfl
set_option maxRecDepth 100000 in
theorem yr7p_102 : j_code jP 28 102 = some (.iconst 0) := rfl
set_option maxRecDepth 100000 in
theorem yr7p_103 : j_code jP 28 103 = some (.aload_n 0) := rfl
set_option maxRecDepth 100000 in
theorem yr7p_104 : j_code jP 28 104 = some (.getfield 27) := rfl
set_option maxRecDepth 100000 in
theorem yr7p_107 : j_code jP 28 107 = some (.iconst 0) := rfl
set_option maxRecDepth 100000 in
theorem yr7p_108 : j_code jP 28 108 = some (.aload_n 0) := rfl
set_option maxRecDepth 100000 in
theorem yr7p_109 : j_code jP 28 109 = some (.getfield 27) := rfl
set_option maxRecDepth 100000 in
theorem yr7p_112 : j_code jP 28 112 = some (.arraylength) := rfl
set_option maxRecDepth 100000 in
theorem yr7p_113 : j_code jP 28 113 = some (.invokestatic 50) := rfl
set_option maxRecDepth 100000 in
theorem yr7p_116 : j_code jP 28 116 = some (.aload_n 1) := rfl
set_option maxRecDepth 100000 in
theorem yr7p_117 : j_code jP 28 117 = some (.getfield 30) := rfl
set_option maxRecDepth 100000 in
theorem yr7p_120 : j_code jP 28 120 = some (.iconst 0) := rfl
set_option maxRecDepth 100000 in
theorem yr7p_121 : j_code jP 28 121 = some (.aload_n 0) := rfl
set_option maxRecDepth 100000 in
theorem yr7p_122 : j_code jP 28 122 = some (.getfield 30) := rfl
set_option maxRecDepth 100000 in
theorem yr7p_125 : j_code jP 28 125 = some (.iconst 0) := rfl
set_option maxRecDepth 100000 in
theorem yr7p_126 : j_code jP 28 126 = some (.aload_n 0) := rfl
set_option maxRecDepth 100000 in
theorem yr7p_127 : j_code jP 28 127 = some (.getfield 30) := rfl
set_option maxRecDepth 100000 in
theorem yr7p_130 : j_code jP 28 130 = some (.arraylength) := rfl
set_option maxRecDepth 100000 in
theorem yr7p_131 : j_code jP 28 131 = some (.invokestatic 50) := rfl
set_option maxRecDepth 100000 in
theorem yr7p_134 : j_code jP 28 134 = some (.aload_n 1) := rfl
set_option maxRecDepth 100000 in
theorem yr7p_135 : j_code jP 28 135 = some (.getfield 33) := rfl
set_option maxRecDepth 100000 in
theorem yr7p_138 : j_code jP 28 138 = some (.iconst 0) := rfl
set_option maxRecDepth 100000 in
theorem yr7p_139 : j_code jP 28 139 = some (.aload_n 0) := rfl
set_option maxRecDepth 100000 in
theorem yr7p_140 : j_code jP 28 140 = some (.getfield 33) := rfl
set_option maxRecDepth 100000 in
theorem yr7p_143 : j_code jP 28 143 = some (.iconst 0) := rfl
set_option maxRecDepth 100000 in
theorem yr7p_144 : j_code jP 28 144 = some (.aload_n 0) := rfl
set_option maxRecDepth 100000 in
theorem yr7p_145 : j_code jP 28 145 = some (.getfield 33) := rfl
set_option maxRecDepth 100000 in
theorem yr7p_148 : j_code jP 28 148 = some (.arraylength) := rfl
set_option maxRecDepth 100000 in
theorem yr7p_149 : j_code jP 28 149 = some (.invokestatic 50) := rfl
set_option maxRecDepth 100000 in
theorem yr7p_152 : j_code jP 28 152 = some (.aload_n 0) := rfl
set_option maxRecDepth 100000 in
theorem yr7p_153 : j_code jP 28 153 = some (.aload_n 1) := rfl
set_option maxRecDepth 100000 in
theorem yr7p_154 : j_code jP 28 154 = some (.getfield 46) := rfl
set_option maxRecDepth 100000 in
theorem yr7p_157 : j_code jP 28 157 = some (.putfield 46) := rfl
set_option maxRecDepth 100000 in
theorem yr7p_160 : j_code jP 28 160 = some (.return_) := rfl
set_option maxRecDepth 1000000 in
theorem yr7p_k8 {pev : Int32} {pms : List Int32} {pmm : List Int32} {pevs : Int32} {pmss : List Int32} {pmms : List Int32} {d : Nat} {lv : J_L} {h h0 : J_H} {Q : Option Value → J_H → Prop} (L : LK lv [(0, .ref 222), (1, .ref 20)]) (K : KN h [(20, .inl (3, [.ref 21, .ref 22, .ref 23, .ref 24, .ref 25, .ref 26, .ref 27, .ref 28, .int pevs, .int 1])), (21, .inr (.inl (0, pmss))), (22, .inr (.inl (0, pmms))), (222, .inl (3, [.ref 223, .ref 224, .ref 225, .ref 226, .ref 227, .ref 228, .ref 229, .ref 230, .int pev, .int 1])), (223, .inr (.inl (0, pms))), (224, .inr (.inl (0, pmm)))] h0) (kk : ∀ lv h, LK lv [(0, .ref 222), (1, .ref 20)] → KN h [(20, .inl (3, [.ref 21, .ref 22, .ref 23, .ref 24, .ref 25, .ref 26, .ref 27, .ref 28, .int pevs, .int 1])), (21, .inr (.inl (0, pmss))), (22, .inr (.inl (0, pmms))), (222, .inl (3, [.ref 223, .ref 224, .ref 225, .ref 226, .ref 227, .ref 228, .ref 229, .ref 230, .int pev, .int 1])), (223, .inr (.inl (0, (aC (nI pms.length) pmss pms)))), (224, .inr (.inl (0, (aC (nI pmm.length) pmms pmm))))] h0 → j_V jP d 28 44 lv [] h Q) : j_V jP d 28 8 lv [] h Q := by
  refine j_V.ldL yr7p_M yr7p_8 rfl (i := 1) (kd := 2) (v := .ref 20) (pcJ := 9) rfl L rfl rfl rfl ?_
  refine j_V.getK yr7p_M yr7p_9 (ci := 3) (j := 0) rfl K rfl rfl ?_
  refine j_V.one yr7p_M yr7p_12 (by decide) (pcJ := 13) (stJ := [.int 0, .ref 21]) rfl ?_
  refine j_V.ldL yr7p_M yr7p_13 rfl (i := 0) (kd := 2) (v := .ref 222) (pcJ := 14) rfl L rfl rfl rfl ?_
  refine j_V.getK yr7p_M yr7p_14 (ci := 3) (j := 0) rfl K rfl rfl ?_
  refine j_V.one yr7p_M yr7p_17 (by decide) (pcJ := 18) (stJ := [.int 0, .ref 223, .int 0, .ref 21]) rfl ?_
  refine j_V.ldL yr7p_M yr7p_18 rfl (i := 0) (kd := 2) (v := .ref 222) (pcJ := 19) rfl L rfl rfl rfl ?_
  refine j_V.getK yr7p_M yr7p_19 (ci := 3) (j := 0) rfl K rfl rfl ?_
  refine j_V.alnA yr7p_M yr7p_22 K rfl ?_
  refine j_V.acp yr7p_M yr7p_23 rfl rfl K rfl rfl rfl (fun h K => ?_)
  refine j_V.ldL yr7p_M yr7p_26 rfl (i := 1) (kd := 2) (v := .ref 20) (pcJ := 27) rfl L rfl rfl rfl ?_
  refine j_V.getK yr7p_M yr7p_27 (ci := 3) (j := 1) rfl K rfl rfl ?_
  refine j_V.one yr7p_M yr7p_30 (by decide) (pcJ := 31) (stJ := [.int 0, .ref 22]) rfl ?_
  refine j_V.ldL yr7p_M yr7p_31 rfl (i := 0) (kd := 2) (v := .ref 222) (pcJ := 32) rfl L rfl rfl rfl ?_
  refine j_V.getK yr7p_M yr7p_32 (ci := 3) (j := 1) rfl K rfl rfl ?_
  refine j_V.one yr7p_M yr7p_35 (by decide) (pcJ := 36) (stJ := [.int 0, .ref 224, .int 0, .ref 22]) rfl ?_
  refine j_V.ldL yr7p_M yr7p_36 rfl (i := 0) (kd := 2) (v := .ref 222) (pcJ := 37) rfl L rfl rfl rfl ?_
  refine j_V.getK yr7p_M yr7p_37 (ci := 3) (j := 1) rfl K rfl rfl ?_
  refine j_V.alnA yr7p_M yr7p_40 K rfl ?_
  refine j_V.acp yr7p_M yr7p_41 rfl rfl K rfl rfl rfl (fun h K => ?_)
  exact kk _ _ L K
set_option maxRecDepth 1000000 in
theorem yr7p_k44 {pev : Int32} {pmt : List Int32} {pst : List Int32} {pevs : Int32} {pmts : List Int32} {psts : List Int32} {d : Nat} {lv : J_L} {h h0 : J_H} {Q : Option Value → J_H → Prop} (L : LK lv [(0, .ref 222), (1, .ref 20)]) (K : KN h [(20, .inl (3, [.ref 21, .ref 22, .ref 23, .ref 24, .ref 25, .ref 26, .ref 27, .ref 28, .int pevs, .int 1])), (23, .inr (.inl (0, pmts))), (24, .inr (.inl (0, psts))), (222, .inl (3, [.ref 223, .ref 224, .ref 225, .ref 226, .ref 227, .ref 228, .ref 229, .ref 230, .int pev, .int 1])), (225, .inr (.inl (0, pmt))), (226, .inr (.inl (0, pst)))] h0) (kk : ∀ lv h, LK lv [(0, .ref 222), (1, .ref 20)] → KN h [(20, .inl (3, [.ref 21, .ref 22, .ref 23, .ref 24, .ref 25, .ref 26, .ref 27, .ref 28, .int pevs, .int 1])), (23, .inr (.inl (0, pmts))), (24, .inr (.inl (0, psts))), (222, .inl (3, [.ref 223, .ref 224, .ref 225, .ref 226, .ref 227, .ref 228, .ref 229, .ref 230, .int pev, .int 1])), (225, .inr (.inl (0, (aC (nI pmt.length) pmts pmt)))), (226, .inr (.inl (0, (aC (nI pst.length) psts pst))))] h0 → j_V jP d 28 80 lv [] h Q) : j_V jP d 28 44 lv [] h Q := by
  refine j_V.ldL yr7p_M yr7p_44 rfl (i := 1) (kd := 2) (v := .ref 20) (pcJ := 45) rfl L rfl rfl rfl ?_
  refine j_V.getK yr7p_M yr7p_45 (ci := 3) (j := 2) rfl K rfl rfl ?_
  refine j_V.one yr7p_M yr7p_48 (by decide) (pcJ := 49) (stJ := [.int 0, .ref 23]) rfl ?_
  refine j_V.ldL yr7p_M yr7p_49 rfl (i := 0) (kd := 2) (v := .ref 222) (pcJ := 50) rfl L rfl rfl rfl ?_
  refine j_V.getK yr7p_M yr7p_50 (ci := 3) (j := 2) rfl K rfl rfl ?_
  refine j_V.one yr7p_M yr7p_53 (by decide) (pcJ := 54) (stJ := [.int 0, .ref 225, .int 0, .ref 23]) rfl ?_
  refine j_V.ldL yr7p_M yr7p_54 rfl (i := 0) (kd := 2) (v := .ref 222) (pcJ := 55) rfl L rfl rfl rfl ?_
  refine j_V.getK yr7p_M yr7p_55 (ci := 3) (j := 2) rfl K rfl rfl ?_
  refine j_V.alnA yr7p_M yr7p_58 K rfl ?_
  refine j_V.acp yr7p_M yr7p_59 rfl rfl K rfl rfl rfl (fun h K => ?_)
  refine j_V.ldL yr7p_M yr7p_62 rfl (i := 1) (kd := 2) (v := .ref 20) (pcJ := 63) rfl L rfl rfl rfl ?_
  refine j_V.getK yr7p_M yr7p_63 (ci := 3) (j := 3) rfl K rfl rfl ?_
  refine j_V.one yr7p_M yr7p_66 (by decide) (pcJ := 67) (stJ := [.int 0, .ref 24]) rfl ?_
  refine j_V.ldL yr7p_M yr7p_67 rfl (i := 0) (kd := 2) (v := .ref 222) (pcJ := 68) rfl L rfl rfl rfl ?_
  refine j_V.getK yr7p_M yr7p_68 (ci := 3) (j := 3) rfl K rfl rfl ?_
  refine j_V.one yr7p_M yr7p_71 (by decide) (pcJ := 72) (stJ := [.int 0, .ref 226, .int 0, .ref 24]) rfl ?_
  refine j_V.ldL yr7p_M yr7p_72 rfl (i := 0) (kd := 2) (v := .ref 222) (pcJ := 73) rfl L rfl rfl rfl ?_
  refine j_V.getK yr7p_M yr7p_73 (ci := 3) (j := 3) rfl K rfl rfl ?_
  refine j_V.alnA yr7p_M yr7p_76 K rfl ?_
  refine j_V.acp yr7p_M yr7p_77 rfl rfl K rfl rfl rfl (fun h K => ?_)
  exact kk _ _ L K
set_option maxRecDepth 1000000 in
theorem yr7p_k80 {pev : Int32} {pwa : List Int32} {prs : List Int32} {pevs : Int32} {pwas : List Int32} {prss : List Int32} {d : Nat} {lv : J_L} {h h0 : J_H} {Q : Option Value → J_H → Prop} (L : LK lv [(0, .ref 222), (1, .ref 20)]) (K : KN h [(20, .inl (3, [.ref 21, .ref 22, .ref 23, .ref 24, .ref 25, .ref 26, .ref 27, .ref 28, .int pevs, .int 1])), (25, .inr (.inl (0, pwas))), (26, .inr (.inl (0, prss))), (222, .inl (3, [.ref 223, .ref 224, .ref 225, .ref 226, .ref 227, .ref 228, .ref 229, .ref 230, .int pev, .int 1])), (227, .inr (.inl (0, pwa))), (228, .inr (.inl (0, prs)))] h0) (kk : ∀ lv h, LK lv [(0, .ref 222), (1, .ref 20)] → KN h [(20, .inl (3, [.ref 21, .ref 22, .ref 23, .ref 24, .ref 25, .ref 26, .ref 27, .ref 28, .int pevs, .int 1])), (25, .inr (.inl (0, pwas))), (26, .inr (.inl (0, prss))), (222, .inl (3, [.ref 223, .ref 224, .ref 225, .ref 226, .ref 227, .ref 228, .ref 229, .ref 230, .int pev, .int 1])), (227, .inr (.inl (0, (aC (nI pwa.length) pwas pwa)))), (228, .inr (.inl (0, (aC (nI prs.length) prss prs))))] h0 → j_V jP d 28 116 lv [] h Q) : j_V jP d 28 80 lv [] h Q := by
  refine j_V.ldL yr7p_M yr7p_80 rfl (i := 1) (kd := 2) (v := .ref 20) (pcJ := 81) rfl L rfl rfl rfl ?_
  refine j_V.getK yr7p_M yr7p_81 (ci := 3) (j := 4) rfl K rfl rfl ?_
  refine j_V.one yr7p_M yr7p_84 (by decide) (pcJ := 85) (stJ := [.int 0, .ref 25]) rfl ?_
  refine j_V.ldL yr7p_M yr7p_85 rfl (i := 0) (kd := 2) (v := .ref 222) (pcJ := 86) rfl L rfl rfl rfl ?_
  refine j_V.getK yr7p_M yr7p_86 (ci := 3) (j := 4) rfl K rfl rfl ?_
  refine j_V.one yr7p_M yr7p_89 (by decide) (pcJ := 90) (stJ := [.int 0, .ref 227, .int 0, .ref 25]) rfl ?_
  refine j_V.ldL yr7p_M yr7p_90 rfl (i := 0) (kd := 2) (v := .ref 222) (pcJ := 91) rfl L rfl rfl rfl ?_
  refine j_V.getK yr7p_M yr7p_91 (ci := 3) (j := 4) rfl K rfl rfl ?_
  refine j_V.alnA yr7p_M yr7p_94 K rfl ?_
  refine j_V.acp yr7p_M yr7p_95 rfl rfl K rfl rfl rfl (fun h K => ?_)
  refine j_V.ldL yr7p_M yr7p_98 rfl (i := 1) (kd := 2) (v := .ref 20) (pcJ := 99) rfl L rfl rfl rfl ?_
  refine j_V.getK yr7p_M yr7p_99 (ci := 3) (j := 5) rfl K rfl rfl ?_
  refine j_V.one yr7p_M yr7p_102 (by decide) (pcJ := 103) (stJ := [.int 0, .ref 26]) rfl ?_
  refine j_V.ldL yr7p_M yr7p_103 rfl (i := 0) (kd := 2) (v := .ref 222) (pcJ := 104) rfl L rfl rfl rfl ?_
  refine j_V.getK yr7p_M yr7p_104 (ci := 3) (j := 5) rfl K rfl rfl ?_
  refine j_V.one yr7p_M yr7p_107 (by decide) (pcJ := 108) (stJ := [.int 0, .ref 228, .int 0, .ref 26]) rfl ?_
  refine j_V.ldL yr7p_M yr7p_108 rfl (i := 0) (kd := 2) (v := .ref 222) (pcJ := 109) rfl L rfl rfl rfl ?_
  refine j_V.getK yr7p_M yr7p_109 (ci := 3) (j := 5) rfl K rfl rfl ?_
  refine j_V.alnA yr7p_M yr7p_112 K rfl ?_
  refine j_V.acp yr7p_M yr7p_113 rfl rfl K rfl rfl rfl (fun h K => ?_)
  exact kk _ _ L K
set_option maxRecDepth 1000000 in
theorem yr7p_k116 {pev : Int32} {prr : List Int32} {pfa : List Int32} {pevs : Int32} {prrs : List Int32} {pfas : List Int32} {d : Nat} {lv : J_L} {h h0 : J_H} {Q : Option Value → J_H → Prop} (L : LK lv [(0, .ref 222), (1, .ref 20)]) (K : KN h [(20, .inl (3, [.ref 21, .ref 22, .ref 23, .ref 24, .ref 25, .ref 26, .ref 27, .ref 28, .int pevs, .int 1])), (27, .inr (.inl (0, prrs))), (28, .inr (.inl (0, pfas))), (222, .inl (3, [.ref 223, .ref 224, .ref 225, .ref 226, .ref 227, .ref 228, .ref 229, .ref 230, .int pev, .int 1])), (229, .inr (.inl (0, prr))), (230, .inr (.inl (0, pfa)))] h0) (kk : ∀ lv h, LK lv [(0, .ref 222), (1, .ref 20)] → KN h [(20, .inl (3, [.ref 21, .ref 22, .ref 23, .ref 24, .ref 25, .ref 26, .ref 27, .ref 28, .int pevs, .int 1])), (27, .inr (.inl (0, prrs))), (28, .inr (.inl (0, pfas))), (222, .inl (3, [.ref 223, .ref 224, .ref 225, .ref 226, .ref 227, .ref 228, .ref 229, .ref 230, .int pev, .int 1])), (229, .inr (.inl (0, (aC (nI prr.length) prrs prr)))), (230, .inr (.inl (0, (aC (nI pfa.length) pfas pfa))))] h0 → j_V jP d 28 152 lv [] h Q) : j_V jP d 28 116 lv [] h Q := by
  refine j_V.ldL yr7p_M yr7p_116 rfl (i := 1) (kd := 2) (v := .ref 20) (pcJ := 117) rfl L rfl rfl rfl ?_
  refine j_V.getK yr7p_M yr7p_117 (ci := 3) (j := 6) rfl K rfl rfl ?_
  refine j_V.one yr7p_M yr7p_120 (by decide) (pcJ := 121) (stJ := [.int 0, .ref 27]) rfl ?_
  refine j_V.ldL yr7p_M yr7p_121 rfl (i := 0) (kd := 2) (v := .ref 222) (pcJ := 122) rfl L rfl rfl rfl ?_
  refine j_V.getK yr7p_M yr7p_122 (ci := 3) (j := 6) rfl K rfl rfl ?_
  refine j_V.one yr7p_M yr7p_125 (by decide) (pcJ := 126) (stJ := [.int 0, .ref 229, .int 0, .ref 27]) rfl ?_
  refine j_V.ldL yr7p_M yr7p_126 rfl (i := 0) (kd := 2) (v := .ref 222) (pcJ := 127) rfl L rfl rfl rfl ?_
  refine j_V.getK yr7p_M yr7p_127 (ci := 3) (j := 6) rfl K rfl rfl ?_
  refine j_V.alnA yr7p_M yr7p_130 K rfl ?_
  refine j_V.acp yr7p_M yr7p_131 rfl rfl K rfl rfl rfl (fun h K => ?_)
  refine j_V.ldL yr7p_M yr7p_134 rfl (i := 1) (kd := 2) (v := .ref 20) (pcJ := 135) rfl L rfl rfl rfl ?_
  refine j_V.getK yr7p_M yr7p_135 (ci := 3) (j := 7) rfl K rfl rfl ?_
  refine j_V.one yr7p_M yr7p_138 (by decide) (pcJ := 139) (stJ := [.int 0, .ref 28]) rfl ?_
  refine j_V.ldL yr7p_M yr7p_139 rfl (i := 0) (kd := 2) (v := .ref 222) (pcJ := 140) rfl L rfl rfl rfl ?_
  refine j_V.getK yr7p_M yr7p_140 (ci := 3) (j := 7) rfl K rfl rfl ?_
  refine j_V.one yr7p_M yr7p_143 (by decide) (pcJ := 144) (stJ := [.int 0, .ref 230, .int 0, .ref 28]) rfl ?_
  refine j_V.ldL yr7p_M yr7p_144 rfl (i := 0) (kd := 2) (v := .ref 222) (pcJ := 145) rfl L rfl rfl rfl ?_
  refine j_V.getK yr7p_M yr7p_145 (ci := 3) (j := 7) rfl K rfl rfl ?_
  refine j_V.alnA yr7p_M yr7p_148 K rfl ?_
  refine j_V.acp yr7p_M yr7p_149 rfl rfl K rfl rfl rfl (fun h K => ?_)
  exact kk _ _ L K
set_option maxRecDepth 1000000 in
theorem yr7p_ok {pev : Int32} {pms : List Int32} {pmm : List Int32} {pmt : List Int32} {pst : List Int32} {pwa : List Int32} {prs : List Int32} {prr : List Int32} {pfa : List Int32} {pevs : Int32} {pmss : List Int32} {pmms : List Int32} {pmts : List Int32} {psts : List Int32} {pwas : List Int32} {prss : List Int32} {prrs : List Int32} {pfas : List Int32} {d : Nat} {h h0 : J_H} (K : KN h [(20, .inl (3, [.ref 21, .ref 22, .ref 23, .ref 24, .ref 25, .ref 26, .ref 27, .ref 28, .int pevs, .int 1])), (21, .inr (.inl (0, pmss))), (22, .inr (.inl (0, pmms))), (23, .inr (.inl (0, pmts))), (24, .inr (.inl (0, psts))), (25, .inr (.inl (0, pwas))), (26, .inr (.inl (0, prss))), (27, .inr (.inl (0, prrs))), (28, .inr (.inl (0, pfas))), (222, .inl (3, [.ref 223, .ref 224, .ref 225, .ref 226, .ref 227, .ref 228, .ref 229, .ref 230, .int pev, .int 1])), (223, .inr (.inl (0, pms))), (224, .inr (.inl (0, pmm))), (225, .inr (.inl (0, pmt))), (226, .inr (.inl (0, pst))), (227, .inr (.inl (0, pwa))), (228, .inr (.inl (0, prs))), (229, .inr (.inl (0, prr))), (230, .inr (.inl (0, pfa)))] h0) : j_V jP d 28 0 (lv_args 0 [.ref 222, .ref 20]) [] h (fun rv h' => rv = none ∧ KN h' [(20, .inl (3, [.ref 21, .ref 22, .ref 23, .ref 24, .ref 25, .ref 26, .ref 27, .ref 28, .int pevs, .int 1])), (21, .inr (.inl (0, pmss))), (22, .inr (.inl (0, pmms))), (23, .inr (.inl (0, pmts))), (24, .inr (.inl (0, psts))), (25, .inr (.inl (0, pwas))), (26, .inr (.inl (0, prss))), (27, .inr (.inl (0, prrs))), (28, .inr (.inl (0, pfas))), (222, .inl (3, [.ref 223, .ref 224, .ref 225, .ref 226, .ref 227, .ref 228, .ref 229, .ref 230, .int pevs, .int 1])), (223, .inr (.inl (0, (aC (nI pms.length) pmss pms)))), (224, .inr (.inl (0, (aC (nI pmm.length) pmms pmm)))), (225, .inr (.inl (0, (aC (nI pmt.length) pmts pmt)))), (226, .inr (.inl (0, (aC (nI pst.length) psts pst)))), (227, .inr (.inl (0, (aC (nI pwa.length) pwas pwa)))), (228, .inr (.inl (0, (aC (nI prs.length) prss prs)))), (229, .inr (.inl (0, (aC (nI prr.length) prrs prr)))), (230, .inr (.inl (0, (aC (nI pfa.length) pfas pfa))))] h0) := by
  show j_V jP d 28 0 [(0, .ref 222), (1, .ref 20)] [] h _
  obtain ⟨lv, elv, L⟩ : ∃ lv, lv = [(0, .ref 222), (1, .ref 20)] ∧ LK lv [(0, .ref 222), (1, .ref 20)] := ⟨_, rfl, LK.rf⟩
  rw [← elv]
  clear elv
  refine j_V.ldL yr7p_M yr7p_0 rfl (i := 0) (kd := 2) (v := .ref 222) (pcJ := 1) rfl L rfl rfl rfl ?_
  refine j_V.getK yr7p_M yr7p_1 (ci := 3) (j := 9) rfl K rfl rfl ?_
  refine j_V.ifc yr7p_M yr7p_4 (t := 8) rfl (fun c4_0 => ?_) (fun c4_0 => ?_)
  · replace c4_0 : ¬ ((1 : Int32) = 0) := jd_ne c4_0
    refine yr7p_k8 L (K.fi [20, 21, 22, 222, 223, 224] rfl rfl) (fun lv h9 L K9 => ?_)
    have K : KN h9 [(20, .inl (3, [.ref 21, .ref 22, .ref 23, .ref 24, .ref 25, .ref 26, .ref 27, .ref 28, .int pevs, .int 1])), (21, .inr (.inl (0, pmss))), (22, .inr (.inl (0, pmms))), (23, .inr (.inl (0, pmts))), (24, .inr (.inl (0, psts))), (25, .inr (.inl (0, pwas))), (26, .inr (.inl (0, prss))), (27, .inr (.inl (0, prrs))), (28, .inr (.inl (0, pfas))), (222, .inl (3, [.ref 223, .ref 224, .ref 225, .ref 226, .ref 227, .ref 228, .ref 229, .ref 230, .int pev, .int 1])), (223, .inr (.inl (0, (aC (nI pms.length) pmss pms)))), (224, .inr (.inl (0, (aC (nI pmm.length) pmms pmm)))), (225, .inr (.inl (0, pmt))), (226, .inr (.inl (0, pst))), (227, .inr (.inl (0, pwa))), (228, .inr (.inl (0, prs))), (229, .inr (.inl (0, prr))), (230, .inr (.inl (0, pfa)))] h0 := K.mg K9 rfl rfl
    clear K9
    refine yr7p_k44 L (K.fi [20, 23, 24, 222, 225, 226] rfl rfl) (fun lv h9 L K9 => ?_)
    have K : KN h9 [(20, .inl (3, [.ref 21, .ref 22, .ref 23, .ref 24, .ref 25, .ref 26, .ref 27, .ref 28, .int pevs, .int 1])), (21, .inr (.inl (0, pmss))), (22, .inr (.inl (0, pmms))), (23, .inr (.inl (0, pmts))), (24, .inr (.inl (0, psts))), (25, .inr (.inl (0, pwas))), (26, .inr (.inl (0, prss))), (27, .inr (.inl (0, prrs))), (28, .inr (.inl (0, pfas))), (222, .inl (3, [.ref 223, .ref 224, .ref 225, .ref 226, .ref 227, .ref 228, .ref 229, .ref 230, .int pev, .int 1])), (223, .inr (.inl (0, (aC (nI pms.length) pmss pms)))), (224, .inr (.inl (0, (aC (nI pmm.length) pmms pmm)))), (225, .inr (.inl (0, (aC (nI pmt.length) pmts pmt)))), (226, .inr (.inl (0, (aC (nI pst.length) psts pst)))), (227, .inr (.inl (0, pwa))), (228, .inr (.inl (0, prs))), (229, .inr (.inl (0, prr))), (230, .inr (.inl (0, pfa)))] h0 := K.mg K9 rfl rfl
    clear K9
    refine yr7p_k80 L (K.fi [20, 25, 26, 222, 227, 228] rfl rfl) (fun lv h9 L K9 => ?_)
    have K : KN h9 [(20, .inl (3, [.ref 21, .ref 22, .ref 23, .ref 24, .ref 25, .ref 26, .ref 27, .ref 28, .int pevs, .int 1])), (21, .inr (.inl (0, pmss))), (22, .inr (.inl (0, pmms))), (23, .inr (.inl (0, pmts))), (24, .inr (.inl (0, psts))), (25, .inr (.inl (0, pwas))), (26, .inr (.inl (0, prss))), (27, .inr (.inl (0, prrs))), (28, .inr (.inl (0, pfas))), (222, .inl (3, [.ref 223, .ref 224, .ref 225, .ref 226, .ref 227, .ref 228, .ref 229, .ref 230, .int pev, .int 1])), (223, .inr (.inl (0, (aC (nI pms.length) pmss pms)))), (224, .inr (.inl (0, (aC (nI pmm.length) pmms pmm)))), (225, .inr (.inl (0, (aC (nI pmt.length) pmts pmt)))), (226, .inr (.inl (0, (aC (nI pst.length) psts pst)))), (227, .inr (.inl (0, (aC (nI pwa.length) pwas pwa)))), (228, .inr (.inl (0, (aC (nI prs.length) prss prs)))), (229, .inr (.inl (0, prr))), (230, .inr (.inl (0, pfa)))] h0 := K.mg K9 rfl rfl
    clear K9
    refine yr7p_k116 L (K.fi [20, 27, 28, 222, 229, 230] rfl rfl) (fun lv h9 L K9 => ?_)
    have K : KN h9 [(20, .inl (3, [.ref 21, .ref 22, .ref 23, .ref 24, .ref 25, .ref 26, .ref 27, .ref 28, .int pevs, .int 1])), (21, .inr (.inl (0, pmss))), (22, .inr (.inl (0, pmms))), (23, .inr (.inl (0, pmts))), (24, .inr (.inl (0, psts))), (25, .inr (.inl (0, pwas))), (26, .inr (.inl (0, prss))), (27, .inr (.inl (0, prrs))), (28, .inr (.inl (0, pfas))), (222, .inl (3, [.ref 223, .ref 224, .ref 225, .ref 226, .ref 227, .ref 228, .ref 229, .ref 230, .int pev, .int 1])), (223, .inr (.inl (0, (aC (nI pms.length) pmss pms)))), (224, .inr (.inl (0, (aC (nI pmm.length) pmms pmm)))), (225, .inr (.inl (0, (aC (nI pmt.length) pmts pmt)))), (226, .inr (.inl (0, (aC (nI pst.length) psts pst)))), (227, .inr (.inl (0, (aC (nI pwa.length) pwas pwa)))), (228, .inr (.inl (0, (aC (nI prs.length) prss prs)))), (229, .inr (.inl (0, (aC (nI prr.length) prrs prr)))), (230, .inr (.inl (0, (aC (nI pfa.length) pfas pfa))))] h0 := K.mg K9 rfl rfl
    clear K9
    refine j_V.ldL yr7p_M yr7p_152 rfl (i := 0) (kd := 2) (v := .ref 222) (pcJ := 153) rfl L rfl rfl rfl ?_
    refine j_V.ldL yr7p_M yr7p_153 rfl (i := 1) (kd := 2) (v := .ref 20) (pcJ := 154) rfl L rfl rfl rfl ?_
    refine j_V.getK yr7p_M yr7p_154 (ci := 3) (j := 8) rfl K rfl rfl ?_
    refine j_V.putK yr7p_M yr7p_157 (ci := 3) (j := 8) (k' := [(20, .inl (3, [.ref 21, .ref 22, .ref 23, .ref 24, .ref 25, .ref 26, .ref 27, .ref 28, .int pevs, .int 1])), (21, .inr (.inl (0, pmss))), (22, .inr (.inl (0, pmms))), (23, .inr (.inl (0, pmts))), (24, .inr (.inl (0, psts))), (25, .inr (.inl (0, pwas))), (26, .inr (.inl (0, prss))), (27, .inr (.inl (0, prrs))), (28, .inr (.inl (0, pfas))), (222, .inl (3, [.ref 223, .ref 224, .ref 225, .ref 226, .ref 227, .ref 228, .ref 229, .ref 230, .int pevs, .int 1])), (223, .inr (.inl (0, (aC (nI pms.length) pmss pms)))), (224, .inr (.inl (0, (aC (nI pmm.length) pmms pmm)))), (225, .inr (.inl (0, (aC (nI pmt.length) pmts pmt)))), (226, .inr (.inl (0, (aC (nI pst.length) psts pst)))), (227, .inr (.inl (0, (aC (nI pwa.length) pwas pwa)))), (228, .inr (.inl (0, (aC (nI prs.length) prss prs)))), (229, .inr (.inl (0, (aC (nI prr.length) prrs prr)))), (230, .inr (.inl (0, (aC (nI pfa.length) pfas pfa))))]) rfl K rfl (Nat.le_of_ble_eq_true rfl) rfl (Or.inl rfl) rfl rfl (fun h K => ?_)
    exact j_V.ret yr7p_M yr7p_160 rfl rfl ⟨rfl, K⟩
  · replace c4_0 : (1 : Int32) = 0 := jd_nen c4_0
    exact absurd c4_0 (by decide)
set_option maxRecDepth 100000 in
theorem yr7s_M : j_meth jP 61 = some (yX7_copyFrom, cX7_copyFrom, 2, none, 1, false, 7) := rfl
set_option maxRecDepth 100000 in
theorem yr7s_0 : j_code jP 61 0 = some (.aload_n 0) := rfl
set_option maxRecDepth 100000 in
theorem yr7s_1 : j_code jP 61 1 = some (.aload_n 1) := rfl
set_option maxRecDepth 100000 in
theorem yr7s_2 : j_code jP 61 2 = some (.getfield 64) := rfl
set_option maxRecDepth 100000 in
theorem yr7s_5 : j_code jP 61 5 = some (.putfield 64) := rfl
set_option maxRecDepth 100000 in
theorem yr7s_8 : j_code jP 61 8 = some (.aload_n 0) := rfl
set_option maxRecDepth 100000 in
theorem yr7s_9 : j_code jP 61 9 = some (.aload_n 1) := rfl
set_option maxRecDepth 100000 in
theorem yr7s_10 : j_code jP 61 10 = some (.getfield 68) := rfl
set_option maxRecDepth 100000 in
theorem yr7s_13 : j_code jP 61 13 = some (.putfield 68) := rfl
set_option maxRecDepth 100000 in
theorem yr7s_16 : j_code jP 61 16 = some (.aload_n 0) := rfl
set_option maxRecDepth 100000 in
theorem yr7s_17 : j_code jP 61 17 = some (.aload_n 1) := rfl
set_option maxRecDepth 100000 in
theorem yr7s_18 : j_code jP 61 18 = some (.getfield 72) := rfl
set_option maxRecDepth 100000 in
theorem yr7s_21 : j_code jP 61 21 = some (.putfield 72) := rfl
set_option maxRecDepth 100000 in
theorem yr7s_24 : j_code jP 61 24 = some (.aload_n 0) := rfl
set_option maxRecDepth 100000 in
theorem yr7s_25 : j_code jP 61 25 = some (.aload_n 1) := rfl
set_option maxRecDepth 100000 in
theorem yr7s_26 : j_code jP 61 26 = some (.getfield 75) := rfl
set_option maxRecDepth 100000 in
theorem yr7s_29 : j_code jP 61 29 = some (.putfield 75) := rfl
set_option maxRecDepth 100000 in
theorem yr7s_32 : j_code jP 61 32 = some (.aload_n 0) := rfl
set_option maxRecDepth 100000 in
theorem yr7s_33 : j_code jP 61 33 = some (.aload_n 1) := rfl
set_option maxRecDepth 100000 in
theorem yr7s_34 : j_code jP 61 34 = some (.getfield 78) := rfl
set_option maxRecDepth 100000 in
theorem yr7s_37 : j_code jP 61 37 = some (.putfield 78) := rfl
set_option maxRecDepth 100000 in
theorem yr7s_40 : j_code jP 61 40 = some (.aload_n 1) := rfl
set_option maxRecDepth 100000 in
theorem yr7s_41 : j_code jP 61 41 = some (.getfield 9) := rfl
set_option maxRecDepth 100000 in
theorem yr7s_44 : j_code jP 61 44 = some (.iconst 0) := rfl
set_option maxRecDepth 100000 in
theorem yr7s_45 : j_code jP 61 45 = some (.aload_n 0) := rfl
set_option maxRecDepth 100000 in
theorem yr7s_46 : j_code jP 61 46 = some (.getfield 9) := rfl
set_option maxRecDepth 100000 in
theorem yr7s_49 : j_code jP 61 49 = some (.iconst 0) := rfl
set_option maxRecDepth 100000 in
theorem yr7s_50 : j_code jP 61 50 = some (.iconst 5) := rfl
set_option maxRecDepth 100000 in
theorem yr7s_51 : j_code jP 61 51 = some (.invokestatic 84) := rfl
set_option maxRecDepth 100000 in
theorem yr7s_54 : j_code jP 61 54 = some (.aload_n 1) := rfl
set_option maxRecDepth 100000 in
theorem yr7s_55 : j_code jP 61 55 = some (.getfield 15) := rfl
set_option maxRecDepth 100000 in
theorem yr7s_58 : j_code jP 61 58 = some (.iconst 0) := rfl
set_option maxRecDepth 100000 in
theorem yr7s_59 : j_code jP 61 59 = some (.aload_n 0) := rfl
set_option maxRecDepth 100000 in
theorem yr7s_60 : j_code jP 61 60 = some (.getfield 15) := rfl
set_option maxRecDepth 100000 in
theorem yr7s_63 : j_code jP 61 63 = some (.iconst 0) := rfl
set_option maxRecDepth 100000 in
theorem yr7s_64 : j_code jP 61 64 = some (.iconst 5) := rfl
set_option maxRecDepth 100000 in
theorem yr7s_65 : j_code jP 61 65 = some (.invokestatic 84) := rfl
set_option maxRecDepth 100000 in
theorem yr7s_68 : j_code jP 61 68 = some (.aload_n 1) := rfl
set_option maxRecDepth 100000 in
theorem yr7s_69 : j_code jP 61 69 = some (.getfield 18) := rfl
set_option maxRecDepth 100000 in
theorem yr7s_72 : j_code jP 61 72 = some (.iconst 0) := rfl
set_option maxRecDepth 100000 in
theorem yr7s_73 : j_code jP 61 73 = some (.aload_n 0) := rfl
set_option maxRecDepth 100000 in
theorem yr7s_74 : j_code jP 61 74 = some (.getfield 18) := rfl
set_option maxRecDepth 100000 in
theorem yr7s_77 : j_code jP 61 77 = some (.iconst 0) := rfl
set_option maxRecDepth 100000 in
theorem yr7s_78 : j_code jP 61 78 = some (.iconst 5) := rfl
set_option maxRecDepth 100000 in
theorem yr7s_79 : j_code jP 61 79 = some (.invokestatic 84) := rfl
set_option maxRecDepth 100000 in
theorem yr7s_82 : j_code jP 61 82 = some (.aload_n 1) := rfl
set_option maxRecDepth 100000 in
theorem yr7s_83 : j_code jP 61 83 = some (.getfield 21) := rfl
set_option maxRecDepth 100000 in
theorem yr7s_86 : j_code jP 61 86 = some (.iconst 0) := rfl
set_option maxRecDepth 100000 in
theorem yr7s_87 : j_code jP 61 87 = some (.aload_n 0) := rfl
set_option maxRecDepth 100000 in
theorem yr7s_88 : j_code jP 61 88 = some (.getfield 21) := rfl
set_option maxRecDepth 100000 in
theorem yr7s_91 : j_code jP 61 91 = some (.iconst 0) := rfl
set_option maxRecDepth 100000 in
theorem yr7s_92 : j_code jP 61 92 = some (.iconst 5) := rfl
set_option maxRecDepth 100000 in
theorem yr7s_93 : j_code jP 61 93 = some (.invokestatic 84) := rfl
set_option maxRecDepth 100000 in
theorem yr7s_96 : j_code jP 61 96 = some (.aload_n 1) := rfl
set_option maxRecDepth 100000 in
theorem yr7s_97 : j_code jP 61 97 = some (.getfield 24) := rfl
set_option maxRecDepth 100000 in
theorem yr7s_100 : j_code jP 61 100 = some (.iconst 0) := rfl
set_option maxRecDepth 100000 in
theorem yr7s_101 : j_code jP 61 101 = some (.aload_n 0) := rfl
set_option maxRecDepth 100000 in
theorem yr7s_102 : j_code jP 61 102 = some (.getfield 24) := rfl
set_option maxRecDepth 100000 in
theorem yr7s_105 : j_code jP 61 105 = some (.iconst 0) := rfl
set_option maxRecDepth 100000 in
theorem yr7s_106 : j_code jP 61 106 = some (.iconst 5) := rfl
set_option maxRecDepth 100000 in
theorem yr7s_107 : j_code jP 61 107 = some (.invokestatic 84) := rfl
set_option maxRecDepth 100000 in
theorem yr7s_110 : j_code jP 61 110 = some (.aload_n 1) := rfl
set_option maxRecDepth 100000 in
theorem yr7s_111 : j_code jP 61 111 = some (.getfield 27) := rfl
set_option maxRecDepth 100000 in
theorem yr7s_114 : j_code jP 61 114 = some (.iconst 0) := rfl
set_option maxRecDepth 100000 in
theorem yr7s_115 : j_code jP 61 115 = some (.aload_n 0) := rfl
set_option maxRecDepth 100000 in
theorem yr7s_116 : j_code jP 61 116 = some (.getfield 27) := rfl
set_option maxRecDepth 100000 in
theorem yr7s_119 : j_code jP 61 119 = some (.iconst 0) := rfl
set_option maxRecDepth 100000 in
theorem yr7s_120 : j_code jP 61 120 = some (.iconst 5) := rfl
set_option maxRecDepth 100000 in
theorem yr7s_121 : j_code jP 61 121 = some (.invokestatic 84) := rfl
set_option maxRecDepth 100000 in
theorem yr7s_124 : j_code jP 61 124 = some (.aload_n 1) := rfl
set_option maxRecDepth 100000 in
theorem yr7s_125 : j_code jP 61 125 = some (.getfield 30) := rfl
set_option maxRecDepth 100000 in
theorem yr7s_128 : j_code jP 61 128 = some (.iconst 0) := rfl
set_option maxRecDepth 100000 in
theorem yr7s_129 : j_code jP 61 129 = some (.aload_n 0) := rfl
set_option maxRecDepth 100000 in
theorem yr7s_130 : j_code jP 61 130 = some (.getfield 30) := rfl
set_option maxRecDepth 100000 in
theorem yr7s_133 : j_code jP 61 133 = some (.iconst 0) := rfl
set_option maxRecDepth 100000 in
theorem yr7s_134 : j_code jP 61 134 = some (.iconst 5) := rfl
set_option maxRecDepth 100000 in
theorem yr7s_135 : j_code jP 61 135 = some (.invokestatic 84) := rfl
set_option maxRecDepth 100000 in
theorem yr7s_138 : j_code jP 61 138 = some (.aload_n 1) := rfl
set_option maxRecDepth 100000 in
theorem yr7s_139 : j_code jP 61 139 = some (.getfield 33) := rfl
set_option maxRecDepth 100000 in
theorem yr7s_142 : j_code jP 61 142 = some (.iconst 0) := rfl
set_option maxRecDepth 100000 in
theorem yr7s_143 : j_code jP 61 143 = some (.aload_n 0) := rfl
set_option maxRecDepth 100000 in
theorem yr7s_144 : j_code jP 61 144 = some (.getfield 33) := rfl
set_option maxRecDepth 100000 in
theorem yr7s_147 : j_code jP 61 147 = some (.iconst 0) := rfl
set_option maxRecDepth 100000 in
theorem yr7s_148 : j_code jP 61 148 = some (.bipush 6) := rfl
set_option maxRecDepth 100000 in
theorem yr7s_150 : j_code jP 61 150 = some (.invokestatic 84) := rfl
set_option maxRecDepth 100000 in
theorem yr7s_153 : j_code jP 61 153 = some (.aload_n 1) := rfl
set_option maxRecDepth 100000 in
theorem yr7s_154 : j_code jP 61 154 = some (.getfield 36) := rfl
set_option maxRecDepth 100000 in
theorem yr7s_157 : j_code jP 61 157 = some (.iconst 0) := rfl
set_option maxRecDepth 100000 in
theorem yr7s_158 : j_code jP 61 158 = some (.aload_n 0) := rfl
set_option maxRecDepth 100000 in
theorem yr7s_159 : j_code jP 61 159 = some (.getfield 36) := rfl
set_option maxRecDepth 100000 in
theorem yr7s_162 : j_code jP 61 162 = some (.iconst 0) := rfl
set_option maxRecDepth 100000 in
theorem yr7s_163 : j_code jP 61 163 = some (.bipush 6) := rfl
set_option maxRecDepth 100000 in
theorem yr7s_165 : j_code jP 61 165 = some (.invokestatic 84) := rfl
set_option maxRecDepth 100000 in
theorem yr7s_168 : j_code jP 61 168 = some (.aload_n 1) := rfl
set_option maxRecDepth 100000 in
theorem yr7s_169 : j_code jP 61 169 = some (.getfield 39) := rfl
set_option maxRecDepth 100000 in
theorem yr7s_172 : j_code jP 61 172 = some (.iconst 0) := rfl
set_option maxRecDepth 100000 in
theorem yr7s_173 : j_code jP 61 173 = some (.aload_n 0) := rfl
set_option maxRecDepth 100000 in
theorem yr7s_174 : j_code jP 61 174 = some (.getfield 39) := rfl
set_option maxRecDepth 100000 in
theorem yr7s_177 : j_code jP 61 177 = some (.iconst 0) := rfl
set_option maxRecDepth 100000 in
theorem yr7s_178 : j_code jP 61 178 = some (.aload_n 0) := rfl
set_option maxRecDepth 100000 in
theorem yr7s_179 : j_code jP 61 179 = some (.getfield 39) := rfl
set_option maxRecDepth 100000 in
theorem yr7s_182 : j_code jP 61 182 = some (.arraylength) := rfl
set_option maxRecDepth 100000 in
theorem yr7s_183 : j_code jP 61 183 = some (.invokestatic 84) := rfl
set_option maxRecDepth 100000 in
theorem yr7s_186 : j_code jP 61 186 = some (.aload_n 1) := rfl
set_option maxRecDepth 100000 in
theorem yr7s_187 : j_code jP 61 187 = some (.getfield 42) := rfl
set_option maxRecDepth 100000 in
theorem yr7s_190 : j_code jP 61 190 = some (.iconst 0) := rfl
set_option maxRecDepth 100000 in
theorem yr7s_191 : j_code jP 61 191 = some (.aload_n 0) := rfl
set_option maxRecDepth 100000 in
theorem yr7s_192 : j_code jP 61 192 = some (.getfield 42) := rfl
set_option maxRecDepth 100000 in
theorem yr7s_195 : j_code jP 61 195 = some (.iconst 0) := rfl
set_option maxRecDepth 100000 in
theorem yr7s_196 : j_code jP 61 196 = some (.aload_n 0) := rfl
set_option maxRecDepth 100000 in
theorem yr7s_197 : j_code jP 61 197 = some (.getfield 42) := rfl
set_option maxRecDepth 100000 in
theorem yr7s_200 : j_code jP 61 200 = some (.arraylength) := rfl
set_option maxRecDepth 100000 in
theorem yr7s_201 : j_code jP 61 201 = some (.invokestatic 84) := rfl
set_option maxRecDepth 100000 in
theorem yr7s_204 : j_code jP 61 204 = some (.aload_n 1) := rfl
set_option maxRecDepth 100000 in
theorem yr7s_205 : j_code jP 61 205 = some (.getfield 45) := rfl
set_option maxRecDepth 100000 in
theorem yr7s_208 : j_code jP 61 208 = some (.iconst 0) := rfl
set_option maxRecDepth 100000 in
theorem yr7s_209 : j_code jP 61 209 = some (.aload_n 0) := rfl
set_option maxRecDepth 100000 in
theorem yr7s_210 : j_code jP 61 210 = some (.getfield 45) := rfl
set_option maxRecDepth 100000 in
theorem yr7s_213 : j_code jP 61 213 = some (.iconst 0) := rfl
set_option maxRecDepth 100000 in
theorem yr7s_214 : j_code jP 61 214 = some (.aload_n 0) := rfl
set_option maxRecDepth 100000 in
theorem yr7s_215 : j_code jP 61 215 = some (.getfield 45) := rfl
set_option maxRecDepth 100000 in
theorem yr7s_218 : j_code jP 61 218 = some (.arraylength) := rfl
set_option maxRecDepth 100000 in
theorem yr7s_219 : j_code jP 61 219 = some (.invokestatic 84) := rfl
set_option maxRecDepth 100000 in
theorem yr7s_222 : j_code jP 61 222 = some (.aload_n 0) := rfl
set_option maxRecDepth 100000 in
theorem yr7s_223 : j_code jP 61 223 = some (.getfield 60) := rfl
set_option maxRecDepth 100000 in
theorem yr7s_226 : j_code jP 61 226 = some (.aload_n 1) := rfl
set_option maxRecDepth 100000 in
theorem yr7s_227 : j_code jP 61 227 = some (.getfield 60) := rfl
set_option maxRecDepth 100000 in
theorem yr7s_230 : j_code jP 61 230 = some (.invokevirtual 108) := rfl
set_option maxRecDepth 100000 in
theorem yr7s_233 : j_code jP 61 233 = some (.return_) := rfl
set_option maxRecDepth 1000000 in
theorem yr7s_k0 {ly : Value} {mi : Int32} {shu : Int32} {bus : Int32} {lks : Int32} {lys : Nat} {mis : Int32} {shus : Int32} {buss : Int32} {lkss : Int32} {d : Nat} {lv : J_L} {h h0 : J_H} {Q : Option Value → J_H → Prop} (L : LK lv [(0, .ref 206), (1, .ref 4)]) (K : KN h [(4, .inl (7, [.ref lys, .int mis, .int shus, .int buss, .ref 5, .ref 6, .ref 7, .ref 8, .ref 9, .ref 10, .ref 11, .ref 12, .ref 13, .ref 14, .ref 15, .int lkss, .ref 16, .ref 17, .ref 20])), (206, .inl (7, [ly, .int mi, .int shu, .int bus, .ref 207, .ref 208, .ref 209, .ref 210, .ref 211, .ref 212, .ref 213, .ref 214, .ref 215, .ref 216, .ref 217, .int lks, .ref 218, .ref 219, .ref 222]))] h0) (kk : ∀ lv h, LK lv [(0, .ref 206), (1, .ref 4)] → KN h [(4, .inl (7, [.ref lys, .int mis, .int shus, .int buss, .ref 5, .ref 6, .ref 7, .ref 8, .ref 9, .ref 10, .ref 11, .ref 12, .ref 13, .ref 14, .ref 15, .int lkss, .ref 16, .ref 17, .ref 20])), (206, .inl (7, [.ref lys, .int mis, .int shus, .int buss, .ref 207, .ref 208, .ref 209, .ref 210, .ref 211, .ref 212, .ref 213, .ref 214, .ref 215, .ref 216, .ref 217, .int lkss, .ref 218, .ref 219, .ref 222]))] h0 → j_V jP d 61 40 lv [] h Q) : j_V jP d 61 0 lv [] h Q := by
  refine j_V.ldL yr7s_M yr7s_0 rfl (i := 0) (kd := 2) (v := .ref 206) (pcJ := 1) rfl L rfl rfl rfl ?_
  refine j_V.ldL yr7s_M yr7s_1 rfl (i := 1) (kd := 2) (v := .ref 4) (pcJ := 2) rfl L rfl rfl rfl ?_
  refine j_V.getK yr7s_M yr7s_2 (ci := 7) (j := 0) rfl K rfl rfl ?_
  refine j_V.putK yr7s_M yr7s_5 (ci := 7) (j := 0) (k' := [(4, .inl (7, [.ref lys, .int mis, .int shus, .int buss, .ref 5, .ref 6, .ref 7, .ref 8, .ref 9, .ref 10, .ref 11, .ref 12, .ref 13, .ref 14, .ref 15, .int lkss, .ref 16, .ref 17, .ref 20])), (206, .inl (7, [.ref lys, .int mi, .int shu, .int bus, .ref 207, .ref 208, .ref 209, .ref 210, .ref 211, .ref 212, .ref 213, .ref 214, .ref 215, .ref 216, .ref 217, .int lks, .ref 218, .ref 219, .ref 222]))]) rfl K rfl (Nat.le_of_ble_eq_true rfl) rfl (Or.inl rfl) rfl rfl (fun h K => ?_)
  refine j_V.ldL yr7s_M yr7s_8 rfl (i := 0) (kd := 2) (v := .ref 206) (pcJ := 9) rfl L rfl rfl rfl ?_
  refine j_V.ldL yr7s_M yr7s_9 rfl (i := 1) (kd := 2) (v := .ref 4) (pcJ := 10) rfl L rfl rfl rfl ?_
  refine j_V.getK yr7s_M yr7s_10 (ci := 7) (j := 1) rfl K rfl rfl ?_
  refine j_V.putK yr7s_M yr7s_13 (ci := 7) (j := 1) (k' := [(4, .inl (7, [.ref lys, .int mis, .int shus, .int buss, .ref 5, .ref 6, .ref 7, .ref 8, .ref 9, .ref 10, .ref 11, .ref 12, .ref 13, .ref 14, .ref 15, .int lkss, .ref 16, .ref 17, .ref 20])), (206, .inl (7, [.ref lys, .int mis, .int shu, .int bus, .ref 207, .ref 208, .ref 209, .ref 210, .ref 211, .ref 212, .ref 213, .ref 214, .ref 215, .ref 216, .ref 217, .int lks, .ref 218, .ref 219, .ref 222]))]) rfl K rfl (Nat.le_of_ble_eq_true rfl) rfl (Or.inl rfl) rfl rfl (fun h K => ?_)
  refine j_V.ldL yr7s_M yr7s_16 rfl (i := 0) (kd := 2) (v := .ref 206) (pcJ := 17) rfl L rfl rfl rfl ?_
  refine j_V.ldL yr7s_M yr7s_17 rfl (i := 1) (kd := 2) (v := .ref 4) (pcJ := 18) rfl L rfl rfl rfl ?_
  refine j_V.getK yr7s_M yr7s_18 (ci := 7) (j := 2) rfl K rfl rfl ?_
  refine j_V.putK yr7s_M yr7s_21 (ci := 7) (j := 2) (k' := [(4, .inl (7, [.ref lys, .int mis, .int shus, .int buss, .ref 5, .ref 6, .ref 7, .ref 8, .ref 9, .ref 10, .ref 11, .ref 12, .ref 13, .ref 14, .ref 15, .int lkss, .ref 16, .ref 17, .ref 20])), (206, .inl (7, [.ref lys, .int mis, .int shus, .int bus, .ref 207, .ref 208, .ref 209, .ref 210, .ref 211, .ref 212, .ref 213, .ref 214, .ref 215, .ref 216, .ref 217, .int lks, .ref 218, .ref 219, .ref 222]))]) rfl K rfl (Nat.le_of_ble_eq_true rfl) rfl (Or.inl rfl) rfl rfl (fun h K => ?_)
  refine j_V.ldL yr7s_M yr7s_24 rfl (i := 0) (kd := 2) (v := .ref 206) (pcJ := 25) rfl L rfl rfl rfl ?_
  refine j_V.ldL yr7s_M yr7s_25 rfl (i := 1) (kd := 2) (v := .ref 4) (pcJ := 26) rfl L rfl rfl rfl ?_
  refine j_V.getK yr7s_M yr7s_26 (ci := 7) (j := 3) rfl K rfl rfl ?_
  refine j_V.putK yr7s_M yr7s_29 (ci := 7) (j := 3) (k' := [(4, .inl (7, [.ref lys, .int mis, .int shus, .int buss, .ref 5, .ref 6, .ref 7, .ref 8, .ref 9, .ref 10, .ref 11, .ref 12, .ref 13, .ref 14, .ref 15, .int lkss, .ref 16, .ref 17, .ref 20])), (206, .inl (7, [.ref lys, .int mis, .int shus, .int buss, .ref 207, .ref 208, .ref 209, .ref 210, .ref 211, .ref 212, .ref 213, .ref 214, .ref 215, .ref 216, .ref 217, .int lks, .ref 218, .ref 219, .ref 222]))]) rfl K rfl (Nat.le_of_ble_eq_true rfl) rfl (Or.inl rfl) rfl rfl (fun h K => ?_)
  refine j_V.ldL yr7s_M yr7s_32 rfl (i := 0) (kd := 2) (v := .ref 206) (pcJ := 33) rfl L rfl rfl rfl ?_
  refine j_V.ldL yr7s_M yr7s_33 rfl (i := 1) (kd := 2) (v := .ref 4) (pcJ := 34) rfl L rfl rfl rfl ?_
  refine j_V.getK yr7s_M yr7s_34 (ci := 7) (j := 15) rfl K rfl rfl ?_
  refine j_V.putK yr7s_M yr7s_37 (ci := 7) (j := 15) (k' := [(4, .inl (7, [.ref lys, .int mis, .int shus, .int buss, .ref 5, .ref 6, .ref 7, .ref 8, .ref 9, .ref 10, .ref 11, .ref 12, .ref 13, .ref 14, .ref 15, .int lkss, .ref 16, .ref 17, .ref 20])), (206, .inl (7, [.ref lys, .int mis, .int shus, .int buss, .ref 207, .ref 208, .ref 209, .ref 210, .ref 211, .ref 212, .ref 213, .ref 214, .ref 215, .ref 216, .ref 217, .int lkss, .ref 218, .ref 219, .ref 222]))]) rfl K rfl (Nat.le_of_ble_eq_true rfl) rfl (Or.inl rfl) rfl rfl (fun h K => ?_)
  exact kk _ _ L K
set_option maxRecDepth 1000000 in
theorem yr7s_k40 {rk : List Int32} {sta : List Int32} {ph : List Int32} {lys : Nat} {mis : Int32} {shus : Int32} {buss : Int32} {lkss : Int32} {rks : List Int32} {stas : List Int32} {phs : List Int32} {d : Nat} {lv : J_L} {h h0 : J_H} {Q : Option Value → J_H → Prop} (L : LK lv [(0, .ref 206), (1, .ref 4)]) (K : KN h [(4, .inl (7, [.ref lys, .int mis, .int shus, .int buss, .ref 5, .ref 6, .ref 7, .ref 8, .ref 9, .ref 10, .ref 11, .ref 12, .ref 13, .ref 14, .ref 15, .int lkss, .ref 16, .ref 17, .ref 20])), (5, .inr (.inl (0, rks))), (6, .inr (.inl (0, stas))), (7, .inr (.inl (0, phs))), (206, .inl (7, [.ref lys, .int mis, .int shus, .int buss, .ref 207, .ref 208, .ref 209, .ref 210, .ref 211, .ref 212, .ref 213, .ref 214, .ref 215, .ref 216, .ref 217, .int lkss, .ref 218, .ref 219, .ref 222])), (207, .inr (.inl (0, rk))), (208, .inr (.inl (0, sta))), (209, .inr (.inl (0, ph)))] h0) (kk : ∀ lv h, LK lv [(0, .ref 206), (1, .ref 4)] → KN h [(4, .inl (7, [.ref lys, .int mis, .int shus, .int buss, .ref 5, .ref 6, .ref 7, .ref 8, .ref 9, .ref 10, .ref 11, .ref 12, .ref 13, .ref 14, .ref 15, .int lkss, .ref 16, .ref 17, .ref 20])), (5, .inr (.inl (0, rks))), (6, .inr (.inl (0, stas))), (7, .inr (.inl (0, phs))), (206, .inl (7, [.ref lys, .int mis, .int shus, .int buss, .ref 207, .ref 208, .ref 209, .ref 210, .ref 211, .ref 212, .ref 213, .ref 214, .ref 215, .ref 216, .ref 217, .int lkss, .ref 218, .ref 219, .ref 222])), (207, .inr (.inl (0, (aC 5 rks rk)))), (208, .inr (.inl (0, (aC 5 stas sta)))), (209, .inr (.inl (0, (aC 5 phs ph))))] h0 → j_V jP d 61 82 lv [] h Q) : j_V jP d 61 40 lv [] h Q := by
  refine j_V.ldL yr7s_M yr7s_40 rfl (i := 1) (kd := 2) (v := .ref 4) (pcJ := 41) rfl L rfl rfl rfl ?_
  refine j_V.getK yr7s_M yr7s_41 (ci := 7) (j := 4) rfl K rfl rfl ?_
  refine j_V.one yr7s_M yr7s_44 (by decide) (pcJ := 45) (stJ := [.int 0, .ref 5]) rfl ?_
  refine j_V.ldL yr7s_M yr7s_45 rfl (i := 0) (kd := 2) (v := .ref 206) (pcJ := 46) rfl L rfl rfl rfl ?_
  refine j_V.getK yr7s_M yr7s_46 (ci := 7) (j := 4) rfl K rfl rfl ?_
  refine j_V.one yr7s_M yr7s_49 (by decide) (pcJ := 50) (stJ := [.int 0, .ref 207, .int 0, .ref 5]) rfl ?_
  refine j_V.one yr7s_M yr7s_50 (by decide) (pcJ := 51) (stJ := [.int 5, .int 0, .ref 207, .int 0, .ref 5]) rfl ?_
  refine j_V.acp yr7s_M yr7s_51 rfl rfl K rfl rfl rfl (fun h K => ?_)
  refine j_V.ldL yr7s_M yr7s_54 rfl (i := 1) (kd := 2) (v := .ref 4) (pcJ := 55) rfl L rfl rfl rfl ?_
  refine j_V.getK yr7s_M yr7s_55 (ci := 7) (j := 5) rfl K rfl rfl ?_
  refine j_V.one yr7s_M yr7s_58 (by decide) (pcJ := 59) (stJ := [.int 0, .ref 6]) rfl ?_
  refine j_V.ldL yr7s_M yr7s_59 rfl (i := 0) (kd := 2) (v := .ref 206) (pcJ := 60) rfl L rfl rfl rfl ?_
  refine j_V.getK yr7s_M yr7s_60 (ci := 7) (j := 5) rfl K rfl rfl ?_
  refine j_V.one yr7s_M yr7s_63 (by decide) (pcJ := 64) (stJ := [.int 0, .ref 208, .int 0, .ref 6]) rfl ?_
  refine j_V.one yr7s_M yr7s_64 (by decide) (pcJ := 65) (stJ := [.int 5, .int 0, .ref 208, .int 0, .ref 6]) rfl ?_
  refine j_V.acp yr7s_M yr7s_65 rfl rfl K rfl rfl rfl (fun h K => ?_)
  refine j_V.ldL yr7s_M yr7s_68 rfl (i := 1) (kd := 2) (v := .ref 4) (pcJ := 69) rfl L rfl rfl rfl ?_
  refine j_V.getK yr7s_M yr7s_69 (ci := 7) (j := 6) rfl K rfl rfl ?_
  refine j_V.one yr7s_M yr7s_72 (by decide) (pcJ := 73) (stJ := [.int 0, .ref 7]) rfl ?_
  refine j_V.ldL yr7s_M yr7s_73 rfl (i := 0) (kd := 2) (v := .ref 206) (pcJ := 74) rfl L rfl rfl rfl ?_
  refine j_V.getK yr7s_M yr7s_74 (ci := 7) (j := 6) rfl K rfl rfl ?_
  refine j_V.one yr7s_M yr7s_77 (by decide) (pcJ := 78) (stJ := [.int 0, .ref 209, .int 0, .ref 7]) rfl ?_
  refine j_V.one yr7s_M yr7s_78 (by decide) (pcJ := 79) (stJ := [.int 5, .int 0, .ref 209, .int 0, .ref 7]) rfl ?_
  refine j_V.acp yr7s_M yr7s_79 rfl rfl K rfl rfl rfl (fun h K => ?_)
  exact kk _ _ L K
set_option maxRecDepth 1000000 in
theorem yr7s_k82 {sp : List Int32} {ce : List Int32} {du : List Int32} {lys : Nat} {mis : Int32} {shus : Int32} {buss : Int32} {lkss : Int32} {sps : List Int32} {ces : List Int32} {dus : List Int32} {d : Nat} {lv : J_L} {h h0 : J_H} {Q : Option Value → J_H → Prop} (L : LK lv [(0, .ref 206), (1, .ref 4)]) (K : KN h [(4, .inl (7, [.ref lys, .int mis, .int shus, .int buss, .ref 5, .ref 6, .ref 7, .ref 8, .ref 9, .ref 10, .ref 11, .ref 12, .ref 13, .ref 14, .ref 15, .int lkss, .ref 16, .ref 17, .ref 20])), (8, .inr (.inl (0, sps))), (9, .inr (.inl (0, ces))), (10, .inr (.inl (0, dus))), (206, .inl (7, [.ref lys, .int mis, .int shus, .int buss, .ref 207, .ref 208, .ref 209, .ref 210, .ref 211, .ref 212, .ref 213, .ref 214, .ref 215, .ref 216, .ref 217, .int lkss, .ref 218, .ref 219, .ref 222])), (210, .inr (.inl (0, sp))), (211, .inr (.inl (0, ce))), (212, .inr (.inl (0, du)))] h0) (kk : ∀ lv h, LK lv [(0, .ref 206), (1, .ref 4)] → KN h [(4, .inl (7, [.ref lys, .int mis, .int shus, .int buss, .ref 5, .ref 6, .ref 7, .ref 8, .ref 9, .ref 10, .ref 11, .ref 12, .ref 13, .ref 14, .ref 15, .int lkss, .ref 16, .ref 17, .ref 20])), (8, .inr (.inl (0, sps))), (9, .inr (.inl (0, ces))), (10, .inr (.inl (0, dus))), (206, .inl (7, [.ref lys, .int mis, .int shus, .int buss, .ref 207, .ref 208, .ref 209, .ref 210, .ref 211, .ref 212, .ref 213, .ref 214, .ref 215, .ref 216, .ref 217, .int lkss, .ref 218, .ref 219, .ref 222])), (210, .inr (.inl (0, (aC 5 sps sp)))), (211, .inr (.inl (0, (aC 5 ces ce)))), (212, .inr (.inl (0, (aC 5 dus du))))] h0 → j_V jP d 61 124 lv [] h Q) : j_V jP d 61 82 lv [] h Q := by
  refine j_V.ldL yr7s_M yr7s_82 rfl (i := 1) (kd := 2) (v := .ref 4) (pcJ := 83) rfl L rfl rfl rfl ?_
  refine j_V.getK yr7s_M yr7s_83 (ci := 7) (j := 7) rfl K rfl rfl ?_
  refine j_V.one yr7s_M yr7s_86 (by decide) (pcJ := 87) (stJ := [.int 0, .ref 8]) rfl ?_
  refine j_V.ldL yr7s_M yr7s_87 rfl (i := 0) (kd := 2) (v := .ref 206) (pcJ := 88) rfl L rfl rfl rfl ?_
  refine j_V.getK yr7s_M yr7s_88 (ci := 7) (j := 7) rfl K rfl rfl ?_
  refine j_V.one yr7s_M yr7s_91 (by decide) (pcJ := 92) (stJ := [.int 0, .ref 210, .int 0, .ref 8]) rfl ?_
  refine j_V.one yr7s_M yr7s_92 (by decide) (pcJ := 93) (stJ := [.int 5, .int 0, .ref 210, .int 0, .ref 8]) rfl ?_
  refine j_V.acp yr7s_M yr7s_93 rfl rfl K rfl rfl rfl (fun h K => ?_)
  refine j_V.ldL yr7s_M yr7s_96 rfl (i := 1) (kd := 2) (v := .ref 4) (pcJ := 97) rfl L rfl rfl rfl ?_
  refine j_V.getK yr7s_M yr7s_97 (ci := 7) (j := 8) rfl K rfl rfl ?_
  refine j_V.one yr7s_M yr7s_100 (by decide) (pcJ := 101) (stJ := [.int 0, .ref 9]) rfl ?_
  refine j_V.ldL yr7s_M yr7s_101 rfl (i := 0) (kd := 2) (v := .ref 206) (pcJ := 102) rfl L rfl rfl rfl ?_
  refine j_V.getK yr7s_M yr7s_102 (ci := 7) (j := 8) rfl K rfl rfl ?_
  refine j_V.one yr7s_M yr7s_105 (by decide) (pcJ := 106) (stJ := [.int 0, .ref 211, .int 0, .ref 9]) rfl ?_
  refine j_V.one yr7s_M yr7s_106 (by decide) (pcJ := 107) (stJ := [.int 5, .int 0, .ref 211, .int 0, .ref 9]) rfl ?_
  refine j_V.acp yr7s_M yr7s_107 rfl rfl K rfl rfl rfl (fun h K => ?_)
  refine j_V.ldL yr7s_M yr7s_110 rfl (i := 1) (kd := 2) (v := .ref 4) (pcJ := 111) rfl L rfl rfl rfl ?_
  refine j_V.getK yr7s_M yr7s_111 (ci := 7) (j := 9) rfl K rfl rfl ?_
  refine j_V.one yr7s_M yr7s_114 (by decide) (pcJ := 115) (stJ := [.int 0, .ref 10]) rfl ?_
  refine j_V.ldL yr7s_M yr7s_115 rfl (i := 0) (kd := 2) (v := .ref 206) (pcJ := 116) rfl L rfl rfl rfl ?_
  refine j_V.getK yr7s_M yr7s_116 (ci := 7) (j := 9) rfl K rfl rfl ?_
  refine j_V.one yr7s_M yr7s_119 (by decide) (pcJ := 120) (stJ := [.int 0, .ref 212, .int 0, .ref 10]) rfl ?_
  refine j_V.one yr7s_M yr7s_120 (by decide) (pcJ := 121) (stJ := [.int 5, .int 0, .ref 212, .int 0, .ref 10]) rfl ?_
  refine j_V.acp yr7s_M yr7s_121 rfl rfl K rfl rfl rfl (fun h K => ?_)
  exact kk _ _ L K
set_option maxRecDepth 1000000 in
theorem yr7s_k124 {he : List Int32} {ri : List Int32} {us : List Int32} {lys : Nat} {mis : Int32} {shus : Int32} {buss : Int32} {lkss : Int32} {hes : List Int32} {ris : List Int32} {uss : List Int32} {d : Nat} {lv : J_L} {h h0 : J_H} {Q : Option Value → J_H → Prop} (L : LK lv [(0, .ref 206), (1, .ref 4)]) (K : KN h [(4, .inl (7, [.ref lys, .int mis, .int shus, .int buss, .ref 5, .ref 6, .ref 7, .ref 8, .ref 9, .ref 10, .ref 11, .ref 12, .ref 13, .ref 14, .ref 15, .int lkss, .ref 16, .ref 17, .ref 20])), (11, .inr (.inl (0, hes))), (12, .inr (.inl (0, ris))), (13, .inr (.inl (0, uss))), (206, .inl (7, [.ref lys, .int mis, .int shus, .int buss, .ref 207, .ref 208, .ref 209, .ref 210, .ref 211, .ref 212, .ref 213, .ref 214, .ref 215, .ref 216, .ref 217, .int lkss, .ref 218, .ref 219, .ref 222])), (213, .inr (.inl (0, he))), (214, .inr (.inl (0, ri))), (215, .inr (.inl (0, us)))] h0) (kk : ∀ lv h, LK lv [(0, .ref 206), (1, .ref 4)] → KN h [(4, .inl (7, [.ref lys, .int mis, .int shus, .int buss, .ref 5, .ref 6, .ref 7, .ref 8, .ref 9, .ref 10, .ref 11, .ref 12, .ref 13, .ref 14, .ref 15, .int lkss, .ref 16, .ref 17, .ref 20])), (11, .inr (.inl (0, hes))), (12, .inr (.inl (0, ris))), (13, .inr (.inl (0, uss))), (206, .inl (7, [.ref lys, .int mis, .int shus, .int buss, .ref 207, .ref 208, .ref 209, .ref 210, .ref 211, .ref 212, .ref 213, .ref 214, .ref 215, .ref 216, .ref 217, .int lkss, .ref 218, .ref 219, .ref 222])), (213, .inr (.inl (0, (aC 5 hes he)))), (214, .inr (.inl (0, (aC 6 ris ri)))), (215, .inr (.inl (0, (aC 6 uss us))))] h0 → j_V jP d 61 168 lv [] h Q) : j_V jP d 61 124 lv [] h Q := by
  refine j_V.ldL yr7s_M yr7s_124 rfl (i := 1) (kd := 2) (v := .ref 4) (pcJ := 125) rfl L rfl rfl rfl ?_
  refine j_V.getK yr7s_M yr7s_125 (ci := 7) (j := 10) rfl K rfl rfl ?_
  refine j_V.one yr7s_M yr7s_128 (by decide) (pcJ := 129) (stJ := [.int 0, .ref 11]) rfl ?_
  refine j_V.ldL yr7s_M yr7s_129 rfl (i := 0) (kd := 2) (v := .ref 206) (pcJ := 130) rfl L rfl rfl rfl ?_
  refine j_V.getK yr7s_M yr7s_130 (ci := 7) (j := 10) rfl K rfl rfl ?_
  refine j_V.one yr7s_M yr7s_133 (by decide) (pcJ := 134) (stJ := [.int 0, .ref 213, .int 0, .ref 11]) rfl ?_
  refine j_V.one yr7s_M yr7s_134 (by decide) (pcJ := 135) (stJ := [.int 5, .int 0, .ref 213, .int 0, .ref 11]) rfl ?_
  refine j_V.acp yr7s_M yr7s_135 rfl rfl K rfl rfl rfl (fun h K => ?_)
  refine j_V.ldL yr7s_M yr7s_138 rfl (i := 1) (kd := 2) (v := .ref 4) (pcJ := 139) rfl L rfl rfl rfl ?_
  refine j_V.getK yr7s_M yr7s_139 (ci := 7) (j := 11) rfl K rfl rfl ?_
  refine j_V.one yr7s_M yr7s_142 (by decide) (pcJ := 143) (stJ := [.int 0, .ref 12]) rfl ?_
  refine j_V.ldL yr7s_M yr7s_143 rfl (i := 0) (kd := 2) (v := .ref 206) (pcJ := 144) rfl L rfl rfl rfl ?_
  refine j_V.getK yr7s_M yr7s_144 (ci := 7) (j := 11) rfl K rfl rfl ?_
  refine j_V.one yr7s_M yr7s_147 (by decide) (pcJ := 148) (stJ := [.int 0, .ref 214, .int 0, .ref 12]) rfl ?_
  refine j_V.one yr7s_M yr7s_148 (by decide) (pcJ := 150) (stJ := [.int 6, .int 0, .ref 214, .int 0, .ref 12]) rfl ?_
  refine j_V.acp yr7s_M yr7s_150 rfl rfl K rfl rfl rfl (fun h K => ?_)
  refine j_V.ldL yr7s_M yr7s_153 rfl (i := 1) (kd := 2) (v := .ref 4) (pcJ := 154) rfl L rfl rfl rfl ?_
  refine j_V.getK yr7s_M yr7s_154 (ci := 7) (j := 12) rfl K rfl rfl ?_
  refine j_V.one yr7s_M yr7s_157 (by decide) (pcJ := 158) (stJ := [.int 0, .ref 13]) rfl ?_
  refine j_V.ldL yr7s_M yr7s_158 rfl (i := 0) (kd := 2) (v := .ref 206) (pcJ := 159) rfl L rfl rfl rfl ?_
  refine j_V.getK yr7s_M yr7s_159 (ci := 7) (j := 12) rfl K rfl rfl ?_
  refine j_V.one yr7s_M yr7s_162 (by decide) (pcJ := 163) (stJ := [.int 0, .ref 215, .int 0, .ref 13]) rfl ?_
  refine j_V.one yr7s_M yr7s_163 (by decide) (pcJ := 165) (stJ := [.int 6, .int 0, .ref 215, .int 0, .ref 13]) rfl ?_
  refine j_V.acp yr7s_M yr7s_165 rfl rfl K rfl rfl rfl (fun h K => ?_)
  exact kk _ _ L K
set_option maxRecDepth 1000000 in
theorem yr7s_k168 {cm : List Int32} {lf : List Int32} {lkd : List Int32} {lys : Nat} {mis : Int32} {shus : Int32} {buss : Int32} {lkss : Int32} {cms : List Int32} {lfs : List Int32} {lkds : List Int32} {d : Nat} {lv : J_L} {h h0 : J_H} {Q : Option Value → J_H → Prop} (L : LK lv [(0, .ref 206), (1, .ref 4)]) (K : KN h [(4, .inl (7, [.ref lys, .int mis, .int shus, .int buss, .ref 5, .ref 6, .ref 7, .ref 8, .ref 9, .ref 10, .ref 11, .ref 12, .ref 13, .ref 14, .ref 15, .int lkss, .ref 16, .ref 17, .ref 20])), (14, .inr (.inl (0, cms))), (15, .inr (.inl (0, lfs))), (16, .inr (.inl (0, lkds))), (206, .inl (7, [.ref lys, .int mis, .int shus, .int buss, .ref 207, .ref 208, .ref 209, .ref 210, .ref 211, .ref 212, .ref 213, .ref 214, .ref 215, .ref 216, .ref 217, .int lkss, .ref 218, .ref 219, .ref 222])), (216, .inr (.inl (0, cm))), (217, .inr (.inl (0, lf))), (218, .inr (.inl (0, lkd)))] h0) (kk : ∀ lv h, LK lv [(0, .ref 206), (1, .ref 4)] → KN h [(4, .inl (7, [.ref lys, .int mis, .int shus, .int buss, .ref 5, .ref 6, .ref 7, .ref 8, .ref 9, .ref 10, .ref 11, .ref 12, .ref 13, .ref 14, .ref 15, .int lkss, .ref 16, .ref 17, .ref 20])), (14, .inr (.inl (0, cms))), (15, .inr (.inl (0, lfs))), (16, .inr (.inl (0, lkds))), (206, .inl (7, [.ref lys, .int mis, .int shus, .int buss, .ref 207, .ref 208, .ref 209, .ref 210, .ref 211, .ref 212, .ref 213, .ref 214, .ref 215, .ref 216, .ref 217, .int lkss, .ref 218, .ref 219, .ref 222])), (216, .inr (.inl (0, (aC (nI cm.length) cms cm)))), (217, .inr (.inl (0, (aC (nI lf.length) lfs lf)))), (218, .inr (.inl (0, (aC (nI lkd.length) lkds lkd))))] h0 → j_V jP d 61 222 lv [] h Q) : j_V jP d 61 168 lv [] h Q := by
  refine j_V.ldL yr7s_M yr7s_168 rfl (i := 1) (kd := 2) (v := .ref 4) (pcJ := 169) rfl L rfl rfl rfl ?_
  refine j_V.getK yr7s_M yr7s_169 (ci := 7) (j := 13) rfl K rfl rfl ?_
  refine j_V.one yr7s_M yr7s_172 (by decide) (pcJ := 173) (stJ := [.int 0, .ref 14]) rfl ?_
  refine j_V.ldL yr7s_M yr7s_173 rfl (i := 0) (kd := 2) (v := .ref 206) (pcJ := 174) rfl L rfl rfl rfl ?_
  refine j_V.getK yr7s_M yr7s_174 (ci := 7) (j := 13) rfl K rfl rfl ?_
  refine j_V.one yr7s_M yr7s_177 (by decide) (pcJ := 178) (stJ := [.int 0, .ref 216, .int 0, .ref 14]) rfl ?_
  refine j_V.ldL yr7s_M yr7s_178 rfl (i := 0) (kd := 2) (v := .ref 206) (pcJ := 179) rfl L rfl rfl rfl ?_
  refine j_V.getK yr7s_M yr7s_179 (ci := 7) (j := 13) rfl K rfl rfl ?_
  refine j_V.alnA yr7s_M yr7s_182 K rfl ?_
  refine j_V.acp yr7s_M yr7s_183 rfl rfl K rfl rfl rfl (fun h K => ?_)
  refine j_V.ldL yr7s_M yr7s_186 rfl (i := 1) (kd := 2) (v := .ref 4) (pcJ := 187) rfl L rfl rfl rfl ?_
  refine j_V.getK yr7s_M yr7s_187 (ci := 7) (j := 14) rfl K rfl rfl ?_
  refine j_V.one yr7s_M yr7s_190 (by decide) (pcJ := 191) (stJ := [.int 0, .ref 15]) rfl ?_
  refine j_V.ldL yr7s_M yr7s_191 rfl (i := 0) (kd := 2) (v := .ref 206) (pcJ := 192) rfl L rfl rfl rfl ?_
  refine j_V.getK yr7s_M yr7s_192 (ci := 7) (j := 14) rfl K rfl rfl ?_
  refine j_V.one yr7s_M yr7s_195 (by decide) (pcJ := 196) (stJ := [.int 0, .ref 217, .int 0, .ref 15]) rfl ?_
  refine j_V.ldL yr7s_M yr7s_196 rfl (i := 0) (kd := 2) (v := .ref 206) (pcJ := 197) rfl L rfl rfl rfl ?_
  refine j_V.getK yr7s_M yr7s_197 (ci := 7) (j := 14) rfl K rfl rfl ?_
  refine j_V.alnA yr7s_M yr7s_200 K rfl ?_
  refine j_V.acp yr7s_M yr7s_201 rfl rfl K rfl rfl rfl (fun h K => ?_)
  refine j_V.ldL yr7s_M yr7s_204 rfl (i := 1) (kd := 2) (v := .ref 4) (pcJ := 205) rfl L rfl rfl rfl ?_
  refine j_V.getK yr7s_M yr7s_205 (ci := 7) (j := 16) rfl K rfl rfl ?_
  refine j_V.one yr7s_M yr7s_208 (by decide) (pcJ := 209) (stJ := [.int 0, .ref 16]) rfl ?_
  refine j_V.ldL yr7s_M yr7s_209 rfl (i := 0) (kd := 2) (v := .ref 206) (pcJ := 210) rfl L rfl rfl rfl ?_
  refine j_V.getK yr7s_M yr7s_210 (ci := 7) (j := 16) rfl K rfl rfl ?_
  refine j_V.one yr7s_M yr7s_213 (by decide) (pcJ := 214) (stJ := [.int 0, .ref 218, .int 0, .ref 16]) rfl ?_
  refine j_V.ldL yr7s_M yr7s_214 rfl (i := 0) (kd := 2) (v := .ref 206) (pcJ := 215) rfl L rfl rfl rfl ?_
  refine j_V.getK yr7s_M yr7s_215 (ci := 7) (j := 16) rfl K rfl rfl ?_
  refine j_V.alnA yr7s_M yr7s_218 K rfl ?_
  refine j_V.acp yr7s_M yr7s_219 rfl rfl K rfl rfl rfl (fun h K => ?_)
  exact kk _ _ L K
set_option maxRecDepth 1000000 in
theorem yr7s_ok {ly : Value} {mi : Int32} {shu : Int32} {bus : Int32} {lks : Int32} {rk : List Int32} {sta : List Int32} {ph : List Int32} {sp : List Int32} {ce : List Int32} {du : List Int32} {he : List Int32} {ri : List Int32} {us : List Int32} {cm : List Int32} {lf : List Int32} {lkd : List Int32} {pev : Int32} {pms : List Int32} {pmm : List Int32} {pmt : List Int32} {pst : List Int32} {pwa : List Int32} {prs : List Int32} {prr : List Int32} {pfa : List Int32} {lys : Nat} {mis : Int32} {shus : Int32} {buss : Int32} {lkss : Int32} {rks : List Int32} {stas : List Int32} {phs : List Int32} {sps : List Int32} {ces : List Int32} {dus : List Int32} {hes : List Int32} {ris : List Int32} {uss : List Int32} {cms : List Int32} {lfs : List Int32} {lkds : List Int32} {pevs : Int32} {pmss : List Int32} {pmms : List Int32} {pmts : List Int32} {psts : List Int32} {pwas : List Int32} {prss : List Int32} {prrs : List Int32} {pfas : List Int32} {d : Nat} {h h0 : J_H} (K : KN h [(4, .inl (7, [.ref lys, .int mis, .int shus, .int buss, .ref 5, .ref 6, .ref 7, .ref 8, .ref 9, .ref 10, .ref 11, .ref 12, .ref 13, .ref 14, .ref 15, .int lkss, .ref 16, .ref 17, .ref 20])), (5, .inr (.inl (0, rks))), (6, .inr (.inl (0, stas))), (7, .inr (.inl (0, phs))), (8, .inr (.inl (0, sps))), (9, .inr (.inl (0, ces))), (10, .inr (.inl (0, dus))), (11, .inr (.inl (0, hes))), (12, .inr (.inl (0, ris))), (13, .inr (.inl (0, uss))), (14, .inr (.inl (0, cms))), (15, .inr (.inl (0, lfs))), (16, .inr (.inl (0, lkds))), (20, .inl (3, [.ref 21, .ref 22, .ref 23, .ref 24, .ref 25, .ref 26, .ref 27, .ref 28, .int pevs, .int 1])), (21, .inr (.inl (0, pmss))), (22, .inr (.inl (0, pmms))), (23, .inr (.inl (0, pmts))), (24, .inr (.inl (0, psts))), (25, .inr (.inl (0, pwas))), (26, .inr (.inl (0, prss))), (27, .inr (.inl (0, prrs))), (28, .inr (.inl (0, pfas))), (206, .inl (7, [ly, .int mi, .int shu, .int bus, .ref 207, .ref 208, .ref 209, .ref 210, .ref 211, .ref 212, .ref 213, .ref 214, .ref 215, .ref 216, .ref 217, .int lks, .ref 218, .ref 219, .ref 222])), (207, .inr (.inl (0, rk))), (208, .inr (.inl (0, sta))), (209, .inr (.inl (0, ph))), (210, .inr (.inl (0, sp))), (211, .inr (.inl (0, ce))), (212, .inr (.inl (0, du))), (213, .inr (.inl (0, he))), (214, .inr (.inl (0, ri))), (215, .inr (.inl (0, us))), (216, .inr (.inl (0, cm))), (217, .inr (.inl (0, lf))), (218, .inr (.inl (0, lkd))), (222, .inl (3, [.ref 223, .ref 224, .ref 225, .ref 226, .ref 227, .ref 228, .ref 229, .ref 230, .int pev, .int 1])), (223, .inr (.inl (0, pms))), (224, .inr (.inl (0, pmm))), (225, .inr (.inl (0, pmt))), (226, .inr (.inl (0, pst))), (227, .inr (.inl (0, pwa))), (228, .inr (.inl (0, prs))), (229, .inr (.inl (0, prr))), (230, .inr (.inl (0, pfa)))] h0) : j_V jP d 61 0 (lv_args 0 [.ref 206, .ref 4]) [] h (fun rv h' => rv = none ∧ KN h' [(4, .inl (7, [.ref lys, .int mis, .int shus, .int buss, .ref 5, .ref 6, .ref 7, .ref 8, .ref 9, .ref 10, .ref 11, .ref 12, .ref 13, .ref 14, .ref 15, .int lkss, .ref 16, .ref 17, .ref 20])), (5, .inr (.inl (0, rks))), (6, .inr (.inl (0, stas))), (7, .inr (.inl (0, phs))), (8, .inr (.inl (0, sps))), (9, .inr (.inl (0, ces))), (10, .inr (.inl (0, dus))), (11, .inr (.inl (0, hes))), (12, .inr (.inl (0, ris))), (13, .inr (.inl (0, uss))), (14, .inr (.inl (0, cms))), (15, .inr (.inl (0, lfs))), (16, .inr (.inl (0, lkds))), (20, .inl (3, [.ref 21, .ref 22, .ref 23, .ref 24, .ref 25, .ref 26, .ref 27, .ref 28, .int pevs, .int 1])), (21, .inr (.inl (0, pmss))), (22, .inr (.inl (0, pmms))), (23, .inr (.inl (0, pmts))), (24, .inr (.inl (0, psts))), (25, .inr (.inl (0, pwas))), (26, .inr (.inl (0, prss))), (27, .inr (.inl (0, prrs))), (28, .inr (.inl (0, pfas))), (206, .inl (7, [.ref lys, .int mis, .int shus, .int buss, .ref 207, .ref 208, .ref 209, .ref 210, .ref 211, .ref 212, .ref 213, .ref 214, .ref 215, .ref 216, .ref 217, .int lkss, .ref 218, .ref 219, .ref 222])), (207, .inr (.inl (0, (aC 5 rks rk)))), (208, .inr (.inl (0, (aC 5 stas sta)))), (209, .inr (.inl (0, (aC 5 phs ph)))), (210, .inr (.inl (0, (aC 5 sps sp)))), (211, .inr (.inl (0, (aC 5 ces ce)))), (212, .inr (.inl (0, (aC 5 dus du)))), (213, .inr (.inl (0, (aC 5 hes he)))), (214, .inr (.inl (0, (aC 6 ris ri)))), (215, .inr (.inl (0, (aC 6 uss us)))), (216, .inr (.inl (0, (aC (nI cm.length) cms cm)))), (217, .inr (.inl (0, (aC (nI lf.length) lfs lf)))), (218, .inr (.inl (0, (aC (nI lkd.length) lkds lkd)))), (222, .inl (3, [.ref 223, .ref 224, .ref 225, .ref 226, .ref 227, .ref 228, .ref 229, .ref 230, .int pevs, .int 1])), (223, .inr (.inl (0, (aC (nI pms.length) pmss pms)))), (224, .inr (.inl (0, (aC (nI pmm.length) pmms pmm)))), (225, .inr (.inl (0, (aC (nI pmt.length) pmts pmt)))), (226, .inr (.inl (0, (aC (nI pst.length) psts pst)))), (227, .inr (.inl (0, (aC (nI pwa.length) pwas pwa)))), (228, .inr (.inl (0, (aC (nI prs.length) prss prs)))), (229, .inr (.inl (0, (aC (nI prr.length) prrs prr)))), (230, .inr (.inl (0, (aC (nI pfa.length) pfas pfa))))] h0) := by
  show j_V jP d 61 0 [(0, .ref 206), (1, .ref 4)] [] h _
  obtain ⟨lv, elv, L⟩ : ∃ lv, lv = [(0, .ref 206), (1, .ref 4)] ∧ LK lv [(0, .ref 206), (1, .ref 4)] := ⟨_, rfl, LK.rf⟩
  rw [← elv]
  clear elv
  refine yr7s_k0 L (K.fi [4, 206] rfl rfl) (fun lv h9 L K9 => ?_)
  have K : KN h9 [(4, .inl (7, [.ref lys, .int mis, .int shus, .int buss, .ref 5, .ref 6, .ref 7, .ref 8, .ref 9, .ref 10, .ref 11, .ref 12, .ref 13, .ref 14, .ref 15, .int lkss, .ref 16, .ref 17, .ref 20])), (5, .inr (.inl (0, rks))), (6, .inr (.inl (0, stas))), (7, .inr (.inl (0, phs))), (8, .inr (.inl (0, sps))), (9, .inr (.inl (0, ces))), (10, .inr (.inl (0, dus))), (11, .inr (.inl (0, hes))), (12, .inr (.inl (0, ris))), (13, .inr (.inl (0, uss))), (14, .inr (.inl (0, cms))), (15, .inr (.inl (0, lfs))), (16, .inr (.inl (0, lkds))), (20, .inl (3, [.ref 21, .ref 22, .ref 23, .ref 24, .ref 25, .ref 26, .ref 27, .ref 28, .int pevs, .int 1])), (21, .inr (.inl (0, pmss))), (22, .inr (.inl (0, pmms))), (23, .inr (.inl (0, pmts))), (24, .inr (.inl (0, psts))), (25, .inr (.inl (0, pwas))), (26, .inr (.inl (0, prss))), (27, .inr (.inl (0, prrs))), (28, .inr (.inl (0, pfas))), (206, .inl (7, [.ref lys, .int mis, .int shus, .int buss, .ref 207, .ref 208, .ref 209, .ref 210, .ref 211, .ref 212, .ref 213, .ref 214, .ref 215, .ref 216, .ref 217, .int lkss, .ref 218, .ref 219, .ref 222])), (207, .inr (.inl (0, rk))), (208, .inr (.inl (0, sta))), (209, .inr (.inl (0, ph))), (210, .inr (.inl (0, sp))), (211, .inr (.inl (0, ce))), (212, .inr (.inl (0, du))), (213, .inr (.inl (0, he))), (214, .inr (.inl (0, ri))), (215, .inr (.inl (0, us))), (216, .inr (.inl (0, cm))), (217, .inr (.inl (0, lf))), (218, .inr (.inl (0, lkd))), (222, .inl (3, [.ref 223, .ref 224, .ref 225, .ref 226, .ref 227, .ref 228, .ref 229, .ref 230, .int pev, .int 1])), (223, .inr (.inl (0, pms))), (224, .inr (.inl (0, pmm))), (225, .inr (.inl (0, pmt))), (226, .inr (.inl (0, pst))), (227, .inr (.inl (0, pwa))), (228, .inr (.inl (0, prs))), (229, .inr (.inl (0, prr))), (230, .inr (.inl (0, pfa)))] h0 := K.mg K9 rfl rfl
  clear K9
  refine yr7s_k40 L (K.fi [4, 5, 6, 7, 206, 207, 208, 209] rfl rfl) (fun lv h9 L K9 => ?_)
  have K : KN h9 [(4, .inl (7, [.ref lys, .int mis, .int shus, .int buss, .ref 5, .ref 6, .ref 7, .ref 8, .ref 9, .ref 10, .ref 11, .ref 12, .ref 13, .ref 14, .ref 15, .int lkss, .ref 16, .ref 17, .ref 20])), (5, .inr (.inl (0, rks))), (6, .inr (.inl (0, stas))), (7, .inr (.inl (0, phs))), (8, .inr (.inl (0, sps))), (9, .inr (.inl (0, ces))), (10, .inr (.inl (0, dus))), (11, .inr (.inl (0, hes))), (12, .inr (.inl (0, ris))), (13, .inr (.inl (0, uss))), (14, .inr (.inl (0, cms))), (15, .inr (.inl (0, lfs))), (16, .inr (.inl (0, lkds))), (20, .inl (3, [.ref 21, .ref 22, .ref 23, .ref 24, .ref 25, .ref 26, .ref 27, .ref 28, .int pevs, .int 1])), (21, .inr (.inl (0, pmss))), (22, .inr (.inl (0, pmms))), (23, .inr (.inl (0, pmts))), (24, .inr (.inl (0, psts))), (25, .inr (.inl (0, pwas))), (26, .inr (.inl (0, prss))), (27, .inr (.inl (0, prrs))), (28, .inr (.inl (0, pfas))), (206, .inl (7, [.ref lys, .int mis, .int shus, .int buss, .ref 207, .ref 208, .ref 209, .ref 210, .ref 211, .ref 212, .ref 213, .ref 214, .ref 215, .ref 216, .ref 217, .int lkss, .ref 218, .ref 219, .ref 222])), (207, .inr (.inl (0, (aC 5 rks rk)))), (208, .inr (.inl (0, (aC 5 stas sta)))), (209, .inr (.inl (0, (aC 5 phs ph)))), (210, .inr (.inl (0, sp))), (211, .inr (.inl (0, ce))), (212, .inr (.inl (0, du))), (213, .inr (.inl (0, he))), (214, .inr (.inl (0, ri))), (215, .inr (.inl (0, us))), (216, .inr (.inl (0, cm))), (217, .inr (.inl (0, lf))), (218, .inr (.inl (0, lkd))), (222, .inl (3, [.ref 223, .ref 224, .ref 225, .ref 226, .ref 227, .ref 228, .ref 229, .ref 230, .int pev, .int 1])), (223, .inr (.inl (0, pms))), (224, .inr (.inl (0, pmm))), (225, .inr (.inl (0, pmt))), (226, .inr (.inl (0, pst))), (227, .inr (.inl (0, pwa))), (228, .inr (.inl (0, prs))), (229, .inr (.inl (0, prr))), (230, .inr (.inl (0, pfa)))] h0 := K.mg K9 rfl rfl
  clear K9
  refine yr7s_k82 L (K.fi [4, 8, 9, 10, 206, 210, 211, 212] rfl rfl) (fun lv h9 L K9 => ?_)
  have K : KN h9 [(4, .inl (7, [.ref lys, .int mis, .int shus, .int buss, .ref 5, .ref 6, .ref 7, .ref 8, .ref 9, .ref 10, .ref 11, .ref 12, .ref 13, .ref 14, .ref 15, .int lkss, .ref 16, .ref 17, .ref 20])), (5, .inr (.inl (0, rks))), (6, .inr (.inl (0, stas))), (7, .inr (.inl (0, phs))), (8, .inr (.inl (0, sps))), (9, .inr (.inl (0, ces))), (10, .inr (.inl (0, dus))), (11, .inr (.inl (0, hes))), (12, .inr (.inl (0, ris))), (13, .inr (.inl (0, uss))), (14, .inr (.inl (0, cms))), (15, .inr (.inl (0, lfs))), (16, .inr (.inl (0, lkds))), (20, .inl (3, [.ref 21, .ref 22, .ref 23, .ref 24, .ref 25, .ref 26, .ref 27, .ref 28, .int pevs, .int 1])), (21, .inr (.inl (0, pmss))), (22, .inr (.inl (0, pmms))), (23, .inr (.inl (0, pmts))), (24, .inr (.inl (0, psts))), (25, .inr (.inl (0, pwas))), (26, .inr (.inl (0, prss))), (27, .inr (.inl (0, prrs))), (28, .inr (.inl (0, pfas))), (206, .inl (7, [.ref lys, .int mis, .int shus, .int buss, .ref 207, .ref 208, .ref 209, .ref 210, .ref 211, .ref 212, .ref 213, .ref 214, .ref 215, .ref 216, .ref 217, .int lkss, .ref 218, .ref 219, .ref 222])), (207, .inr (.inl (0, (aC 5 rks rk)))), (208, .inr (.inl (0, (aC 5 stas sta)))), (209, .inr (.inl (0, (aC 5 phs ph)))), (210, .inr (.inl (0, (aC 5 sps sp)))), (211, .inr (.inl (0, (aC 5 ces ce)))), (212, .inr (.inl (0, (aC 5 dus du)))), (213, .inr (.inl (0, he))), (214, .inr (.inl (0, ri))), (215, .inr (.inl (0, us))), (216, .inr (.inl (0, cm))), (217, .inr (.inl (0, lf))), (218, .inr (.inl (0, lkd))), (222, .inl (3, [.ref 223, .ref 224, .ref 225, .ref 226, .ref 227, .ref 228, .ref 229, .ref 230, .int pev, .int 1])), (223, .inr (.inl (0, pms))), (224, .inr (.inl (0, pmm))), (225, .inr (.inl (0, pmt))), (226, .inr (.inl (0, pst))), (227, .inr (.inl (0, pwa))), (228, .inr (.inl (0, prs))), (229, .inr (.inl (0, prr))), (230, .inr (.inl (0, pfa)))] h0 := K.mg K9 rfl rfl
  clear K9
  refine yr7s_k124 L (K.fi [4, 11, 12, 13, 206, 213, 214, 215] rfl rfl) (fun lv h9 L K9 => ?_)
  have K : KN h9 [(4, .inl (7, [.ref lys, .int mis, .int shus, .int buss, .ref 5, .ref 6, .ref 7, .ref 8, .ref 9, .ref 10, .ref 11, .ref 12, .ref 13, .ref 14, .ref 15, .int lkss, .ref 16, .ref 17, .ref 20])), (5, .inr (.inl (0, rks))), (6, .inr (.inl (0, stas))), (7, .inr (.inl (0, phs))), (8, .inr (.inl (0, sps))), (9, .inr (.inl (0, ces))), (10, .inr (.inl (0, dus))), (11, .inr (.inl (0, hes))), (12, .inr (.inl (0, ris))), (13, .inr (.inl (0, uss))), (14, .inr (.inl (0, cms))), (15, .inr (.inl (0, lfs))), (16, .inr (.inl (0, lkds))), (20, .inl (3, [.ref 21, .ref 22, .ref 23, .ref 24, .ref 25, .ref 26, .ref 27, .ref 28, .int pevs, .int 1])), (21, .inr (.inl (0, pmss))), (22, .inr (.inl (0, pmms))), (23, .inr (.inl (0, pmts))), (24, .inr (.inl (0, psts))), (25, .inr (.inl (0, pwas))), (26, .inr (.inl (0, prss))), (27, .inr (.inl (0, prrs))), (28, .inr (.inl (0, pfas))), (206, .inl (7, [.ref lys, .int mis, .int shus, .int buss, .ref 207, .ref 208, .ref 209, .ref 210, .ref 211, .ref 212, .ref 213, .ref 214, .ref 215, .ref 216, .ref 217, .int lkss, .ref 218, .ref 219, .ref 222])), (207, .inr (.inl (0, (aC 5 rks rk)))), (208, .inr (.inl (0, (aC 5 stas sta)))), (209, .inr (.inl (0, (aC 5 phs ph)))), (210, .inr (.inl (0, (aC 5 sps sp)))), (211, .inr (.inl (0, (aC 5 ces ce)))), (212, .inr (.inl (0, (aC 5 dus du)))), (213, .inr (.inl (0, (aC 5 hes he)))), (214, .inr (.inl (0, (aC 6 ris ri)))), (215, .inr (.inl (0, (aC 6 uss us)))), (216, .inr (.inl (0, cm))), (217, .inr (.inl (0, lf))), (218, .inr (.inl (0, lkd))), (222, .inl (3, [.ref 223, .ref 224, .ref 225, .ref 226, .ref 227, .ref 228, .ref 229, .ref 230, .int pev, .int 1])), (223, .inr (.inl (0, pms))), (224, .inr (.inl (0, pmm))), (225, .inr (.inl (0, pmt))), (226, .inr (.inl (0, pst))), (227, .inr (.inl (0, pwa))), (228, .inr (.inl (0, prs))), (229, .inr (.inl (0, prr))), (230, .inr (.inl (0, pfa)))] h0 := K.mg K9 rfl rfl
  clear K9
  refine yr7s_k168 L (K.fi [4, 14, 15, 16, 206, 216, 217, 218] rfl rfl) (fun lv h9 L K9 => ?_)
  have K : KN h9 [(4, .inl (7, [.ref lys, .int mis, .int shus, .int buss, .ref 5, .ref 6, .ref 7, .ref 8, .ref 9, .ref 10, .ref 11, .ref 12, .ref 13, .ref 14, .ref 15, .int lkss, .ref 16, .ref 17, .ref 20])), (5, .inr (.inl (0, rks))), (6, .inr (.inl (0, stas))), (7, .inr (.inl (0, phs))), (8, .inr (.inl (0, sps))), (9, .inr (.inl (0, ces))), (10, .inr (.inl (0, dus))), (11, .inr (.inl (0, hes))), (12, .inr (.inl (0, ris))), (13, .inr (.inl (0, uss))), (14, .inr (.inl (0, cms))), (15, .inr (.inl (0, lfs))), (16, .inr (.inl (0, lkds))), (20, .inl (3, [.ref 21, .ref 22, .ref 23, .ref 24, .ref 25, .ref 26, .ref 27, .ref 28, .int pevs, .int 1])), (21, .inr (.inl (0, pmss))), (22, .inr (.inl (0, pmms))), (23, .inr (.inl (0, pmts))), (24, .inr (.inl (0, psts))), (25, .inr (.inl (0, pwas))), (26, .inr (.inl (0, prss))), (27, .inr (.inl (0, prrs))), (28, .inr (.inl (0, pfas))), (206, .inl (7, [.ref lys, .int mis, .int shus, .int buss, .ref 207, .ref 208, .ref 209, .ref 210, .ref 211, .ref 212, .ref 213, .ref 214, .ref 215, .ref 216, .ref 217, .int lkss, .ref 218, .ref 219, .ref 222])), (207, .inr (.inl (0, (aC 5 rks rk)))), (208, .inr (.inl (0, (aC 5 stas sta)))), (209, .inr (.inl (0, (aC 5 phs ph)))), (210, .inr (.inl (0, (aC 5 sps sp)))), (211, .inr (.inl (0, (aC 5 ces ce)))), (212, .inr (.inl (0, (aC 5 dus du)))), (213, .inr (.inl (0, (aC 5 hes he)))), (214, .inr (.inl (0, (aC 6 ris ri)))), (215, .inr (.inl (0, (aC 6 uss us)))), (216, .inr (.inl (0, (aC (nI cm.length) cms cm)))), (217, .inr (.inl (0, (aC (nI lf.length) lfs lf)))), (218, .inr (.inl (0, (aC (nI lkd.length) lkds lkd)))), (222, .inl (3, [.ref 223, .ref 224, .ref 225, .ref 226, .ref 227, .ref 228, .ref 229, .ref 230, .int pev, .int 1])), (223, .inr (.inl (0, pms))), (224, .inr (.inl (0, pmm))), (225, .inr (.inl (0, pmt))), (226, .inr (.inl (0, pst))), (227, .inr (.inl (0, pwa))), (228, .inr (.inl (0, prs))), (229, .inr (.inl (0, prr))), (230, .inr (.inl (0, pfa)))] h0 := K.mg K9 rfl rfl
  clear K9
  refine j_V.ldL yr7s_M yr7s_222 rfl (i := 0) (kd := 2) (v := .ref 206) (pcJ := 223) rfl L rfl rfl rfl ?_
  refine j_V.getK yr7s_M yr7s_223 (ci := 7) (j := 18) rfl K rfl rfl ?_
  refine j_V.ldL yr7s_M yr7s_226 rfl (i := 1) (kd := 2) (v := .ref 4) (pcJ := 227) rfl L rfl rfl rfl ?_
  refine j_V.getK yr7s_M yr7s_227 (ci := 7) (j := 18) rfl K rfl rfl ?_
  refine j_V.cl yr7s_M yr7s_230 rfl (md := 3) (mj := 28) rfl (by decide) yr7p_M (As := [.ref 222, .ref 20]) (rest := []) (jk_spl3 (K.at rfl) rfl rfl rfl (Nat.le_of_ble_eq_true rfl) (Nat.le_of_ble_eq_true rfl)) (fun d => yr7p_ok (K.fi [20, 21, 22, 23, 24, 25, 26, 27, 28, 222, 223, 224, 225, 226, 227, 228, 229, 230] rfl rfl)) ?_
  rintro r h9 ⟨rfl, K9⟩
  have K : KN h9 [(4, .inl (7, [.ref lys, .int mis, .int shus, .int buss, .ref 5, .ref 6, .ref 7, .ref 8, .ref 9, .ref 10, .ref 11, .ref 12, .ref 13, .ref 14, .ref 15, .int lkss, .ref 16, .ref 17, .ref 20])), (5, .inr (.inl (0, rks))), (6, .inr (.inl (0, stas))), (7, .inr (.inl (0, phs))), (8, .inr (.inl (0, sps))), (9, .inr (.inl (0, ces))), (10, .inr (.inl (0, dus))), (11, .inr (.inl (0, hes))), (12, .inr (.inl (0, ris))), (13, .inr (.inl (0, uss))), (14, .inr (.inl (0, cms))), (15, .inr (.inl (0, lfs))), (16, .inr (.inl (0, lkds))), (20, .inl (3, [.ref 21, .ref 22, .ref 23, .ref 24, .ref 25, .ref 26, .ref 27, .ref 28, .int pevs, .int 1])), (21, .inr (.inl (0, pmss))), (22, .inr (.inl (0, pmms))), (23, .inr (.inl (0, pmts))), (24, .inr (.inl (0, psts))), (25, .inr (.inl (0, pwas))), (26, .inr (.inl (0, prss))), (27, .inr (.inl (0, prrs))), (28, .inr (.inl (0, pfas))), (206, .inl (7, [.ref lys, .int mis, .int shus, .int buss, .ref 207, .ref 208, .ref 209, .ref 210, .ref 211, .ref 212, .ref 213, .ref 214, .ref 215, .ref 216, .ref 217, .int lkss, .ref 218, .ref 219, .ref 222])), (207, .inr (.inl (0, (aC 5 rks rk)))), (208, .inr (.inl (0, (aC 5 stas sta)))), (209, .inr (.inl (0, (aC 5 phs ph)))), (210, .inr (.inl (0, (aC 5 sps sp)))), (211, .inr (.inl (0, (aC 5 ces ce)))), (212, .inr (.inl (0, (aC 5 dus du)))), (213, .inr (.inl (0, (aC 5 hes he)))), (214, .inr (.inl (0, (aC 6 ris ri)))), (215, .inr (.inl (0, (aC 6 uss us)))), (216, .inr (.inl (0, (aC (nI cm.length) cms cm)))), (217, .inr (.inl (0, (aC (nI lf.length) lfs lf)))), (218, .inr (.inl (0, (aC (nI lkd.length) lkds lkd)))), (222, .inl (3, [.ref 223, .ref 224, .ref 225, .ref 226, .ref 227, .ref 228, .ref 229, .ref 230, .int pevs, .int 1])), (223, .inr (.inl (0, (aC (nI pms.length) pmss pms)))), (224, .inr (.inl (0, (aC (nI pmm.length) pmms pmm)))), (225, .inr (.inl (0, (aC (nI pmt.length) pmts pmt)))), (226, .inr (.inl (0, (aC (nI pst.length) psts pst)))), (227, .inr (.inl (0, (aC (nI pwa.length) pwas pwa)))), (228, .inr (.inl (0, (aC (nI prs.length) prss prs)))), (229, .inr (.inl (0, (aC (nI prr.length) prrs prr)))), (230, .inr (.inl (0, (aC (nI pfa.length) pfas pfa))))] h0 := K.mg K9 rfl rfl
  clear K9
  show j_V jP _ 61 233 lv [] h9 _
  exact j_V.ret yr7s_M yr7s_233 rfl rfl ⟨rfl, K⟩
set_option maxRecDepth 100000 in
theorem yr7m_M : j_meth jP 2 = some (yX0_remember, cX0_remember, 2, none, 1, false, 0) := rfl
set_option maxRecDepth 100000 in
theorem yr7m_0 : j_code jP 2 0 = some (.aload_n 0) := rfl
set_option maxRecDepth 100000 in
theorem yr7m_1 : j_code jP 2 1 = some (.getfield 11) := rfl
set_option maxRecDepth 100000 in
theorem yr7m_4 : j_code jP 2 4 = some (.aload_n 0) := rfl
set_option maxRecDepth 100000 in
theorem yr7m_5 : j_code jP 2 5 = some (.getfield 24) := rfl
set_option maxRecDepth 100000 in
theorem yr7m_8 : j_code jP 2 8 = some (.aaload) := rfl
set_option maxRecDepth 100000 in
theorem yr7m_9 : j_code jP 2 9 = some (.aload_n 1) := rfl
set_option maxRecDepth 100000 in
theorem yr7m_10 : j_code jP 2 10 = some (.invokevirtual 27) := rfl
set_option maxRecDepth 100000 in
theorem yr7m_13 : j_code jP 2 13 = some (.aload_n 0) := rfl
set_option maxRecDepth 100000 in
theorem yr7m_14 : j_code jP 2 14 = some (.aload_n 0) := rfl
set_option maxRecDepth 100000 in
theorem yr7m_15 : j_code jP 2 15 = some (.getfield 24) := rfl
set_option maxRecDepth 100000 in
theorem yr7m_18 : j_code jP 2 18 = some (.iconst 1) := rfl
set_option maxRecDepth 100000 in
theorem yr7m_19 : j_code jP 2 19 = some (.iadd) := rfl
set_option maxRecDepth 100000 in
theorem yr7m_20 : j_code jP 2 20 = some (.bipush 10) := rfl
set_option maxRecDepth 100000 in
theorem yr7m_22 : j_code jP 2 22 = some (.irem) := rfl
set_option maxRecDepth 100000 in
theorem yr7m_23 : j_code jP 2 23 = some (.putfield 24) := rfl
set_option maxRecDepth 100000 in
theorem yr7m_26 : j_code jP 2 26 = some (.aload_n 0) := rfl
set_option maxRecDepth 100000 in
theorem yr7m_27 : j_code jP 2 27 = some (.aload_n 0) := rfl
set_option maxRecDepth 100000 in
theorem yr7m_28 : j_code jP 2 28 = some (.getfield 20) := rfl
set_option maxRecDepth 100000 in
theorem yr7m_31 : j_code jP 2 31 = some (.iconst 1) := rfl
set_option maxRecDepth 100000 in
theorem yr7m_32 : j_code jP 2 32 = some (.iadd) := rfl
set_option maxRecDepth 100000 in
theorem yr7m_33 : j_code jP 2 33 = some (.bipush 10) := rfl
set_option maxRecDepth 100000 in
theorem yr7m_35 : j_code jP 2 35 = some (.invokestatic 31) := rfl
set_option maxRecDepth 100000 in
theorem yr7m_38 : j_code jP 2 38 = some (.putfield 20) := rfl
set_option maxRecDepth 100000 in
theorem yr7m_41 : j_code jP 2 41 = some (.return_) := rfl
set_option maxRecDepth 1000000 in
theorem yr7m_ok {ly : Value} {mi : Int32} {shu : Int32} {bus : Int32} {lks : Int32} {rk : List Int32} {sta : List Int32} {ph : List Int32} {sp : List Int32} {ce : List Int32} {du : List Int32} {he : List Int32} {ri : List Int32} {us : List Int32} {cm : List Int32} {lf : List Int32} {lkd : List Int32} {pev : Int32} {pms : List Int32} {pmm : List Int32} {pmt : List Int32} {pst : List Int32} {pwa : List Int32} {prs : List Int32} {prr : List Int32} {pfa : List Int32} {lys : Nat} {mis : Int32} {shus : Int32} {buss : Int32} {lkss : Int32} {rks : List Int32} {stas : List Int32} {phs : List Int32} {sps : List Int32} {ces : List Int32} {dus : List Int32} {hes : List Int32} {ris : List Int32} {uss : List Int32} {cms : List Int32} {lfs : List Int32} {lkds : List Int32} {pevs : Int32} {pmss : List Int32} {pmms : List Int32} {pmts : List Int32} {psts : List Int32} {pwas : List Int32} {prss : List Int32} {prrs : List Int32} {pfas : List Int32} {acco : Int32} {d : Nat} {h h0 : J_H} (K : KN h [(4, .inl (7, [.ref lys, .int mis, .int shus, .int buss, .ref 5, .ref 6, .ref 7, .ref 8, .ref 9, .ref 10, .ref 11, .ref 12, .ref 13, .ref 14, .ref 15, .int lkss, .ref 16, .ref 17, .ref 20])), (5, .inr (.inl (0, rks))), (6, .inr (.inl (0, stas))), (7, .inr (.inl (0, phs))), (8, .inr (.inl (0, sps))), (9, .inr (.inl (0, ces))), (10, .inr (.inl (0, dus))), (11, .inr (.inl (0, hes))), (12, .inr (.inl (0, ris))), (13, .inr (.inl (0, uss))), (14, .inr (.inl (0, cms))), (15, .inr (.inl (0, lfs))), (16, .inr (.inl (0, lkds))), (20, .inl (3, [.ref 21, .ref 22, .ref 23, .ref 24, .ref 25, .ref 26, .ref 27, .ref 28, .int pevs, .int 1])), (21, .inr (.inl (0, pmss))), (22, .inr (.inl (0, pmms))), (23, .inr (.inl (0, pmts))), (24, .inr (.inl (0, psts))), (25, .inr (.inl (0, pwas))), (26, .inr (.inl (0, prss))), (27, .inr (.inl (0, prrs))), (28, .inr (.inl (0, pfas))), (29, .inl (0, [.ref 30, .int 7, .int acco])), (30, .inr (.inr (.inr [some 31, some 56, some 81, some 106, some 131, some 156, some 181, some 206, some 231, some 256]))), (206, .inl (7, [ly, .int mi, .int shu, .int bus, .ref 207, .ref 208, .ref 209, .ref 210, .ref 211, .ref 212, .ref 213, .ref 214, .ref 215, .ref 216, .ref 217, .int lks, .ref 218, .ref 219, .ref 222])), (207, .inr (.inl (0, rk))), (208, .inr (.inl (0, sta))), (209, .inr (.inl (0, ph))), (210, .inr (.inl (0, sp))), (211, .inr (.inl (0, ce))), (212, .inr (.inl (0, du))), (213, .inr (.inl (0, he))), (214, .inr (.inl (0, ri))), (215, .inr (.inl (0, us))), (216, .inr (.inl (0, cm))), (217, .inr (.inl (0, lf))), (218, .inr (.inl (0, lkd))), (222, .inl (3, [.ref 223, .ref 224, .ref 225, .ref 226, .ref 227, .ref 228, .ref 229, .ref 230, .int pev, .int 1])), (223, .inr (.inl (0, pms))), (224, .inr (.inl (0, pmm))), (225, .inr (.inl (0, pmt))), (226, .inr (.inl (0, pst))), (227, .inr (.inl (0, pwa))), (228, .inr (.inl (0, prs))), (229, .inr (.inl (0, prr))), (230, .inr (.inl (0, pfa)))] h0) : j_V jP d 2 0 (lv_args 0 [.ref 29, .ref 4]) [] h (fun rv h' => rv = none ∧ KN h' [(4, .inl (7, [.ref lys, .int mis, .int shus, .int buss, .ref 5, .ref 6, .ref 7, .ref 8, .ref 9, .ref 10, .ref 11, .ref 12, .ref 13, .ref 14, .ref 15, .int lkss, .ref 16, .ref 17, .ref 20])), (5, .inr (.inl (0, rks))), (6, .inr (.inl (0, stas))), (7, .inr (.inl (0, phs))), (8, .inr (.inl (0, sps))), (9, .inr (.inl (0, ces))), (10, .inr (.inl (0, dus))), (11, .inr (.inl (0, hes))), (12, .inr (.inl (0, ris))), (13, .inr (.inl (0, uss))), (14, .inr (.inl (0, cms))), (15, .inr (.inl (0, lfs))), (16, .inr (.inl (0, lkds))), (20, .inl (3, [.ref 21, .ref 22, .ref 23, .ref 24, .ref 25, .ref 26, .ref 27, .ref 28, .int pevs, .int 1])), (21, .inr (.inl (0, pmss))), (22, .inr (.inl (0, pmms))), (23, .inr (.inl (0, pmts))), (24, .inr (.inl (0, psts))), (25, .inr (.inl (0, pwas))), (26, .inr (.inl (0, prss))), (27, .inr (.inl (0, prrs))), (28, .inr (.inl (0, pfas))), (29, .inl (0, [.ref 30, .int 8, .int (iMn (acco + 1) 10)])), (30, .inr (.inr (.inr [some 31, some 56, some 81, some 106, some 131, some 156, some 181, some 206, some 231, some 256]))), (206, .inl (7, [.ref lys, .int mis, .int shus, .int buss, .ref 207, .ref 208, .ref 209, .ref 210, .ref 211, .ref 212, .ref 213, .ref 214, .ref 215, .ref 216, .ref 217, .int lkss, .ref 218, .ref 219, .ref 222])), (207, .inr (.inl (0, (aC 5 rks rk)))), (208, .inr (.inl (0, (aC 5 stas sta)))), (209, .inr (.inl (0, (aC 5 phs ph)))), (210, .inr (.inl (0, (aC 5 sps sp)))), (211, .inr (.inl (0, (aC 5 ces ce)))), (212, .inr (.inl (0, (aC 5 dus du)))), (213, .inr (.inl (0, (aC 5 hes he)))), (214, .inr (.inl (0, (aC 6 ris ri)))), (215, .inr (.inl (0, (aC 6 uss us)))), (216, .inr (.inl (0, (aC (nI cm.length) cms cm)))), (217, .inr (.inl (0, (aC (nI lf.length) lfs lf)))), (218, .inr (.inl (0, (aC (nI lkd.length) lkds lkd)))), (222, .inl (3, [.ref 223, .ref 224, .ref 225, .ref 226, .ref 227, .ref 228, .ref 229, .ref 230, .int pevs, .int 1])), (223, .inr (.inl (0, (aC (nI pms.length) pmss pms)))), (224, .inr (.inl (0, (aC (nI pmm.length) pmms pmm)))), (225, .inr (.inl (0, (aC (nI pmt.length) pmts pmt)))), (226, .inr (.inl (0, (aC (nI pst.length) psts pst)))), (227, .inr (.inl (0, (aC (nI pwa.length) pwas pwa)))), (228, .inr (.inl (0, (aC (nI prs.length) prss prs)))), (229, .inr (.inl (0, (aC (nI prr.length) prrs prr)))), (230, .inr (.inl (0, (aC (nI pfa.length) pfas pfa))))] h0) := by
  show j_V jP d 2 0 [(0, .ref 29), (1, .ref 4)] [] h _
  obtain ⟨lv, elv, L⟩ : ∃ lv, lv = [(0, .ref 29), (1, .ref 4)] ∧ LK lv [(0, .ref 29), (1, .ref 4)] := ⟨_, rfl, LK.rf⟩
  rw [← elv]
  clear elv
  refine j_V.ldL yr7m_M yr7m_0 rfl (i := 0) (kd := 2) (v := .ref 29) (pcJ := 1) rfl L rfl rfl rfl ?_
  refine j_V.getK yr7m_M yr7m_1 (ci := 0) (j := 0) rfl K rfl rfl ?_
  refine j_V.ldL yr7m_M yr7m_4 rfl (i := 0) (kd := 2) (v := .ref 29) (pcJ := 5) rfl L rfl rfl rfl ?_
  refine j_V.getK yr7m_M yr7m_5 (ci := 0) (j := 1) rfl K rfl rfl ?_
  refine j_V.aaA yr7m_M yr7m_8 K rfl (i := 7) (v := 206) rfl rfl ?_
  refine j_V.ldL yr7m_M yr7m_9 rfl (i := 1) (kd := 2) (v := .ref 4) (pcJ := 10) rfl L rfl rfl rfl ?_
  refine j_V.cl yr7m_M yr7m_10 rfl (md := 3) (mj := 61) rfl (by decide) yr7s_M (As := [.ref 206, .ref 4]) (rest := []) (jk_spl3 (K.at rfl) rfl rfl rfl (Nat.le_of_ble_eq_true rfl) (Nat.le_of_ble_eq_true rfl)) (fun d => yr7s_ok (K.fi [4, 5, 6, 7, 8, 9, 10, 11, 12, 13, 14, 15, 16, 20, 21, 22, 23, 24, 25, 26, 27, 28, 206, 207, 208, 209, 210, 211, 212, 213, 214, 215, 216, 217, 218, 222, 223, 224, 225, 226, 227, 228, 229, 230] rfl rfl)) ?_
  rintro r h9 ⟨rfl, K9⟩
  have K : KN h9 [(4, .inl (7, [.ref lys, .int mis, .int shus, .int buss, .ref 5, .ref 6, .ref 7, .ref 8, .ref 9, .ref 10, .ref 11, .ref 12, .ref 13, .ref 14, .ref 15, .int lkss, .ref 16, .ref 17, .ref 20])), (5, .inr (.inl (0, rks))), (6, .inr (.inl (0, stas))), (7, .inr (.inl (0, phs))), (8, .inr (.inl (0, sps))), (9, .inr (.inl (0, ces))), (10, .inr (.inl (0, dus))), (11, .inr (.inl (0, hes))), (12, .inr (.inl (0, ris))), (13, .inr (.inl (0, uss))), (14, .inr (.inl (0, cms))), (15, .inr (.inl (0, lfs))), (16, .inr (.inl (0, lkds))), (20, .inl (3, [.ref 21, .ref 22, .ref 23, .ref 24, .ref 25, .ref 26, .ref 27, .ref 28, .int pevs, .int 1])), (21, .inr (.inl (0, pmss))), (22, .inr (.inl (0, pmms))), (23, .inr (.inl (0, pmts))), (24, .inr (.inl (0, psts))), (25, .inr (.inl (0, pwas))), (26, .inr (.inl (0, prss))), (27, .inr (.inl (0, prrs))), (28, .inr (.inl (0, pfas))), (29, .inl (0, [.ref 30, .int 7, .int acco])), (30, .inr (.inr (.inr [some 31, some 56, some 81, some 106, some 131, some 156, some 181, some 206, some 231, some 256]))), (206, .inl (7, [.ref lys, .int mis, .int shus, .int buss, .ref 207, .ref 208, .ref 209, .ref 210, .ref 211, .ref 212, .ref 213, .ref 214, .ref 215, .ref 216, .ref 217, .int lkss, .ref 218, .ref 219, .ref 222])), (207, .inr (.inl (0, (aC 5 rks rk)))), (208, .inr (.inl (0, (aC 5 stas sta)))), (209, .inr (.inl (0, (aC 5 phs ph)))), (210, .inr (.inl (0, (aC 5 sps sp)))), (211, .inr (.inl (0, (aC 5 ces ce)))), (212, .inr (.inl (0, (aC 5 dus du)))), (213, .inr (.inl (0, (aC 5 hes he)))), (214, .inr (.inl (0, (aC 6 ris ri)))), (215, .inr (.inl (0, (aC 6 uss us)))), (216, .inr (.inl (0, (aC (nI cm.length) cms cm)))), (217, .inr (.inl (0, (aC (nI lf.length) lfs lf)))), (218, .inr (.inl (0, (aC (nI lkd.length) lkds lkd)))), (222, .inl (3, [.ref 223, .ref 224, .ref 225, .ref 226, .ref 227, .ref 228, .ref 229, .ref 230, .int pevs, .int 1])), (223, .inr (.inl (0, (aC (nI pms.length) pmss pms)))), (224, .inr (.inl (0, (aC (nI pmm.length) pmms pmm)))), (225, .inr (.inl (0, (aC (nI pmt.length) pmts pmt)))), (226, .inr (.inl (0, (aC (nI pst.length) psts pst)))), (227, .inr (.inl (0, (aC (nI pwa.length) pwas pwa)))), (228, .inr (.inl (0, (aC (nI prs.length) prss prs)))), (229, .inr (.inl (0, (aC (nI prr.length) prrs prr)))), (230, .inr (.inl (0, (aC (nI pfa.length) pfas pfa))))] h0 := K.mg K9 rfl rfl
  clear K9
  show j_V jP _ 2 13 lv [] h9 _
  refine j_V.ldL yr7m_M yr7m_13 rfl (i := 0) (kd := 2) (v := .ref 29) (pcJ := 14) rfl L rfl rfl rfl ?_
  refine j_V.ldL yr7m_M yr7m_14 rfl (i := 0) (kd := 2) (v := .ref 29) (pcJ := 15) rfl L rfl rfl rfl ?_
  refine j_V.getK yr7m_M yr7m_15 (ci := 0) (j := 1) rfl K rfl rfl ?_
  refine j_V.one yr7m_M yr7m_18 (by decide) (pcJ := 19) (stJ := [.int 1, .int 7, .ref 29]) rfl ?_
  refine j_V.one yr7m_M yr7m_19 (by decide) (pcJ := 20) (stJ := [.int 8, .ref 29]) rfl ?_
  refine j_V.one yr7m_M yr7m_20 (by decide) (pcJ := 22) (stJ := [.int 10, .int 8, .ref 29]) rfl ?_
  refine j_V.one yr7m_M yr7m_22 (by decide) (pcJ := 23) (stJ := [.int 8, .ref 29]) rfl ?_
  refine j_V.putK yr7m_M yr7m_23 (ci := 0) (j := 1) (k' := [(4, .inl (7, [.ref lys, .int mis, .int shus, .int buss, .ref 5, .ref 6, .ref 7, .ref 8, .ref 9, .ref 10, .ref 11, .ref 12, .ref 13, .ref 14, .ref 15, .int lkss, .ref 16, .ref 17, .ref 20])), (5, .inr (.inl (0, rks))), (6, .inr (.inl (0, stas))), (7, .inr (.inl (0, phs))), (8, .inr (.inl (0, sps))), (9, .inr (.inl (0, ces))), (10, .inr (.inl (0, dus))), (11, .inr (.inl (0, hes))), (12, .inr (.inl (0, ris))), (13, .inr (.inl (0, uss))), (14, .inr (.inl (0, cms))), (15, .inr (.inl (0, lfs))), (16, .inr (.inl (0, lkds))), (20, .inl (3, [.ref 21, .ref 22, .ref 23, .ref 24, .ref 25, .ref 26, .ref 27, .ref 28, .int pevs, .int 1])), (21, .inr (.inl (0, pmss))), (22, .inr (.inl (0, pmms))), (23, .inr (.inl (0, pmts))), (24, .inr (.inl (0, psts))), (25, .inr (.inl (0, pwas))), (26, .inr (.inl (0, prss))), (27, .inr (.inl (0, prrs))), (28, .inr (.inl (0, pfas))), (29, .inl (0, [.ref 30, .int 8, .int acco])), (30, .inr (.inr (.inr [some 31, some 56, some 81, some 106, some 131, some 156, some 181, some 206, some 231, some 256]))), (206, .inl (7, [.ref lys, .int mis, .int shus, .int buss, .ref 207, .ref 208, .ref 209, .ref 210, .ref 211, .ref 212, .ref 213, .ref 214, .ref 215, .ref 216, .ref 217, .int lkss, .ref 218, .ref 219, .ref 222])), (207, .inr (.inl (0, (aC 5 rks rk)))), (208, .inr (.inl (0, (aC 5 stas sta)))), (209, .inr (.inl (0, (aC 5 phs ph)))), (210, .inr (.inl (0, (aC 5 sps sp)))), (211, .inr (.inl (0, (aC 5 ces ce)))), (212, .inr (.inl (0, (aC 5 dus du)))), (213, .inr (.inl (0, (aC 5 hes he)))), (214, .inr (.inl (0, (aC 6 ris ri)))), (215, .inr (.inl (0, (aC 6 uss us)))), (216, .inr (.inl (0, (aC (nI cm.length) cms cm)))), (217, .inr (.inl (0, (aC (nI lf.length) lfs lf)))), (218, .inr (.inl (0, (aC (nI lkd.length) lkds lkd)))), (222, .inl (3, [.ref 223, .ref 224, .ref 225, .ref 226, .ref 227, .ref 228, .ref 229, .ref 230, .int pevs, .int 1])), (223, .inr (.inl (0, (aC (nI pms.length) pmss pms)))), (224, .inr (.inl (0, (aC (nI pmm.length) pmms pmm)))), (225, .inr (.inl (0, (aC (nI pmt.length) pmts pmt)))), (226, .inr (.inl (0, (aC (nI pst.length) psts pst)))), (227, .inr (.inl (0, (aC (nI pwa.length) pwas pwa)))), (228, .inr (.inl (0, (aC (nI prs.length) prss prs)))), (229, .inr (.inl (0, (aC (nI prr.length) prrs prr)))), (230, .inr (.inl (0, (aC (nI pfa.length) pfas pfa))))]) rfl K rfl (Nat.le_of_ble_eq_true rfl) rfl (Or.inl rfl) rfl rfl (fun h K => ?_)
  refine j_V.ldL yr7m_M yr7m_26 rfl (i := 0) (kd := 2) (v := .ref 29) (pcJ := 27) rfl L rfl rfl rfl ?_
  refine j_V.ldL yr7m_M yr7m_27 rfl (i := 0) (kd := 2) (v := .ref 29) (pcJ := 28) rfl L rfl rfl rfl ?_
  refine j_V.getK yr7m_M yr7m_28 (ci := 0) (j := 2) rfl K rfl rfl ?_
  refine j_V.one yr7m_M yr7m_31 (by decide) (pcJ := 32) (stJ := [.int 1, .int acco, .ref 29]) rfl ?_
  refine j_V.one yr7m_M yr7m_32 (by decide) (pcJ := 33) (stJ := [.int (acco + 1), .ref 29]) rfl ?_
  refine j_V.one yr7m_M yr7m_33 (by decide) (pcJ := 35) (stJ := [.int 10, .int (acco + 1), .ref 29]) rfl ?_
  refine j_V.mn yr7m_M yr7m_35 rfl rfl (Nat.le_of_ble_eq_true rfl) ?_
  refine j_V.putK yr7m_M yr7m_38 (ci := 0) (j := 2) (k' := [(4, .inl (7, [.ref lys, .int mis, .int shus, .int buss, .ref 5, .ref 6, .ref 7, .ref 8, .ref 9, .ref 10, .ref 11, .ref 12, .ref 13, .ref 14, .ref 15, .int lkss, .ref 16, .ref 17, .ref 20])), (5, .inr (.inl (0, rks))), (6, .inr (.inl (0, stas))), (7, .inr (.inl (0, phs))), (8, .inr (.inl (0, sps))), (9, .inr (.inl (0, ces))), (10, .inr (.inl (0, dus))), (11, .inr (.inl (0, hes))), (12, .inr (.inl (0, ris))), (13, .inr (.inl (0, uss))), (14, .inr (.inl (0, cms))), (15, .inr (.inl (0, lfs))), (16, .inr (.inl (0, lkds))), (20, .inl (3, [.ref 21, .ref 22, .ref 23, .ref 24, .ref 25, .ref 26, .ref 27, .ref 28, .int pevs, .int 1])), (21, .inr (.inl (0, pmss))), (22, .inr (.inl (0, pmms))), (23, .inr (.inl (0, pmts))), (24, .inr (.inl (0, psts))), (25, .inr (.inl (0, pwas))), (26, .inr (.inl (0, prss))), (27, .inr (.inl (0, prrs))), (28, .inr (.inl (0, pfas))), (29, .inl (0, [.ref 30, .int 8, .int (iMn (acco + 1) 10)])), (30, .inr (.inr (.inr [some 31, some 56, some 81, some 106, some 131, some 156, some 181, some 206, some 231, some 256]))), (206, .inl (7, [.ref lys, .int mis, .int shus, .int buss, .ref 207, .ref 208, .ref 209, .ref 210, .ref 211, .ref 212, .ref 213, .ref 214, .ref 215, .ref 216, .ref 217, .int lkss, .ref 218, .ref 219, .ref 222])), (207, .inr (.inl (0, (aC 5 rks rk)))), (208, .inr (.inl (0, (aC 5 stas sta)))), (209, .inr (.inl (0, (aC 5 phs ph)))), (210, .inr (.inl (0, (aC 5 sps sp)))), (211, .inr (.inl (0, (aC 5 ces ce)))), (212, .inr (.inl (0, (aC 5 dus du)))), (213, .inr (.inl (0, (aC 5 hes he)))), (214, .inr (.inl (0, (aC 6 ris ri)))), (215, .inr (.inl (0, (aC 6 uss us)))), (216, .inr (.inl (0, (aC (nI cm.length) cms cm)))), (217, .inr (.inl (0, (aC (nI lf.length) lfs lf)))), (218, .inr (.inl (0, (aC (nI lkd.length) lkds lkd)))), (222, .inl (3, [.ref 223, .ref 224, .ref 225, .ref 226, .ref 227, .ref 228, .ref 229, .ref 230, .int pevs, .int 1])), (223, .inr (.inl (0, (aC (nI pms.length) pmss pms)))), (224, .inr (.inl (0, (aC (nI pmm.length) pmms pmm)))), (225, .inr (.inl (0, (aC (nI pmt.length) pmts pmt)))), (226, .inr (.inl (0, (aC (nI pst.length) psts pst)))), (227, .inr (.inl (0, (aC (nI pwa.length) pwas pwa)))), (228, .inr (.inl (0, (aC (nI prs.length) prss prs)))), (229, .inr (.inl (0, (aC (nI prr.length) prrs prr)))), (230, .inr (.inl (0, (aC (nI pfa.length) pfas pfa))))]) rfl K rfl (Nat.le_of_ble_eq_true rfl) rfl (Or.inl rfl) rfl rfl (fun h K => ?_)
  exact j_V.ret yr7m_M yr7m_41 rfl rfl ⟨rfl, K⟩
set_option maxRecDepth 100000 in
theorem yr8p_M : j_meth jP 28 = some (yX3_copyFrom, cX3_copyFrom, 2, none, 1, false, 3) := rfl
set_option maxRecDepth 100000 in
theorem yr8p_0 : j_code jP 28 0 = some (.aload_n 0) := rfl
set_option maxRecDepth 100000 in
theorem yr8p_1 : j_code jP 28 1 = some (.getfield 36) := rfl
set_option maxRecDepth 100000 in
theorem yr8p_4 : j_code jP 28 4 = some (.ifCond .ne 4) := rfl
set_option maxRecDepth 100000 in
theorem yr8p_7 : j_code jP 28 7 = some (.return_) := rfl
set_option maxRecDepth 100000 in
theorem yr8p_8 : j_code jP 28 8 = some (.aload_n 1) := rfl
set_option maxRecDepth 100000 in
theorem yr8p_9 : j_code jP 28 9 = some (.getfield 9) := rfl
set_option maxRecDepth 100000 in
theorem yr8p_12 : j_code jP 28 12 = some (.iconst 0) := rfl
set_option maxRecDepth 100000 in
theorem yr8p_13 : j_code jP 28 13 = some (.aload_n 0) := rfl
set_option maxRecDepth 100000 in
theorem yr8p_14 : j_code jP 28 14 = some (.getfield 9) := rfl
set_option maxRecDepth 100000 in
theorem yr8p_17 : j_code jP 28 17 = some (.iconst 0) := rfl
set_option maxRecDepth 100000 in
theorem yr8p_18 : j_code jP 28 18 = some (.aload_n 0) := rfl
set_option maxRecDepth 100000 in
theorem yr8p_19 : j_code jP 28 19 = some (.getfield 9) := rfl
set_option maxRecDepth 100000 in
theorem yr8p_22 : j_code jP 28 22 = some (.arraylength) := rfl
set_option maxRecDepth 100000 in
theorem yr8p_23 : j_code jP 28 23 = some (.invokestatic 50) := rfl
set_option maxRecDepth 100000 in
theorem yr8p_26 : j_code jP 28 26 = some (.aload_n 1) := rfl
set_option maxRecDepth 100000 in
theorem yr8p_27 : j_code jP 28 27 = some (.getfield 15) := rfl
set_option maxRecDepth 100000 in
theorem yr8p_30 : j_code jP 28 30 = some (.iconst 0) := rfl
set_option maxRecDepth 100000 in
theorem yr8p_31 : j_code jP 28 31 = some (.aload_n 0) := rfl
set_option maxRecDepth 100000 in
theorem yr8p_32 : j_code jP 28 32 = some (.getfield 15) := rfl
set_option maxRecDepth 100000 in
theorem yr8p_35 : j_code jP 28 35 = some (.iconst 0) := rfl
set_option maxRecDepth 100000 in
theorem yr8p_36 : j_code jP 28 36 = some (.aload_n 0) := rfl
set_option maxRecDepth 100000 in
theorem yr8p_37 : j_code jP 28 37 = some (.getfield 15) := rfl
set_option maxRecDepth 100000 in
theorem yr8p_40 : j_code jP 28 40 = some (.arraylength) := rfl
set_option maxRecDepth 100000 in
theorem yr8p_41 : j_code jP 28 41 = some (.invokestatic 50) := rfl
set_option maxRecDepth 100000 in
theorem yr8p_44 : j_code jP 28 44 = some (.aload_n 1) := rfl
set_option maxRecDepth 100000 in
theorem yr8p_45 : j_code jP 28 45 = some (.getfield 18) := rfl
set_option maxRecDepth 100000 in
theorem yr8p_48 : j_code jP 28 48 = some (.iconst 0) := rfl
set_option maxRecDepth 100000 in
theorem yr8p_49 : j_code jP 28 49 = some (.aload_n 0) := rfl
set_option maxRecDepth 100000 in
theorem yr8p_50 : j_code jP 28 50 = some (.getfield 18) := rfl
set_option maxRecDepth 100000 in
theorem yr8p_53 : j_code jP 28 53 = some (.iconst 0) := rfl
set_option maxRecDepth 100000 in
theorem yr8p_54 : j_code jP 28 54 = some (.aload_n 0) := rfl
set_option maxRecDepth 100000 in
theorem yr8p_55 : j_code jP 28 55 = some (.getfield 18) := rfl
set_option maxRecDepth 100000 in
theorem yr8p_58 : j_code jP 28 58 = some (.arraylength) := rfl
set_option maxRecDepth 100000 in
theorem yr8p_59 : j_code jP 28 59 = some (.invokestatic 50) := rfl
set_option maxRecDepth 100000 in
theorem yr8p_62 : j_code jP 28 62 = some (.aload_n 1) := rfl
set_option maxRecDepth 100000 in
theorem yr8p_63 : j_code jP 28 63 = some (.getfield 21) := rfl
set_option maxRecDepth 100000 in
theorem yr8p_66 : j_code jP 28 66 = some (.iconst 0) := rfl
set_option maxRecDepth 100000 in
theorem yr8p_67 : j_code jP 28 67 = some (.aload_n 0) := rfl
set_option maxRecDepth 100000 in
theorem yr8p_68 : j_code jP 28 68 = some (.getfield 21) := rfl
set_option maxRecDepth 100000 in
theorem yr8p_71 : j_code jP 28 71 = some (.iconst 0) := rfl
set_option maxRecDepth 100000 in
theorem yr8p_72 : j_code jP 28 72 = some (.aload_n 0) := rfl
set_option maxRecDepth 100000 in
theorem yr8p_73 : j_code jP 28 73 = some (.getfield 21) := rfl
set_option maxRecDepth 100000 in
theorem yr8p_76 : j_code jP 28 76 = some (.arraylength) := rfl
set_option maxRecDepth 100000 in
theorem yr8p_77 : j_code jP 28 77 = some (.invokestatic 50) := rfl
set_option maxRecDepth 100000 in
theorem yr8p_80 : j_code jP 28 80 = some (.aload_n 1) := rfl
set_option maxRecDepth 100000 in
theorem yr8p_81 : j_code jP 28 81 = some (.getfield 24) := rfl
set_option maxRecDepth 100000 in
theorem yr8p_84 : j_code jP 28 84 = some (.iconst 0) := rfl
set_option maxRecDepth 100000 in
theorem yr8p_85 : j_code jP 28 85 = some (.aload_n 0) := rfl
set_option maxRecDepth 100000 in
theorem yr8p_86 : j_code jP 28 86 = some (.getfield 24) := rfl
set_option maxRecDepth 100000 in
theorem yr8p_89 : j_code jP 28 89 = some (.iconst 0) := rfl
set_option maxRecDepth 100000 in
theorem yr8p_90 : j_code jP 28 90 = some (.aload_n 0) := rfl
set_option maxRecDepth 100000 in
theorem yr8p_91 : j_code jP 28 91 = some (.getfield 24) := rfl
set_option maxRecDepth 100000 in
theorem yr8p_94 : j_code jP 28 94 = some (.arraylength) := rfl
set_option maxRecDepth 100000 in
theorem yr8p_95 : j_code jP 28 95 = some (.invokestatic 50) := rfl
set_option maxRecDepth 100000 in
theorem yr8p_98 : j_code jP 28 98 = some (.aload_n 1) := rfl
set_option maxRecDepth 100000 in
theorem yr8p_99 : j_code jP 28 99 = some (.getfield 27) := rfl
set_option maxRecDepth 100000 in
theorem yr8p_102 : j_code jP 28 102 = some (.iconst 0) := rfl
set_option maxRecDepth 100000 in
theorem yr8p_103 : j_code jP 28 103 = some (.aload_n 0) := rfl
set_option maxRecDepth 100000 in
theorem yr8p_104 : j_code jP 28 104 = some (.getfield 27) := rfl
set_option maxRecDepth 100000 in
theorem yr8p_107 : j_code jP 28 107 = some (.iconst 0) := rfl
set_option maxRecDepth 100000 in
theorem yr8p_108 : j_code jP 28 108 = some (.aload_n 0) := rfl
set_option maxRecDepth 100000 in
theorem yr8p_109 : j_code jP 28 109 = some (.getfield 27) := rfl
set_option maxRecDepth 100000 in
theorem yr8p_112 : j_code jP 28 112 = some (.arraylength) := rfl
set_option maxRecDepth 100000 in
theorem yr8p_113 : j_code jP 28 113 = some (.invokestatic 50) := rfl
set_option maxRecDepth 100000 in
theorem yr8p_116 : j_code jP 28 116 = some (.aload_n 1) := rfl
set_option maxRecDepth 100000 in
theorem yr8p_117 : j_code jP 28 117 = some (.getfield 30) := rfl
set_option maxRecDepth 100000 in
theorem yr8p_120 : j_code jP 28 120 = some (.iconst 0) := rfl
set_option maxRecDepth 100000 in
theorem yr8p_121 : j_code jP 28 121 = some (.aload_n 0) := rfl
set_option maxRecDepth 100000 in
theorem yr8p_122 : j_code jP 28 122 = some (.getfield 30) := rfl
set_option maxRecDepth 100000 in
theorem yr8p_125 : j_code jP 28 125 = some (.iconst 0) := rfl
set_option maxRecDepth 100000 in
theorem yr8p_126 : j_code jP 28 126 = some (.aload_n 0) := rfl
set_option maxRecDepth 100000 in
theorem yr8p_127 : j_code jP 28 127 = some (.getfield 30) := rfl
set_option maxRecDepth 100000 in
theorem yr8p_130 : j_code jP 28 130 = some (.arraylength) := rfl
set_option maxRecDepth 100000 in
theorem yr8p_131 : j_code jP 28 131 = some (.invokestatic 50) := rfl
set_option maxRecDepth 100000 in
theorem yr8p_134 : j_code jP 28 134 = some (.aload_n 1) := rfl
set_option maxRecDepth 100000 in
theorem yr8p_135 : j_code jP 28 135 = some (.getfield 33) := rfl
set_option maxRecDepth 100000 in
theorem yr8p_138 : j_code jP 28 138 = some (.iconst 0) := rfl
set_option maxRecDepth 100000 in
theorem yr8p_139 : j_code jP 28 139 = some (.aload_n 0) := rfl
set_option maxRecDepth 100000 in
theorem yr8p_140 : j_code jP 28 140 = some (.getfield 33) := rfl
set_option maxRecDepth 100000 in
theorem yr8p_143 : j_code jP 28 143 = some (.iconst 0) := rfl
set_option maxRecDepth 100000 in
theorem yr8p_144 : j_code jP 28 144 = some (.aload_n 0) := rfl
set_option maxRecDepth 100000 in
theorem yr8p_145 : j_code jP 28 145 = some (.getfield 33) := rfl
set_option maxRecDepth 100000 in
theorem yr8p_148 : j_code jP 28 148 = some (.arraylength) := rfl
set_option maxRecDepth 100000 in
theorem yr8p_149 : j_code jP 28 149 = some (.invokestatic 50) := rfl
set_option maxRecDepth 100000 in
theorem yr8p_152 : j_code jP 28 152 = some (.aload_n 0) := rfl
set_option maxRecDepth 100000 in
theorem yr8p_153 : j_code jP 28 153 = some (.aload_n 1) := rfl
set_option maxRecDepth 100000 in
theorem yr8p_154 : j_code jP 28 154 = some (.getfield 46) := rfl
set_option maxRecDepth 100000 in
theorem yr8p_157 : j_code jP 28 157 = some (.putfield 46) := rfl
set_option maxRecDepth 100000 in
theorem yr8p_160 : j_code jP 28 160 = some (.return_) := rfl
set_option maxRecDepth 1000000 in
theorem yr8p_k8 {pev : Int32} {pms : List Int32} {pmm : List Int32} {pevs : Int32} {pmss : List Int32} {pmms : List Int32} {d : Nat} {lv : J_L} {h h0 : J_H} {Q : Option Value → J_H → Prop} (L : LK lv [(0, .ref 247), (1, .ref 20)]) (K : KN h [(20, .inl (3, [.ref 21, .ref 22, .ref 23, .ref 24, .ref 25, .ref 26, .ref 27, .ref 28, .int pevs, .int 1])), (21, .inr (.inl (0, pmss))), (22, .inr (.inl (0, pmms))), (247, .inl (3, [.ref 248, .ref 249, .ref 250, .ref 251, .ref 252, .ref 253, .ref 254, .ref 255, .int pev, .int 1])), (248, .inr (.inl (0, pms))), (249, .inr (.inl (0, pmm)))] h0) (kk : ∀ lv h, LK lv [(0, .ref 247), (1, .ref 20)] → KN h [(20, .inl (3, [.ref 21, .ref 22, .ref 23, .ref 24, .ref 25, .ref 26, .ref 27, .ref 28, .int pevs, .int 1])), (21, .inr (.inl (0, pmss))), (22, .inr (.inl (0, pmms))), (247, .inl (3, [.ref 248, .ref 249, .ref 250, .ref 251, .ref 252, .ref 253, .ref 254, .ref 255, .int pev, .int 1])), (248, .inr (.inl (0, (aC (nI pms.length) pmss pms)))), (249, .inr (.inl (0, (aC (nI pmm.length) pmms pmm))))] h0 → j_V jP d 28 44 lv [] h Q) : j_V jP d 28 8 lv [] h Q := by
  refine j_V.ldL yr8p_M yr8p_8 rfl (i := 1) (kd := 2) (v := .ref 20) (pcJ := 9) rfl L rfl rfl rfl ?_
  refine j_V.getK yr8p_M yr8p_9 (ci := 3) (j := 0) rfl K rfl rfl ?_
  refine j_V.one yr8p_M yr8p_12 (by decide) (pcJ := 13) (stJ := [.int 0, .ref 21]) rfl ?_
  refine j_V.ldL yr8p_M yr8p_13 rfl (i := 0) (kd := 2) (v := .ref 247) (pcJ := 14) rfl L rfl rfl rfl ?_
  refine j_V.getK yr8p_M yr8p_14 (ci := 3) (j := 0) rfl K rfl rfl ?_
  refine j_V.one yr8p_M yr8p_17 (by decide) (pcJ := 18) (stJ := [.int 0, .ref 248, .int 0, .ref 21]) rfl ?_
  refine j_V.ldL yr8p_M yr8p_18 rfl (i := 0) (kd := 2) (v := .ref 247) (pcJ := 19) rfl L rfl rfl rfl ?_
  refine j_V.getK yr8p_M yr8p_19 (ci := 3) (j := 0) rfl K rfl rfl ?_
  refine j_V.alnA yr8p_M yr8p_22 K rfl ?_
  refine j_V.acp yr8p_M yr8p_23 rfl rfl K rfl rfl rfl (fun h K => ?_)
  refine j_V.ldL yr8p_M yr8p_26 rfl (i := 1) (kd := 2) (v := .ref 20) (pcJ := 27) rfl L rfl rfl rfl ?_
  refine j_V.getK yr8p_M yr8p_27 (ci := 3) (j := 1) rfl K rfl rfl ?_
  refine j_V.one yr8p_M yr8p_30 (by decide) (pcJ := 31) (stJ := [.int 0, .ref 22]) rfl ?_
  refine j_V.ldL yr8p_M yr8p_31 rfl (i := 0) (kd := 2) (v := .ref 247) (pcJ := 32) rfl L rfl rfl rfl ?_
  refine j_V.getK yr8p_M yr8p_32 (ci := 3) (j := 1) rfl K rfl rfl ?_
  refine j_V.one yr8p_M yr8p_35 (by decide) (pcJ := 36) (stJ := [.int 0, .ref 249, .int 0, .ref 22]) rfl ?_
  refine j_V.ldL yr8p_M yr8p_36 rfl (i := 0) (kd := 2) (v := .ref 247) (pcJ := 37) rfl L rfl rfl rfl ?_
  refine j_V.getK yr8p_M yr8p_37 (ci := 3) (j := 1) rfl K rfl rfl ?_
  refine j_V.alnA yr8p_M yr8p_40 K rfl ?_
  refine j_V.acp yr8p_M yr8p_41 rfl rfl K rfl rfl rfl (fun h K => ?_)
  exact kk _ _ L K
set_option maxRecDepth 1000000 in
theorem yr8p_k44 {pev : Int32} {pmt : List Int32} {pst : List Int32} {pevs : Int32} {pmts : List Int32} {psts : List Int32} {d : Nat} {lv : J_L} {h h0 : J_H} {Q : Option Value → J_H → Prop} (L : LK lv [(0, .ref 247), (1, .ref 20)]) (K : KN h [(20, .inl (3, [.ref 21, .ref 22, .ref 23, .ref 24, .ref 25, .ref 26, .ref 27, .ref 28, .int pevs, .int 1])), (23, .inr (.inl (0, pmts))), (24, .inr (.inl (0, psts))), (247, .inl (3, [.ref 248, .ref 249, .ref 250, .ref 251, .ref 252, .ref 253, .ref 254, .ref 255, .int pev, .int 1])), (250, .inr (.inl (0, pmt))), (251, .inr (.inl (0, pst)))] h0) (kk : ∀ lv h, LK lv [(0, .ref 247), (1, .ref 20)] → KN h [(20, .inl (3, [.ref 21, .ref 22, .ref 23, .ref 24, .ref 25, .ref 26, .ref 27, .ref 28, .int pevs, .int 1])), (23, .inr (.inl (0, pmts))), (24, .inr (.inl (0, psts))), (247, .inl (3, [.ref 248, .ref 249, .ref 250, .ref 251, .ref 252, .ref 253, .ref 254, .ref 255, .int pev, .int 1])), (250, .inr (.inl (0, (aC (nI pmt.length) pmts pmt)))), (251, .inr (.inl (0, (aC (nI pst.length) psts pst))))] h0 → j_V jP d 28 80 lv [] h Q) : j_V jP d 28 44 lv [] h Q := by
  refine j_V.ldL yr8p_M yr8p_44 rfl (i := 1) (kd := 2) (v := .ref 20) (pcJ := 45) rfl L rfl rfl rfl ?_
  refine j_V.getK yr8p_M yr8p_45 (ci := 3) (j := 2) rfl K rfl rfl ?_
  refine j_V.one yr8p_M yr8p_48 (by decide) (pcJ := 49) (stJ := [.int 0, .ref 23]) rfl ?_
  refine j_V.ldL yr8p_M yr8p_49 rfl (i := 0) (kd := 2) (v := .ref 247) (pcJ := 50) rfl L rfl rfl rfl ?_
  refine j_V.getK yr8p_M yr8p_50 (ci := 3) (j := 2) rfl K rfl rfl ?_
  refine j_V.one yr8p_M yr8p_53 (by decide) (pcJ := 54) (stJ := [.int 0, .ref 250, .int 0, .ref 23]) rfl ?_
  refine j_V.ldL yr8p_M yr8p_54 rfl (i := 0) (kd := 2) (v := .ref 247) (pcJ := 55) rfl L rfl rfl rfl ?_
  refine j_V.getK yr8p_M yr8p_55 (ci := 3) (j := 2) rfl K rfl rfl ?_
  refine j_V.alnA yr8p_M yr8p_58 K rfl ?_
  refine j_V.acp yr8p_M yr8p_59 rfl rfl K rfl rfl rfl (fun h K => ?_)
  refine j_V.ldL yr8p_M yr8p_62 rfl (i := 1) (kd := 2) (v := .ref 20) (pcJ := 63) rfl L rfl rfl rfl ?_
  refine j_V.getK yr8p_M yr8p_63 (ci := 3) (j := 3) rfl K rfl rfl ?_
  refine j_V.one yr8p_M yr8p_66 (by decide) (pcJ := 67) (stJ := [.int 0, .ref 24]) rfl ?_
  refine j_V.ldL yr8p_M yr8p_67 rfl (i := 0) (kd := 2) (v := .ref 247) (pcJ := 68) rfl L rfl rfl rfl ?_
  refine j_V.getK yr8p_M yr8p_68 (ci := 3) (j := 3) rfl K rfl rfl ?_
  refine j_V.one yr8p_M yr8p_71 (by decide) (pcJ := 72) (stJ := [.int 0, .ref 251, .int 0, .ref 24]) rfl ?_
  refine j_V.ldL yr8p_M yr8p_72 rfl (i := 0) (kd := 2) (v := .ref 247) (pcJ := 73) rfl L rfl rfl rfl ?_
  refine j_V.getK yr8p_M yr8p_73 (ci := 3) (j := 3) rfl K rfl rfl ?_
  refine j_V.alnA yr8p_M yr8p_76 K rfl ?_
  refine j_V.acp yr8p_M yr8p_77 rfl rfl K rfl rfl rfl (fun h K => ?_)
  exact kk _ _ L K
set_option maxRecDepth 1000000 in
theorem yr8p_k80 {pev : Int32} {pwa : List Int32} {prs : List Int32} {pevs : Int32} {pwas : List Int32} {prss : List Int32} {d : Nat} {lv : J_L} {h h0 : J_H} {Q : Option Value → J_H → Prop} (L : LK lv [(0, .ref 247), (1, .ref 20)]) (K : KN h [(20, .inl (3, [.ref 21, .ref 22, .ref 23, .ref 24, .ref 25, .ref 26, .ref 27, .ref 28, .int pevs, .int 1])), (25, .inr (.inl (0, pwas))), (26, .inr (.inl (0, prss))), (247, .inl (3, [.ref 248, .ref 249, .ref 250, .ref 251, .ref 252, .ref 253, .ref 254, .ref 255, .int pev, .int 1])), (252, .inr (.inl (0, pwa))), (253, .inr (.inl (0, prs)))] h0) (kk : ∀ lv h, LK lv [(0, .ref 247), (1, .ref 20)] → KN h [(20, .inl (3, [.ref 21, .ref 22, .ref 23, .ref 24, .ref 25, .ref 26, .ref 27, .ref 28, .int pevs, .int 1])), (25, .inr (.inl (0, pwas))), (26, .inr (.inl (0, prss))), (247, .inl (3, [.ref 248, .ref 249, .ref 250, .ref 251, .ref 252, .ref 253, .ref 254, .ref 255, .int pev, .int 1])), (252, .inr (.inl (0, (aC (nI pwa.length) pwas pwa)))), (253, .inr (.inl (0, (aC (nI prs.length) prss prs))))] h0 → j_V jP d 28 116 lv [] h Q) : j_V jP d 28 80 lv [] h Q := by
  refine j_V.ldL yr8p_M yr8p_80 rfl (i := 1) (kd := 2) (v := .ref 20) (pcJ := 81) rfl L rfl rfl rfl ?_
  refine j_V.getK yr8p_M yr8p_81 (ci := 3) (j := 4) rfl K rfl rfl ?_
  refine j_V.one yr8p_M yr8p_84 (by decide) (pcJ := 85) (stJ := [.int 0, .ref 25]) rfl ?_
  refine j_V.ldL yr8p_M yr8p_85 rfl (i := 0) (kd := 2) (v := .ref 247) (pcJ := 86) rfl L rfl rfl rfl ?_
  refine j_V.getK yr8p_M yr8p_86 (ci := 3) (j := 4) rfl K rfl rfl ?_
  refine j_V.one yr8p_M yr8p_89 (by decide) (pcJ := 90) (stJ := [.int 0, .ref 252, .int 0, .ref 25]) rfl ?_
  refine j_V.ldL yr8p_M yr8p_90 rfl (i := 0) (kd := 2) (v := .ref 247) (pcJ := 91) rfl L rfl rfl rfl ?_
  refine j_V.getK yr8p_M yr8p_91 (ci := 3) (j := 4) rfl K rfl rfl ?_
  refine j_V.alnA yr8p_M yr8p_94 K rfl ?_
  refine j_V.acp yr8p_M yr8p_95 rfl rfl K rfl rfl rfl (fun h K => ?_)
  refine j_V.ldL yr8p_M yr8p_98 rfl (i := 1) (kd := 2) (v := .ref 20) (pcJ := 99) rfl L rfl rfl rfl ?_
  refine j_V.getK yr8p_M yr8p_99 (ci := 3) (j := 5) rfl K rfl rfl ?_
  refine j_V.one yr8p_M yr8p_102 (by decide) (pcJ := 103) (stJ := [.int 0, .ref 26]) rfl ?_
  refine j_V.ldL yr8p_M yr8p_103 rfl (i := 0) (kd := 2) (v := .ref 247) (pcJ := 104) rfl L rfl rfl rfl ?_
  refine j_V.getK yr8p_M yr8p_104 (ci := 3) (j := 5) rfl K rfl rfl ?_
  refine j_V.one yr8p_M yr8p_107 (by decide) (pcJ := 108) (stJ := [.int 0, .ref 253, .int 0, .ref 26]) rfl ?_
  refine j_V.ldL yr8p_M yr8p_108 rfl (i := 0) (kd := 2) (v := .ref 247) (pcJ := 109) rfl L rfl rfl rfl ?_
  refine j_V.getK yr8p_M yr8p_109 (ci := 3) (j := 5) rfl K rfl rfl ?_
  refine j_V.alnA yr8p_M yr8p_112 K rfl ?_
  refine j_V.acp yr8p_M yr8p_113 rfl rfl K rfl rfl rfl (fun h K => ?_)
  exact kk _ _ L K
set_option maxRecDepth 1000000 in
theorem yr8p_k116 {pev : Int32} {prr : List Int32} {pfa : List Int32} {pevs : Int32} {prrs : List Int32} {pfas : List Int32} {d : Nat} {lv : J_L} {h h0 : J_H} {Q : Option Value → J_H → Prop} (L : LK lv [(0, .ref 247), (1, .ref 20)]) (K : KN h [(20, .inl (3, [.ref 21, .ref 22, .ref 23, .ref 24, .ref 25, .ref 26, .ref 27, .ref 28, .int pevs, .int 1])), (27, .inr (.inl (0, prrs))), (28, .inr (.inl (0, pfas))), (247, .inl (3, [.ref 248, .ref 249, .ref 250, .ref 251, .ref 252, .ref 253, .ref 254, .ref 255, .int pev, .int 1])), (254, .inr (.inl (0, prr))), (255, .inr (.inl (0, pfa)))] h0) (kk : ∀ lv h, LK lv [(0, .ref 247), (1, .ref 20)] → KN h [(20, .inl (3, [.ref 21, .ref 22, .ref 23, .ref 24, .ref 25, .ref 26, .ref 27, .ref 28, .int pevs, .int 1])), (27, .inr (.inl (0, prrs))), (28, .inr (.inl (0, pfas))), (247, .inl (3, [.ref 248, .ref 249, .ref 250, .ref 251, .ref 252, .ref 253, .ref 254, .ref 255, .int pev, .int 1])), (254, .inr (.inl (0, (aC (nI prr.length) prrs prr)))), (255, .inr (.inl (0, (aC (nI pfa.length) pfas pfa))))] h0 → j_V jP d 28 152 lv [] h Q) : j_V jP d 28 116 lv [] h Q := by
  refine j_V.ldL yr8p_M yr8p_116 rfl (i := 1) (kd := 2) (v := .ref 20) (pcJ := 117) rfl L rfl rfl rfl ?_
  refine j_V.getK yr8p_M yr8p_117 (ci := 3) (j := 6) rfl K rfl rfl ?_
  refine j_V.one yr8p_M yr8p_120 (by decide) (pcJ := 121) (stJ := [.int 0, .ref 27]) rfl ?_
  refine j_V.ldL yr8p_M yr8p_121 rfl (i := 0) (kd := 2) (v := .ref 247) (pcJ := 122) rfl L rfl rfl rfl ?_
  refine j_V.getK yr8p_M yr8p_122 (ci := 3) (j := 6) rfl K rfl rfl ?_
  refine j_V.one yr8p_M yr8p_125 (by decide) (pcJ := 126) (stJ := [.int 0, .ref 254, .int 0, .ref 27]) rfl ?_
  refine j_V.ldL yr8p_M yr8p_126 rfl (i := 0) (kd := 2) (v := .ref 247) (pcJ := 127) rfl L rfl rfl rfl ?_
  refine j_V.getK yr8p_M yr8p_127 (ci := 3) (j := 6) rfl K rfl rfl ?_
  refine j_V.alnA yr8p_M yr8p_130 K rfl ?_
  refine j_V.acp yr8p_M yr8p_131 rfl rfl K rfl rfl rfl (fun h K => ?_)
  refine j_V.ldL yr8p_M yr8p_134 rfl (i := 1) (kd := 2) (v := .ref 20) (pcJ := 135) rfl L rfl rfl rfl ?_
  refine j_V.getK yr8p_M yr8p_135 (ci := 3) (j := 7) rfl K rfl rfl ?_
  refine j_V.one yr8p_M yr8p_138 (by decide) (pcJ := 139) (stJ := [.int 0, .ref 28]) rfl ?_
  refine j_V.ldL yr8p_M yr8p_139 rfl (i := 0) (kd := 2) (v := .ref 247) (pcJ := 140) rfl L rfl rfl rfl ?_
  refine j_V.getK yr8p_M yr8p_140 (ci := 3) (j := 7) rfl K rfl rfl ?_
  refine j_V.one yr8p_M yr8p_143 (by decide) (pcJ := 144) (stJ := [.int 0, .ref 255, .int 0, .ref 28]) rfl ?_
  refine j_V.ldL yr8p_M yr8p_144 rfl (i := 0) (kd := 2) (v := .ref 247) (pcJ := 145) rfl L rfl rfl rfl ?_
  refine j_V.getK yr8p_M yr8p_145 (ci := 3) (j := 7) rfl K rfl rfl ?_
  refine j_V.alnA yr8p_M yr8p_148 K rfl ?_
  refine j_V.acp yr8p_M yr8p_149 rfl rfl K rfl rfl rfl (fun h K => ?_)
  exact kk _ _ L K
set_option maxRecDepth 1000000 in
theorem yr8p_ok {pev : Int32} {pms : List Int32} {pmm : List Int32} {pmt : List Int32} {pst : List Int32} {pwa : List Int32} {prs : List Int32} {prr : List Int32} {pfa : List Int32} {pevs : Int32} {pmss : List Int32} {pmms : List Int32} {pmts : List Int32} {psts : List Int32} {pwas : List Int32} {prss : List Int32} {prrs : List Int32} {pfas : List Int32} {d : Nat} {h h0 : J_H} (K : KN h [(20, .inl (3, [.ref 21, .ref 22, .ref 23, .ref 24, .ref 25, .ref 26, .ref 27, .ref 28, .int pevs, .int 1])), (21, .inr (.inl (0, pmss))), (22, .inr (.inl (0, pmms))), (23, .inr (.inl (0, pmts))), (24, .inr (.inl (0, psts))), (25, .inr (.inl (0, pwas))), (26, .inr (.inl (0, prss))), (27, .inr (.inl (0, prrs))), (28, .inr (.inl (0, pfas))), (247, .inl (3, [.ref 248, .ref 249, .ref 250, .ref 251, .ref 252, .ref 253, .ref 254, .ref 255, .int pev, .int 1])), (248, .inr (.inl (0, pms))), (249, .inr (.inl (0, pmm))), (250, .inr (.inl (0, pmt))), (251, .inr (.inl (0, pst))), (252, .inr (.inl (0, pwa))), (253, .inr (.inl (0, prs))), (254, .inr (.inl (0, prr))), (255, .inr (.inl (0, pfa)))] h0) : j_V jP d 28 0 (lv_args 0 [.ref 247, .ref 20]) [] h (fun rv h' => rv = none ∧ KN h' [(20, .inl (3, [.ref 21, .ref 22, .ref 23, .ref 24, .ref 25, .ref 26, .ref 27, .ref 28, .int pevs, .int 1])), (21, .inr (.inl (0, pmss))), (22, .inr (.inl (0, pmms))), (23, .inr (.inl (0, pmts))), (24, .inr (.inl (0, psts))), (25, .inr (.inl (0, pwas))), (26, .inr (.inl (0, prss))), (27, .inr (.inl (0, prrs))), (28, .inr (.inl (0, pfas))), (247, .inl (3, [.ref 248, .ref 249, .ref 250, .ref 251, .ref 252, .ref 253, .ref 254, .ref 255, .int pevs, .int 1])), (248, .inr (.inl (0, (aC (nI pms.length) pmss pms)))), (249, .inr (.inl (0, (aC (nI pmm.length) pmms pmm)))), (250, .inr (.inl (0, (aC (nI pmt.length) pmts pmt)))), (251, .inr (.inl (0, (aC (nI pst.length) psts pst)))), (252, .inr (.inl (0, (aC (nI pwa.length) pwas pwa)))), (253, .inr (.inl (0, (aC (nI prs.length) prss prs)))), (254, .inr (.inl (0, (aC (nI prr.length) prrs prr)))), (255, .inr (.inl (0, (aC (nI pfa.length) pfas pfa))))] h0) := by
  show j_V jP d 28 0 [(0, .ref 247), (1, .ref 20)] [] h _
  obtain ⟨lv, elv, L⟩ : ∃ lv, lv = [(0, .ref 247), (1, .ref 20)] ∧ LK lv [(0, .ref 247), (1, .ref 20)] := ⟨_, rfl, LK.rf⟩
  rw [← elv]
  clear elv
  refine j_V.ldL yr8p_M yr8p_0 rfl (i := 0) (kd := 2) (v := .ref 247) (pcJ := 1) rfl L rfl rfl rfl ?_
  refine j_V.getK yr8p_M yr8p_1 (ci := 3) (j := 9) rfl K rfl rfl ?_
  refine j_V.ifc yr8p_M yr8p_4 (t := 8) rfl (fun c4_0 => ?_) (fun c4_0 => ?_)
  · replace c4_0 : ¬ ((1 : Int32) = 0) := jd_ne c4_0
    refine yr8p_k8 L (K.fi [20, 21, 22, 247, 248, 249] rfl rfl) (fun lv h9 L K9 => ?_)
    have K : KN h9 [(20, .inl (3, [.ref 21, .ref 22, .ref 23, .ref 24, .ref 25, .ref 26, .ref 27, .ref 28, .int pevs, .int 1])), (21, .inr (.inl (0, pmss))), (22, .inr (.inl (0, pmms))), (23, .inr (.inl (0, pmts))), (24, .inr (.inl (0, psts))), (25, .inr (.inl (0, pwas))), (26, .inr (.inl (0, prss))), (27, .inr (.inl (0, prrs))), (28, .inr (.inl (0, pfas))), (247, .inl (3, [.ref 248, .ref 249, .ref 250, .ref 251, .ref 252, .ref 253, .ref 254, .ref 255, .int pev, .int 1])), (248, .inr (.inl (0, (aC (nI pms.length) pmss pms)))), (249, .inr (.inl (0, (aC (nI pmm.length) pmms pmm)))), (250, .inr (.inl (0, pmt))), (251, .inr (.inl (0, pst))), (252, .inr (.inl (0, pwa))), (253, .inr (.inl (0, prs))), (254, .inr (.inl (0, prr))), (255, .inr (.inl (0, pfa)))] h0 := K.mg K9 rfl rfl
    clear K9
    refine yr8p_k44 L (K.fi [20, 23, 24, 247, 250, 251] rfl rfl) (fun lv h9 L K9 => ?_)
    have K : KN h9 [(20, .inl (3, [.ref 21, .ref 22, .ref 23, .ref 24, .ref 25, .ref 26, .ref 27, .ref 28, .int pevs, .int 1])), (21, .inr (.inl (0, pmss))), (22, .inr (.inl (0, pmms))), (23, .inr (.inl (0, pmts))), (24, .inr (.inl (0, psts))), (25, .inr (.inl (0, pwas))), (26, .inr (.inl (0, prss))), (27, .inr (.inl (0, prrs))), (28, .inr (.inl (0, pfas))), (247, .inl (3, [.ref 248, .ref 249, .ref 250, .ref 251, .ref 252, .ref 253, .ref 254, .ref 255, .int pev, .int 1])), (248, .inr (.inl (0, (aC (nI pms.length) pmss pms)))), (249, .inr (.inl (0, (aC (nI pmm.length) pmms pmm)))), (250, .inr (.inl (0, (aC (nI pmt.length) pmts pmt)))), (251, .inr (.inl (0, (aC (nI pst.length) psts pst)))), (252, .inr (.inl (0, pwa))), (253, .inr (.inl (0, prs))), (254, .inr (.inl (0, prr))), (255, .inr (.inl (0, pfa)))] h0 := K.mg K9 rfl rfl
    clear K9
    refine yr8p_k80 L (K.fi [20, 25, 26, 247, 252, 253] rfl rfl) (fun lv h9 L K9 => ?_)
    have K : KN h9 [(20, .inl (3, [.ref 21, .ref 22, .ref 23, .ref 24, .ref 25, .ref 26, .ref 27, .ref 28, .int pevs, .int 1])), (21, .inr (.inl (0, pmss))), (22, .inr (.inl (0, pmms))), (23, .inr (.inl (0, pmts))), (24, .inr (.inl (0, psts))), (25, .inr (.inl (0, pwas))), (26, .inr (.inl (0, prss))), (27, .inr (.inl (0, prrs))), (28, .inr (.inl (0, pfas))), (247, .inl (3, [.ref 248, .ref 249, .ref 250, .ref 251, .ref 252, .ref 253, .ref 254, .ref 255, .int pev, .int 1])), (248, .inr (.inl (0, (aC (nI pms.length) pmss pms)))), (249, .inr (.inl (0, (aC (nI pmm.length) pmms pmm)))), (250, .inr (.inl (0, (aC (nI pmt.length) pmts pmt)))), (251, .inr (.inl (0, (aC (nI pst.length) psts pst)))), (252, .inr (.inl (0, (aC (nI pwa.length) pwas pwa)))), (253, .inr (.inl (0, (aC (nI prs.length) prss prs)))), (254, .inr (.inl (0, prr))), (255, .inr (.inl (0, pfa)))] h0 := K.mg K9 rfl rfl
    clear K9
    refine yr8p_k116 L (K.fi [20, 27, 28, 247, 254, 255] rfl rfl) (fun lv h9 L K9 => ?_)
    have K : KN h9 [(20, .inl (3, [.ref 21, .ref 22, .ref 23, .ref 24, .ref 25, .ref 26, .ref 27, .ref 28, .int pevs, .int 1])), (21, .inr (.inl (0, pmss))), (22, .inr (.inl (0, pmms))), (23, .inr (.inl (0, pmts))), (24, .inr (.inl (0, psts))), (25, .inr (.inl (0, pwas))), (26, .inr (.inl (0, prss))), (27, .inr (.inl (0, prrs))), (28, .inr (.inl (0, pfas))), (247, .inl (3, [.ref 248, .ref 249, .ref 250, .ref 251, .ref 252, .ref 253, .ref 254, .ref 255, .int pev, .int 1])), (248, .inr (.inl (0, (aC (nI pms.length) pmss pms)))), (249, .inr (.inl (0, (aC (nI pmm.length) pmms pmm)))), (250, .inr (.inl (0, (aC (nI pmt.length) pmts pmt)))), (251, .inr (.inl (0, (aC (nI pst.length) psts pst)))), (252, .inr (.inl (0, (aC (nI pwa.length) pwas pwa)))), (253, .inr (.inl (0, (aC (nI prs.length) prss prs)))), (254, .inr (.inl (0, (aC (nI prr.length) prrs prr)))), (255, .inr (.inl (0, (aC (nI pfa.length) pfas pfa))))] h0 := K.mg K9 rfl rfl
    clear K9
    refine j_V.ldL yr8p_M yr8p_152 rfl (i := 0) (kd := 2) (v := .ref 247) (pcJ := 153) rfl L rfl rfl rfl ?_
    refine j_V.ldL yr8p_M yr8p_153 rfl (i := 1) (kd := 2) (v := .ref 20) (pcJ := 154) rfl L rfl rfl rfl ?_
    refine j_V.getK yr8p_M yr8p_154 (ci := 3) (j := 8) rfl K rfl rfl ?_
    refine j_V.putK yr8p_M yr8p_157 (ci := 3) (j := 8) (k' := [(20, .inl (3, [.ref 21, .ref 22, .ref 23, .ref 24, .ref 25, .ref 26, .ref 27, .ref 28, .int pevs, .int 1])), (21, .inr (.inl (0, pmss))), (22, .inr (.inl (0, pmms))), (23, .inr (.inl (0, pmts))), (24, .inr (.inl (0, psts))), (25, .inr (.inl (0, pwas))), (26, .inr (.inl (0, prss))), (27, .inr (.inl (0, prrs))), (28, .inr (.inl (0, pfas))), (247, .inl (3, [.ref 248, .ref 249, .ref 250, .ref 251, .ref 252, .ref 253, .ref 254, .ref 255, .int pevs, .int 1])), (248, .inr (.inl (0, (aC (nI pms.length) pmss pms)))), (249, .inr (.inl (0, (aC (nI pmm.length) pmms pmm)))), (250, .inr (.inl (0, (aC (nI pmt.length) pmts pmt)))), (251, .inr (.inl (0, (aC (nI pst.length) psts pst)))), (252, .inr (.inl (0, (aC (nI pwa.length) pwas pwa)))), (253, .inr (.inl (0, (aC (nI prs.length) prss prs)))), (254, .inr (.inl (0, (aC (nI prr.length) prrs prr)))), (255, .inr (.inl (0, (aC (nI pfa.length) pfas pfa))))]) rfl K rfl (Nat.le_of_ble_eq_true rfl) rfl (Or.inl rfl) rfl rfl (fun h K => ?_)
    exact j_V.ret yr8p_M yr8p_160 rfl rfl ⟨rfl, K⟩
  · replace c4_0 : (1 : Int32) = 0 := jd_nen c4_0
    exact absurd c4_0 (by decide)
set_option maxRecDepth 100000 in
theorem yr8s_M : j_meth jP 61 = some (yX7_copyFrom, cX7_copyFrom, 2, none, 1, false, 7) := rfl
set_option maxRecDepth 100000 in
theorem yr8s_0 : j_code jP 61 0 = some (.aload_n 0) := rfl
set_option maxRecDepth 100000 in
theorem yr8s_1 : j_code jP 61 1 = some (.aload_n 1) := rfl
set_option maxRecDepth 100000 in
theorem yr8s_2 : j_code jP 61 2 = some (.getfield 64) := rfl
set_option maxRecDepth 100000 in
theorem yr8s_5 : j_code jP 61 5 = some (.putfield 64) := rfl
set_option maxRecDepth 100000 in
theorem yr8s_8 : j_code jP 61 8 = some (.aload_n 0) := rfl
set_option maxRecDepth 100000 in
theorem yr8s_9 : j_code jP 61 9 = some (.aload_n 1) := rfl
set_option maxRecDepth 100000 in
theorem yr8s_10 : j_code jP 61 10 = some (.getfield 68) := rfl
set_option maxRecDepth 100000 in
theorem yr8s_13 : j_code jP 61 13 = some (.putfield 68) := rfl
set_option maxRecDepth 100000 in
theorem yr8s_16 : j_code jP 61 16 = some (.aload_n 0) := rfl
set_option maxRecDepth 100000 in
theorem yr8s_17 : j_code jP 61 17 = some (.aload_n 1) := rfl
set_option maxRecDepth 100000 in
theorem yr8s_18 : j_code jP 61 18 = some (.getfield 72) := rfl
set_option maxRecDepth 100000 in
theorem yr8s_21 : j_code jP 61 21 = some (.putfield 72) := rfl
set_option maxRecDepth 100000 in
theorem yr8s_24 : j_code jP 61 24 = some (.aload_n 0) := rfl
set_option maxRecDepth 100000 in
theorem yr8s_25 : j_code jP 61 25 = some (.aload_n 1) := rfl
set_option maxRecDepth 100000 in
theorem yr8s_26 : j_code jP 61 26 = some (.getfield 75) := rfl
set_option maxRecDepth 100000 in
theorem yr8s_29 : j_code jP 61 29 = some (.putfield 75) := rfl
set_option maxRecDepth 100000 in
theorem yr8s_32 : j_code jP 61 32 = some (.aload_n 0) := rfl
set_option maxRecDepth 100000 in
theorem yr8s_33 : j_code jP 61 33 = some (.aload_n 1) := rfl
set_option maxRecDepth 100000 in
theorem yr8s_34 : j_code jP 61 34 = some (.getfield 78) := rfl
set_option maxRecDepth 100000 in
theorem yr8s_37 : j_code jP 61 37 = some (.putfield 78) := rfl
set_option maxRecDepth 100000 in
theorem yr8s_40 : j_code jP 61 40 = some (.aload_n 1) := rfl
set_option maxRecDepth 100000 in
theorem yr8s_41 : j_code jP 61 41 = some (.getfield 9) := rfl
set_option maxRecDepth 100000 in
theorem yr8s_44 : j_code jP 61 44 = some (.iconst 0) := rfl
set_option maxRecDepth 100000 in
theorem yr8s_45 : j_code jP 61 45 = some (.aload_n 0) := rfl
set_option maxRecDepth 100000 in
theorem yr8s_46 : j_code jP 61 46 = some (.getfield 9) := rfl
set_option maxRecDepth 100000 in
theorem yr8s_49 : j_code jP 61 49 = some (.iconst 0) := rfl
set_option maxRecDepth 100000 in
theorem yr8s_50 : j_code jP 61 50 = some (.iconst 5) := rfl
set_option maxRecDepth 100000 in
theorem yr8s_51 : j_code jP 61 51 = some (.invokestatic 84) := rfl
set_option maxRecDepth 100000 in
theorem yr8s_54 : j_code jP 61 54 = some (.aload_n 1) := rfl
set_option maxRecDepth 100000 in
theorem yr8s_55 : j_code jP 61 55 = some (.getfield 15) := rfl
set_option maxRecDepth 100000 in
theorem yr8s_58 : j_code jP 61 58 = some (.iconst 0) := rfl
set_option maxRecDepth 100000 in
theorem yr8s_59 : j_code jP 61 59 = some (.aload_n 0) := rfl
set_option maxRecDepth 100000 in
theorem yr8s_60 : j_code jP 61 60 = some (.getfield 15) := rfl
set_option maxRecDepth 100000 in
theorem yr8s_63 : j_code jP 61 63 = some (.iconst 0) := rfl
set_option maxRecDepth 100000 in
theorem yr8s_64 : j_code jP 61 64 = some (.iconst 5) := rfl
set_option maxRecDepth 100000 in
theorem yr8s_65 : j_code jP 61 65 = some (.invokestatic 84) := rfl
set_option maxRecDepth 100000 in
theorem yr8s_68 : j_code jP 61 68 = some (.aload_n 1) := rfl
set_option maxRecDepth 100000 in
theorem yr8s_69 : j_code jP 61 69 = some (.getfield 18) := rfl
set_option maxRecDepth 100000 in
theorem yr8s_72 : j_code jP 61 72 = some (.iconst 0) := rfl
set_option maxRecDepth 100000 in
theorem yr8s_73 : j_code jP 61 73 = some (.aload_n 0) := rfl
set_option maxRecDepth 100000 in
theorem yr8s_74 : j_code jP 61 74 = some (.getfield 18) := rfl
set_option maxRecDepth 100000 in
theorem yr8s_77 : j_code jP 61 77 = some (.iconst 0) := rfl
set_option maxRecDepth 100000 in
theorem yr8s_78 : j_code jP 61 78 = some (.iconst 5) := rfl
set_option maxRecDepth 100000 in
theorem yr8s_79 : j_code jP 61 79 = some (.invokestatic 84) := rfl
set_option maxRecDepth 100000 in
theorem yr8s_82 : j_code jP 61 82 = some (.aload_n 1) := rfl
set_option maxRecDepth 100000 in
theorem yr8s_83 : j_code jP 61 83 = some (.getfield 21) := rfl
set_option maxRecDepth 100000 in
theorem yr8s_86 : j_code jP 61 86 = some (.iconst 0) := rfl
set_option maxRecDepth 100000 in
theorem yr8s_87 : j_code jP 61 87 = some (.aload_n 0) := rfl
set_option maxRecDepth 100000 in
theorem yr8s_88 : j_code jP 61 88 = some (.getfield 21) := rfl
set_option maxRecDepth 100000 in
theorem yr8s_91 : j_code jP 61 91 = some (.iconst 0) := rfl
set_option maxRecDepth 100000 in
theorem yr8s_92 : j_code jP 61 92 = some (.iconst 5) := rfl
set_option maxRecDepth 100000 in
theorem yr8s_93 : j_code jP 61 93 = some (.invokestatic 84) := rfl
set_option maxRecDepth 100000 in
theorem yr8s_96 : j_code jP 61 96 = some (.aload_n 1) := rfl
set_option maxRecDepth 100000 in
theorem yr8s_97 : j_code jP 61 97 = some (.getfield 24) := rfl
set_option maxRecDepth 100000 in
theorem yr8s_100 : j_code jP 61 100 = some (.iconst 0) := rfl
set_option maxRecDepth 100000 in
theorem yr8s_101 : j_code jP 61 101 = some (.aload_n 0) := rfl
set_option maxRecDepth 100000 in
theorem yr8s_102 : j_code jP 61 102 = some (.getfield 24) := rfl
set_option maxRecDepth 100000 in
theorem yr8s_105 : j_code jP 61 105 = some (.iconst 0) := rfl
set_option maxRecDepth 100000 in
theorem yr8s_106 : j_code jP 61 106 = some (.iconst 5) := rfl
set_option maxRecDepth 100000 in
theorem yr8s_107 : j_code jP 61 107 = some (.invokestatic 84) := rfl
set_option maxRecDepth 100000 in
theorem yr8s_110 : j_code jP 61 110 = some (.aload_n 1) := rfl
set_option maxRecDepth 100000 in
theorem yr8s_111 : j_code jP 61 111 = some (.getfield 27) := rfl
set_option maxRecDepth 100000 in
theorem yr8s_114 : j_code jP 61 114 = some (.iconst 0) := rfl
set_option maxRecDepth 100000 in
theorem yr8s_115 : j_code jP 61 115 = some (.aload_n 0) := rfl
set_option maxRecDepth 100000 in
theorem yr8s_116 : j_code jP 61 116 = some (.getfield 27) := rfl
set_option maxRecDepth 100000 in
theorem yr8s_119 : j_code jP 61 119 = some (.iconst 0) := rfl
set_option maxRecDepth 100000 in
theorem yr8s_120 : j_code jP 61 120 = some (.iconst 5) := rfl
set_option maxRecDepth 100000 in
theorem yr8s_121 : j_code jP 61 121 = some (.invokestatic 84) := rfl
set_option maxRecDepth 100000 in
theorem yr8s_124 : j_code jP 61 124 = some (.aload_n 1) := rfl
set_option maxRecDepth 100000 in
theorem yr8s_125 : j_code jP 61 125 = some (.getfield 30) := rfl
set_option maxRecDepth 100000 in
theorem yr8s_128 : j_code jP 61 128 = some (.iconst 0) := rfl
set_option maxRecDepth 100000 in
theorem yr8s_129 : j_code jP 61 129 = some (.aload_n 0) := rfl
set_option maxRecDepth 100000 in
theorem yr8s_130 : j_code jP 61 130 = some (.getfield 30) := rfl
set_option maxRecDepth 100000 in
theorem yr8s_133 : j_code jP 61 133 = some (.iconst 0) := rfl
set_option maxRecDepth 100000 in
theorem yr8s_134 : j_code jP 61 134 = some (.iconst 5) := rfl
set_option maxRecDepth 100000 in
theorem yr8s_135 : j_code jP 61 135 = some (.invokestatic 84) := rfl
set_option maxRecDepth 100000 in
theorem yr8s_138 : j_code jP 61 138 = some (.aload_n 1) := rfl
set_option maxRecDepth 100000 in
theorem yr8s_139 : j_code jP 61 139 = some (.getfield 33) := rfl
set_option maxRecDepth 100000 in
theorem yr8s_142 : j_code jP 61 142 = some (.iconst 0) := rfl
set_option maxRecDepth 100000 in
theorem yr8s_143 : j_code jP 61 143 = some (.aload_n 0) := rfl
set_option maxRecDepth 100000 in
theorem yr8s_144 : j_code jP 61 144 = some (.getfield 33) := rfl
set_option maxRecDepth 100000 in
theorem yr8s_147 : j_code jP 61 147 = some (.iconst 0) := rfl
set_option maxRecDepth 100000 in
theorem yr8s_148 : j_code jP 61 148 = some (.bipush 6) := rfl
set_option maxRecDepth 100000 in
theorem yr8s_150 : j_code jP 61 150 = some (.invokestatic 84) := rfl
set_option maxRecDepth 100000 in
theorem yr8s_153 : j_code jP 61 153 = some (.aload_n 1) := rfl
set_option maxRecDepth 100000 in
theorem yr8s_154 : j_code jP 61 154 = some (.getfield 36) := rfl
set_option maxRecDepth 100000 in
theorem yr8s_157 : j_code jP 61 157 = some (.iconst 0) := rfl
set_option maxRecDepth 100000 in
theorem yr8s_158 : j_code jP 61 158 = some (.aload_n 0) := rfl
set_option maxRecDepth 100000 in
theorem yr8s_159 : j_code jP 61 159 = some (.getfield 36) := rfl
set_option maxRecDepth 100000 in
theorem yr8s_162 : j_code jP 61 162 = some (.iconst 0) := rfl
set_option maxRecDepth 100000 in
theorem yr8s_163 : j_code jP 61 163 = some (.bipush 6) := rfl
set_option maxRecDepth 100000 in
theorem yr8s_165 : j_code jP 61 165 = some (.invokestatic 84) := rfl
set_option maxRecDepth 100000 in
theorem yr8s_168 : j_code jP 61 168 = some (.aload_n 1) := rfl
set_option maxRecDepth 100000 in
theorem yr8s_169 : j_code jP 61 169 = some (.getfield 39) := rfl
set_option maxRecDepth 100000 in
theorem yr8s_172 : j_code jP 61 172 = some (.iconst 0) := rfl
set_option maxRecDepth 100000 in
theorem yr8s_173 : j_code jP 61 173 = some (.aload_n 0) := rfl
set_option maxRecDepth 100000 in
theorem yr8s_174 : j_code jP 61 174 = some (.getfield 39) := rfl
set_option maxRecDepth 100000 in
theorem yr8s_177 : j_code jP 61 177 = some (.iconst 0) := rfl
set_option maxRecDepth 100000 in
theorem yr8s_178 : j_code jP 61 178 = some (.aload_n 0) := rfl
set_option maxRecDepth 100000 in
theorem yr8s_179 : j_code jP 61 179 = some (.getfield 39) := rfl
set_option maxRecDepth 100000 in
theorem yr8s_182 : j_code jP 61 182 = some (.arraylength) := rfl
set_option maxRecDepth 100000 in
theorem yr8s_183 : j_code jP 61 183 = some (.invokestatic 84) := rfl
set_option maxRecDepth 100000 in
theorem yr8s_186 : j_code jP 61 186 = some (.aload_n 1) := rfl
set_option maxRecDepth 100000 in
theorem yr8s_187 : j_code jP 61 187 = some (.getfield 42) := rfl
set_option maxRecDepth 100000 in
theorem yr8s_190 : j_code jP 61 190 = some (.iconst 0) := rfl
set_option maxRecDepth 100000 in
theorem yr8s_191 : j_code jP 61 191 = some (.aload_n 0) := rfl
set_option maxRecDepth 100000 in
theorem yr8s_192 : j_code jP 61 192 = some (.getfield 42) := rfl
set_option maxRecDepth 100000 in
theorem yr8s_195 : j_code jP 61 195 = some (.iconst 0) := rfl
set_option maxRecDepth 100000 in
theorem yr8s_196 : j_code jP 61 196 = some (.aload_n 0) := rfl
set_option maxRecDepth 100000 in
theorem yr8s_197 : j_code jP 61 197 = some (.getfield 42) := rfl
set_option maxRecDepth 100000 in
theorem yr8s_200 : j_code jP 61 200 = some (.arraylength) := rfl
set_option maxRecDepth 100000 in
theorem yr8s_201 : j_code jP 61 201 = some (.invokestatic 84) := rfl
set_option maxRecDepth 100000 in
theorem yr8s_204 : j_code jP 61 204 = some (.aload_n 1) := rfl
set_option maxRecDepth 100000 in
theorem yr8s_205 : j_code jP 61 205 = some (.getfield 45) := rfl
set_option maxRecDepth 100000 in
theorem yr8s_208 : j_code jP 61 208 = some (.iconst 0) := rfl
set_option maxRecDepth 100000 in
theorem yr8s_209 : j_code jP 61 209 = some (.aload_n 0) := rfl
set_option maxRecDepth 100000 in
theorem yr8s_210 : j_code jP 61 210 = some (.getfield 45) := rfl
set_option maxRecDepth 100000 in
theorem yr8s_213 : j_code jP 61 213 = some (.iconst 0) := rfl
set_option maxRecDepth 100000 in
theorem yr8s_214 : j_code jP 61 214 = some (.aload_n 0) := rfl
set_option maxRecDepth 100000 in
theorem yr8s_215 : j_code jP 61 215 = some (.getfield 45) := rfl
set_option maxRecDepth 100000 in
theorem yr8s_218 : j_code jP 61 218 = some (.arraylength) := rfl
set_option maxRecDepth 100000 in
theorem yr8s_219 : j_code jP 61 219 = some (.invokestatic 84) := rfl
set_option maxRecDepth 100000 in
theorem yr8s_222 : j_code jP 61 222 = some (.aload_n 0) := rfl
set_option maxRecDepth 100000 in
theorem yr8s_223 : j_code jP 61 223 = some (.getfield 60) := rfl
set_option maxRecDepth 100000 in
theorem yr8s_226 : j_code jP 61 226 = some (.aload_n 1) := rfl
set_option maxRecDepth 100000 in
theorem yr8s_227 : j_code jP 61 227 = some (.getfield 60) := rfl
set_option maxRecDepth 100000 in
theorem yr8s_230 : j_code jP 61 230 = some (.invokevirtual 108) := rfl
set_option maxRecDepth 100000 in
theorem yr8s_233 : j_code jP 61 233 = some (.return_) := rfl
set_option maxRecDepth 1000000 in
theorem yr8s_k0 {ly : Value} {mi : Int32} {shu : Int32} {bus : Int32} {lks : Int32} {lys : Nat} {mis : Int32} {shus : Int32} {buss : Int32} {lkss : Int32} {d : Nat} {lv : J_L} {h h0 : J_H} {Q : Option Value → J_H → Prop} (L : LK lv [(0, .ref 231), (1, .ref 4)]) (K : KN h [(4, .inl (7, [.ref lys, .int mis, .int shus, .int buss, .ref 5, .ref 6, .ref 7, .ref 8, .ref 9, .ref 10, .ref 11, .ref 12, .ref 13, .ref 14, .ref 15, .int lkss, .ref 16, .ref 17, .ref 20])), (231, .inl (7, [ly, .int mi, .int shu, .int bus, .ref 232, .ref 233, .ref 234, .ref 235, .ref 236, .ref 237, .ref 238, .ref 239, .ref 240, .ref 241, .ref 242, .int lks, .ref 243, .ref 244, .ref 247]))] h0) (kk : ∀ lv h, LK lv [(0, .ref 231), (1, .ref 4)] → KN h [(4, .inl (7, [.ref lys, .int mis, .int shus, .int buss, .ref 5, .ref 6, .ref 7, .ref 8, .ref 9, .ref 10, .ref 11, .ref 12, .ref 13, .ref 14, .ref 15, .int lkss, .ref 16, .ref 17, .ref 20])), (231, .inl (7, [.ref lys, .int mis, .int shus, .int buss, .ref 232, .ref 233, .ref 234, .ref 235, .ref 236, .ref 237, .ref 238, .ref 239, .ref 240, .ref 241, .ref 242, .int lkss, .ref 243, .ref 244, .ref 247]))] h0 → j_V jP d 61 40 lv [] h Q) : j_V jP d 61 0 lv [] h Q := by
  refine j_V.ldL yr8s_M yr8s_0 rfl (i := 0) (kd := 2) (v := .ref 231) (pcJ := 1) rfl L rfl rfl rfl ?_
  refine j_V.ldL yr8s_M yr8s_1 rfl (i := 1) (kd := 2) (v := .ref 4) (pcJ := 2) rfl L rfl rfl rfl ?_
  refine j_V.getK yr8s_M yr8s_2 (ci := 7) (j := 0) rfl K rfl rfl ?_
  refine j_V.putK yr8s_M yr8s_5 (ci := 7) (j := 0) (k' := [(4, .inl (7, [.ref lys, .int mis, .int shus, .int buss, .ref 5, .ref 6, .ref 7, .ref 8, .ref 9, .ref 10, .ref 11, .ref 12, .ref 13, .ref 14, .ref 15, .int lkss, .ref 16, .ref 17, .ref 20])), (231, .inl (7, [.ref lys, .int mi, .int shu, .int bus, .ref 232, .ref 233, .ref 234, .ref 235, .ref 236, .ref 237, .ref 238, .ref 239, .ref 240, .ref 241, .ref 242, .int lks, .ref 243, .ref 244, .ref 247]))]) rfl K rfl (Nat.le_of_ble_eq_true rfl) rfl (Or.inl rfl) rfl rfl (fun h K => ?_)
  refine j_V.ldL yr8s_M yr8s_8 rfl (i := 0) (kd := 2) (v := .ref 231) (pcJ := 9) rfl L rfl rfl rfl ?_
  refine j_V.ldL yr8s_M yr8s_9 rfl (i := 1) (kd := 2) (v := .ref 4) (pcJ := 10) rfl L rfl rfl rfl ?_
  refine j_V.getK yr8s_M yr8s_10 (ci := 7) (j := 1) rfl K rfl rfl ?_
  refine j_V.putK yr8s_M yr8s_13 (ci := 7) (j := 1) (k' := [(4, .inl (7, [.ref lys, .int mis, .int shus, .int buss, .ref 5, .ref 6, .ref 7, .ref 8, .ref 9, .ref 10, .ref 11, .ref 12, .ref 13, .ref 14, .ref 15, .int lkss, .ref 16, .ref 17, .ref 20])), (231, .inl (7, [.ref lys, .int mis, .int shu, .int bus, .ref 232, .ref 233, .ref 234, .ref 235, .ref 236, .ref 237, .ref 238, .ref 239, .ref 240, .ref 241, .ref 242, .int lks, .ref 243, .ref 244, .ref 247]))]) rfl K rfl (Nat.le_of_ble_eq_true rfl) rfl (Or.inl rfl) rfl rfl (fun h K => ?_)
  refine j_V.ldL yr8s_M yr8s_16 rfl (i := 0) (kd := 2) (v := .ref 231) (pcJ := 17) rfl L rfl rfl rfl ?_
  refine j_V.ldL yr8s_M yr8s_17 rfl (i := 1) (kd := 2) (v := .ref 4) (pcJ := 18) rfl L rfl rfl rfl ?_
  refine j_V.getK yr8s_M yr8s_18 (ci := 7) (j := 2) rfl K rfl rfl ?_
  refine j_V.putK yr8s_M yr8s_21 (ci := 7) (j := 2) (k' := [(4, .inl (7, [.ref lys, .int mis, .int shus, .int buss, .ref 5, .ref 6, .ref 7, .ref 8, .ref 9, .ref 10, .ref 11, .ref 12, .ref 13, .ref 14, .ref 15, .int lkss, .ref 16, .ref 17, .ref 20])), (231, .inl (7, [.ref lys, .int mis, .int shus, .int bus, .ref 232, .ref 233, .ref 234, .ref 235, .ref 236, .ref 237, .ref 238, .ref 239, .ref 240, .ref 241, .ref 242, .int lks, .ref 243, .ref 244, .ref 247]))]) rfl K rfl (Nat.le_of_ble_eq_true rfl) rfl (Or.inl rfl) rfl rfl (fun h K => ?_)
  refine j_V.ldL yr8s_M yr8s_24 rfl (i := 0) (kd := 2) (v := .ref 231) (pcJ := 25) rfl L rfl rfl rfl ?_
  refine j_V.ldL yr8s_M yr8s_25 rfl (i := 1) (kd := 2) (v := .ref 4) (pcJ := 26) rfl L rfl rfl rfl ?_
  refine j_V.getK yr8s_M yr8s_26 (ci := 7) (j := 3) rfl K rfl rfl ?_
  refine j_V.putK yr8s_M yr8s_29 (ci := 7) (j := 3) (k' := [(4, .inl (7, [.ref lys, .int mis, .int shus, .int buss, .ref 5, .ref 6, .ref 7, .ref 8, .ref 9, .ref 10, .ref 11, .ref 12, .ref 13, .ref 14, .ref 15, .int lkss, .ref 16, .ref 17, .ref 20])), (231, .inl (7, [.ref lys, .int mis, .int shus, .int buss, .ref 232, .ref 233, .ref 234, .ref 235, .ref 236, .ref 237, .ref 238, .ref 239, .ref 240, .ref 241, .ref 242, .int lks, .ref 243, .ref 244, .ref 247]))]) rfl K rfl (Nat.le_of_ble_eq_true rfl) rfl (Or.inl rfl) rfl rfl (fun h K => ?_)
  refine j_V.ldL yr8s_M yr8s_32 rfl (i := 0) (kd := 2) (v := .ref 231) (pcJ := 33) rfl L rfl rfl rfl ?_
  refine j_V.ldL yr8s_M yr8s_33 rfl (i := 1) (kd := 2) (v := .ref 4) (pcJ := 34) rfl L rfl rfl rfl ?_
  refine j_V.getK yr8s_M yr8s_34 (ci := 7) (j := 15) rfl K rfl rfl ?_
  refine j_V.putK yr8s_M yr8s_37 (ci := 7) (j := 15) (k' := [(4, .inl (7, [.ref lys, .int mis, .int shus, .int buss, .ref 5, .ref 6, .ref 7, .ref 8, .ref 9, .ref 10, .ref 11, .ref 12, .ref 13, .ref 14, .ref 15, .int lkss, .ref 16, .ref 17, .ref 20])), (231, .inl (7, [.ref lys, .int mis, .int shus, .int buss, .ref 232, .ref 233, .ref 234, .ref 235, .ref 236, .ref 237, .ref 238, .ref 239, .ref 240, .ref 241, .ref 242, .int lkss, .ref 243, .ref 244, .ref 247]))]) rfl K rfl (Nat.le_of_ble_eq_true rfl) rfl (Or.inl rfl) rfl rfl (fun h K => ?_)
  exact kk _ _ L K
set_option maxRecDepth 1000000 in
theorem yr8s_k40 {rk : List Int32} {sta : List Int32} {ph : List Int32} {lys : Nat} {mis : Int32} {shus : Int32} {buss : Int32} {lkss : Int32} {rks : List Int32} {stas : List Int32} {phs : List Int32} {d : Nat} {lv : J_L} {h h0 : J_H} {Q : Option Value → J_H → Prop} (L : LK lv [(0, .ref 231), (1, .ref 4)]) (K : KN h [(4, .inl (7, [.ref lys, .int mis, .int shus, .int buss, .ref 5, .ref 6, .ref 7, .ref 8, .ref 9, .ref 10, .ref 11, .ref 12, .ref 13, .ref 14, .ref 15, .int lkss, .ref 16, .ref 17, .ref 20])), (5, .inr (.inl (0, rks))), (6, .inr (.inl (0, stas))), (7, .inr (.inl (0, phs))), (231, .inl (7, [.ref lys, .int mis, .int shus, .int buss, .ref 232, .ref 233, .ref 234, .ref 235, .ref 236, .ref 237, .ref 238, .ref 239, .ref 240, .ref 241, .ref 242, .int lkss, .ref 243, .ref 244, .ref 247])), (232, .inr (.inl (0, rk))), (233, .inr (.inl (0, sta))), (234, .inr (.inl (0, ph)))] h0) (kk : ∀ lv h, LK lv [(0, .ref 231), (1, .ref 4)] → KN h [(4, .inl (7, [.ref lys, .int mis, .int shus, .int buss, .ref 5, .ref 6, .ref 7, .ref 8, .ref 9, .ref 10, .ref 11, .ref 12, .ref 13, .ref 14, .ref 15, .int lkss, .ref 16, .ref 17, .ref 20])), (5, .inr (.inl (0, rks))), (6, .inr (.inl (0, stas))), (7, .inr (.inl (0, phs))), (231, .inl (7, [.ref lys, .int mis, .int shus, .int buss, .ref 232, .ref 233, .ref 234, .ref 235, .ref 236, .ref 237, .ref 238, .ref 239, .ref 240, .ref 241, .ref 242, .int lkss, .ref 243, .ref 244, .ref 247])), (232, .inr (.inl (0, (aC 5 rks rk)))), (233, .inr (.inl (0, (aC 5 stas sta)))), (234, .inr (.inl (0, (aC 5 phs ph))))] h0 → j_V jP d 61 82 lv [] h Q) : j_V jP d 61 40 lv [] h Q := by
  refine j_V.ldL yr8s_M yr8s_40 rfl (i := 1) (kd := 2) (v := .ref 4) (pcJ := 41) rfl L rfl rfl rfl ?_
  refine j_V.getK yr8s_M yr8s_41 (ci := 7) (j := 4) rfl K rfl rfl ?_
  refine j_V.one yr8s_M yr8s_44 (by decide) (pcJ := 45) (stJ := [.int 0, .ref 5]) rfl ?_
  refine j_V.ldL yr8s_M yr8s_45 rfl (i := 0) (kd := 2) (v := .ref 231) (pcJ := 46) rfl L rfl rfl rfl ?_
  refine j_V.getK yr8s_M yr8s_46 (ci := 7) (j := 4) rfl K rfl rfl ?_
  refine j_V.one yr8s_M yr8s_49 (by decide) (pcJ := 50) (stJ := [.int 0, .ref 232, .int 0, .ref 5]) rfl ?_
  refine j_V.one yr8s_M yr8s_50 (by decide) (pcJ := 51) (stJ := [.int 5, .int 0, .ref 232, .int 0, .ref 5]) rfl ?_
  refine j_V.acp yr8s_M yr8s_51 rfl rfl K rfl rfl rfl (fun h K => ?_)
  refine j_V.ldL yr8s_M yr8s_54 rfl (i := 1) (kd := 2) (v := .ref 4) (pcJ := 55) rfl L rfl rfl rfl ?_
  refine j_V.getK yr8s_M yr8s_55 (ci := 7) (j := 5) rfl K rfl rfl ?_
  refine j_V.one yr8s_M yr8s_58 (by decide) (pcJ := 59) (stJ := [.int 0, .ref 6]) rfl ?_
  refine j_V.ldL yr8s_M yr8s_59 rfl (i := 0) (kd := 2) (v := .ref 231) (pcJ := 60) rfl L rfl rfl rfl ?_
  refine j_V.getK yr8s_M yr8s_60 (ci := 7) (j := 5) rfl K rfl rfl ?_
  refine j_V.one yr8s_M yr8s_63 (by decide) (pcJ := 64) (stJ := [.int 0, .ref 233, .int 0, .ref 6]) rfl ?_
  refine j_V.one yr8s_M yr8s_64 (by decide) (pcJ := 65) (stJ := [.int 5, .int 0, .ref 233, .int 0, .ref 6]) rfl ?_
  refine j_V.acp yr8s_M yr8s_65 rfl rfl K rfl rfl rfl (fun h K => ?_)
  refine j_V.ldL yr8s_M yr8s_68 rfl (i := 1) (kd := 2) (v := .ref 4) (pcJ := 69) rfl L rfl rfl rfl ?_
  refine j_V.getK yr8s_M yr8s_69 (ci := 7) (j := 6) rfl K rfl rfl ?_
  refine j_V.one yr8s_M yr8s_72 (by decide) (pcJ := 73) (stJ := [.int 0, .ref 7]) rfl ?_
  refine j_V.ldL yr8s_M yr8s_73 rfl (i := 0) (kd := 2) (v := .ref 231) (pcJ := 74) rfl L rfl rfl rfl ?_
  refine j_V.getK yr8s_M yr8s_74 (ci := 7) (j := 6) rfl K rfl rfl ?_
  refine j_V.one yr8s_M yr8s_77 (by decide) (pcJ := 78) (stJ := [.int 0, .ref 234, .int 0, .ref 7]) rfl ?_
  refine j_V.one yr8s_M yr8s_78 (by decide) (pcJ := 79) (stJ := [.int 5, .int 0, .ref 234, .int 0, .ref 7]) rfl ?_
  refine j_V.acp yr8s_M yr8s_79 rfl rfl K rfl rfl rfl (fun h K => ?_)
  exact kk _ _ L K
set_option maxRecDepth 1000000 in
theorem yr8s_k82 {sp : List Int32} {ce : List Int32} {du : List Int32} {lys : Nat} {mis : Int32} {shus : Int32} {buss : Int32} {lkss : Int32} {sps : List Int32} {ces : List Int32} {dus : List Int32} {d : Nat} {lv : J_L} {h h0 : J_H} {Q : Option Value → J_H → Prop} (L : LK lv [(0, .ref 231), (1, .ref 4)]) (K : KN h [(4, .inl (7, [.ref lys, .int mis, .int shus, .int buss, .ref 5, .ref 6, .ref 7, .ref 8, .ref 9, .ref 10, .ref 11, .ref 12, .ref 13, .ref 14, .ref 15, .int lkss, .ref 16, .ref 17, .ref 20])), (8, .inr (.inl (0, sps))), (9, .inr (.inl (0, ces))), (10, .inr (.inl (0, dus))), (231, .inl (7, [.ref lys, .int mis, .int shus, .int buss, .ref 232, .ref 233, .ref 234, .ref 235, .ref 236, .ref 237, .ref 238, .ref 239, .ref 240, .ref 241, .ref 242, .int lkss, .ref 243, .ref 244, .ref 247])), (235, .inr (.inl (0, sp))), (236, .inr (.inl (0, ce))), (237, .inr (.inl (0, du)))] h0) (kk : ∀ lv h, LK lv [(0, .ref 231), (1, .ref 4)] → KN h [(4, .inl (7, [.ref lys, .int mis, .int shus, .int buss, .ref 5, .ref 6, .ref 7, .ref 8, .ref 9, .ref 10, .ref 11, .ref 12, .ref 13, .ref 14, .ref 15, .int lkss, .ref 16, .ref 17, .ref 20])), (8, .inr (.inl (0, sps))), (9, .inr (.inl (0, ces))), (10, .inr (.inl (0, dus))), (231, .inl (7, [.ref lys, .int mis, .int shus, .int buss, .ref 232, .ref 233, .ref 234, .ref 235, .ref 236, .ref 237, .ref 238, .ref 239, .ref 240, .ref 241, .ref 242, .int lkss, .ref 243, .ref 244, .ref 247])), (235, .inr (.inl (0, (aC 5 sps sp)))), (236, .inr (.inl (0, (aC 5 ces ce)))), (237, .inr (.inl (0, (aC 5 dus du))))] h0 → j_V jP d 61 124 lv [] h Q) : j_V jP d 61 82 lv [] h Q := by
  refine j_V.ldL yr8s_M yr8s_82 rfl (i := 1) (kd := 2) (v := .ref 4) (pcJ := 83) rfl L rfl rfl rfl ?_
  refine j_V.getK yr8s_M yr8s_83 (ci := 7) (j := 7) rfl K rfl rfl ?_
  refine j_V.one yr8s_M yr8s_86 (by decide) (pcJ := 87) (stJ := [.int 0, .ref 8]) rfl ?_
  refine j_V.ldL yr8s_M yr8s_87 rfl (i := 0) (kd := 2) (v := .ref 231) (pcJ := 88) rfl L rfl rfl rfl ?_
  refine j_V.getK yr8s_M yr8s_88 (ci := 7) (j := 7) rfl K rfl rfl ?_
  refine j_V.one yr8s_M yr8s_91 (by decide) (pcJ := 92) (stJ := [.int 0, .ref 235, .int 0, .ref 8]) rfl ?_
  refine j_V.one yr8s_M yr8s_92 (by decide) (pcJ := 93) (stJ := [.int 5, .int 0, .ref 235, .int 0, .ref 8]) rfl ?_
  refine j_V.acp yr8s_M yr8s_93 rfl rfl K rfl rfl rfl (fun h K => ?_)
  refine j_V.ldL yr8s_M yr8s_96 rfl (i := 1) (kd := 2) (v := .ref 4) (pcJ := 97) rfl L rfl rfl rfl ?_
  refine j_V.getK yr8s_M yr8s_97 (ci := 7) (j := 8) rfl K rfl rfl ?_
  refine j_V.one yr8s_M yr8s_100 (by decide) (pcJ := 101) (stJ := [.int 0, .ref 9]) rfl ?_
  refine j_V.ldL yr8s_M yr8s_101 rfl (i := 0) (kd := 2) (v := .ref 231) (pcJ := 102) rfl L rfl rfl rfl ?_
  refine j_V.getK yr8s_M yr8s_102 (ci := 7) (j := 8) rfl K rfl rfl ?_
  refine j_V.one yr8s_M yr8s_105 (by decide) (pcJ := 106) (stJ := [.int 0, .ref 236, .int 0, .ref 9]) rfl ?_
  refine j_V.one yr8s_M yr8s_106 (by decide) (pcJ := 107) (stJ := [.int 5, .int 0, .ref 236, .int 0, .ref 9]) rfl ?_
  refine j_V.acp yr8s_M yr8s_107 rfl rfl K rfl rfl rfl (fun h K => ?_)
  refine j_V.ldL yr8s_M yr8s_110 rfl (i := 1) (kd := 2) (v := .ref 4) (pcJ := 111) rfl L rfl rfl rfl ?_
  refine j_V.getK yr8s_M yr8s_111 (ci := 7) (j := 9) rfl K rfl rfl ?_
  refine j_V.one yr8s_M yr8s_114 (by decide) (pcJ := 115) (stJ := [.int 0, .ref 10]) rfl ?_
  refine j_V.ldL yr8s_M yr8s_115 rfl (i := 0) (kd := 2) (v := .ref 231) (pcJ := 116) rfl L rfl rfl rfl ?_
  refine j_V.getK yr8s_M yr8s_116 (ci := 7) (j := 9) rfl K rfl rfl ?_
  refine j_V.one yr8s_M yr8s_119 (by decide) (pcJ := 120) (stJ := [.int 0, .ref 237, .int 0, .ref 10]) rfl ?_
  refine j_V.one yr8s_M yr8s_120 (by decide) (pcJ := 121) (stJ := [.int 5, .int 0, .ref 237, .int 0, .ref 10]) rfl ?_
  refine j_V.acp yr8s_M yr8s_121 rfl rfl K rfl rfl rfl (fun h K => ?_)
  exact kk _ _ L K
set_option maxRecDepth 1000000 in
theorem yr8s_k124 {he : List Int32} {ri : List Int32} {us : List Int32} {lys : Nat} {mis : Int32} {shus : Int32} {buss : Int32} {lkss : Int32} {hes : List Int32} {ris : List Int32} {uss : List Int32} {d : Nat} {lv : J_L} {h h0 : J_H} {Q : Option Value → J_H → Prop} (L : LK lv [(0, .ref 231), (1, .ref 4)]) (K : KN h [(4, .inl (7, [.ref lys, .int mis, .int shus, .int buss, .ref 5, .ref 6, .ref 7, .ref 8, .ref 9, .ref 10, .ref 11, .ref 12, .ref 13, .ref 14, .ref 15, .int lkss, .ref 16, .ref 17, .ref 20])), (11, .inr (.inl (0, hes))), (12, .inr (.inl (0, ris))), (13, .inr (.inl (0, uss))), (231, .inl (7, [.ref lys, .int mis, .int shus, .int buss, .ref 232, .ref 233, .ref 234, .ref 235, .ref 236, .ref 237, .ref 238, .ref 239, .ref 240, .ref 241, .ref 242, .int lkss, .ref 243, .ref 244, .ref 247])), (238, .inr (.inl (0, he))), (239, .inr (.inl (0, ri))), (240, .inr (.inl (0, us)))] h0) (kk : ∀ lv h, LK lv [(0, .ref 231), (1, .ref 4)] → KN h [(4, .inl (7, [.ref lys, .int mis, .int shus, .int buss, .ref 5, .ref 6, .ref 7, .ref 8, .ref 9, .ref 10, .ref 11, .ref 12, .ref 13, .ref 14, .ref 15, .int lkss, .ref 16, .ref 17, .ref 20])), (11, .inr (.inl (0, hes))), (12, .inr (.inl (0, ris))), (13, .inr (.inl (0, uss))), (231, .inl (7, [.ref lys, .int mis, .int shus, .int buss, .ref 232, .ref 233, .ref 234, .ref 235, .ref 236, .ref 237, .ref 238, .ref 239, .ref 240, .ref 241, .ref 242, .int lkss, .ref 243, .ref 244, .ref 247])), (238, .inr (.inl (0, (aC 5 hes he)))), (239, .inr (.inl (0, (aC 6 ris ri)))), (240, .inr (.inl (0, (aC 6 uss us))))] h0 → j_V jP d 61 168 lv [] h Q) : j_V jP d 61 124 lv [] h Q := by
  refine j_V.ldL yr8s_M yr8s_124 rfl (i := 1) (kd := 2) (v := .ref 4) (pcJ := 125) rfl L rfl rfl rfl ?_
  refine j_V.getK yr8s_M yr8s_125 (ci := 7) (j := 10) rfl K rfl rfl ?_
  refine j_V.one yr8s_M yr8s_128 (by decide) (pcJ := 129) (stJ := [.int 0, .ref 11]) rfl ?_
  refine j_V.ldL yr8s_M yr8s_129 rfl (i := 0) (kd := 2) (v := .ref 231) (pcJ := 130) rfl L rfl rfl rfl ?_
  refine j_V.getK yr8s_M yr8s_130 (ci := 7) (j := 10) rfl K rfl rfl ?_
  refine j_V.one yr8s_M yr8s_133 (by decide) (pcJ := 134) (stJ := [.int 0, .ref 238, .int 0, .ref 11]) rfl ?_
  refine j_V.one yr8s_M yr8s_134 (by decide) (pcJ := 135) (stJ := [.int 5, .int 0, .ref 238, .int 0, .ref 11]) rfl ?_
  refine j_V.acp yr8s_M yr8s_135 rfl rfl K rfl rfl rfl (fun h K => ?_)
  refine j_V.ldL yr8s_M yr8s_138 rfl (i := 1) (kd := 2) (v := .ref 4) (pcJ := 139) rfl L rfl rfl rfl ?_
  refine j_V.getK yr8s_M yr8s_139 (ci := 7) (j := 11) rfl K rfl rfl ?_
  refine j_V.one yr8s_M yr8s_142 (by decide) (pcJ := 143) (stJ := [.int 0, .ref 12]) rfl ?_
  refine j_V.ldL yr8s_M yr8s_143 rfl (i := 0) (kd := 2) (v := .ref 231) (pcJ := 144) rfl L rfl rfl rfl ?_
  refine j_V.getK yr8s_M yr8s_144 (ci := 7) (j := 11) rfl K rfl rfl ?_
  refine j_V.one yr8s_M yr8s_147 (by decide) (pcJ := 148) (stJ := [.int 0, .ref 239, .int 0, .ref 12]) rfl ?_
  refine j_V.one yr8s_M yr8s_148 (by decide) (pcJ := 150) (stJ := [.int 6, .int 0, .ref 239, .int 0, .ref 12]) rfl ?_
  refine j_V.acp yr8s_M yr8s_150 rfl rfl K rfl rfl rfl (fun h K => ?_)
  refine j_V.ldL yr8s_M yr8s_153 rfl (i := 1) (kd := 2) (v := .ref 4) (pcJ := 154) rfl L rfl rfl rfl ?_
  refine j_V.getK yr8s_M yr8s_154 (ci := 7) (j := 12) rfl K rfl rfl ?_
  refine j_V.one yr8s_M yr8s_157 (by decide) (pcJ := 158) (stJ := [.int 0, .ref 13]) rfl ?_
  refine j_V.ldL yr8s_M yr8s_158 rfl (i := 0) (kd := 2) (v := .ref 231) (pcJ := 159) rfl L rfl rfl rfl ?_
  refine j_V.getK yr8s_M yr8s_159 (ci := 7) (j := 12) rfl K rfl rfl ?_
  refine j_V.one yr8s_M yr8s_162 (by decide) (pcJ := 163) (stJ := [.int 0, .ref 240, .int 0, .ref 13]) rfl ?_
  refine j_V.one yr8s_M yr8s_163 (by decide) (pcJ := 165) (stJ := [.int 6, .int 0, .ref 240, .int 0, .ref 13]) rfl ?_
  refine j_V.acp yr8s_M yr8s_165 rfl rfl K rfl rfl rfl (fun h K => ?_)
  exact kk _ _ L K
set_option maxRecDepth 1000000 in
theorem yr8s_k168 {cm : List Int32} {lf : List Int32} {lkd : List Int32} {lys : Nat} {mis : Int32} {shus : Int32} {buss : Int32} {lkss : Int32} {cms : List Int32} {lfs : List Int32} {lkds : List Int32} {d : Nat} {lv : J_L} {h h0 : J_H} {Q : Option Value → J_H → Prop} (L : LK lv [(0, .ref 231), (1, .ref 4)]) (K : KN h [(4, .inl (7, [.ref lys, .int mis, .int shus, .int buss, .ref 5, .ref 6, .ref 7, .ref 8, .ref 9, .ref 10, .ref 11, .ref 12, .ref 13, .ref 14, .ref 15, .int lkss, .ref 16, .ref 17, .ref 20])), (14, .inr (.inl (0, cms))), (15, .inr (.inl (0, lfs))), (16, .inr (.inl (0, lkds))), (231, .inl (7, [.ref lys, .int mis, .int shus, .int buss, .ref 232, .ref 233, .ref 234, .ref 235, .ref 236, .ref 237, .ref 238, .ref 239, .ref 240, .ref 241, .ref 242, .int lkss, .ref 243, .ref 244, .ref 247])), (241, .inr (.inl (0, cm))), (242, .inr (.inl (0, lf))), (243, .inr (.inl (0, lkd)))] h0) (kk : ∀ lv h, LK lv [(0, .ref 231), (1, .ref 4)] → KN h [(4, .inl (7, [.ref lys, .int mis, .int shus, .int buss, .ref 5, .ref 6, .ref 7, .ref 8, .ref 9, .ref 10, .ref 11, .ref 12, .ref 13, .ref 14, .ref 15, .int lkss, .ref 16, .ref 17, .ref 20])), (14, .inr (.inl (0, cms))), (15, .inr (.inl (0, lfs))), (16, .inr (.inl (0, lkds))), (231, .inl (7, [.ref lys, .int mis, .int shus, .int buss, .ref 232, .ref 233, .ref 234, .ref 235, .ref 236, .ref 237, .ref 238, .ref 239, .ref 240, .ref 241, .ref 242, .int lkss, .ref 243, .ref 244, .ref 247])), (241, .inr (.inl (0, (aC (nI cm.length) cms cm)))), (242, .inr (.inl (0, (aC (nI lf.length) lfs lf)))), (243, .inr (.inl (0, (aC (nI lkd.length) lkds lkd))))] h0 → j_V jP d 61 222 lv [] h Q) : j_V jP d 61 168 lv [] h Q := by
  refine j_V.ldL yr8s_M yr8s_168 rfl (i := 1) (kd := 2) (v := .ref 4) (pcJ := 169) rfl L rfl rfl rfl ?_
  refine j_V.getK yr8s_M yr8s_169 (ci := 7) (j := 13) rfl K rfl rfl ?_
  refine j_V.one yr8s_M yr8s_172 (by decide) (pcJ := 173) (stJ := [.int 0, .ref 14]) rfl ?_
  refine j_V.ldL yr8s_M yr8s_173 rfl (i := 0) (kd := 2) (v := .ref 231) (pcJ := 174) rfl L rfl rfl rfl ?_
  refine j_V.getK yr8s_M yr8s_174 (ci := 7) (j := 13) rfl K rfl rfl ?_
  refine j_V.one yr8s_M yr8s_177 (by decide) (pcJ := 178) (stJ := [.int 0, .ref 241, .int 0, .ref 14]) rfl ?_
  refine j_V.ldL yr8s_M yr8s_178 rfl (i := 0) (kd := 2) (v := .ref 231) (pcJ := 179) rfl L rfl rfl rfl ?_
  refine j_V.getK yr8s_M yr8s_179 (ci := 7) (j := 13) rfl K rfl rfl ?_
  refine j_V.alnA yr8s_M yr8s_182 K rfl ?_
  refine j_V.acp yr8s_M yr8s_183 rfl rfl K rfl rfl rfl (fun h K => ?_)
  refine j_V.ldL yr8s_M yr8s_186 rfl (i := 1) (kd := 2) (v := .ref 4) (pcJ := 187) rfl L rfl rfl rfl ?_
  refine j_V.getK yr8s_M yr8s_187 (ci := 7) (j := 14) rfl K rfl rfl ?_
  refine j_V.one yr8s_M yr8s_190 (by decide) (pcJ := 191) (stJ := [.int 0, .ref 15]) rfl ?_
  refine j_V.ldL yr8s_M yr8s_191 rfl (i := 0) (kd := 2) (v := .ref 231) (pcJ := 192) rfl L rfl rfl rfl ?_
  refine j_V.getK yr8s_M yr8s_192 (ci := 7) (j := 14) rfl K rfl rfl ?_
  refine j_V.one yr8s_M yr8s_195 (by decide) (pcJ := 196) (stJ := [.int 0, .ref 242, .int 0, .ref 15]) rfl ?_
  refine j_V.ldL yr8s_M yr8s_196 rfl (i := 0) (kd := 2) (v := .ref 231) (pcJ := 197) rfl L rfl rfl rfl ?_
  refine j_V.getK yr8s_M yr8s_197 (ci := 7) (j := 14) rfl K rfl rfl ?_
  refine j_V.alnA yr8s_M yr8s_200 K rfl ?_
  refine j_V.acp yr8s_M yr8s_201 rfl rfl K rfl rfl rfl (fun h K => ?_)
  refine j_V.ldL yr8s_M yr8s_204 rfl (i := 1) (kd := 2) (v := .ref 4) (pcJ := 205) rfl L rfl rfl rfl ?_
  refine j_V.getK yr8s_M yr8s_205 (ci := 7) (j := 16) rfl K rfl rfl ?_
  refine j_V.one yr8s_M yr8s_208 (by decide) (pcJ := 209) (stJ := [.int 0, .ref 16]) rfl ?_
  refine j_V.ldL yr8s_M yr8s_209 rfl (i := 0) (kd := 2) (v := .ref 231) (pcJ := 210) rfl L rfl rfl rfl ?_
  refine j_V.getK yr8s_M yr8s_210 (ci := 7) (j := 16) rfl K rfl rfl ?_
  refine j_V.one yr8s_M yr8s_213 (by decide) (pcJ := 214) (stJ := [.int 0, .ref 243, .int 0, .ref 16]) rfl ?_
  refine j_V.ldL yr8s_M yr8s_214 rfl (i := 0) (kd := 2) (v := .ref 231) (pcJ := 215) rfl L rfl rfl rfl ?_
  refine j_V.getK yr8s_M yr8s_215 (ci := 7) (j := 16) rfl K rfl rfl ?_
  refine j_V.alnA yr8s_M yr8s_218 K rfl ?_
  refine j_V.acp yr8s_M yr8s_219 rfl rfl K rfl rfl rfl (fun h K => ?_)
  exact kk _ _ L K
set_option maxRecDepth 1000000 in
theorem yr8s_ok {ly : Value} {mi : Int32} {shu : Int32} {bus : Int32} {lks : Int32} {rk : List Int32} {sta : List Int32} {ph : List Int32} {sp : List Int32} {ce : List Int32} {du : List Int32} {he : List Int32} {ri : List Int32} {us : List Int32} {cm : List Int32} {lf : List Int32} {lkd : List Int32} {pev : Int32} {pms : List Int32} {pmm : List Int32} {pmt : List Int32} {pst : List Int32} {pwa : List Int32} {prs : List Int32} {prr : List Int32} {pfa : List Int32} {lys : Nat} {mis : Int32} {shus : Int32} {buss : Int32} {lkss : Int32} {rks : List Int32} {stas : List Int32} {phs : List Int32} {sps : List Int32} {ces : List Int32} {dus : List Int32} {hes : List Int32} {ris : List Int32} {uss : List Int32} {cms : List Int32} {lfs : List Int32} {lkds : List Int32} {pevs : Int32} {pmss : List Int32} {pmms : List Int32} {pmts : List Int32} {psts : List Int32} {pwas : List Int32} {prss : List Int32} {prrs : List Int32} {pfas : List Int32} {d : Nat} {h h0 : J_H} (K : KN h [(4, .inl (7, [.ref lys, .int mis, .int shus, .int buss, .ref 5, .ref 6, .ref 7, .ref 8, .ref 9, .ref 10, .ref 11, .ref 12, .ref 13, .ref 14, .ref 15, .int lkss, .ref 16, .ref 17, .ref 20])), (5, .inr (.inl (0, rks))), (6, .inr (.inl (0, stas))), (7, .inr (.inl (0, phs))), (8, .inr (.inl (0, sps))), (9, .inr (.inl (0, ces))), (10, .inr (.inl (0, dus))), (11, .inr (.inl (0, hes))), (12, .inr (.inl (0, ris))), (13, .inr (.inl (0, uss))), (14, .inr (.inl (0, cms))), (15, .inr (.inl (0, lfs))), (16, .inr (.inl (0, lkds))), (20, .inl (3, [.ref 21, .ref 22, .ref 23, .ref 24, .ref 25, .ref 26, .ref 27, .ref 28, .int pevs, .int 1])), (21, .inr (.inl (0, pmss))), (22, .inr (.inl (0, pmms))), (23, .inr (.inl (0, pmts))), (24, .inr (.inl (0, psts))), (25, .inr (.inl (0, pwas))), (26, .inr (.inl (0, prss))), (27, .inr (.inl (0, prrs))), (28, .inr (.inl (0, pfas))), (231, .inl (7, [ly, .int mi, .int shu, .int bus, .ref 232, .ref 233, .ref 234, .ref 235, .ref 236, .ref 237, .ref 238, .ref 239, .ref 240, .ref 241, .ref 242, .int lks, .ref 243, .ref 244, .ref 247])), (232, .inr (.inl (0, rk))), (233, .inr (.inl (0, sta))), (234, .inr (.inl (0, ph))), (235, .inr (.inl (0, sp))), (236, .inr (.inl (0, ce))), (237, .inr (.inl (0, du))), (238, .inr (.inl (0, he))), (239, .inr (.inl (0, ri))), (240, .inr (.inl (0, us))), (241, .inr (.inl (0, cm))), (242, .inr (.inl (0, lf))), (243, .inr (.inl (0, lkd))), (247, .inl (3, [.ref 248, .ref 249, .ref 250, .ref 251, .ref 252, .ref 253, .ref 254, .ref 255, .int pev, .int 1])), (248, .inr (.inl (0, pms))), (249, .inr (.inl (0, pmm))), (250, .inr (.inl (0, pmt))), (251, .inr (.inl (0, pst))), (252, .inr (.inl (0, pwa))), (253, .inr (.inl (0, prs))), (254, .inr (.inl (0, prr))), (255, .inr (.inl (0, pfa)))] h0) : j_V jP d 61 0 (lv_args 0 [.ref 231, .ref 4]) [] h (fun rv h' => rv = none ∧ KN h' [(4, .inl (7, [.ref lys, .int mis, .int shus, .int buss, .ref 5, .ref 6, .ref 7, .ref 8, .ref 9, .ref 10, .ref 11, .ref 12, .ref 13, .ref 14, .ref 15, .int lkss, .ref 16, .ref 17, .ref 20])), (5, .inr (.inl (0, rks))), (6, .inr (.inl (0, stas))), (7, .inr (.inl (0, phs))), (8, .inr (.inl (0, sps))), (9, .inr (.inl (0, ces))), (10, .inr (.inl (0, dus))), (11, .inr (.inl (0, hes))), (12, .inr (.inl (0, ris))), (13, .inr (.inl (0, uss))), (14, .inr (.inl (0, cms))), (15, .inr (.inl (0, lfs))), (16, .inr (.inl (0, lkds))), (20, .inl (3, [.ref 21, .ref 22, .ref 23, .ref 24, .ref 25, .ref 26, .ref 27, .ref 28, .int pevs, .int 1])), (21, .inr (.inl (0, pmss))), (22, .inr (.inl (0, pmms))), (23, .inr (.inl (0, pmts))), (24, .inr (.inl (0, psts))), (25, .inr (.inl (0, pwas))), (26, .inr (.inl (0, prss))), (27, .inr (.inl (0, prrs))), (28, .inr (.inl (0, pfas))), (231, .inl (7, [.ref lys, .int mis, .int shus, .int buss, .ref 232, .ref 233, .ref 234, .ref 235, .ref 236, .ref 237, .ref 238, .ref 239, .ref 240, .ref 241, .ref 242, .int lkss, .ref 243, .ref 244, .ref 247])), (232, .inr (.inl (0, (aC 5 rks rk)))), (233, .inr (.inl (0, (aC 5 stas sta)))), (234, .inr (.inl (0, (aC 5 phs ph)))), (235, .inr (.inl (0, (aC 5 sps sp)))), (236, .inr (.inl (0, (aC 5 ces ce)))), (237, .inr (.inl (0, (aC 5 dus du)))), (238, .inr (.inl (0, (aC 5 hes he)))), (239, .inr (.inl (0, (aC 6 ris ri)))), (240, .inr (.inl (0, (aC 6 uss us)))), (241, .inr (.inl (0, (aC (nI cm.length) cms cm)))), (242, .inr (.inl (0, (aC (nI lf.length) lfs lf)))), (243, .inr (.inl (0, (aC (nI lkd.length) lkds lkd)))), (247, .inl (3, [.ref 248, .ref 249, .ref 250, .ref 251, .ref 252, .ref 253, .ref 254, .ref 255, .int pevs, .int 1])), (248, .inr (.inl (0, (aC (nI pms.length) pmss pms)))), (249, .inr (.inl (0, (aC (nI pmm.length) pmms pmm)))), (250, .inr (.inl (0, (aC (nI pmt.length) pmts pmt)))), (251, .inr (.inl (0, (aC (nI pst.length) psts pst)))), (252, .inr (.inl (0, (aC (nI pwa.length) pwas pwa)))), (253, .inr (.inl (0, (aC (nI prs.length) prss prs)))), (254, .inr (.inl (0, (aC (nI prr.length) prrs prr)))), (255, .inr (.inl (0, (aC (nI pfa.length) pfas pfa))))] h0) := by
  show j_V jP d 61 0 [(0, .ref 231), (1, .ref 4)] [] h _
  obtain ⟨lv, elv, L⟩ : ∃ lv, lv = [(0, .ref 231), (1, .ref 4)] ∧ LK lv [(0, .ref 231), (1, .ref 4)] := ⟨_, rfl, LK.rf⟩
  rw [← elv]
  clear elv
  refine yr8s_k0 L (K.fi [4, 231] rfl rfl) (fun lv h9 L K9 => ?_)
  have K : KN h9 [(4, .inl (7, [.ref lys, .int mis, .int shus, .int buss, .ref 5, .ref 6, .ref 7, .ref 8, .ref 9, .ref 10, .ref 11, .ref 12, .ref 13, .ref 14, .ref 15, .int lkss, .ref 16, .ref 17, .ref 20])), (5, .inr (.inl (0, rks))), (6, .inr (.inl (0, stas))), (7, .inr (.inl (0, phs))), (8, .inr (.inl (0, sps))), (9, .inr (.inl (0, ces))), (10, .inr (.inl (0, dus))), (11, .inr (.inl (0, hes))), (12, .inr (.inl (0, ris))), (13, .inr (.inl (0, uss))), (14, .inr (.inl (0, cms))), (15, .inr (.inl (0, lfs))), (16, .inr (.inl (0, lkds))), (20, .inl (3, [.ref 21, .ref 22, .ref 23, .ref 24, .ref 25, .ref 26, .ref 27, .ref 28, .int pevs, .int 1])), (21, .inr (.inl (0, pmss))), (22, .inr (.inl (0, pmms))), (23, .inr (.inl (0, pmts))), (24, .inr (.inl (0, psts))), (25, .inr (.inl (0, pwas))), (26, .inr (.inl (0, prss))), (27, .inr (.inl (0, prrs))), (28, .inr (.inl (0, pfas))), (231, .inl (7, [.ref lys, .int mis, .int shus, .int buss, .ref 232, .ref 233, .ref 234, .ref 235, .ref 236, .ref 237, .ref 238, .ref 239, .ref 240, .ref 241, .ref 242, .int lkss, .ref 243, .ref 244, .ref 247])), (232, .inr (.inl (0, rk))), (233, .inr (.inl (0, sta))), (234, .inr (.inl (0, ph))), (235, .inr (.inl (0, sp))), (236, .inr (.inl (0, ce))), (237, .inr (.inl (0, du))), (238, .inr (.inl (0, he))), (239, .inr (.inl (0, ri))), (240, .inr (.inl (0, us))), (241, .inr (.inl (0, cm))), (242, .inr (.inl (0, lf))), (243, .inr (.inl (0, lkd))), (247, .inl (3, [.ref 248, .ref 249, .ref 250, .ref 251, .ref 252, .ref 253, .ref 254, .ref 255, .int pev, .int 1])), (248, .inr (.inl (0, pms))), (249, .inr (.inl (0, pmm))), (250, .inr (.inl (0, pmt))), (251, .inr (.inl (0, pst))), (252, .inr (.inl (0, pwa))), (253, .inr (.inl (0, prs))), (254, .inr (.inl (0, prr))), (255, .inr (.inl (0, pfa)))] h0 := K.mg K9 rfl rfl
  clear K9
  refine yr8s_k40 L (K.fi [4, 5, 6, 7, 231, 232, 233, 234] rfl rfl) (fun lv h9 L K9 => ?_)
  have K : KN h9 [(4, .inl (7, [.ref lys, .int mis, .int shus, .int buss, .ref 5, .ref 6, .ref 7, .ref 8, .ref 9, .ref 10, .ref 11, .ref 12, .ref 13, .ref 14, .ref 15, .int lkss, .ref 16, .ref 17, .ref 20])), (5, .inr (.inl (0, rks))), (6, .inr (.inl (0, stas))), (7, .inr (.inl (0, phs))), (8, .inr (.inl (0, sps))), (9, .inr (.inl (0, ces))), (10, .inr (.inl (0, dus))), (11, .inr (.inl (0, hes))), (12, .inr (.inl (0, ris))), (13, .inr (.inl (0, uss))), (14, .inr (.inl (0, cms))), (15, .inr (.inl (0, lfs))), (16, .inr (.inl (0, lkds))), (20, .inl (3, [.ref 21, .ref 22, .ref 23, .ref 24, .ref 25, .ref 26, .ref 27, .ref 28, .int pevs, .int 1])), (21, .inr (.inl (0, pmss))), (22, .inr (.inl (0, pmms))), (23, .inr (.inl (0, pmts))), (24, .inr (.inl (0, psts))), (25, .inr (.inl (0, pwas))), (26, .inr (.inl (0, prss))), (27, .inr (.inl (0, prrs))), (28, .inr (.inl (0, pfas))), (231, .inl (7, [.ref lys, .int mis, .int shus, .int buss, .ref 232, .ref 233, .ref 234, .ref 235, .ref 236, .ref 237, .ref 238, .ref 239, .ref 240, .ref 241, .ref 242, .int lkss, .ref 243, .ref 244, .ref 247])), (232, .inr (.inl (0, (aC 5 rks rk)))), (233, .inr (.inl (0, (aC 5 stas sta)))), (234, .inr (.inl (0, (aC 5 phs ph)))), (235, .inr (.inl (0, sp))), (236, .inr (.inl (0, ce))), (237, .inr (.inl (0, du))), (238, .inr (.inl (0, he))), (239, .inr (.inl (0, ri))), (240, .inr (.inl (0, us))), (241, .inr (.inl (0, cm))), (242, .inr (.inl (0, lf))), (243, .inr (.inl (0, lkd))), (247, .inl (3, [.ref 248, .ref 249, .ref 250, .ref 251, .ref 252, .ref 253, .ref 254, .ref 255, .int pev, .int 1])), (248, .inr (.inl (0, pms))), (249, .inr (.inl (0, pmm))), (250, .inr (.inl (0, pmt))), (251, .inr (.inl (0, pst))), (252, .inr (.inl (0, pwa))), (253, .inr (.inl (0, prs))), (254, .inr (.inl (0, prr))), (255, .inr (.inl (0, pfa)))] h0 := K.mg K9 rfl rfl
  clear K9
  refine yr8s_k82 L (K.fi [4, 8, 9, 10, 231, 235, 236, 237] rfl rfl) (fun lv h9 L K9 => ?_)
  have K : KN h9 [(4, .inl (7, [.ref lys, .int mis, .int shus, .int buss, .ref 5, .ref 6, .ref 7, .ref 8, .ref 9, .ref 10, .ref 11, .ref 12, .ref 13, .ref 14, .ref 15, .int lkss, .ref 16, .ref 17, .ref 20])), (5, .inr (.inl (0, rks))), (6, .inr (.inl (0, stas))), (7, .inr (.inl (0, phs))), (8, .inr (.inl (0, sps))), (9, .inr (.inl (0, ces))), (10, .inr (.inl (0, dus))), (11, .inr (.inl (0, hes))), (12, .inr (.inl (0, ris))), (13, .inr (.inl (0, uss))), (14, .inr (.inl (0, cms))), (15, .inr (.inl (0, lfs))), (16, .inr (.inl (0, lkds))), (20, .inl (3, [.ref 21, .ref 22, .ref 23, .ref 24, .ref 25, .ref 26, .ref 27, .ref 28, .int pevs, .int 1])), (21, .inr (.inl (0, pmss))), (22, .inr (.inl (0, pmms))), (23, .inr (.inl (0, pmts))), (24, .inr (.inl (0, psts))), (25, .inr (.inl (0, pwas))), (26, .inr (.inl (0, prss))), (27, .inr (.inl (0, prrs))), (28, .inr (.inl (0, pfas))), (231, .inl (7, [.ref lys, .int mis, .int shus, .int buss, .ref 232, .ref 233, .ref 234, .ref 235, .ref 236, .ref 237, .ref 238, .ref 239, .ref 240, .ref 241, .ref 242, .int lkss, .ref 243, .ref 244, .ref 247])), (232, .inr (.inl (0, (aC 5 rks rk)))), (233, .inr (.inl (0, (aC 5 stas sta)))), (234, .inr (.inl (0, (aC 5 phs ph)))), (235, .inr (.inl (0, (aC 5 sps sp)))), (236, .inr (.inl (0, (aC 5 ces ce)))), (237, .inr (.inl (0, (aC 5 dus du)))), (238, .inr (.inl (0, he))), (239, .inr (.inl (0, ri))), (240, .inr (.inl (0, us))), (241, .inr (.inl (0, cm))), (242, .inr (.inl (0, lf))), (243, .inr (.inl (0, lkd))), (247, .inl (3, [.ref 248, .ref 249, .ref 250, .ref 251, .ref 252, .ref 253, .ref 254, .ref 255, .int pev, .int 1])), (248, .inr (.inl (0, pms))), (249, .inr (.inl (0, pmm))), (250, .inr (.inl (0, pmt))), (251, .inr (.inl (0, pst))), (252, .inr (.inl (0, pwa))), (253, .inr (.inl (0, prs))), (254, .inr (.inl (0, prr))), (255, .inr (.inl (0, pfa)))] h0 := K.mg K9 rfl rfl
  clear K9
  refine yr8s_k124 L (K.fi [4, 11, 12, 13, 231, 238, 239, 240] rfl rfl) (fun lv h9 L K9 => ?_)
  have K : KN h9 [(4, .inl (7, [.ref lys, .int mis, .int shus, .int buss, .ref 5, .ref 6, .ref 7, .ref 8, .ref 9, .ref 10, .ref 11, .ref 12, .ref 13, .ref 14, .ref 15, .int lkss, .ref 16, .ref 17, .ref 20])), (5, .inr (.inl (0, rks))), (6, .inr (.inl (0, stas))), (7, .inr (.inl (0, phs))), (8, .inr (.inl (0, sps))), (9, .inr (.inl (0, ces))), (10, .inr (.inl (0, dus))), (11, .inr (.inl (0, hes))), (12, .inr (.inl (0, ris))), (13, .inr (.inl (0, uss))), (14, .inr (.inl (0, cms))), (15, .inr (.inl (0, lfs))), (16, .inr (.inl (0, lkds))), (20, .inl (3, [.ref 21, .ref 22, .ref 23, .ref 24, .ref 25, .ref 26, .ref 27, .ref 28, .int pevs, .int 1])), (21, .inr (.inl (0, pmss))), (22, .inr (.inl (0, pmms))), (23, .inr (.inl (0, pmts))), (24, .inr (.inl (0, psts))), (25, .inr (.inl (0, pwas))), (26, .inr (.inl (0, prss))), (27, .inr (.inl (0, prrs))), (28, .inr (.inl (0, pfas))), (231, .inl (7, [.ref lys, .int mis, .int shus, .int buss, .ref 232, .ref 233, .ref 234, .ref 235, .ref 236, .ref 237, .ref 238, .ref 239, .ref 240, .ref 241, .ref 242, .int lkss, .ref 243, .ref 244, .ref 247])), (232, .inr (.inl (0, (aC 5 rks rk)))), (233, .inr (.inl (0, (aC 5 stas sta)))), (234, .inr (.inl (0, (aC 5 phs ph)))), (235, .inr (.inl (0, (aC 5 sps sp)))), (236, .inr (.inl (0, (aC 5 ces ce)))), (237, .inr (.inl (0, (aC 5 dus du)))), (238, .inr (.inl (0, (aC 5 hes he)))), (239, .inr (.inl (0, (aC 6 ris ri)))), (240, .inr (.inl (0, (aC 6 uss us)))), (241, .inr (.inl (0, cm))), (242, .inr (.inl (0, lf))), (243, .inr (.inl (0, lkd))), (247, .inl (3, [.ref 248, .ref 249, .ref 250, .ref 251, .ref 252, .ref 253, .ref 254, .ref 255, .int pev, .int 1])), (248, .inr (.inl (0, pms))), (249, .inr (.inl (0, pmm))), (250, .inr (.inl (0, pmt))), (251, .inr (.inl (0, pst))), (252, .inr (.inl (0, pwa))), (253, .inr (.inl (0, prs))), (254, .inr (.inl (0, prr))), (255, .inr (.inl (0, pfa)))] h0 := K.mg K9 rfl rfl
  clear K9
  refine yr8s_k168 L (K.fi [4, 14, 15, 16, 231, 241, 242, 243] rfl rfl) (fun lv h9 L K9 => ?_)
  have K : KN h9 [(4, .inl (7, [.ref lys, .int mis, .int shus, .int buss, .ref 5, .ref 6, .ref 7, .ref 8, .ref 9, .ref 10, .ref 11, .ref 12, .ref 13, .ref 14, .ref 15, .int lkss, .ref 16, .ref 17, .ref 20])), (5, .inr (.inl (0, rks))), (6, .inr (.inl (0, stas))), (7, .inr (.inl (0, phs))), (8, .inr (.inl (0, sps))), (9, .inr (.inl (0, ces))), (10, .inr (.inl (0, dus))), (11, .inr (.inl (0, hes))), (12, .inr (.inl (0, ris))), (13, .inr (.inl (0, uss))), (14, .inr (.inl (0, cms))), (15, .inr (.inl (0, lfs))), (16, .inr (.inl (0, lkds))), (20, .inl (3, [.ref 21, .ref 22, .ref 23, .ref 24, .ref 25, .ref 26, .ref 27, .ref 28, .int pevs, .int 1])), (21, .inr (.inl (0, pmss))), (22, .inr (.inl (0, pmms))), (23, .inr (.inl (0, pmts))), (24, .inr (.inl (0, psts))), (25, .inr (.inl (0, pwas))), (26, .inr (.inl (0, prss))), (27, .inr (.inl (0, prrs))), (28, .inr (.inl (0, pfas))), (231, .inl (7, [.ref lys, .int mis, .int shus, .int buss, .ref 232, .ref 233, .ref 234, .ref 235, .ref 236, .ref 237, .ref 238, .ref 239, .ref 240, .ref 241, .ref 242, .int lkss, .ref 243, .ref 244, .ref 247])), (232, .inr (.inl (0, (aC 5 rks rk)))), (233, .inr (.inl (0, (aC 5 stas sta)))), (234, .inr (.inl (0, (aC 5 phs ph)))), (235, .inr (.inl (0, (aC 5 sps sp)))), (236, .inr (.inl (0, (aC 5 ces ce)))), (237, .inr (.inl (0, (aC 5 dus du)))), (238, .inr (.inl (0, (aC 5 hes he)))), (239, .inr (.inl (0, (aC 6 ris ri)))), (240, .inr (.inl (0, (aC 6 uss us)))), (241, .inr (.inl (0, (aC (nI cm.length) cms cm)))), (242, .inr (.inl (0, (aC (nI lf.length) lfs lf)))), (243, .inr (.inl (0, (aC (nI lkd.length) lkds lkd)))), (247, .inl (3, [.ref 248, .ref 249, .ref 250, .ref 251, .ref 252, .ref 253, .ref 254, .ref 255, .int pev, .int 1])), (248, .inr (.inl (0, pms))), (249, .inr (.inl (0, pmm))), (250, .inr (.inl (0, pmt))), (251, .inr (.inl (0, pst))), (252, .inr (.inl (0, pwa))), (253, .inr (.inl (0, prs))), (254, .inr (.inl (0, prr))), (255, .inr (.inl (0, pfa)))] h0 := K.mg K9 rfl rfl
  clear K9
  refine j_V.ldL yr8s_M yr8s_222 rfl (i := 0) (kd := 2) (v := .ref 231) (pcJ := 223) rfl L rfl rfl rfl ?_
  refine j_V.getK yr8s_M yr8s_223 (ci := 7) (j := 18) rfl K rfl rfl ?_
  refine j_V.ldL yr8s_M yr8s_226 rfl (i := 1) (kd := 2) (v := .ref 4) (pcJ := 227) rfl L rfl rfl rfl ?_
  refine j_V.getK yr8s_M yr8s_227 (ci := 7) (j := 18) rfl K rfl rfl ?_
  refine j_V.cl yr8s_M yr8s_230 rfl (md := 3) (mj := 28) rfl (by decide) yr8p_M (As := [.ref 247, .ref 20]) (rest := []) (jk_spl3 (K.at rfl) rfl rfl rfl (Nat.le_of_ble_eq_true rfl) (Nat.le_of_ble_eq_true rfl)) (fun d => yr8p_ok (K.fi [20, 21, 22, 23, 24, 25, 26, 27, 28, 247, 248, 249, 250, 251, 252, 253, 254, 255] rfl rfl)) ?_
  rintro r h9 ⟨rfl, K9⟩
  have K : KN h9 [(4, .inl (7, [.ref lys, .int mis, .int shus, .int buss, .ref 5, .ref 6, .ref 7, .ref 8, .ref 9, .ref 10, .ref 11, .ref 12, .ref 13, .ref 14, .ref 15, .int lkss, .ref 16, .ref 17, .ref 20])), (5, .inr (.inl (0, rks))), (6, .inr (.inl (0, stas))), (7, .inr (.inl (0, phs))), (8, .inr (.inl (0, sps))), (9, .inr (.inl (0, ces))), (10, .inr (.inl (0, dus))), (11, .inr (.inl (0, hes))), (12, .inr (.inl (0, ris))), (13, .inr (.inl (0, uss))), (14, .inr (.inl (0, cms))), (15, .inr (.inl (0, lfs))), (16, .inr (.inl (0, lkds))), (20, .inl (3, [.ref 21, .ref 22, .ref 23, .ref 24, .ref 25, .ref 26, .ref 27, .ref 28, .int pevs, .int 1])), (21, .inr (.inl (0, pmss))), (22, .inr (.inl (0, pmms))), (23, .inr (.inl (0, pmts))), (24, .inr (.inl (0, psts))), (25, .inr (.inl (0, pwas))), (26, .inr (.inl (0, prss))), (27, .inr (.inl (0, prrs))), (28, .inr (.inl (0, pfas))), (231, .inl (7, [.ref lys, .int mis, .int shus, .int buss, .ref 232, .ref 233, .ref 234, .ref 235, .ref 236, .ref 237, .ref 238, .ref 239, .ref 240, .ref 241, .ref 242, .int lkss, .ref 243, .ref 244, .ref 247])), (232, .inr (.inl (0, (aC 5 rks rk)))), (233, .inr (.inl (0, (aC 5 stas sta)))), (234, .inr (.inl (0, (aC 5 phs ph)))), (235, .inr (.inl (0, (aC 5 sps sp)))), (236, .inr (.inl (0, (aC 5 ces ce)))), (237, .inr (.inl (0, (aC 5 dus du)))), (238, .inr (.inl (0, (aC 5 hes he)))), (239, .inr (.inl (0, (aC 6 ris ri)))), (240, .inr (.inl (0, (aC 6 uss us)))), (241, .inr (.inl (0, (aC (nI cm.length) cms cm)))), (242, .inr (.inl (0, (aC (nI lf.length) lfs lf)))), (243, .inr (.inl (0, (aC (nI lkd.length) lkds lkd)))), (247, .inl (3, [.ref 248, .ref 249, .ref 250, .ref 251, .ref 252, .ref 253, .ref 254, .ref 255, .int pevs, .int 1])), (248, .inr (.inl (0, (aC (nI pms.length) pmss pms)))), (249, .inr (.inl (0, (aC (nI pmm.length) pmms pmm)))), (250, .inr (.inl (0, (aC (nI pmt.length) pmts pmt)))), (251, .inr (.inl (0, (aC (nI pst.length) psts pst)))), (252, .inr (.inl (0, (aC (nI pwa.length) pwas pwa)))), (253, .inr (.inl (0, (aC (nI prs.length) prss prs)))), (254, .inr (.inl (0, (aC (nI prr.length) prrs prr)))), (255, .inr (.inl (0, (aC (nI pfa.length) pfas pfa))))] h0 := K.mg K9 rfl rfl
  clear K9
  show j_V jP _ 61 233 lv [] h9 _
  exact j_V.ret yr8s_M yr8s_233 rfl rfl ⟨rfl, K⟩
set_option maxRecDepth 100000 in
theorem yr8m_M : j_meth jP 2 = some (yX0_remember, cX0_remember, 2, none, 1, false, 0) := rfl
set_option maxRecDepth 100000 in
theorem yr8m_0 : j_code jP 2 0 = some (.aload_n 0) := rfl
set_option maxRecDepth 100000 in
theorem yr8m_1 : j_code jP 2 1 = some (.getfield 11) := rfl
set_option maxRecDepth 100000 in
theorem yr8m_4 : j_code jP 2 4 = some (.aload_n 0) := rfl
set_option maxRecDepth 100000 in
theorem yr8m_5 : j_code jP 2 5 = some (.getfield 24) := rfl
set_option maxRecDepth 100000 in
theorem yr8m_8 : j_code jP 2 8 = some (.aaload) := rfl
set_option maxRecDepth 100000 in
theorem yr8m_9 : j_code jP 2 9 = some (.aload_n 1) := rfl
set_option maxRecDepth 100000 in
theorem yr8m_10 : j_code jP 2 10 = some (.invokevirtual 27) := rfl
set_option maxRecDepth 100000 in
theorem yr8m_13 : j_code jP 2 13 = some (.aload_n 0) := rfl
set_option maxRecDepth 100000 in
theorem yr8m_14 : j_code jP 2 14 = some (.aload_n 0) := rfl
set_option maxRecDepth 100000 in
theorem yr8m_15 : j_code jP 2 15 = some (.getfield 24) := rfl
set_option maxRecDepth 100000 in
theorem yr8m_18 : j_code jP 2 18 = some (.iconst 1) := rfl
set_option maxRecDepth 100000 in
theorem yr8m_19 : j_code jP 2 19 = some (.iadd) := rfl
set_option maxRecDepth 100000 in
theorem yr8m_20 : j_code jP 2 20 = some (.bipush 10) := rfl
set_option maxRecDepth 100000 in
theorem yr8m_22 : j_code jP 2 22 = some (.irem) := rfl
set_option maxRecDepth 100000 in
theorem yr8m_23 : j_code jP 2 23 = some (.putfield 24) := rfl
set_option maxRecDepth 100000 in
theorem yr8m_26 : j_code jP 2 26 = some (.aload_n 0) := rfl
set_option maxRecDepth 100000 in
theorem yr8m_27 : j_code jP 2 27 = some (.aload_n 0) := rfl
set_option maxRecDepth 100000 in
theorem yr8m_28 : j_code jP 2 28 = some (.getfield 20) := rfl
set_option maxRecDepth 100000 in
theorem yr8m_31 : j_code jP 2 31 = some (.iconst 1) := rfl
set_option maxRecDepth 100000 in
theorem yr8m_32 : j_code jP 2 32 = some (.iadd) := rfl
set_option maxRecDepth 100000 in
theorem yr8m_33 : j_code jP 2 33 = some (.bipush 10) := rfl
set_option maxRecDepth 100000 in
theorem yr8m_35 : j_code jP 2 35 = some (.invokestatic 31) := rfl
set_option maxRecDepth 100000 in
theorem yr8m_38 : j_code jP 2 38 = some (.putfield 20) := rfl
set_option maxRecDepth 100000 in
theorem yr8m_41 : j_code jP 2 41 = some (.return_) := rfl
set_option maxRecDepth 1000000 in
theorem yr8m_ok {ly : Value} {mi : Int32} {shu : Int32} {bus : Int32} {lks : Int32} {rk : List Int32} {sta : List Int32} {ph : List Int32} {sp : List Int32} {ce : List Int32} {du : List Int32} {he : List Int32} {ri : List Int32} {us : List Int32} {cm : List Int32} {lf : List Int32} {lkd : List Int32} {pev : Int32} {pms : List Int32} {pmm : List Int32} {pmt : List Int32} {pst : List Int32} {pwa : List Int32} {prs : List Int32} {prr : List Int32} {pfa : List Int32} {lys : Nat} {mis : Int32} {shus : Int32} {buss : Int32} {lkss : Int32} {rks : List Int32} {stas : List Int32} {phs : List Int32} {sps : List Int32} {ces : List Int32} {dus : List Int32} {hes : List Int32} {ris : List Int32} {uss : List Int32} {cms : List Int32} {lfs : List Int32} {lkds : List Int32} {pevs : Int32} {pmss : List Int32} {pmms : List Int32} {pmts : List Int32} {psts : List Int32} {pwas : List Int32} {prss : List Int32} {prrs : List Int32} {pfas : List Int32} {acco : Int32} {d : Nat} {h h0 : J_H} (K : KN h [(4, .inl (7, [.ref lys, .int mis, .int shus, .int buss, .ref 5, .ref 6, .ref 7, .ref 8, .ref 9, .ref 10, .ref 11, .ref 12, .ref 13, .ref 14, .ref 15, .int lkss, .ref 16, .ref 17, .ref 20])), (5, .inr (.inl (0, rks))), (6, .inr (.inl (0, stas))), (7, .inr (.inl (0, phs))), (8, .inr (.inl (0, sps))), (9, .inr (.inl (0, ces))), (10, .inr (.inl (0, dus))), (11, .inr (.inl (0, hes))), (12, .inr (.inl (0, ris))), (13, .inr (.inl (0, uss))), (14, .inr (.inl (0, cms))), (15, .inr (.inl (0, lfs))), (16, .inr (.inl (0, lkds))), (20, .inl (3, [.ref 21, .ref 22, .ref 23, .ref 24, .ref 25, .ref 26, .ref 27, .ref 28, .int pevs, .int 1])), (21, .inr (.inl (0, pmss))), (22, .inr (.inl (0, pmms))), (23, .inr (.inl (0, pmts))), (24, .inr (.inl (0, psts))), (25, .inr (.inl (0, pwas))), (26, .inr (.inl (0, prss))), (27, .inr (.inl (0, prrs))), (28, .inr (.inl (0, pfas))), (29, .inl (0, [.ref 30, .int 8, .int acco])), (30, .inr (.inr (.inr [some 31, some 56, some 81, some 106, some 131, some 156, some 181, some 206, some 231, some 256]))), (231, .inl (7, [ly, .int mi, .int shu, .int bus, .ref 232, .ref 233, .ref 234, .ref 235, .ref 236, .ref 237, .ref 238, .ref 239, .ref 240, .ref 241, .ref 242, .int lks, .ref 243, .ref 244, .ref 247])), (232, .inr (.inl (0, rk))), (233, .inr (.inl (0, sta))), (234, .inr (.inl (0, ph))), (235, .inr (.inl (0, sp))), (236, .inr (.inl (0, ce))), (237, .inr (.inl (0, du))), (238, .inr (.inl (0, he))), (239, .inr (.inl (0, ri))), (240, .inr (.inl (0, us))), (241, .inr (.inl (0, cm))), (242, .inr (.inl (0, lf))), (243, .inr (.inl (0, lkd))), (247, .inl (3, [.ref 248, .ref 249, .ref 250, .ref 251, .ref 252, .ref 253, .ref 254, .ref 255, .int pev, .int 1])), (248, .inr (.inl (0, pms))), (249, .inr (.inl (0, pmm))), (250, .inr (.inl (0, pmt))), (251, .inr (.inl (0, pst))), (252, .inr (.inl (0, pwa))), (253, .inr (.inl (0, prs))), (254, .inr (.inl (0, prr))), (255, .inr (.inl (0, pfa)))] h0) : j_V jP d 2 0 (lv_args 0 [.ref 29, .ref 4]) [] h (fun rv h' => rv = none ∧ KN h' [(4, .inl (7, [.ref lys, .int mis, .int shus, .int buss, .ref 5, .ref 6, .ref 7, .ref 8, .ref 9, .ref 10, .ref 11, .ref 12, .ref 13, .ref 14, .ref 15, .int lkss, .ref 16, .ref 17, .ref 20])), (5, .inr (.inl (0, rks))), (6, .inr (.inl (0, stas))), (7, .inr (.inl (0, phs))), (8, .inr (.inl (0, sps))), (9, .inr (.inl (0, ces))), (10, .inr (.inl (0, dus))), (11, .inr (.inl (0, hes))), (12, .inr (.inl (0, ris))), (13, .inr (.inl (0, uss))), (14, .inr (.inl (0, cms))), (15, .inr (.inl (0, lfs))), (16, .inr (.inl (0, lkds))), (20, .inl (3, [.ref 21, .ref 22, .ref 23, .ref 24, .ref 25, .ref 26, .ref 27, .ref 28, .int pevs, .int 1])), (21, .inr (.inl (0, pmss))), (22, .inr (.inl (0, pmms))), (23, .inr (.inl (0, pmts))), (24, .inr (.inl (0, psts))), (25, .inr (.inl (0, pwas))), (26, .inr (.inl (0, prss))), (27, .inr (.inl (0, prrs))), (28, .inr (.inl (0, pfas))), (29, .inl (0, [.ref 30, .int 9, .int (iMn (acco + 1) 10)])), (30, .inr (.inr (.inr [some 31, some 56, some 81, some 106, some 131, some 156, some 181, some 206, some 231, some 256]))), (231, .inl (7, [.ref lys, .int mis, .int shus, .int buss, .ref 232, .ref 233, .ref 234, .ref 235, .ref 236, .ref 237, .ref 238, .ref 239, .ref 240, .ref 241, .ref 242, .int lkss, .ref 243, .ref 244, .ref 247])), (232, .inr (.inl (0, (aC 5 rks rk)))), (233, .inr (.inl (0, (aC 5 stas sta)))), (234, .inr (.inl (0, (aC 5 phs ph)))), (235, .inr (.inl (0, (aC 5 sps sp)))), (236, .inr (.inl (0, (aC 5 ces ce)))), (237, .inr (.inl (0, (aC 5 dus du)))), (238, .inr (.inl (0, (aC 5 hes he)))), (239, .inr (.inl (0, (aC 6 ris ri)))), (240, .inr (.inl (0, (aC 6 uss us)))), (241, .inr (.inl (0, (aC (nI cm.length) cms cm)))), (242, .inr (.inl (0, (aC (nI lf.length) lfs lf)))), (243, .inr (.inl (0, (aC (nI lkd.length) lkds lkd)))), (247, .inl (3, [.ref 248, .ref 249, .ref 250, .ref 251, .ref 252, .ref 253, .ref 254, .ref 255, .int pevs, .int 1])), (248, .inr (.inl (0, (aC (nI pms.length) pmss pms)))), (249, .inr (.inl (0, (aC (nI pmm.length) pmms pmm)))), (250, .inr (.inl (0, (aC (nI pmt.length) pmts pmt)))), (251, .inr (.inl (0, (aC (nI pst.length) psts pst)))), (252, .inr (.inl (0, (aC (nI pwa.length) pwas pwa)))), (253, .inr (.inl (0, (aC (nI prs.length) prss prs)))), (254, .inr (.inl (0, (aC (nI prr.length) prrs prr)))), (255, .inr (.inl (0, (aC (nI pfa.length) pfas pfa))))] h0) := by
  show j_V jP d 2 0 [(0, .ref 29), (1, .ref 4)] [] h _
  obtain ⟨lv, elv, L⟩ : ∃ lv, lv = [(0, .ref 29), (1, .ref 4)] ∧ LK lv [(0, .ref 29), (1, .ref 4)] := ⟨_, rfl, LK.rf⟩
  rw [← elv]
  clear elv
  refine j_V.ldL yr8m_M yr8m_0 rfl (i := 0) (kd := 2) (v := .ref 29) (pcJ := 1) rfl L rfl rfl rfl ?_
  refine j_V.getK yr8m_M yr8m_1 (ci := 0) (j := 0) rfl K rfl rfl ?_
  refine j_V.ldL yr8m_M yr8m_4 rfl (i := 0) (kd := 2) (v := .ref 29) (pcJ := 5) rfl L rfl rfl rfl ?_
  refine j_V.getK yr8m_M yr8m_5 (ci := 0) (j := 1) rfl K rfl rfl ?_
  refine j_V.aaA yr8m_M yr8m_8 K rfl (i := 8) (v := 231) rfl rfl ?_
  refine j_V.ldL yr8m_M yr8m_9 rfl (i := 1) (kd := 2) (v := .ref 4) (pcJ := 10) rfl L rfl rfl rfl ?_
  refine j_V.cl yr8m_M yr8m_10 rfl (md := 3) (mj := 61) rfl (by decide) yr8s_M (As := [.ref 231, .ref 4]) (rest := []) (jk_spl3 (K.at rfl) rfl rfl rfl (Nat.le_of_ble_eq_true rfl) (Nat.le_of_ble_eq_true rfl)) (fun d => yr8s_ok (K.fi [4, 5, 6, 7, 8, 9, 10, 11, 12, 13, 14, 15, 16, 20, 21, 22, 23, 24, 25, 26, 27, 28, 231, 232, 233, 234, 235, 236, 237, 238, 239, 240, 241, 242, 243, 247, 248, 249, 250, 251, 252, 253, 254, 255] rfl rfl)) ?_
  rintro r h9 ⟨rfl, K9⟩
  have K : KN h9 [(4, .inl (7, [.ref lys, .int mis, .int shus, .int buss, .ref 5, .ref 6, .ref 7, .ref 8, .ref 9, .ref 10, .ref 11, .ref 12, .ref 13, .ref 14, .ref 15, .int lkss, .ref 16, .ref 17, .ref 20])), (5, .inr (.inl (0, rks))), (6, .inr (.inl (0, stas))), (7, .inr (.inl (0, phs))), (8, .inr (.inl (0, sps))), (9, .inr (.inl (0, ces))), (10, .inr (.inl (0, dus))), (11, .inr (.inl (0, hes))), (12, .inr (.inl (0, ris))), (13, .inr (.inl (0, uss))), (14, .inr (.inl (0, cms))), (15, .inr (.inl (0, lfs))), (16, .inr (.inl (0, lkds))), (20, .inl (3, [.ref 21, .ref 22, .ref 23, .ref 24, .ref 25, .ref 26, .ref 27, .ref 28, .int pevs, .int 1])), (21, .inr (.inl (0, pmss))), (22, .inr (.inl (0, pmms))), (23, .inr (.inl (0, pmts))), (24, .inr (.inl (0, psts))), (25, .inr (.inl (0, pwas))), (26, .inr (.inl (0, prss))), (27, .inr (.inl (0, prrs))), (28, .inr (.inl (0, pfas))), (29, .inl (0, [.ref 30, .int 8, .int acco])), (30, .inr (.inr (.inr [some 31, some 56, some 81, some 106, some 131, some 156, some 181, some 206, some 231, some 256]))), (231, .inl (7, [.ref lys, .int mis, .int shus, .int buss, .ref 232, .ref 233, .ref 234, .ref 235, .ref 236, .ref 237, .ref 238, .ref 239, .ref 240, .ref 241, .ref 242, .int lkss, .ref 243, .ref 244, .ref 247])), (232, .inr (.inl (0, (aC 5 rks rk)))), (233, .inr (.inl (0, (aC 5 stas sta)))), (234, .inr (.inl (0, (aC 5 phs ph)))), (235, .inr (.inl (0, (aC 5 sps sp)))), (236, .inr (.inl (0, (aC 5 ces ce)))), (237, .inr (.inl (0, (aC 5 dus du)))), (238, .inr (.inl (0, (aC 5 hes he)))), (239, .inr (.inl (0, (aC 6 ris ri)))), (240, .inr (.inl (0, (aC 6 uss us)))), (241, .inr (.inl (0, (aC (nI cm.length) cms cm)))), (242, .inr (.inl (0, (aC (nI lf.length) lfs lf)))), (243, .inr (.inl (0, (aC (nI lkd.length) lkds lkd)))), (247, .inl (3, [.ref 248, .ref 249, .ref 250, .ref 251, .ref 252, .ref 253, .ref 254, .ref 255, .int pevs, .int 1])), (248, .inr (.inl (0, (aC (nI pms.length) pmss pms)))), (249, .inr (.inl (0, (aC (nI pmm.length) pmms pmm)))), (250, .inr (.inl (0, (aC (nI pmt.length) pmts pmt)))), (251, .inr (.inl (0, (aC (nI pst.length) psts pst)))), (252, .inr (.inl (0, (aC (nI pwa.length) pwas pwa)))), (253, .inr (.inl (0, (aC (nI prs.length) prss prs)))), (254, .inr (.inl (0, (aC (nI prr.length) prrs prr)))), (255, .inr (.inl (0, (aC (nI pfa.length) pfas pfa))))] h0 := K.mg K9 rfl rfl
  clear K9
  show j_V jP _ 2 13 lv [] h9 _
  refine j_V.ldL yr8m_M yr8m_13 rfl (i := 0) (kd := 2) (v := .ref 29) (pcJ := 14) rfl L rfl rfl rfl ?_
  refine j_V.ldL yr8m_M yr8m_14 rfl (i := 0) (kd := 2) (v := .ref 29) (pcJ := 15) rfl L rfl rfl rfl ?_
  refine j_V.getK yr8m_M yr8m_15 (ci := 0) (j := 1) rfl K rfl rfl ?_
  refine j_V.one yr8m_M yr8m_18 (by decide) (pcJ := 19) (stJ := [.int 1, .int 8, .ref 29]) rfl ?_
  refine j_V.one yr8m_M yr8m_19 (by decide) (pcJ := 20) (stJ := [.int 9, .ref 29]) rfl ?_
  refine j_V.one yr8m_M yr8m_20 (by decide) (pcJ := 22) (stJ := [.int 10, .int 9, .ref 29]) rfl ?_
  refine j_V.one yr8m_M yr8m_22 (by decide) (pcJ := 23) (stJ := [.int 9, .ref 29]) rfl ?_
  refine j_V.putK yr8m_M yr8m_23 (ci := 0) (j := 1) (k' := [(4, .inl (7, [.ref lys, .int mis, .int shus, .int buss, .ref 5, .ref 6, .ref 7, .ref 8, .ref 9, .ref 10, .ref 11, .ref 12, .ref 13, .ref 14, .ref 15, .int lkss, .ref 16, .ref 17, .ref 20])), (5, .inr (.inl (0, rks))), (6, .inr (.inl (0, stas))), (7, .inr (.inl (0, phs))), (8, .inr (.inl (0, sps))), (9, .inr (.inl (0, ces))), (10, .inr (.inl (0, dus))), (11, .inr (.inl (0, hes))), (12, .inr (.inl (0, ris))), (13, .inr (.inl (0, uss))), (14, .inr (.inl (0, cms))), (15, .inr (.inl (0, lfs))), (16, .inr (.inl (0, lkds))), (20, .inl (3, [.ref 21, .ref 22, .ref 23, .ref 24, .ref 25, .ref 26, .ref 27, .ref 28, .int pevs, .int 1])), (21, .inr (.inl (0, pmss))), (22, .inr (.inl (0, pmms))), (23, .inr (.inl (0, pmts))), (24, .inr (.inl (0, psts))), (25, .inr (.inl (0, pwas))), (26, .inr (.inl (0, prss))), (27, .inr (.inl (0, prrs))), (28, .inr (.inl (0, pfas))), (29, .inl (0, [.ref 30, .int 9, .int acco])), (30, .inr (.inr (.inr [some 31, some 56, some 81, some 106, some 131, some 156, some 181, some 206, some 231, some 256]))), (231, .inl (7, [.ref lys, .int mis, .int shus, .int buss, .ref 232, .ref 233, .ref 234, .ref 235, .ref 236, .ref 237, .ref 238, .ref 239, .ref 240, .ref 241, .ref 242, .int lkss, .ref 243, .ref 244, .ref 247])), (232, .inr (.inl (0, (aC 5 rks rk)))), (233, .inr (.inl (0, (aC 5 stas sta)))), (234, .inr (.inl (0, (aC 5 phs ph)))), (235, .inr (.inl (0, (aC 5 sps sp)))), (236, .inr (.inl (0, (aC 5 ces ce)))), (237, .inr (.inl (0, (aC 5 dus du)))), (238, .inr (.inl (0, (aC 5 hes he)))), (239, .inr (.inl (0, (aC 6 ris ri)))), (240, .inr (.inl (0, (aC 6 uss us)))), (241, .inr (.inl (0, (aC (nI cm.length) cms cm)))), (242, .inr (.inl (0, (aC (nI lf.length) lfs lf)))), (243, .inr (.inl (0, (aC (nI lkd.length) lkds lkd)))), (247, .inl (3, [.ref 248, .ref 249, .ref 250, .ref 251, .ref 252, .ref 253, .ref 254, .ref 255, .int pevs, .int 1])), (248, .inr (.inl (0, (aC (nI pms.length) pmss pms)))), (249, .inr (.inl (0, (aC (nI pmm.length) pmms pmm)))), (250, .inr (.inl (0, (aC (nI pmt.length) pmts pmt)))), (251, .inr (.inl (0, (aC (nI pst.length) psts pst)))), (252, .inr (.inl (0, (aC (nI pwa.length) pwas pwa)))), (253, .inr (.inl (0, (aC (nI prs.length) prss prs)))), (254, .inr (.inl (0, (aC (nI prr.length) prrs prr)))), (255, .inr (.inl (0, (aC (nI pfa.length) pfas pfa))))]) rfl K rfl (Nat.le_of_ble_eq_true rfl) rfl (Or.inl rfl) rfl rfl (fun h K => ?_)
  refine j_V.ldL yr8m_M yr8m_26 rfl (i := 0) (kd := 2) (v := .ref 29) (pcJ := 27) rfl L rfl rfl rfl ?_
  refine j_V.ldL yr8m_M yr8m_27 rfl (i := 0) (kd := 2) (v := .ref 29) (pcJ := 28) rfl L rfl rfl rfl ?_
  refine j_V.getK yr8m_M yr8m_28 (ci := 0) (j := 2) rfl K rfl rfl ?_
  refine j_V.one yr8m_M yr8m_31 (by decide) (pcJ := 32) (stJ := [.int 1, .int acco, .ref 29]) rfl ?_
  refine j_V.one yr8m_M yr8m_32 (by decide) (pcJ := 33) (stJ := [.int (acco + 1), .ref 29]) rfl ?_
  refine j_V.one yr8m_M yr8m_33 (by decide) (pcJ := 35) (stJ := [.int 10, .int (acco + 1), .ref 29]) rfl ?_
  refine j_V.mn yr8m_M yr8m_35 rfl rfl (Nat.le_of_ble_eq_true rfl) ?_
  refine j_V.putK yr8m_M yr8m_38 (ci := 0) (j := 2) (k' := [(4, .inl (7, [.ref lys, .int mis, .int shus, .int buss, .ref 5, .ref 6, .ref 7, .ref 8, .ref 9, .ref 10, .ref 11, .ref 12, .ref 13, .ref 14, .ref 15, .int lkss, .ref 16, .ref 17, .ref 20])), (5, .inr (.inl (0, rks))), (6, .inr (.inl (0, stas))), (7, .inr (.inl (0, phs))), (8, .inr (.inl (0, sps))), (9, .inr (.inl (0, ces))), (10, .inr (.inl (0, dus))), (11, .inr (.inl (0, hes))), (12, .inr (.inl (0, ris))), (13, .inr (.inl (0, uss))), (14, .inr (.inl (0, cms))), (15, .inr (.inl (0, lfs))), (16, .inr (.inl (0, lkds))), (20, .inl (3, [.ref 21, .ref 22, .ref 23, .ref 24, .ref 25, .ref 26, .ref 27, .ref 28, .int pevs, .int 1])), (21, .inr (.inl (0, pmss))), (22, .inr (.inl (0, pmms))), (23, .inr (.inl (0, pmts))), (24, .inr (.inl (0, psts))), (25, .inr (.inl (0, pwas))), (26, .inr (.inl (0, prss))), (27, .inr (.inl (0, prrs))), (28, .inr (.inl (0, pfas))), (29, .inl (0, [.ref 30, .int 9, .int (iMn (acco + 1) 10)])), (30, .inr (.inr (.inr [some 31, some 56, some 81, some 106, some 131, some 156, some 181, some 206, some 231, some 256]))), (231, .inl (7, [.ref lys, .int mis, .int shus, .int buss, .ref 232, .ref 233, .ref 234, .ref 235, .ref 236, .ref 237, .ref 238, .ref 239, .ref 240, .ref 241, .ref 242, .int lkss, .ref 243, .ref 244, .ref 247])), (232, .inr (.inl (0, (aC 5 rks rk)))), (233, .inr (.inl (0, (aC 5 stas sta)))), (234, .inr (.inl (0, (aC 5 phs ph)))), (235, .inr (.inl (0, (aC 5 sps sp)))), (236, .inr (.inl (0, (aC 5 ces ce)))), (237, .inr (.inl (0, (aC 5 dus du)))), (238, .inr (.inl (0, (aC 5 hes he)))), (239, .inr (.inl (0, (aC 6 ris ri)))), (240, .inr (.inl (0, (aC 6 uss us)))), (241, .inr (.inl (0, (aC (nI cm.length) cms cm)))), (242, .inr (.inl (0, (aC (nI lf.length) lfs lf)))), (243, .inr (.inl (0, (aC (nI lkd.length) lkds lkd)))), (247, .inl (3, [.ref 248, .ref 249, .ref 250, .ref 251, .ref 252, .ref 253, .ref 254, .ref 255, .int pevs, .int 1])), (248, .inr (.inl (0, (aC (nI pms.length) pmss pms)))), (249, .inr (.inl (0, (aC (nI pmm.length) pmms pmm)))), (250, .inr (.inl (0, (aC (nI pmt.length) pmts pmt)))), (251, .inr (.inl (0, (aC (nI pst.length) psts pst)))), (252, .inr (.inl (0, (aC (nI pwa.length) pwas pwa)))), (253, .inr (.inl (0, (aC (nI prs.length) prss prs)))), (254, .inr (.inl (0, (aC (nI prr.length) prrs prr)))), (255, .inr (.inl (0, (aC (nI pfa.length) pfas pfa))))]) rfl K rfl (Nat.le_of_ble_eq_true rfl) rfl (Or.inl rfl) rfl rfl (fun h K => ?_)
  exact j_V.ret yr8m_M yr8m_41 rfl rfl ⟨rfl, K⟩
set_option maxRecDepth 100000 in
theorem yr9p_M : j_meth jP 28 = some (yX3_copyFrom, cX3_copyFrom, 2, none, 1, false, 3) := rfl
set_option maxRecDepth 100000 in
theorem yr9p_0 : j_code jP 28 0 = some (.aload_n 0) := rfl
set_option maxRecDepth 100000 in
theorem yr9p_1 : j_code jP 28 1 = some (.getfield 36) := rfl
set_option maxRecDepth 100000 in
theorem yr9p_4 : j_code jP 28 4 = some (.ifCond .ne 4) := rfl
set_option maxRecDepth 100000 in
theorem yr9p_7 : j_code jP 28 7 = some (.return_) := rfl
set_option maxRecDepth 100000 in
theorem yr9p_8 : j_code jP 28 8 = some (.aload_n 1) := rfl
set_option maxRecDepth 100000 in
theorem yr9p_9 : j_code jP 28 9 = some (.getfield 9) := rfl
set_option maxRecDepth 100000 in
theorem yr9p_12 : j_code jP 28 12 = some (.iconst 0) := rfl
set_option maxRecDepth 100000 in
theorem yr9p_13 : j_code jP 28 13 = some (.aload_n 0) := rfl
set_option maxRecDepth 100000 in
theorem yr9p_14 : j_code jP 28 14 = some (.getfield 9) := rfl
set_option maxRecDepth 100000 in
theorem yr9p_17 : j_code jP 28 17 = some (.iconst 0) := rfl
set_option maxRecDepth 100000 in
theorem yr9p_18 : j_code jP 28 18 = some (.aload_n 0) := rfl
set_option maxRecDepth 100000 in
theorem yr9p_19 : j_code jP 28 19 = some (.getfield 9) := rfl
set_option maxRecDepth 100000 in
theorem yr9p_22 : j_code jP 28 22 = some (.arraylength) := rfl
set_option maxRecDepth 100000 in
theorem yr9p_23 : j_code jP 28 23 = some (.invokestatic 50) := rfl
set_option maxRecDepth 100000 in
theorem yr9p_26 : j_code jP 28 26 = some (.aload_n 1) := rfl
set_option maxRecDepth 100000 in
theorem yr9p_27 : j_code jP 28 27 = some (.getfield 15) := rfl
set_option maxRecDepth 100000 in
theorem yr9p_30 : j_code jP 28 30 = some (.iconst 0) := rfl
set_option maxRecDepth 100000 in
theorem yr9p_31 : j_code jP 28 31 = some (.aload_n 0) := rfl
set_option maxRecDepth 100000 in
theorem yr9p_32 : j_code jP 28 32 = some (.getfield 15) := rfl
set_option maxRecDepth 100000 in
theorem yr9p_35 : j_code jP 28 35 = some (.iconst 0) := rfl
set_option maxRecDepth 100000 in
theorem yr9p_36 : j_code jP 28 36 = some (.aload_n 0) := rfl
set_option maxRecDepth 100000 in
theorem yr9p_37 : j_code jP 28 37 = some (.getfield 15) := rfl
set_option maxRecDepth 100000 in
theorem yr9p_40 : j_code jP 28 40 = some (.arraylength) := rfl
set_option maxRecDepth 100000 in
theorem yr9p_41 : j_code jP 28 41 = some (.invokestatic 50) := rfl
set_option maxRecDepth 100000 in
theorem yr9p_44 : j_code jP 28 44 = some (.aload_n 1) := rfl
set_option maxRecDepth 100000 in
theorem yr9p_45 : j_code jP 28 45 = some (.getfield 18) := rfl
set_option maxRecDepth 100000 in
theorem yr9p_48 : j_code jP 28 48 = some (.iconst 0) := rfl
set_option maxRecDepth 100000 in
theorem yr9p_49 : j_code jP 28 49 = some (.aload_n 0) := rfl
set_option maxRecDepth 100000 in
theorem yr9p_50 : j_code jP 28 50 = some (.getfield 18) := rfl
set_option maxRecDepth 100000 in
theorem yr9p_53 : j_code jP 28 53 = some (.iconst 0) := rfl
set_option maxRecDepth 100000 in
theorem yr9p_54 : j_code jP 28 54 = some (.aload_n 0) := rfl
set_option maxRecDepth 100000 in
theorem yr9p_55 : j_code jP 28 55 = some (.getfield 18) := rfl
set_option maxRecDepth 100000 in
theorem yr9p_58 : j_code jP 28 58 = some (.arraylength) := rfl
set_option maxRecDepth 100000 in
theorem yr9p_59 : j_code jP 28 59 = some (.invokestatic 50) := rfl
set_option maxRecDepth 100000 in
theorem yr9p_62 : j_code jP 28 62 = some (.aload_n 1) := rfl
set_option maxRecDepth 100000 in
theorem yr9p_63 : j_code jP 28 63 = some (.getfield 21) := rfl
set_option maxRecDepth 100000 in
theorem yr9p_66 : j_code jP 28 66 = some (.iconst 0) := rfl
set_option maxRecDepth 100000 in
theorem yr9p_67 : j_code jP 28 67 = some (.aload_n 0) := rfl
set_option maxRecDepth 100000 in
theorem yr9p_68 : j_code jP 28 68 = some (.getfield 21) := rfl
set_option maxRecDepth 100000 in
theorem yr9p_71 : j_code jP 28 71 = some (.iconst 0) := rfl
set_option maxRecDepth 100000 in
theorem yr9p_72 : j_code jP 28 72 = some (.aload_n 0) := rfl
set_option maxRecDepth 100000 in
theorem yr9p_73 : j_code jP 28 73 = some (.getfield 21) := rfl
set_option maxRecDepth 100000 in
theorem yr9p_76 : j_code jP 28 76 = some (.arraylength) := rfl
set_option maxRecDepth 100000 in
theorem yr9p_77 : j_code jP 28 77 = some (.invokestatic 50) := rfl
set_option maxRecDepth 100000 in
theorem yr9p_80 : j_code jP 28 80 = some (.aload_n 1) := rfl
set_option maxRecDepth 100000 in
theorem yr9p_81 : j_code jP 28 81 = some (.getfield 24) := rfl
set_option maxRecDepth 100000 in
theorem yr9p_84 : j_code jP 28 84 = some (.iconst 0) := rfl
set_option maxRecDepth 100000 in
theorem yr9p_85 : j_code jP 28 85 = some (.aload_n 0) := rfl
set_option maxRecDepth 100000 in
theorem yr9p_86 : j_code jP 28 86 = some (.getfield 24) := rfl
set_option maxRecDepth 100000 in
theorem yr9p_89 : j_code jP 28 89 = some (.iconst 0) := rfl
set_option maxRecDepth 100000 in
theorem yr9p_90 : j_code jP 28 90 = some (.aload_n 0) := rfl
set_option maxRecDepth 100000 in
theorem yr9p_91 : j_code jP 28 91 = some (.getfield 24) := rfl
set_option maxRecDepth 100000 in
theorem yr9p_94 : j_code jP 28 94 = some (.arraylength) := rfl
set_option maxRecDepth 100000 in
theorem yr9p_95 : j_code jP 28 95 = some (.invokestatic 50) := rfl
set_option maxRecDepth 100000 in
theorem yr9p_98 : j_code jP 28 98 = some (.aload_n 1) := rfl
set_option maxRecDepth 100000 in
theorem yr9p_99 : j_code jP 28 99 = some (.getfield 27) := rfl
set_option maxRecDepth 100000 in
theorem yr9p_102 : j_code jP 28 102 = some (.iconst 0) := rfl
set_option maxRecDepth 100000 in
theorem yr9p_103 : j_code jP 28 103 = some (.aload_n 0) := rfl
set_option maxRecDepth 100000 in
theorem yr9p_104 : j_code jP 28 104 = some (.getfield 27) := rfl
set_option maxRecDepth 100000 in
theorem yr9p_107 : j_code jP 28 107 = some (.iconst 0) := rfl
set_option maxRecDepth 100000 in
theorem yr9p_108 : j_code jP 28 108 = some (.aload_n 0) := rfl
set_option maxRecDepth 100000 in
theorem yr9p_109 : j_code jP 28 109 = some (.getfield 27) := rfl
set_option maxRecDepth 100000 in
theorem yr9p_112 : j_code jP 28 112 = some (.arraylength) := rfl
set_option maxRecDepth 100000 in
theorem yr9p_113 : j_code jP 28 113 = some (.invokestatic 50) := rfl
set_option maxRecDepth 100000 in
theorem yr9p_116 : j_code jP 28 116 = some (.aload_n 1) := rfl
set_option maxRecDepth 100000 in
theorem yr9p_117 : j_code jP 28 117 = some (.getfield 30) := rfl
set_option maxRecDepth 100000 in
theorem yr9p_120 : j_code jP 28 120 = some (.iconst 0) := rfl
set_option maxRecDepth 100000 in
theorem yr9p_121 : j_code jP 28 121 = some (.aload_n 0) := rfl
set_option maxRecDepth 100000 in
theorem yr9p_122 : j_code jP 28 122 = some (.getfield 30) := rfl
set_option maxRecDepth 100000 in
theorem yr9p_125 : j_code jP 28 125 = some (.iconst 0) := rfl
set_option maxRecDepth 100000 in
theorem yr9p_126 : j_code jP 28 126 = some (.aload_n 0) := rfl
set_option maxRecDepth 100000 in
theorem yr9p_127 : j_code jP 28 127 = some (.getfield 30) := rfl
set_option maxRecDepth 100000 in
theorem yr9p_130 : j_code jP 28 130 = some (.arraylength) := rfl
set_option maxRecDepth 100000 in
theorem yr9p_131 : j_code jP 28 131 = some (.invokestatic 50) := rfl
set_option maxRecDepth 100000 in
theorem yr9p_134 : j_code jP 28 134 = some (.aload_n 1) := rfl
set_option maxRecDepth 100000 in
theorem yr9p_135 : j_code jP 28 135 = some (.getfield 33) := rfl
set_option maxRecDepth 100000 in
theorem yr9p_138 : j_code jP 28 138 = some (.iconst 0) := rfl
set_option maxRecDepth 100000 in
theorem yr9p_139 : j_code jP 28 139 = some (.aload_n 0) := rfl
set_option maxRecDepth 100000 in
theorem yr9p_140 : j_code jP 28 140 = some (.getfield 33) := rfl
set_option maxRecDepth 100000 in
theorem yr9p_143 : j_code jP 28 143 = some (.iconst 0) := rfl
set_option maxRecDepth 100000 in
theorem yr9p_144 : j_code jP 28 144 = some (.aload_n 0) := rfl
set_option maxRecDepth 100000 in
theorem yr9p_145 : j_code jP 28 145 = some (.getfield 33) := rfl
set_option maxRecDepth 100000 in
theorem yr9p_148 : j_code jP 28 148 = some (.arraylength) := rfl
set_option maxRecDepth 100000 in
theorem yr9p_149 : j_code jP 28 149 = some (.invokestatic 50) := rfl
set_option maxRecDepth 100000 in
theorem yr9p_152 : j_code jP 28 152 = some (.aload_n 0) := rfl
set_option maxRecDepth 100000 in
theorem yr9p_153 : j_code jP 28 153 = some (.aload_n 1) := rfl
set_option maxRecDepth 100000 in
theorem yr9p_154 : j_code jP 28 154 = some (.getfield 46) := rfl
set_option maxRecDepth 100000 in
theorem yr9p_157 : j_code jP 28 157 = some (.putfield 46) := rfl
set_option maxRecDepth 100000 in
theorem yr9p_160 : j_code jP 28 160 = some (.return_) := rfl
set_option maxRecDepth 1000000 in
theorem yr9p_k8 {pev : Int32} {pms : List Int32} {pmm : List Int32} {pevs : Int32} {pmss : List Int32} {pmms : List Int32} {d : Nat} {lv : J_L} {h h0 : J_H} {Q : Option Value → J_H → Prop} (L : LK lv [(0, .ref 272), (1, .ref 20)]) (K : KN h [(20, .inl (3, [.ref 21, .ref 22, .ref 23, .ref 24, .ref 25, .ref 26, .ref 27, .ref 28, .int pevs, .int 1])), (21, .inr (.inl (0, pmss))), (22, .inr (.inl (0, pmms))), (272, .inl (3, [.ref 273, .ref 274, .ref 275, .ref 276, .ref 277, .ref 278, .ref 279, .ref 280, .int pev, .int 1])), (273, .inr (.inl (0, pms))), (274, .inr (.inl (0, pmm)))] h0) (kk : ∀ lv h, LK lv [(0, .ref 272), (1, .ref 20)] → KN h [(20, .inl (3, [.ref 21, .ref 22, .ref 23, .ref 24, .ref 25, .ref 26, .ref 27, .ref 28, .int pevs, .int 1])), (21, .inr (.inl (0, pmss))), (22, .inr (.inl (0, pmms))), (272, .inl (3, [.ref 273, .ref 274, .ref 275, .ref 276, .ref 277, .ref 278, .ref 279, .ref 280, .int pev, .int 1])), (273, .inr (.inl (0, (aC (nI pms.length) pmss pms)))), (274, .inr (.inl (0, (aC (nI pmm.length) pmms pmm))))] h0 → j_V jP d 28 44 lv [] h Q) : j_V jP d 28 8 lv [] h Q := by
  refine j_V.ldL yr9p_M yr9p_8 rfl (i := 1) (kd := 2) (v := .ref 20) (pcJ := 9) rfl L rfl rfl rfl ?_
  refine j_V.getK yr9p_M yr9p_9 (ci := 3) (j := 0) rfl K rfl rfl ?_
  refine j_V.one yr9p_M yr9p_12 (by decide) (pcJ := 13) (stJ := [.int 0, .ref 21]) rfl ?_
  refine j_V.ldL yr9p_M yr9p_13 rfl (i := 0) (kd := 2) (v := .ref 272) (pcJ := 14) rfl L rfl rfl rfl ?_
  refine j_V.getK yr9p_M yr9p_14 (ci := 3) (j := 0) rfl K rfl rfl ?_
  refine j_V.one yr9p_M yr9p_17 (by decide) (pcJ := 18) (stJ := [.int 0, .ref 273, .int 0, .ref 21]) rfl ?_
  refine j_V.ldL yr9p_M yr9p_18 rfl (i := 0) (kd := 2) (v := .ref 272) (pcJ := 19) rfl L rfl rfl rfl ?_
  refine j_V.getK yr9p_M yr9p_19 (ci := 3) (j := 0) rfl K rfl rfl ?_
  refine j_V.alnA yr9p_M yr9p_22 K rfl ?_
  refine j_V.acp yr9p_M yr9p_23 rfl rfl K rfl rfl rfl (fun h K => ?_)
  refine j_V.ldL yr9p_M yr9p_26 rfl (i := 1) (kd := 2) (v := .ref 20) (pcJ := 27) rfl L rfl rfl rfl ?_
  refine j_V.getK yr9p_M yr9p_27 (ci := 3) (j := 1) rfl K rfl rfl ?_
  refine j_V.one yr9p_M yr9p_30 (by decide) (pcJ := 31) (stJ := [.int 0, .ref 22]) rfl ?_
  refine j_V.ldL yr9p_M yr9p_31 rfl (i := 0) (kd := 2) (v := .ref 272) (pcJ := 32) rfl L rfl rfl rfl ?_
  refine j_V.getK yr9p_M yr9p_32 (ci := 3) (j := 1) rfl K rfl rfl ?_
  refine j_V.one yr9p_M yr9p_35 (by decide) (pcJ := 36) (stJ := [.int 0, .ref 274, .int 0, .ref 22]) rfl ?_
  refine j_V.ldL yr9p_M yr9p_36 rfl (i := 0) (kd := 2) (v := .ref 272) (pcJ := 37) rfl L rfl rfl rfl ?_
  refine j_V.getK yr9p_M yr9p_37 (ci := 3) (j := 1) rfl K rfl rfl ?_
  refine j_V.alnA yr9p_M yr9p_40 K rfl ?_
  refine j_V.acp yr9p_M yr9p_41 rfl rfl K rfl rfl rfl (fun h K => ?_)
  exact kk _ _ L K
set_option maxRecDepth 1000000 in
theorem yr9p_k44 {pev : Int32} {pmt : List Int32} {pst : List Int32} {pevs : Int32} {pmts : List Int32} {psts : List Int32} {d : Nat} {lv : J_L} {h h0 : J_H} {Q : Option Value → J_H → Prop} (L : LK lv [(0, .ref 272), (1, .ref 20)]) (K : KN h [(20, .inl (3, [.ref 21, .ref 22, .ref 23, .ref 24, .ref 25, .ref 26, .ref 27, .ref 28, .int pevs, .int 1])), (23, .inr (.inl (0, pmts))), (24, .inr (.inl (0, psts))), (272, .inl (3, [.ref 273, .ref 274, .ref 275, .ref 276, .ref 277, .ref 278, .ref 279, .ref 280, .int pev, .int 1])), (275, .inr (.inl (0, pmt))), (276, .inr (.inl (0, pst)))] h0) (kk : ∀ lv h, LK lv [(0, .ref 272), (1, .ref 20)] → KN h [(20, .inl (3, [.ref 21, .ref 22, .ref 23, .ref 24, .ref 25, .ref 26, .ref 27, .ref 28, .int pevs, .int 1])), (23, .inr (.inl (0, pmts))), (24, .inr (.inl (0, psts))), (272, .inl (3, [.ref 273, .ref 274, .ref 275, .ref 276, .ref 277, .ref 278, .ref 279, .ref 280, .int pev, .int 1])), (275, .inr (.inl (0, (aC (nI pmt.length) pmts pmt)))), (276, .inr (.inl (0, (aC (nI pst.length) psts pst))))] h0 → j_V jP d 28 80 lv [] h Q) : j_V jP d 28 44 lv [] h Q := by
  refine j_V.ldL yr9p_M yr9p_44 rfl (i := 1) (kd := 2) (v := .ref 20) (pcJ := 45) rfl L rfl rfl rfl ?_
  refine j_V.getK yr9p_M yr9p_45 (ci := 3) (j := 2) rfl K rfl rfl ?_
  refine j_V.one yr9p_M yr9p_48 (by decide) (pcJ := 49) (stJ := [.int 0, .ref 23]) rfl ?_
  refine j_V.ldL yr9p_M yr9p_49 rfl (i := 0) (kd := 2) (v := .ref 272) (pcJ := 50) rfl L rfl rfl rfl ?_
  refine j_V.getK yr9p_M yr9p_50 (ci := 3) (j := 2) rfl K rfl rfl ?_
  refine j_V.one yr9p_M yr9p_53 (by decide) (pcJ := 54) (stJ := [.int 0, .ref 275, .int 0, .ref 23]) rfl ?_
  refine j_V.ldL yr9p_M yr9p_54 rfl (i := 0) (kd := 2) (v := .ref 272) (pcJ := 55) rfl L rfl rfl rfl ?_
  refine j_V.getK yr9p_M yr9p_55 (ci := 3) (j := 2) rfl K rfl rfl ?_
  refine j_V.alnA yr9p_M yr9p_58 K rfl ?_
  refine j_V.acp yr9p_M yr9p_59 rfl rfl K rfl rfl rfl (fun h K => ?_)
  refine j_V.ldL yr9p_M yr9p_62 rfl (i := 1) (kd := 2) (v := .ref 20) (pcJ := 63) rfl L rfl rfl rfl ?_
  refine j_V.getK yr9p_M yr9p_63 (ci := 3) (j := 3) rfl K rfl rfl ?_
  refine j_V.one yr9p_M yr9p_66 (by decide) (pcJ := 67) (stJ := [.int 0, .ref 24]) rfl ?_
  refine j_V.ldL yr9p_M yr9p_67 rfl (i := 0) (kd := 2) (v := .ref 272) (pcJ := 68) rfl L rfl rfl rfl ?_
  refine j_V.getK yr9p_M yr9p_68 (ci := 3) (j := 3) rfl K rfl rfl ?_
  refine j_V.one yr9p_M yr9p_71 (by decide) (pcJ := 72) (stJ := [.int 0, .ref 276, .int 0, .ref 24]) rfl ?_
  refine j_V.ldL yr9p_M yr9p_72 rfl (i := 0) (kd := 2) (v := .ref 272) (pcJ := 73) rfl L rfl rfl rfl ?_
  refine j_V.getK yr9p_M yr9p_73 (ci := 3) (j := 3) rfl K rfl rfl ?_
  refine j_V.alnA yr9p_M yr9p_76 K rfl ?_
  refine j_V.acp yr9p_M yr9p_77 rfl rfl K rfl rfl rfl (fun h K => ?_)
  exact kk _ _ L K
set_option maxRecDepth 1000000 in
theorem yr9p_k80 {pev : Int32} {pwa : List Int32} {prs : List Int32} {pevs : Int32} {pwas : List Int32} {prss : List Int32} {d : Nat} {lv : J_L} {h h0 : J_H} {Q : Option Value → J_H → Prop} (L : LK lv [(0, .ref 272), (1, .ref 20)]) (K : KN h [(20, .inl (3, [.ref 21, .ref 22, .ref 23, .ref 24, .ref 25, .ref 26, .ref 27, .ref 28, .int pevs, .int 1])), (25, .inr (.inl (0, pwas))), (26, .inr (.inl (0, prss))), (272, .inl (3, [.ref 273, .ref 274, .ref 275, .ref 276, .ref 277, .ref 278, .ref 279, .ref 280, .int pev, .int 1])), (277, .inr (.inl (0, pwa))), (278, .inr (.inl (0, prs)))] h0) (kk : ∀ lv h, LK lv [(0, .ref 272), (1, .ref 20)] → KN h [(20, .inl (3, [.ref 21, .ref 22, .ref 23, .ref 24, .ref 25, .ref 26, .ref 27, .ref 28, .int pevs, .int 1])), (25, .inr (.inl (0, pwas))), (26, .inr (.inl (0, prss))), (272, .inl (3, [.ref 273, .ref 274, .ref 275, .ref 276, .ref 277, .ref 278, .ref 279, .ref 280, .int pev, .int 1])), (277, .inr (.inl (0, (aC (nI pwa.length) pwas pwa)))), (278, .inr (.inl (0, (aC (nI prs.length) prss prs))))] h0 → j_V jP d 28 116 lv [] h Q) : j_V jP d 28 80 lv [] h Q := by
  refine j_V.ldL yr9p_M yr9p_80 rfl (i := 1) (kd := 2) (v := .ref 20) (pcJ := 81) rfl L rfl rfl rfl ?_
  refine j_V.getK yr9p_M yr9p_81 (ci := 3) (j := 4) rfl K rfl rfl ?_
  refine j_V.one yr9p_M yr9p_84 (by decide) (pcJ := 85) (stJ := [.int 0, .ref 25]) rfl ?_
  refine j_V.ldL yr9p_M yr9p_85 rfl (i := 0) (kd := 2) (v := .ref 272) (pcJ := 86) rfl L rfl rfl rfl ?_
  refine j_V.getK yr9p_M yr9p_86 (ci := 3) (j := 4) rfl K rfl rfl ?_
  refine j_V.one yr9p_M yr9p_89 (by decide) (pcJ := 90) (stJ := [.int 0, .ref 277, .int 0, .ref 25]) rfl ?_
  refine j_V.ldL yr9p_M yr9p_90 rfl (i := 0) (kd := 2) (v := .ref 272) (pcJ := 91) rfl L rfl rfl rfl ?_
  refine j_V.getK yr9p_M yr9p_91 (ci := 3) (j := 4) rfl K rfl rfl ?_
  refine j_V.alnA yr9p_M yr9p_94 K rfl ?_
  refine j_V.acp yr9p_M yr9p_95 rfl rfl K rfl rfl rfl (fun h K => ?_)
  refine j_V.ldL yr9p_M yr9p_98 rfl (i := 1) (kd := 2) (v := .ref 20) (pcJ := 99) rfl L rfl rfl rfl ?_
  refine j_V.getK yr9p_M yr9p_99 (ci := 3) (j := 5) rfl K rfl rfl ?_
  refine j_V.one yr9p_M yr9p_102 (by decide) (pcJ := 103) (stJ := [.int 0, .ref 26]) rfl ?_
  refine j_V.ldL yr9p_M yr9p_103 rfl (i := 0) (kd := 2) (v := .ref 272) (pcJ := 104) rfl L rfl rfl rfl ?_
  refine j_V.getK yr9p_M yr9p_104 (ci := 3) (j := 5) rfl K rfl rfl ?_
  refine j_V.one yr9p_M yr9p_107 (by decide) (pcJ := 108) (stJ := [.int 0, .ref 278, .int 0, .ref 26]) rfl ?_
  refine j_V.ldL yr9p_M yr9p_108 rfl (i := 0) (kd := 2) (v := .ref 272) (pcJ := 109) rfl L rfl rfl rfl ?_
  refine j_V.getK yr9p_M yr9p_109 (ci := 3) (j := 5) rfl K rfl rfl ?_
  refine j_V.alnA yr9p_M yr9p_112 K rfl ?_
  refine j_V.acp yr9p_M yr9p_113 rfl rfl K rfl rfl rfl (fun h K => ?_)
  exact kk _ _ L K
set_option maxRecDepth 1000000 in
theorem yr9p_k116 {pev : Int32} {prr : List Int32} {pfa : List Int32} {pevs : Int32} {prrs : List Int32} {pfas : List Int32} {d : Nat} {lv : J_L} {h h0 : J_H} {Q : Option Value → J_H → Prop} (L : LK lv [(0, .ref 272), (1, .ref 20)]) (K : KN h [(20, .inl (3, [.ref 21, .ref 22, .ref 23, .ref 24, .ref 25, .ref 26, .ref 27, .ref 28, .int pevs, .int 1])), (27, .inr (.inl (0, prrs))), (28, .inr (.inl (0, pfas))), (272, .inl (3, [.ref 273, .ref 274, .ref 275, .ref 276, .ref 277, .ref 278, .ref 279, .ref 280, .int pev, .int 1])), (279, .inr (.inl (0, prr))), (280, .inr (.inl (0, pfa)))] h0) (kk : ∀ lv h, LK lv [(0, .ref 272), (1, .ref 20)] → KN h [(20, .inl (3, [.ref 21, .ref 22, .ref 23, .ref 24, .ref 25, .ref 26, .ref 27, .ref 28, .int pevs, .int 1])), (27, .inr (.inl (0, prrs))), (28, .inr (.inl (0, pfas))), (272, .inl (3, [.ref 273, .ref 274, .ref 275, .ref 276, .ref 277, .ref 278, .ref 279, .ref 280, .int pev, .int 1])), (279, .inr (.inl (0, (aC (nI prr.length) prrs prr)))), (280, .inr (.inl (0, (aC (nI pfa.length) pfas pfa))))] h0 → j_V jP d 28 152 lv [] h Q) : j_V jP d 28 116 lv [] h Q := by
  refine j_V.ldL yr9p_M yr9p_116 rfl (i := 1) (kd := 2) (v := .ref 20) (pcJ := 117) rfl L rfl rfl rfl ?_
  refine j_V.getK yr9p_M yr9p_117 (ci := 3) (j := 6) rfl K rfl rfl ?_
  refine j_V.one yr9p_M yr9p_120 (by decide) (pcJ := 121) (stJ := [.int 0, .ref 27]) rfl ?_
  refine j_V.ldL yr9p_M yr9p_121 rfl (i := 0) (kd := 2) (v := .ref 272) (pcJ := 122) rfl L rfl rfl rfl ?_
  refine j_V.getK yr9p_M yr9p_122 (ci := 3) (j := 6) rfl K rfl rfl ?_
  refine j_V.one yr9p_M yr9p_125 (by decide) (pcJ := 126) (stJ := [.int 0, .ref 279, .int 0, .ref 27]) rfl ?_
  refine j_V.ldL yr9p_M yr9p_126 rfl (i := 0) (kd := 2) (v := .ref 272) (pcJ := 127) rfl L rfl rfl rfl ?_
  refine j_V.getK yr9p_M yr9p_127 (ci := 3) (j := 6) rfl K rfl rfl ?_
  refine j_V.alnA yr9p_M yr9p_130 K rfl ?_
  refine j_V.acp yr9p_M yr9p_131 rfl rfl K rfl rfl rfl (fun h K => ?_)
  refine j_V.ldL yr9p_M yr9p_134 rfl (i := 1) (kd := 2) (v := .ref 20) (pcJ := 135) rfl L rfl rfl rfl ?_
  refine j_V.getK yr9p_M yr9p_135 (ci := 3) (j := 7) rfl K rfl rfl ?_
  refine j_V.one yr9p_M yr9p_138 (by decide) (pcJ := 139) (stJ := [.int 0, .ref 28]) rfl ?_
  refine j_V.ldL yr9p_M yr9p_139 rfl (i := 0) (kd := 2) (v := .ref 272) (pcJ := 140) rfl L rfl rfl rfl ?_
  refine j_V.getK yr9p_M yr9p_140 (ci := 3) (j := 7) rfl K rfl rfl ?_
  refine j_V.one yr9p_M yr9p_143 (by decide) (pcJ := 144) (stJ := [.int 0, .ref 280, .int 0, .ref 28]) rfl ?_
  refine j_V.ldL yr9p_M yr9p_144 rfl (i := 0) (kd := 2) (v := .ref 272) (pcJ := 145) rfl L rfl rfl rfl ?_
  refine j_V.getK yr9p_M yr9p_145 (ci := 3) (j := 7) rfl K rfl rfl ?_
  refine j_V.alnA yr9p_M yr9p_148 K rfl ?_
  refine j_V.acp yr9p_M yr9p_149 rfl rfl K rfl rfl rfl (fun h K => ?_)
  exact kk _ _ L K
set_option maxRecDepth 1000000 in
theorem yr9p_ok {pev : Int32} {pms : List Int32} {pmm : List Int32} {pmt : List Int32} {pst : List Int32} {pwa : List Int32} {prs : List Int32} {prr : List Int32} {pfa : List Int32} {pevs : Int32} {pmss : List Int32} {pmms : List Int32} {pmts : List Int32} {psts : List Int32} {pwas : List Int32} {prss : List Int32} {prrs : List Int32} {pfas : List Int32} {d : Nat} {h h0 : J_H} (K : KN h [(20, .inl (3, [.ref 21, .ref 22, .ref 23, .ref 24, .ref 25, .ref 26, .ref 27, .ref 28, .int pevs, .int 1])), (21, .inr (.inl (0, pmss))), (22, .inr (.inl (0, pmms))), (23, .inr (.inl (0, pmts))), (24, .inr (.inl (0, psts))), (25, .inr (.inl (0, pwas))), (26, .inr (.inl (0, prss))), (27, .inr (.inl (0, prrs))), (28, .inr (.inl (0, pfas))), (272, .inl (3, [.ref 273, .ref 274, .ref 275, .ref 276, .ref 277, .ref 278, .ref 279, .ref 280, .int pev, .int 1])), (273, .inr (.inl (0, pms))), (274, .inr (.inl (0, pmm))), (275, .inr (.inl (0, pmt))), (276, .inr (.inl (0, pst))), (277, .inr (.inl (0, pwa))), (278, .inr (.inl (0, prs))), (279, .inr (.inl (0, prr))), (280, .inr (.inl (0, pfa)))] h0) : j_V jP d 28 0 (lv_args 0 [.ref 272, .ref 20]) [] h (fun rv h' => rv = none ∧ KN h' [(20, .inl (3, [.ref 21, .ref 22, .ref 23, .ref 24, .ref 25, .ref 26, .ref 27, .ref 28, .int pevs, .int 1])), (21, .inr (.inl (0, pmss))), (22, .inr (.inl (0, pmms))), (23, .inr (.inl (0, pmts))), (24, .inr (.inl (0, psts))), (25, .inr (.inl (0, pwas))), (26, .inr (.inl (0, prss))), (27, .inr (.inl (0, prrs))), (28, .inr (.inl (0, pfas))), (272, .inl (3, [.ref 273, .ref 274, .ref 275, .ref 276, .ref 277, .ref 278, .ref 279, .ref 280, .int pevs, .int 1])), (273, .inr (.inl (0, (aC (nI pms.length) pmss pms)))), (274, .inr (.inl (0, (aC (nI pmm.length) pmms pmm)))), (275, .inr (.inl (0, (aC (nI pmt.length) pmts pmt)))), (276, .inr (.inl (0, (aC (nI pst.length) psts pst)))), (277, .inr (.inl (0, (aC (nI pwa.length) pwas pwa)))), (278, .inr (.inl (0, (aC (nI prs.length) prss prs)))), (279, .inr (.inl (0, (aC (nI prr.length) prrs prr)))), (280, .inr (.inl (0, (aC (nI pfa.length) pfas pfa))))] h0) := by
  show j_V jP d 28 0 [(0, .ref 272), (1, .ref 20)] [] h _
  obtain ⟨lv, elv, L⟩ : ∃ lv, lv = [(0, .ref 272), (1, .ref 20)] ∧ LK lv [(0, .ref 272), (1, .ref 20)] := ⟨_, rfl, LK.rf⟩
  rw [← elv]
  clear elv
  refine j_V.ldL yr9p_M yr9p_0 rfl (i := 0) (kd := 2) (v := .ref 272) (pcJ := 1) rfl L rfl rfl rfl ?_
  refine j_V.getK yr9p_M yr9p_1 (ci := 3) (j := 9) rfl K rfl rfl ?_
  refine j_V.ifc yr9p_M yr9p_4 (t := 8) rfl (fun c4_0 => ?_) (fun c4_0 => ?_)
  · replace c4_0 : ¬ ((1 : Int32) = 0) := jd_ne c4_0
    refine yr9p_k8 L (K.fi [20, 21, 22, 272, 273, 274] rfl rfl) (fun lv h9 L K9 => ?_)
    have K : KN h9 [(20, .inl (3, [.ref 21, .ref 22, .ref 23, .ref 24, .ref 25, .ref 26, .ref 27, .ref 28, .int pevs, .int 1])), (21, .inr (.inl (0, pmss))), (22, .inr (.inl (0, pmms))), (23, .inr (.inl (0, pmts))), (24, .inr (.inl (0, psts))), (25, .inr (.inl (0, pwas))), (26, .inr (.inl (0, prss))), (27, .inr (.inl (0, prrs))), (28, .inr (.inl (0, pfas))), (272, .inl (3, [.ref 273, .ref 274, .ref 275, .ref 276, .ref 277, .ref 278, .ref 279, .ref 280, .int pev, .int 1])), (273, .inr (.inl (0, (aC (nI pms.length) pmss pms)))), (274, .inr (.inl (0, (aC (nI pmm.length) pmms pmm)))), (275, .inr (.inl (0, pmt))), (276, .inr (.inl (0, pst))), (277, .inr (.inl (0, pwa))), (278, .inr (.inl (0, prs))), (279, .inr (.inl (0, prr))), (280, .inr (.inl (0, pfa)))] h0 := K.mg K9 rfl rfl
    clear K9
    refine yr9p_k44 L (K.fi [20, 23, 24, 272, 275, 276] rfl rfl) (fun lv h9 L K9 => ?_)
    have K : KN h9 [(20, .inl (3, [.ref 21, .ref 22, .ref 23, .ref 24, .ref 25, .ref 26, .ref 27, .ref 28, .int pevs, .int 1])), (21, .inr (.inl (0, pmss))), (22, .inr (.inl (0, pmms))), (23, .inr (.inl (0, pmts))), (24, .inr (.inl (0, psts))), (25, .inr (.inl (0, pwas))), (26, .inr (.inl (0, prss))), (27, .inr (.inl (0, prrs))), (28, .inr (.inl (0, pfas))), (272, .inl (3, [.ref 273, .ref 274, .ref 275, .ref 276, .ref 277, .ref 278, .ref 279, .ref 280, .int pev, .int 1])), (273, .inr (.inl (0, (aC (nI pms.length) pmss pms)))), (274, .inr (.inl (0, (aC (nI pmm.length) pmms pmm)))), (275, .inr (.inl (0, (aC (nI pmt.length) pmts pmt)))), (276, .inr (.inl (0, (aC (nI pst.length) psts pst)))), (277, .inr (.inl (0, pwa))), (278, .inr (.inl (0, prs))), (279, .inr (.inl (0, prr))), (280, .inr (.inl (0, pfa)))] h0 := K.mg K9 rfl rfl
    clear K9
    refine yr9p_k80 L (K.fi [20, 25, 26, 272, 277, 278] rfl rfl) (fun lv h9 L K9 => ?_)
    have K : KN h9 [(20, .inl (3, [.ref 21, .ref 22, .ref 23, .ref 24, .ref 25, .ref 26, .ref 27, .ref 28, .int pevs, .int 1])), (21, .inr (.inl (0, pmss))), (22, .inr (.inl (0, pmms))), (23, .inr (.inl (0, pmts))), (24, .inr (.inl (0, psts))), (25, .inr (.inl (0, pwas))), (26, .inr (.inl (0, prss))), (27, .inr (.inl (0, prrs))), (28, .inr (.inl (0, pfas))), (272, .inl (3, [.ref 273, .ref 274, .ref 275, .ref 276, .ref 277, .ref 278, .ref 279, .ref 280, .int pev, .int 1])), (273, .inr (.inl (0, (aC (nI pms.length) pmss pms)))), (274, .inr (.inl (0, (aC (nI pmm.length) pmms pmm)))), (275, .inr (.inl (0, (aC (nI pmt.length) pmts pmt)))), (276, .inr (.inl (0, (aC (nI pst.length) psts pst)))), (277, .inr (.inl (0, (aC (nI pwa.length) pwas pwa)))), (278, .inr (.inl (0, (aC (nI prs.length) prss prs)))), (279, .inr (.inl (0, prr))), (280, .inr (.inl (0, pfa)))] h0 := K.mg K9 rfl rfl
    clear K9
    refine yr9p_k116 L (K.fi [20, 27, 28, 272, 279, 280] rfl rfl) (fun lv h9 L K9 => ?_)
    have K : KN h9 [(20, .inl (3, [.ref 21, .ref 22, .ref 23, .ref 24, .ref 25, .ref 26, .ref 27, .ref 28, .int pevs, .int 1])), (21, .inr (.inl (0, pmss))), (22, .inr (.inl (0, pmms))), (23, .inr (.inl (0, pmts))), (24, .inr (.inl (0, psts))), (25, .inr (.inl (0, pwas))), (26, .inr (.inl (0, prss))), (27, .inr (.inl (0, prrs))), (28, .inr (.inl (0, pfas))), (272, .inl (3, [.ref 273, .ref 274, .ref 275, .ref 276, .ref 277, .ref 278, .ref 279, .ref 280, .int pev, .int 1])), (273, .inr (.inl (0, (aC (nI pms.length) pmss pms)))), (274, .inr (.inl (0, (aC (nI pmm.length) pmms pmm)))), (275, .inr (.inl (0, (aC (nI pmt.length) pmts pmt)))), (276, .inr (.inl (0, (aC (nI pst.length) psts pst)))), (277, .inr (.inl (0, (aC (nI pwa.length) pwas pwa)))), (278, .inr (.inl (0, (aC (nI prs.length) prss prs)))), (279, .inr (.inl (0, (aC (nI prr.length) prrs prr)))), (280, .inr (.inl (0, (aC (nI pfa.length) pfas pfa))))] h0 := K.mg K9 rfl rfl
    clear K9
    refine j_V.ldL yr9p_M yr9p_152 rfl (i := 0) (kd := 2) (v := .ref 272) (pcJ := 153) rfl L rfl rfl rfl ?_
    refine j_V.ldL yr9p_M yr9p_153 rfl (i := 1) (kd := 2) (v := .ref 20) (pcJ := 154) rfl L rfl rfl rfl ?_
    refine j_V.getK yr9p_M yr9p_154 (ci := 3) (j := 8) rfl K rfl rfl ?_
    refine j_V.putK yr9p_M yr9p_157 (ci := 3) (j := 8) (k' := [(20, .inl (3, [.ref 21, .ref 22, .ref 23, .ref 24, .ref 25, .ref 26, .ref 27, .ref 28, .int pevs, .int 1])), (21, .inr (.inl (0, pmss))), (22, .inr (.inl (0, pmms))), (23, .inr (.inl (0, pmts))), (24, .inr (.inl (0, psts))), (25, .inr (.inl (0, pwas))), (26, .inr (.inl (0, prss))), (27, .inr (.inl (0, prrs))), (28, .inr (.inl (0, pfas))), (272, .inl (3, [.ref 273, .ref 274, .ref 275, .ref 276, .ref 277, .ref 278, .ref 279, .ref 280, .int pevs, .int 1])), (273, .inr (.inl (0, (aC (nI pms.length) pmss pms)))), (274, .inr (.inl (0, (aC (nI pmm.length) pmms pmm)))), (275, .inr (.inl (0, (aC (nI pmt.length) pmts pmt)))), (276, .inr (.inl (0, (aC (nI pst.length) psts pst)))), (277, .inr (.inl (0, (aC (nI pwa.length) pwas pwa)))), (278, .inr (.inl (0, (aC (nI prs.length) prss prs)))), (279, .inr (.inl (0, (aC (nI prr.length) prrs prr)))), (280, .inr (.inl (0, (aC (nI pfa.length) pfas pfa))))]) rfl K rfl (Nat.le_of_ble_eq_true rfl) rfl (Or.inl rfl) rfl rfl (fun h K => ?_)
    exact j_V.ret yr9p_M yr9p_160 rfl rfl ⟨rfl, K⟩
  · replace c4_0 : (1 : Int32) = 0 := jd_nen c4_0
    exact absurd c4_0 (by decide)
set_option maxRecDepth 100000 in
theorem yr9s_M : j_meth jP 61 = some (yX7_copyFrom, cX7_copyFrom, 2, none, 1, false, 7) := rfl
set_option maxRecDepth 100000 in
theorem yr9s_0 : j_code jP 61 0 = some (.aload_n 0) := rfl
set_option maxRecDepth 100000 in
theorem yr9s_1 : j_code jP 61 1 = some (.aload_n 1) := rfl
set_option maxRecDepth 100000 in
theorem yr9s_2 : j_code jP 61 2 = some (.getfield 64) := rfl
set_option maxRecDepth 100000 in
theorem yr9s_5 : j_code jP 61 5 = some (.putfield 64) := rfl
set_option maxRecDepth 100000 in
theorem yr9s_8 : j_code jP 61 8 = some (.aload_n 0) := rfl
set_option maxRecDepth 100000 in
theorem yr9s_9 : j_code jP 61 9 = some (.aload_n 1) := rfl
set_option maxRecDepth 100000 in
theorem yr9s_10 : j_code jP 61 10 = some (.getfield 68) := rfl
set_option maxRecDepth 100000 in
theorem yr9s_13 : j_code jP 61 13 = some (.putfield 68) := rfl
set_option maxRecDepth 100000 in
theorem yr9s_16 : j_code jP 61 16 = some (.aload_n 0) := rfl
set_option maxRecDepth 100000 in
theorem yr9s_17 : j_code jP 61 17 = some (.aload_n 1) := rfl
set_option maxRecDepth 100000 in
theorem yr9s_18 : j_code jP 61 18 = some (.getfield 72) := rfl
set_option maxRecDepth 100000 in
theorem yr9s_21 : j_code jP 61 21 = some (.putfield 72) := rfl
set_option maxRecDepth 100000 in
theorem yr9s_24 : j_code jP 61 24 = some (.aload_n 0) := rfl
set_option maxRecDepth 100000 in
theorem yr9s_25 : j_code jP 61 25 = some (.aload_n 1) := rfl
set_option maxRecDepth 100000 in
theorem yr9s_26 : j_code jP 61 26 = some (.getfield 75) := rfl
set_option maxRecDepth 100000 in
theorem yr9s_29 : j_code jP 61 29 = some (.putfield 75) := rfl
set_option maxRecDepth 100000 in
theorem yr9s_32 : j_code jP 61 32 = some (.aload_n 0) := rfl
set_option maxRecDepth 100000 in
theorem yr9s_33 : j_code jP 61 33 = some (.aload_n 1) := rfl
set_option maxRecDepth 100000 in
theorem yr9s_34 : j_code jP 61 34 = some (.getfield 78) := rfl
set_option maxRecDepth 100000 in
theorem yr9s_37 : j_code jP 61 37 = some (.putfield 78) := rfl
set_option maxRecDepth 100000 in
theorem yr9s_40 : j_code jP 61 40 = some (.aload_n 1) := rfl
set_option maxRecDepth 100000 in
theorem yr9s_41 : j_code jP 61 41 = some (.getfield 9) := rfl
set_option maxRecDepth 100000 in
theorem yr9s_44 : j_code jP 61 44 = some (.iconst 0) := rfl
set_option maxRecDepth 100000 in
theorem yr9s_45 : j_code jP 61 45 = some (.aload_n 0) := rfl
set_option maxRecDepth 100000 in
theorem yr9s_46 : j_code jP 61 46 = some (.getfield 9) := rfl
set_option maxRecDepth 100000 in
theorem yr9s_49 : j_code jP 61 49 = some (.iconst 0) := rfl
set_option maxRecDepth 100000 in
theorem yr9s_50 : j_code jP 61 50 = some (.iconst 5) := rfl
set_option maxRecDepth 100000 in
theorem yr9s_51 : j_code jP 61 51 = some (.invokestatic 84) := rfl
set_option maxRecDepth 100000 in
theorem yr9s_54 : j_code jP 61 54 = some (.aload_n 1) := rfl
set_option maxRecDepth 100000 in
theorem yr9s_55 : j_code jP 61 55 = some (.getfield 15) := rfl
set_option maxRecDepth 100000 in
theorem yr9s_58 : j_code jP 61 58 = some (.iconst 0) := rfl
set_option maxRecDepth 100000 in
theorem yr9s_59 : j_code jP 61 59 = some (.aload_n 0) := rfl
set_option maxRecDepth 100000 in
theorem yr9s_60 : j_code jP 61 60 = some (.getfield 15) := rfl
set_option maxRecDepth 100000 in
theorem yr9s_63 : j_code jP 61 63 = some (.iconst 0) := rfl
set_option maxRecDepth 100000 in
theorem yr9s_64 : j_code jP 61 64 = some (.iconst 5) := rfl
set_option maxRecDepth 100000 in
theorem yr9s_65 : j_code jP 61 65 = some (.invokestatic 84) := rfl
set_option maxRecDepth 100000 in
theorem yr9s_68 : j_code jP 61 68 = some (.aload_n 1) := rfl
set_option maxRecDepth 100000 in
theorem yr9s_69 : j_code jP 61 69 = some (.getfield 18) := rfl
set_option maxRecDepth 100000 in
theorem yr9s_72 : j_code jP 61 72 = some (.iconst 0) := rfl
set_option maxRecDepth 100000 in
theorem yr9s_73 : j_code jP 61 73 = some (.aload_n 0) := rfl
set_option maxRecDepth 100000 in
theorem yr9s_74 : j_code jP 61 74 = some (.getfield 18) := rfl
set_option maxRecDepth 100000 in
theorem yr9s_77 : j_code jP 61 77 = some (.iconst 0) := rfl
set_option maxRecDepth 100000 in
theorem yr9s_78 : j_code jP 61 78 = some (.iconst 5) := rfl
set_option maxRecDepth 100000 in
theorem yr9s_79 : j_code jP 61 79 = some (.invokestatic 84) := rfl
set_option maxRecDepth 100000 in
theorem yr9s_82 : j_code jP 61 82 = some (.aload_n 1) := rfl
set_option maxRecDepth 100000 in
theorem yr9s_83 : j_code jP 61 83 = some (.getfield 21) := rfl
set_option maxRecDepth 100000 in
theorem yr9s_86 : j_code jP 61 86 = some (.iconst 0) := rfl
set_option maxRecDepth 100000 in
theorem yr9s_87 : j_code jP 61 87 = some (.aload_n 0) := rfl
set_option maxRecDepth 100000 in
theorem yr9s_88 : j_code jP 61 88 = some (.getfield 21) := rfl
set_option maxRecDepth 100000 in
theorem yr9s_91 : j_code jP 61 91 = some (.iconst 0) := rfl
set_option maxRecDepth 100000 in
theorem yr9s_92 : j_code jP 61 92 = some (.iconst 5) := rfl
set_option maxRecDepth 100000 in
theorem yr9s_93 : j_code jP 61 93 = some (.invokestatic 84) := rfl
set_option maxRecDepth 100000 in
theorem yr9s_96 : j_code jP 61 96 = some (.aload_n 1) := rfl
set_option maxRecDepth 100000 in
theorem yr9s_97 : j_code jP 61 97 = some (.getfield 24) := rfl
set_option maxRecDepth 100000 in
theorem yr9s_100 : j_code jP 61 100 = some (.iconst 0) := rfl
set_option maxRecDepth 100000 in
theorem yr9s_101 : j_code jP 61 101 = some (.aload_n 0) := rfl
set_option maxRecDepth 100000 in
theorem yr9s_102 : j_code jP 61 102 = some (.getfield 24) := rfl
set_option maxRecDepth 100000 in
theorem yr9s_105 : j_code jP 61 105 = some (.iconst 0) := rfl
set_option maxRecDepth 100000 in
theorem yr9s_106 : j_code jP 61 106 = some (.iconst 5) := rfl
set_option maxRecDepth 100000 in
theorem yr9s_107 : j_code jP 61 107 = some (.invokestatic 84) := rfl
set_option maxRecDepth 100000 in
theorem yr9s_110 : j_code jP 61 110 = some (.aload_n 1) := rfl
set_option maxRecDepth 100000 in
theorem yr9s_111 : j_code jP 61 111 = some (.getfield 27) := rfl
set_option maxRecDepth 100000 in
theorem yr9s_114 : j_code jP 61 114 = some (.iconst 0) := rfl
set_option maxRecDepth 100000 in
theorem yr9s_115 : j_code jP 61 115 = some (.aload_n 0) := rfl
set_option maxRecDepth 100000 in
theorem yr9s_116 : j_code jP 61 116 = some (.getfield 27) := rfl
set_option maxRecDepth 100000 in
theorem yr9s_119 : j_code jP 61 119 = some (.iconst 0) := rfl
set_option maxRecDepth 100000 in
theorem yr9s_120 : j_code jP 61 120 = some (.iconst 5) := rfl
set_option maxRecDepth 100000 in
theorem yr9s_121 : j_code jP 61 121 = some (.invokestatic 84) := rfl
set_option maxRecDepth 100000 in
theorem yr9s_124 : j_code jP 61 124 = some (.aload_n 1) := rfl
set_option maxRecDepth 100000 in
theorem yr9s_125 : j_code jP 61 125 = some (.getfield 30) := rfl
set_option maxRecDepth 100000 in
theorem yr9s_128 : j_code jP 61 128 = some (.iconst 0) := rfl
set_option maxRecDepth 100000 in
theorem yr9s_129 : j_code jP 61 129 = some (.aload_n 0) := rfl
set_option maxRecDepth 100000 in
theorem yr9s_130 : j_code jP 61 130 = some (.getfield 30) := rfl
set_option maxRecDepth 100000 in
theorem yr9s_133 : j_code jP 61 133 = some (.iconst 0) := rfl
set_option maxRecDepth 100000 in
theorem yr9s_134 : j_code jP 61 134 = some (.iconst 5) := rfl
set_option maxRecDepth 100000 in
theorem yr9s_135 : j_code jP 61 135 = some (.invokestatic 84) := rfl
set_option maxRecDepth 100000 in
theorem yr9s_138 : j_code jP 61 138 = some (.aload_n 1) := rfl
set_option maxRecDepth 100000 in
theorem yr9s_139 : j_code jP 61 139 = some (.getfield 33) := rfl
set_option maxRecDepth 100000 in
theorem yr9s_142 : j_code jP 61 142 = some (.iconst 0) := rfl
set_option maxRecDepth 100000 in
theorem yr9s_143 : j_code jP 61 143 = some (.aload_n 0) := rfl
set_option maxRecDepth 100000 in
theorem yr9s_144 : j_code jP 61 144 = some (.getfield 33) := rfl
set_option maxRecDepth 100000 in
theorem yr9s_147 : j_code jP 61 147 = some (.iconst 0) := rfl
set_option maxRecDepth 100000 in
theorem yr9s_148 : j_code jP 61 148 = some (.bipush 6) := rfl
set_option maxRecDepth 100000 in
theorem yr9s_150 : j_code jP 61 150 = some (.invokestatic 84) := rfl
set_option maxRecDepth 100000 in
theorem yr9s_153 : j_code jP 61 153 = some (.aload_n 1) := rfl
set_option maxRecDepth 100000 in
theorem yr9s_154 : j_code jP 61 154 = some (.getfield 36) := rfl
set_option maxRecDepth 100000 in
theorem yr9s_157 : j_code jP 61 157 = some (.iconst 0) := rfl
set_option maxRecDepth 100000 in
theorem yr9s_158 : j_code jP 61 158 = some (.aload_n 0) := rfl
set_option maxRecDepth 100000 in
theorem yr9s_159 : j_code jP 61 159 = some (.getfield 36) := rfl
set_option maxRecDepth 100000 in
theorem yr9s_162 : j_code jP 61 162 = some (.iconst 0) := rfl
set_option maxRecDepth 100000 in
theorem yr9s_163 : j_code jP 61 163 = some (.bipush 6) := rfl
set_option maxRecDepth 100000 in
theorem yr9s_165 : j_code jP 61 165 = some (.invokestatic 84) := rfl
set_option maxRecDepth 100000 in
theorem yr9s_168 : j_code jP 61 168 = some (.aload_n 1) := rfl
set_option maxRecDepth 100000 in
theorem yr9s_169 : j_code jP 61 169 = some (.getfield 39) := rfl
set_option maxRecDepth 100000 in
theorem yr9s_172 : j_code jP 61 172 = some (.iconst 0) := rfl
set_option maxRecDepth 100000 in
theorem yr9s_173 : j_code jP 61 173 = some (.aload_n 0) := rfl
set_option maxRecDepth 100000 in
theorem yr9s_174 : j_code jP 61 174 = some (.getfield 39) := rfl
set_option maxRecDepth 100000 in
theorem yr9s_177 : j_code jP 61 177 = some (.iconst 0) := rfl
set_option maxRecDepth 100000 in
theorem yr9s_178 : j_code jP 61 178 = some (.aload_n 0) := rfl
set_option maxRecDepth 100000 in
theorem yr9s_179 : j_code jP 61 179 = some (.getfield 39) := rfl
set_option maxRecDepth 100000 in
theorem yr9s_182 : j_code jP 61 182 = some (.arraylength) := rfl
set_option maxRecDepth 100000 in
theorem yr9s_183 : j_code jP 61 183 = some (.invokestatic 84) := rfl
set_option maxRecDepth 100000 in
theorem yr9s_186 : j_code jP 61 186 = some (.aload_n 1) := rfl
set_option maxRecDepth 100000 in
theorem yr9s_187 : j_code jP 61 187 = some (.getfield 42) := rfl
set_option maxRecDepth 100000 in
theorem yr9s_190 : j_code jP 61 190 = some (.iconst 0) := rfl
set_option maxRecDepth 100000 in
theorem yr9s_191 : j_code jP 61 191 = some (.aload_n 0) := rfl
set_option maxRecDepth 100000 in
theorem yr9s_192 : j_code jP 61 192 = some (.getfield 42) := rfl
set_option maxRecDepth 100000 in
theorem yr9s_195 : j_code jP 61 195 = some (.iconst 0) := rfl
set_option maxRecDepth 100000 in
theorem yr9s_196 : j_code jP 61 196 = some (.aload_n 0) := rfl
set_option maxRecDepth 100000 in
theorem yr9s_197 : j_code jP 61 197 = some (.getfield 42) := rfl
set_option maxRecDepth 100000 in
theorem yr9s_200 : j_code jP 61 200 = some (.arraylength) := rfl
set_option maxRecDepth 100000 in
theorem yr9s_201 : j_code jP 61 201 = some (.invokestatic 84) := rfl
set_option maxRecDepth 100000 in
theorem yr9s_204 : j_code jP 61 204 = some (.aload_n 1) := rfl
set_option maxRecDepth 100000 in
theorem yr9s_205 : j_code jP 61 205 = some (.getfield 45) := rfl
set_option maxRecDepth 100000 in
theorem yr9s_208 : j_code jP 61 208 = some (.iconst 0) := rfl
set_option maxRecDepth 100000 in
theorem yr9s_209 : j_code jP 61 209 = some (.aload_n 0) := rfl
set_option maxRecDepth 100000 in
theorem yr9s_210 : j_code jP 61 210 = some (.getfield 45) := rfl
set_option maxRecDepth 100000 in
theorem yr9s_213 : j_code jP 61 213 = some (.iconst 0) := rfl
set_option maxRecDepth 100000 in
theorem yr9s_214 : j_code jP 61 214 = some (.aload_n 0) := rfl
set_option maxRecDepth 100000 in
theorem yr9s_215 : j_code jP 61 215 = some (.getfield 45) := rfl
set_option maxRecDepth 100000 in
theorem yr9s_218 : j_code jP 61 218 = some (.arraylength) := rfl
set_option maxRecDepth 100000 in
theorem yr9s_219 : j_code jP 61 219 = some (.invokestatic 84) := rfl
set_option maxRecDepth 100000 in
theorem yr9s_222 : j_code jP 61 222 = some (.aload_n 0) := rfl
set_option maxRecDepth 100000 in
theorem yr9s_223 : j_code jP 61 223 = some (.getfield 60) := rfl
set_option maxRecDepth 100000 in
theorem yr9s_226 : j_code jP 61 226 = some (.aload_n 1) := rfl
set_option maxRecDepth 100000 in
theorem yr9s_227 : j_code jP 61 227 = some (.getfield 60) := rfl
set_option maxRecDepth 100000 in
theorem yr9s_230 : j_code jP 61 230 = some (.invokevirtual 108) := rfl
set_option maxRecDepth 100000 in
theorem yr9s_233 : j_code jP 61 233 = some (.return_) := rfl
set_option maxRecDepth 1000000 in
theorem yr9s_k0 {ly : Value} {mi : Int32} {shu : Int32} {bus : Int32} {lks : Int32} {lys : Nat} {mis : Int32} {shus : Int32} {buss : Int32} {lkss : Int32} {d : Nat} {lv : J_L} {h h0 : J_H} {Q : Option Value → J_H → Prop} (L : LK lv [(0, .ref 256), (1, .ref 4)]) (K : KN h [(4, .inl (7, [.ref lys, .int mis, .int shus, .int buss, .ref 5, .ref 6, .ref 7, .ref 8, .ref 9, .ref 10, .ref 11, .ref 12, .ref 13, .ref 14, .ref 15, .int lkss, .ref 16, .ref 17, .ref 20])), (256, .inl (7, [ly, .int mi, .int shu, .int bus, .ref 257, .ref 258, .ref 259, .ref 260, .ref 261, .ref 262, .ref 263, .ref 264, .ref 265, .ref 266, .ref 267, .int lks, .ref 268, .ref 269, .ref 272]))] h0) (kk : ∀ lv h, LK lv [(0, .ref 256), (1, .ref 4)] → KN h [(4, .inl (7, [.ref lys, .int mis, .int shus, .int buss, .ref 5, .ref 6, .ref 7, .ref 8, .ref 9, .ref 10, .ref 11, .ref 12, .ref 13, .ref 14, .ref 15, .int lkss, .ref 16, .ref 17, .ref 20])), (256, .inl (7, [.ref lys, .int mis, .int shus, .int buss, .ref 257, .ref 258, .ref 259, .ref 260, .ref 261, .ref 262, .ref 263, .ref 264, .ref 265, .ref 266, .ref 267, .int lkss, .ref 268, .ref 269, .ref 272]))] h0 → j_V jP d 61 40 lv [] h Q) : j_V jP d 61 0 lv [] h Q := by
  refine j_V.ldL yr9s_M yr9s_0 rfl (i := 0) (kd := 2) (v := .ref 256) (pcJ := 1) rfl L rfl rfl rfl ?_
  refine j_V.ldL yr9s_M yr9s_1 rfl (i := 1) (kd := 2) (v := .ref 4) (pcJ := 2) rfl L rfl rfl rfl ?_
  refine j_V.getK yr9s_M yr9s_2 (ci := 7) (j := 0) rfl K rfl rfl ?_
  refine j_V.putK yr9s_M yr9s_5 (ci := 7) (j := 0) (k' := [(4, .inl (7, [.ref lys, .int mis, .int shus, .int buss, .ref 5, .ref 6, .ref 7, .ref 8, .ref 9, .ref 10, .ref 11, .ref 12, .ref 13, .ref 14, .ref 15, .int lkss, .ref 16, .ref 17, .ref 20])), (256, .inl (7, [.ref lys, .int mi, .int shu, .int bus, .ref 257, .ref 258, .ref 259, .ref 260, .ref 261, .ref 262, .ref 263, .ref 264, .ref 265, .ref 266, .ref 267, .int lks, .ref 268, .ref 269, .ref 272]))]) rfl K rfl (Nat.le_of_ble_eq_true rfl) rfl (Or.inl rfl) rfl rfl (fun h K => ?_)
  refine j_V.ldL yr9s_M yr9s_8 rfl (i := 0) (kd := 2) (v := .ref 256) (pcJ := 9) rfl L rfl rfl rfl ?_
  refine j_V.ldL yr9s_M yr9s_9 rfl (i := 1) (kd := 2) (v := .ref 4) (pcJ := 10) rfl L rfl rfl rfl ?_
  refine j_V.getK yr9s_M yr9s_10 (ci := 7) (j := 1) rfl K rfl rfl ?_
  refine j_V.putK yr9s_M yr9s_13 (ci := 7) (j := 1) (k' := [(4, .inl (7, [.ref lys, .int mis, .int shus, .int buss, .ref 5, .ref 6, .ref 7, .ref 8, .ref 9, .ref 10, .ref 11, .ref 12, .ref 13, .ref 14, .ref 15, .int lkss, .ref 16, .ref 17, .ref 20])), (256, .inl (7, [.ref lys, .int mis, .int shu, .int bus, .ref 257, .ref 258, .ref 259, .ref 260, .ref 261, .ref 262, .ref 263, .ref 264, .ref 265, .ref 266, .ref 267, .int lks, .ref 268, .ref 269, .ref 272]))]) rfl K rfl (Nat.le_of_ble_eq_true rfl) rfl (Or.inl rfl) rfl rfl (fun h K => ?_)
  refine j_V.ldL yr9s_M yr9s_16 rfl (i := 0) (kd := 2) (v := .ref 256) (pcJ := 17) rfl L rfl rfl rfl ?_
  refine j_V.ldL yr9s_M yr9s_17 rfl (i := 1) (kd := 2) (v := .ref 4) (pcJ := 18) rfl L rfl rfl rfl ?_
  refine j_V.getK yr9s_M yr9s_18 (ci := 7) (j := 2) rfl K rfl rfl ?_
  refine j_V.putK yr9s_M yr9s_21 (ci := 7) (j := 2) (k' := [(4, .inl (7, [.ref lys, .int mis, .int shus, .int buss, .ref 5, .ref 6, .ref 7, .ref 8, .ref 9, .ref 10, .ref 11, .ref 12, .ref 13, .ref 14, .ref 15, .int lkss, .ref 16, .ref 17, .ref 20])), (256, .inl (7, [.ref lys, .int mis, .int shus, .int bus, .ref 257, .ref 258, .ref 259, .ref 260, .ref 261, .ref 262, .ref 263, .ref 264, .ref 265, .ref 266, .ref 267, .int lks, .ref 268, .ref 269, .ref 272]))]) rfl K rfl (Nat.le_of_ble_eq_true rfl) rfl (Or.inl rfl) rfl rfl (fun h K => ?_)
  refine j_V.ldL yr9s_M yr9s_24 rfl (i := 0) (kd := 2) (v := .ref 256) (pcJ := 25) rfl L rfl rfl rfl ?_
  refine j_V.ldL yr9s_M yr9s_25 rfl (i := 1) (kd := 2) (v := .ref 4) (pcJ := 26) rfl L rfl rfl rfl ?_
  refine j_V.getK yr9s_M yr9s_26 (ci := 7) (j := 3) rfl K rfl rfl ?_
  refine j_V.putK yr9s_M yr9s_29 (ci := 7) (j := 3) (k' := [(4, .inl (7, [.ref lys, .int mis, .int shus, .int buss, .ref 5, .ref 6, .ref 7, .ref 8, .ref 9, .ref 10, .ref 11, .ref 12, .ref 13, .ref 14, .ref 15, .int lkss, .ref 16, .ref 17, .ref 20])), (256, .inl (7, [.ref lys, .int mis, .int shus, .int buss, .ref 257, .ref 258, .ref 259, .ref 260, .ref 261, .ref 262, .ref 263, .ref 264, .ref 265, .ref 266, .ref 267, .int lks, .ref 268, .ref 269, .ref 272]))]) rfl K rfl (Nat.le_of_ble_eq_true rfl) rfl (Or.inl rfl) rfl rfl (fun h K => ?_)
  refine j_V.ldL yr9s_M yr9s_32 rfl (i := 0) (kd := 2) (v := .ref 256) (pcJ := 33) rfl L rfl rfl rfl ?_
  refine j_V.ldL yr9s_M yr9s_33 rfl (i := 1) (kd := 2) (v := .ref 4) (pcJ := 34) rfl L rfl rfl rfl ?_
  refine j_V.getK yr9s_M yr9s_34 (ci := 7) (j := 15) rfl K rfl rfl ?_
  refine j_V.putK yr9s_M yr9s_37 (ci := 7) (j := 15) (k' := [(4, .inl (7, [.ref lys, .int mis, .int shus, .int buss, .ref 5, .ref 6, .ref 7, .ref 8, .ref 9, .ref 10, .ref 11, .ref 12, .ref 13, .ref 14, .ref 15, .int lkss, .ref 16, .ref 17, .ref 20])), (256, .inl (7, [.ref lys, .int mis, .int shus, .int buss, .ref 257, .ref 258, .ref 259, .ref 260, .ref 261, .ref 262, .ref 263, .ref 264, .ref 265, .ref 266, .ref 267, .int lkss, .ref 268, .ref 269, .ref 272]))]) rfl K rfl (Nat.le_of_ble_eq_true rfl) rfl (Or.inl rfl) rfl rfl (fun h K => ?_)
  exact kk _ _ L K
set_option maxRecDepth 1000000 in
theorem yr9s_k40 {rk : List Int32} {sta : List Int32} {ph : List Int32} {lys : Nat} {mis : Int32} {shus : Int32} {buss : Int32} {lkss : Int32} {rks : List Int32} {stas : List Int32} {phs : List Int32} {d : Nat} {lv : J_L} {h h0 : J_H} {Q : Option Value → J_H → Prop} (L : LK lv [(0, .ref 256), (1, .ref 4)]) (K : KN h [(4, .inl (7, [.ref lys, .int mis, .int shus, .int buss, .ref 5, .ref 6, .ref 7, .ref 8, .ref 9, .ref 10, .ref 11, .ref 12, .ref 13, .ref 14, .ref 15, .int lkss, .ref 16, .ref 17, .ref 20])), (5, .inr (.inl (0, rks))), (6, .inr (.inl (0, stas))), (7, .inr (.inl (0, phs))), (256, .inl (7, [.ref lys, .int mis, .int shus, .int buss, .ref 257, .ref 258, .ref 259, .ref 260, .ref 261, .ref 262, .ref 263, .ref 264, .ref 265, .ref 266, .ref 267, .int lkss, .ref 268, .ref 269, .ref 272])), (257, .inr (.inl (0, rk))), (258, .inr (.inl (0, sta))), (259, .inr (.inl (0, ph)))] h0) (kk : ∀ lv h, LK lv [(0, .ref 256), (1, .ref 4)] → KN h [(4, .inl (7, [.ref lys, .int mis, .int shus, .int buss, .ref 5, .ref 6, .ref 7, .ref 8, .ref 9, .ref 10, .ref 11, .ref 12, .ref 13, .ref 14, .ref 15, .int lkss, .ref 16, .ref 17, .ref 20])), (5, .inr (.inl (0, rks))), (6, .inr (.inl (0, stas))), (7, .inr (.inl (0, phs))), (256, .inl (7, [.ref lys, .int mis, .int shus, .int buss, .ref 257, .ref 258, .ref 259, .ref 260, .ref 261, .ref 262, .ref 263, .ref 264, .ref 265, .ref 266, .ref 267, .int lkss, .ref 268, .ref 269, .ref 272])), (257, .inr (.inl (0, (aC 5 rks rk)))), (258, .inr (.inl (0, (aC 5 stas sta)))), (259, .inr (.inl (0, (aC 5 phs ph))))] h0 → j_V jP d 61 82 lv [] h Q) : j_V jP d 61 40 lv [] h Q := by
  refine j_V.ldL yr9s_M yr9s_40 rfl (i := 1) (kd := 2) (v := .ref 4) (pcJ := 41) rfl L rfl rfl rfl ?_
  refine j_V.getK yr9s_M yr9s_41 (ci := 7) (j := 4) rfl K rfl rfl ?_
  refine j_V.one yr9s_M yr9s_44 (by decide) (pcJ := 45) (stJ := [.int 0, .ref 5]) rfl ?_
  refine j_V.ldL yr9s_M yr9s_45 rfl (i := 0) (kd := 2) (v := .ref 256) (pcJ := 46) rfl L rfl rfl rfl ?_
  refine j_V.getK yr9s_M yr9s_46 (ci := 7) (j := 4) rfl K rfl rfl ?_
  refine j_V.one yr9s_M yr9s_49 (by decide) (pcJ := 50) (stJ := [.int 0, .ref 257, .int 0, .ref 5]) rfl ?_
  refine j_V.one yr9s_M yr9s_50 (by decide) (pcJ := 51) (stJ := [.int 5, .int 0, .ref 257, .int 0, .ref 5]) rfl ?_
  refine j_V.acp yr9s_M yr9s_51 rfl rfl K rfl rfl rfl (fun h K => ?_)
  refine j_V.ldL yr9s_M yr9s_54 rfl (i := 1) (kd := 2) (v := .ref 4) (pcJ := 55) rfl L rfl rfl rfl ?_
  refine j_V.getK yr9s_M yr9s_55 (ci := 7) (j := 5) rfl K rfl rfl ?_
  refine j_V.one yr9s_M yr9s_58 (by decide) (pcJ := 59) (stJ := [.int 0, .ref 6]) rfl ?_
  refine j_V.ldL yr9s_M yr9s_59 rfl (i := 0) (kd := 2) (v := .ref 256) (pcJ := 60) rfl L rfl rfl rfl ?_
  refine j_V.getK yr9s_M yr9s_60 (ci := 7) (j := 5) rfl K rfl rfl ?_
  refine j_V.one yr9s_M yr9s_63 (by decide) (pcJ := 64) (stJ := [.int 0, .ref 258, .int 0, .ref 6]) rfl ?_
  refine j_V.one yr9s_M yr9s_64 (by decide) (pcJ := 65) (stJ := [.int 5, .int 0, .ref 258, .int 0, .ref 6]) rfl ?_
  refine j_V.acp yr9s_M yr9s_65 rfl rfl K rfl rfl rfl (fun h K => ?_)
  refine j_V.ldL yr9s_M yr9s_68 rfl (i := 1) (kd := 2) (v := .ref 4) (pcJ := 69) rfl L rfl rfl rfl ?_
  refine j_V.getK yr9s_M yr9s_69 (ci := 7) (j := 6) rfl K rfl rfl ?_
  refine j_V.one yr9s_M yr9s_72 (by decide) (pcJ := 73) (stJ := [.int 0, .ref 7]) rfl ?_
  refine j_V.ldL yr9s_M yr9s_73 rfl (i := 0) (kd := 2) (v := .ref 256) (pcJ := 74) rfl L rfl rfl rfl ?_
  refine j_V.getK yr9s_M yr9s_74 (ci := 7) (j := 6) rfl K rfl rfl ?_
  refine j_V.one yr9s_M yr9s_77 (by decide) (pcJ := 78) (stJ := [.int 0, .ref 259, .int 0, .ref 7]) rfl ?_
  refine j_V.one yr9s_M yr9s_78 (by decide) (pcJ := 79) (stJ := [.int 5, .int 0, .ref 259, .int 0, .ref 7]) rfl ?_
  refine j_V.acp yr9s_M yr9s_79 rfl rfl K rfl rfl rfl (fun h K => ?_)
  exact kk _ _ L K
set_option maxRecDepth 1000000 in
theorem yr9s_k82 {sp : List Int32} {ce : List Int32} {du : List Int32} {lys : Nat} {mis : Int32} {shus : Int32} {buss : Int32} {lkss : Int32} {sps : List Int32} {ces : List Int32} {dus : List Int32} {d : Nat} {lv : J_L} {h h0 : J_H} {Q : Option Value → J_H → Prop} (L : LK lv [(0, .ref 256), (1, .ref 4)]) (K : KN h [(4, .inl (7, [.ref lys, .int mis, .int shus, .int buss, .ref 5, .ref 6, .ref 7, .ref 8, .ref 9, .ref 10, .ref 11, .ref 12, .ref 13, .ref 14, .ref 15, .int lkss, .ref 16, .ref 17, .ref 20])), (8, .inr (.inl (0, sps))), (9, .inr (.inl (0, ces))), (10, .inr (.inl (0, dus))), (256, .inl (7, [.ref lys, .int mis, .int shus, .int buss, .ref 257, .ref 258, .ref 259, .ref 260, .ref 261, .ref 262, .ref 263, .ref 264, .ref 265, .ref 266, .ref 267, .int lkss, .ref 268, .ref 269, .ref 272])), (260, .inr (.inl (0, sp))), (261, .inr (.inl (0, ce))), (262, .inr (.inl (0, du)))] h0) (kk : ∀ lv h, LK lv [(0, .ref 256), (1, .ref 4)] → KN h [(4, .inl (7, [.ref lys, .int mis, .int shus, .int buss, .ref 5, .ref 6, .ref 7, .ref 8, .ref 9, .ref 10, .ref 11, .ref 12, .ref 13, .ref 14, .ref 15, .int lkss, .ref 16, .ref 17, .ref 20])), (8, .inr (.inl (0, sps))), (9, .inr (.inl (0, ces))), (10, .inr (.inl (0, dus))), (256, .inl (7, [.ref lys, .int mis, .int shus, .int buss, .ref 257, .ref 258, .ref 259, .ref 260, .ref 261, .ref 262, .ref 263, .ref 264, .ref 265, .ref 266, .ref 267, .int lkss, .ref 268, .ref 269, .ref 272])), (260, .inr (.inl (0, (aC 5 sps sp)))), (261, .inr (.inl (0, (aC 5 ces ce)))), (262, .inr (.inl (0, (aC 5 dus du))))] h0 → j_V jP d 61 124 lv [] h Q) : j_V jP d 61 82 lv [] h Q := by
  refine j_V.ldL yr9s_M yr9s_82 rfl (i := 1) (kd := 2) (v := .ref 4) (pcJ := 83) rfl L rfl rfl rfl ?_
  refine j_V.getK yr9s_M yr9s_83 (ci := 7) (j := 7) rfl K rfl rfl ?_
  refine j_V.one yr9s_M yr9s_86 (by decide) (pcJ := 87) (stJ := [.int 0, .ref 8]) rfl ?_
  refine j_V.ldL yr9s_M yr9s_87 rfl (i := 0) (kd := 2) (v := .ref 256) (pcJ := 88) rfl L rfl rfl rfl ?_
  refine j_V.getK yr9s_M yr9s_88 (ci := 7) (j := 7) rfl K rfl rfl ?_
  refine j_V.one yr9s_M yr9s_91 (by decide) (pcJ := 92) (stJ := [.int 0, .ref 260, .int 0, .ref 8]) rfl ?_
  refine j_V.one yr9s_M yr9s_92 (by decide) (pcJ := 93) (stJ := [.int 5, .int 0, .ref 260, .int 0, .ref 8]) rfl ?_
  refine j_V.acp yr9s_M yr9s_93 rfl rfl K rfl rfl rfl (fun h K => ?_)
  refine j_V.ldL yr9s_M yr9s_96 rfl (i := 1) (kd := 2) (v := .ref 4) (pcJ := 97) rfl L rfl rfl rfl ?_
  refine j_V.getK yr9s_M yr9s_97 (ci := 7) (j := 8) rfl K rfl rfl ?_
  refine j_V.one yr9s_M yr9s_100 (by decide) (pcJ := 101) (stJ := [.int 0, .ref 9]) rfl ?_
  refine j_V.ldL yr9s_M yr9s_101 rfl (i := 0) (kd := 2) (v := .ref 256) (pcJ := 102) rfl L rfl rfl rfl ?_
  refine j_V.getK yr9s_M yr9s_102 (ci := 7) (j := 8) rfl K rfl rfl ?_
  refine j_V.one yr9s_M yr9s_105 (by decide) (pcJ := 106) (stJ := [.int 0, .ref 261, .int 0, .ref 9]) rfl ?_
  refine j_V.one yr9s_M yr9s_106 (by decide) (pcJ := 107) (stJ := [.int 5, .int 0, .ref 261, .int 0, .ref 9]) rfl ?_
  refine j_V.acp yr9s_M yr9s_107 rfl rfl K rfl rfl rfl (fun h K => ?_)
  refine j_V.ldL yr9s_M yr9s_110 rfl (i := 1) (kd := 2) (v := .ref 4) (pcJ := 111) rfl L rfl rfl rfl ?_
  refine j_V.getK yr9s_M yr9s_111 (ci := 7) (j := 9) rfl K rfl rfl ?_
  refine j_V.one yr9s_M yr9s_114 (by decide) (pcJ := 115) (stJ := [.int 0, .ref 10]) rfl ?_
  refine j_V.ldL yr9s_M yr9s_115 rfl (i := 0) (kd := 2) (v := .ref 256) (pcJ := 116) rfl L rfl rfl rfl ?_
  refine j_V.getK yr9s_M yr9s_116 (ci := 7) (j := 9) rfl K rfl rfl ?_
  refine j_V.one yr9s_M yr9s_119 (by decide) (pcJ := 120) (stJ := [.int 0, .ref 262, .int 0, .ref 10]) rfl ?_
  refine j_V.one yr9s_M yr9s_120 (by decide) (pcJ := 121) (stJ := [.int 5, .int 0, .ref 262, .int 0, .ref 10]) rfl ?_
  refine j_V.acp yr9s_M yr9s_121 rfl rfl K rfl rfl rfl (fun h K => ?_)
  exact kk _ _ L K
set_option maxRecDepth 1000000 in
theorem yr9s_k124 {he : List Int32} {ri : List Int32} {us : List Int32} {lys : Nat} {mis : Int32} {shus : Int32} {buss : Int32} {lkss : Int32} {hes : List Int32} {ris : List Int32} {uss : List Int32} {d : Nat} {lv : J_L} {h h0 : J_H} {Q : Option Value → J_H → Prop} (L : LK lv [(0, .ref 256), (1, .ref 4)]) (K : KN h [(4, .inl (7, [.ref lys, .int mis, .int shus, .int buss, .ref 5, .ref 6, .ref 7, .ref 8, .ref 9, .ref 10, .ref 11, .ref 12, .ref 13, .ref 14, .ref 15, .int lkss, .ref 16, .ref 17, .ref 20])), (11, .inr (.inl (0, hes))), (12, .inr (.inl (0, ris))), (13, .inr (.inl (0, uss))), (256, .inl (7, [.ref lys, .int mis, .int shus, .int buss, .ref 257, .ref 258, .ref 259, .ref 260, .ref 261, .ref 262, .ref 263, .ref 264, .ref 265, .ref 266, .ref 267, .int lkss, .ref 268, .ref 269, .ref 272])), (263, .inr (.inl (0, he))), (264, .inr (.inl (0, ri))), (265, .inr (.inl (0, us)))] h0) (kk : ∀ lv h, LK lv [(0, .ref 256), (1, .ref 4)] → KN h [(4, .inl (7, [.ref lys, .int mis, .int shus, .int buss, .ref 5, .ref 6, .ref 7, .ref 8, .ref 9, .ref 10, .ref 11, .ref 12, .ref 13, .ref 14, .ref 15, .int lkss, .ref 16, .ref 17, .ref 20])), (11, .inr (.inl (0, hes))), (12, .inr (.inl (0, ris))), (13, .inr (.inl (0, uss))), (256, .inl (7, [.ref lys, .int mis, .int shus, .int buss, .ref 257, .ref 258, .ref 259, .ref 260, .ref 261, .ref 262, .ref 263, .ref 264, .ref 265, .ref 266, .ref 267, .int lkss, .ref 268, .ref 269, .ref 272])), (263, .inr (.inl (0, (aC 5 hes he)))), (264, .inr (.inl (0, (aC 6 ris ri)))), (265, .inr (.inl (0, (aC 6 uss us))))] h0 → j_V jP d 61 168 lv [] h Q) : j_V jP d 61 124 lv [] h Q := by
  refine j_V.ldL yr9s_M yr9s_124 rfl (i := 1) (kd := 2) (v := .ref 4) (pcJ := 125) rfl L rfl rfl rfl ?_
  refine j_V.getK yr9s_M yr9s_125 (ci := 7) (j := 10) rfl K rfl rfl ?_
  refine j_V.one yr9s_M yr9s_128 (by decide) (pcJ := 129) (stJ := [.int 0, .ref 11]) rfl ?_
  refine j_V.ldL yr9s_M yr9s_129 rfl (i := 0) (kd := 2) (v := .ref 256) (pcJ := 130) rfl L rfl rfl rfl ?_
  refine j_V.getK yr9s_M yr9s_130 (ci := 7) (j := 10) rfl K rfl rfl ?_
  refine j_V.one yr9s_M yr9s_133 (by decide) (pcJ := 134) (stJ := [.int 0, .ref 263, .int 0, .ref 11]) rfl ?_
  refine j_V.one yr9s_M yr9s_134 (by decide) (pcJ := 135) (stJ := [.int 5, .int 0, .ref 263, .int 0, .ref 11]) rfl ?_
  refine j_V.acp yr9s_M yr9s_135 rfl rfl K rfl rfl rfl (fun h K => ?_)
  refine j_V.ldL yr9s_M yr9s_138 rfl (i := 1) (kd := 2) (v := .ref 4) (pcJ := 139) rfl L rfl rfl rfl ?_
  refine j_V.getK yr9s_M yr9s_139 (ci := 7) (j := 11) rfl K rfl rfl ?_
  refine j_V.one yr9s_M yr9s_142 (by decide) (pcJ := 143) (stJ := [.int 0, .ref 12]) rfl ?_
  refine j_V.ldL yr9s_M yr9s_143 rfl (i := 0) (kd := 2) (v := .ref 256) (pcJ := 144) rfl L rfl rfl rfl ?_
  refine j_V.getK yr9s_M yr9s_144 (ci := 7) (j := 11) rfl K rfl rfl ?_
  refine j_V.one yr9s_M yr9s_147 (by decide) (pcJ := 148) (stJ := [.int 0, .ref 264, .int 0, .ref 12]) rfl ?_
  refine j_V.one yr9s_M yr9s_148 (by decide) (pcJ := 150) (stJ := [.int 6, .int 0, .ref 264, .int 0, .ref 12]) rfl ?_
  refine j_V.acp yr9s_M yr9s_150 rfl rfl K rfl rfl rfl (fun h K => ?_)
  refine j_V.ldL yr9s_M yr9s_153 rfl (i := 1) (kd := 2) (v := .ref 4) (pcJ := 154) rfl L rfl rfl rfl ?_
  refine j_V.getK yr9s_M yr9s_154 (ci := 7) (j := 12) rfl K rfl rfl ?_
  refine j_V.one yr9s_M yr9s_157 (by decide) (pcJ := 158) (stJ := [.int 0, .ref 13]) rfl ?_
  refine j_V.ldL yr9s_M yr9s_158 rfl (i := 0) (kd := 2) (v := .ref 256) (pcJ := 159) rfl L rfl rfl rfl ?_
  refine j_V.getK yr9s_M yr9s_159 (ci := 7) (j := 12) rfl K rfl rfl ?_
  refine j_V.one yr9s_M yr9s_162 (by decide) (pcJ := 163) (stJ := [.int 0, .ref 265, .int 0, .ref 13]) rfl ?_
  refine j_V.one yr9s_M yr9s_163 (by decide) (pcJ := 165) (stJ := [.int 6, .int 0, .ref 265, .int 0, .ref 13]) rfl ?_
  refine j_V.acp yr9s_M yr9s_165 rfl rfl K rfl rfl rfl (fun h K => ?_)
  exact kk _ _ L K
set_option maxRecDepth 1000000 in
theorem yr9s_k168 {cm : List Int32} {lf : List Int32} {lkd : List Int32} {lys : Nat} {mis : Int32} {shus : Int32} {buss : Int32} {lkss : Int32} {cms : List Int32} {lfs : List Int32} {lkds : List Int32} {d : Nat} {lv : J_L} {h h0 : J_H} {Q : Option Value → J_H → Prop} (L : LK lv [(0, .ref 256), (1, .ref 4)]) (K : KN h [(4, .inl (7, [.ref lys, .int mis, .int shus, .int buss, .ref 5, .ref 6, .ref 7, .ref 8, .ref 9, .ref 10, .ref 11, .ref 12, .ref 13, .ref 14, .ref 15, .int lkss, .ref 16, .ref 17, .ref 20])), (14, .inr (.inl (0, cms))), (15, .inr (.inl (0, lfs))), (16, .inr (.inl (0, lkds))), (256, .inl (7, [.ref lys, .int mis, .int shus, .int buss, .ref 257, .ref 258, .ref 259, .ref 260, .ref 261, .ref 262, .ref 263, .ref 264, .ref 265, .ref 266, .ref 267, .int lkss, .ref 268, .ref 269, .ref 272])), (266, .inr (.inl (0, cm))), (267, .inr (.inl (0, lf))), (268, .inr (.inl (0, lkd)))] h0) (kk : ∀ lv h, LK lv [(0, .ref 256), (1, .ref 4)] → KN h [(4, .inl (7, [.ref lys, .int mis, .int shus, .int buss, .ref 5, .ref 6, .ref 7, .ref 8, .ref 9, .ref 10, .ref 11, .ref 12, .ref 13, .ref 14, .ref 15, .int lkss, .ref 16, .ref 17, .ref 20])), (14, .inr (.inl (0, cms))), (15, .inr (.inl (0, lfs))), (16, .inr (.inl (0, lkds))), (256, .inl (7, [.ref lys, .int mis, .int shus, .int buss, .ref 257, .ref 258, .ref 259, .ref 260, .ref 261, .ref 262, .ref 263, .ref 264, .ref 265, .ref 266, .ref 267, .int lkss, .ref 268, .ref 269, .ref 272])), (266, .inr (.inl (0, (aC (nI cm.length) cms cm)))), (267, .inr (.inl (0, (aC (nI lf.length) lfs lf)))), (268, .inr (.inl (0, (aC (nI lkd.length) lkds lkd))))] h0 → j_V jP d 61 222 lv [] h Q) : j_V jP d 61 168 lv [] h Q := by
  refine j_V.ldL yr9s_M yr9s_168 rfl (i := 1) (kd := 2) (v := .ref 4) (pcJ := 169) rfl L rfl rfl rfl ?_
  refine j_V.getK yr9s_M yr9s_169 (ci := 7) (j := 13) rfl K rfl rfl ?_
  refine j_V.one yr9s_M yr9s_172 (by decide) (pcJ := 173) (stJ := [.int 0, .ref 14]) rfl ?_
  refine j_V.ldL yr9s_M yr9s_173 rfl (i := 0) (kd := 2) (v := .ref 256) (pcJ := 174) rfl L rfl rfl rfl ?_
  refine j_V.getK yr9s_M yr9s_174 (ci := 7) (j := 13) rfl K rfl rfl ?_
  refine j_V.one yr9s_M yr9s_177 (by decide) (pcJ := 178) (stJ := [.int 0, .ref 266, .int 0, .ref 14]) rfl ?_
  refine j_V.ldL yr9s_M yr9s_178 rfl (i := 0) (kd := 2) (v := .ref 256) (pcJ := 179) rfl L rfl rfl rfl ?_
  refine j_V.getK yr9s_M yr9s_179 (ci := 7) (j := 13) rfl K rfl rfl ?_
  refine j_V.alnA yr9s_M yr9s_182 K rfl ?_
  refine j_V.acp yr9s_M yr9s_183 rfl rfl K rfl rfl rfl (fun h K => ?_)
  refine j_V.ldL yr9s_M yr9s_186 rfl (i := 1) (kd := 2) (v := .ref 4) (pcJ := 187) rfl L rfl rfl rfl ?_
  refine j_V.getK yr9s_M yr9s_187 (ci := 7) (j := 14) rfl K rfl rfl ?_
  refine j_V.one yr9s_M yr9s_190 (by decide) (pcJ := 191) (stJ := [.int 0, .ref 15]) rfl ?_
  refine j_V.ldL yr9s_M yr9s_191 rfl (i := 0) (kd := 2) (v := .ref 256) (pcJ := 192) rfl L rfl rfl rfl ?_
  refine j_V.getK yr9s_M yr9s_192 (ci := 7) (j := 14) rfl K rfl rfl ?_
  refine j_V.one yr9s_M yr9s_195 (by decide) (pcJ := 196) (stJ := [.int 0, .ref 267, .int 0, .ref 15]) rfl ?_
  refine j_V.ldL yr9s_M yr9s_196 rfl (i := 0) (kd := 2) (v := .ref 256) (pcJ := 197) rfl L rfl rfl rfl ?_
  refine j_V.getK yr9s_M yr9s_197 (ci := 7) (j := 14) rfl K rfl rfl ?_
  refine j_V.alnA yr9s_M yr9s_200 K rfl ?_
  refine j_V.acp yr9s_M yr9s_201 rfl rfl K rfl rfl rfl (fun h K => ?_)
  refine j_V.ldL yr9s_M yr9s_204 rfl (i := 1) (kd := 2) (v := .ref 4) (pcJ := 205) rfl L rfl rfl rfl ?_
  refine j_V.getK yr9s_M yr9s_205 (ci := 7) (j := 16) rfl K rfl rfl ?_
  refine j_V.one yr9s_M yr9s_208 (by decide) (pcJ := 209) (stJ := [.int 0, .ref 16]) rfl ?_
  refine j_V.ldL yr9s_M yr9s_209 rfl (i := 0) (kd := 2) (v := .ref 256) (pcJ := 210) rfl L rfl rfl rfl ?_
  refine j_V.getK yr9s_M yr9s_210 (ci := 7) (j := 16) rfl K rfl rfl ?_
  refine j_V.one yr9s_M yr9s_213 (by decide) (pcJ := 214) (stJ := [.int 0, .ref 268, .int 0, .ref 16]) rfl ?_
  refine j_V.ldL yr9s_M yr9s_214 rfl (i := 0) (kd := 2) (v := .ref 256) (pcJ := 215) rfl L rfl rfl rfl ?_
  refine j_V.getK yr9s_M yr9s_215 (ci := 7) (j := 16) rfl K rfl rfl ?_
  refine j_V.alnA yr9s_M yr9s_218 K rfl ?_
  refine j_V.acp yr9s_M yr9s_219 rfl rfl K rfl rfl rfl (fun h K => ?_)
  exact kk _ _ L K
set_option maxRecDepth 1000000 in
theorem yr9s_ok {ly : Value} {mi : Int32} {shu : Int32} {bus : Int32} {lks : Int32} {rk : List Int32} {sta : List Int32} {ph : List Int32} {sp : List Int32} {ce : List Int32} {du : List Int32} {he : List Int32} {ri : List Int32} {us : List Int32} {cm : List Int32} {lf : List Int32} {lkd : List Int32} {pev : Int32} {pms : List Int32} {pmm : List Int32} {pmt : List Int32} {pst : List Int32} {pwa : List Int32} {prs : List Int32} {prr : List Int32} {pfa : List Int32} {lys : Nat} {mis : Int32} {shus : Int32} {buss : Int32} {lkss : Int32} {rks : List Int32} {stas : List Int32} {phs : List Int32} {sps : List Int32} {ces : List Int32} {dus : List Int32} {hes : List Int32} {ris : List Int32} {uss : List Int32} {cms : List Int32} {lfs : List Int32} {lkds : List Int32} {pevs : Int32} {pmss : List Int32} {pmms : List Int32} {pmts : List Int32} {psts : List Int32} {pwas : List Int32} {prss : List Int32} {prrs : List Int32} {pfas : List Int32} {d : Nat} {h h0 : J_H} (K : KN h [(4, .inl (7, [.ref lys, .int mis, .int shus, .int buss, .ref 5, .ref 6, .ref 7, .ref 8, .ref 9, .ref 10, .ref 11, .ref 12, .ref 13, .ref 14, .ref 15, .int lkss, .ref 16, .ref 17, .ref 20])), (5, .inr (.inl (0, rks))), (6, .inr (.inl (0, stas))), (7, .inr (.inl (0, phs))), (8, .inr (.inl (0, sps))), (9, .inr (.inl (0, ces))), (10, .inr (.inl (0, dus))), (11, .inr (.inl (0, hes))), (12, .inr (.inl (0, ris))), (13, .inr (.inl (0, uss))), (14, .inr (.inl (0, cms))), (15, .inr (.inl (0, lfs))), (16, .inr (.inl (0, lkds))), (20, .inl (3, [.ref 21, .ref 22, .ref 23, .ref 24, .ref 25, .ref 26, .ref 27, .ref 28, .int pevs, .int 1])), (21, .inr (.inl (0, pmss))), (22, .inr (.inl (0, pmms))), (23, .inr (.inl (0, pmts))), (24, .inr (.inl (0, psts))), (25, .inr (.inl (0, pwas))), (26, .inr (.inl (0, prss))), (27, .inr (.inl (0, prrs))), (28, .inr (.inl (0, pfas))), (256, .inl (7, [ly, .int mi, .int shu, .int bus, .ref 257, .ref 258, .ref 259, .ref 260, .ref 261, .ref 262, .ref 263, .ref 264, .ref 265, .ref 266, .ref 267, .int lks, .ref 268, .ref 269, .ref 272])), (257, .inr (.inl (0, rk))), (258, .inr (.inl (0, sta))), (259, .inr (.inl (0, ph))), (260, .inr (.inl (0, sp))), (261, .inr (.inl (0, ce))), (262, .inr (.inl (0, du))), (263, .inr (.inl (0, he))), (264, .inr (.inl (0, ri))), (265, .inr (.inl (0, us))), (266, .inr (.inl (0, cm))), (267, .inr (.inl (0, lf))), (268, .inr (.inl (0, lkd))), (272, .inl (3, [.ref 273, .ref 274, .ref 275, .ref 276, .ref 277, .ref 278, .ref 279, .ref 280, .int pev, .int 1])), (273, .inr (.inl (0, pms))), (274, .inr (.inl (0, pmm))), (275, .inr (.inl (0, pmt))), (276, .inr (.inl (0, pst))), (277, .inr (.inl (0, pwa))), (278, .inr (.inl (0, prs))), (279, .inr (.inl (0, prr))), (280, .inr (.inl (0, pfa)))] h0) : j_V jP d 61 0 (lv_args 0 [.ref 256, .ref 4]) [] h (fun rv h' => rv = none ∧ KN h' [(4, .inl (7, [.ref lys, .int mis, .int shus, .int buss, .ref 5, .ref 6, .ref 7, .ref 8, .ref 9, .ref 10, .ref 11, .ref 12, .ref 13, .ref 14, .ref 15, .int lkss, .ref 16, .ref 17, .ref 20])), (5, .inr (.inl (0, rks))), (6, .inr (.inl (0, stas))), (7, .inr (.inl (0, phs))), (8, .inr (.inl (0, sps))), (9, .inr (.inl (0, ces))), (10, .inr (.inl (0, dus))), (11, .inr (.inl (0, hes))), (12, .inr (.inl (0, ris))), (13, .inr (.inl (0, uss))), (14, .inr (.inl (0, cms))), (15, .inr (.inl (0, lfs))), (16, .inr (.inl (0, lkds))), (20, .inl (3, [.ref 21, .ref 22, .ref 23, .ref 24, .ref 25, .ref 26, .ref 27, .ref 28, .int pevs, .int 1])), (21, .inr (.inl (0, pmss))), (22, .inr (.inl (0, pmms))), (23, .inr (.inl (0, pmts))), (24, .inr (.inl (0, psts))), (25, .inr (.inl (0, pwas))), (26, .inr (.inl (0, prss))), (27, .inr (.inl (0, prrs))), (28, .inr (.inl (0, pfas))), (256, .inl (7, [.ref lys, .int mis, .int shus, .int buss, .ref 257, .ref 258, .ref 259, .ref 260, .ref 261, .ref 262, .ref 263, .ref 264, .ref 265, .ref 266, .ref 267, .int lkss, .ref 268, .ref 269, .ref 272])), (257, .inr (.inl (0, (aC 5 rks rk)))), (258, .inr (.inl (0, (aC 5 stas sta)))), (259, .inr (.inl (0, (aC 5 phs ph)))), (260, .inr (.inl (0, (aC 5 sps sp)))), (261, .inr (.inl (0, (aC 5 ces ce)))), (262, .inr (.inl (0, (aC 5 dus du)))), (263, .inr (.inl (0, (aC 5 hes he)))), (264, .inr (.inl (0, (aC 6 ris ri)))), (265, .inr (.inl (0, (aC 6 uss us)))), (266, .inr (.inl (0, (aC (nI cm.length) cms cm)))), (267, .inr (.inl (0, (aC (nI lf.length) lfs lf)))), (268, .inr (.inl (0, (aC (nI lkd.length) lkds lkd)))), (272, .inl (3, [.ref 273, .ref 274, .ref 275, .ref 276, .ref 277, .ref 278, .ref 279, .ref 280, .int pevs, .int 1])), (273, .inr (.inl (0, (aC (nI pms.length) pmss pms)))), (274, .inr (.inl (0, (aC (nI pmm.length) pmms pmm)))), (275, .inr (.inl (0, (aC (nI pmt.length) pmts pmt)))), (276, .inr (.inl (0, (aC (nI pst.length) psts pst)))), (277, .inr (.inl (0, (aC (nI pwa.length) pwas pwa)))), (278, .inr (.inl (0, (aC (nI prs.length) prss prs)))), (279, .inr (.inl (0, (aC (nI prr.length) prrs prr)))), (280, .inr (.inl (0, (aC (nI pfa.length) pfas pfa))))] h0) := by
  show j_V jP d 61 0 [(0, .ref 256), (1, .ref 4)] [] h _
  obtain ⟨lv, elv, L⟩ : ∃ lv, lv = [(0, .ref 256), (1, .ref 4)] ∧ LK lv [(0, .ref 256), (1, .ref 4)] := ⟨_, rfl, LK.rf⟩
  rw [← elv]
  clear elv
  refine yr9s_k0 L (K.fi [4, 256] rfl rfl) (fun lv h9 L K9 => ?_)
  have K : KN h9 [(4, .inl (7, [.ref lys, .int mis, .int shus, .int buss, .ref 5, .ref 6, .ref 7, .ref 8, .ref 9, .ref 10, .ref 11, .ref 12, .ref 13, .ref 14, .ref 15, .int lkss, .ref 16, .ref 17, .ref 20])), (5, .inr (.inl (0, rks))), (6, .inr (.inl (0, stas))), (7, .inr (.inl (0, phs))), (8, .inr (.inl (0, sps))), (9, .inr (.inl (0, ces))), (10, .inr (.inl (0, dus))), (11, .inr (.inl (0, hes))), (12, .inr (.inl (0, ris))), (13, .inr (.inl (0, uss))), (14, .inr (.inl (0, cms))), (15, .inr (.inl (0, lfs))), (16, .inr (.inl (0, lkds))), (20, .inl (3, [.ref 21, .ref 22, .ref 23, .ref 24, .ref 25, .ref 26, .ref 27, .ref 28, .int pevs, .int 1])), (21, .inr (.inl (0, pmss))), (22, .inr (.inl (0, pmms))), (23, .inr (.inl (0, pmts))), (24, .inr (.inl (0, psts))), (25, .inr (.inl (0, pwas))), (26, .inr (.inl (0, prss))), (27, .inr (.inl (0, prrs))), (28, .inr (.inl (0, pfas))), (256, .inl (7, [.ref lys, .int mis, .int shus, .int buss, .ref 257, .ref 258, .ref 259, .ref 260, .ref 261, .ref 262, .ref 263, .ref 264, .ref 265, .ref 266, .ref 267, .int lkss, .ref 268, .ref 269, .ref 272])), (257, .inr (.inl (0, rk))), (258, .inr (.inl (0, sta))), (259, .inr (.inl (0, ph))), (260, .inr (.inl (0, sp))), (261, .inr (.inl (0, ce))), (262, .inr (.inl (0, du))), (263, .inr (.inl (0, he))), (264, .inr (.inl (0, ri))), (265, .inr (.inl (0, us))), (266, .inr (.inl (0, cm))), (267, .inr (.inl (0, lf))), (268, .inr (.inl (0, lkd))), (272, .inl (3, [.ref 273, .ref 274, .ref 275, .ref 276, .ref 277, .ref 278, .ref 279, .ref 280, .int pev, .int 1])), (273, .inr (.inl (0, pms))), (274, .inr (.inl (0, pmm))), (275, .inr (.inl (0, pmt))), (276, .inr (.inl (0, pst))), (277, .inr (.inl (0, pwa))), (278, .inr (.inl (0, prs))), (279, .inr (.inl (0, prr))), (280, .inr (.inl (0, pfa)))] h0 := K.mg K9 rfl rfl
  clear K9
  refine yr9s_k40 L (K.fi [4, 5, 6, 7, 256, 257, 258, 259] rfl rfl) (fun lv h9 L K9 => ?_)
  have K : KN h9 [(4, .inl (7, [.ref lys, .int mis, .int shus, .int buss, .ref 5, .ref 6, .ref 7, .ref 8, .ref 9, .ref 10, .ref 11, .ref 12, .ref 13, .ref 14, .ref 15, .int lkss, .ref 16, .ref 17, .ref 20])), (5, .inr (.inl (0, rks))), (6, .inr (.inl (0, stas))), (7, .inr (.inl (0, phs))), (8, .inr (.inl (0, sps))), (9, .inr (.inl (0, ces))), (10, .inr (.inl (0, dus))), (11, .inr (.inl (0, hes))), (12, .inr (.inl (0, ris))), (13, .inr (.inl (0, uss))), (14, .inr (.inl (0, cms))), (15, .inr (.inl (0, lfs))), (16, .inr (.inl (0, lkds))), (20, .inl (3, [.ref 21, .ref 22, .ref 23, .ref 24, .ref 25, .ref 26, .ref 27, .ref 28, .int pevs, .int 1])), (21, .inr (.inl (0, pmss))), (22, .inr (.inl (0, pmms))), (23, .inr (.inl (0, pmts))), (24, .inr (.inl (0, psts))), (25, .inr (.inl (0, pwas))), (26, .inr (.inl (0, prss))), (27, .inr (.inl (0, prrs))), (28, .inr (.inl (0, pfas))), (256, .inl (7, [.ref lys, .int mis, .int shus, .int buss, .ref 257, .ref 258, .ref 259, .ref 260, .ref 261, .ref 262, .ref 263, .ref 264, .ref 265, .ref 266, .ref 267, .int lkss, .ref 268, .ref 269, .ref 272])), (257, .inr (.inl (0, (aC 5 rks rk)))), (258, .inr (.inl (0, (aC 5 stas sta)))), (259, .inr (.inl (0, (aC 5 phs ph)))), (260, .inr (.inl (0, sp))), (261, .inr (.inl (0, ce))), (262, .inr (.inl (0, du))), (263, .inr (.inl (0, he))), (264, .inr (.inl (0, ri))), (265, .inr (.inl (0, us))), (266, .inr (.inl (0, cm))), (267, .inr (.inl (0, lf))), (268, .inr (.inl (0, lkd))), (272, .inl (3, [.ref 273, .ref 274, .ref 275, .ref 276, .ref 277, .ref 278, .ref 279, .ref 280, .int pev, .int 1])), (273, .inr (.inl (0, pms))), (274, .inr (.inl (0, pmm))), (275, .inr (.inl (0, pmt))), (276, .inr (.inl (0, pst))), (277, .inr (.inl (0, pwa))), (278, .inr (.inl (0, prs))), (279, .inr (.inl (0, prr))), (280, .inr (.inl (0, pfa)))] h0 := K.mg K9 rfl rfl
  clear K9
  refine yr9s_k82 L (K.fi [4, 8, 9, 10, 256, 260, 261, 262] rfl rfl) (fun lv h9 L K9 => ?_)
  have K : KN h9 [(4, .inl (7, [.ref lys, .int mis, .int shus, .int buss, .ref 5, .ref 6, .ref 7, .ref 8, .ref 9, .ref 10, .ref 11, .ref 12, .ref 13, .ref 14, .ref 15, .int lkss, .ref 16, .ref 17, .ref 20])), (5, .inr (.inl (0, rks))), (6, .inr (.inl (0, stas))), (7, .inr (.inl (0, phs))), (8, .inr (.inl (0, sps))), (9, .inr (.inl (0, ces))), (10, .inr (.inl (0, dus))), (11, .inr (.inl (0, hes))), (12, .inr (.inl (0, ris))), (13, .inr (.inl (0, uss))), (14, .inr (.inl (0, cms))), (15, .inr (.inl (0, lfs))), (16, .inr (.inl (0, lkds))), (20, .inl (3, [.ref 21, .ref 22, .ref 23, .ref 24, .ref 25, .ref 26, .ref 27, .ref 28, .int pevs, .int 1])), (21, .inr (.inl (0, pmss))), (22, .inr (.inl (0, pmms))), (23, .inr (.inl (0, pmts))), (24, .inr (.inl (0, psts))), (25, .inr (.inl (0, pwas))), (26, .inr (.inl (0, prss))), (27, .inr (.inl (0, prrs))), (28, .inr (.inl (0, pfas))), (256, .inl (7, [.ref lys, .int mis, .int shus, .int buss, .ref 257, .ref 258, .ref 259, .ref 260, .ref 261, .ref 262, .ref 263, .ref 264, .ref 265, .ref 266, .ref 267, .int lkss, .ref 268, .ref 269, .ref 272])), (257, .inr (.inl (0, (aC 5 rks rk)))), (258, .inr (.inl (0, (aC 5 stas sta)))), (259, .inr (.inl (0, (aC 5 phs ph)))), (260, .inr (.inl (0, (aC 5 sps sp)))), (261, .inr (.inl (0, (aC 5 ces ce)))), (262, .inr (.inl (0, (aC 5 dus du)))), (263, .inr (.inl (0, he))), (264, .inr (.inl (0, ri))), (265, .inr (.inl (0, us))), (266, .inr (.inl (0, cm))), (267, .inr (.inl (0, lf))), (268, .inr (.inl (0, lkd))), (272, .inl (3, [.ref 273, .ref 274, .ref 275, .ref 276, .ref 277, .ref 278, .ref 279, .ref 280, .int pev, .int 1])), (273, .inr (.inl (0, pms))), (274, .inr (.inl (0, pmm))), (275, .inr (.inl (0, pmt))), (276, .inr (.inl (0, pst))), (277, .inr (.inl (0, pwa))), (278, .inr (.inl (0, prs))), (279, .inr (.inl (0, prr))), (280, .inr (.inl (0, pfa)))] h0 := K.mg K9 rfl rfl
  clear K9
  refine yr9s_k124 L (K.fi [4, 11, 12, 13, 256, 263, 264, 265] rfl rfl) (fun lv h9 L K9 => ?_)
  have K : KN h9 [(4, .inl (7, [.ref lys, .int mis, .int shus, .int buss, .ref 5, .ref 6, .ref 7, .ref 8, .ref 9, .ref 10, .ref 11, .ref 12, .ref 13, .ref 14, .ref 15, .int lkss, .ref 16, .ref 17, .ref 20])), (5, .inr (.inl (0, rks))), (6, .inr (.inl (0, stas))), (7, .inr (.inl (0, phs))), (8, .inr (.inl (0, sps))), (9, .inr (.inl (0, ces))), (10, .inr (.inl (0, dus))), (11, .inr (.inl (0, hes))), (12, .inr (.inl (0, ris))), (13, .inr (.inl (0, uss))), (14, .inr (.inl (0, cms))), (15, .inr (.inl (0, lfs))), (16, .inr (.inl (0, lkds))), (20, .inl (3, [.ref 21, .ref 22, .ref 23, .ref 24, .ref 25, .ref 26, .ref 27, .ref 28, .int pevs, .int 1])), (21, .inr (.inl (0, pmss))), (22, .inr (.inl (0, pmms))), (23, .inr (.inl (0, pmts))), (24, .inr (.inl (0, psts))), (25, .inr (.inl (0, pwas))), (26, .inr (.inl (0, prss))), (27, .inr (.inl (0, prrs))), (28, .inr (.inl (0, pfas))), (256, .inl (7, [.ref lys, .int mis, .int shus, .int buss, .ref 257, .ref 258, .ref 259, .ref 260, .ref 261, .ref 262, .ref 263, .ref 264, .ref 265, .ref 266, .ref 267, .int lkss, .ref 268, .ref 269, .ref 272])), (257, .inr (.inl (0, (aC 5 rks rk)))), (258, .inr (.inl (0, (aC 5 stas sta)))), (259, .inr (.inl (0, (aC 5 phs ph)))), (260, .inr (.inl (0, (aC 5 sps sp)))), (261, .inr (.inl (0, (aC 5 ces ce)))), (262, .inr (.inl (0, (aC 5 dus du)))), (263, .inr (.inl (0, (aC 5 hes he)))), (264, .inr (.inl (0, (aC 6 ris ri)))), (265, .inr (.inl (0, (aC 6 uss us)))), (266, .inr (.inl (0, cm))), (267, .inr (.inl (0, lf))), (268, .inr (.inl (0, lkd))), (272, .inl (3, [.ref 273, .ref 274, .ref 275, .ref 276, .ref 277, .ref 278, .ref 279, .ref 280, .int pev, .int 1])), (273, .inr (.inl (0, pms))), (274, .inr (.inl (0, pmm))), (275, .inr (.inl (0, pmt))), (276, .inr (.inl (0, pst))), (277, .inr (.inl (0, pwa))), (278, .inr (.inl (0, prs))), (279, .inr (.inl (0, prr))), (280, .inr (.inl (0, pfa)))] h0 := K.mg K9 rfl rfl
  clear K9
  refine yr9s_k168 L (K.fi [4, 14, 15, 16, 256, 266, 267, 268] rfl rfl) (fun lv h9 L K9 => ?_)
  have K : KN h9 [(4, .inl (7, [.ref lys, .int mis, .int shus, .int buss, .ref 5, .ref 6, .ref 7, .ref 8, .ref 9, .ref 10, .ref 11, .ref 12, .ref 13, .ref 14, .ref 15, .int lkss, .ref 16, .ref 17, .ref 20])), (5, .inr (.inl (0, rks))), (6, .inr (.inl (0, stas))), (7, .inr (.inl (0, phs))), (8, .inr (.inl (0, sps))), (9, .inr (.inl (0, ces))), (10, .inr (.inl (0, dus))), (11, .inr (.inl (0, hes))), (12, .inr (.inl (0, ris))), (13, .inr (.inl (0, uss))), (14, .inr (.inl (0, cms))), (15, .inr (.inl (0, lfs))), (16, .inr (.inl (0, lkds))), (20, .inl (3, [.ref 21, .ref 22, .ref 23, .ref 24, .ref 25, .ref 26, .ref 27, .ref 28, .int pevs, .int 1])), (21, .inr (.inl (0, pmss))), (22, .inr (.inl (0, pmms))), (23, .inr (.inl (0, pmts))), (24, .inr (.inl (0, psts))), (25, .inr (.inl (0, pwas))), (26, .inr (.inl (0, prss))), (27, .inr (.inl (0, prrs))), (28, .inr (.inl (0, pfas))), (256, .inl (7, [.ref lys, .int mis, .int shus, .int buss, .ref 257, .ref 258, .ref 259, .ref 260, .ref 261, .ref 262, .ref 263, .ref 264, .ref 265, .ref 266, .ref 267, .int lkss, .ref 268, .ref 269, .ref 272])), (257, .inr (.inl (0, (aC 5 rks rk)))), (258, .inr (.inl (0, (aC 5 stas sta)))), (259, .inr (.inl (0, (aC 5 phs ph)))), (260, .inr (.inl (0, (aC 5 sps sp)))), (261, .inr (.inl (0, (aC 5 ces ce)))), (262, .inr (.inl (0, (aC 5 dus du)))), (263, .inr (.inl (0, (aC 5 hes he)))), (264, .inr (.inl (0, (aC 6 ris ri)))), (265, .inr (.inl (0, (aC 6 uss us)))), (266, .inr (.inl (0, (aC (nI cm.length) cms cm)))), (267, .inr (.inl (0, (aC (nI lf.length) lfs lf)))), (268, .inr (.inl (0, (aC (nI lkd.length) lkds lkd)))), (272, .inl (3, [.ref 273, .ref 274, .ref 275, .ref 276, .ref 277, .ref 278, .ref 279, .ref 280, .int pev, .int 1])), (273, .inr (.inl (0, pms))), (274, .inr (.inl (0, pmm))), (275, .inr (.inl (0, pmt))), (276, .inr (.inl (0, pst))), (277, .inr (.inl (0, pwa))), (278, .inr (.inl (0, prs))), (279, .inr (.inl (0, prr))), (280, .inr (.inl (0, pfa)))] h0 := K.mg K9 rfl rfl
  clear K9
  refine j_V.ldL yr9s_M yr9s_222 rfl (i := 0) (kd := 2) (v := .ref 256) (pcJ := 223) rfl L rfl rfl rfl ?_
  refine j_V.getK yr9s_M yr9s_223 (ci := 7) (j := 18) rfl K rfl rfl ?_
  refine j_V.ldL yr9s_M yr9s_226 rfl (i := 1) (kd := 2) (v := .ref 4) (pcJ := 227) rfl L rfl rfl rfl ?_
  refine j_V.getK yr9s_M yr9s_227 (ci := 7) (j := 18) rfl K rfl rfl ?_
  refine j_V.cl yr9s_M yr9s_230 rfl (md := 3) (mj := 28) rfl (by decide) yr9p_M (As := [.ref 272, .ref 20]) (rest := []) (jk_spl3 (K.at rfl) rfl rfl rfl (Nat.le_of_ble_eq_true rfl) (Nat.le_of_ble_eq_true rfl)) (fun d => yr9p_ok (K.fi [20, 21, 22, 23, 24, 25, 26, 27, 28, 272, 273, 274, 275, 276, 277, 278, 279, 280] rfl rfl)) ?_
  rintro r h9 ⟨rfl, K9⟩
  have K : KN h9 [(4, .inl (7, [.ref lys, .int mis, .int shus, .int buss, .ref 5, .ref 6, .ref 7, .ref 8, .ref 9, .ref 10, .ref 11, .ref 12, .ref 13, .ref 14, .ref 15, .int lkss, .ref 16, .ref 17, .ref 20])), (5, .inr (.inl (0, rks))), (6, .inr (.inl (0, stas))), (7, .inr (.inl (0, phs))), (8, .inr (.inl (0, sps))), (9, .inr (.inl (0, ces))), (10, .inr (.inl (0, dus))), (11, .inr (.inl (0, hes))), (12, .inr (.inl (0, ris))), (13, .inr (.inl (0, uss))), (14, .inr (.inl (0, cms))), (15, .inr (.inl (0, lfs))), (16, .inr (.inl (0, lkds))), (20, .inl (3, [.ref 21, .ref 22, .ref 23, .ref 24, .ref 25, .ref 26, .ref 27, .ref 28, .int pevs, .int 1])), (21, .inr (.inl (0, pmss))), (22, .inr (.inl (0, pmms))), (23, .inr (.inl (0, pmts))), (24, .inr (.inl (0, psts))), (25, .inr (.inl (0, pwas))), (26, .inr (.inl (0, prss))), (27, .inr (.inl (0, prrs))), (28, .inr (.inl (0, pfas))), (256, .inl (7, [.ref lys, .int mis, .int shus, .int buss, .ref 257, .ref 258, .ref 259, .ref 260, .ref 261, .ref 262, .ref 263, .ref 264, .ref 265, .ref 266, .ref 267, .int lkss, .ref 268, .ref 269, .ref 272])), (257, .inr (.inl (0, (aC 5 rks rk)))), (258, .inr (.inl (0, (aC 5 stas sta)))), (259, .inr (.inl (0, (aC 5 phs ph)))), (260, .inr (.inl (0, (aC 5 sps sp)))), (261, .inr (.inl (0, (aC 5 ces ce)))), (262, .inr (.inl (0, (aC 5 dus du)))), (263, .inr (.inl (0, (aC 5 hes he)))), (264, .inr (.inl (0, (aC 6 ris ri)))), (265, .inr (.inl (0, (aC 6 uss us)))), (266, .inr (.inl (0, (aC (nI cm.length) cms cm)))), (267, .inr (.inl (0, (aC (nI lf.length) lfs lf)))), (268, .inr (.inl (0, (aC (nI lkd.length) lkds lkd)))), (272, .inl (3, [.ref 273, .ref 274, .ref 275, .ref 276, .ref 277, .ref 278, .ref 279, .ref 280, .int pevs, .int 1])), (273, .inr (.inl (0, (aC (nI pms.length) pmss pms)))), (274, .inr (.inl (0, (aC (nI pmm.length) pmms pmm)))), (275, .inr (.inl (0, (aC (nI pmt.length) pmts pmt)))), (276, .inr (.inl (0, (aC (nI pst.length) psts pst)))), (277, .inr (.inl (0, (aC (nI pwa.length) pwas pwa)))), (278, .inr (.inl (0, (aC (nI prs.length) prss prs)))), (279, .inr (.inl (0, (aC (nI prr.length) prrs prr)))), (280, .inr (.inl (0, (aC (nI pfa.length) pfas pfa))))] h0 := K.mg K9 rfl rfl
  clear K9
  show j_V jP _ 61 233 lv [] h9 _
  exact j_V.ret yr9s_M yr9s_233 rfl rfl ⟨rfl, K⟩
set_option maxRecDepth 100000 in
theorem yr9m_M : j_meth jP 2 = some (yX0_remember, cX0_remember, 2, none, 1, false, 0) := rfl
set_option maxRecDepth 100000 in
theorem yr9m_0 : j_code jP 2 0 = some (.aload_n 0) := rfl
set_option maxRecDepth 100000 in
theorem yr9m_1 : j_code jP 2 1 = some (.getfield 11) := rfl
set_option maxRecDepth 100000 in
theorem yr9m_4 : j_code jP 2 4 = some (.aload_n 0) := rfl
set_option maxRecDepth 100000 in
theorem yr9m_5 : j_code jP 2 5 = some (.getfield 24) := rfl
set_option maxRecDepth 100000 in
theorem yr9m_8 : j_code jP 2 8 = some (.aaload) := rfl
set_option maxRecDepth 100000 in
theorem yr9m_9 : j_code jP 2 9 = some (.aload_n 1) := rfl
set_option maxRecDepth 100000 in
theorem yr9m_10 : j_code jP 2 10 = some (.invokevirtual 27) := rfl
set_option maxRecDepth 100000 in
theorem yr9m_13 : j_code jP 2 13 = some (.aload_n 0) := rfl
set_option maxRecDepth 100000 in
theorem yr9m_14 : j_code jP 2 14 = some (.aload_n 0) := rfl
set_option maxRecDepth 100000 in
theorem yr9m_15 : j_code jP 2 15 = some (.getfield 24) := rfl
set_option maxRecDepth 100000 in
theorem yr9m_18 : j_code jP 2 18 = some (.iconst 1) := rfl
set_option maxRecDepth 100000 in
theorem yr9m_19 : j_code jP 2 19 = some (.iadd) := rfl
set_option maxRecDepth 100000 in
theorem yr9m_20 : j_code jP 2 20 = some (.bipush 10) := rfl
set_option maxRecDepth 100000 in
theorem yr9m_22 : j_code jP 2 22 = some (.irem) := rfl
set_option maxRecDepth 100000 in
theorem yr9m_23 : j_code jP 2 23 = some (.putfield 24) := rfl
set_option maxRecDepth 100000 in
theorem yr9m_26 : j_code jP 2 26 = some (.aload_n 0) := rfl
set_option maxRecDepth 100000 in
theorem yr9m_27 : j_code jP 2 27 = some (.aload_n 0) := rfl
set_option maxRecDepth 100000 in
theorem yr9m_28 : j_code jP 2 28 = some (.getfield 20) := rfl
set_option maxRecDepth 100000 in
theorem yr9m_31 : j_code jP 2 31 = some (.iconst 1) := rfl
set_option maxRecDepth 100000 in
theorem yr9m_32 : j_code jP 2 32 = some (.iadd) := rfl
set_option maxRecDepth 100000 in
theorem yr9m_33 : j_code jP 2 33 = some (.bipush 10) := rfl
set_option maxRecDepth 100000 in
theorem yr9m_35 : j_code jP 2 35 = some (.invokestatic 31) := rfl
set_option maxRecDepth 100000 in
theorem yr9m_38 : j_code jP 2 38 = some (.putfield 20) := rfl
set_option maxRecDepth 100000 in
theorem yr9m_41 : j_code jP 2 41 = some (.return_) := rfl
set_option maxRecDepth 1000000 in
theorem yr9m_ok {ly : Value} {mi : Int32} {shu : Int32} {bus : Int32} {lks : Int32} {rk : List Int32} {sta : List Int32} {ph : List Int32} {sp : List Int32} {ce : List Int32} {du : List Int32} {he : List Int32} {ri : List Int32} {us : List Int32} {cm : List Int32} {lf : List Int32} {lkd : List Int32} {pev : Int32} {pms : List Int32} {pmm : List Int32} {pmt : List Int32} {pst : List Int32} {pwa : List Int32} {prs : List Int32} {prr : List Int32} {pfa : List Int32} {lys : Nat} {mis : Int32} {shus : Int32} {buss : Int32} {lkss : Int32} {rks : List Int32} {stas : List Int32} {phs : List Int32} {sps : List Int32} {ces : List Int32} {dus : List Int32} {hes : List Int32} {ris : List Int32} {uss : List Int32} {cms : List Int32} {lfs : List Int32} {lkds : List Int32} {pevs : Int32} {pmss : List Int32} {pmms : List Int32} {pmts : List Int32} {psts : List Int32} {pwas : List Int32} {prss : List Int32} {prrs : List Int32} {pfas : List Int32} {acco : Int32} {d : Nat} {h h0 : J_H} (K : KN h [(4, .inl (7, [.ref lys, .int mis, .int shus, .int buss, .ref 5, .ref 6, .ref 7, .ref 8, .ref 9, .ref 10, .ref 11, .ref 12, .ref 13, .ref 14, .ref 15, .int lkss, .ref 16, .ref 17, .ref 20])), (5, .inr (.inl (0, rks))), (6, .inr (.inl (0, stas))), (7, .inr (.inl (0, phs))), (8, .inr (.inl (0, sps))), (9, .inr (.inl (0, ces))), (10, .inr (.inl (0, dus))), (11, .inr (.inl (0, hes))), (12, .inr (.inl (0, ris))), (13, .inr (.inl (0, uss))), (14, .inr (.inl (0, cms))), (15, .inr (.inl (0, lfs))), (16, .inr (.inl (0, lkds))), (20, .inl (3, [.ref 21, .ref 22, .ref 23, .ref 24, .ref 25, .ref 26, .ref 27, .ref 28, .int pevs, .int 1])), (21, .inr (.inl (0, pmss))), (22, .inr (.inl (0, pmms))), (23, .inr (.inl (0, pmts))), (24, .inr (.inl (0, psts))), (25, .inr (.inl (0, pwas))), (26, .inr (.inl (0, prss))), (27, .inr (.inl (0, prrs))), (28, .inr (.inl (0, pfas))), (29, .inl (0, [.ref 30, .int 9, .int acco])), (30, .inr (.inr (.inr [some 31, some 56, some 81, some 106, some 131, some 156, some 181, some 206, some 231, some 256]))), (256, .inl (7, [ly, .int mi, .int shu, .int bus, .ref 257, .ref 258, .ref 259, .ref 260, .ref 261, .ref 262, .ref 263, .ref 264, .ref 265, .ref 266, .ref 267, .int lks, .ref 268, .ref 269, .ref 272])), (257, .inr (.inl (0, rk))), (258, .inr (.inl (0, sta))), (259, .inr (.inl (0, ph))), (260, .inr (.inl (0, sp))), (261, .inr (.inl (0, ce))), (262, .inr (.inl (0, du))), (263, .inr (.inl (0, he))), (264, .inr (.inl (0, ri))), (265, .inr (.inl (0, us))), (266, .inr (.inl (0, cm))), (267, .inr (.inl (0, lf))), (268, .inr (.inl (0, lkd))), (272, .inl (3, [.ref 273, .ref 274, .ref 275, .ref 276, .ref 277, .ref 278, .ref 279, .ref 280, .int pev, .int 1])), (273, .inr (.inl (0, pms))), (274, .inr (.inl (0, pmm))), (275, .inr (.inl (0, pmt))), (276, .inr (.inl (0, pst))), (277, .inr (.inl (0, pwa))), (278, .inr (.inl (0, prs))), (279, .inr (.inl (0, prr))), (280, .inr (.inl (0, pfa)))] h0) : j_V jP d 2 0 (lv_args 0 [.ref 29, .ref 4]) [] h (fun rv h' => rv = none ∧ KN h' [(4, .inl (7, [.ref lys, .int mis, .int shus, .int buss, .ref 5, .ref 6, .ref 7, .ref 8, .ref 9, .ref 10, .ref 11, .ref 12, .ref 13, .ref 14, .ref 15, .int lkss, .ref 16, .ref 17, .ref 20])), (5, .inr (.inl (0, rks))), (6, .inr (.inl (0, stas))), (7, .inr (.inl (0, phs))), (8, .inr (.inl (0, sps))), (9, .inr (.inl (0, ces))), (10, .inr (.inl (0, dus))), (11, .inr (.inl (0, hes))), (12, .inr (.inl (0, ris))), (13, .inr (.inl (0, uss))), (14, .inr (.inl (0, cms))), (15, .inr (.inl (0, lfs))), (16, .inr (.inl (0, lkds))), (20, .inl (3, [.ref 21, .ref 22, .ref 23, .ref 24, .ref 25, .ref 26, .ref 27, .ref 28, .int pevs, .int 1])), (21, .inr (.inl (0, pmss))), (22, .inr (.inl (0, pmms))), (23, .inr (.inl (0, pmts))), (24, .inr (.inl (0, psts))), (25, .inr (.inl (0, pwas))), (26, .inr (.inl (0, prss))), (27, .inr (.inl (0, prrs))), (28, .inr (.inl (0, pfas))), (29, .inl (0, [.ref 30, .int 0, .int (iMn (acco + 1) 10)])), (30, .inr (.inr (.inr [some 31, some 56, some 81, some 106, some 131, some 156, some 181, some 206, some 231, some 256]))), (256, .inl (7, [.ref lys, .int mis, .int shus, .int buss, .ref 257, .ref 258, .ref 259, .ref 260, .ref 261, .ref 262, .ref 263, .ref 264, .ref 265, .ref 266, .ref 267, .int lkss, .ref 268, .ref 269, .ref 272])), (257, .inr (.inl (0, (aC 5 rks rk)))), (258, .inr (.inl (0, (aC 5 stas sta)))), (259, .inr (.inl (0, (aC 5 phs ph)))), (260, .inr (.inl (0, (aC 5 sps sp)))), (261, .inr (.inl (0, (aC 5 ces ce)))), (262, .inr (.inl (0, (aC 5 dus du)))), (263, .inr (.inl (0, (aC 5 hes he)))), (264, .inr (.inl (0, (aC 6 ris ri)))), (265, .inr (.inl (0, (aC 6 uss us)))), (266, .inr (.inl (0, (aC (nI cm.length) cms cm)))), (267, .inr (.inl (0, (aC (nI lf.length) lfs lf)))), (268, .inr (.inl (0, (aC (nI lkd.length) lkds lkd)))), (272, .inl (3, [.ref 273, .ref 274, .ref 275, .ref 276, .ref 277, .ref 278, .ref 279, .ref 280, .int pevs, .int 1])), (273, .inr (.inl (0, (aC (nI pms.length) pmss pms)))), (274, .inr (.inl (0, (aC (nI pmm.length) pmms pmm)))), (275, .inr (.inl (0, (aC (nI pmt.length) pmts pmt)))), (276, .inr (.inl (0, (aC (nI pst.length) psts pst)))), (277, .inr (.inl (0, (aC (nI pwa.length) pwas pwa)))), (278, .inr (.inl (0, (aC (nI prs.length) prss prs)))), (279, .inr (.inl (0, (aC (nI prr.length) prrs prr)))), (280, .inr (.inl (0, (aC (nI pfa.length) pfas pfa))))] h0) := by
  show j_V jP d 2 0 [(0, .ref 29), (1, .ref 4)] [] h _
  obtain ⟨lv, elv, L⟩ : ∃ lv, lv = [(0, .ref 29), (1, .ref 4)] ∧ LK lv [(0, .ref 29), (1, .ref 4)] := ⟨_, rfl, LK.rf⟩
  rw [← elv]
  clear elv
  refine j_V.ldL yr9m_M yr9m_0 rfl (i := 0) (kd := 2) (v := .ref 29) (pcJ := 1) rfl L rfl rfl rfl ?_
  refine j_V.getK yr9m_M yr9m_1 (ci := 0) (j := 0) rfl K rfl rfl ?_
  refine j_V.ldL yr9m_M yr9m_4 rfl (i := 0) (kd := 2) (v := .ref 29) (pcJ := 5) rfl L rfl rfl rfl ?_
  refine j_V.getK yr9m_M yr9m_5 (ci := 0) (j := 1) rfl K rfl rfl ?_
  refine j_V.aaA yr9m_M yr9m_8 K rfl (i := 9) (v := 256) rfl rfl ?_
  refine j_V.ldL yr9m_M yr9m_9 rfl (i := 1) (kd := 2) (v := .ref 4) (pcJ := 10) rfl L rfl rfl rfl ?_
  refine j_V.cl yr9m_M yr9m_10 rfl (md := 3) (mj := 61) rfl (by decide) yr9s_M (As := [.ref 256, .ref 4]) (rest := []) (jk_spl3 (K.at rfl) rfl rfl rfl (Nat.le_of_ble_eq_true rfl) (Nat.le_of_ble_eq_true rfl)) (fun d => yr9s_ok (K.fi [4, 5, 6, 7, 8, 9, 10, 11, 12, 13, 14, 15, 16, 20, 21, 22, 23, 24, 25, 26, 27, 28, 256, 257, 258, 259, 260, 261, 262, 263, 264, 265, 266, 267, 268, 272, 273, 274, 275, 276, 277, 278, 279, 280] rfl rfl)) ?_
  rintro r h9 ⟨rfl, K9⟩
  have K : KN h9 [(4, .inl (7, [.ref lys, .int mis, .int shus, .int buss, .ref 5, .ref 6, .ref 7, .ref 8, .ref 9, .ref 10, .ref 11, .ref 12, .ref 13, .ref 14, .ref 15, .int lkss, .ref 16, .ref 17, .ref 20])), (5, .inr (.inl (0, rks))), (6, .inr (.inl (0, stas))), (7, .inr (.inl (0, phs))), (8, .inr (.inl (0, sps))), (9, .inr (.inl (0, ces))), (10, .inr (.inl (0, dus))), (11, .inr (.inl (0, hes))), (12, .inr (.inl (0, ris))), (13, .inr (.inl (0, uss))), (14, .inr (.inl (0, cms))), (15, .inr (.inl (0, lfs))), (16, .inr (.inl (0, lkds))), (20, .inl (3, [.ref 21, .ref 22, .ref 23, .ref 24, .ref 25, .ref 26, .ref 27, .ref 28, .int pevs, .int 1])), (21, .inr (.inl (0, pmss))), (22, .inr (.inl (0, pmms))), (23, .inr (.inl (0, pmts))), (24, .inr (.inl (0, psts))), (25, .inr (.inl (0, pwas))), (26, .inr (.inl (0, prss))), (27, .inr (.inl (0, prrs))), (28, .inr (.inl (0, pfas))), (29, .inl (0, [.ref 30, .int 9, .int acco])), (30, .inr (.inr (.inr [some 31, some 56, some 81, some 106, some 131, some 156, some 181, some 206, some 231, some 256]))), (256, .inl (7, [.ref lys, .int mis, .int shus, .int buss, .ref 257, .ref 258, .ref 259, .ref 260, .ref 261, .ref 262, .ref 263, .ref 264, .ref 265, .ref 266, .ref 267, .int lkss, .ref 268, .ref 269, .ref 272])), (257, .inr (.inl (0, (aC 5 rks rk)))), (258, .inr (.inl (0, (aC 5 stas sta)))), (259, .inr (.inl (0, (aC 5 phs ph)))), (260, .inr (.inl (0, (aC 5 sps sp)))), (261, .inr (.inl (0, (aC 5 ces ce)))), (262, .inr (.inl (0, (aC 5 dus du)))), (263, .inr (.inl (0, (aC 5 hes he)))), (264, .inr (.inl (0, (aC 6 ris ri)))), (265, .inr (.inl (0, (aC 6 uss us)))), (266, .inr (.inl (0, (aC (nI cm.length) cms cm)))), (267, .inr (.inl (0, (aC (nI lf.length) lfs lf)))), (268, .inr (.inl (0, (aC (nI lkd.length) lkds lkd)))), (272, .inl (3, [.ref 273, .ref 274, .ref 275, .ref 276, .ref 277, .ref 278, .ref 279, .ref 280, .int pevs, .int 1])), (273, .inr (.inl (0, (aC (nI pms.length) pmss pms)))), (274, .inr (.inl (0, (aC (nI pmm.length) pmms pmm)))), (275, .inr (.inl (0, (aC (nI pmt.length) pmts pmt)))), (276, .inr (.inl (0, (aC (nI pst.length) psts pst)))), (277, .inr (.inl (0, (aC (nI pwa.length) pwas pwa)))), (278, .inr (.inl (0, (aC (nI prs.length) prss prs)))), (279, .inr (.inl (0, (aC (nI prr.length) prrs prr)))), (280, .inr (.inl (0, (aC (nI pfa.length) pfas pfa))))] h0 := K.mg K9 rfl rfl
  clear K9
  show j_V jP _ 2 13 lv [] h9 _
  refine j_V.ldL yr9m_M yr9m_13 rfl (i := 0) (kd := 2) (v := .ref 29) (pcJ := 14) rfl L rfl rfl rfl ?_
  refine j_V.ldL yr9m_M yr9m_14 rfl (i := 0) (kd := 2) (v := .ref 29) (pcJ := 15) rfl L rfl rfl rfl ?_
  refine j_V.getK yr9m_M yr9m_15 (ci := 0) (j := 1) rfl K rfl rfl ?_
  refine j_V.one yr9m_M yr9m_18 (by decide) (pcJ := 19) (stJ := [.int 1, .int 9, .ref 29]) rfl ?_
  refine j_V.one yr9m_M yr9m_19 (by decide) (pcJ := 20) (stJ := [.int 10, .ref 29]) rfl ?_
  refine j_V.one yr9m_M yr9m_20 (by decide) (pcJ := 22) (stJ := [.int 10, .int 10, .ref 29]) rfl ?_
  refine j_V.one yr9m_M yr9m_22 (by decide) (pcJ := 23) (stJ := [.int 0, .ref 29]) rfl ?_
  refine j_V.putK yr9m_M yr9m_23 (ci := 0) (j := 1) (k' := [(4, .inl (7, [.ref lys, .int mis, .int shus, .int buss, .ref 5, .ref 6, .ref 7, .ref 8, .ref 9, .ref 10, .ref 11, .ref 12, .ref 13, .ref 14, .ref 15, .int lkss, .ref 16, .ref 17, .ref 20])), (5, .inr (.inl (0, rks))), (6, .inr (.inl (0, stas))), (7, .inr (.inl (0, phs))), (8, .inr (.inl (0, sps))), (9, .inr (.inl (0, ces))), (10, .inr (.inl (0, dus))), (11, .inr (.inl (0, hes))), (12, .inr (.inl (0, ris))), (13, .inr (.inl (0, uss))), (14, .inr (.inl (0, cms))), (15, .inr (.inl (0, lfs))), (16, .inr (.inl (0, lkds))), (20, .inl (3, [.ref 21, .ref 22, .ref 23, .ref 24, .ref 25, .ref 26, .ref 27, .ref 28, .int pevs, .int 1])), (21, .inr (.inl (0, pmss))), (22, .inr (.inl (0, pmms))), (23, .inr (.inl (0, pmts))), (24, .inr (.inl (0, psts))), (25, .inr (.inl (0, pwas))), (26, .inr (.inl (0, prss))), (27, .inr (.inl (0, prrs))), (28, .inr (.inl (0, pfas))), (29, .inl (0, [.ref 30, .int 0, .int acco])), (30, .inr (.inr (.inr [some 31, some 56, some 81, some 106, some 131, some 156, some 181, some 206, some 231, some 256]))), (256, .inl (7, [.ref lys, .int mis, .int shus, .int buss, .ref 257, .ref 258, .ref 259, .ref 260, .ref 261, .ref 262, .ref 263, .ref 264, .ref 265, .ref 266, .ref 267, .int lkss, .ref 268, .ref 269, .ref 272])), (257, .inr (.inl (0, (aC 5 rks rk)))), (258, .inr (.inl (0, (aC 5 stas sta)))), (259, .inr (.inl (0, (aC 5 phs ph)))), (260, .inr (.inl (0, (aC 5 sps sp)))), (261, .inr (.inl (0, (aC 5 ces ce)))), (262, .inr (.inl (0, (aC 5 dus du)))), (263, .inr (.inl (0, (aC 5 hes he)))), (264, .inr (.inl (0, (aC 6 ris ri)))), (265, .inr (.inl (0, (aC 6 uss us)))), (266, .inr (.inl (0, (aC (nI cm.length) cms cm)))), (267, .inr (.inl (0, (aC (nI lf.length) lfs lf)))), (268, .inr (.inl (0, (aC (nI lkd.length) lkds lkd)))), (272, .inl (3, [.ref 273, .ref 274, .ref 275, .ref 276, .ref 277, .ref 278, .ref 279, .ref 280, .int pevs, .int 1])), (273, .inr (.inl (0, (aC (nI pms.length) pmss pms)))), (274, .inr (.inl (0, (aC (nI pmm.length) pmms pmm)))), (275, .inr (.inl (0, (aC (nI pmt.length) pmts pmt)))), (276, .inr (.inl (0, (aC (nI pst.length) psts pst)))), (277, .inr (.inl (0, (aC (nI pwa.length) pwas pwa)))), (278, .inr (.inl (0, (aC (nI prs.length) prss prs)))), (279, .inr (.inl (0, (aC (nI prr.length) prrs prr)))), (280, .inr (.inl (0, (aC (nI pfa.length) pfas pfa))))]) rfl K rfl (Nat.le_of_ble_eq_true rfl) rfl (Or.inl rfl) rfl rfl (fun h K => ?_)
  refine j_V.ldL yr9m_M yr9m_26 rfl (i := 0) (kd := 2) (v := .ref 29) (pcJ := 27) rfl L rfl rfl rfl ?_
  refine j_V.ldL yr9m_M yr9m_27 rfl (i := 0) (kd := 2) (v := .ref 29) (pcJ := 28) rfl L rfl rfl rfl ?_
  refine j_V.getK yr9m_M yr9m_28 (ci := 0) (j := 2) rfl K rfl rfl ?_
  refine j_V.one yr9m_M yr9m_31 (by decide) (pcJ := 32) (stJ := [.int 1, .int acco, .ref 29]) rfl ?_
  refine j_V.one yr9m_M yr9m_32 (by decide) (pcJ := 33) (stJ := [.int (acco + 1), .ref 29]) rfl ?_
  refine j_V.one yr9m_M yr9m_33 (by decide) (pcJ := 35) (stJ := [.int 10, .int (acco + 1), .ref 29]) rfl ?_
  refine j_V.mn yr9m_M yr9m_35 rfl rfl (Nat.le_of_ble_eq_true rfl) ?_
  refine j_V.putK yr9m_M yr9m_38 (ci := 0) (j := 2) (k' := [(4, .inl (7, [.ref lys, .int mis, .int shus, .int buss, .ref 5, .ref 6, .ref 7, .ref 8, .ref 9, .ref 10, .ref 11, .ref 12, .ref 13, .ref 14, .ref 15, .int lkss, .ref 16, .ref 17, .ref 20])), (5, .inr (.inl (0, rks))), (6, .inr (.inl (0, stas))), (7, .inr (.inl (0, phs))), (8, .inr (.inl (0, sps))), (9, .inr (.inl (0, ces))), (10, .inr (.inl (0, dus))), (11, .inr (.inl (0, hes))), (12, .inr (.inl (0, ris))), (13, .inr (.inl (0, uss))), (14, .inr (.inl (0, cms))), (15, .inr (.inl (0, lfs))), (16, .inr (.inl (0, lkds))), (20, .inl (3, [.ref 21, .ref 22, .ref 23, .ref 24, .ref 25, .ref 26, .ref 27, .ref 28, .int pevs, .int 1])), (21, .inr (.inl (0, pmss))), (22, .inr (.inl (0, pmms))), (23, .inr (.inl (0, pmts))), (24, .inr (.inl (0, psts))), (25, .inr (.inl (0, pwas))), (26, .inr (.inl (0, prss))), (27, .inr (.inl (0, prrs))), (28, .inr (.inl (0, pfas))), (29, .inl (0, [.ref 30, .int 0, .int (iMn (acco + 1) 10)])), (30, .inr (.inr (.inr [some 31, some 56, some 81, some 106, some 131, some 156, some 181, some 206, some 231, some 256]))), (256, .inl (7, [.ref lys, .int mis, .int shus, .int buss, .ref 257, .ref 258, .ref 259, .ref 260, .ref 261, .ref 262, .ref 263, .ref 264, .ref 265, .ref 266, .ref 267, .int lkss, .ref 268, .ref 269, .ref 272])), (257, .inr (.inl (0, (aC 5 rks rk)))), (258, .inr (.inl (0, (aC 5 stas sta)))), (259, .inr (.inl (0, (aC 5 phs ph)))), (260, .inr (.inl (0, (aC 5 sps sp)))), (261, .inr (.inl (0, (aC 5 ces ce)))), (262, .inr (.inl (0, (aC 5 dus du)))), (263, .inr (.inl (0, (aC 5 hes he)))), (264, .inr (.inl (0, (aC 6 ris ri)))), (265, .inr (.inl (0, (aC 6 uss us)))), (266, .inr (.inl (0, (aC (nI cm.length) cms cm)))), (267, .inr (.inl (0, (aC (nI lf.length) lfs lf)))), (268, .inr (.inl (0, (aC (nI lkd.length) lkds lkd)))), (272, .inl (3, [.ref 273, .ref 274, .ref 275, .ref 276, .ref 277, .ref 278, .ref 279, .ref 280, .int pevs, .int 1])), (273, .inr (.inl (0, (aC (nI pms.length) pmss pms)))), (274, .inr (.inl (0, (aC (nI pmm.length) pmms pmm)))), (275, .inr (.inl (0, (aC (nI pmt.length) pmts pmt)))), (276, .inr (.inl (0, (aC (nI pst.length) psts pst)))), (277, .inr (.inl (0, (aC (nI pwa.length) pwas pwa)))), (278, .inr (.inl (0, (aC (nI prs.length) prss prs)))), (279, .inr (.inl (0, (aC (nI prr.length) prrs prr)))), (280, .inr (.inl (0, (aC (nI pfa.length) pfas pfa))))]) rfl K rfl (Nat.le_of_ble_eq_true rfl) rfl (Or.inl rfl) rfl rfl (fun h K => ?_)
  exact j_V.ret yr9m_M yr9m_41 rfl rfl ⟨rfl, K⟩

/-! states copied (t), by wip/px/gen_y1.py -/
set_option maxRecDepth 100000 in
theorem ytp_M : j_meth jP 28 = some (yX3_copyFrom, cX3_copyFrom, 2, none, 1, false, 3) := rfl
set_option maxRecDepth 100000 in
theorem ytp_0 : j_code jP 28 0 = some (.aload_n 0) := rfl
set_option maxRecDepth 100000 in
theorem ytp_1 : j_code jP 28 1 = some (.getfield 36) := rfl
set_option maxRecDepth 100000 in
theorem ytp_4 : j_code jP 28 4 = some (.ifCond .ne 4) := rfl
set_option maxRecDepth 100000 in
theorem ytp_7 : j_code jP 28 7 = some (.return_) := rfl
set_option maxRecDepth 100000 in
theorem ytp_8 : j_code jP 28 8 = some (.aload_n 1) := rfl
set_option maxRecDepth 100000 in
theorem ytp_9 : j_code jP 28 9 = some (.getfield 9) := rfl
set_option maxRecDepth 100000 in
theorem ytp_12 : j_code jP 28 12 = some (.iconst 0) := rfl
set_option maxRecDepth 100000 in
theorem ytp_13 : j_code jP 28 13 = some (.aload_n 0) := rfl
set_option maxRecDepth 100000 in
theorem ytp_14 : j_code jP 28 14 = some (.getfield 9) := rfl
set_option maxRecDepth 100000 in
theorem ytp_17 : j_code jP 28 17 = some (.iconst 0) := rfl
set_option maxRecDepth 100000 in
theorem ytp_18 : j_code jP 28 18 = some (.aload_n 0) := rfl
set_option maxRecDepth 100000 in
theorem ytp_19 : j_code jP 28 19 = some (.getfield 9) := rfl
set_option maxRecDepth 100000 in
theorem ytp_22 : j_code jP 28 22 = some (.arraylength) := rfl
set_option maxRecDepth 100000 in
theorem ytp_23 : j_code jP 28 23 = some (.invokestatic 50) := rfl
set_option maxRecDepth 100000 in
theorem ytp_26 : j_code jP 28 26 = some (.aload_n 1) := rfl
set_option maxRecDepth 100000 in
theorem ytp_27 : j_code jP 28 27 = some (.getfield 15) := rfl
set_option maxRecDepth 100000 in
theorem ytp_30 : j_code jP 28 30 = some (.iconst 0) := rfl
set_option maxRecDepth 100000 in
theorem ytp_31 : j_code jP 28 31 = some (.aload_n 0) := rfl
set_option maxRecDepth 100000 in
theorem ytp_32 : j_code jP 28 32 = some (.getfield 15) := rfl
set_option maxRecDepth 100000 in
theorem ytp_35 : j_code jP 28 35 = some (.iconst 0) := rfl
set_option maxRecDepth 100000 in
theorem ytp_36 : j_code jP 28 36 = some (.aload_n 0) := rfl
set_option maxRecDepth 100000 in
theorem ytp_37 : j_code jP 28 37 = some (.getfield 15) := rfl
set_option maxRecDepth 100000 in
theorem ytp_40 : j_code jP 28 40 = some (.arraylength) := rfl
set_option maxRecDepth 100000 in
theorem ytp_41 : j_code jP 28 41 = some (.invokestatic 50) := rfl
set_option maxRecDepth 100000 in
theorem ytp_44 : j_code jP 28 44 = some (.aload_n 1) := rfl
set_option maxRecDepth 100000 in
theorem ytp_45 : j_code jP 28 45 = some (.getfield 18) := rfl
set_option maxRecDepth 100000 in
theorem ytp_48 : j_code jP 28 48 = some (.iconst 0) := rfl
set_option maxRecDepth 100000 in
theorem ytp_49 : j_code jP 28 49 = some (.aload_n 0) := rfl
set_option maxRecDepth 100000 in
theorem ytp_50 : j_code jP 28 50 = some (.getfield 18) := rfl
set_option maxRecDepth 100000 in
theorem ytp_53 : j_code jP 28 53 = some (.iconst 0) := rfl
set_option maxRecDepth 100000 in
theorem ytp_54 : j_code jP 28 54 = some (.aload_n 0) := rfl
set_option maxRecDepth 100000 in
theorem ytp_55 : j_code jP 28 55 = some (.getfield 18) := rfl
set_option maxRecDepth 100000 in
theorem ytp_58 : j_code jP 28 58 = some (.arraylength) := rfl
set_option maxRecDepth 100000 in
theorem ytp_59 : j_code jP 28 59 = some (.invokestatic 50) := rfl
set_option maxRecDepth 100000 in
theorem ytp_62 : j_code jP 28 62 = some (.aload_n 1) := rfl
set_option maxRecDepth 100000 in
theorem ytp_63 : j_code jP 28 63 = some (.getfield 21) := rfl
set_option maxRecDepth 100000 in
theorem ytp_66 : j_code jP 28 66 = some (.iconst 0) := rfl
set_option maxRecDepth 100000 in
theorem ytp_67 : j_code jP 28 67 = some (.aload_n 0) := rfl
set_option maxRecDepth 100000 in
theorem ytp_68 : j_code jP 28 68 = some (.getfield 21) := rfl
set_option maxRecDepth 100000 in
theorem ytp_71 : j_code jP 28 71 = some (.iconst 0) := rfl
set_option maxRecDepth 100000 in
theorem ytp_72 : j_code jP 28 72 = some (.aload_n 0) := rfl
set_option maxRecDepth 100000 in
theorem ytp_73 : j_code jP 28 73 = some (.getfield 21) := rfl
set_option maxRecDepth 100000 in
theorem ytp_76 : j_code jP 28 76 = some (.arraylength) := rfl
set_option maxRecDepth 100000 in
theorem ytp_77 : j_code jP 28 77 = some (.invokestatic 50) := rfl
set_option maxRecDepth 100000 in
theorem ytp_80 : j_code jP 28 80 = some (.aload_n 1) := rfl
set_option maxRecDepth 100000 in
theorem ytp_81 : j_code jP 28 81 = some (.getfield 24) := rfl
set_option maxRecDepth 100000 in
theorem ytp_84 : j_code jP 28 84 = some (.iconst 0) := rfl
set_option maxRecDepth 100000 in
theorem ytp_85 : j_code jP 28 85 = some (.aload_n 0) := rfl
set_option maxRecDepth 100000 in
theorem ytp_86 : j_code jP 28 86 = some (.getfield 24) := rfl
set_option maxRecDepth 100000 in
theorem ytp_89 : j_code jP 28 89 = some (.iconst 0) := rfl
set_option maxRecDepth 100000 in
theorem ytp_90 : j_code jP 28 90 = some (.aload_n 0) := rfl
set_option maxRecDepth 100000 in
theorem ytp_91 : j_code jP 28 91 = some (.getfield 24) := rfl
set_option maxRecDepth 100000 in
theorem ytp_94 : j_code jP 28 94 = some (.arraylength) := rfl
set_option maxRecDepth 100000 in
theorem ytp_95 : j_code jP 28 95 = some (.invokestatic 50) := rfl
set_option maxRecDepth 100000 in
theorem ytp_98 : j_code jP 28 98 = some (.aload_n 1) := rfl
set_option maxRecDepth 100000 in
theorem ytp_99 : j_code jP 28 99 = some (.getfield 27) := rfl
set_option maxRecDepth 100000 in
theorem ytp_102 : j_code jP 28 102 = some (.iconst 0) := rfl
set_option maxRecDepth 100000 in
theorem ytp_103 : j_code jP 28 103 = some (.aload_n 0) := rfl
set_option maxRecDepth 100000 in
theorem ytp_104 : j_code jP 28 104 = some (.getfield 27) := rfl
set_option maxRecDepth 100000 in
theorem ytp_107 : j_code jP 28 107 = some (.iconst 0) := rfl
set_option maxRecDepth 100000 in
theorem ytp_108 : j_code jP 28 108 = some (.aload_n 0) := rfl
set_option maxRecDepth 100000 in
theorem ytp_109 : j_code jP 28 109 = some (.getfield 27) := rfl
set_option maxRecDepth 100000 in
theorem ytp_112 : j_code jP 28 112 = some (.arraylength) := rfl
set_option maxRecDepth 100000 in
theorem ytp_113 : j_code jP 28 113 = some (.invokestatic 50) := rfl
set_option maxRecDepth 100000 in
theorem ytp_116 : j_code jP 28 116 = some (.aload_n 1) := rfl
set_option maxRecDepth 100000 in
theorem ytp_117 : j_code jP 28 117 = some (.getfield 30) := rfl
set_option maxRecDepth 100000 in
theorem ytp_120 : j_code jP 28 120 = some (.iconst 0) := rfl
set_option maxRecDepth 100000 in
theorem ytp_121 : j_code jP 28 121 = some (.aload_n 0) := rfl
set_option maxRecDepth 100000 in
theorem ytp_122 : j_code jP 28 122 = some (.getfield 30) := rfl
set_option maxRecDepth 100000 in
theorem ytp_125 : j_code jP 28 125 = some (.iconst 0) := rfl
set_option maxRecDepth 100000 in
theorem ytp_126 : j_code jP 28 126 = some (.aload_n 0) := rfl
set_option maxRecDepth 100000 in
theorem ytp_127 : j_code jP 28 127 = some (.getfield 30) := rfl
set_option maxRecDepth 100000 in
theorem ytp_130 : j_code jP 28 130 = some (.arraylength) := rfl
set_option maxRecDepth 100000 in
theorem ytp_131 : j_code jP 28 131 = some (.invokestatic 50) := rfl
set_option maxRecDepth 100000 in
theorem ytp_134 : j_code jP 28 134 = some (.aload_n 1) := rfl
set_option maxRecDepth 100000 in
theorem ytp_135 : j_code jP 28 135 = some (.getfield 33) := rfl
set_option maxRecDepth 100000 in
theorem ytp_138 : j_code jP 28 138 = some (.iconst 0) := rfl
set_option maxRecDepth 100000 in
theorem ytp_139 : j_code jP 28 139 = some (.aload_n 0) := rfl
set_option maxRecDepth 100000 in
theorem ytp_140 : j_code jP 28 140 = some (.getfield 33) := rfl
set_option maxRecDepth 100000 in
theorem ytp_143 : j_code jP 28 143 = some (.iconst 0) := rfl
set_option maxRecDepth 100000 in
theorem ytp_144 : j_code jP 28 144 = some (.aload_n 0) := rfl
set_option maxRecDepth 100000 in
theorem ytp_145 : j_code jP 28 145 = some (.getfield 33) := rfl
set_option maxRecDepth 100000 in
theorem ytp_148 : j_code jP 28 148 = some (.arraylength) := rfl
set_option maxRecDepth 100000 in
theorem ytp_149 : j_code jP 28 149 = some (.invokestatic 50) := rfl
set_option maxRecDepth 100000 in
theorem ytp_152 : j_code jP 28 152 = some (.aload_n 0) := rfl
set_option maxRecDepth 100000 in
theorem ytp_153 : j_code jP 28 153 = some (.aload_n 1) := rfl
set_option maxRecDepth 100000 in
theorem ytp_154 : j_code jP 28 154 = some (.getfield 46) := rfl
set_option maxRecDepth 100000 in
theorem ytp_157 : j_code jP 28 157 = some (.putfield 46) := rfl
set_option maxRecDepth 100000 in
theorem ytp_160 : j_code jP 28 160 = some (.return_) := rfl
set_option maxRecDepth 1000000 in
theorem ytp_ok {pev : Int32} {pms : List Int32} {pmm : List Int32} {pmt : List Int32} {pst : List Int32} {pwa : List Int32} {prs : List Int32} {prr : List Int32} {pfa : List Int32} {pevs : Int32} {pmss : List Int32} {pmms : List Int32} {pmts : List Int32} {psts : List Int32} {pwas : List Int32} {prss : List Int32} {prrs : List Int32} {pfas : List Int32} {d : Nat} {h h0 : J_H} (K : KN h [(20, .inl (3, [.ref 21, .ref 22, .ref 23, .ref 24, .ref 25, .ref 26, .ref 27, .ref 28, .int pevs, .int 1])), (21, .inr (.inl (0, pmss))), (22, .inr (.inl (0, pmms))), (23, .inr (.inl (0, pmts))), (24, .inr (.inl (0, psts))), (25, .inr (.inl (0, pwas))), (26, .inr (.inl (0, prss))), (27, .inr (.inl (0, prrs))), (28, .inr (.inl (0, pfas))), (298, .inl (3, [.ref 299, .ref 300, .ref 301, .ref 302, .ref 303, .ref 304, .ref 305, .ref 306, .int pev, .int 0])), (299, .inr (.inl (0, pms))), (300, .inr (.inl (0, pmm))), (301, .inr (.inl (0, pmt))), (302, .inr (.inl (0, pst))), (303, .inr (.inl (0, pwa))), (304, .inr (.inl (0, prs))), (305, .inr (.inl (0, prr))), (306, .inr (.inl (0, pfa)))] h0) : j_V jP d 28 0 (lv_args 0 [.ref 298, .ref 20]) [] h (fun rv h' => rv = none ∧ KN h' [(20, .inl (3, [.ref 21, .ref 22, .ref 23, .ref 24, .ref 25, .ref 26, .ref 27, .ref 28, .int pevs, .int 1])), (21, .inr (.inl (0, pmss))), (22, .inr (.inl (0, pmms))), (23, .inr (.inl (0, pmts))), (24, .inr (.inl (0, psts))), (25, .inr (.inl (0, pwas))), (26, .inr (.inl (0, prss))), (27, .inr (.inl (0, prrs))), (28, .inr (.inl (0, pfas))), (298, .inl (3, [.ref 299, .ref 300, .ref 301, .ref 302, .ref 303, .ref 304, .ref 305, .ref 306, .int pev, .int 0])), (299, .inr (.inl (0, pms))), (300, .inr (.inl (0, pmm))), (301, .inr (.inl (0, pmt))), (302, .inr (.inl (0, pst))), (303, .inr (.inl (0, pwa))), (304, .inr (.inl (0, prs))), (305, .inr (.inl (0, prr))), (306, .inr (.inl (0, pfa)))] h0) := by
  show j_V jP d 28 0 [(0, .ref 298), (1, .ref 20)] [] h _
  obtain ⟨lv, elv, L⟩ : ∃ lv, lv = [(0, .ref 298), (1, .ref 20)] ∧ LK lv [(0, .ref 298), (1, .ref 20)] := ⟨_, rfl, LK.rf⟩
  rw [← elv]
  clear elv
  refine j_V.ldL ytp_M ytp_0 rfl (i := 0) (kd := 2) (v := .ref 298) (pcJ := 1) rfl L rfl rfl rfl ?_
  refine j_V.getK ytp_M ytp_1 (ci := 3) (j := 9) rfl K rfl rfl ?_
  refine j_V.ifc ytp_M ytp_4 (t := 8) rfl (fun c4_0 => ?_) (fun c4_0 => ?_)
  · replace c4_0 : ¬ ((0 : Int32) = 0) := jd_ne c4_0
    exact absurd (by decide) c4_0
  · replace c4_0 : (0 : Int32) = 0 := jd_nen c4_0
    exact j_V.ret ytp_M ytp_7 rfl rfl ⟨rfl, K⟩
set_option maxRecDepth 100000 in
theorem yts_M : j_meth jP 61 = some (yX7_copyFrom, cX7_copyFrom, 2, none, 1, false, 7) := rfl
set_option maxRecDepth 100000 in
theorem yts_0 : j_code jP 61 0 = some (.aload_n 0) := rfl
set_option maxRecDepth 100000 in
theorem yts_1 : j_code jP 61 1 = some (.aload_n 1) := rfl
set_option maxRecDepth 100000 in
theorem yts_2 : j_code jP 61 2 = some (.getfield 64) := rfl
set_option maxRecDepth 100000 in
theorem yts_5 : j_code jP 61 5 = some (.putfield 64) := rfl
set_option maxRecDepth 100000 in
theorem yts_8 : j_code jP 61 8 = some (.aload_n 0) := rfl
set_option maxRecDepth 100000 in
theorem yts_9 : j_code jP 61 9 = some (.aload_n 1) := rfl
set_option maxRecDepth 100000 in
theorem yts_10 : j_code jP 61 10 = some (.getfield 68) := rfl
set_option maxRecDepth 100000 in
theorem yts_13 : j_code jP 61 13 = some (.putfield 68) := rfl
set_option maxRecDepth 100000 in
theorem yts_16 : j_code jP 61 16 = some (.aload_n 0) := rfl
set_option maxRecDepth 100000 in
theorem yts_17 : j_code jP 61 17 = some (.aload_n 1) := rfl
set_option maxRecDepth 100000 in
theorem yts_18 : j_code jP 61 18 = some (.getfield 72) := rfl
set_option maxRecDepth 100000 in
theorem yts_21 : j_code jP 61 21 = some (.putfield 72) := rfl
set_option maxRecDepth 100000 in
theorem yts_24 : j_code jP 61 24 = some (.aload_n 0) := rfl
set_option maxRecDepth 100000 in
theorem yts_25 : j_code jP 61 25 = some (.aload_n 1) := rfl
set_option maxRecDepth 100000 in
theorem yts_26 : j_code jP 61 26 = some (.getfield 75) := rfl
set_option maxRecDepth 100000 in
theorem yts_29 : j_code jP 61 29 = some (.putfield 75) := rfl
set_option maxRecDepth 100000 in
theorem yts_32 : j_code jP 61 32 = some (.aload_n 0) := rfl
set_option maxRecDepth 100000 in
theorem yts_33 : j_code jP 61 33 = some (.aload_n 1) := rfl
set_option maxRecDepth 100000 in
theorem yts_34 : j_code jP 61 34 = some (.getfield 78) := rfl
set_option maxRecDepth 100000 in
theorem yts_37 : j_code jP 61 37 = some (.putfield 78) := rfl
set_option maxRecDepth 100000 in
theorem yts_40 : j_code jP 61 40 = some (.aload_n 1) := rfl
set_option maxRecDepth 100000 in
theorem yts_41 : j_code jP 61 41 = some (.getfield 9) := rfl
set_option maxRecDepth 100000 in
theorem yts_44 : j_code jP 61 44 = some (.iconst 0) := rfl
set_option maxRecDepth 100000 in
theorem yts_45 : j_code jP 61 45 = some (.aload_n 0) := rfl
set_option maxRecDepth 100000 in
theorem yts_46 : j_code jP 61 46 = some (.getfield 9) := rfl
set_option maxRecDepth 100000 in
theorem yts_49 : j_code jP 61 49 = some (.iconst 0) := rfl
set_option maxRecDepth 100000 in
theorem yts_50 : j_code jP 61 50 = some (.iconst 5) := rfl
set_option maxRecDepth 100000 in
theorem yts_51 : j_code jP 61 51 = some (.invokestatic 84) := rfl
set_option maxRecDepth 100000 in
theorem yts_54 : j_code jP 61 54 = some (.aload_n 1) := rfl
set_option maxRecDepth 100000 in
theorem yts_55 : j_code jP 61 55 = some (.getfield 15) := rfl
set_option maxRecDepth 100000 in
theorem yts_58 : j_code jP 61 58 = some (.iconst 0) := rfl
set_option maxRecDepth 100000 in
theorem yts_59 : j_code jP 61 59 = some (.aload_n 0) := rfl
set_option maxRecDepth 100000 in
theorem yts_60 : j_code jP 61 60 = some (.getfield 15) := rfl
set_option maxRecDepth 100000 in
theorem yts_63 : j_code jP 61 63 = some (.iconst 0) := rfl
set_option maxRecDepth 100000 in
theorem yts_64 : j_code jP 61 64 = some (.iconst 5) := rfl
set_option maxRecDepth 100000 in
theorem yts_65 : j_code jP 61 65 = some (.invokestatic 84) := rfl
set_option maxRecDepth 100000 in
theorem yts_68 : j_code jP 61 68 = some (.aload_n 1) := rfl
set_option maxRecDepth 100000 in
theorem yts_69 : j_code jP 61 69 = some (.getfield 18) := rfl
set_option maxRecDepth 100000 in
theorem yts_72 : j_code jP 61 72 = some (.iconst 0) := rfl
set_option maxRecDepth 100000 in
theorem yts_73 : j_code jP 61 73 = some (.aload_n 0) := rfl
set_option maxRecDepth 100000 in
theorem yts_74 : j_code jP 61 74 = some (.getfield 18) := rfl
set_option maxRecDepth 100000 in
theorem yts_77 : j_code jP 61 77 = some (.iconst 0) := rfl
set_option maxRecDepth 100000 in
theorem yts_78 : j_code jP 61 78 = some (.iconst 5) := rfl
set_option maxRecDepth 100000 in
theorem yts_79 : j_code jP 61 79 = some (.invokestatic 84) := rfl
set_option maxRecDepth 100000 in
theorem yts_82 : j_code jP 61 82 = some (.aload_n 1) := rfl
set_option maxRecDepth 100000 in
theorem yts_83 : j_code jP 61 83 = some (.getfield 21) := rfl
set_option maxRecDepth 100000 in
theorem yts_86 : j_code jP 61 86 = some (.iconst 0) := rfl
set_option maxRecDepth 100000 in
theorem yts_87 : j_code jP 61 87 = some (.aload_n 0) := rfl
set_option maxRecDepth 100000 in
theorem yts_88 : j_code jP 61 88 = some (.getfield 21) := rfl
set_option maxRecDepth 100000 in
theorem yts_91 : j_code jP 61 91 = some (.iconst 0) := rfl
set_option maxRecDepth 100000 in
theorem yts_92 : j_code jP 61 92 = some (.iconst 5) := rfl
set_option maxRecDepth 100000 in
theorem yts_93 : j_code jP 61 93 = some (.invokestatic 84) := rfl
set_option maxRecDepth 100000 in
theorem yts_96 : j_code jP 61 96 = some (.aload_n 1) := rfl
set_option maxRecDepth 100000 in
theorem yts_97 : j_code jP 61 97 = some (.getfield 24) := rfl
set_option maxRecDepth 100000 in
theorem yts_100 : j_code jP 61 100 = some (.iconst 0) := rfl
set_option maxRecDepth 100000 in
theorem yts_101 : j_code jP 61 101 = some (.aload_n 0) := rfl
set_option maxRecDepth 100000 in
theorem yts_102 : j_code jP 61 102 = some (.getfield 24) := rfl
set_option maxRecDepth 100000 in
theorem yts_105 : j_code jP 61 105 = some (.iconst 0) := rfl
set_option maxRecDepth 100000 in
theorem yts_106 : j_code jP 61 106 = some (.iconst 5) := rfl
set_option maxRecDepth 100000 in
theorem yts_107 : j_code jP 61 107 = some (.invokestatic 84) := rfl
set_option maxRecDepth 100000 in
theorem yts_110 : j_code jP 61 110 = some (.aload_n 1) := rfl
set_option maxRecDepth 100000 in
theorem yts_111 : j_code jP 61 111 = some (.getfield 27) := rfl
set_option maxRecDepth 100000 in
theorem yts_114 : j_code jP 61 114 = some (.iconst 0) := rfl
set_option maxRecDepth 100000 in
theorem yts_115 : j_code jP 61 115 = some (.aload_n 0) := rfl
set_option maxRecDepth 100000 in
theorem yts_116 : j_code jP 61 116 = some (.getfield 27) := rfl
set_option maxRecDepth 100000 in
theorem yts_119 : j_code jP 61 119 = some (.iconst 0) := rfl
set_option maxRecDepth 100000 in
theorem yts_120 : j_code jP 61 120 = some (.iconst 5) := rfl
set_option maxRecDepth 100000 in
theorem yts_121 : j_code jP 61 121 = some (.invokestatic 84) := rfl
set_option maxRecDepth 100000 in
theorem yts_124 : j_code jP 61 124 = some (.aload_n 1) := rfl
set_option maxRecDepth 100000 in
theorem yts_125 : j_code jP 61 125 = some (.getfield 30) := rfl
set_option maxRecDepth 100000 in
theorem yts_128 : j_code jP 61 128 = some (.iconst 0) := rfl
set_option maxRecDepth 100000 in
theorem yts_129 : j_code jP 61 129 = some (.aload_n 0) := rfl
set_option maxRecDepth 100000 in
theorem yts_130 : j_code jP 61 130 = some (.getfield 30) := rfl
set_option maxRecDepth 100000 in
theorem yts_133 : j_code jP 61 133 = some (.iconst 0) := rfl
set_option maxRecDepth 100000 in
theorem yts_134 : j_code jP 61 134 = some (.iconst 5) := rfl
set_option maxRecDepth 100000 in
theorem yts_135 : j_code jP 61 135 = some (.invokestatic 84) := rfl
set_option maxRecDepth 100000 in
theorem yts_138 : j_code jP 61 138 = some (.aload_n 1) := rfl
set_option maxRecDepth 100000 in
theorem yts_139 : j_code jP 61 139 = some (.getfield 33) := rfl
set_option maxRecDepth 100000 in
theorem yts_142 : j_code jP 61 142 = some (.iconst 0) := rfl
set_option maxRecDepth 100000 in
theorem yts_143 : j_code jP 61 143 = some (.aload_n 0) := rfl
set_option maxRecDepth 100000 in
theorem yts_144 : j_code jP 61 144 = some (.getfield 33) := rfl
set_option maxRecDepth 100000 in
theorem yts_147 : j_code jP 61 147 = some (.iconst 0) := rfl
set_option maxRecDepth 100000 in
theorem yts_148 : j_code jP 61 148 = some (.bipush 6) := rfl
set_option maxRecDepth 100000 in
theorem yts_150 : j_code jP 61 150 = some (.invokestatic 84) := rfl
set_option maxRecDepth 100000 in
theorem yts_153 : j_code jP 61 153 = some (.aload_n 1) := rfl
set_option maxRecDepth 100000 in
theorem yts_154 : j_code jP 61 154 = some (.getfield 36) := rfl
set_option maxRecDepth 100000 in
theorem yts_157 : j_code jP 61 157 = some (.iconst 0) := rfl
set_option maxRecDepth 100000 in
theorem yts_158 : j_code jP 61 158 = some (.aload_n 0) := rfl
set_option maxRecDepth 100000 in
theorem yts_159 : j_code jP 61 159 = some (.getfield 36) := rfl
set_option maxRecDepth 100000 in
theorem yts_162 : j_code jP 61 162 = some (.iconst 0) := rfl
set_option maxRecDepth 100000 in
theorem yts_163 : j_code jP 61 163 = some (.bipush 6) := rfl
set_option maxRecDepth 100000 in
theorem yts_165 : j_code jP 61 165 = some (.invokestatic 84) := rfl
set_option maxRecDepth 100000 in
theorem yts_168 : j_code jP 61 168 = some (.aload_n 1) := rfl
set_option maxRecDepth 100000 in
theorem yts_169 : j_code jP 61 169 = some (.getfield 39) := rfl
set_option maxRecDepth 100000 in
theorem yts_172 : j_code jP 61 172 = some (.iconst 0) := rfl
set_option maxRecDepth 100000 in
theorem yts_173 : j_code jP 61 173 = some (.aload_n 0) := rfl
set_option maxRecDepth 100000 in
theorem yts_174 : j_code jP 61 174 = some (.getfield 39) := rfl
set_option maxRecDepth 100000 in
theorem yts_177 : j_code jP 61 177 = some (.iconst 0) := rfl
set_option maxRecDepth 100000 in
theorem yts_178 : j_code jP 61 178 = some (.aload_n 0) := rfl
set_option maxRecDepth 100000 in
theorem yts_179 : j_code jP 61 179 = some (.getfield 39) := rfl
set_option maxRecDepth 100000 in
theorem yts_182 : j_code jP 61 182 = some (.arraylength) := rfl
set_option maxRecDepth 100000 in
theorem yts_183 : j_code jP 61 183 = some (.invokestatic 84) := rfl
set_option maxRecDepth 100000 in
theorem yts_186 : j_code jP 61 186 = some (.aload_n 1) := rfl
set_option maxRecDepth 100000 in
theorem yts_187 : j_code jP 61 187 = some (.getfield 42) := rfl
set_option maxRecDepth 100000 in
theorem yts_190 : j_code jP 61 190 = some (.iconst 0) := rfl
set_option maxRecDepth 100000 in
theorem yts_191 : j_code jP 61 191 = some (.aload_n 0) := rfl
set_option maxRecDepth 100000 in
theorem yts_192 : j_code jP 61 192 = some (.getfield 42) := rfl
set_option maxRecDepth 100000 in
theorem yts_195 : j_code jP 61 195 = some (.iconst 0) := rfl
set_option maxRecDepth 100000 in
theorem yts_196 : j_code jP 61 196 = some (.aload_n 0) := rfl
set_option maxRecDepth 100000 in
theorem yts_197 : j_code jP 61 197 = some (.getfield 42) := rfl
set_option maxRecDepth 100000 in
theorem yts_200 : j_code jP 61 200 = some (.arraylength) := rfl
set_option maxRecDepth 100000 in
theorem yts_201 : j_code jP 61 201 = some (.invokestatic 84) := rfl
set_option maxRecDepth 100000 in
theorem yts_204 : j_code jP 61 204 = some (.aload_n 1) := rfl
set_option maxRecDepth 100000 in
theorem yts_205 : j_code jP 61 205 = some (.getfield 45) := rfl
set_option maxRecDepth 100000 in
theorem yts_208 : j_code jP 61 208 = some (.iconst 0) := rfl
set_option maxRecDepth 100000 in
theorem yts_209 : j_code jP 61 209 = some (.aload_n 0) := rfl
set_option maxRecDepth 100000 in
theorem yts_210 : j_code jP 61 210 = some (.getfield 45) := rfl
set_option maxRecDepth 100000 in
theorem yts_213 : j_code jP 61 213 = some (.iconst 0) := rfl
set_option maxRecDepth 100000 in
theorem yts_214 : j_code jP 61 214 = some (.aload_n 0) := rfl
set_option maxRecDepth 100000 in
theorem yts_215 : j_code jP 61 215 = some (.getfield 45) := rfl
set_option maxRecDepth 100000 in
theorem yts_218 : j_code jP 61 218 = some (.arraylength) := rfl
set_option maxRecDepth 100000 in
theorem yts_219 : j_code jP 61 219 = some (.invokestatic 84) := rfl
set_option maxRecDepth 100000 in
theorem yts_222 : j_code jP 61 222 = some (.aload_n 0) := rfl
set_option maxRecDepth 100000 in
theorem yts_223 : j_code jP 61 223 = some (.getfield 60) := rfl
set_option maxRecDepth 100000 in
theorem yts_226 : j_code jP 61 226 = some (.aload_n 1) := rfl
set_option maxRecDepth 100000 in
theorem yts_227 : j_code jP 61 227 = some (.getfield 60) := rfl
set_option maxRecDepth 100000 in
theorem yts_230 : j_code jP 61 230 = some (.invokevirtual 108) := rfl
set_option maxRecDepth 100000 in
theorem yts_233 : j_code jP 61 233 = some (.return_) := rfl
set_option maxRecDepth 1000000 in
theorem yts_k0 {ly : Value} {mi : Int32} {shu : Int32} {bus : Int32} {lks : Int32} {lys : Nat} {mis : Int32} {shus : Int32} {buss : Int32} {lkss : Int32} {d : Nat} {lv : J_L} {h h0 : J_H} {Q : Option Value → J_H → Prop} (L : LK lv [(0, .ref 282), (1, .ref 4)]) (K : KN h [(4, .inl (7, [.ref lys, .int mis, .int shus, .int buss, .ref 5, .ref 6, .ref 7, .ref 8, .ref 9, .ref 10, .ref 11, .ref 12, .ref 13, .ref 14, .ref 15, .int lkss, .ref 16, .ref 17, .ref 20])), (282, .inl (7, [ly, .int mi, .int shu, .int bus, .ref 283, .ref 284, .ref 285, .ref 286, .ref 287, .ref 288, .ref 289, .ref 290, .ref 291, .ref 292, .ref 293, .int lks, .ref 294, .ref 295, .ref 298]))] h0) (kk : ∀ lv h, LK lv [(0, .ref 282), (1, .ref 4)] → KN h [(4, .inl (7, [.ref lys, .int mis, .int shus, .int buss, .ref 5, .ref 6, .ref 7, .ref 8, .ref 9, .ref 10, .ref 11, .ref 12, .ref 13, .ref 14, .ref 15, .int lkss, .ref 16, .ref 17, .ref 20])), (282, .inl (7, [.ref lys, .int mis, .int shus, .int buss, .ref 283, .ref 284, .ref 285, .ref 286, .ref 287, .ref 288, .ref 289, .ref 290, .ref 291, .ref 292, .ref 293, .int lkss, .ref 294, .ref 295, .ref 298]))] h0 → j_V jP d 61 40 lv [] h Q) : j_V jP d 61 0 lv [] h Q := by
  refine j_V.ldL yts_M yts_0 rfl (i := 0) (kd := 2) (v := .ref 282) (pcJ := 1) rfl L rfl rfl rfl ?_
  refine j_V.ldL yts_M yts_1 rfl (i := 1) (kd := 2) (v := .ref 4) (pcJ := 2) rfl L rfl rfl rfl ?_
  refine j_V.getK yts_M yts_2 (ci := 7) (j := 0) rfl K rfl rfl ?_
  refine j_V.putK yts_M yts_5 (ci := 7) (j := 0) (k' := [(4, .inl (7, [.ref lys, .int mis, .int shus, .int buss, .ref 5, .ref 6, .ref 7, .ref 8, .ref 9, .ref 10, .ref 11, .ref 12, .ref 13, .ref 14, .ref 15, .int lkss, .ref 16, .ref 17, .ref 20])), (282, .inl (7, [.ref lys, .int mi, .int shu, .int bus, .ref 283, .ref 284, .ref 285, .ref 286, .ref 287, .ref 288, .ref 289, .ref 290, .ref 291, .ref 292, .ref 293, .int lks, .ref 294, .ref 295, .ref 298]))]) rfl K rfl (Nat.le_of_ble_eq_true rfl) rfl (Or.inl rfl) rfl rfl (fun h K => ?_)
  refine j_V.ldL yts_M yts_8 rfl (i := 0) (kd := 2) (v := .ref 282) (pcJ := 9) rfl L rfl rfl rfl ?_
  refine j_V.ldL yts_M yts_9 rfl (i := 1) (kd := 2) (v := .ref 4) (pcJ := 10) rfl L rfl rfl rfl ?_
  refine j_V.getK yts_M yts_10 (ci := 7) (j := 1) rfl K rfl rfl ?_
  refine j_V.putK yts_M yts_13 (ci := 7) (j := 1) (k' := [(4, .inl (7, [.ref lys, .int mis, .int shus, .int buss, .ref 5, .ref 6, .ref 7, .ref 8, .ref 9, .ref 10, .ref 11, .ref 12, .ref 13, .ref 14, .ref 15, .int lkss, .ref 16, .ref 17, .ref 20])), (282, .inl (7, [.ref lys, .int mis, .int shu, .int bus, .ref 283, .ref 284, .ref 285, .ref 286, .ref 287, .ref 288, .ref 289, .ref 290, .ref 291, .ref 292, .ref 293, .int lks, .ref 294, .ref 295, .ref 298]))]) rfl K rfl (Nat.le_of_ble_eq_true rfl) rfl (Or.inl rfl) rfl rfl (fun h K => ?_)
  refine j_V.ldL yts_M yts_16 rfl (i := 0) (kd := 2) (v := .ref 282) (pcJ := 17) rfl L rfl rfl rfl ?_
  refine j_V.ldL yts_M yts_17 rfl (i := 1) (kd := 2) (v := .ref 4) (pcJ := 18) rfl L rfl rfl rfl ?_
  refine j_V.getK yts_M yts_18 (ci := 7) (j := 2) rfl K rfl rfl ?_
  refine j_V.putK yts_M yts_21 (ci := 7) (j := 2) (k' := [(4, .inl (7, [.ref lys, .int mis, .int shus, .int buss, .ref 5, .ref 6, .ref 7, .ref 8, .ref 9, .ref 10, .ref 11, .ref 12, .ref 13, .ref 14, .ref 15, .int lkss, .ref 16, .ref 17, .ref 20])), (282, .inl (7, [.ref lys, .int mis, .int shus, .int bus, .ref 283, .ref 284, .ref 285, .ref 286, .ref 287, .ref 288, .ref 289, .ref 290, .ref 291, .ref 292, .ref 293, .int lks, .ref 294, .ref 295, .ref 298]))]) rfl K rfl (Nat.le_of_ble_eq_true rfl) rfl (Or.inl rfl) rfl rfl (fun h K => ?_)
  refine j_V.ldL yts_M yts_24 rfl (i := 0) (kd := 2) (v := .ref 282) (pcJ := 25) rfl L rfl rfl rfl ?_
  refine j_V.ldL yts_M yts_25 rfl (i := 1) (kd := 2) (v := .ref 4) (pcJ := 26) rfl L rfl rfl rfl ?_
  refine j_V.getK yts_M yts_26 (ci := 7) (j := 3) rfl K rfl rfl ?_
  refine j_V.putK yts_M yts_29 (ci := 7) (j := 3) (k' := [(4, .inl (7, [.ref lys, .int mis, .int shus, .int buss, .ref 5, .ref 6, .ref 7, .ref 8, .ref 9, .ref 10, .ref 11, .ref 12, .ref 13, .ref 14, .ref 15, .int lkss, .ref 16, .ref 17, .ref 20])), (282, .inl (7, [.ref lys, .int mis, .int shus, .int buss, .ref 283, .ref 284, .ref 285, .ref 286, .ref 287, .ref 288, .ref 289, .ref 290, .ref 291, .ref 292, .ref 293, .int lks, .ref 294, .ref 295, .ref 298]))]) rfl K rfl (Nat.le_of_ble_eq_true rfl) rfl (Or.inl rfl) rfl rfl (fun h K => ?_)
  refine j_V.ldL yts_M yts_32 rfl (i := 0) (kd := 2) (v := .ref 282) (pcJ := 33) rfl L rfl rfl rfl ?_
  refine j_V.ldL yts_M yts_33 rfl (i := 1) (kd := 2) (v := .ref 4) (pcJ := 34) rfl L rfl rfl rfl ?_
  refine j_V.getK yts_M yts_34 (ci := 7) (j := 15) rfl K rfl rfl ?_
  refine j_V.putK yts_M yts_37 (ci := 7) (j := 15) (k' := [(4, .inl (7, [.ref lys, .int mis, .int shus, .int buss, .ref 5, .ref 6, .ref 7, .ref 8, .ref 9, .ref 10, .ref 11, .ref 12, .ref 13, .ref 14, .ref 15, .int lkss, .ref 16, .ref 17, .ref 20])), (282, .inl (7, [.ref lys, .int mis, .int shus, .int buss, .ref 283, .ref 284, .ref 285, .ref 286, .ref 287, .ref 288, .ref 289, .ref 290, .ref 291, .ref 292, .ref 293, .int lkss, .ref 294, .ref 295, .ref 298]))]) rfl K rfl (Nat.le_of_ble_eq_true rfl) rfl (Or.inl rfl) rfl rfl (fun h K => ?_)
  exact kk _ _ L K
set_option maxRecDepth 1000000 in
theorem yts_k40 {rk : List Int32} {sta : List Int32} {ph : List Int32} {lys : Nat} {mis : Int32} {shus : Int32} {buss : Int32} {lkss : Int32} {rks : List Int32} {stas : List Int32} {phs : List Int32} {d : Nat} {lv : J_L} {h h0 : J_H} {Q : Option Value → J_H → Prop} (L : LK lv [(0, .ref 282), (1, .ref 4)]) (K : KN h [(4, .inl (7, [.ref lys, .int mis, .int shus, .int buss, .ref 5, .ref 6, .ref 7, .ref 8, .ref 9, .ref 10, .ref 11, .ref 12, .ref 13, .ref 14, .ref 15, .int lkss, .ref 16, .ref 17, .ref 20])), (5, .inr (.inl (0, rks))), (6, .inr (.inl (0, stas))), (7, .inr (.inl (0, phs))), (282, .inl (7, [.ref lys, .int mis, .int shus, .int buss, .ref 283, .ref 284, .ref 285, .ref 286, .ref 287, .ref 288, .ref 289, .ref 290, .ref 291, .ref 292, .ref 293, .int lkss, .ref 294, .ref 295, .ref 298])), (283, .inr (.inl (0, rk))), (284, .inr (.inl (0, sta))), (285, .inr (.inl (0, ph)))] h0) (kk : ∀ lv h, LK lv [(0, .ref 282), (1, .ref 4)] → KN h [(4, .inl (7, [.ref lys, .int mis, .int shus, .int buss, .ref 5, .ref 6, .ref 7, .ref 8, .ref 9, .ref 10, .ref 11, .ref 12, .ref 13, .ref 14, .ref 15, .int lkss, .ref 16, .ref 17, .ref 20])), (5, .inr (.inl (0, rks))), (6, .inr (.inl (0, stas))), (7, .inr (.inl (0, phs))), (282, .inl (7, [.ref lys, .int mis, .int shus, .int buss, .ref 283, .ref 284, .ref 285, .ref 286, .ref 287, .ref 288, .ref 289, .ref 290, .ref 291, .ref 292, .ref 293, .int lkss, .ref 294, .ref 295, .ref 298])), (283, .inr (.inl (0, (aC 5 rks rk)))), (284, .inr (.inl (0, (aC 5 stas sta)))), (285, .inr (.inl (0, (aC 5 phs ph))))] h0 → j_V jP d 61 82 lv [] h Q) : j_V jP d 61 40 lv [] h Q := by
  refine j_V.ldL yts_M yts_40 rfl (i := 1) (kd := 2) (v := .ref 4) (pcJ := 41) rfl L rfl rfl rfl ?_
  refine j_V.getK yts_M yts_41 (ci := 7) (j := 4) rfl K rfl rfl ?_
  refine j_V.one yts_M yts_44 (by decide) (pcJ := 45) (stJ := [.int 0, .ref 5]) rfl ?_
  refine j_V.ldL yts_M yts_45 rfl (i := 0) (kd := 2) (v := .ref 282) (pcJ := 46) rfl L rfl rfl rfl ?_
  refine j_V.getK yts_M yts_46 (ci := 7) (j := 4) rfl K rfl rfl ?_
  refine j_V.one yts_M yts_49 (by decide) (pcJ := 50) (stJ := [.int 0, .ref 283, .int 0, .ref 5]) rfl ?_
  refine j_V.one yts_M yts_50 (by decide) (pcJ := 51) (stJ := [.int 5, .int 0, .ref 283, .int 0, .ref 5]) rfl ?_
  refine j_V.acp yts_M yts_51 rfl rfl K rfl rfl rfl (fun h K => ?_)
  refine j_V.ldL yts_M yts_54 rfl (i := 1) (kd := 2) (v := .ref 4) (pcJ := 55) rfl L rfl rfl rfl ?_
  refine j_V.getK yts_M yts_55 (ci := 7) (j := 5) rfl K rfl rfl ?_
  refine j_V.one yts_M yts_58 (by decide) (pcJ := 59) (stJ := [.int 0, .ref 6]) rfl ?_
  refine j_V.ldL yts_M yts_59 rfl (i := 0) (kd := 2) (v := .ref 282) (pcJ := 60) rfl L rfl rfl rfl ?_
  refine j_V.getK yts_M yts_60 (ci := 7) (j := 5) rfl K rfl rfl ?_
  refine j_V.one yts_M yts_63 (by decide) (pcJ := 64) (stJ := [.int 0, .ref 284, .int 0, .ref 6]) rfl ?_
  refine j_V.one yts_M yts_64 (by decide) (pcJ := 65) (stJ := [.int 5, .int 0, .ref 284, .int 0, .ref 6]) rfl ?_
  refine j_V.acp yts_M yts_65 rfl rfl K rfl rfl rfl (fun h K => ?_)
  refine j_V.ldL yts_M yts_68 rfl (i := 1) (kd := 2) (v := .ref 4) (pcJ := 69) rfl L rfl rfl rfl ?_
  refine j_V.getK yts_M yts_69 (ci := 7) (j := 6) rfl K rfl rfl ?_
  refine j_V.one yts_M yts_72 (by decide) (pcJ := 73) (stJ := [.int 0, .ref 7]) rfl ?_
  refine j_V.ldL yts_M yts_73 rfl (i := 0) (kd := 2) (v := .ref 282) (pcJ := 74) rfl L rfl rfl rfl ?_
  refine j_V.getK yts_M yts_74 (ci := 7) (j := 6) rfl K rfl rfl ?_
  refine j_V.one yts_M yts_77 (by decide) (pcJ := 78) (stJ := [.int 0, .ref 285, .int 0, .ref 7]) rfl ?_
  refine j_V.one yts_M yts_78 (by decide) (pcJ := 79) (stJ := [.int 5, .int 0, .ref 285, .int 0, .ref 7]) rfl ?_
  refine j_V.acp yts_M yts_79 rfl rfl K rfl rfl rfl (fun h K => ?_)
  exact kk _ _ L K
set_option maxRecDepth 1000000 in
theorem yts_k82 {sp : List Int32} {ce : List Int32} {du : List Int32} {lys : Nat} {mis : Int32} {shus : Int32} {buss : Int32} {lkss : Int32} {sps : List Int32} {ces : List Int32} {dus : List Int32} {d : Nat} {lv : J_L} {h h0 : J_H} {Q : Option Value → J_H → Prop} (L : LK lv [(0, .ref 282), (1, .ref 4)]) (K : KN h [(4, .inl (7, [.ref lys, .int mis, .int shus, .int buss, .ref 5, .ref 6, .ref 7, .ref 8, .ref 9, .ref 10, .ref 11, .ref 12, .ref 13, .ref 14, .ref 15, .int lkss, .ref 16, .ref 17, .ref 20])), (8, .inr (.inl (0, sps))), (9, .inr (.inl (0, ces))), (10, .inr (.inl (0, dus))), (282, .inl (7, [.ref lys, .int mis, .int shus, .int buss, .ref 283, .ref 284, .ref 285, .ref 286, .ref 287, .ref 288, .ref 289, .ref 290, .ref 291, .ref 292, .ref 293, .int lkss, .ref 294, .ref 295, .ref 298])), (286, .inr (.inl (0, sp))), (287, .inr (.inl (0, ce))), (288, .inr (.inl (0, du)))] h0) (kk : ∀ lv h, LK lv [(0, .ref 282), (1, .ref 4)] → KN h [(4, .inl (7, [.ref lys, .int mis, .int shus, .int buss, .ref 5, .ref 6, .ref 7, .ref 8, .ref 9, .ref 10, .ref 11, .ref 12, .ref 13, .ref 14, .ref 15, .int lkss, .ref 16, .ref 17, .ref 20])), (8, .inr (.inl (0, sps))), (9, .inr (.inl (0, ces))), (10, .inr (.inl (0, dus))), (282, .inl (7, [.ref lys, .int mis, .int shus, .int buss, .ref 283, .ref 284, .ref 285, .ref 286, .ref 287, .ref 288, .ref 289, .ref 290, .ref 291, .ref 292, .ref 293, .int lkss, .ref 294, .ref 295, .ref 298])), (286, .inr (.inl (0, (aC 5 sps sp)))), (287, .inr (.inl (0, (aC 5 ces ce)))), (288, .inr (.inl (0, (aC 5 dus du))))] h0 → j_V jP d 61 124 lv [] h Q) : j_V jP d 61 82 lv [] h Q := by
  refine j_V.ldL yts_M yts_82 rfl (i := 1) (kd := 2) (v := .ref 4) (pcJ := 83) rfl L rfl rfl rfl ?_
  refine j_V.getK yts_M yts_83 (ci := 7) (j := 7) rfl K rfl rfl ?_
  refine j_V.one yts_M yts_86 (by decide) (pcJ := 87) (stJ := [.int 0, .ref 8]) rfl ?_
  refine j_V.ldL yts_M yts_87 rfl (i := 0) (kd := 2) (v := .ref 282) (pcJ := 88) rfl L rfl rfl rfl ?_
  refine j_V.getK yts_M yts_88 (ci := 7) (j := 7) rfl K rfl rfl ?_
  refine j_V.one yts_M yts_91 (by decide) (pcJ := 92) (stJ := [.int 0, .ref 286, .int 0, .ref 8]) rfl ?_
  refine j_V.one yts_M yts_92 (by decide) (pcJ := 93) (stJ := [.int 5, .int 0, .ref 286, .int 0, .ref 8]) rfl ?_
  refine j_V.acp yts_M yts_93 rfl rfl K rfl rfl rfl (fun h K => ?_)
  refine j_V.ldL yts_M yts_96 rfl (i := 1) (kd := 2) (v := .ref 4) (pcJ := 97) rfl L rfl rfl rfl ?_
  refine j_V.getK yts_M yts_97 (ci := 7) (j := 8) rfl K rfl rfl ?_
  refine j_V.one yts_M yts_100 (by decide) (pcJ := 101) (stJ := [.int 0, .ref 9]) rfl ?_
  refine j_V.ldL yts_M yts_101 rfl (i := 0) (kd := 2) (v := .ref 282) (pcJ := 102) rfl L rfl rfl rfl ?_
  refine j_V.getK yts_M yts_102 (ci := 7) (j := 8) rfl K rfl rfl ?_
  refine j_V.one yts_M yts_105 (by decide) (pcJ := 106) (stJ := [.int 0, .ref 287, .int 0, .ref 9]) rfl ?_
  refine j_V.one yts_M yts_106 (by decide) (pcJ := 107) (stJ := [.int 5, .int 0, .ref 287, .int 0, .ref 9]) rfl ?_
  refine j_V.acp yts_M yts_107 rfl rfl K rfl rfl rfl (fun h K => ?_)
  refine j_V.ldL yts_M yts_110 rfl (i := 1) (kd := 2) (v := .ref 4) (pcJ := 111) rfl L rfl rfl rfl ?_
  refine j_V.getK yts_M yts_111 (ci := 7) (j := 9) rfl K rfl rfl ?_
  refine j_V.one yts_M yts_114 (by decide) (pcJ := 115) (stJ := [.int 0, .ref 10]) rfl ?_
  refine j_V.ldL yts_M yts_115 rfl (i := 0) (kd := 2) (v := .ref 282) (pcJ := 116) rfl L rfl rfl rfl ?_
  refine j_V.getK yts_M yts_116 (ci := 7) (j := 9) rfl K rfl rfl ?_
  refine j_V.one yts_M yts_119 (by decide) (pcJ := 120) (stJ := [.int 0, .ref 288, .int 0, .ref 10]) rfl ?_
  refine j_V.one yts_M yts_120 (by decide) (pcJ := 121) (stJ := [.int 5, .int 0, .ref 288, .int 0, .ref 10]) rfl ?_
  refine j_V.acp yts_M yts_121 rfl rfl K rfl rfl rfl (fun h K => ?_)
  exact kk _ _ L K
set_option maxRecDepth 1000000 in
theorem yts_k124 {he : List Int32} {ri : List Int32} {us : List Int32} {lys : Nat} {mis : Int32} {shus : Int32} {buss : Int32} {lkss : Int32} {hes : List Int32} {ris : List Int32} {uss : List Int32} {d : Nat} {lv : J_L} {h h0 : J_H} {Q : Option Value → J_H → Prop} (L : LK lv [(0, .ref 282), (1, .ref 4)]) (K : KN h [(4, .inl (7, [.ref lys, .int mis, .int shus, .int buss, .ref 5, .ref 6, .ref 7, .ref 8, .ref 9, .ref 10, .ref 11, .ref 12, .ref 13, .ref 14, .ref 15, .int lkss, .ref 16, .ref 17, .ref 20])), (11, .inr (.inl (0, hes))), (12, .inr (.inl (0, ris))), (13, .inr (.inl (0, uss))), (282, .inl (7, [.ref lys, .int mis, .int shus, .int buss, .ref 283, .ref 284, .ref 285, .ref 286, .ref 287, .ref 288, .ref 289, .ref 290, .ref 291, .ref 292, .ref 293, .int lkss, .ref 294, .ref 295, .ref 298])), (289, .inr (.inl (0, he))), (290, .inr (.inl (0, ri))), (291, .inr (.inl (0, us)))] h0) (kk : ∀ lv h, LK lv [(0, .ref 282), (1, .ref 4)] → KN h [(4, .inl (7, [.ref lys, .int mis, .int shus, .int buss, .ref 5, .ref 6, .ref 7, .ref 8, .ref 9, .ref 10, .ref 11, .ref 12, .ref 13, .ref 14, .ref 15, .int lkss, .ref 16, .ref 17, .ref 20])), (11, .inr (.inl (0, hes))), (12, .inr (.inl (0, ris))), (13, .inr (.inl (0, uss))), (282, .inl (7, [.ref lys, .int mis, .int shus, .int buss, .ref 283, .ref 284, .ref 285, .ref 286, .ref 287, .ref 288, .ref 289, .ref 290, .ref 291, .ref 292, .ref 293, .int lkss, .ref 294, .ref 295, .ref 298])), (289, .inr (.inl (0, (aC 5 hes he)))), (290, .inr (.inl (0, (aC 6 ris ri)))), (291, .inr (.inl (0, (aC 6 uss us))))] h0 → j_V jP d 61 168 lv [] h Q) : j_V jP d 61 124 lv [] h Q := by
  refine j_V.ldL yts_M yts_124 rfl (i := 1) (kd := 2) (v := .ref 4) (pcJ := 125) rfl L rfl rfl rfl ?_
  refine j_V.getK yts_M yts_125 (ci := 7) (j := 10) rfl K rfl rfl ?_
  refine j_V.one yts_M yts_128 (by decide) (pcJ := 129) (stJ := [.int 0, .ref 11]) rfl ?_
  refine j_V.ldL yts_M yts_129 rfl (i := 0) (kd := 2) (v := .ref 282) (pcJ := 130) rfl L rfl rfl rfl ?_
  refine j_V.getK yts_M yts_130 (ci := 7) (j := 10) rfl K rfl rfl ?_
  refine j_V.one yts_M yts_133 (by decide) (pcJ := 134) (stJ := [.int 0, .ref 289, .int 0, .ref 11]) rfl ?_
  refine j_V.one yts_M yts_134 (by decide) (pcJ := 135) (stJ := [.int 5, .int 0, .ref 289, .int 0, .ref 11]) rfl ?_
  refine j_V.acp yts_M yts_135 rfl rfl K rfl rfl rfl (fun h K => ?_)
  refine j_V.ldL yts_M yts_138 rfl (i := 1) (kd := 2) (v := .ref 4) (pcJ := 139) rfl L rfl rfl rfl ?_
  refine j_V.getK yts_M yts_139 (ci := 7) (j := 11) rfl K rfl rfl ?_
  refine j_V.one yts_M yts_142 (by decide) (pcJ := 143) (stJ := [.int 0, .ref 12]) rfl ?_
  refine j_V.ldL yts_M yts_143 rfl (i := 0) (kd := 2) (v := .ref 282) (pcJ := 144) rfl L rfl rfl rfl ?_
  refine j_V.getK yts_M yts_144 (ci := 7) (j := 11) rfl K rfl rfl ?_
  refine j_V.one yts_M yts_147 (by decide) (pcJ := 148) (stJ := [.int 0, .ref 290, .int 0, .ref 12]) rfl ?_
  refine j_V.one yts_M yts_148 (by decide) (pcJ := 150) (stJ := [.int 6, .int 0, .ref 290, .int 0, .ref 12]) rfl ?_
  refine j_V.acp yts_M yts_150 rfl rfl K rfl rfl rfl (fun h K => ?_)
  refine j_V.ldL yts_M yts_153 rfl (i := 1) (kd := 2) (v := .ref 4) (pcJ := 154) rfl L rfl rfl rfl ?_
  refine j_V.getK yts_M yts_154 (ci := 7) (j := 12) rfl K rfl rfl ?_
  refine j_V.one yts_M yts_157 (by decide) (pcJ := 158) (stJ := [.int 0, .ref 13]) rfl ?_
  refine j_V.ldL yts_M yts_158 rfl (i := 0) (kd := 2) (v := .ref 282) (pcJ := 159) rfl L rfl rfl rfl ?_
  refine j_V.getK yts_M yts_159 (ci := 7) (j := 12) rfl K rfl rfl ?_
  refine j_V.one yts_M yts_162 (by decide) (pcJ := 163) (stJ := [.int 0, .ref 291, .int 0, .ref 13]) rfl ?_
  refine j_V.one yts_M yts_163 (by decide) (pcJ := 165) (stJ := [.int 6, .int 0, .ref 291, .int 0, .ref 13]) rfl ?_
  refine j_V.acp yts_M yts_165 rfl rfl K rfl rfl rfl (fun h K => ?_)
  exact kk _ _ L K
set_option maxRecDepth 1000000 in
theorem yts_k168 {cm : List Int32} {lf : List Int32} {lkd : List Int32} {lys : Nat} {mis : Int32} {shus : Int32} {buss : Int32} {lkss : Int32} {cms : List Int32} {lfs : List Int32} {lkds : List Int32} {d : Nat} {lv : J_L} {h h0 : J_H} {Q : Option Value → J_H → Prop} (L : LK lv [(0, .ref 282), (1, .ref 4)]) (K : KN h [(4, .inl (7, [.ref lys, .int mis, .int shus, .int buss, .ref 5, .ref 6, .ref 7, .ref 8, .ref 9, .ref 10, .ref 11, .ref 12, .ref 13, .ref 14, .ref 15, .int lkss, .ref 16, .ref 17, .ref 20])), (14, .inr (.inl (0, cms))), (15, .inr (.inl (0, lfs))), (16, .inr (.inl (0, lkds))), (282, .inl (7, [.ref lys, .int mis, .int shus, .int buss, .ref 283, .ref 284, .ref 285, .ref 286, .ref 287, .ref 288, .ref 289, .ref 290, .ref 291, .ref 292, .ref 293, .int lkss, .ref 294, .ref 295, .ref 298])), (292, .inr (.inl (0, cm))), (293, .inr (.inl (0, lf))), (294, .inr (.inl (0, lkd)))] h0) (kk : ∀ lv h, LK lv [(0, .ref 282), (1, .ref 4)] → KN h [(4, .inl (7, [.ref lys, .int mis, .int shus, .int buss, .ref 5, .ref 6, .ref 7, .ref 8, .ref 9, .ref 10, .ref 11, .ref 12, .ref 13, .ref 14, .ref 15, .int lkss, .ref 16, .ref 17, .ref 20])), (14, .inr (.inl (0, cms))), (15, .inr (.inl (0, lfs))), (16, .inr (.inl (0, lkds))), (282, .inl (7, [.ref lys, .int mis, .int shus, .int buss, .ref 283, .ref 284, .ref 285, .ref 286, .ref 287, .ref 288, .ref 289, .ref 290, .ref 291, .ref 292, .ref 293, .int lkss, .ref 294, .ref 295, .ref 298])), (292, .inr (.inl (0, (aC (nI cm.length) cms cm)))), (293, .inr (.inl (0, (aC (nI lf.length) lfs lf)))), (294, .inr (.inl (0, (aC (nI lkd.length) lkds lkd))))] h0 → j_V jP d 61 222 lv [] h Q) : j_V jP d 61 168 lv [] h Q := by
  refine j_V.ldL yts_M yts_168 rfl (i := 1) (kd := 2) (v := .ref 4) (pcJ := 169) rfl L rfl rfl rfl ?_
  refine j_V.getK yts_M yts_169 (ci := 7) (j := 13) rfl K rfl rfl ?_
  refine j_V.one yts_M yts_172 (by decide) (pcJ := 173) (stJ := [.int 0, .ref 14]) rfl ?_
  refine j_V.ldL yts_M yts_173 rfl (i := 0) (kd := 2) (v := .ref 282) (pcJ := 174) rfl L rfl rfl rfl ?_
  refine j_V.getK yts_M yts_174 (ci := 7) (j := 13) rfl K rfl rfl ?_
  refine j_V.one yts_M yts_177 (by decide) (pcJ := 178) (stJ := [.int 0, .ref 292, .int 0, .ref 14]) rfl ?_
  refine j_V.ldL yts_M yts_178 rfl (i := 0) (kd := 2) (v := .ref 282) (pcJ := 179) rfl L rfl rfl rfl ?_
  refine j_V.getK yts_M yts_179 (ci := 7) (j := 13) rfl K rfl rfl ?_
  refine j_V.alnA yts_M yts_182 K rfl ?_
  refine j_V.acp yts_M yts_183 rfl rfl K rfl rfl rfl (fun h K => ?_)
  refine j_V.ldL yts_M yts_186 rfl (i := 1) (kd := 2) (v := .ref 4) (pcJ := 187) rfl L rfl rfl rfl ?_
  refine j_V.getK yts_M yts_187 (ci := 7) (j := 14) rfl K rfl rfl ?_
  refine j_V.one yts_M yts_190 (by decide) (pcJ := 191) (stJ := [.int 0, .ref 15]) rfl ?_
  refine j_V.ldL yts_M yts_191 rfl (i := 0) (kd := 2) (v := .ref 282) (pcJ := 192) rfl L rfl rfl rfl ?_
  refine j_V.getK yts_M yts_192 (ci := 7) (j := 14) rfl K rfl rfl ?_
  refine j_V.one yts_M yts_195 (by decide) (pcJ := 196) (stJ := [.int 0, .ref 293, .int 0, .ref 15]) rfl ?_
  refine j_V.ldL yts_M yts_196 rfl (i := 0) (kd := 2) (v := .ref 282) (pcJ := 197) rfl L rfl rfl rfl ?_
  refine j_V.getK yts_M yts_197 (ci := 7) (j := 14) rfl K rfl rfl ?_
  refine j_V.alnA yts_M yts_200 K rfl ?_
  refine j_V.acp yts_M yts_201 rfl rfl K rfl rfl rfl (fun h K => ?_)
  refine j_V.ldL yts_M yts_204 rfl (i := 1) (kd := 2) (v := .ref 4) (pcJ := 205) rfl L rfl rfl rfl ?_
  refine j_V.getK yts_M yts_205 (ci := 7) (j := 16) rfl K rfl rfl ?_
  refine j_V.one yts_M yts_208 (by decide) (pcJ := 209) (stJ := [.int 0, .ref 16]) rfl ?_
  refine j_V.ldL yts_M yts_209 rfl (i := 0) (kd := 2) (v := .ref 282) (pcJ := 210) rfl L rfl rfl rfl ?_
  refine j_V.getK yts_M yts_210 (ci := 7) (j := 16) rfl K rfl rfl ?_
  refine j_V.one yts_M yts_213 (by decide) (pcJ := 214) (stJ := [.int 0, .ref 294, .int 0, .ref 16]) rfl ?_
  refine j_V.ldL yts_M yts_214 rfl (i := 0) (kd := 2) (v := .ref 282) (pcJ := 215) rfl L rfl rfl rfl ?_
  refine j_V.getK yts_M yts_215 (ci := 7) (j := 16) rfl K rfl rfl ?_
  refine j_V.alnA yts_M yts_218 K rfl ?_
  refine j_V.acp yts_M yts_219 rfl rfl K rfl rfl rfl (fun h K => ?_)
  exact kk _ _ L K
set_option maxRecDepth 1000000 in
theorem yts_ok {ly : Value} {mi : Int32} {shu : Int32} {bus : Int32} {lks : Int32} {rk : List Int32} {sta : List Int32} {ph : List Int32} {sp : List Int32} {ce : List Int32} {du : List Int32} {he : List Int32} {ri : List Int32} {us : List Int32} {cm : List Int32} {lf : List Int32} {lkd : List Int32} {pev : Int32} {pms : List Int32} {pmm : List Int32} {pmt : List Int32} {pst : List Int32} {pwa : List Int32} {prs : List Int32} {prr : List Int32} {pfa : List Int32} {lys : Nat} {mis : Int32} {shus : Int32} {buss : Int32} {lkss : Int32} {rks : List Int32} {stas : List Int32} {phs : List Int32} {sps : List Int32} {ces : List Int32} {dus : List Int32} {hes : List Int32} {ris : List Int32} {uss : List Int32} {cms : List Int32} {lfs : List Int32} {lkds : List Int32} {pevs : Int32} {pmss : List Int32} {pmms : List Int32} {pmts : List Int32} {psts : List Int32} {pwas : List Int32} {prss : List Int32} {prrs : List Int32} {pfas : List Int32} {d : Nat} {h h0 : J_H} (K : KN h [(4, .inl (7, [.ref lys, .int mis, .int shus, .int buss, .ref 5, .ref 6, .ref 7, .ref 8, .ref 9, .ref 10, .ref 11, .ref 12, .ref 13, .ref 14, .ref 15, .int lkss, .ref 16, .ref 17, .ref 20])), (5, .inr (.inl (0, rks))), (6, .inr (.inl (0, stas))), (7, .inr (.inl (0, phs))), (8, .inr (.inl (0, sps))), (9, .inr (.inl (0, ces))), (10, .inr (.inl (0, dus))), (11, .inr (.inl (0, hes))), (12, .inr (.inl (0, ris))), (13, .inr (.inl (0, uss))), (14, .inr (.inl (0, cms))), (15, .inr (.inl (0, lfs))), (16, .inr (.inl (0, lkds))), (20, .inl (3, [.ref 21, .ref 22, .ref 23, .ref 24, .ref 25, .ref 26, .ref 27, .ref 28, .int pevs, .int 1])), (21, .inr (.inl (0, pmss))), (22, .inr (.inl (0, pmms))), (23, .inr (.inl (0, pmts))), (24, .inr (.inl (0, psts))), (25, .inr (.inl (0, pwas))), (26, .inr (.inl (0, prss))), (27, .inr (.inl (0, prrs))), (28, .inr (.inl (0, pfas))), (282, .inl (7, [ly, .int mi, .int shu, .int bus, .ref 283, .ref 284, .ref 285, .ref 286, .ref 287, .ref 288, .ref 289, .ref 290, .ref 291, .ref 292, .ref 293, .int lks, .ref 294, .ref 295, .ref 298])), (283, .inr (.inl (0, rk))), (284, .inr (.inl (0, sta))), (285, .inr (.inl (0, ph))), (286, .inr (.inl (0, sp))), (287, .inr (.inl (0, ce))), (288, .inr (.inl (0, du))), (289, .inr (.inl (0, he))), (290, .inr (.inl (0, ri))), (291, .inr (.inl (0, us))), (292, .inr (.inl (0, cm))), (293, .inr (.inl (0, lf))), (294, .inr (.inl (0, lkd))), (298, .inl (3, [.ref 299, .ref 300, .ref 301, .ref 302, .ref 303, .ref 304, .ref 305, .ref 306, .int pev, .int 0])), (299, .inr (.inl (0, pms))), (300, .inr (.inl (0, pmm))), (301, .inr (.inl (0, pmt))), (302, .inr (.inl (0, pst))), (303, .inr (.inl (0, pwa))), (304, .inr (.inl (0, prs))), (305, .inr (.inl (0, prr))), (306, .inr (.inl (0, pfa)))] h0) : j_V jP d 61 0 (lv_args 0 [.ref 282, .ref 4]) [] h (fun rv h' => rv = none ∧ KN h' [(4, .inl (7, [.ref lys, .int mis, .int shus, .int buss, .ref 5, .ref 6, .ref 7, .ref 8, .ref 9, .ref 10, .ref 11, .ref 12, .ref 13, .ref 14, .ref 15, .int lkss, .ref 16, .ref 17, .ref 20])), (5, .inr (.inl (0, rks))), (6, .inr (.inl (0, stas))), (7, .inr (.inl (0, phs))), (8, .inr (.inl (0, sps))), (9, .inr (.inl (0, ces))), (10, .inr (.inl (0, dus))), (11, .inr (.inl (0, hes))), (12, .inr (.inl (0, ris))), (13, .inr (.inl (0, uss))), (14, .inr (.inl (0, cms))), (15, .inr (.inl (0, lfs))), (16, .inr (.inl (0, lkds))), (20, .inl (3, [.ref 21, .ref 22, .ref 23, .ref 24, .ref 25, .ref 26, .ref 27, .ref 28, .int pevs, .int 1])), (21, .inr (.inl (0, pmss))), (22, .inr (.inl (0, pmms))), (23, .inr (.inl (0, pmts))), (24, .inr (.inl (0, psts))), (25, .inr (.inl (0, pwas))), (26, .inr (.inl (0, prss))), (27, .inr (.inl (0, prrs))), (28, .inr (.inl (0, pfas))), (282, .inl (7, [.ref lys, .int mis, .int shus, .int buss, .ref 283, .ref 284, .ref 285, .ref 286, .ref 287, .ref 288, .ref 289, .ref 290, .ref 291, .ref 292, .ref 293, .int lkss, .ref 294, .ref 295, .ref 298])), (283, .inr (.inl (0, (aC 5 rks rk)))), (284, .inr (.inl (0, (aC 5 stas sta)))), (285, .inr (.inl (0, (aC 5 phs ph)))), (286, .inr (.inl (0, (aC 5 sps sp)))), (287, .inr (.inl (0, (aC 5 ces ce)))), (288, .inr (.inl (0, (aC 5 dus du)))), (289, .inr (.inl (0, (aC 5 hes he)))), (290, .inr (.inl (0, (aC 6 ris ri)))), (291, .inr (.inl (0, (aC 6 uss us)))), (292, .inr (.inl (0, (aC (nI cm.length) cms cm)))), (293, .inr (.inl (0, (aC (nI lf.length) lfs lf)))), (294, .inr (.inl (0, (aC (nI lkd.length) lkds lkd)))), (298, .inl (3, [.ref 299, .ref 300, .ref 301, .ref 302, .ref 303, .ref 304, .ref 305, .ref 306, .int pev, .int 0])), (299, .inr (.inl (0, pms))), (300, .inr (.inl (0, pmm))), (301, .inr (.inl (0, pmt))), (302, .inr (.inl (0, pst))), (303, .inr (.inl (0, pwa))), (304, .inr (.inl (0, prs))), (305, .inr (.inl (0, prr))), (306, .inr (.inl (0, pfa)))] h0) := by
  show j_V jP d 61 0 [(0, .ref 282), (1, .ref 4)] [] h _
  obtain ⟨lv, elv, L⟩ : ∃ lv, lv = [(0, .ref 282), (1, .ref 4)] ∧ LK lv [(0, .ref 282), (1, .ref 4)] := ⟨_, rfl, LK.rf⟩
  rw [← elv]
  clear elv
  refine yts_k0 L (K.fi [4, 282] rfl rfl) (fun lv h9 L K9 => ?_)
  have K : KN h9 [(4, .inl (7, [.ref lys, .int mis, .int shus, .int buss, .ref 5, .ref 6, .ref 7, .ref 8, .ref 9, .ref 10, .ref 11, .ref 12, .ref 13, .ref 14, .ref 15, .int lkss, .ref 16, .ref 17, .ref 20])), (5, .inr (.inl (0, rks))), (6, .inr (.inl (0, stas))), (7, .inr (.inl (0, phs))), (8, .inr (.inl (0, sps))), (9, .inr (.inl (0, ces))), (10, .inr (.inl (0, dus))), (11, .inr (.inl (0, hes))), (12, .inr (.inl (0, ris))), (13, .inr (.inl (0, uss))), (14, .inr (.inl (0, cms))), (15, .inr (.inl (0, lfs))), (16, .inr (.inl (0, lkds))), (20, .inl (3, [.ref 21, .ref 22, .ref 23, .ref 24, .ref 25, .ref 26, .ref 27, .ref 28, .int pevs, .int 1])), (21, .inr (.inl (0, pmss))), (22, .inr (.inl (0, pmms))), (23, .inr (.inl (0, pmts))), (24, .inr (.inl (0, psts))), (25, .inr (.inl (0, pwas))), (26, .inr (.inl (0, prss))), (27, .inr (.inl (0, prrs))), (28, .inr (.inl (0, pfas))), (282, .inl (7, [.ref lys, .int mis, .int shus, .int buss, .ref 283, .ref 284, .ref 285, .ref 286, .ref 287, .ref 288, .ref 289, .ref 290, .ref 291, .ref 292, .ref 293, .int lkss, .ref 294, .ref 295, .ref 298])), (283, .inr (.inl (0, rk))), (284, .inr (.inl (0, sta))), (285, .inr (.inl (0, ph))), (286, .inr (.inl (0, sp))), (287, .inr (.inl (0, ce))), (288, .inr (.inl (0, du))), (289, .inr (.inl (0, he))), (290, .inr (.inl (0, ri))), (291, .inr (.inl (0, us))), (292, .inr (.inl (0, cm))), (293, .inr (.inl (0, lf))), (294, .inr (.inl (0, lkd))), (298, .inl (3, [.ref 299, .ref 300, .ref 301, .ref 302, .ref 303, .ref 304, .ref 305, .ref 306, .int pev, .int 0])), (299, .inr (.inl (0, pms))), (300, .inr (.inl (0, pmm))), (301, .inr (.inl (0, pmt))), (302, .inr (.inl (0, pst))), (303, .inr (.inl (0, pwa))), (304, .inr (.inl (0, prs))), (305, .inr (.inl (0, prr))), (306, .inr (.inl (0, pfa)))] h0 := K.mg K9 rfl rfl
  clear K9
  refine yts_k40 L (K.fi [4, 5, 6, 7, 282, 283, 284, 285] rfl rfl) (fun lv h9 L K9 => ?_)
  have K : KN h9 [(4, .inl (7, [.ref lys, .int mis, .int shus, .int buss, .ref 5, .ref 6, .ref 7, .ref 8, .ref 9, .ref 10, .ref 11, .ref 12, .ref 13, .ref 14, .ref 15, .int lkss, .ref 16, .ref 17, .ref 20])), (5, .inr (.inl (0, rks))), (6, .inr (.inl (0, stas))), (7, .inr (.inl (0, phs))), (8, .inr (.inl (0, sps))), (9, .inr (.inl (0, ces))), (10, .inr (.inl (0, dus))), (11, .inr (.inl (0, hes))), (12, .inr (.inl (0, ris))), (13, .inr (.inl (0, uss))), (14, .inr (.inl (0, cms))), (15, .inr (.inl (0, lfs))), (16, .inr (.inl (0, lkds))), (20, .inl (3, [.ref 21, .ref 22, .ref 23, .ref 24, .ref 25, .ref 26, .ref 27, .ref 28, .int pevs, .int 1])), (21, .inr (.inl (0, pmss))), (22, .inr (.inl (0, pmms))), (23, .inr (.inl (0, pmts))), (24, .inr (.inl (0, psts))), (25, .inr (.inl (0, pwas))), (26, .inr (.inl (0, prss))), (27, .inr (.inl (0, prrs))), (28, .inr (.inl (0, pfas))), (282, .inl (7, [.ref lys, .int mis, .int shus, .int buss, .ref 283, .ref 284, .ref 285, .ref 286, .ref 287, .ref 288, .ref 289, .ref 290, .ref 291, .ref 292, .ref 293, .int lkss, .ref 294, .ref 295, .ref 298])), (283, .inr (.inl (0, (aC 5 rks rk)))), (284, .inr (.inl (0, (aC 5 stas sta)))), (285, .inr (.inl (0, (aC 5 phs ph)))), (286, .inr (.inl (0, sp))), (287, .inr (.inl (0, ce))), (288, .inr (.inl (0, du))), (289, .inr (.inl (0, he))), (290, .inr (.inl (0, ri))), (291, .inr (.inl (0, us))), (292, .inr (.inl (0, cm))), (293, .inr (.inl (0, lf))), (294, .inr (.inl (0, lkd))), (298, .inl (3, [.ref 299, .ref 300, .ref 301, .ref 302, .ref 303, .ref 304, .ref 305, .ref 306, .int pev, .int 0])), (299, .inr (.inl (0, pms))), (300, .inr (.inl (0, pmm))), (301, .inr (.inl (0, pmt))), (302, .inr (.inl (0, pst))), (303, .inr (.inl (0, pwa))), (304, .inr (.inl (0, prs))), (305, .inr (.inl (0, prr))), (306, .inr (.inl (0, pfa)))] h0 := K.mg K9 rfl rfl
  clear K9
  refine yts_k82 L (K.fi [4, 8, 9, 10, 282, 286, 287, 288] rfl rfl) (fun lv h9 L K9 => ?_)
  have K : KN h9 [(4, .inl (7, [.ref lys, .int mis, .int shus, .int buss, .ref 5, .ref 6, .ref 7, .ref 8, .ref 9, .ref 10, .ref 11, .ref 12, .ref 13, .ref 14, .ref 15, .int lkss, .ref 16, .ref 17, .ref 20])), (5, .inr (.inl (0, rks))), (6, .inr (.inl (0, stas))), (7, .inr (.inl (0, phs))), (8, .inr (.inl (0, sps))), (9, .inr (.inl (0, ces))), (10, .inr (.inl (0, dus))), (11, .inr (.inl (0, hes))), (12, .inr (.inl (0, ris))), (13, .inr (.inl (0, uss))), (14, .inr (.inl (0, cms))), (15, .inr (.inl (0, lfs))), (16, .inr (.inl (0, lkds))), (20, .inl (3, [.ref 21, .ref 22, .ref 23, .ref 24, .ref 25, .ref 26, .ref 27, .ref 28, .int pevs, .int 1])), (21, .inr (.inl (0, pmss))), (22, .inr (.inl (0, pmms))), (23, .inr (.inl (0, pmts))), (24, .inr (.inl (0, psts))), (25, .inr (.inl (0, pwas))), (26, .inr (.inl (0, prss))), (27, .inr (.inl (0, prrs))), (28, .inr (.inl (0, pfas))), (282, .inl (7, [.ref lys, .int mis, .int shus, .int buss, .ref 283, .ref 284, .ref 285, .ref 286, .ref 287, .ref 288, .ref 289, .ref 290, .ref 291, .ref 292, .ref 293, .int lkss, .ref 294, .ref 295, .ref 298])), (283, .inr (.inl (0, (aC 5 rks rk)))), (284, .inr (.inl (0, (aC 5 stas sta)))), (285, .inr (.inl (0, (aC 5 phs ph)))), (286, .inr (.inl (0, (aC 5 sps sp)))), (287, .inr (.inl (0, (aC 5 ces ce)))), (288, .inr (.inl (0, (aC 5 dus du)))), (289, .inr (.inl (0, he))), (290, .inr (.inl (0, ri))), (291, .inr (.inl (0, us))), (292, .inr (.inl (0, cm))), (293, .inr (.inl (0, lf))), (294, .inr (.inl (0, lkd))), (298, .inl (3, [.ref 299, .ref 300, .ref 301, .ref 302, .ref 303, .ref 304, .ref 305, .ref 306, .int pev, .int 0])), (299, .inr (.inl (0, pms))), (300, .inr (.inl (0, pmm))), (301, .inr (.inl (0, pmt))), (302, .inr (.inl (0, pst))), (303, .inr (.inl (0, pwa))), (304, .inr (.inl (0, prs))), (305, .inr (.inl (0, prr))), (306, .inr (.inl (0, pfa)))] h0 := K.mg K9 rfl rfl
  clear K9
  refine yts_k124 L (K.fi [4, 11, 12, 13, 282, 289, 290, 291] rfl rfl) (fun lv h9 L K9 => ?_)
  have K : KN h9 [(4, .inl (7, [.ref lys, .int mis, .int shus, .int buss, .ref 5, .ref 6, .ref 7, .ref 8, .ref 9, .ref 10, .ref 11, .ref 12, .ref 13, .ref 14, .ref 15, .int lkss, .ref 16, .ref 17, .ref 20])), (5, .inr (.inl (0, rks))), (6, .inr (.inl (0, stas))), (7, .inr (.inl (0, phs))), (8, .inr (.inl (0, sps))), (9, .inr (.inl (0, ces))), (10, .inr (.inl (0, dus))), (11, .inr (.inl (0, hes))), (12, .inr (.inl (0, ris))), (13, .inr (.inl (0, uss))), (14, .inr (.inl (0, cms))), (15, .inr (.inl (0, lfs))), (16, .inr (.inl (0, lkds))), (20, .inl (3, [.ref 21, .ref 22, .ref 23, .ref 24, .ref 25, .ref 26, .ref 27, .ref 28, .int pevs, .int 1])), (21, .inr (.inl (0, pmss))), (22, .inr (.inl (0, pmms))), (23, .inr (.inl (0, pmts))), (24, .inr (.inl (0, psts))), (25, .inr (.inl (0, pwas))), (26, .inr (.inl (0, prss))), (27, .inr (.inl (0, prrs))), (28, .inr (.inl (0, pfas))), (282, .inl (7, [.ref lys, .int mis, .int shus, .int buss, .ref 283, .ref 284, .ref 285, .ref 286, .ref 287, .ref 288, .ref 289, .ref 290, .ref 291, .ref 292, .ref 293, .int lkss, .ref 294, .ref 295, .ref 298])), (283, .inr (.inl (0, (aC 5 rks rk)))), (284, .inr (.inl (0, (aC 5 stas sta)))), (285, .inr (.inl (0, (aC 5 phs ph)))), (286, .inr (.inl (0, (aC 5 sps sp)))), (287, .inr (.inl (0, (aC 5 ces ce)))), (288, .inr (.inl (0, (aC 5 dus du)))), (289, .inr (.inl (0, (aC 5 hes he)))), (290, .inr (.inl (0, (aC 6 ris ri)))), (291, .inr (.inl (0, (aC 6 uss us)))), (292, .inr (.inl (0, cm))), (293, .inr (.inl (0, lf))), (294, .inr (.inl (0, lkd))), (298, .inl (3, [.ref 299, .ref 300, .ref 301, .ref 302, .ref 303, .ref 304, .ref 305, .ref 306, .int pev, .int 0])), (299, .inr (.inl (0, pms))), (300, .inr (.inl (0, pmm))), (301, .inr (.inl (0, pmt))), (302, .inr (.inl (0, pst))), (303, .inr (.inl (0, pwa))), (304, .inr (.inl (0, prs))), (305, .inr (.inl (0, prr))), (306, .inr (.inl (0, pfa)))] h0 := K.mg K9 rfl rfl
  clear K9
  refine yts_k168 L (K.fi [4, 14, 15, 16, 282, 292, 293, 294] rfl rfl) (fun lv h9 L K9 => ?_)
  have K : KN h9 [(4, .inl (7, [.ref lys, .int mis, .int shus, .int buss, .ref 5, .ref 6, .ref 7, .ref 8, .ref 9, .ref 10, .ref 11, .ref 12, .ref 13, .ref 14, .ref 15, .int lkss, .ref 16, .ref 17, .ref 20])), (5, .inr (.inl (0, rks))), (6, .inr (.inl (0, stas))), (7, .inr (.inl (0, phs))), (8, .inr (.inl (0, sps))), (9, .inr (.inl (0, ces))), (10, .inr (.inl (0, dus))), (11, .inr (.inl (0, hes))), (12, .inr (.inl (0, ris))), (13, .inr (.inl (0, uss))), (14, .inr (.inl (0, cms))), (15, .inr (.inl (0, lfs))), (16, .inr (.inl (0, lkds))), (20, .inl (3, [.ref 21, .ref 22, .ref 23, .ref 24, .ref 25, .ref 26, .ref 27, .ref 28, .int pevs, .int 1])), (21, .inr (.inl (0, pmss))), (22, .inr (.inl (0, pmms))), (23, .inr (.inl (0, pmts))), (24, .inr (.inl (0, psts))), (25, .inr (.inl (0, pwas))), (26, .inr (.inl (0, prss))), (27, .inr (.inl (0, prrs))), (28, .inr (.inl (0, pfas))), (282, .inl (7, [.ref lys, .int mis, .int shus, .int buss, .ref 283, .ref 284, .ref 285, .ref 286, .ref 287, .ref 288, .ref 289, .ref 290, .ref 291, .ref 292, .ref 293, .int lkss, .ref 294, .ref 295, .ref 298])), (283, .inr (.inl (0, (aC 5 rks rk)))), (284, .inr (.inl (0, (aC 5 stas sta)))), (285, .inr (.inl (0, (aC 5 phs ph)))), (286, .inr (.inl (0, (aC 5 sps sp)))), (287, .inr (.inl (0, (aC 5 ces ce)))), (288, .inr (.inl (0, (aC 5 dus du)))), (289, .inr (.inl (0, (aC 5 hes he)))), (290, .inr (.inl (0, (aC 6 ris ri)))), (291, .inr (.inl (0, (aC 6 uss us)))), (292, .inr (.inl (0, (aC (nI cm.length) cms cm)))), (293, .inr (.inl (0, (aC (nI lf.length) lfs lf)))), (294, .inr (.inl (0, (aC (nI lkd.length) lkds lkd)))), (298, .inl (3, [.ref 299, .ref 300, .ref 301, .ref 302, .ref 303, .ref 304, .ref 305, .ref 306, .int pev, .int 0])), (299, .inr (.inl (0, pms))), (300, .inr (.inl (0, pmm))), (301, .inr (.inl (0, pmt))), (302, .inr (.inl (0, pst))), (303, .inr (.inl (0, pwa))), (304, .inr (.inl (0, prs))), (305, .inr (.inl (0, prr))), (306, .inr (.inl (0, pfa)))] h0 := K.mg K9 rfl rfl
  clear K9
  refine j_V.ldL yts_M yts_222 rfl (i := 0) (kd := 2) (v := .ref 282) (pcJ := 223) rfl L rfl rfl rfl ?_
  refine j_V.getK yts_M yts_223 (ci := 7) (j := 18) rfl K rfl rfl ?_
  refine j_V.ldL yts_M yts_226 rfl (i := 1) (kd := 2) (v := .ref 4) (pcJ := 227) rfl L rfl rfl rfl ?_
  refine j_V.getK yts_M yts_227 (ci := 7) (j := 18) rfl K rfl rfl ?_
  refine j_V.cl yts_M yts_230 rfl (md := 3) (mj := 28) rfl (by decide) ytp_M (As := [.ref 298, .ref 20]) (rest := []) (jk_spl3 (K.at rfl) rfl rfl rfl (Nat.le_of_ble_eq_true rfl) (Nat.le_of_ble_eq_true rfl)) (fun d => ytp_ok (K.fi [20, 21, 22, 23, 24, 25, 26, 27, 28, 298, 299, 300, 301, 302, 303, 304, 305, 306] rfl rfl)) ?_
  rintro r h9 ⟨rfl, K9⟩
  have K : KN h9 [(4, .inl (7, [.ref lys, .int mis, .int shus, .int buss, .ref 5, .ref 6, .ref 7, .ref 8, .ref 9, .ref 10, .ref 11, .ref 12, .ref 13, .ref 14, .ref 15, .int lkss, .ref 16, .ref 17, .ref 20])), (5, .inr (.inl (0, rks))), (6, .inr (.inl (0, stas))), (7, .inr (.inl (0, phs))), (8, .inr (.inl (0, sps))), (9, .inr (.inl (0, ces))), (10, .inr (.inl (0, dus))), (11, .inr (.inl (0, hes))), (12, .inr (.inl (0, ris))), (13, .inr (.inl (0, uss))), (14, .inr (.inl (0, cms))), (15, .inr (.inl (0, lfs))), (16, .inr (.inl (0, lkds))), (20, .inl (3, [.ref 21, .ref 22, .ref 23, .ref 24, .ref 25, .ref 26, .ref 27, .ref 28, .int pevs, .int 1])), (21, .inr (.inl (0, pmss))), (22, .inr (.inl (0, pmms))), (23, .inr (.inl (0, pmts))), (24, .inr (.inl (0, psts))), (25, .inr (.inl (0, pwas))), (26, .inr (.inl (0, prss))), (27, .inr (.inl (0, prrs))), (28, .inr (.inl (0, pfas))), (282, .inl (7, [.ref lys, .int mis, .int shus, .int buss, .ref 283, .ref 284, .ref 285, .ref 286, .ref 287, .ref 288, .ref 289, .ref 290, .ref 291, .ref 292, .ref 293, .int lkss, .ref 294, .ref 295, .ref 298])), (283, .inr (.inl (0, (aC 5 rks rk)))), (284, .inr (.inl (0, (aC 5 stas sta)))), (285, .inr (.inl (0, (aC 5 phs ph)))), (286, .inr (.inl (0, (aC 5 sps sp)))), (287, .inr (.inl (0, (aC 5 ces ce)))), (288, .inr (.inl (0, (aC 5 dus du)))), (289, .inr (.inl (0, (aC 5 hes he)))), (290, .inr (.inl (0, (aC 6 ris ri)))), (291, .inr (.inl (0, (aC 6 uss us)))), (292, .inr (.inl (0, (aC (nI cm.length) cms cm)))), (293, .inr (.inl (0, (aC (nI lf.length) lfs lf)))), (294, .inr (.inl (0, (aC (nI lkd.length) lkds lkd)))), (298, .inl (3, [.ref 299, .ref 300, .ref 301, .ref 302, .ref 303, .ref 304, .ref 305, .ref 306, .int pev, .int 0])), (299, .inr (.inl (0, pms))), (300, .inr (.inl (0, pmm))), (301, .inr (.inl (0, pmt))), (302, .inr (.inl (0, pst))), (303, .inr (.inl (0, pwa))), (304, .inr (.inl (0, prs))), (305, .inr (.inl (0, prr))), (306, .inr (.inl (0, pfa)))] h0 := K.mg K9 rfl rfl
  clear K9
  show j_V jP _ 61 233 lv [] h9 _
  exact j_V.ret yts_M yts_233 rfl rfl ⟨rfl, K⟩

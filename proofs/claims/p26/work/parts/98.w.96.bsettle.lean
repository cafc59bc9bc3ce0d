/-! layouts settled, states reset (state 4, layout 343), by wip/px/gen_w2.py -/
set_option maxRecDepth 100000 in
theorem xbsw_M : j_meth jP 21 = some (yX2_settleWay, cX2_settleWay, 5, none, 1, false, 2) := rfl
set_option maxRecDepth 100000 in
theorem xbsw_0 : j_code jP 21 0 = some (.iconst 0) := rfl
set_option maxRecDepth 100000 in
theorem xbsw_1 : j_code jP 21 1 = some (.istore_n 2) := rfl
set_option maxRecDepth 100000 in
theorem xbsw_2 : j_code jP 21 2 = some (.iload_n 2) := rfl
set_option maxRecDepth 100000 in
theorem xbsw_3 : j_code jP 21 3 = some (.aload_n 0) := rfl
set_option maxRecDepth 100000 in
theorem xbsw_4 : j_code jP 21 4 = some (.getfield 58) := rfl
set_option maxRecDepth 100000 in
theorem xbsw_7 : j_code jP 21 7 = some (.iconst 1) := rfl
set_option maxRecDepth 100000 in
theorem xbsw_8 : j_code jP 21 8 = some (.isub) := rfl
set_option maxRecDepth 100000 in
theorem xbsw_9 : j_code jP 21 9 = some (.if_icmp .ge 41) := rfl
set_option maxRecDepth 100000 in
theorem xbsw_12 : j_code jP 21 12 = some (.aload_n 0) := rfl
set_option maxRecDepth 100000 in
theorem xbsw_13 : j_code jP 21 13 = some (.getfield 52) := rfl
set_option maxRecDepth 100000 in
theorem xbsw_16 : j_code jP 21 16 = some (.iload_n 1) := rfl
set_option maxRecDepth 100000 in
theorem xbsw_17 : j_code jP 21 17 = some (.bipush 6) := rfl
set_option maxRecDepth 100000 in
theorem xbsw_19 : j_code jP 21 19 = some (.imul) := rfl
set_option maxRecDepth 100000 in
theorem xbsw_20 : j_code jP 21 20 = some (.iload_n 2) := rfl
set_option maxRecDepth 100000 in
theorem xbsw_21 : j_code jP 21 21 = some (.iadd) := rfl
set_option maxRecDepth 100000 in
theorem xbsw_22 : j_code jP 21 22 = some (.aload_n 0) := rfl
set_option maxRecDepth 100000 in
theorem xbsw_23 : j_code jP 21 23 = some (.getfield 15) := rfl
set_option maxRecDepth 100000 in
theorem xbsw_26 : j_code jP 21 26 = some (.iload_n 2) := rfl
set_option maxRecDepth 100000 in
theorem xbsw_27 : j_code jP 21 27 = some (.iconst 1) := rfl
set_option maxRecDepth 100000 in
theorem xbsw_28 : j_code jP 21 28 = some (.iadd) := rfl
set_option maxRecDepth 100000 in
theorem xbsw_29 : j_code jP 21 29 = some (.iaload) := rfl
set_option maxRecDepth 100000 in
theorem xbsw_30 : j_code jP 21 30 = some (.iconst 2) := rfl
set_option maxRecDepth 100000 in
theorem xbsw_31 : j_code jP 21 31 = some (.aload_n 0) := rfl
set_option maxRecDepth 100000 in
theorem xbsw_32 : j_code jP 21 32 = some (.getfield 40) := rfl
set_option maxRecDepth 100000 in
theorem xbsw_35 : j_code jP 21 35 = some (.iload_n 1) := rfl
set_option maxRecDepth 100000 in
theorem xbsw_36 : j_code jP 21 36 = some (.iaload) := rfl
set_option maxRecDepth 100000 in
theorem xbsw_37 : j_code jP 21 37 = some (.iadd) := rfl
set_option maxRecDepth 100000 in
theorem xbsw_38 : j_code jP 21 38 = some (.imul) := rfl
set_option maxRecDepth 100000 in
theorem xbsw_39 : j_code jP 21 39 = some (.iconst 1) := rfl
set_option maxRecDepth 100000 in
theorem xbsw_40 : j_code jP 21 40 = some (.iadd) := rfl
set_option maxRecDepth 100000 in
theorem xbsw_41 : j_code jP 21 41 = some (.iconst 2) := rfl
set_option maxRecDepth 100000 in
theorem xbsw_42 : j_code jP 21 42 = some (.idiv) := rfl
set_option maxRecDepth 100000 in
theorem xbsw_43 : j_code jP 21 43 = some (.iastore) := rfl
set_option maxRecDepth 100000 in
theorem xbsw_44 : j_code jP 21 44 = some (.iinc 2 1) := rfl
set_option maxRecDepth 100000 in
theorem xbsw_47 : j_code jP 21 47 = some (.goto (-45)) := rfl
set_option maxRecDepth 100000 in
theorem xbsw_50 : j_code jP 21 50 = some (.aload_n 0) := rfl
set_option maxRecDepth 100000 in
theorem xbsw_51 : j_code jP 21 51 = some (.getfield 55) := rfl
set_option maxRecDepth 100000 in
theorem xbsw_54 : j_code jP 21 54 = some (.iload_n 1) := rfl
set_option maxRecDepth 100000 in
theorem xbsw_55 : j_code jP 21 55 = some (.aload_n 0) := rfl
set_option maxRecDepth 100000 in
theorem xbsw_56 : j_code jP 21 56 = some (.iload_n 1) := rfl
set_option maxRecDepth 100000 in
theorem xbsw_57 : j_code jP 21 57 = some (.aload_n 0) := rfl
set_option maxRecDepth 100000 in
theorem xbsw_58 : j_code jP 21 58 = some (.getfield 34) := rfl
set_option maxRecDepth 100000 in
theorem xbsw_61 : j_code jP 21 61 = some (.iload_n 1) := rfl
set_option maxRecDepth 100000 in
theorem xbsw_62 : j_code jP 21 62 = some (.iaload) := rfl
set_option maxRecDepth 100000 in
theorem xbsw_63 : j_code jP 21 63 = some (.invokevirtual 79) := rfl
set_option maxRecDepth 100000 in
theorem xbsw_66 : j_code jP 21 66 = some (.iastore) := rfl
set_option maxRecDepth 100000 in
theorem xbsw_67 : j_code jP 21 67 = some (.iconst 0) := rfl
set_option maxRecDepth 100000 in
theorem xbsw_68 : j_code jP 21 68 = some (.istore_n 2) := rfl
set_option maxRecDepth 100000 in
theorem xbsw_69 : j_code jP 21 69 = some (.iload_n 2) := rfl
set_option maxRecDepth 100000 in
theorem xbsw_70 : j_code jP 21 70 = some (.aload_n 0) := rfl
set_option maxRecDepth 100000 in
theorem xbsw_71 : j_code jP 21 71 = some (.getfield 58) := rfl
set_option maxRecDepth 100000 in
theorem xbsw_74 : j_code jP 21 74 = some (.if_icmp .ge 67) := rfl
set_option maxRecDepth 100000 in
theorem xbsw_77 : j_code jP 21 77 = some (.iconst 0) := rfl
set_option maxRecDepth 100000 in
theorem xbsw_78 : j_code jP 21 78 = some (.istore_n 3) := rfl
set_option maxRecDepth 100000 in
theorem xbsw_79 : j_code jP 21 79 = some (.iload_n 2) := rfl
set_option maxRecDepth 100000 in
theorem xbsw_80 : j_code jP 21 80 = some (.aload_n 0) := rfl
set_option maxRecDepth 100000 in
theorem xbsw_81 : j_code jP 21 81 = some (.getfield 34) := rfl
set_option maxRecDepth 100000 in
theorem xbsw_84 : j_code jP 21 84 = some (.iload_n 1) := rfl
set_option maxRecDepth 100000 in
theorem xbsw_85 : j_code jP 21 85 = some (.iaload) := rfl
set_option maxRecDepth 100000 in
theorem xbsw_86 : j_code jP 21 86 = some (.invokestatic 83) := rfl
set_option maxRecDepth 100000 in
theorem xbsw_89 : j_code jP 21 89 = some (.iconst 1) := rfl
set_option maxRecDepth 100000 in
theorem xbsw_90 : j_code jP 21 90 = some (.iadd) := rfl
set_option maxRecDepth 100000 in
theorem xbsw_91 : j_code jP 21 91 = some (.istore 4) := rfl
set_option maxRecDepth 100000 in
theorem xbsw_93 : j_code jP 21 93 = some (.iload 4) := rfl
set_option maxRecDepth 100000 in
theorem xbsw_95 : j_code jP 21 95 = some (.iload_n 2) := rfl
set_option maxRecDepth 100000 in
theorem xbsw_96 : j_code jP 21 96 = some (.aload_n 0) := rfl
set_option maxRecDepth 100000 in
theorem xbsw_97 : j_code jP 21 97 = some (.getfield 34) := rfl
set_option maxRecDepth 100000 in
theorem xbsw_100 : j_code jP 21 100 = some (.iload_n 1) := rfl
set_option maxRecDepth 100000 in
theorem xbsw_101 : j_code jP 21 101 = some (.iaload) := rfl
set_option maxRecDepth 100000 in
theorem xbsw_102 : j_code jP 21 102 = some (.invokestatic 88) := rfl
set_option maxRecDepth 100000 in
theorem xbsw_105 : j_code jP 21 105 = some (.if_icmp .ge 18) := rfl
set_option maxRecDepth 100000 in
theorem xbsw_108 : j_code jP 21 108 = some (.iload_n 3) := rfl
set_option maxRecDepth 100000 in
theorem xbsw_109 : j_code jP 21 109 = some (.iconst 1) := rfl
set_option maxRecDepth 100000 in
theorem xbsw_110 : j_code jP 21 110 = some (.iload 4) := rfl
set_option maxRecDepth 100000 in
theorem xbsw_112 : j_code jP 21 112 = some (.iconst 3) := rfl
set_option maxRecDepth 100000 in
theorem xbsw_113 : j_code jP 21 113 = some (.imul) := rfl
set_option maxRecDepth 100000 in
theorem xbsw_114 : j_code jP 21 114 = some (.ishl) := rfl
set_option maxRecDepth 100000 in
theorem xbsw_115 : j_code jP 21 115 = some (.ior) := rfl
set_option maxRecDepth 100000 in
theorem xbsw_116 : j_code jP 21 116 = some (.istore_n 3) := rfl
set_option maxRecDepth 100000 in
theorem xbsw_117 : j_code jP 21 117 = some (.iinc 4 1) := rfl
set_option maxRecDepth 100000 in
theorem xbsw_120 : j_code jP 21 120 = some (.goto (-27)) := rfl
set_option maxRecDepth 100000 in
theorem xbsw_123 : j_code jP 21 123 = some (.aload_n 0) := rfl
set_option maxRecDepth 100000 in
theorem xbsw_124 : j_code jP 21 124 = some (.getfield 49) := rfl
set_option maxRecDepth 100000 in
theorem xbsw_127 : j_code jP 21 127 = some (.iload_n 1) := rfl
set_option maxRecDepth 100000 in
theorem xbsw_128 : j_code jP 21 128 = some (.bipush 7) := rfl
set_option maxRecDepth 100000 in
theorem xbsw_130 : j_code jP 21 130 = some (.imul) := rfl
set_option maxRecDepth 100000 in
theorem xbsw_131 : j_code jP 21 131 = some (.iload_n 2) := rfl
set_option maxRecDepth 100000 in
theorem xbsw_132 : j_code jP 21 132 = some (.iadd) := rfl
set_option maxRecDepth 100000 in
theorem xbsw_133 : j_code jP 21 133 = some (.iload_n 3) := rfl
set_option maxRecDepth 100000 in
theorem xbsw_134 : j_code jP 21 134 = some (.iastore) := rfl
set_option maxRecDepth 100000 in
theorem xbsw_135 : j_code jP 21 135 = some (.iinc 2 1) := rfl
set_option maxRecDepth 100000 in
theorem xbsw_138 : j_code jP 21 138 = some (.goto (-69)) := rfl
set_option maxRecDepth 100000 in
theorem xbsw_141 : j_code jP 21 141 = some (.return_) := rfl
set_option maxRecDepth 1000000 in
theorem xbsw_in {ns : Int32} {nt : Int32} {cel : Int32} {tto : List Int32} {d : Nat} {h h0 : J_H} {x1 v2 : Int32} {Q : Option Value → J_H → Prop} (K : KN h [(343, .inl (2, [.int ns, .ref 344, .ref 345, .ref 346, .ref 347, .int nt, .ref 348, .ref 349, .ref 350, .ref 351, .ref 352, .ref 353, .ref 354, .int cel, .ref 355, .ref 356, .ref 357, .ref 358])), (351, .inr (.inl (0, tto)))] h0) : ∀ (f : Nat) (v4 v3 : Int32) {lv : J_L}, lpN (iMx v2 (gA tto x1)) v4 = f → LK lv [(0, .ref 343), (1, .int x1), (2, .int v2), (3, .int v3), (4, .int v4)] → (∀ lv, LK lv [(0, .ref 343), (1, .int x1), (2, .int v2), (3, .int (x_wayb f v4 v3))] → j_V jP d 21 123 lv [] h Q) → j_V jP d 21 93 lv [] h Q := by
  intro f
  induction f with
  | zero =>
    intro v4 v3 lv e L kk
    refine j_V.ldL xbsw_M xbsw_93 rfl (i := 4) (kd := 0) (v := .int v4) (pcJ := 95) rfl L rfl rfl rfl ?_
    refine j_V.ldL xbsw_M xbsw_95 rfl (i := 2) (kd := 0) (v := .int v2) (pcJ := 96) rfl L rfl rfl rfl ?_
    refine j_V.ldL xbsw_M xbsw_96 rfl (i := 0) (kd := 2) (v := .ref 343) (pcJ := 97) rfl L rfl rfl rfl ?_
    refine j_V.getK xbsw_M xbsw_97 (ci := 2) (j := 9) rfl K rfl rfl ?_
    refine j_V.ldL xbsw_M xbsw_100 rfl (i := 1) (kd := 0) (v := .int x1) (pcJ := 101) rfl L rfl rfl rfl ?_
    refine j_V.iaA xbsw_M xbsw_101 K rfl ?_
    refine j_V.mx xbsw_M xbsw_102 rfl rfl (Nat.le_of_ble_eq_true rfl) ?_
    refine j_V.icmp xbsw_M xbsw_105 (t := 123) rfl (fun c105_0 => ?_) (fun c105_0 => ?_)
    · replace c105_0 : ¬ (v4 < (iMx v2 (gA tto x1))) := jd_ge c105_0
      exact kk _ (L.sub ⟨rfl, rfl, rfl, rfl, trivial⟩)
    · replace c105_0 : v4 < (iMx v2 (gA tto x1)) := jd_gen c105_0
      exact absurd c105_0 (lpN_z e)
  | succ f ih =>
    intro v4 v3 lv e L kk
    refine j_V.ldL xbsw_M xbsw_93 rfl (i := 4) (kd := 0) (v := .int v4) (pcJ := 95) rfl L rfl rfl rfl ?_
    refine j_V.ldL xbsw_M xbsw_95 rfl (i := 2) (kd := 0) (v := .int v2) (pcJ := 96) rfl L rfl rfl rfl ?_
    refine j_V.ldL xbsw_M xbsw_96 rfl (i := 0) (kd := 2) (v := .ref 343) (pcJ := 97) rfl L rfl rfl rfl ?_
    refine j_V.getK xbsw_M xbsw_97 (ci := 2) (j := 9) rfl K rfl rfl ?_
    refine j_V.ldL xbsw_M xbsw_100 rfl (i := 1) (kd := 0) (v := .int x1) (pcJ := 101) rfl L rfl rfl rfl ?_
    refine j_V.iaA xbsw_M xbsw_101 K rfl ?_
    refine j_V.mx xbsw_M xbsw_102 rfl rfl (Nat.le_of_ble_eq_true rfl) ?_
    refine j_V.icmp xbsw_M xbsw_105 (t := 123) rfl (fun c105_0 => ?_) (fun c105_0 => ?_)
    · replace c105_0 : ¬ (v4 < (iMx v2 (gA tto x1))) := jd_ge c105_0
      exact absurd (lpN_s e) c105_0
    · replace c105_0 : v4 < (iMx v2 (gA tto x1)) := jd_gen c105_0
      refine j_V.ldL xbsw_M xbsw_108 rfl (i := 3) (kd := 0) (v := .int v3) (pcJ := 109) rfl L rfl rfl rfl ?_
      refine j_V.one xbsw_M xbsw_109 (by decide) (pcJ := 110) (stJ := [.int 1, .int v3]) rfl ?_
      refine j_V.ldL xbsw_M xbsw_110 rfl (i := 4) (kd := 0) (v := .int v4) (pcJ := 112) rfl L rfl rfl rfl ?_
      refine j_V.one xbsw_M xbsw_112 (by decide) (pcJ := 113) (stJ := [.int 3, .int v4, .int 1, .int v3]) rfl ?_
      refine j_V.one xbsw_M xbsw_113 (by decide) (pcJ := 114) (stJ := [.int (v4 * 3), .int 1, .int v3]) rfl ?_
      refine j_V.one xbsw_M xbsw_114 (by decide) (pcJ := 115) (stJ := [.int (1 <<< ((v4 * 3) &&& 31)), .int v3]) rfl ?_
      refine j_V.one xbsw_M xbsw_115 (by decide) (pcJ := 116) (stJ := [.int (v3 ||| (1 <<< ((v4 * 3) &&& 31)))]) rfl ?_
      refine j_V.stL xbsw_M xbsw_116 rfl (i := 3) (kd := 0) (kl' := [(0, .ref 343), (1, .int x1), (2, .int v2), (3, .int (v3 ||| (1 <<< ((v4 * 3) &&& 31)))), (4, .int v4)]) (pcJ := 117) rfl L rfl (by decide) rfl rfl rfl (fun lv L => ?_)
      refine j_V.inL xbsw_M xbsw_117 (i := 4) (kl' := [(0, .ref 343), (1, .int x1), (2, .int v2), (3, .int (v3 ||| (1 <<< ((v4 * 3) &&& 31)))), (4, .int (v4 + 1))]) (pcJ := 120) L rfl rfl rfl rfl (fun lv L => ?_)
      refine j_V.gto xbsw_M xbsw_120 (t := 93) rfl ?_
      rw [show (x_wayb (f + 1) v4 v3) = (x_wayb f (v4 + 1) (v3 ||| (1 <<< ((v4 * 3) &&& 31)))) from rfl] at kk
      exact ih _ _ (lpN_n e) L kk
set_option maxRecDepth 100000 in
theorem xb200_M : j_meth jP 20 = some (yX2_settleFit, cX2_settleFit, 3, none, 1, false, 2) := rfl
set_option maxRecDepth 100000 in
theorem xb200_0 : j_code jP 20 0 = some (.aload_n 0) := rfl
set_option maxRecDepth 100000 in
theorem xb200_1 : j_code jP 20 1 = some (.getfield 46) := rfl
set_option maxRecDepth 100000 in
theorem xb200_4 : j_code jP 20 4 = some (.iload_n 1) := rfl
set_option maxRecDepth 100000 in
theorem xb200_5 : j_code jP 20 5 = some (.iconst 0) := rfl
set_option maxRecDepth 100000 in
theorem xb200_6 : j_code jP 20 6 = some (.iastore) := rfl
set_option maxRecDepth 100000 in
theorem xb200_7 : j_code jP 20 7 = some (.iconst 0) := rfl
set_option maxRecDepth 100000 in
theorem xb200_8 : j_code jP 20 8 = some (.istore_n 2) := rfl
set_option maxRecDepth 100000 in
theorem xb200_9 : j_code jP 20 9 = some (.iload_n 2) := rfl
set_option maxRecDepth 100000 in
theorem xb200_10 : j_code jP 20 10 = some (.bipush 21) := rfl
set_option maxRecDepth 100000 in
theorem xb200_12 : j_code jP 20 12 = some (.if_icmp .ge 47) := rfl
set_option maxRecDepth 100000 in
theorem xb200_15 : j_code jP 20 15 = some (.aload_n 0) := rfl
set_option maxRecDepth 100000 in
theorem xb200_16 : j_code jP 20 16 = some (.getfield 65) := rfl
set_option maxRecDepth 100000 in
theorem xb200_19 : j_code jP 20 19 = some (.iload_n 2) := rfl
set_option maxRecDepth 100000 in
theorem xb200_20 : j_code jP 20 20 = some (.ishr) := rfl
set_option maxRecDepth 100000 in
theorem xb200_21 : j_code jP 20 21 = some (.iconst 1) := rfl
set_option maxRecDepth 100000 in
theorem xb200_22 : j_code jP 20 22 = some (.iand) := rfl
set_option maxRecDepth 100000 in
theorem xb200_23 : j_code jP 20 23 = some (.ifCond .eq 30) := rfl
set_option maxRecDepth 100000 in
theorem xb200_26 : j_code jP 20 26 = some (.aload_n 0) := rfl
set_option maxRecDepth 100000 in
theorem xb200_27 : j_code jP 20 27 = some (.getfield 22) := rfl
set_option maxRecDepth 100000 in
theorem xb200_30 : j_code jP 20 30 = some (.iload_n 2) := rfl
set_option maxRecDepth 100000 in
theorem xb200_31 : j_code jP 20 31 = some (.iaload) := rfl
set_option maxRecDepth 100000 in
theorem xb200_32 : j_code jP 20 32 = some (.aload_n 0) := rfl
set_option maxRecDepth 100000 in
theorem xb200_33 : j_code jP 20 33 = some (.getfield 28) := rfl
set_option maxRecDepth 100000 in
theorem xb200_36 : j_code jP 20 36 = some (.iload_n 1) := rfl
set_option maxRecDepth 100000 in
theorem xb200_37 : j_code jP 20 37 = some (.iaload) := rfl
set_option maxRecDepth 100000 in
theorem xb200_38 : j_code jP 20 38 = some (.if_icmp .lt 15) := rfl
set_option maxRecDepth 100000 in
theorem xb200_41 : j_code jP 20 41 = some (.aload_n 0) := rfl
set_option maxRecDepth 100000 in
theorem xb200_42 : j_code jP 20 42 = some (.getfield 46) := rfl
set_option maxRecDepth 100000 in
theorem xb200_45 : j_code jP 20 45 = some (.iload_n 1) := rfl
set_option maxRecDepth 100000 in
theorem xb200_46 : j_code jP 20 46 = some (.dup2) := rfl
set_option maxRecDepth 100000 in
theorem xb200_47 : j_code jP 20 47 = some (.iaload) := rfl
set_option maxRecDepth 100000 in
theorem xb200_48 : j_code jP 20 48 = some (.iconst 1) := rfl
set_option maxRecDepth 100000 in
theorem xb200_49 : j_code jP 20 49 = some (.iload_n 2) := rfl
set_option maxRecDepth 100000 in
theorem xb200_50 : j_code jP 20 50 = some (.ishl) := rfl
set_option maxRecDepth 100000 in
theorem xb200_51 : j_code jP 20 51 = some (.ior) := rfl
set_option maxRecDepth 100000 in
theorem xb200_52 : j_code jP 20 52 = some (.iastore) := rfl
set_option maxRecDepth 100000 in
theorem xb200_53 : j_code jP 20 53 = some (.iinc 2 1) := rfl
set_option maxRecDepth 100000 in
theorem xb200_56 : j_code jP 20 56 = some (.goto (-47)) := rfl
set_option maxRecDepth 100000 in
theorem xb200_59 : j_code jP 20 59 = some (.return_) := rfl
set_option maxRecDepth 1000000 in
theorem xb200_ok_l9 {ns : Int32} {nt : Int32} {cel : Int32} {len : List Int32} {siz : List Int32} {v1 : Int32} {d : Nat} {h0 : J_H} : ∀ (f : Nat) (v2 : Int32) (fit : List Int32) {lv : J_L} {h : J_H}, lpN 21 v2 = f → LK lv [(0, .ref 343), (1, .int v1), (2, .int v2)] → KN h [(343, .inl (2, [.int ns, .ref 344, .ref 345, .ref 346, .ref 347, .int nt, .ref 348, .ref 349, .ref 350, .ref 351, .ref 352, .ref 353, .ref 354, .int cel, .ref 355, .ref 356, .ref 357, .ref 358])), (347, .inr (.inl (0, len))), (349, .inr (.inl (0, siz))), (355, .inr (.inl (0, fit)))] h0 → j_V jP d 20 9 lv [] h (fun rv h' => rv = none ∧ KN h' [(343, .inl (2, [.int ns, .ref 344, .ref 345, .ref 346, .ref 347, .int nt, .ref 348, .ref 349, .ref 350, .ref 351, .ref 352, .ref 353, .ref 354, .int cel, .ref 355, .ref 356, .ref 357, .ref 358])), (347, .inr (.inl (0, len))), (349, .inr (.inl (0, siz))), (355, .inr (.inl (0, (x_settleFit_l9 cel len siz v1 f v2 fit))))] h0) := by
  intro f
  induction f with
  | zero =>
    intro v2 fit lv h e L K
    refine j_V.ldL xb200_M xb200_9 rfl (i := 2) (kd := 0) (v := .int v2) (pcJ := 10) rfl L rfl rfl rfl ?_
    refine j_V.one xb200_M xb200_10 (by decide) (pcJ := 12) (stJ := [.int 21, .int v2]) rfl ?_
    refine j_V.icmp xb200_M xb200_12 (t := 59) rfl (fun c12_0 => ?_) (fun c12_0 => ?_)
    · replace c12_0 : ¬ (v2 < 21) := jd_ge c12_0
      refine j_V.ret xb200_M xb200_59 rfl rfl ?_
      rw [show (x_settleFit_l9 cel len siz v1 0 v2 fit) = _ from (rfl)]
      exact ⟨rfl, K⟩
    · replace c12_0 : v2 < 21 := jd_gen c12_0
      exact absurd c12_0 (lpN_z e)
  | succ f ih =>
    intro v2 fit lv h e L K
    refine j_V.ldL xb200_M xb200_9 rfl (i := 2) (kd := 0) (v := .int v2) (pcJ := 10) rfl L rfl rfl rfl ?_
    refine j_V.one xb200_M xb200_10 (by decide) (pcJ := 12) (stJ := [.int 21, .int v2]) rfl ?_
    refine j_V.icmp xb200_M xb200_12 (t := 59) rfl (fun c12_0 => ?_) (fun c12_0 => ?_)
    · replace c12_0 : ¬ (v2 < 21) := jd_ge c12_0
      exact absurd (lpN_s e) c12_0
    · replace c12_0 : v2 < 21 := jd_gen c12_0
      refine j_V.ldL xb200_M xb200_15 rfl (i := 0) (kd := 2) (v := .ref 343) (pcJ := 16) rfl L rfl rfl rfl ?_
      refine j_V.getK xb200_M xb200_16 (ci := 2) (j := 13) rfl K rfl rfl ?_
      refine j_V.ldL xb200_M xb200_19 rfl (i := 2) (kd := 0) (v := .int v2) (pcJ := 20) rfl L rfl rfl rfl ?_
      refine j_V.one xb200_M xb200_20 (by decide) (pcJ := 21) (stJ := [.int (cel >>> (v2 &&& 31))]) rfl ?_
      refine j_V.one xb200_M xb200_21 (by decide) (pcJ := 22) (stJ := [.int 1, .int (cel >>> (v2 &&& 31))]) rfl ?_
      refine j_V.one xb200_M xb200_22 (by decide) (pcJ := 23) (stJ := [.int ((cel >>> (v2 &&& 31)) &&& 1)]) rfl ?_
      refine j_V.ifc xb200_M xb200_23 (t := 53) rfl (fun c23_0 => ?_) (fun c23_0 => ?_)
      · replace c23_0 : ((cel >>> (v2 &&& 31)) &&& 1) = 0 := jd_eq c23_0
        refine j_V.inL xb200_M xb200_53 (i := 2) (kl' := [(0, .ref 343), (1, .int v1), (2, .int (v2 + 1))]) (pcJ := 56) L rfl rfl rfl rfl (fun lv L => ?_)
        refine j_V.gto xb200_M xb200_56 (t := 9) rfl ?_
        rw [show (x_settleFit_l9 cel len siz v1 (f + 1) v2 fit) = _ from ((if_pos c23_0).trans (rfl))]
        exact ih _ _ (lpN_n e) L K
      · replace c23_0 : ¬ (((cel >>> (v2 &&& 31)) &&& 1) = 0) := jd_eqn c23_0
        refine j_V.ldL xb200_M xb200_26 rfl (i := 0) (kd := 2) (v := .ref 343) (pcJ := 27) rfl L rfl rfl rfl ?_
        refine j_V.getK xb200_M xb200_27 (ci := 2) (j := 4) rfl K rfl rfl ?_
        refine j_V.ldL xb200_M xb200_30 rfl (i := 2) (kd := 0) (v := .int v2) (pcJ := 31) rfl L rfl rfl rfl ?_
        refine j_V.iaA xb200_M xb200_31 K rfl ?_
        refine j_V.ldL xb200_M xb200_32 rfl (i := 0) (kd := 2) (v := .ref 343) (pcJ := 33) rfl L rfl rfl rfl ?_
        refine j_V.getK xb200_M xb200_33 (ci := 2) (j := 7) rfl K rfl rfl ?_
        refine j_V.ldL xb200_M xb200_36 rfl (i := 1) (kd := 0) (v := .int v1) (pcJ := 37) rfl L rfl rfl rfl ?_
        refine j_V.iaA xb200_M xb200_37 K rfl ?_
        refine j_V.icmp xb200_M xb200_38 (t := 53) rfl (fun c38_1 => ?_) (fun c38_1 => ?_)
        · replace c38_1 : (gA len v2) < (gA siz v1) := jd_lt c38_1
          refine j_V.inL xb200_M xb200_53 (i := 2) (kl' := [(0, .ref 343), (1, .int v1), (2, .int (v2 + 1))]) (pcJ := 56) L rfl rfl rfl rfl (fun lv L => ?_)
          refine j_V.gto xb200_M xb200_56 (t := 9) rfl ?_
          rw [show (x_settleFit_l9 cel len siz v1 (f + 1) v2 fit) = _ from ((if_neg c23_0).trans ((if_pos c38_1).trans (rfl)))]
          exact ih _ _ (lpN_n e) L K
        · replace c38_1 : ¬ ((gA len v2) < (gA siz v1)) := jd_ltn c38_1
          refine j_V.ldL xb200_M xb200_41 rfl (i := 0) (kd := 2) (v := .ref 343) (pcJ := 42) rfl L rfl rfl rfl ?_
          refine j_V.getK xb200_M xb200_42 (ci := 2) (j := 14) rfl K rfl rfl ?_
          refine j_V.ldL xb200_M xb200_45 rfl (i := 1) (kd := 0) (v := .int v1) (pcJ := 46) rfl L rfl rfl rfl ?_
          refine j_V.one xb200_M xb200_46 (by decide) (pcJ := 47) (stJ := [.int v1, .ref 355, .int v1, .ref 355]) rfl ?_
          refine j_V.iaA xb200_M xb200_47 K rfl ?_
          refine j_V.one xb200_M xb200_48 (by decide) (pcJ := 49) (stJ := [.int 1, .int (gA fit v1), .int v1, .ref 355]) rfl ?_
          refine j_V.ldL xb200_M xb200_49 rfl (i := 2) (kd := 0) (v := .int v2) (pcJ := 50) rfl L rfl rfl rfl ?_
          refine j_V.one xb200_M xb200_50 (by decide) (pcJ := 51) (stJ := [.int (1 <<< (v2 &&& 31)), .int (gA fit v1), .int v1, .ref 355]) rfl ?_
          refine j_V.one xb200_M xb200_51 (by decide) (pcJ := 52) (stJ := [.int ((gA fit v1) ||| (1 <<< (v2 &&& 31))), .int v1, .ref 355]) rfl ?_
          refine j_V.isA xb200_M xb200_52 (k' := [(343, .inl (2, [.int ns, .ref 344, .ref 345, .ref 346, .ref 347, .int nt, .ref 348, .ref 349, .ref 350, .ref 351, .ref 352, .ref 353, .ref 354, .int cel, .ref 355, .ref 356, .ref 357, .ref 358])), (347, .inr (.inl (0, len))), (349, .inr (.inl (0, siz))), (355, .inr (.inl (0, (sA fit v1 ((gA fit v1) ||| (1 <<< (v2 &&& 31)))))))]) K rfl rfl (fun h K => ?_)
          obtain ⟨fit3, efit3⟩ : ∃ z, z = (sA fit v1 ((gA fit v1) ||| (1 <<< (v2 &&& 31)))) := ⟨_, rfl⟩
          rw [← efit3] at K
          refine j_V.inL xb200_M xb200_53 (i := 2) (kl' := [(0, .ref 343), (1, .int v1), (2, .int (v2 + 1))]) (pcJ := 56) L rfl rfl rfl rfl (fun lv L => ?_)
          refine j_V.gto xb200_M xb200_56 (t := 9) rfl ?_
          subst efit3
          rw [show (x_settleFit_l9 cel len siz v1 (f + 1) v2 fit) = _ from ((if_neg c23_0).trans ((if_neg c38_1).trans (rfl)))]
          exact ih _ _ (lpN_n e) L K
set_option maxRecDepth 1000000 in
theorem xb200_ok {ns : Int32} {nt : Int32} {cel : Int32} {len : List Int32} {siz : List Int32} {fit : List Int32} {x1 : Int32} {d : Nat} {h h0 : J_H} (K : KN h [(343, .inl (2, [.int ns, .ref 344, .ref 345, .ref 346, .ref 347, .int nt, .ref 348, .ref 349, .ref 350, .ref 351, .ref 352, .ref 353, .ref 354, .int cel, .ref 355, .ref 356, .ref 357, .ref 358])), (347, .inr (.inl (0, len))), (349, .inr (.inl (0, siz))), (355, .inr (.inl (0, fit)))] h0) : j_V jP d 20 0 (lv_args 0 [.ref 343, .int x1]) [] h (fun rv h' => rv = none ∧ KN h' [(343, .inl (2, [.int ns, .ref 344, .ref 345, .ref 346, .ref 347, .int nt, .ref 348, .ref 349, .ref 350, .ref 351, .ref 352, .ref 353, .ref 354, .int cel, .ref 355, .ref 356, .ref 357, .ref 358])), (347, .inr (.inl (0, len))), (349, .inr (.inl (0, siz))), (355, .inr (.inl (0, (x_settleFit cel len siz fit x1))))] h0) := by
  show j_V jP d 20 0 [(0, .ref 343), (1, .int x1)] [] h _
  obtain ⟨lv, elv, L⟩ : ∃ lv, lv = [(0, .ref 343), (1, .int x1)] ∧ LK lv [(0, .ref 343), (1, .int x1)] := ⟨_, rfl, LK.rf⟩
  rw [← elv]
  clear elv
  refine j_V.ldL xb200_M xb200_0 rfl (i := 0) (kd := 2) (v := .ref 343) (pcJ := 1) rfl L rfl rfl rfl ?_
  refine j_V.getK xb200_M xb200_1 (ci := 2) (j := 14) rfl K rfl rfl ?_
  refine j_V.ldL xb200_M xb200_4 rfl (i := 1) (kd := 0) (v := .int x1) (pcJ := 5) rfl L rfl rfl rfl ?_
  refine j_V.one xb200_M xb200_5 (by decide) (pcJ := 6) (stJ := [.int 0, .int x1, .ref 355]) rfl ?_
  refine j_V.isA xb200_M xb200_6 (k' := [(343, .inl (2, [.int ns, .ref 344, .ref 345, .ref 346, .ref 347, .int nt, .ref 348, .ref 349, .ref 350, .ref 351, .ref 352, .ref 353, .ref 354, .int cel, .ref 355, .ref 356, .ref 357, .ref 358])), (347, .inr (.inl (0, len))), (349, .inr (.inl (0, siz))), (355, .inr (.inl (0, (sA fit x1 0))))]) K rfl rfl (fun h K => ?_)
  obtain ⟨fit4, efit4⟩ : ∃ z, z = (sA fit x1 0) := ⟨_, rfl⟩
  rw [← efit4] at K
  refine j_V.one xb200_M xb200_7 (by decide) (pcJ := 8) (stJ := [.int 0]) rfl ?_
  refine j_V.stL xb200_M xb200_8 rfl (i := 2) (kd := 0) (kl' := [(0, .ref 343), (1, .int x1), (2, .int 0)]) (pcJ := 9) rfl L rfl (by decide) rfl rfl rfl (fun lv L => ?_)
  subst efit4
  rw [show (x_settleFit cel len siz fit x1) = _ from (rfl)]
  exact xb200_ok_l9 _ _ _ rfl L K
set_option maxRecDepth 100000 in
theorem xb201_M : j_meth jP 21 = some (yX2_settleWay, cX2_settleWay, 5, none, 1, false, 2) := rfl
set_option maxRecDepth 100000 in
theorem xb201_0 : j_code jP 21 0 = some (.iconst 0) := rfl
set_option maxRecDepth 100000 in
theorem xb201_1 : j_code jP 21 1 = some (.istore_n 2) := rfl
set_option maxRecDepth 100000 in
theorem xb201_2 : j_code jP 21 2 = some (.iload_n 2) := rfl
set_option maxRecDepth 100000 in
theorem xb201_3 : j_code jP 21 3 = some (.aload_n 0) := rfl
set_option maxRecDepth 100000 in
theorem xb201_4 : j_code jP 21 4 = some (.getfield 58) := rfl
set_option maxRecDepth 100000 in
theorem xb201_7 : j_code jP 21 7 = some (.iconst 1) := rfl
set_option maxRecDepth 100000 in
theorem xb201_8 : j_code jP 21 8 = some (.isub) := rfl
set_option maxRecDepth 100000 in
theorem xb201_9 : j_code jP 21 9 = some (.if_icmp .ge 41) := rfl
set_option maxRecDepth 100000 in
theorem xb201_12 : j_code jP 21 12 = some (.aload_n 0) := rfl
set_option maxRecDepth 100000 in
theorem xb201_13 : j_code jP 21 13 = some (.getfield 52) := rfl
set_option maxRecDepth 100000 in
theorem xb201_16 : j_code jP 21 16 = some (.iload_n 1) := rfl
set_option maxRecDepth 100000 in
theorem xb201_17 : j_code jP 21 17 = some (.bipush 6) := rfl
set_option maxRecDepth 100000 in
theorem xb201_19 : j_code jP 21 19 = some (.imul) := rfl
set_option maxRecDepth 100000 in
theorem xb201_20 : j_code jP 21 20 = some (.iload_n 2) := rfl
set_option maxRecDepth 100000 in
theorem xb201_21 : j_code jP 21 21 = some (.iadd) := rfl
set_option maxRecDepth 100000 in
theorem xb201_22 : j_code jP 21 22 = some (.aload_n 0) := rfl
set_option maxRecDepth 100000 in
theorem xb201_23 : j_code jP 21 23 = some (.getfield 15) := rfl
set_option maxRecDepth 100000 in
theorem xb201_26 : j_code jP 21 26 = some (.iload_n 2) := rfl
set_option maxRecDepth 100000 in
theorem xb201_27 : j_code jP 21 27 = some (.iconst 1) := rfl
set_option maxRecDepth 100000 in
theorem xb201_28 : j_code jP 21 28 = some (.iadd) := rfl
set_option maxRecDepth 100000 in
theorem xb201_29 : j_code jP 21 29 = some (.iaload) := rfl
set_option maxRecDepth 100000 in
theorem xb201_30 : j_code jP 21 30 = some (.iconst 2) := rfl
set_option maxRecDepth 100000 in
theorem xb201_31 : j_code jP 21 31 = some (.aload_n 0) := rfl
set_option maxRecDepth 100000 in
theorem xb201_32 : j_code jP 21 32 = some (.getfield 40) := rfl
set_option maxRecDepth 100000 in
theorem xb201_35 : j_code jP 21 35 = some (.iload_n 1) := rfl
set_option maxRecDepth 100000 in
theorem xb201_36 : j_code jP 21 36 = some (.iaload) := rfl
set_option maxRecDepth 100000 in
theorem xb201_37 : j_code jP 21 37 = some (.iadd) := rfl
set_option maxRecDepth 100000 in
theorem xb201_38 : j_code jP 21 38 = some (.imul) := rfl
set_option maxRecDepth 100000 in
theorem xb201_39 : j_code jP 21 39 = some (.iconst 1) := rfl
set_option maxRecDepth 100000 in
theorem xb201_40 : j_code jP 21 40 = some (.iadd) := rfl
set_option maxRecDepth 100000 in
theorem xb201_41 : j_code jP 21 41 = some (.iconst 2) := rfl
set_option maxRecDepth 100000 in
theorem xb201_42 : j_code jP 21 42 = some (.idiv) := rfl
set_option maxRecDepth 100000 in
theorem xb201_43 : j_code jP 21 43 = some (.iastore) := rfl
set_option maxRecDepth 100000 in
theorem xb201_44 : j_code jP 21 44 = some (.iinc 2 1) := rfl
set_option maxRecDepth 100000 in
theorem xb201_47 : j_code jP 21 47 = some (.goto (-45)) := rfl
set_option maxRecDepth 100000 in
theorem xb201_50 : j_code jP 21 50 = some (.aload_n 0) := rfl
set_option maxRecDepth 100000 in
theorem xb201_51 : j_code jP 21 51 = some (.getfield 55) := rfl
set_option maxRecDepth 100000 in
theorem xb201_54 : j_code jP 21 54 = some (.iload_n 1) := rfl
set_option maxRecDepth 100000 in
theorem xb201_55 : j_code jP 21 55 = some (.aload_n 0) := rfl
set_option maxRecDepth 100000 in
theorem xb201_56 : j_code jP 21 56 = some (.iload_n 1) := rfl
set_option maxRecDepth 100000 in
theorem xb201_57 : j_code jP 21 57 = some (.aload_n 0) := rfl
set_option maxRecDepth 100000 in
theorem xb201_58 : j_code jP 21 58 = some (.getfield 34) := rfl
set_option maxRecDepth 100000 in
theorem xb201_61 : j_code jP 21 61 = some (.iload_n 1) := rfl
set_option maxRecDepth 100000 in
theorem xb201_62 : j_code jP 21 62 = some (.iaload) := rfl
set_option maxRecDepth 100000 in
theorem xb201_63 : j_code jP 21 63 = some (.invokevirtual 79) := rfl
set_option maxRecDepth 100000 in
theorem xb201_66 : j_code jP 21 66 = some (.iastore) := rfl
set_option maxRecDepth 100000 in
theorem xb201_67 : j_code jP 21 67 = some (.iconst 0) := rfl
set_option maxRecDepth 100000 in
theorem xb201_68 : j_code jP 21 68 = some (.istore_n 2) := rfl
set_option maxRecDepth 100000 in
theorem xb201_69 : j_code jP 21 69 = some (.iload_n 2) := rfl
set_option maxRecDepth 100000 in
theorem xb201_70 : j_code jP 21 70 = some (.aload_n 0) := rfl
set_option maxRecDepth 100000 in
theorem xb201_71 : j_code jP 21 71 = some (.getfield 58) := rfl
set_option maxRecDepth 100000 in
theorem xb201_74 : j_code jP 21 74 = some (.if_icmp .ge 67) := rfl
set_option maxRecDepth 100000 in
theorem xb201_77 : j_code jP 21 77 = some (.iconst 0) := rfl
set_option maxRecDepth 100000 in
theorem xb201_78 : j_code jP 21 78 = some (.istore_n 3) := rfl
set_option maxRecDepth 100000 in
theorem xb201_79 : j_code jP 21 79 = some (.iload_n 2) := rfl
set_option maxRecDepth 100000 in
theorem xb201_80 : j_code jP 21 80 = some (.aload_n 0) := rfl
set_option maxRecDepth 100000 in
theorem xb201_81 : j_code jP 21 81 = some (.getfield 34) := rfl
set_option maxRecDepth 100000 in
theorem xb201_84 : j_code jP 21 84 = some (.iload_n 1) := rfl
set_option maxRecDepth 100000 in
theorem xb201_85 : j_code jP 21 85 = some (.iaload) := rfl
set_option maxRecDepth 100000 in
theorem xb201_86 : j_code jP 21 86 = some (.invokestatic 83) := rfl
set_option maxRecDepth 100000 in
theorem xb201_89 : j_code jP 21 89 = some (.iconst 1) := rfl
set_option maxRecDepth 100000 in
theorem xb201_90 : j_code jP 21 90 = some (.iadd) := rfl
set_option maxRecDepth 100000 in
theorem xb201_91 : j_code jP 21 91 = some (.istore 4) := rfl
set_option maxRecDepth 100000 in
theorem xb201_93 : j_code jP 21 93 = some (.iload 4) := rfl
set_option maxRecDepth 100000 in
theorem xb201_95 : j_code jP 21 95 = some (.iload_n 2) := rfl
set_option maxRecDepth 100000 in
theorem xb201_96 : j_code jP 21 96 = some (.aload_n 0) := rfl
set_option maxRecDepth 100000 in
theorem xb201_97 : j_code jP 21 97 = some (.getfield 34) := rfl
set_option maxRecDepth 100000 in
theorem xb201_100 : j_code jP 21 100 = some (.iload_n 1) := rfl
set_option maxRecDepth 100000 in
theorem xb201_101 : j_code jP 21 101 = some (.iaload) := rfl
set_option maxRecDepth 100000 in
theorem xb201_102 : j_code jP 21 102 = some (.invokestatic 88) := rfl
set_option maxRecDepth 100000 in
theorem xb201_105 : j_code jP 21 105 = some (.if_icmp .ge 18) := rfl
set_option maxRecDepth 100000 in
theorem xb201_108 : j_code jP 21 108 = some (.iload_n 3) := rfl
set_option maxRecDepth 100000 in
theorem xb201_109 : j_code jP 21 109 = some (.iconst 1) := rfl
set_option maxRecDepth 100000 in
theorem xb201_110 : j_code jP 21 110 = some (.iload 4) := rfl
set_option maxRecDepth 100000 in
theorem xb201_112 : j_code jP 21 112 = some (.iconst 3) := rfl
set_option maxRecDepth 100000 in
theorem xb201_113 : j_code jP 21 113 = some (.imul) := rfl
set_option maxRecDepth 100000 in
theorem xb201_114 : j_code jP 21 114 = some (.ishl) := rfl
set_option maxRecDepth 100000 in
theorem xb201_115 : j_code jP 21 115 = some (.ior) := rfl
set_option maxRecDepth 100000 in
theorem xb201_116 : j_code jP 21 116 = some (.istore_n 3) := rfl
set_option maxRecDepth 100000 in
theorem xb201_117 : j_code jP 21 117 = some (.iinc 4 1) := rfl
set_option maxRecDepth 100000 in
theorem xb201_120 : j_code jP 21 120 = some (.goto (-27)) := rfl
set_option maxRecDepth 100000 in
theorem xb201_123 : j_code jP 21 123 = some (.aload_n 0) := rfl
set_option maxRecDepth 100000 in
theorem xb201_124 : j_code jP 21 124 = some (.getfield 49) := rfl
set_option maxRecDepth 100000 in
theorem xb201_127 : j_code jP 21 127 = some (.iload_n 1) := rfl
set_option maxRecDepth 100000 in
theorem xb201_128 : j_code jP 21 128 = some (.bipush 7) := rfl
set_option maxRecDepth 100000 in
theorem xb201_130 : j_code jP 21 130 = some (.imul) := rfl
set_option maxRecDepth 100000 in
theorem xb201_131 : j_code jP 21 131 = some (.iload_n 2) := rfl
set_option maxRecDepth 100000 in
theorem xb201_132 : j_code jP 21 132 = some (.iadd) := rfl
set_option maxRecDepth 100000 in
theorem xb201_133 : j_code jP 21 133 = some (.iload_n 3) := rfl
set_option maxRecDepth 100000 in
theorem xb201_134 : j_code jP 21 134 = some (.iastore) := rfl
set_option maxRecDepth 100000 in
theorem xb201_135 : j_code jP 21 135 = some (.iinc 2 1) := rfl
set_option maxRecDepth 100000 in
theorem xb201_138 : j_code jP 21 138 = some (.goto (-69)) := rfl
set_option maxRecDepth 100000 in
theorem xb201_141 : j_code jP 21 141 = some (.return_) := rfl
set_option maxRecDepth 1000000 in
theorem xb201_ok_l69 {ns : Int32} {nt : Int32} {cel : Int32} {run : List Int32} {frm : List Int32} {tto : List Int32} {slo : List Int32} {v1 : Int32} {d : Nat} {h0 : J_H} : ∀ (f : Nat) (v2 : Int32) (rid : List Int32) (lon : List Int32) (way : List Int32) {lv : J_L} {h : J_H}, lpN ns v2 = f → LK lv [(0, .ref 343), (1, .int v1), (2, .int v2)] → KN h [(343, .inl (2, [.int ns, .ref 344, .ref 345, .ref 346, .ref 347, .int nt, .ref 348, .ref 349, .ref 350, .ref 351, .ref 352, .ref 353, .ref 354, .int cel, .ref 355, .ref 356, .ref 357, .ref 358])), (345, .inr (.inl (0, run))), (350, .inr (.inl (0, frm))), (351, .inr (.inl (0, tto))), (353, .inr (.inl (0, slo))), (356, .inr (.inl (0, way))), (357, .inr (.inl (0, rid))), (358, .inr (.inl (0, lon)))] h0 → j_V jP d 21 69 lv [] h (fun rv h' => rv = none ∧ KN h' [(343, .inl (2, [.int ns, .ref 344, .ref 345, .ref 346, .ref 347, .int nt, .ref 348, .ref 349, .ref 350, .ref 351, .ref 352, .ref 353, .ref 354, .int cel, .ref 355, .ref 356, .ref 357, .ref 358])), (345, .inr (.inl (0, run))), (350, .inr (.inl (0, frm))), (351, .inr (.inl (0, tto))), (353, .inr (.inl (0, slo))), (356, .inr (.inl (0, (x_settleWay_l69 tto v1 f v2 rid lon way).2.2))), (357, .inr (.inl (0, (x_settleWay_l69 tto v1 f v2 rid lon way).1))), (358, .inr (.inl (0, (x_settleWay_l69 tto v1 f v2 rid lon way).2.1)))] h0) := by
  intro f
  induction f with
  | zero =>
    intro v2 rid lon way lv h e L K
    refine j_V.ldL xb201_M xb201_69 rfl (i := 2) (kd := 0) (v := .int v2) (pcJ := 70) rfl L rfl rfl rfl ?_
    refine j_V.ldL xb201_M xb201_70 rfl (i := 0) (kd := 2) (v := .ref 343) (pcJ := 71) rfl L rfl rfl rfl ?_
    refine j_V.getK xb201_M xb201_71 (ci := 2) (j := 0) rfl K rfl rfl ?_
    refine j_V.icmp xb201_M xb201_74 (t := 141) rfl (fun c74_0 => ?_) (fun c74_0 => ?_)
    · replace c74_0 : ¬ (v2 < ns) := jd_ge c74_0
      refine j_V.ret xb201_M xb201_141 rfl rfl ?_
      rw [show (x_settleWay_l69 tto v1 0 v2 rid lon way) = _ from (rfl)]
      exact ⟨rfl, K⟩
    · replace c74_0 : v2 < ns := jd_gen c74_0
      exact absurd c74_0 (lpN_z e)
  | succ f ih =>
    intro v2 rid lon way lv h e L K
    refine j_V.ldL xb201_M xb201_69 rfl (i := 2) (kd := 0) (v := .int v2) (pcJ := 70) rfl L rfl rfl rfl ?_
    refine j_V.ldL xb201_M xb201_70 rfl (i := 0) (kd := 2) (v := .ref 343) (pcJ := 71) rfl L rfl rfl rfl ?_
    refine j_V.getK xb201_M xb201_71 (ci := 2) (j := 0) rfl K rfl rfl ?_
    refine j_V.icmp xb201_M xb201_74 (t := 141) rfl (fun c74_0 => ?_) (fun c74_0 => ?_)
    · replace c74_0 : ¬ (v2 < ns) := jd_ge c74_0
      exact absurd (lpN_s e) c74_0
    · replace c74_0 : v2 < ns := jd_gen c74_0
      refine j_V.one xb201_M xb201_77 (by decide) (pcJ := 78) (stJ := [.int 0]) rfl ?_
      refine j_V.stL xb201_M xb201_78 rfl (i := 3) (kd := 0) (kl' := [(0, .ref 343), (1, .int v1), (2, .int v2), (3, .int 0)]) (pcJ := 79) rfl L rfl (by decide) rfl rfl rfl (fun lv L => ?_)
      refine j_V.ldL xb201_M xb201_79 rfl (i := 2) (kd := 0) (v := .int v2) (pcJ := 80) rfl L rfl rfl rfl ?_
      refine j_V.ldL xb201_M xb201_80 rfl (i := 0) (kd := 2) (v := .ref 343) (pcJ := 81) rfl L rfl rfl rfl ?_
      refine j_V.getK xb201_M xb201_81 (ci := 2) (j := 9) rfl K rfl rfl ?_
      refine j_V.ldL xb201_M xb201_84 rfl (i := 1) (kd := 0) (v := .int v1) (pcJ := 85) rfl L rfl rfl rfl ?_
      refine j_V.iaA xb201_M xb201_85 K rfl ?_
      refine j_V.mn xb201_M xb201_86 rfl rfl (Nat.le_of_ble_eq_true rfl) ?_
      refine j_V.one xb201_M xb201_89 (by decide) (pcJ := 90) (stJ := [.int 1, .int (iMn v2 (gA tto v1))]) rfl ?_
      refine j_V.one xb201_M xb201_90 (by decide) (pcJ := 91) (stJ := [.int ((iMn v2 (gA tto v1)) + 1)]) rfl ?_
      refine j_V.stL xb201_M xb201_91 rfl (i := 4) (kd := 0) (kl' := [(0, .ref 343), (1, .int v1), (2, .int v2), (3, .int 0), (4, .int ((iMn v2 (gA tto v1)) + 1))]) (pcJ := 93) rfl L rfl (by decide) rfl rfl rfl (fun lv L => ?_)
      refine xbsw_in (K.fi [343, 351] rfl rfl) _ ((iMn v2 (gA tto v1)) + 1) 0 rfl L (fun lv L => ?_)
      refine j_V.ldL xb201_M xb201_123 rfl (i := 0) (kd := 2) (v := .ref 343) (pcJ := 124) rfl L rfl rfl rfl ?_
      refine j_V.getK xb201_M xb201_124 (ci := 2) (j := 15) rfl K rfl rfl ?_
      refine j_V.ldL xb201_M xb201_127 rfl (i := 1) (kd := 0) (v := .int v1) (pcJ := 128) rfl L rfl rfl rfl ?_
      refine j_V.one xb201_M xb201_128 (by decide) (pcJ := 130) (stJ := [.int 7, .int v1, .ref 356]) rfl ?_
      refine j_V.one xb201_M xb201_130 (by decide) (pcJ := 131) (stJ := [.int (v1 * 7), .ref 356]) rfl ?_
      refine j_V.ldL xb201_M xb201_131 rfl (i := 2) (kd := 0) (v := .int v2) (pcJ := 132) rfl L rfl rfl rfl ?_
      refine j_V.one xb201_M xb201_132 (by decide) (pcJ := 133) (stJ := [.int ((v1 * 7) + v2), .ref 356]) rfl ?_
      refine j_V.ldL xb201_M xb201_133 rfl (i := 3) (kd := 0) (v := .int (x_wayb (lpN (iMx v2 (gA tto v1)) ((iMn v2 (gA tto v1)) + 1)) ((iMn v2 (gA tto v1)) + 1) 0)) (pcJ := 134) rfl L rfl rfl rfl ?_
      refine j_V.isA xb201_M xb201_134 (k' := [(343, .inl (2, [.int ns, .ref 344, .ref 345, .ref 346, .ref 347, .int nt, .ref 348, .ref 349, .ref 350, .ref 351, .ref 352, .ref 353, .ref 354, .int cel, .ref 355, .ref 356, .ref 357, .ref 358])), (345, .inr (.inl (0, run))), (350, .inr (.inl (0, frm))), (351, .inr (.inl (0, tto))), (353, .inr (.inl (0, slo))), (356, .inr (.inl (0, (sA way ((v1 * 7) + v2) (x_wayb (lpN (iMx v2 (gA tto v1)) ((iMn v2 (gA tto v1)) + 1)) ((iMn v2 (gA tto v1)) + 1) 0))))), (357, .inr (.inl (0, rid))), (358, .inr (.inl (0, lon)))]) K rfl rfl (fun h K => ?_)
      obtain ⟨way1, eway1⟩ : ∃ z, z = (sA way ((v1 * 7) + v2) (x_wayb (lpN (iMx v2 (gA tto v1)) ((iMn v2 (gA tto v1)) + 1)) ((iMn v2 (gA tto v1)) + 1) 0)) := ⟨_, rfl⟩
      rw [← eway1] at K
      refine j_V.inL xb201_M xb201_135 (i := 2) (kl' := [(0, .ref 343), (1, .int v1), (2, .int (v2 + 1)), (3, .int (x_wayb (lpN (iMx v2 (gA tto v1)) ((iMn v2 (gA tto v1)) + 1)) ((iMn v2 (gA tto v1)) + 1) 0))]) (pcJ := 138) L rfl rfl rfl rfl (fun lv L => ?_)
      refine j_V.gto xb201_M xb201_138 (t := 69) rfl ?_
      subst eway1
      rw [show (x_settleWay_l69 tto v1 (f + 1) v2 rid lon way) = _ from (rfl)]
      exact ih _ _ _ _ (lpN_n e) (L.sub ⟨rfl, rfl, rfl, trivial⟩) K
set_option maxRecDepth 1000000 in
theorem xb201_ok_l2 {ns : Int32} {nt : Int32} {cel : Int32} {run : List Int32} {frm : List Int32} {tto : List Int32} {slo : List Int32} {v1 : Int32} {d : Nat} {h0 : J_H} : ∀ (f : Nat) (v2 : Int32) (rid : List Int32) (lon : List Int32) (way : List Int32) {lv : J_L} {h : J_H}, lpN (ns - 1) v2 = f → LK lv [(0, .ref 343), (1, .int v1), (2, .int v2)] → KN h [(343, .inl (2, [.int ns, .ref 344, .ref 345, .ref 346, .ref 347, .int nt, .ref 348, .ref 349, .ref 350, .ref 351, .ref 352, .ref 353, .ref 354, .int cel, .ref 355, .ref 356, .ref 357, .ref 358])), (345, .inr (.inl (0, run))), (350, .inr (.inl (0, frm))), (351, .inr (.inl (0, tto))), (353, .inr (.inl (0, slo))), (356, .inr (.inl (0, way))), (357, .inr (.inl (0, rid))), (358, .inr (.inl (0, lon)))] h0 → j_V jP d 21 2 lv [] h (fun rv h' => rv = none ∧ KN h' [(343, .inl (2, [.int ns, .ref 344, .ref 345, .ref 346, .ref 347, .int nt, .ref 348, .ref 349, .ref 350, .ref 351, .ref 352, .ref 353, .ref 354, .int cel, .ref 355, .ref 356, .ref 357, .ref 358])), (345, .inr (.inl (0, run))), (350, .inr (.inl (0, frm))), (351, .inr (.inl (0, tto))), (353, .inr (.inl (0, slo))), (356, .inr (.inl (0, (x_settleWay_l2 ns run frm tto slo v1 f v2 rid lon way).2.2))), (357, .inr (.inl (0, (x_settleWay_l2 ns run frm tto slo v1 f v2 rid lon way).1))), (358, .inr (.inl (0, (x_settleWay_l2 ns run frm tto slo v1 f v2 rid lon way).2.1)))] h0) := by
  intro f
  induction f with
  | zero =>
    intro v2 rid lon way lv h e L K
    refine j_V.ldL xb201_M xb201_2 rfl (i := 2) (kd := 0) (v := .int v2) (pcJ := 3) rfl L rfl rfl rfl ?_
    refine j_V.ldL xb201_M xb201_3 rfl (i := 0) (kd := 2) (v := .ref 343) (pcJ := 4) rfl L rfl rfl rfl ?_
    refine j_V.getK xb201_M xb201_4 (ci := 2) (j := 0) rfl K rfl rfl ?_
    refine j_V.one xb201_M xb201_7 (by decide) (pcJ := 8) (stJ := [.int 1, .int ns, .int v2]) rfl ?_
    refine j_V.one xb201_M xb201_8 (by decide) (pcJ := 9) (stJ := [.int (ns - 1), .int v2]) rfl ?_
    refine j_V.icmp xb201_M xb201_9 (t := 50) rfl (fun c9_0 => ?_) (fun c9_0 => ?_)
    · replace c9_0 : ¬ (v2 < (ns - 1)) := jd_ge c9_0
      refine j_V.ldL xb201_M xb201_50 rfl (i := 0) (kd := 2) (v := .ref 343) (pcJ := 51) rfl L rfl rfl rfl ?_
      refine j_V.getK xb201_M xb201_51 (ci := 2) (j := 17) rfl K rfl rfl ?_
      refine j_V.ldL xb201_M xb201_54 rfl (i := 1) (kd := 0) (v := .int v1) (pcJ := 55) rfl L rfl rfl rfl ?_
      refine j_V.ldL xb201_M xb201_55 rfl (i := 0) (kd := 2) (v := .ref 343) (pcJ := 56) rfl L rfl rfl rfl ?_
      refine j_V.ldL xb201_M xb201_56 rfl (i := 1) (kd := 0) (v := .int v1) (pcJ := 57) rfl L rfl rfl rfl ?_
      refine j_V.ldL xb201_M xb201_57 rfl (i := 0) (kd := 2) (v := .ref 343) (pcJ := 58) rfl L rfl rfl rfl ?_
      refine j_V.getK xb201_M xb201_58 (ci := 2) (j := 9) rfl K rfl rfl ?_
      refine j_V.ldL xb201_M xb201_61 rfl (i := 1) (kd := 0) (v := .int v1) (pcJ := 62) rfl L rfl rfl rfl ?_
      refine j_V.iaA xb201_M xb201_62 K rfl ?_
      refine j_V.cl xb201_M xb201_63 rfl (md := 3) (mj := 22) rfl (by decide) xb01_M (As := [.ref 343, .int v1, .int (gA tto v1)]) (rest := [.int v1, .ref 358]) (jk_spl3 (K.at rfl) rfl rfl rfl (Nat.le_of_ble_eq_true rfl) (Nat.le_of_ble_eq_true rfl)) (fun d => xb01_ok (K.fi [343, 350, 357] rfl rfl)) ?_
      rintro r hz ⟨rfl, ez⟩
      rw [ez]
      clear ez
      show j_V jP _ 21 66 lv [.int (x_rideTo frm rid v1 (gA tto v1)), .int v1, .ref 358] h _
      refine j_V.isA xb201_M xb201_66 (k' := [(343, .inl (2, [.int ns, .ref 344, .ref 345, .ref 346, .ref 347, .int nt, .ref 348, .ref 349, .ref 350, .ref 351, .ref 352, .ref 353, .ref 354, .int cel, .ref 355, .ref 356, .ref 357, .ref 358])), (345, .inr (.inl (0, run))), (350, .inr (.inl (0, frm))), (351, .inr (.inl (0, tto))), (353, .inr (.inl (0, slo))), (356, .inr (.inl (0, way))), (357, .inr (.inl (0, rid))), (358, .inr (.inl (0, (sA lon v1 (x_rideTo frm rid v1 (gA tto v1))))))]) K rfl rfl (fun h K => ?_)
      obtain ⟨lon1, elon1⟩ : ∃ z, z = (sA lon v1 (x_rideTo frm rid v1 (gA tto v1))) := ⟨_, rfl⟩
      rw [← elon1] at K
      refine j_V.one xb201_M xb201_67 (by decide) (pcJ := 68) (stJ := [.int 0]) rfl ?_
      refine j_V.stL xb201_M xb201_68 rfl (i := 2) (kd := 0) (kl' := [(0, .ref 343), (1, .int v1), (2, .int 0)]) (pcJ := 69) rfl L rfl (by decide) rfl rfl rfl (fun lv L => ?_)
      subst elon1
      rw [show (x_settleWay_l2 ns run frm tto slo v1 0 v2 rid lon way) = _ from (rfl)]
      exact xb201_ok_l69 _ _ _ _ _ rfl L K
    · replace c9_0 : v2 < (ns - 1) := jd_gen c9_0
      exact absurd c9_0 (lpN_z e)
  | succ f ih =>
    intro v2 rid lon way lv h e L K
    refine j_V.ldL xb201_M xb201_2 rfl (i := 2) (kd := 0) (v := .int v2) (pcJ := 3) rfl L rfl rfl rfl ?_
    refine j_V.ldL xb201_M xb201_3 rfl (i := 0) (kd := 2) (v := .ref 343) (pcJ := 4) rfl L rfl rfl rfl ?_
    refine j_V.getK xb201_M xb201_4 (ci := 2) (j := 0) rfl K rfl rfl ?_
    refine j_V.one xb201_M xb201_7 (by decide) (pcJ := 8) (stJ := [.int 1, .int ns, .int v2]) rfl ?_
    refine j_V.one xb201_M xb201_8 (by decide) (pcJ := 9) (stJ := [.int (ns - 1), .int v2]) rfl ?_
    refine j_V.icmp xb201_M xb201_9 (t := 50) rfl (fun c9_0 => ?_) (fun c9_0 => ?_)
    · replace c9_0 : ¬ (v2 < (ns - 1)) := jd_ge c9_0
      exact absurd (lpN_s e) c9_0
    · replace c9_0 : v2 < (ns - 1) := jd_gen c9_0
      refine j_V.ldL xb201_M xb201_12 rfl (i := 0) (kd := 2) (v := .ref 343) (pcJ := 13) rfl L rfl rfl rfl ?_
      refine j_V.getK xb201_M xb201_13 (ci := 2) (j := 16) rfl K rfl rfl ?_
      refine j_V.ldL xb201_M xb201_16 rfl (i := 1) (kd := 0) (v := .int v1) (pcJ := 17) rfl L rfl rfl rfl ?_
      refine j_V.one xb201_M xb201_17 (by decide) (pcJ := 19) (stJ := [.int 6, .int v1, .ref 357]) rfl ?_
      refine j_V.one xb201_M xb201_19 (by decide) (pcJ := 20) (stJ := [.int (v1 * 6), .ref 357]) rfl ?_
      refine j_V.ldL xb201_M xb201_20 rfl (i := 2) (kd := 0) (v := .int v2) (pcJ := 21) rfl L rfl rfl rfl ?_
      refine j_V.one xb201_M xb201_21 (by decide) (pcJ := 22) (stJ := [.int ((v1 * 6) + v2), .ref 357]) rfl ?_
      refine j_V.ldL xb201_M xb201_22 rfl (i := 0) (kd := 2) (v := .ref 343) (pcJ := 23) rfl L rfl rfl rfl ?_
      refine j_V.getK xb201_M xb201_23 (ci := 2) (j := 2) rfl K rfl rfl ?_
      refine j_V.ldL xb201_M xb201_26 rfl (i := 2) (kd := 0) (v := .int v2) (pcJ := 27) rfl L rfl rfl rfl ?_
      refine j_V.one xb201_M xb201_27 (by decide) (pcJ := 28) (stJ := [.int 1, .int v2, .ref 345, .int ((v1 * 6) + v2), .ref 357]) rfl ?_
      refine j_V.one xb201_M xb201_28 (by decide) (pcJ := 29) (stJ := [.int (v2 + 1), .ref 345, .int ((v1 * 6) + v2), .ref 357]) rfl ?_
      refine j_V.iaA xb201_M xb201_29 K rfl ?_
      refine j_V.one xb201_M xb201_30 (by decide) (pcJ := 31) (stJ := [.int 2, .int (gA run (v2 + 1)), .int ((v1 * 6) + v2), .ref 357]) rfl ?_
      refine j_V.ldL xb201_M xb201_31 rfl (i := 0) (kd := 2) (v := .ref 343) (pcJ := 32) rfl L rfl rfl rfl ?_
      refine j_V.getK xb201_M xb201_32 (ci := 2) (j := 11) rfl K rfl rfl ?_
      refine j_V.ldL xb201_M xb201_35 rfl (i := 1) (kd := 0) (v := .int v1) (pcJ := 36) rfl L rfl rfl rfl ?_
      refine j_V.iaA xb201_M xb201_36 K rfl ?_
      refine j_V.one xb201_M xb201_37 (by decide) (pcJ := 38) (stJ := [.int (2 + (gA slo v1)), .int (gA run (v2 + 1)), .int ((v1 * 6) + v2), .ref 357]) rfl ?_
      refine j_V.one xb201_M xb201_38 (by decide) (pcJ := 39) (stJ := [.int ((gA run (v2 + 1)) * (2 + (gA slo v1))), .int ((v1 * 6) + v2), .ref 357]) rfl ?_
      refine j_V.one xb201_M xb201_39 (by decide) (pcJ := 40) (stJ := [.int 1, .int ((gA run (v2 + 1)) * (2 + (gA slo v1))), .int ((v1 * 6) + v2), .ref 357]) rfl ?_
      refine j_V.one xb201_M xb201_40 (by decide) (pcJ := 41) (stJ := [.int (((gA run (v2 + 1)) * (2 + (gA slo v1))) + 1), .int ((v1 * 6) + v2), .ref 357]) rfl ?_
      refine j_V.one xb201_M xb201_41 (by decide) (pcJ := 42) (stJ := [.int 2, .int (((gA run (v2 + 1)) * (2 + (gA slo v1))) + 1), .int ((v1 * 6) + v2), .ref 357]) rfl ?_
      refine j_V.one xb201_M xb201_42 (by decide) (pcJ := 43) (stJ := [.int ((((gA run (v2 + 1)) * (2 + (gA slo v1))) + 1) / 2), .int ((v1 * 6) + v2), .ref 357]) rfl ?_
      refine j_V.isA xb201_M xb201_43 (k' := [(343, .inl (2, [.int ns, .ref 344, .ref 345, .ref 346, .ref 347, .int nt, .ref 348, .ref 349, .ref 350, .ref 351, .ref 352, .ref 353, .ref 354, .int cel, .ref 355, .ref 356, .ref 357, .ref 358])), (345, .inr (.inl (0, run))), (350, .inr (.inl (0, frm))), (351, .inr (.inl (0, tto))), (353, .inr (.inl (0, slo))), (356, .inr (.inl (0, way))), (357, .inr (.inl (0, (sA rid ((v1 * 6) + v2) ((((gA run (v2 + 1)) * (2 + (gA slo v1))) + 1) / 2))))), (358, .inr (.inl (0, lon)))]) K rfl rfl (fun h K => ?_)
      obtain ⟨rid1, erid1⟩ : ∃ z, z = (sA rid ((v1 * 6) + v2) ((((gA run (v2 + 1)) * (2 + (gA slo v1))) + 1) / 2)) := ⟨_, rfl⟩
      rw [← erid1] at K
      refine j_V.inL xb201_M xb201_44 (i := 2) (kl' := [(0, .ref 343), (1, .int v1), (2, .int (v2 + 1))]) (pcJ := 47) L rfl rfl rfl rfl (fun lv L => ?_)
      refine j_V.gto xb201_M xb201_47 (t := 2) rfl ?_
      subst erid1
      rw [show (x_settleWay_l2 ns run frm tto slo v1 (f + 1) v2 rid lon way) = _ from (rfl)]
      exact ih _ _ _ _ (lpN_n e) L K
set_option maxRecDepth 1000000 in
theorem xb201_ok {ns : Int32} {nt : Int32} {cel : Int32} {run : List Int32} {frm : List Int32} {tto : List Int32} {slo : List Int32} {way : List Int32} {rid : List Int32} {lon : List Int32} {x1 : Int32} {d : Nat} {h h0 : J_H} (K : KN h [(343, .inl (2, [.int ns, .ref 344, .ref 345, .ref 346, .ref 347, .int nt, .ref 348, .ref 349, .ref 350, .ref 351, .ref 352, .ref 353, .ref 354, .int cel, .ref 355, .ref 356, .ref 357, .ref 358])), (345, .inr (.inl (0, run))), (350, .inr (.inl (0, frm))), (351, .inr (.inl (0, tto))), (353, .inr (.inl (0, slo))), (356, .inr (.inl (0, way))), (357, .inr (.inl (0, rid))), (358, .inr (.inl (0, lon)))] h0) : j_V jP d 21 0 (lv_args 0 [.ref 343, .int x1]) [] h (fun rv h' => rv = none ∧ KN h' [(343, .inl (2, [.int ns, .ref 344, .ref 345, .ref 346, .ref 347, .int nt, .ref 348, .ref 349, .ref 350, .ref 351, .ref 352, .ref 353, .ref 354, .int cel, .ref 355, .ref 356, .ref 357, .ref 358])), (345, .inr (.inl (0, run))), (350, .inr (.inl (0, frm))), (351, .inr (.inl (0, tto))), (353, .inr (.inl (0, slo))), (356, .inr (.inl (0, (x_settleWay ns run frm tto slo way rid lon x1).2.2))), (357, .inr (.inl (0, (x_settleWay ns run frm tto slo way rid lon x1).1))), (358, .inr (.inl (0, (x_settleWay ns run frm tto slo way rid lon x1).2.1)))] h0) := by
  show j_V jP d 21 0 [(0, .ref 343), (1, .int x1)] [] h _
  obtain ⟨lv, elv, L⟩ : ∃ lv, lv = [(0, .ref 343), (1, .int x1)] ∧ LK lv [(0, .ref 343), (1, .int x1)] := ⟨_, rfl, LK.rf⟩
  rw [← elv]
  clear elv
  refine j_V.one xb201_M xb201_0 (by decide) (pcJ := 1) (stJ := [.int 0]) rfl ?_
  refine j_V.stL xb201_M xb201_1 rfl (i := 2) (kd := 0) (kl' := [(0, .ref 343), (1, .int x1), (2, .int 0)]) (pcJ := 2) rfl L rfl (by decide) rfl rfl rfl (fun lv L => ?_)
  rw [show (x_settleWay ns run frm tto slo way rid lon x1) = _ from (rfl)]
  exact xb201_ok_l2 _ _ _ _ _ rfl L K
set_option maxRecDepth 100000 in
theorem xb202_M : j_meth jP 19 = some (yX2_settle, cX2_settle, 2, none, 0, false, 2) := rfl
set_option maxRecDepth 100000 in
theorem xb202_0 : j_code jP 19 0 = some (.aload_n 0) := rfl
set_option maxRecDepth 100000 in
theorem xb202_1 : j_code jP 19 1 = some (.iconst 0) := rfl
set_option maxRecDepth 100000 in
theorem xb202_2 : j_code jP 19 2 = some (.putfield 65) := rfl
set_option maxRecDepth 100000 in
theorem xb202_5 : j_code jP 19 5 = some (.iconst 0) := rfl
set_option maxRecDepth 100000 in
theorem xb202_6 : j_code jP 19 6 = some (.istore_n 1) := rfl
set_option maxRecDepth 100000 in
theorem xb202_7 : j_code jP 19 7 = some (.iload_n 1) := rfl
set_option maxRecDepth 100000 in
theorem xb202_8 : j_code jP 19 8 = some (.aload_n 0) := rfl
set_option maxRecDepth 100000 in
theorem xb202_9 : j_code jP 19 9 = some (.getfield 58) := rfl
set_option maxRecDepth 100000 in
theorem xb202_12 : j_code jP 19 12 = some (.if_icmp .ge 23) := rfl
set_option maxRecDepth 100000 in
theorem xb202_15 : j_code jP 19 15 = some (.aload_n 0) := rfl
set_option maxRecDepth 100000 in
theorem xb202_16 : j_code jP 19 16 = some (.dup) := rfl
set_option maxRecDepth 100000 in
theorem xb202_17 : j_code jP 19 17 = some (.getfield 65) := rfl
set_option maxRecDepth 100000 in
theorem xb202_20 : j_code jP 19 20 = some (.aload_n 0) := rfl
set_option maxRecDepth 100000 in
theorem xb202_21 : j_code jP 19 21 = some (.iload_n 1) := rfl
set_option maxRecDepth 100000 in
theorem xb202_22 : j_code jP 19 22 = some (.invokevirtual 68) := rfl
set_option maxRecDepth 100000 in
theorem xb202_25 : j_code jP 19 25 = some (.ior) := rfl
set_option maxRecDepth 100000 in
theorem xb202_26 : j_code jP 19 26 = some (.putfield 65) := rfl
set_option maxRecDepth 100000 in
theorem xb202_29 : j_code jP 19 29 = some (.iinc 1 1) := rfl
set_option maxRecDepth 100000 in
theorem xb202_32 : j_code jP 19 32 = some (.goto (-25)) := rfl
set_option maxRecDepth 100000 in
theorem xb202_35 : j_code jP 19 35 = some (.iconst 0) := rfl
set_option maxRecDepth 100000 in
theorem xb202_36 : j_code jP 19 36 = some (.istore_n 1) := rfl
set_option maxRecDepth 100000 in
theorem xb202_37 : j_code jP 19 37 = some (.iload_n 1) := rfl
set_option maxRecDepth 100000 in
theorem xb202_38 : j_code jP 19 38 = some (.aload_n 0) := rfl
set_option maxRecDepth 100000 in
theorem xb202_39 : j_code jP 19 39 = some (.getfield 62) := rfl
set_option maxRecDepth 100000 in
theorem xb202_42 : j_code jP 19 42 = some (.if_icmp .ge 19) := rfl
set_option maxRecDepth 100000 in
theorem xb202_45 : j_code jP 19 45 = some (.aload_n 0) := rfl
set_option maxRecDepth 100000 in
theorem xb202_46 : j_code jP 19 46 = some (.iload_n 1) := rfl
set_option maxRecDepth 100000 in
theorem xb202_47 : j_code jP 19 47 = some (.invokevirtual 72) := rfl
set_option maxRecDepth 100000 in
theorem xb202_50 : j_code jP 19 50 = some (.aload_n 0) := rfl
set_option maxRecDepth 100000 in
theorem xb202_51 : j_code jP 19 51 = some (.iload_n 1) := rfl
set_option maxRecDepth 100000 in
theorem xb202_52 : j_code jP 19 52 = some (.invokevirtual 76) := rfl
set_option maxRecDepth 100000 in
theorem xb202_55 : j_code jP 19 55 = some (.iinc 1 1) := rfl
set_option maxRecDepth 100000 in
theorem xb202_58 : j_code jP 19 58 = some (.goto (-21)) := rfl
set_option maxRecDepth 100000 in
theorem xb202_61 : j_code jP 19 61 = some (.return_) := rfl
set_option maxRecDepth 1000000 in
theorem xb202_ok_l37 {ns : Int32} {nt : Int32} {run : List Int32} {tra : List Int32} {len : List Int32} {siz : List Int32} {frm : List Int32} {tto : List Int32} {slo : List Int32} {d : Nat} {h0 : J_H} : ∀ (f : Nat) (v1 : Int32) (cel : Int32) (fit : List Int32) (rid : List Int32) (lon : List Int32) (way : List Int32) {lv : J_L} {h : J_H}, lpN nt v1 = f → LK lv [(0, .ref 343), (1, .int v1)] → KN h [(343, .inl (2, [.int ns, .ref 344, .ref 345, .ref 346, .ref 347, .int nt, .ref 348, .ref 349, .ref 350, .ref 351, .ref 352, .ref 353, .ref 354, .int cel, .ref 355, .ref 356, .ref 357, .ref 358])), (345, .inr (.inl (0, run))), (346, .inr (.inl (0, tra))), (347, .inr (.inl (0, len))), (349, .inr (.inl (0, siz))), (350, .inr (.inl (0, frm))), (351, .inr (.inl (0, tto))), (353, .inr (.inl (0, slo))), (355, .inr (.inl (0, fit))), (356, .inr (.inl (0, way))), (357, .inr (.inl (0, rid))), (358, .inr (.inl (0, lon)))] h0 → j_V jP d 19 37 lv [] h (fun rv h' => rv = none ∧ KN h' [(343, .inl (2, [.int ns, .ref 344, .ref 345, .ref 346, .ref 347, .int nt, .ref 348, .ref 349, .ref 350, .ref 351, .ref 352, .ref 353, .ref 354, .int (x_settle_l37 ns run len siz frm tto slo f v1 cel fit rid lon way).1, .ref 355, .ref 356, .ref 357, .ref 358])), (345, .inr (.inl (0, run))), (346, .inr (.inl (0, tra))), (347, .inr (.inl (0, len))), (349, .inr (.inl (0, siz))), (350, .inr (.inl (0, frm))), (351, .inr (.inl (0, tto))), (353, .inr (.inl (0, slo))), (355, .inr (.inl (0, (x_settle_l37 ns run len siz frm tto slo f v1 cel fit rid lon way).2.1))), (356, .inr (.inl (0, (x_settle_l37 ns run len siz frm tto slo f v1 cel fit rid lon way).2.2.2.2))), (357, .inr (.inl (0, (x_settle_l37 ns run len siz frm tto slo f v1 cel fit rid lon way).2.2.1))), (358, .inr (.inl (0, (x_settle_l37 ns run len siz frm tto slo f v1 cel fit rid lon way).2.2.2.1)))] h0) := by
  intro f
  induction f with
  | zero =>
    intro v1 cel fit rid lon way lv h e L K
    refine j_V.ldL xb202_M xb202_37 rfl (i := 1) (kd := 0) (v := .int v1) (pcJ := 38) rfl L rfl rfl rfl ?_
    refine j_V.ldL xb202_M xb202_38 rfl (i := 0) (kd := 2) (v := .ref 343) (pcJ := 39) rfl L rfl rfl rfl ?_
    refine j_V.getK xb202_M xb202_39 (ci := 2) (j := 5) rfl K rfl rfl ?_
    refine j_V.icmp xb202_M xb202_42 (t := 61) rfl (fun c42_0 => ?_) (fun c42_0 => ?_)
    · replace c42_0 : ¬ (v1 < nt) := jd_ge c42_0
      refine j_V.ret xb202_M xb202_61 rfl rfl ?_
      rw [show (x_settle_l37 ns run len siz frm tto slo 0 v1 cel fit rid lon way) = _ from (rfl)]
      exact ⟨rfl, K⟩
    · replace c42_0 : v1 < nt := jd_gen c42_0
      exact absurd c42_0 (lpN_z e)
  | succ f ih =>
    intro v1 cel fit rid lon way lv h e L K
    refine j_V.ldL xb202_M xb202_37 rfl (i := 1) (kd := 0) (v := .int v1) (pcJ := 38) rfl L rfl rfl rfl ?_
    refine j_V.ldL xb202_M xb202_38 rfl (i := 0) (kd := 2) (v := .ref 343) (pcJ := 39) rfl L rfl rfl rfl ?_
    refine j_V.getK xb202_M xb202_39 (ci := 2) (j := 5) rfl K rfl rfl ?_
    refine j_V.icmp xb202_M xb202_42 (t := 61) rfl (fun c42_0 => ?_) (fun c42_0 => ?_)
    · replace c42_0 : ¬ (v1 < nt) := jd_ge c42_0
      exact absurd (lpN_s e) c42_0
    · replace c42_0 : v1 < nt := jd_gen c42_0
      refine j_V.ldL xb202_M xb202_45 rfl (i := 0) (kd := 2) (v := .ref 343) (pcJ := 46) rfl L rfl rfl rfl ?_
      refine j_V.ldL xb202_M xb202_46 rfl (i := 1) (kd := 0) (v := .int v1) (pcJ := 47) rfl L rfl rfl rfl ?_
      refine j_V.cl xb202_M xb202_47 rfl (md := 3) (mj := 20) rfl (by decide) xb200_M (As := [.ref 343, .int v1]) (rest := []) (jk_spl3 (K.at rfl) rfl rfl rfl (Nat.le_of_ble_eq_true rfl) (Nat.le_of_ble_eq_true rfl)) (fun d => xb200_ok (K.fi [343, 347, 349, 355] rfl rfl)) ?_
      rintro r h9 ⟨rfl, K9⟩
      generalize ez1 : (x_settleFit cel len siz fit v1) = z1 at K9 ⊢
      have K : KN h9 [(343, .inl (2, [.int ns, .ref 344, .ref 345, .ref 346, .ref 347, .int nt, .ref 348, .ref 349, .ref 350, .ref 351, .ref 352, .ref 353, .ref 354, .int cel, .ref 355, .ref 356, .ref 357, .ref 358])), (345, .inr (.inl (0, run))), (346, .inr (.inl (0, tra))), (347, .inr (.inl (0, len))), (349, .inr (.inl (0, siz))), (350, .inr (.inl (0, frm))), (351, .inr (.inl (0, tto))), (353, .inr (.inl (0, slo))), (355, .inr (.inl (0, (z1)))), (356, .inr (.inl (0, way))), (357, .inr (.inl (0, rid))), (358, .inr (.inl (0, lon)))] h0 := K.mg K9 rfl rfl
      clear K9
      show j_V jP _ 19 50 lv [] h9 _
      refine j_V.ldL xb202_M xb202_50 rfl (i := 0) (kd := 2) (v := .ref 343) (pcJ := 51) rfl L rfl rfl rfl ?_
      refine j_V.ldL xb202_M xb202_51 rfl (i := 1) (kd := 0) (v := .int v1) (pcJ := 52) rfl L rfl rfl rfl ?_
      refine j_V.cl xb202_M xb202_52 rfl (md := 3) (mj := 21) rfl (by decide) xb201_M (As := [.ref 343, .int v1]) (rest := []) (jk_spl3 (K.at rfl) rfl rfl rfl (Nat.le_of_ble_eq_true rfl) (Nat.le_of_ble_eq_true rfl)) (fun d => xb201_ok (K.fi [343, 345, 350, 351, 353, 356, 357, 358] rfl rfl)) ?_
      rintro r h9 ⟨rfl, K9⟩
      generalize ez2 : (x_settleWay ns run frm tto slo way rid lon v1) = z2 at K9 ⊢
      have K : KN h9 [(343, .inl (2, [.int ns, .ref 344, .ref 345, .ref 346, .ref 347, .int nt, .ref 348, .ref 349, .ref 350, .ref 351, .ref 352, .ref 353, .ref 354, .int cel, .ref 355, .ref 356, .ref 357, .ref 358])), (345, .inr (.inl (0, run))), (346, .inr (.inl (0, tra))), (347, .inr (.inl (0, len))), (349, .inr (.inl (0, siz))), (350, .inr (.inl (0, frm))), (351, .inr (.inl (0, tto))), (353, .inr (.inl (0, slo))), (355, .inr (.inl (0, (z1)))), (356, .inr (.inl (0, (z2.2.2)))), (357, .inr (.inl (0, (z2.1)))), (358, .inr (.inl (0, (z2.2.1))))] h0 := K.mg K9 rfl rfl
      clear K9
      show j_V jP _ 19 55 lv [] h9 _
      refine j_V.inL xb202_M xb202_55 (i := 1) (kl' := [(0, .ref 343), (1, .int (v1 + 1))]) (pcJ := 58) L rfl rfl rfl rfl (fun lv L => ?_)
      refine j_V.gto xb202_M xb202_58 (t := 37) rfl ?_
      subst ez2
      subst ez1
      rw [show (x_settle_l37 ns run len siz frm tto slo (f + 1) v1 cel fit rid lon way) = _ from (rfl)]
      exact ih _ _ _ _ _ _ (lpN_n e) L K
set_option maxRecDepth 1000000 in
theorem xb202_ok_l7 {ns : Int32} {nt : Int32} {run : List Int32} {tra : List Int32} {len : List Int32} {siz : List Int32} {frm : List Int32} {tto : List Int32} {slo : List Int32} {d : Nat} {h0 : J_H} : ∀ (f : Nat) (v1 : Int32) (cel : Int32) (fit : List Int32) (rid : List Int32) (lon : List Int32) (way : List Int32) {lv : J_L} {h : J_H}, lpN ns v1 = f → LK lv [(0, .ref 343), (1, .int v1)] → KN h [(343, .inl (2, [.int ns, .ref 344, .ref 345, .ref 346, .ref 347, .int nt, .ref 348, .ref 349, .ref 350, .ref 351, .ref 352, .ref 353, .ref 354, .int cel, .ref 355, .ref 356, .ref 357, .ref 358])), (345, .inr (.inl (0, run))), (346, .inr (.inl (0, tra))), (347, .inr (.inl (0, len))), (349, .inr (.inl (0, siz))), (350, .inr (.inl (0, frm))), (351, .inr (.inl (0, tto))), (353, .inr (.inl (0, slo))), (355, .inr (.inl (0, fit))), (356, .inr (.inl (0, way))), (357, .inr (.inl (0, rid))), (358, .inr (.inl (0, lon)))] h0 → j_V jP d 19 7 lv [] h (fun rv h' => rv = none ∧ KN h' [(343, .inl (2, [.int ns, .ref 344, .ref 345, .ref 346, .ref 347, .int nt, .ref 348, .ref 349, .ref 350, .ref 351, .ref 352, .ref 353, .ref 354, .int (x_settle_l7 ns nt run tra len siz frm tto slo f v1 cel fit rid lon way).1, .ref 355, .ref 356, .ref 357, .ref 358])), (345, .inr (.inl (0, run))), (346, .inr (.inl (0, tra))), (347, .inr (.inl (0, len))), (349, .inr (.inl (0, siz))), (350, .inr (.inl (0, frm))), (351, .inr (.inl (0, tto))), (353, .inr (.inl (0, slo))), (355, .inr (.inl (0, (x_settle_l7 ns nt run tra len siz frm tto slo f v1 cel fit rid lon way).2.1))), (356, .inr (.inl (0, (x_settle_l7 ns nt run tra len siz frm tto slo f v1 cel fit rid lon way).2.2.2.2))), (357, .inr (.inl (0, (x_settle_l7 ns nt run tra len siz frm tto slo f v1 cel fit rid lon way).2.2.1))), (358, .inr (.inl (0, (x_settle_l7 ns nt run tra len siz frm tto slo f v1 cel fit rid lon way).2.2.2.1)))] h0) := by
  intro f
  induction f with
  | zero =>
    intro v1 cel fit rid lon way lv h e L K
    refine j_V.ldL xb202_M xb202_7 rfl (i := 1) (kd := 0) (v := .int v1) (pcJ := 8) rfl L rfl rfl rfl ?_
    refine j_V.ldL xb202_M xb202_8 rfl (i := 0) (kd := 2) (v := .ref 343) (pcJ := 9) rfl L rfl rfl rfl ?_
    refine j_V.getK xb202_M xb202_9 (ci := 2) (j := 0) rfl K rfl rfl ?_
    refine j_V.icmp xb202_M xb202_12 (t := 35) rfl (fun c12_0 => ?_) (fun c12_0 => ?_)
    · replace c12_0 : ¬ (v1 < ns) := jd_ge c12_0
      refine j_V.one xb202_M xb202_35 (by decide) (pcJ := 36) (stJ := [.int 0]) rfl ?_
      refine j_V.stL xb202_M xb202_36 rfl (i := 1) (kd := 0) (kl' := [(0, .ref 343), (1, .int 0)]) (pcJ := 37) rfl L rfl (by decide) rfl rfl rfl (fun lv L => ?_)
      rw [show (x_settle_l7 ns nt run tra len siz frm tto slo 0 v1 cel fit rid lon way) = _ from (rfl)]
      exact xb202_ok_l37 _ _ _ _ _ _ _ rfl L K
    · replace c12_0 : v1 < ns := jd_gen c12_0
      exact absurd c12_0 (lpN_z e)
  | succ f ih =>
    intro v1 cel fit rid lon way lv h e L K
    refine j_V.ldL xb202_M xb202_7 rfl (i := 1) (kd := 0) (v := .int v1) (pcJ := 8) rfl L rfl rfl rfl ?_
    refine j_V.ldL xb202_M xb202_8 rfl (i := 0) (kd := 2) (v := .ref 343) (pcJ := 9) rfl L rfl rfl rfl ?_
    refine j_V.getK xb202_M xb202_9 (ci := 2) (j := 0) rfl K rfl rfl ?_
    refine j_V.icmp xb202_M xb202_12 (t := 35) rfl (fun c12_0 => ?_) (fun c12_0 => ?_)
    · replace c12_0 : ¬ (v1 < ns) := jd_ge c12_0
      exact absurd (lpN_s e) c12_0
    · replace c12_0 : v1 < ns := jd_gen c12_0
      refine j_V.ldL xb202_M xb202_15 rfl (i := 0) (kd := 2) (v := .ref 343) (pcJ := 16) rfl L rfl rfl rfl ?_
      refine j_V.one xb202_M xb202_16 (by decide) (pcJ := 17) (stJ := [.ref 343, .ref 343]) rfl ?_
      refine j_V.getK xb202_M xb202_17 (ci := 2) (j := 13) rfl K rfl rfl ?_
      refine j_V.ldL xb202_M xb202_20 rfl (i := 0) (kd := 2) (v := .ref 343) (pcJ := 21) rfl L rfl rfl rfl ?_
      refine j_V.ldL xb202_M xb202_21 rfl (i := 1) (kd := 0) (v := .int v1) (pcJ := 22) rfl L rfl rfl rfl ?_
      refine j_V.cl xb202_M xb202_22 rfl (md := 3) (mj := 23) rfl (by decide) xb00_M (As := [.ref 343, .int v1]) (rest := [.int cel, .ref 343]) (jk_spl3 (K.at rfl) rfl rfl rfl (Nat.le_of_ble_eq_true rfl) (Nat.le_of_ble_eq_true rfl)) (fun d => xb00_ok (K.fi [343, 346] rfl rfl)) ?_
      rintro r hz ⟨rfl, ez⟩
      rw [ez]
      clear ez
      show j_V jP _ 19 25 lv [.int (x_cellsOf tra v1), .int cel, .ref 343] h _
      refine j_V.one xb202_M xb202_25 (by decide) (pcJ := 26) (stJ := [.int (cel ||| (x_cellsOf tra v1)), .ref 343]) rfl ?_
      refine j_V.putK xb202_M xb202_26 (ci := 2) (j := 13) (k' := [(343, .inl (2, [.int ns, .ref 344, .ref 345, .ref 346, .ref 347, .int nt, .ref 348, .ref 349, .ref 350, .ref 351, .ref 352, .ref 353, .ref 354, .int (cel ||| (x_cellsOf tra v1)), .ref 355, .ref 356, .ref 357, .ref 358])), (345, .inr (.inl (0, run))), (346, .inr (.inl (0, tra))), (347, .inr (.inl (0, len))), (349, .inr (.inl (0, siz))), (350, .inr (.inl (0, frm))), (351, .inr (.inl (0, tto))), (353, .inr (.inl (0, slo))), (355, .inr (.inl (0, fit))), (356, .inr (.inl (0, way))), (357, .inr (.inl (0, rid))), (358, .inr (.inl (0, lon)))]) rfl K rfl (Nat.le_of_ble_eq_true rfl) rfl (Or.inl rfl) rfl rfl (fun h K => ?_)
      obtain ⟨cel1, ecel1⟩ : ∃ z, z = (cel ||| (x_cellsOf tra v1)) := ⟨_, rfl⟩
      rw [← ecel1] at K
      refine j_V.inL xb202_M xb202_29 (i := 1) (kl' := [(0, .ref 343), (1, .int (v1 + 1))]) (pcJ := 32) L rfl rfl rfl rfl (fun lv L => ?_)
      refine j_V.gto xb202_M xb202_32 (t := 7) rfl ?_
      subst ecel1
      rw [show (x_settle_l7 ns nt run tra len siz frm tto slo (f + 1) v1 cel fit rid lon way) = _ from (rfl)]
      exact ih _ _ _ _ _ _ (lpN_n e) L K
set_option maxRecDepth 1000000 in
theorem xb202_ok {ns : Int32} {nt : Int32} {cel : Int32} {run : List Int32} {tra : List Int32} {len : List Int32} {siz : List Int32} {frm : List Int32} {tto : List Int32} {slo : List Int32} {fit : List Int32} {way : List Int32} {rid : List Int32} {lon : List Int32} {d : Nat} {h h0 : J_H} (K : KN h [(343, .inl (2, [.int ns, .ref 344, .ref 345, .ref 346, .ref 347, .int nt, .ref 348, .ref 349, .ref 350, .ref 351, .ref 352, .ref 353, .ref 354, .int cel, .ref 355, .ref 356, .ref 357, .ref 358])), (345, .inr (.inl (0, run))), (346, .inr (.inl (0, tra))), (347, .inr (.inl (0, len))), (349, .inr (.inl (0, siz))), (350, .inr (.inl (0, frm))), (351, .inr (.inl (0, tto))), (353, .inr (.inl (0, slo))), (355, .inr (.inl (0, fit))), (356, .inr (.inl (0, way))), (357, .inr (.inl (0, rid))), (358, .inr (.inl (0, lon)))] h0) : j_V jP d 19 0 (lv_args 0 [.ref 343]) [] h (fun rv h' => rv = none ∧ KN h' [(343, .inl (2, [.int ns, .ref 344, .ref 345, .ref 346, .ref 347, .int nt, .ref 348, .ref 349, .ref 350, .ref 351, .ref 352, .ref 353, .ref 354, .int (x_settle ns nt run tra len siz frm tto slo fit way rid lon cel).1, .ref 355, .ref 356, .ref 357, .ref 358])), (345, .inr (.inl (0, run))), (346, .inr (.inl (0, tra))), (347, .inr (.inl (0, len))), (349, .inr (.inl (0, siz))), (350, .inr (.inl (0, frm))), (351, .inr (.inl (0, tto))), (353, .inr (.inl (0, slo))), (355, .inr (.inl (0, (x_settle ns nt run tra len siz frm tto slo fit way rid lon cel).2.1))), (356, .inr (.inl (0, (x_settle ns nt run tra len siz frm tto slo fit way rid lon cel).2.2.2.2))), (357, .inr (.inl (0, (x_settle ns nt run tra len siz frm tto slo fit way rid lon cel).2.2.1))), (358, .inr (.inl (0, (x_settle ns nt run tra len siz frm tto slo fit way rid lon cel).2.2.2.1)))] h0) := by
  show j_V jP d 19 0 [(0, .ref 343)] [] h _
  obtain ⟨lv, elv, L⟩ : ∃ lv, lv = [(0, .ref 343)] ∧ LK lv [(0, .ref 343)] := ⟨_, rfl, LK.rf⟩
  rw [← elv]
  clear elv
  refine j_V.ldL xb202_M xb202_0 rfl (i := 0) (kd := 2) (v := .ref 343) (pcJ := 1) rfl L rfl rfl rfl ?_
  refine j_V.one xb202_M xb202_1 (by decide) (pcJ := 2) (stJ := [.int 0, .ref 343]) rfl ?_
  refine j_V.putK xb202_M xb202_2 (ci := 2) (j := 13) (k' := [(343, .inl (2, [.int ns, .ref 344, .ref 345, .ref 346, .ref 347, .int nt, .ref 348, .ref 349, .ref 350, .ref 351, .ref 352, .ref 353, .ref 354, .int 0, .ref 355, .ref 356, .ref 357, .ref 358])), (345, .inr (.inl (0, run))), (346, .inr (.inl (0, tra))), (347, .inr (.inl (0, len))), (349, .inr (.inl (0, siz))), (350, .inr (.inl (0, frm))), (351, .inr (.inl (0, tto))), (353, .inr (.inl (0, slo))), (355, .inr (.inl (0, fit))), (356, .inr (.inl (0, way))), (357, .inr (.inl (0, rid))), (358, .inr (.inl (0, lon)))]) rfl K rfl (Nat.le_of_ble_eq_true rfl) rfl (Or.inl rfl) rfl rfl (fun h K => ?_)
  refine j_V.one xb202_M xb202_5 (by decide) (pcJ := 6) (stJ := [.int 0]) rfl ?_
  refine j_V.stL xb202_M xb202_6 rfl (i := 1) (kd := 0) (kl' := [(0, .ref 343), (1, .int 0)]) (pcJ := 7) rfl L rfl (by decide) rfl rfl rfl (fun lv L => ?_)
  rw [show (x_settle ns nt run tra len siz frm tto slo fit way rid lon cel) = _ from (rfl)]
  exact xb202_ok_l7 _ _ _ _ _ _ _ rfl L K
set_option maxRecDepth 100000 in
theorem xbrw_M : j_meth jP 60 = some (yX7_rankByWeight, cX7_rankByWeight, 3, none, 0, false, 7) := rfl
set_option maxRecDepth 100000 in
theorem xbrw_0 : j_code jP 60 0 = some (.aload_n 0) := rfl
set_option maxRecDepth 100000 in
theorem xbrw_1 : j_code jP 60 1 = some (.getfield 9) := rfl
set_option maxRecDepth 100000 in
theorem xbrw_4 : j_code jP 60 4 = some (.iconst 0) := rfl
set_option maxRecDepth 100000 in
theorem xbrw_5 : j_code jP 60 5 = some (.invokestatic 90) := rfl
set_option maxRecDepth 100000 in
theorem xbrw_8 : j_code jP 60 8 = some (.iconst 0) := rfl
set_option maxRecDepth 100000 in
theorem xbrw_9 : j_code jP 60 9 = some (.istore_n 1) := rfl
set_option maxRecDepth 100000 in
theorem xbrw_10 : j_code jP 60 10 = some (.iload_n 1) := rfl
set_option maxRecDepth 100000 in
theorem xbrw_11 : j_code jP 60 11 = some (.aload_n 0) := rfl
set_option maxRecDepth 100000 in
theorem xbrw_12 : j_code jP 60 12 = some (.getfield 64) := rfl
set_option maxRecDepth 100000 in
theorem xbrw_15 : j_code jP 60 15 = some (.getfield 102) := rfl
set_option maxRecDepth 100000 in
theorem xbrw_18 : j_code jP 60 18 = some (.if_icmp .ge 70) := rfl
set_option maxRecDepth 100000 in
theorem xbrw_21 : j_code jP 60 21 = some (.iload_n 1) := rfl
set_option maxRecDepth 100000 in
theorem xbrw_22 : j_code jP 60 22 = some (.istore_n 2) := rfl
set_option maxRecDepth 100000 in
theorem xbrw_23 : j_code jP 60 23 = some (.iload_n 2) := rfl
set_option maxRecDepth 100000 in
theorem xbrw_24 : j_code jP 60 24 = some (.ifCond .le 51) := rfl
set_option maxRecDepth 100000 in
theorem xbrw_27 : j_code jP 60 27 = some (.aload_n 0) := rfl
set_option maxRecDepth 100000 in
theorem xbrw_28 : j_code jP 60 28 = some (.getfield 64) := rfl
set_option maxRecDepth 100000 in
theorem xbrw_31 : j_code jP 60 31 = some (.getfield 105) := rfl
set_option maxRecDepth 100000 in
theorem xbrw_34 : j_code jP 60 34 = some (.aload_n 0) := rfl
set_option maxRecDepth 100000 in
theorem xbrw_35 : j_code jP 60 35 = some (.getfield 9) := rfl
set_option maxRecDepth 100000 in
theorem xbrw_38 : j_code jP 60 38 = some (.iload_n 2) := rfl
set_option maxRecDepth 100000 in
theorem xbrw_39 : j_code jP 60 39 = some (.iconst 1) := rfl
set_option maxRecDepth 100000 in
theorem xbrw_40 : j_code jP 60 40 = some (.isub) := rfl
set_option maxRecDepth 100000 in
theorem xbrw_41 : j_code jP 60 41 = some (.iaload) := rfl
set_option maxRecDepth 100000 in
theorem xbrw_42 : j_code jP 60 42 = some (.iaload) := rfl
set_option maxRecDepth 100000 in
theorem xbrw_43 : j_code jP 60 43 = some (.aload_n 0) := rfl
set_option maxRecDepth 100000 in
theorem xbrw_44 : j_code jP 60 44 = some (.getfield 64) := rfl
set_option maxRecDepth 100000 in
theorem xbrw_47 : j_code jP 60 47 = some (.getfield 105) := rfl
set_option maxRecDepth 100000 in
theorem xbrw_50 : j_code jP 60 50 = some (.iload_n 1) := rfl
set_option maxRecDepth 100000 in
theorem xbrw_51 : j_code jP 60 51 = some (.iaload) := rfl
set_option maxRecDepth 100000 in
theorem xbrw_52 : j_code jP 60 52 = some (.if_icmp .ge 23) := rfl
set_option maxRecDepth 100000 in
theorem xbrw_55 : j_code jP 60 55 = some (.aload_n 0) := rfl
set_option maxRecDepth 100000 in
theorem xbrw_56 : j_code jP 60 56 = some (.getfield 9) := rfl
set_option maxRecDepth 100000 in
theorem xbrw_59 : j_code jP 60 59 = some (.iload_n 2) := rfl
set_option maxRecDepth 100000 in
theorem xbrw_60 : j_code jP 60 60 = some (.aload_n 0) := rfl
set_option maxRecDepth 100000 in
theorem xbrw_61 : j_code jP 60 61 = some (.getfield 9) := rfl
set_option maxRecDepth 100000 in
theorem xbrw_64 : j_code jP 60 64 = some (.iload_n 2) := rfl
set_option maxRecDepth 100000 in
theorem xbrw_65 : j_code jP 60 65 = some (.iconst 1) := rfl
set_option maxRecDepth 100000 in
theorem xbrw_66 : j_code jP 60 66 = some (.isub) := rfl
set_option maxRecDepth 100000 in
theorem xbrw_67 : j_code jP 60 67 = some (.iaload) := rfl
set_option maxRecDepth 100000 in
theorem xbrw_68 : j_code jP 60 68 = some (.iastore) := rfl
set_option maxRecDepth 100000 in
theorem xbrw_69 : j_code jP 60 69 = some (.iinc 2 (-1)) := rfl
set_option maxRecDepth 100000 in
theorem xbrw_72 : j_code jP 60 72 = some (.goto (-49)) := rfl
set_option maxRecDepth 100000 in
theorem xbrw_75 : j_code jP 60 75 = some (.aload_n 0) := rfl
set_option maxRecDepth 100000 in
theorem xbrw_76 : j_code jP 60 76 = some (.getfield 9) := rfl
set_option maxRecDepth 100000 in
theorem xbrw_79 : j_code jP 60 79 = some (.iload_n 2) := rfl
set_option maxRecDepth 100000 in
theorem xbrw_80 : j_code jP 60 80 = some (.iload_n 1) := rfl
set_option maxRecDepth 100000 in
theorem xbrw_81 : j_code jP 60 81 = some (.iastore) := rfl
set_option maxRecDepth 100000 in
theorem xbrw_82 : j_code jP 60 82 = some (.iinc 1 1) := rfl
set_option maxRecDepth 100000 in
theorem xbrw_85 : j_code jP 60 85 = some (.goto (-75)) := rfl
set_option maxRecDepth 100000 in
theorem xbrw_88 : j_code jP 60 88 = some (.return_) := rfl
set_option maxRecDepth 1000000 in
theorem xbrw_in {mi : Int32} {shu : Int32} {bus : Int32} {lks : Int32} {ns : Int32} {nt : Int32} {cel : Int32} {wei : List Int32} {d : Nat} {h0 : J_H} {v1 : Int32} {Q : Option Value → J_H → Prop} : ∀ (f : Nat) (v2 : Int32) (rk : List Int32) {lv : J_L} {h : J_H}, lpN v2 0 = f → LK lv [(0, .ref 4), (1, .int v1), (2, .int v2)] → KN h [(4, .inl (7, [.ref 343, .int mi, .int shu, .int bus, .ref 5, .ref 6, .ref 7, .ref 8, .ref 9, .ref 10, .ref 11, .ref 12, .ref 13, .ref 14, .ref 15, .int lks, .ref 16, .ref 17, .ref 20])), (5, .inr (.inl (0, rk))), (343, .inl (2, [.int ns, .ref 344, .ref 345, .ref 346, .ref 347, .int nt, .ref 348, .ref 349, .ref 350, .ref 351, .ref 352, .ref 353, .ref 354, .int cel, .ref 355, .ref 356, .ref 357, .ref 358])), (354, .inr (.inl (0, wei)))] h0 → (∀ lv h, LK lv [(0, .ref 4), (1, .int v1), (2, .int (x_rwi wei v1 f v2 rk).1)] → KN h [(4, .inl (7, [.ref 343, .int mi, .int shu, .int bus, .ref 5, .ref 6, .ref 7, .ref 8, .ref 9, .ref 10, .ref 11, .ref 12, .ref 13, .ref 14, .ref 15, .int lks, .ref 16, .ref 17, .ref 20])), (5, .inr (.inl (0, (x_rwi wei v1 f v2 rk).2))), (343, .inl (2, [.int ns, .ref 344, .ref 345, .ref 346, .ref 347, .int nt, .ref 348, .ref 349, .ref 350, .ref 351, .ref 352, .ref 353, .ref 354, .int cel, .ref 355, .ref 356, .ref 357, .ref 358])), (354, .inr (.inl (0, wei)))] h0 → j_V jP d 60 75 lv [] h Q) → j_V jP d 60 23 lv [] h Q := by
  intro f
  induction f with
  | zero =>
    intro v2 rk lv h e L K kk
    refine j_V.ldL xbrw_M xbrw_23 rfl (i := 2) (kd := 0) (v := .int v2) (pcJ := 24) rfl L rfl rfl rfl ?_
    refine j_V.ifc xbrw_M xbrw_24 (t := 75) rfl (fun c24_0 => ?_) (fun c24_0 => ?_)
    · replace c24_0 : ¬ (0 < v2) := jd_le c24_0
      rw [show (x_rwi wei v1 0 v2 rk) = _ from (rfl)] at kk
      exact kk _ _ L K
    · replace c24_0 : 0 < v2 := jd_len c24_0
      exact absurd c24_0 (lpN_z e)
  | succ f ih =>
    intro v2 rk lv h e L K kk
    refine j_V.ldL xbrw_M xbrw_23 rfl (i := 2) (kd := 0) (v := .int v2) (pcJ := 24) rfl L rfl rfl rfl ?_
    refine j_V.ifc xbrw_M xbrw_24 (t := 75) rfl (fun c24_0 => ?_) (fun c24_0 => ?_)
    · replace c24_0 : ¬ (0 < v2) := jd_le c24_0
      rw [show (x_rwi wei v1 (f + 1) v2 rk) = _ from ((if_neg c24_0).trans (rfl))] at kk
      exact kk _ _ L K
    · replace c24_0 : 0 < v2 := jd_len c24_0
      refine j_V.ldL xbrw_M xbrw_27 rfl (i := 0) (kd := 2) (v := .ref 4) (pcJ := 28) rfl L rfl rfl rfl ?_
      refine j_V.getK xbrw_M xbrw_28 (ci := 7) (j := 0) rfl K rfl rfl ?_
      refine j_V.getK xbrw_M xbrw_31 (ci := 2) (j := 12) rfl K rfl rfl ?_
      refine j_V.ldL xbrw_M xbrw_34 rfl (i := 0) (kd := 2) (v := .ref 4) (pcJ := 35) rfl L rfl rfl rfl ?_
      refine j_V.getK xbrw_M xbrw_35 (ci := 7) (j := 4) rfl K rfl rfl ?_
      refine j_V.ldL xbrw_M xbrw_38 rfl (i := 2) (kd := 0) (v := .int v2) (pcJ := 39) rfl L rfl rfl rfl ?_
      refine j_V.one xbrw_M xbrw_39 (by decide) (pcJ := 40) (stJ := [.int 1, .int v2, .ref 5, .ref 354]) rfl ?_
      refine j_V.one xbrw_M xbrw_40 (by decide) (pcJ := 41) (stJ := [.int (v2 - 1), .ref 5, .ref 354]) rfl ?_
      refine j_V.iaA xbrw_M xbrw_41 K rfl ?_
      refine j_V.iaA xbrw_M xbrw_42 K rfl ?_
      refine j_V.ldL xbrw_M xbrw_43 rfl (i := 0) (kd := 2) (v := .ref 4) (pcJ := 44) rfl L rfl rfl rfl ?_
      refine j_V.getK xbrw_M xbrw_44 (ci := 7) (j := 0) rfl K rfl rfl ?_
      refine j_V.getK xbrw_M xbrw_47 (ci := 2) (j := 12) rfl K rfl rfl ?_
      refine j_V.ldL xbrw_M xbrw_50 rfl (i := 1) (kd := 0) (v := .int v1) (pcJ := 51) rfl L rfl rfl rfl ?_
      refine j_V.iaA xbrw_M xbrw_51 K rfl ?_
      refine j_V.icmp xbrw_M xbrw_52 (t := 75) rfl (fun c52_1 => ?_) (fun c52_1 => ?_)
      · replace c52_1 : ¬ ((gA wei (gA rk (v2 - 1))) < (gA wei v1)) := jd_ge c52_1
        rw [show (x_rwi wei v1 (f + 1) v2 rk) = _ from ((if_pos c24_0).trans ((if_neg c52_1).trans (rfl)))] at kk
        exact kk _ _ L K
      · replace c52_1 : (gA wei (gA rk (v2 - 1))) < (gA wei v1) := jd_gen c52_1
        refine j_V.ldL xbrw_M xbrw_55 rfl (i := 0) (kd := 2) (v := .ref 4) (pcJ := 56) rfl L rfl rfl rfl ?_
        refine j_V.getK xbrw_M xbrw_56 (ci := 7) (j := 4) rfl K rfl rfl ?_
        refine j_V.ldL xbrw_M xbrw_59 rfl (i := 2) (kd := 0) (v := .int v2) (pcJ := 60) rfl L rfl rfl rfl ?_
        refine j_V.ldL xbrw_M xbrw_60 rfl (i := 0) (kd := 2) (v := .ref 4) (pcJ := 61) rfl L rfl rfl rfl ?_
        refine j_V.getK xbrw_M xbrw_61 (ci := 7) (j := 4) rfl K rfl rfl ?_
        refine j_V.ldL xbrw_M xbrw_64 rfl (i := 2) (kd := 0) (v := .int v2) (pcJ := 65) rfl L rfl rfl rfl ?_
        refine j_V.one xbrw_M xbrw_65 (by decide) (pcJ := 66) (stJ := [.int 1, .int v2, .ref 5, .int v2, .ref 5]) rfl ?_
        refine j_V.one xbrw_M xbrw_66 (by decide) (pcJ := 67) (stJ := [.int (v2 - 1), .ref 5, .int v2, .ref 5]) rfl ?_
        refine j_V.iaA xbrw_M xbrw_67 K rfl ?_
        refine j_V.isA xbrw_M xbrw_68 (k' := [(4, .inl (7, [.ref 343, .int mi, .int shu, .int bus, .ref 5, .ref 6, .ref 7, .ref 8, .ref 9, .ref 10, .ref 11, .ref 12, .ref 13, .ref 14, .ref 15, .int lks, .ref 16, .ref 17, .ref 20])), (5, .inr (.inl (0, (sA rk v2 (gA rk (v2 - 1)))))), (343, .inl (2, [.int ns, .ref 344, .ref 345, .ref 346, .ref 347, .int nt, .ref 348, .ref 349, .ref 350, .ref 351, .ref 352, .ref 353, .ref 354, .int cel, .ref 355, .ref 356, .ref 357, .ref 358])), (354, .inr (.inl (0, wei)))]) K rfl rfl (fun h K => ?_)
        refine j_V.inL xbrw_M xbrw_69 (i := 2) (kl' := [(0, .ref 4), (1, .int v1), (2, .int (v2 + (-1)))]) (pcJ := 72) L rfl rfl rfl rfl (fun lv L => ?_)
        refine j_V.gto xbrw_M xbrw_72 (t := 23) rfl ?_
        rw [show (x_rwi wei v1 (f + 1) v2 rk) = (x_rwi wei v1 f (v2 + (-1)) (sA rk v2 (gA rk (v2 - 1)))) from (if_pos c24_0).trans ((if_pos c52_1).trans (rfl))] at kk
        exact ih (v2 + (-1)) (sA rk v2 (gA rk (v2 - 1))) (lpN_d e) L K kk
set_option maxRecDepth 100000 in
theorem xb203_M : j_meth jP 60 = some (yX7_rankByWeight, cX7_rankByWeight, 3, none, 0, false, 7) := rfl
set_option maxRecDepth 100000 in
theorem xb203_0 : j_code jP 60 0 = some (.aload_n 0) := rfl
set_option maxRecDepth 100000 in
theorem xb203_1 : j_code jP 60 1 = some (.getfield 9) := rfl
set_option maxRecDepth 100000 in
theorem xb203_4 : j_code jP 60 4 = some (.iconst 0) := rfl
set_option maxRecDepth 100000 in
theorem xb203_5 : j_code jP 60 5 = some (.invokestatic 90) := rfl
set_option maxRecDepth 100000 in
theorem xb203_8 : j_code jP 60 8 = some (.iconst 0) := rfl
set_option maxRecDepth 100000 in
theorem xb203_9 : j_code jP 60 9 = some (.istore_n 1) := rfl
set_option maxRecDepth 100000 in
theorem xb203_10 : j_code jP 60 10 = some (.iload_n 1) := rfl
set_option maxRecDepth 100000 in
theorem xb203_11 : j_code jP 60 11 = some (.aload_n 0) := rfl
set_option maxRecDepth 100000 in
theorem xb203_12 : j_code jP 60 12 = some (.getfield 64) := rfl
set_option maxRecDepth 100000 in
theorem xb203_15 : j_code jP 60 15 = some (.getfield 102) := rfl
set_option maxRecDepth 100000 in
theorem xb203_18 : j_code jP 60 18 = some (.if_icmp .ge 70) := rfl
set_option maxRecDepth 100000 in
theorem xb203_21 : j_code jP 60 21 = some (.iload_n 1) := rfl
set_option maxRecDepth 100000 in
theorem xb203_22 : j_code jP 60 22 = some (.istore_n 2) := rfl
set_option maxRecDepth 100000 in
theorem xb203_23 : j_code jP 60 23 = some (.iload_n 2) := rfl
set_option maxRecDepth 100000 in
theorem xb203_24 : j_code jP 60 24 = some (.ifCond .le 51) := rfl
set_option maxRecDepth 100000 in
theorem xb203_27 : j_code jP 60 27 = some (.aload_n 0) := rfl
set_option maxRecDepth 100000 in
theorem xb203_28 : j_code jP 60 28 = some (.getfield 64) := rfl
set_option maxRecDepth 100000 in
theorem xb203_31 : j_code jP 60 31 = some (.getfield 105) := rfl
set_option maxRecDepth 100000 in
theorem xb203_34 : j_code jP 60 34 = some (.aload_n 0) := rfl
set_option maxRecDepth 100000 in
theorem xb203_35 : j_code jP 60 35 = some (.getfield 9) := rfl
set_option maxRecDepth 100000 in
theorem xb203_38 : j_code jP 60 38 = some (.iload_n 2) := rfl
set_option maxRecDepth 100000 in
theorem xb203_39 : j_code jP 60 39 = some (.iconst 1) := rfl
set_option maxRecDepth 100000 in
theorem xb203_40 : j_code jP 60 40 = some (.isub) := rfl
set_option maxRecDepth 100000 in
theorem xb203_41 : j_code jP 60 41 = some (.iaload) := rfl
set_option maxRecDepth 100000 in
theorem xb203_42 : j_code jP 60 42 = some (.iaload) := rfl
set_option maxRecDepth 100000 in
theorem xb203_43 : j_code jP 60 43 = some (.aload_n 0) := rfl
set_option maxRecDepth 100000 in
theorem xb203_44 : j_code jP 60 44 = some (.getfield 64) := rfl
set_option maxRecDepth 100000 in
theorem xb203_47 : j_code jP 60 47 = some (.getfield 105) := rfl
set_option maxRecDepth 100000 in
theorem xb203_50 : j_code jP 60 50 = some (.iload_n 1) := rfl
set_option maxRecDepth 100000 in
theorem xb203_51 : j_code jP 60 51 = some (.iaload) := rfl
set_option maxRecDepth 100000 in
theorem xb203_52 : j_code jP 60 52 = some (.if_icmp .ge 23) := rfl
set_option maxRecDepth 100000 in
theorem xb203_55 : j_code jP 60 55 = some (.aload_n 0) := rfl
set_option maxRecDepth 100000 in
theorem xb203_56 : j_code jP 60 56 = some (.getfield 9) := rfl
set_option maxRecDepth 100000 in
theorem xb203_59 : j_code jP 60 59 = some (.iload_n 2) := rfl
set_option maxRecDepth 100000 in
theorem xb203_60 : j_code jP 60 60 = some (.aload_n 0) := rfl
set_option maxRecDepth 100000 in
theorem xb203_61 : j_code jP 60 61 = some (.getfield 9) := rfl
set_option maxRecDepth 100000 in
theorem xb203_64 : j_code jP 60 64 = some (.iload_n 2) := rfl
set_option maxRecDepth 100000 in
theorem xb203_65 : j_code jP 60 65 = some (.iconst 1) := rfl
set_option maxRecDepth 100000 in
theorem xb203_66 : j_code jP 60 66 = some (.isub) := rfl
set_option maxRecDepth 100000 in
theorem xb203_67 : j_code jP 60 67 = some (.iaload) := rfl
set_option maxRecDepth 100000 in
theorem xb203_68 : j_code jP 60 68 = some (.iastore) := rfl
set_option maxRecDepth 100000 in
theorem xb203_69 : j_code jP 60 69 = some (.iinc 2 (-1)) := rfl
set_option maxRecDepth 100000 in
theorem xb203_72 : j_code jP 60 72 = some (.goto (-49)) := rfl
set_option maxRecDepth 100000 in
theorem xb203_75 : j_code jP 60 75 = some (.aload_n 0) := rfl
set_option maxRecDepth 100000 in
theorem xb203_76 : j_code jP 60 76 = some (.getfield 9) := rfl
set_option maxRecDepth 100000 in
theorem xb203_79 : j_code jP 60 79 = some (.iload_n 2) := rfl
set_option maxRecDepth 100000 in
theorem xb203_80 : j_code jP 60 80 = some (.iload_n 1) := rfl
set_option maxRecDepth 100000 in
theorem xb203_81 : j_code jP 60 81 = some (.iastore) := rfl
set_option maxRecDepth 100000 in
theorem xb203_82 : j_code jP 60 82 = some (.iinc 1 1) := rfl
set_option maxRecDepth 100000 in
theorem xb203_85 : j_code jP 60 85 = some (.goto (-75)) := rfl
set_option maxRecDepth 100000 in
theorem xb203_88 : j_code jP 60 88 = some (.return_) := rfl
set_option maxRecDepth 1000000 in
theorem xb203_ok_l10 {mi : Int32} {shu : Int32} {bus : Int32} {lks : Int32} {ns : Int32} {nt : Int32} {cel : Int32} {wei : List Int32} {d : Nat} {h0 : J_H} : ∀ (f : Nat) (v1 : Int32) (rk : List Int32) {lv : J_L} {h : J_H}, lpN nt v1 = f → LK lv [(0, .ref 4), (1, .int v1)] → KN h [(4, .inl (7, [.ref 343, .int mi, .int shu, .int bus, .ref 5, .ref 6, .ref 7, .ref 8, .ref 9, .ref 10, .ref 11, .ref 12, .ref 13, .ref 14, .ref 15, .int lks, .ref 16, .ref 17, .ref 20])), (5, .inr (.inl (0, rk))), (343, .inl (2, [.int ns, .ref 344, .ref 345, .ref 346, .ref 347, .int nt, .ref 348, .ref 349, .ref 350, .ref 351, .ref 352, .ref 353, .ref 354, .int cel, .ref 355, .ref 356, .ref 357, .ref 358])), (354, .inr (.inl (0, wei)))] h0 → j_V jP d 60 10 lv [] h (fun rv h' => rv = none ∧ KN h' [(4, .inl (7, [.ref 343, .int mi, .int shu, .int bus, .ref 5, .ref 6, .ref 7, .ref 8, .ref 9, .ref 10, .ref 11, .ref 12, .ref 13, .ref 14, .ref 15, .int lks, .ref 16, .ref 17, .ref 20])), (5, .inr (.inl (0, (x_rankByWeight_l10 wei f v1 rk)))), (343, .inl (2, [.int ns, .ref 344, .ref 345, .ref 346, .ref 347, .int nt, .ref 348, .ref 349, .ref 350, .ref 351, .ref 352, .ref 353, .ref 354, .int cel, .ref 355, .ref 356, .ref 357, .ref 358])), (354, .inr (.inl (0, wei)))] h0) := by
  intro f
  induction f with
  | zero =>
    intro v1 rk lv h e L K
    refine j_V.ldL xb203_M xb203_10 rfl (i := 1) (kd := 0) (v := .int v1) (pcJ := 11) rfl L rfl rfl rfl ?_
    refine j_V.ldL xb203_M xb203_11 rfl (i := 0) (kd := 2) (v := .ref 4) (pcJ := 12) rfl L rfl rfl rfl ?_
    refine j_V.getK xb203_M xb203_12 (ci := 7) (j := 0) rfl K rfl rfl ?_
    refine j_V.getK xb203_M xb203_15 (ci := 2) (j := 5) rfl K rfl rfl ?_
    refine j_V.icmp xb203_M xb203_18 (t := 88) rfl (fun c18_0 => ?_) (fun c18_0 => ?_)
    · replace c18_0 : ¬ (v1 < nt) := jd_ge c18_0
      refine j_V.ret xb203_M xb203_88 rfl rfl ?_
      rw [show (x_rankByWeight_l10 wei 0 v1 rk) = _ from (rfl)]
      exact ⟨rfl, K⟩
    · replace c18_0 : v1 < nt := jd_gen c18_0
      exact absurd c18_0 (lpN_z e)
  | succ f ih =>
    intro v1 rk lv h e L K
    refine j_V.ldL xb203_M xb203_10 rfl (i := 1) (kd := 0) (v := .int v1) (pcJ := 11) rfl L rfl rfl rfl ?_
    refine j_V.ldL xb203_M xb203_11 rfl (i := 0) (kd := 2) (v := .ref 4) (pcJ := 12) rfl L rfl rfl rfl ?_
    refine j_V.getK xb203_M xb203_12 (ci := 7) (j := 0) rfl K rfl rfl ?_
    refine j_V.getK xb203_M xb203_15 (ci := 2) (j := 5) rfl K rfl rfl ?_
    refine j_V.icmp xb203_M xb203_18 (t := 88) rfl (fun c18_0 => ?_) (fun c18_0 => ?_)
    · replace c18_0 : ¬ (v1 < nt) := jd_ge c18_0
      exact absurd (lpN_s e) c18_0
    · replace c18_0 : v1 < nt := jd_gen c18_0
      refine j_V.ldL xb203_M xb203_21 rfl (i := 1) (kd := 0) (v := .int v1) (pcJ := 22) rfl L rfl rfl rfl ?_
      refine j_V.stL xb203_M xb203_22 rfl (i := 2) (kd := 0) (kl' := [(0, .ref 4), (1, .int v1), (2, .int v1)]) (pcJ := 23) rfl L rfl (by decide) rfl rfl rfl (fun lv L => ?_)
      refine xbrw_in _ v1 rk rfl L (K.fi [4, 5, 343, 354] rfl rfl) (fun lv h9 L K9 => ?_)
      have K : KN h9 [(4, .inl (7, [.ref 343, .int mi, .int shu, .int bus, .ref 5, .ref 6, .ref 7, .ref 8, .ref 9, .ref 10, .ref 11, .ref 12, .ref 13, .ref 14, .ref 15, .int lks, .ref 16, .ref 17, .ref 20])), (5, .inr (.inl (0, (x_rwi wei v1 (lpN v1 0) v1 rk).2))), (343, .inl (2, [.int ns, .ref 344, .ref 345, .ref 346, .ref 347, .int nt, .ref 348, .ref 349, .ref 350, .ref 351, .ref 352, .ref 353, .ref 354, .int cel, .ref 355, .ref 356, .ref 357, .ref 358])), (354, .inr (.inl (0, wei)))] h0 := K.mg K9 rfl rfl
      clear K9
      refine j_V.ldL xb203_M xb203_75 rfl (i := 0) (kd := 2) (v := .ref 4) (pcJ := 76) rfl L rfl rfl rfl ?_
      refine j_V.getK xb203_M xb203_76 (ci := 7) (j := 4) rfl K rfl rfl ?_
      refine j_V.ldL xb203_M xb203_79 rfl (i := 2) (kd := 0) (v := .int ((x_rwi wei v1 (lpN v1 0) v1 rk).1)) (pcJ := 80) rfl L rfl rfl rfl ?_
      refine j_V.ldL xb203_M xb203_80 rfl (i := 1) (kd := 0) (v := .int v1) (pcJ := 81) rfl L rfl rfl rfl ?_
      refine j_V.isA xb203_M xb203_81 (k' := [(4, .inl (7, [.ref 343, .int mi, .int shu, .int bus, .ref 5, .ref 6, .ref 7, .ref 8, .ref 9, .ref 10, .ref 11, .ref 12, .ref 13, .ref 14, .ref 15, .int lks, .ref 16, .ref 17, .ref 20])), (5, .inr (.inl (0, (sA (x_rwi wei v1 (lpN v1 0) v1 rk).2 ((x_rwi wei v1 (lpN v1 0) v1 rk).1) v1)))), (343, .inl (2, [.int ns, .ref 344, .ref 345, .ref 346, .ref 347, .int nt, .ref 348, .ref 349, .ref 350, .ref 351, .ref 352, .ref 353, .ref 354, .int cel, .ref 355, .ref 356, .ref 357, .ref 358])), (354, .inr (.inl (0, wei)))]) K rfl rfl (fun h K => ?_)
      obtain ⟨rk1, erk1⟩ : ∃ z, z = (sA (x_rwi wei v1 (lpN v1 0) v1 rk).2 ((x_rwi wei v1 (lpN v1 0) v1 rk).1) v1) := ⟨_, rfl⟩
      rw [← erk1] at K
      refine j_V.inL xb203_M xb203_82 (i := 1) (kl' := [(0, .ref 4), (1, .int (v1 + 1)), (2, .int ((x_rwi wei v1 (lpN v1 0) v1 rk).1))]) (pcJ := 85) L rfl rfl rfl rfl (fun lv L => ?_)
      refine j_V.gto xb203_M xb203_85 (t := 10) rfl ?_
      subst erk1
      rw [show (x_rankByWeight_l10 wei (f + 1) v1 rk) = _ from (rfl)]
      exact ih _ _ (lpN_n e) (L.sub ⟨rfl, rfl, trivial⟩) K
set_option maxRecDepth 1000000 in
theorem xb203_ok {mi : Int32} {shu : Int32} {bus : Int32} {lks : Int32} {rk : List Int32} {ns : Int32} {nt : Int32} {cel : Int32} {wei : List Int32} {d : Nat} {h h0 : J_H} (K : KN h [(4, .inl (7, [.ref 343, .int mi, .int shu, .int bus, .ref 5, .ref 6, .ref 7, .ref 8, .ref 9, .ref 10, .ref 11, .ref 12, .ref 13, .ref 14, .ref 15, .int lks, .ref 16, .ref 17, .ref 20])), (5, .inr (.inl (0, rk))), (343, .inl (2, [.int ns, .ref 344, .ref 345, .ref 346, .ref 347, .int nt, .ref 348, .ref 349, .ref 350, .ref 351, .ref 352, .ref 353, .ref 354, .int cel, .ref 355, .ref 356, .ref 357, .ref 358])), (354, .inr (.inl (0, wei)))] h0) : j_V jP d 60 0 (lv_args 0 [.ref 4]) [] h (fun rv h' => rv = none ∧ KN h' [(4, .inl (7, [.ref 343, .int mi, .int shu, .int bus, .ref 5, .ref 6, .ref 7, .ref 8, .ref 9, .ref 10, .ref 11, .ref 12, .ref 13, .ref 14, .ref 15, .int lks, .ref 16, .ref 17, .ref 20])), (5, .inr (.inl (0, (x_rankByWeight rk nt wei)))), (343, .inl (2, [.int ns, .ref 344, .ref 345, .ref 346, .ref 347, .int nt, .ref 348, .ref 349, .ref 350, .ref 351, .ref 352, .ref 353, .ref 354, .int cel, .ref 355, .ref 356, .ref 357, .ref 358])), (354, .inr (.inl (0, wei)))] h0) := by
  show j_V jP d 60 0 [(0, .ref 4)] [] h _
  obtain ⟨lv, elv, L⟩ : ∃ lv, lv = [(0, .ref 4)] ∧ LK lv [(0, .ref 4)] := ⟨_, rfl, LK.rf⟩
  rw [← elv]
  clear elv
  refine j_V.ldL xb203_M xb203_0 rfl (i := 0) (kd := 2) (v := .ref 4) (pcJ := 1) rfl L rfl rfl rfl ?_
  refine j_V.getK xb203_M xb203_1 (ci := 7) (j := 4) rfl K rfl rfl ?_
  refine j_V.one xb203_M xb203_4 (by decide) (pcJ := 5) (stJ := [.int 0, .ref 5]) rfl ?_
  refine j_V.fil rfl xb203_M xb203_5 rfl rfl (Nat.le_of_ble_eq_true rfl) K rfl rfl (fun h K => ?_)
  obtain ⟨rk2, erk2⟩ : ∃ z, z = (fL 0 rk) := ⟨_, rfl⟩
  rw [← erk2] at K
  refine j_V.one xb203_M xb203_8 (by decide) (pcJ := 9) (stJ := [.int 0]) rfl ?_
  refine j_V.stL xb203_M xb203_9 rfl (i := 1) (kd := 0) (kl' := [(0, .ref 4), (1, .int 0)]) (pcJ := 10) rfl L rfl (by decide) rfl rfl rfl (fun lv L => ?_)
  subst erk2
  rw [show (x_rankByWeight rk nt wei) = _ from (rfl)]
  exact xb203_ok_l10 _ _ _ rfl L K
set_option maxRecDepth 100000 in
theorem xbpr_M : j_meth jP 27 = some (yX3_reset, cX3_reset, 1, none, 0, false, 3) := rfl
set_option maxRecDepth 100000 in
theorem xbpr_0 : j_code jP 27 0 = some (.aload_n 0) := rfl
set_option maxRecDepth 100000 in
theorem xbpr_1 : j_code jP 27 1 = some (.getfield 9) := rfl
set_option maxRecDepth 100000 in
theorem xbpr_4 : j_code jP 27 4 = some (.iconst (-1)) := rfl
set_option maxRecDepth 100000 in
theorem xbpr_5 : j_code jP 27 5 = some (.invokestatic 40) := rfl
set_option maxRecDepth 100000 in
theorem xbpr_8 : j_code jP 27 8 = some (.aload_n 0) := rfl
set_option maxRecDepth 100000 in
theorem xbpr_9 : j_code jP 27 9 = some (.getfield 15) := rfl
set_option maxRecDepth 100000 in
theorem xbpr_12 : j_code jP 27 12 = some (.iconst (-1)) := rfl
set_option maxRecDepth 100000 in
theorem xbpr_13 : j_code jP 27 13 = some (.invokestatic 40) := rfl
set_option maxRecDepth 100000 in
theorem xbpr_16 : j_code jP 27 16 = some (.aload_n 0) := rfl
set_option maxRecDepth 100000 in
theorem xbpr_17 : j_code jP 27 17 = some (.getfield 18) := rfl
set_option maxRecDepth 100000 in
theorem xbpr_20 : j_code jP 27 20 = some (.iconst 0) := rfl
set_option maxRecDepth 100000 in
theorem xbpr_21 : j_code jP 27 21 = some (.invokestatic 40) := rfl
set_option maxRecDepth 100000 in
theorem xbpr_24 : j_code jP 27 24 = some (.aload_n 0) := rfl
set_option maxRecDepth 100000 in
theorem xbpr_25 : j_code jP 27 25 = some (.getfield 21) := rfl
set_option maxRecDepth 100000 in
theorem xbpr_28 : j_code jP 27 28 = some (.iconst 0) := rfl
set_option maxRecDepth 100000 in
theorem xbpr_29 : j_code jP 27 29 = some (.invokestatic 40) := rfl
set_option maxRecDepth 100000 in
theorem xbpr_32 : j_code jP 27 32 = some (.aload_n 0) := rfl
set_option maxRecDepth 100000 in
theorem xbpr_33 : j_code jP 27 33 = some (.getfield 24) := rfl
set_option maxRecDepth 100000 in
theorem xbpr_36 : j_code jP 27 36 = some (.iconst 0) := rfl
set_option maxRecDepth 100000 in
theorem xbpr_37 : j_code jP 27 37 = some (.invokestatic 40) := rfl
set_option maxRecDepth 100000 in
theorem xbpr_40 : j_code jP 27 40 = some (.aload_n 0) := rfl
set_option maxRecDepth 100000 in
theorem xbpr_41 : j_code jP 27 41 = some (.getfield 27) := rfl
set_option maxRecDepth 100000 in
theorem xbpr_44 : j_code jP 27 44 = some (.iconst 0) := rfl
set_option maxRecDepth 100000 in
theorem xbpr_45 : j_code jP 27 45 = some (.invokestatic 40) := rfl
set_option maxRecDepth 100000 in
theorem xbpr_48 : j_code jP 27 48 = some (.aload_n 0) := rfl
set_option maxRecDepth 100000 in
theorem xbpr_49 : j_code jP 27 49 = some (.iconst 0) := rfl
set_option maxRecDepth 100000 in
theorem xbpr_50 : j_code jP 27 50 = some (.putfield 46) := rfl
set_option maxRecDepth 100000 in
theorem xbpr_53 : j_code jP 27 53 = some (.return_) := rfl
set_option maxRecDepth 1000000 in
theorem xbpr_ok {pev : Int32} {pk : Int32} {pms : List Int32} {pmm : List Int32} {pmt : List Int32} {pst : List Int32} {pwa : List Int32} {prs : List Int32} {d : Nat} {h h0 : J_H} (K : KN h [(20, .inl (3, [.ref 21, .ref 22, .ref 23, .ref 24, .ref 25, .ref 26, .ref 27, .ref 28, .int pev, .int pk])), (21, .inr (.inl (0, pms))), (22, .inr (.inl (0, pmm))), (23, .inr (.inl (0, pmt))), (24, .inr (.inl (0, pst))), (25, .inr (.inl (0, pwa))), (26, .inr (.inl (0, prs)))] h0) : j_V jP d 27 0 (lv_args 0 [.ref 20]) [] h (fun rv h' => rv = none ∧ KN h' [(20, .inl (3, [.ref 21, .ref 22, .ref 23, .ref 24, .ref 25, .ref 26, .ref 27, .ref 28, .int 0, .int pk])), (21, .inr (.inl (0, (fL (-1) pms)))), (22, .inr (.inl (0, (fL (-1) pmm)))), (23, .inr (.inl (0, (fL 0 pmt)))), (24, .inr (.inl (0, (fL 0 pst)))), (25, .inr (.inl (0, (fL 0 pwa)))), (26, .inr (.inl (0, (fL 0 prs))))] h0) := by
  show j_V jP d 27 0 [(0, .ref 20)] [] h _
  obtain ⟨lv, elv, L⟩ : ∃ lv, lv = [(0, .ref 20)] ∧ LK lv [(0, .ref 20)] := ⟨_, rfl, LK.rf⟩
  rw [← elv]
  clear elv
  refine j_V.ldL xbpr_M xbpr_0 rfl (i := 0) (kd := 2) (v := .ref 20) (pcJ := 1) rfl L rfl rfl rfl ?_
  refine j_V.getK xbpr_M xbpr_1 (ci := 3) (j := 0) rfl K rfl rfl ?_
  refine j_V.one xbpr_M xbpr_4 (by decide) (pcJ := 5) (stJ := [.int (-1), .ref 21]) rfl ?_
  refine j_V.fil rfl xbpr_M xbpr_5 rfl rfl (Nat.le_of_ble_eq_true rfl) K rfl rfl (fun h K => ?_)
  refine j_V.ldL xbpr_M xbpr_8 rfl (i := 0) (kd := 2) (v := .ref 20) (pcJ := 9) rfl L rfl rfl rfl ?_
  refine j_V.getK xbpr_M xbpr_9 (ci := 3) (j := 1) rfl K rfl rfl ?_
  refine j_V.one xbpr_M xbpr_12 (by decide) (pcJ := 13) (stJ := [.int (-1), .ref 22]) rfl ?_
  refine j_V.fil rfl xbpr_M xbpr_13 rfl rfl (Nat.le_of_ble_eq_true rfl) K rfl rfl (fun h K => ?_)
  refine j_V.ldL xbpr_M xbpr_16 rfl (i := 0) (kd := 2) (v := .ref 20) (pcJ := 17) rfl L rfl rfl rfl ?_
  refine j_V.getK xbpr_M xbpr_17 (ci := 3) (j := 2) rfl K rfl rfl ?_
  refine j_V.one xbpr_M xbpr_20 (by decide) (pcJ := 21) (stJ := [.int 0, .ref 23]) rfl ?_
  refine j_V.fil rfl xbpr_M xbpr_21 rfl rfl (Nat.le_of_ble_eq_true rfl) K rfl rfl (fun h K => ?_)
  refine j_V.ldL xbpr_M xbpr_24 rfl (i := 0) (kd := 2) (v := .ref 20) (pcJ := 25) rfl L rfl rfl rfl ?_
  refine j_V.getK xbpr_M xbpr_25 (ci := 3) (j := 3) rfl K rfl rfl ?_
  refine j_V.one xbpr_M xbpr_28 (by decide) (pcJ := 29) (stJ := [.int 0, .ref 24]) rfl ?_
  refine j_V.fil rfl xbpr_M xbpr_29 rfl rfl (Nat.le_of_ble_eq_true rfl) K rfl rfl (fun h K => ?_)
  refine j_V.ldL xbpr_M xbpr_32 rfl (i := 0) (kd := 2) (v := .ref 20) (pcJ := 33) rfl L rfl rfl rfl ?_
  refine j_V.getK xbpr_M xbpr_33 (ci := 3) (j := 4) rfl K rfl rfl ?_
  refine j_V.one xbpr_M xbpr_36 (by decide) (pcJ := 37) (stJ := [.int 0, .ref 25]) rfl ?_
  refine j_V.fil rfl xbpr_M xbpr_37 rfl rfl (Nat.le_of_ble_eq_true rfl) K rfl rfl (fun h K => ?_)
  refine j_V.ldL xbpr_M xbpr_40 rfl (i := 0) (kd := 2) (v := .ref 20) (pcJ := 41) rfl L rfl rfl rfl ?_
  refine j_V.getK xbpr_M xbpr_41 (ci := 3) (j := 5) rfl K rfl rfl ?_
  refine j_V.one xbpr_M xbpr_44 (by decide) (pcJ := 45) (stJ := [.int 0, .ref 26]) rfl ?_
  refine j_V.fil rfl xbpr_M xbpr_45 rfl rfl (Nat.le_of_ble_eq_true rfl) K rfl rfl (fun h K => ?_)
  refine j_V.ldL xbpr_M xbpr_48 rfl (i := 0) (kd := 2) (v := .ref 20) (pcJ := 49) rfl L rfl rfl rfl ?_
  refine j_V.one xbpr_M xbpr_49 (by decide) (pcJ := 50) (stJ := [.int 0, .ref 20]) rfl ?_
  refine j_V.putK xbpr_M xbpr_50 (ci := 3) (j := 8) (k' := [(20, .inl (3, [.ref 21, .ref 22, .ref 23, .ref 24, .ref 25, .ref 26, .ref 27, .ref 28, .int 0, .int pk])), (21, .inr (.inl (0, (fL (-1) pms)))), (22, .inr (.inl (0, (fL (-1) pmm)))), (23, .inr (.inl (0, (fL 0 pmt)))), (24, .inr (.inl (0, (fL 0 pst)))), (25, .inr (.inl (0, (fL 0 pwa)))), (26, .inr (.inl (0, (fL 0 prs))))]) rfl K rfl (Nat.le_of_ble_eq_true rfl) rfl (Or.inl rfl) rfl rfl (fun h K => ?_)
  exact j_V.ret xbpr_M xbpr_53 rfl rfl ⟨rfl, K⟩
set_option maxRecDepth 100000 in
theorem xbre_M : j_meth jP 59 = some (yX7_reset, cX7_reset, 2, none, 1, false, 7) := rfl
set_option maxRecDepth 100000 in
theorem xbre_0 : j_code jP 59 0 = some (.aload_n 0) := rfl
set_option maxRecDepth 100000 in
theorem xbre_1 : j_code jP 59 1 = some (.aload_n 1) := rfl
set_option maxRecDepth 100000 in
theorem xbre_2 : j_code jP 59 2 = some (.putfield 64) := rfl
set_option maxRecDepth 100000 in
theorem xbre_5 : j_code jP 59 5 = some (.aload_n 0) := rfl
set_option maxRecDepth 100000 in
theorem xbre_6 : j_code jP 59 6 = some (.iconst 0) := rfl
set_option maxRecDepth 100000 in
theorem xbre_7 : j_code jP 59 7 = some (.putfield 68) := rfl
set_option maxRecDepth 100000 in
theorem xbre_10 : j_code jP 59 10 = some (.aload_n 0) := rfl
set_option maxRecDepth 100000 in
theorem xbre_11 : j_code jP 59 11 = some (.iconst 0) := rfl
set_option maxRecDepth 100000 in
theorem xbre_12 : j_code jP 59 12 = some (.putfield 72) := rfl
set_option maxRecDepth 100000 in
theorem xbre_15 : j_code jP 59 15 = some (.aload_n 0) := rfl
set_option maxRecDepth 100000 in
theorem xbre_16 : j_code jP 59 16 = some (.iconst 0) := rfl
set_option maxRecDepth 100000 in
theorem xbre_17 : j_code jP 59 17 = some (.putfield 75) := rfl
set_option maxRecDepth 100000 in
theorem xbre_20 : j_code jP 59 20 = some (.aload_n 0) := rfl
set_option maxRecDepth 100000 in
theorem xbre_21 : j_code jP 59 21 = some (.iconst 0) := rfl
set_option maxRecDepth 100000 in
theorem xbre_22 : j_code jP 59 22 = some (.putfield 78) := rfl
set_option maxRecDepth 100000 in
theorem xbre_25 : j_code jP 59 25 = some (.aload_n 1) := rfl
set_option maxRecDepth 100000 in
theorem xbre_26 : j_code jP 59 26 = some (.getfield 81) := rfl
set_option maxRecDepth 100000 in
theorem xbre_29 : j_code jP 59 29 = some (.iconst 0) := rfl
set_option maxRecDepth 100000 in
theorem xbre_30 : j_code jP 59 30 = some (.aload_n 0) := rfl
set_option maxRecDepth 100000 in
theorem xbre_31 : j_code jP 59 31 = some (.getfield 15) := rfl
set_option maxRecDepth 100000 in
theorem xbre_34 : j_code jP 59 34 = some (.iconst 0) := rfl
set_option maxRecDepth 100000 in
theorem xbre_35 : j_code jP 59 35 = some (.iconst 5) := rfl
set_option maxRecDepth 100000 in
theorem xbre_36 : j_code jP 59 36 = some (.invokestatic 84) := rfl
set_option maxRecDepth 100000 in
theorem xbre_39 : j_code jP 59 39 = some (.aload_n 0) := rfl
set_option maxRecDepth 100000 in
theorem xbre_40 : j_code jP 59 40 = some (.getfield 18) := rfl
set_option maxRecDepth 100000 in
theorem xbre_43 : j_code jP 59 43 = some (.iconst 0) := rfl
set_option maxRecDepth 100000 in
theorem xbre_44 : j_code jP 59 44 = some (.invokestatic 90) := rfl
set_option maxRecDepth 100000 in
theorem xbre_47 : j_code jP 59 47 = some (.aload_n 0) := rfl
set_option maxRecDepth 100000 in
theorem xbre_48 : j_code jP 59 48 = some (.getfield 21) := rfl
set_option maxRecDepth 100000 in
theorem xbre_51 : j_code jP 59 51 = some (.iconst (-1)) := rfl
set_option maxRecDepth 100000 in
theorem xbre_52 : j_code jP 59 52 = some (.invokestatic 90) := rfl
set_option maxRecDepth 100000 in
theorem xbre_55 : j_code jP 59 55 = some (.aload_n 0) := rfl
set_option maxRecDepth 100000 in
theorem xbre_56 : j_code jP 59 56 = some (.getfield 24) := rfl
set_option maxRecDepth 100000 in
theorem xbre_59 : j_code jP 59 59 = some (.iconst (-1)) := rfl
set_option maxRecDepth 100000 in
theorem xbre_60 : j_code jP 59 60 = some (.invokestatic 90) := rfl
set_option maxRecDepth 100000 in
theorem xbre_63 : j_code jP 59 63 = some (.aload_n 0) := rfl
set_option maxRecDepth 100000 in
theorem xbre_64 : j_code jP 59 64 = some (.getfield 27) := rfl
set_option maxRecDepth 100000 in
theorem xbre_67 : j_code jP 59 67 = some (.iconst (-1)) := rfl
set_option maxRecDepth 100000 in
theorem xbre_68 : j_code jP 59 68 = some (.invokestatic 90) := rfl
set_option maxRecDepth 100000 in
theorem xbre_71 : j_code jP 59 71 = some (.aload_n 0) := rfl
set_option maxRecDepth 100000 in
theorem xbre_72 : j_code jP 59 72 = some (.getfield 30) := rfl
set_option maxRecDepth 100000 in
theorem xbre_75 : j_code jP 59 75 = some (.iconst 0) := rfl
set_option maxRecDepth 100000 in
theorem xbre_76 : j_code jP 59 76 = some (.invokestatic 90) := rfl
set_option maxRecDepth 100000 in
theorem xbre_79 : j_code jP 59 79 = some (.aload_n 0) := rfl
set_option maxRecDepth 100000 in
theorem xbre_80 : j_code jP 59 80 = some (.getfield 33) := rfl
set_option maxRecDepth 100000 in
theorem xbre_83 : j_code jP 59 83 = some (.iconst (-1)) := rfl
set_option maxRecDepth 100000 in
theorem xbre_84 : j_code jP 59 84 = some (.invokestatic 90) := rfl
set_option maxRecDepth 100000 in
theorem xbre_87 : j_code jP 59 87 = some (.aload_n 0) := rfl
set_option maxRecDepth 100000 in
theorem xbre_88 : j_code jP 59 88 = some (.getfield 36) := rfl
set_option maxRecDepth 100000 in
theorem xbre_91 : j_code jP 59 91 = some (.iconst 0) := rfl
set_option maxRecDepth 100000 in
theorem xbre_92 : j_code jP 59 92 = some (.invokestatic 90) := rfl
set_option maxRecDepth 100000 in
theorem xbre_95 : j_code jP 59 95 = some (.aload_n 0) := rfl
set_option maxRecDepth 100000 in
theorem xbre_96 : j_code jP 59 96 = some (.getfield 39) := rfl
set_option maxRecDepth 100000 in
theorem xbre_99 : j_code jP 59 99 = some (.iconst (-1)) := rfl
set_option maxRecDepth 100000 in
theorem xbre_100 : j_code jP 59 100 = some (.invokestatic 90) := rfl
set_option maxRecDepth 100000 in
theorem xbre_103 : j_code jP 59 103 = some (.aload_n 0) := rfl
set_option maxRecDepth 100000 in
theorem xbre_104 : j_code jP 59 104 = some (.getfield 42) := rfl
set_option maxRecDepth 100000 in
theorem xbre_107 : j_code jP 59 107 = some (.iconst (-1)) := rfl
set_option maxRecDepth 100000 in
theorem xbre_108 : j_code jP 59 108 = some (.invokestatic 90) := rfl
set_option maxRecDepth 100000 in
theorem xbre_111 : j_code jP 59 111 = some (.aload_n 0) := rfl
set_option maxRecDepth 100000 in
theorem xbre_112 : j_code jP 59 112 = some (.invokevirtual 96) := rfl
set_option maxRecDepth 100000 in
theorem xbre_115 : j_code jP 59 115 = some (.aload_n 0) := rfl
set_option maxRecDepth 100000 in
theorem xbre_116 : j_code jP 59 116 = some (.getfield 60) := rfl
set_option maxRecDepth 100000 in
theorem xbre_119 : j_code jP 59 119 = some (.invokevirtual 99) := rfl
set_option maxRecDepth 100000 in
theorem xbre_122 : j_code jP 59 122 = some (.return_) := rfl
set_option maxRecDepth 1000000 in
theorem xbre_ok {mi : Int32} {shu : Int32} {bus : Int32} {lks : Int32} {rk : List Int32} {sta : List Int32} {ph : List Int32} {sp : List Int32} {ce : List Int32} {du : List Int32} {he : List Int32} {ri : List Int32} {us : List Int32} {cm : List Int32} {lf : List Int32} {pev : Int32} {pk : Int32} {pms : List Int32} {pmm : List Int32} {pmt : List Int32} {pst : List Int32} {pwa : List Int32} {prs : List Int32} {ns : Int32} {nt : Int32} {cel : Int32} {lst : List Int32} {wei : List Int32} {ly : Value} {d : Nat} {h h0 : J_H} (K : KN h [(4, .inl (7, [ly, .int mi, .int shu, .int bus, .ref 5, .ref 6, .ref 7, .ref 8, .ref 9, .ref 10, .ref 11, .ref 12, .ref 13, .ref 14, .ref 15, .int lks, .ref 16, .ref 17, .ref 20])), (5, .inr (.inl (0, rk))), (6, .inr (.inl (0, sta))), (7, .inr (.inl (0, ph))), (8, .inr (.inl (0, sp))), (9, .inr (.inl (0, ce))), (10, .inr (.inl (0, du))), (11, .inr (.inl (0, he))), (12, .inr (.inl (0, ri))), (13, .inr (.inl (0, us))), (14, .inr (.inl (0, cm))), (15, .inr (.inl (0, lf))), (20, .inl (3, [.ref 21, .ref 22, .ref 23, .ref 24, .ref 25, .ref 26, .ref 27, .ref 28, .int pev, .int pk])), (21, .inr (.inl (0, pms))), (22, .inr (.inl (0, pmm))), (23, .inr (.inl (0, pmt))), (24, .inr (.inl (0, pst))), (25, .inr (.inl (0, pwa))), (26, .inr (.inl (0, prs))), (343, .inl (2, [.int ns, .ref 344, .ref 345, .ref 346, .ref 347, .int nt, .ref 348, .ref 349, .ref 350, .ref 351, .ref 352, .ref 353, .ref 354, .int cel, .ref 355, .ref 356, .ref 357, .ref 358])), (352, .inr (.inl (0, lst))), (354, .inr (.inl (0, wei)))] h0) : j_V jP d 59 0 (lv_args 0 [.ref 4, .ref 343]) [] h (fun rv h' => rv = none ∧ KN h' [(4, .inl (7, [.ref 343, .int 0, .int 0, .int 0, .ref 5, .ref 6, .ref 7, .ref 8, .ref 9, .ref 10, .ref 11, .ref 12, .ref 13, .ref 14, .ref 15, .int 0, .ref 16, .ref 17, .ref 20])), (5, .inr (.inl (0, ((x_rankByWeight rk nt wei))))), (6, .inr (.inl (0, (aC 5 lst sta)))), (7, .inr (.inl (0, (fL 0 ph)))), (8, .inr (.inl (0, (fL (-1) sp)))), (9, .inr (.inl (0, (fL (-1) ce)))), (10, .inr (.inl (0, (fL (-1) du)))), (11, .inr (.inl (0, (fL 0 he)))), (12, .inr (.inl (0, (fL (-1) ri)))), (13, .inr (.inl (0, (fL 0 us)))), (14, .inr (.inl (0, (fL (-1) cm)))), (15, .inr (.inl (0, (fL (-1) lf)))), (20, .inl (3, [.ref 21, .ref 22, .ref 23, .ref 24, .ref 25, .ref 26, .ref 27, .ref 28, .int 0, .int pk])), (21, .inr (.inl (0, (fL (-1) pms)))), (22, .inr (.inl (0, (fL (-1) pmm)))), (23, .inr (.inl (0, (fL 0 pmt)))), (24, .inr (.inl (0, (fL 0 pst)))), (25, .inr (.inl (0, (fL 0 pwa)))), (26, .inr (.inl (0, (fL 0 prs)))), (343, .inl (2, [.int ns, .ref 344, .ref 345, .ref 346, .ref 347, .int nt, .ref 348, .ref 349, .ref 350, .ref 351, .ref 352, .ref 353, .ref 354, .int cel, .ref 355, .ref 356, .ref 357, .ref 358])), (352, .inr (.inl (0, lst))), (354, .inr (.inl (0, wei)))] h0) := by
  show j_V jP d 59 0 [(0, .ref 4), (1, .ref 343)] [] h _
  obtain ⟨lv, elv, L⟩ : ∃ lv, lv = [(0, .ref 4), (1, .ref 343)] ∧ LK lv [(0, .ref 4), (1, .ref 343)] := ⟨_, rfl, LK.rf⟩
  rw [← elv]
  clear elv
  refine j_V.ldL xbre_M xbre_0 rfl (i := 0) (kd := 2) (v := .ref 4) (pcJ := 1) rfl L rfl rfl rfl ?_
  refine j_V.ldL xbre_M xbre_1 rfl (i := 1) (kd := 2) (v := .ref 343) (pcJ := 2) rfl L rfl rfl rfl ?_
  refine j_V.putK xbre_M xbre_2 (ci := 7) (j := 0) (k' := [(4, .inl (7, [.ref 343, .int mi, .int shu, .int bus, .ref 5, .ref 6, .ref 7, .ref 8, .ref 9, .ref 10, .ref 11, .ref 12, .ref 13, .ref 14, .ref 15, .int lks, .ref 16, .ref 17, .ref 20])), (5, .inr (.inl (0, rk))), (6, .inr (.inl (0, sta))), (7, .inr (.inl (0, ph))), (8, .inr (.inl (0, sp))), (9, .inr (.inl (0, ce))), (10, .inr (.inl (0, du))), (11, .inr (.inl (0, he))), (12, .inr (.inl (0, ri))), (13, .inr (.inl (0, us))), (14, .inr (.inl (0, cm))), (15, .inr (.inl (0, lf))), (20, .inl (3, [.ref 21, .ref 22, .ref 23, .ref 24, .ref 25, .ref 26, .ref 27, .ref 28, .int pev, .int pk])), (21, .inr (.inl (0, pms))), (22, .inr (.inl (0, pmm))), (23, .inr (.inl (0, pmt))), (24, .inr (.inl (0, pst))), (25, .inr (.inl (0, pwa))), (26, .inr (.inl (0, prs))), (343, .inl (2, [.int ns, .ref 344, .ref 345, .ref 346, .ref 347, .int nt, .ref 348, .ref 349, .ref 350, .ref 351, .ref 352, .ref 353, .ref 354, .int cel, .ref 355, .ref 356, .ref 357, .ref 358])), (352, .inr (.inl (0, lst))), (354, .inr (.inl (0, wei)))]) rfl K rfl (Nat.le_of_ble_eq_true rfl) rfl (Or.inl rfl) rfl rfl (fun h K => ?_)
  refine j_V.ldL xbre_M xbre_5 rfl (i := 0) (kd := 2) (v := .ref 4) (pcJ := 6) rfl L rfl rfl rfl ?_
  refine j_V.one xbre_M xbre_6 (by decide) (pcJ := 7) (stJ := [.int 0, .ref 4]) rfl ?_
  refine j_V.putK xbre_M xbre_7 (ci := 7) (j := 1) (k' := [(4, .inl (7, [.ref 343, .int 0, .int shu, .int bus, .ref 5, .ref 6, .ref 7, .ref 8, .ref 9, .ref 10, .ref 11, .ref 12, .ref 13, .ref 14, .ref 15, .int lks, .ref 16, .ref 17, .ref 20])), (5, .inr (.inl (0, rk))), (6, .inr (.inl (0, sta))), (7, .inr (.inl (0, ph))), (8, .inr (.inl (0, sp))), (9, .inr (.inl (0, ce))), (10, .inr (.inl (0, du))), (11, .inr (.inl (0, he))), (12, .inr (.inl (0, ri))), (13, .inr (.inl (0, us))), (14, .inr (.inl (0, cm))), (15, .inr (.inl (0, lf))), (20, .inl (3, [.ref 21, .ref 22, .ref 23, .ref 24, .ref 25, .ref 26, .ref 27, .ref 28, .int pev, .int pk])), (21, .inr (.inl (0, pms))), (22, .inr (.inl (0, pmm))), (23, .inr (.inl (0, pmt))), (24, .inr (.inl (0, pst))), (25, .inr (.inl (0, pwa))), (26, .inr (.inl (0, prs))), (343, .inl (2, [.int ns, .ref 344, .ref 345, .ref 346, .ref 347, .int nt, .ref 348, .ref 349, .ref 350, .ref 351, .ref 352, .ref 353, .ref 354, .int cel, .ref 355, .ref 356, .ref 357, .ref 358])), (352, .inr (.inl (0, lst))), (354, .inr (.inl (0, wei)))]) rfl K rfl (Nat.le_of_ble_eq_true rfl) rfl (Or.inl rfl) rfl rfl (fun h K => ?_)
  refine j_V.ldL xbre_M xbre_10 rfl (i := 0) (kd := 2) (v := .ref 4) (pcJ := 11) rfl L rfl rfl rfl ?_
  refine j_V.one xbre_M xbre_11 (by decide) (pcJ := 12) (stJ := [.int 0, .ref 4]) rfl ?_
  refine j_V.putK xbre_M xbre_12 (ci := 7) (j := 2) (k' := [(4, .inl (7, [.ref 343, .int 0, .int 0, .int bus, .ref 5, .ref 6, .ref 7, .ref 8, .ref 9, .ref 10, .ref 11, .ref 12, .ref 13, .ref 14, .ref 15, .int lks, .ref 16, .ref 17, .ref 20])), (5, .inr (.inl (0, rk))), (6, .inr (.inl (0, sta))), (7, .inr (.inl (0, ph))), (8, .inr (.inl (0, sp))), (9, .inr (.inl (0, ce))), (10, .inr (.inl (0, du))), (11, .inr (.inl (0, he))), (12, .inr (.inl (0, ri))), (13, .inr (.inl (0, us))), (14, .inr (.inl (0, cm))), (15, .inr (.inl (0, lf))), (20, .inl (3, [.ref 21, .ref 22, .ref 23, .ref 24, .ref 25, .ref 26, .ref 27, .ref 28, .int pev, .int pk])), (21, .inr (.inl (0, pms))), (22, .inr (.inl (0, pmm))), (23, .inr (.inl (0, pmt))), (24, .inr (.inl (0, pst))), (25, .inr (.inl (0, pwa))), (26, .inr (.inl (0, prs))), (343, .inl (2, [.int ns, .ref 344, .ref 345, .ref 346, .ref 347, .int nt, .ref 348, .ref 349, .ref 350, .ref 351, .ref 352, .ref 353, .ref 354, .int cel, .ref 355, .ref 356, .ref 357, .ref 358])), (352, .inr (.inl (0, lst))), (354, .inr (.inl (0, wei)))]) rfl K rfl (Nat.le_of_ble_eq_true rfl) rfl (Or.inl rfl) rfl rfl (fun h K => ?_)
  refine j_V.ldL xbre_M xbre_15 rfl (i := 0) (kd := 2) (v := .ref 4) (pcJ := 16) rfl L rfl rfl rfl ?_
  refine j_V.one xbre_M xbre_16 (by decide) (pcJ := 17) (stJ := [.int 0, .ref 4]) rfl ?_
  refine j_V.putK xbre_M xbre_17 (ci := 7) (j := 3) (k' := [(4, .inl (7, [.ref 343, .int 0, .int 0, .int 0, .ref 5, .ref 6, .ref 7, .ref 8, .ref 9, .ref 10, .ref 11, .ref 12, .ref 13, .ref 14, .ref 15, .int lks, .ref 16, .ref 17, .ref 20])), (5, .inr (.inl (0, rk))), (6, .inr (.inl (0, sta))), (7, .inr (.inl (0, ph))), (8, .inr (.inl (0, sp))), (9, .inr (.inl (0, ce))), (10, .inr (.inl (0, du))), (11, .inr (.inl (0, he))), (12, .inr (.inl (0, ri))), (13, .inr (.inl (0, us))), (14, .inr (.inl (0, cm))), (15, .inr (.inl (0, lf))), (20, .inl (3, [.ref 21, .ref 22, .ref 23, .ref 24, .ref 25, .ref 26, .ref 27, .ref 28, .int pev, .int pk])), (21, .inr (.inl (0, pms))), (22, .inr (.inl (0, pmm))), (23, .inr (.inl (0, pmt))), (24, .inr (.inl (0, pst))), (25, .inr (.inl (0, pwa))), (26, .inr (.inl (0, prs))), (343, .inl (2, [.int ns, .ref 344, .ref 345, .ref 346, .ref 347, .int nt, .ref 348, .ref 349, .ref 350, .ref 351, .ref 352, .ref 353, .ref 354, .int cel, .ref 355, .ref 356, .ref 357, .ref 358])), (352, .inr (.inl (0, lst))), (354, .inr (.inl (0, wei)))]) rfl K rfl (Nat.le_of_ble_eq_true rfl) rfl (Or.inl rfl) rfl rfl (fun h K => ?_)
  refine j_V.ldL xbre_M xbre_20 rfl (i := 0) (kd := 2) (v := .ref 4) (pcJ := 21) rfl L rfl rfl rfl ?_
  refine j_V.one xbre_M xbre_21 (by decide) (pcJ := 22) (stJ := [.int 0, .ref 4]) rfl ?_
  refine j_V.putK xbre_M xbre_22 (ci := 7) (j := 15) (k' := [(4, .inl (7, [.ref 343, .int 0, .int 0, .int 0, .ref 5, .ref 6, .ref 7, .ref 8, .ref 9, .ref 10, .ref 11, .ref 12, .ref 13, .ref 14, .ref 15, .int 0, .ref 16, .ref 17, .ref 20])), (5, .inr (.inl (0, rk))), (6, .inr (.inl (0, sta))), (7, .inr (.inl (0, ph))), (8, .inr (.inl (0, sp))), (9, .inr (.inl (0, ce))), (10, .inr (.inl (0, du))), (11, .inr (.inl (0, he))), (12, .inr (.inl (0, ri))), (13, .inr (.inl (0, us))), (14, .inr (.inl (0, cm))), (15, .inr (.inl (0, lf))), (20, .inl (3, [.ref 21, .ref 22, .ref 23, .ref 24, .ref 25, .ref 26, .ref 27, .ref 28, .int pev, .int pk])), (21, .inr (.inl (0, pms))), (22, .inr (.inl (0, pmm))), (23, .inr (.inl (0, pmt))), (24, .inr (.inl (0, pst))), (25, .inr (.inl (0, pwa))), (26, .inr (.inl (0, prs))), (343, .inl (2, [.int ns, .ref 344, .ref 345, .ref 346, .ref 347, .int nt, .ref 348, .ref 349, .ref 350, .ref 351, .ref 352, .ref 353, .ref 354, .int cel, .ref 355, .ref 356, .ref 357, .ref 358])), (352, .inr (.inl (0, lst))), (354, .inr (.inl (0, wei)))]) rfl K rfl (Nat.le_of_ble_eq_true rfl) rfl (Or.inl rfl) rfl rfl (fun h K => ?_)
  refine j_V.ldL xbre_M xbre_25 rfl (i := 1) (kd := 2) (v := .ref 343) (pcJ := 26) rfl L rfl rfl rfl ?_
  refine j_V.getK xbre_M xbre_26 (ci := 2) (j := 10) rfl K rfl rfl ?_
  refine j_V.one xbre_M xbre_29 (by decide) (pcJ := 30) (stJ := [.int 0, .ref 352]) rfl ?_
  refine j_V.ldL xbre_M xbre_30 rfl (i := 0) (kd := 2) (v := .ref 4) (pcJ := 31) rfl L rfl rfl rfl ?_
  refine j_V.getK xbre_M xbre_31 (ci := 7) (j := 5) rfl K rfl rfl ?_
  refine j_V.one xbre_M xbre_34 (by decide) (pcJ := 35) (stJ := [.int 0, .ref 6, .int 0, .ref 352]) rfl ?_
  refine j_V.one xbre_M xbre_35 (by decide) (pcJ := 36) (stJ := [.int 5, .int 0, .ref 6, .int 0, .ref 352]) rfl ?_
  refine j_V.acp xbre_M xbre_36 rfl rfl K rfl rfl rfl (fun h K => ?_)
  refine j_V.ldL xbre_M xbre_39 rfl (i := 0) (kd := 2) (v := .ref 4) (pcJ := 40) rfl L rfl rfl rfl ?_
  refine j_V.getK xbre_M xbre_40 (ci := 7) (j := 6) rfl K rfl rfl ?_
  refine j_V.one xbre_M xbre_43 (by decide) (pcJ := 44) (stJ := [.int 0, .ref 7]) rfl ?_
  refine j_V.fil rfl xbre_M xbre_44 rfl rfl (Nat.le_of_ble_eq_true rfl) K rfl rfl (fun h K => ?_)
  refine j_V.ldL xbre_M xbre_47 rfl (i := 0) (kd := 2) (v := .ref 4) (pcJ := 48) rfl L rfl rfl rfl ?_
  refine j_V.getK xbre_M xbre_48 (ci := 7) (j := 7) rfl K rfl rfl ?_
  refine j_V.one xbre_M xbre_51 (by decide) (pcJ := 52) (stJ := [.int (-1), .ref 8]) rfl ?_
  refine j_V.fil rfl xbre_M xbre_52 rfl rfl (Nat.le_of_ble_eq_true rfl) K rfl rfl (fun h K => ?_)
  refine j_V.ldL xbre_M xbre_55 rfl (i := 0) (kd := 2) (v := .ref 4) (pcJ := 56) rfl L rfl rfl rfl ?_
  refine j_V.getK xbre_M xbre_56 (ci := 7) (j := 8) rfl K rfl rfl ?_
  refine j_V.one xbre_M xbre_59 (by decide) (pcJ := 60) (stJ := [.int (-1), .ref 9]) rfl ?_
  refine j_V.fil rfl xbre_M xbre_60 rfl rfl (Nat.le_of_ble_eq_true rfl) K rfl rfl (fun h K => ?_)
  refine j_V.ldL xbre_M xbre_63 rfl (i := 0) (kd := 2) (v := .ref 4) (pcJ := 64) rfl L rfl rfl rfl ?_
  refine j_V.getK xbre_M xbre_64 (ci := 7) (j := 9) rfl K rfl rfl ?_
  refine j_V.one xbre_M xbre_67 (by decide) (pcJ := 68) (stJ := [.int (-1), .ref 10]) rfl ?_
  refine j_V.fil rfl xbre_M xbre_68 rfl rfl (Nat.le_of_ble_eq_true rfl) K rfl rfl (fun h K => ?_)
  refine j_V.ldL xbre_M xbre_71 rfl (i := 0) (kd := 2) (v := .ref 4) (pcJ := 72) rfl L rfl rfl rfl ?_
  refine j_V.getK xbre_M xbre_72 (ci := 7) (j := 10) rfl K rfl rfl ?_
  refine j_V.one xbre_M xbre_75 (by decide) (pcJ := 76) (stJ := [.int 0, .ref 11]) rfl ?_
  refine j_V.fil rfl xbre_M xbre_76 rfl rfl (Nat.le_of_ble_eq_true rfl) K rfl rfl (fun h K => ?_)
  refine j_V.ldL xbre_M xbre_79 rfl (i := 0) (kd := 2) (v := .ref 4) (pcJ := 80) rfl L rfl rfl rfl ?_
  refine j_V.getK xbre_M xbre_80 (ci := 7) (j := 11) rfl K rfl rfl ?_
  refine j_V.one xbre_M xbre_83 (by decide) (pcJ := 84) (stJ := [.int (-1), .ref 12]) rfl ?_
  refine j_V.fil rfl xbre_M xbre_84 rfl rfl (Nat.le_of_ble_eq_true rfl) K rfl rfl (fun h K => ?_)
  refine j_V.ldL xbre_M xbre_87 rfl (i := 0) (kd := 2) (v := .ref 4) (pcJ := 88) rfl L rfl rfl rfl ?_
  refine j_V.getK xbre_M xbre_88 (ci := 7) (j := 12) rfl K rfl rfl ?_
  refine j_V.one xbre_M xbre_91 (by decide) (pcJ := 92) (stJ := [.int 0, .ref 13]) rfl ?_
  refine j_V.fil rfl xbre_M xbre_92 rfl rfl (Nat.le_of_ble_eq_true rfl) K rfl rfl (fun h K => ?_)
  refine j_V.ldL xbre_M xbre_95 rfl (i := 0) (kd := 2) (v := .ref 4) (pcJ := 96) rfl L rfl rfl rfl ?_
  refine j_V.getK xbre_M xbre_96 (ci := 7) (j := 13) rfl K rfl rfl ?_
  refine j_V.one xbre_M xbre_99 (by decide) (pcJ := 100) (stJ := [.int (-1), .ref 14]) rfl ?_
  refine j_V.fil rfl xbre_M xbre_100 rfl rfl (Nat.le_of_ble_eq_true rfl) K rfl rfl (fun h K => ?_)
  refine j_V.ldL xbre_M xbre_103 rfl (i := 0) (kd := 2) (v := .ref 4) (pcJ := 104) rfl L rfl rfl rfl ?_
  refine j_V.getK xbre_M xbre_104 (ci := 7) (j := 14) rfl K rfl rfl ?_
  refine j_V.one xbre_M xbre_107 (by decide) (pcJ := 108) (stJ := [.int (-1), .ref 15]) rfl ?_
  refine j_V.fil rfl xbre_M xbre_108 rfl rfl (Nat.le_of_ble_eq_true rfl) K rfl rfl (fun h K => ?_)
  refine j_V.ldL xbre_M xbre_111 rfl (i := 0) (kd := 2) (v := .ref 4) (pcJ := 112) rfl L rfl rfl rfl ?_
  refine j_V.cl xbre_M xbre_112 rfl (md := 3) (mj := 60) rfl (by decide) xb203_M (As := [.ref 4]) (rest := []) (jk_spl3 (K.at rfl) rfl rfl rfl (Nat.le_of_ble_eq_true rfl) (Nat.le_of_ble_eq_true rfl)) (fun d => xb203_ok (K.fi [4, 5, 343, 354] rfl rfl)) ?_
  rintro r h9 ⟨rfl, K9⟩
  have K : KN h9 [(4, .inl (7, [.ref 343, .int 0, .int 0, .int 0, .ref 5, .ref 6, .ref 7, .ref 8, .ref 9, .ref 10, .ref 11, .ref 12, .ref 13, .ref 14, .ref 15, .int 0, .ref 16, .ref 17, .ref 20])), (5, .inr (.inl (0, ((x_rankByWeight rk nt wei))))), (6, .inr (.inl (0, (aC 5 lst sta)))), (7, .inr (.inl (0, (fL 0 ph)))), (8, .inr (.inl (0, (fL (-1) sp)))), (9, .inr (.inl (0, (fL (-1) ce)))), (10, .inr (.inl (0, (fL (-1) du)))), (11, .inr (.inl (0, (fL 0 he)))), (12, .inr (.inl (0, (fL (-1) ri)))), (13, .inr (.inl (0, (fL 0 us)))), (14, .inr (.inl (0, (fL (-1) cm)))), (15, .inr (.inl (0, (fL (-1) lf)))), (20, .inl (3, [.ref 21, .ref 22, .ref 23, .ref 24, .ref 25, .ref 26, .ref 27, .ref 28, .int pev, .int pk])), (21, .inr (.inl (0, pms))), (22, .inr (.inl (0, pmm))), (23, .inr (.inl (0, pmt))), (24, .inr (.inl (0, pst))), (25, .inr (.inl (0, pwa))), (26, .inr (.inl (0, prs))), (343, .inl (2, [.int ns, .ref 344, .ref 345, .ref 346, .ref 347, .int nt, .ref 348, .ref 349, .ref 350, .ref 351, .ref 352, .ref 353, .ref 354, .int cel, .ref 355, .ref 356, .ref 357, .ref 358])), (352, .inr (.inl (0, lst))), (354, .inr (.inl (0, wei)))] h0 := K.mg K9 rfl rfl
  clear K9
  show j_V jP _ 59 115 lv [] h9 _
  refine j_V.ldL xbre_M xbre_115 rfl (i := 0) (kd := 2) (v := .ref 4) (pcJ := 116) rfl L rfl rfl rfl ?_
  refine j_V.getK xbre_M xbre_116 (ci := 7) (j := 18) rfl K rfl rfl ?_
  refine j_V.cl xbre_M xbre_119 rfl (md := 3) (mj := 27) rfl (by decide) xbpr_M (As := [.ref 20]) (rest := []) (jk_spl3 (K.at rfl) rfl rfl rfl (Nat.le_of_ble_eq_true rfl) (Nat.le_of_ble_eq_true rfl)) (fun d => xbpr_ok (K.fi [20, 21, 22, 23, 24, 25, 26] rfl rfl)) ?_
  rintro r h9 ⟨rfl, K9⟩
  have K : KN h9 [(4, .inl (7, [.ref 343, .int 0, .int 0, .int 0, .ref 5, .ref 6, .ref 7, .ref 8, .ref 9, .ref 10, .ref 11, .ref 12, .ref 13, .ref 14, .ref 15, .int 0, .ref 16, .ref 17, .ref 20])), (5, .inr (.inl (0, ((x_rankByWeight rk nt wei))))), (6, .inr (.inl (0, (aC 5 lst sta)))), (7, .inr (.inl (0, (fL 0 ph)))), (8, .inr (.inl (0, (fL (-1) sp)))), (9, .inr (.inl (0, (fL (-1) ce)))), (10, .inr (.inl (0, (fL (-1) du)))), (11, .inr (.inl (0, (fL 0 he)))), (12, .inr (.inl (0, (fL (-1) ri)))), (13, .inr (.inl (0, (fL 0 us)))), (14, .inr (.inl (0, (fL (-1) cm)))), (15, .inr (.inl (0, (fL (-1) lf)))), (20, .inl (3, [.ref 21, .ref 22, .ref 23, .ref 24, .ref 25, .ref 26, .ref 27, .ref 28, .int 0, .int pk])), (21, .inr (.inl (0, (fL (-1) pms)))), (22, .inr (.inl (0, (fL (-1) pmm)))), (23, .inr (.inl (0, (fL 0 pmt)))), (24, .inr (.inl (0, (fL 0 pst)))), (25, .inr (.inl (0, (fL 0 pwa)))), (26, .inr (.inl (0, (fL 0 prs)))), (343, .inl (2, [.int ns, .ref 344, .ref 345, .ref 346, .ref 347, .int nt, .ref 348, .ref 349, .ref 350, .ref 351, .ref 352, .ref 353, .ref 354, .int cel, .ref 355, .ref 356, .ref 357, .ref 358])), (352, .inr (.inl (0, lst))), (354, .inr (.inl (0, wei)))] h0 := K.mg K9 rfl rfl
  clear K9
  show j_V jP _ 59 122 lv [] h9 _
  exact j_V.ret xbre_M xbre_122 rfl rfl ⟨rfl, K⟩

/-! layouts settled, states reset (state 282, layout 307), by wip/px/gen_w2.py -/
set_option maxRecDepth 100000 in
theorem xesw_M : j_meth jP 21 = some (yX2_settleWay, cX2_settleWay, 5, none, 1, false, 2) := rfl
set_option maxRecDepth 100000 in
theorem xesw_0 : j_code jP 21 0 = some (.iconst 0) := rfl
set_option maxRecDepth 100000 in
theorem xesw_1 : j_code jP 21 1 = some (.istore_n 2) := rfl
set_option maxRecDepth 100000 in
theorem xesw_2 : j_code jP 21 2 = some (.iload_n 2) := rfl
set_option maxRecDepth 100000 in
theorem xesw_3 : j_code jP 21 3 = some (.aload_n 0) := rfl
set_option maxRecDepth 100000 in
theorem xesw_4 : j_code jP 21 4 = some (.getfield 58) := rfl
set_option maxRecDepth 100000 in
theorem xesw_7 : j_code jP 21 7 = some (.iconst 1) := rfl
set_option maxRecDepth 100000 in
theorem xesw_8 : j_code jP 21 8 = some (.isub) := rfl
set_option maxRecDepth 100000 in
theorem xesw_9 : j_code jP 21 9 = some (.if_icmp .ge 41) := rfl
set_option maxRecDepth 100000 in
theorem xesw_12 : j_code jP 21 12 = some (.aload_n 0) := rfl
set_option maxRecDepth 100000 in
theorem xesw_13 : j_code jP 21 13 = some (.getfield 52) := rfl
set_option maxRecDepth 100000 in
theorem xesw_16 : j_code jP 21 16 = some (.iload_n 1) := rfl
set_option maxRecDepth 100000 in
theorem xesw_17 : j_code jP 21 17 = some (.bipush 6) := rfl
set_option maxRecDepth 100000 in
theorem xesw_19 : j_code jP 21 19 = some (.imul) := rfl
set_option maxRecDepth 100000 in
theorem xesw_20 : j_code jP 21 20 = some (.iload_n 2) := rfl
set_option maxRecDepth 100000 in
theorem xesw_21 : j_code jP 21 21 = some (.iadd) := rfl
set_option maxRecDepth 100000 in
theorem xesw_22 : j_code jP 21 22 = some (.aload_n 0) := rfl
set_option maxRecDepth 100000 in
theorem xesw_23 : j_code jP 21 23 = some (.getfield 15) := rfl
set_option maxRecDepth 100000 in
theorem xesw_26 : j_code jP 21 26 = some (.iload_n 2) := rfl
set_option maxRecDepth 100000 in
theorem xesw_27 : j_code jP 21 27 = some (.iconst 1) := rfl
set_option maxRecDepth 100000 in
theorem xesw_28 : j_code jP 21 28 = some (.iadd) := rfl
set_option maxRecDepth 100000 in
theorem xesw_29 : j_code jP 21 29 = some (.iaload) := rfl
set_option maxRecDepth 100000 in
theorem xesw_30 : j_code jP 21 30 = some (.iconst 2) := rfl
set_option maxRecDepth 100000 in
theorem xesw_31 : j_code jP 21 31 = some (.aload_n 0) := rfl
set_option maxRecDepth 100000 in
theorem xesw_32 : j_code jP 21 32 = some (.getfield 40) := rfl
set_option maxRecDepth 100000 in
theorem xesw_35 : j_code jP 21 35 = some (.iload_n 1) := rfl
set_option maxRecDepth 100000 in
theorem xesw_36 : j_code jP 21 36 = some (.iaload) := rfl
set_option maxRecDepth 100000 in
theorem xesw_37 : j_code jP 21 37 = some (.iadd) := rfl
set_option maxRecDepth 100000 in
theorem xesw_38 : j_code jP 21 38 = some (.imul) := rfl
set_option maxRecDepth 100000 in
theorem xesw_39 : j_code jP 21 39 = some (.iconst 1) := rfl
set_option maxRecDepth 100000 in
theorem xesw_40 : j_code jP 21 40 = some (.iadd) := rfl
set_option maxRecDepth 100000 in
theorem xesw_41 : j_code jP 21 41 = some (.iconst 2) := rfl
set_option maxRecDepth 100000 in
theorem xesw_42 : j_code jP 21 42 = some (.idiv) := rfl
set_option maxRecDepth 100000 in
theorem xesw_43 : j_code jP 21 43 = some (.iastore) := rfl
set_option maxRecDepth 100000 in
theorem xesw_44 : j_code jP 21 44 = some (.iinc 2 1) := rfl
set_option maxRecDepth 100000 in
theorem xesw_47 : j_code jP 21 47 = some (.goto (-45)) := rfl
set_option maxRecDepth 100000 in
theorem xesw_50 : j_code jP 21 50 = some (.aload_n 0) := rfl
set_option maxRecDepth 100000 in
theorem xesw_51 : j_code jP 21 51 = some (.getfield 55) := rfl
set_option maxRecDepth 100000 in
theorem xesw_54 : j_code jP 21 54 = some (.iload_n 1) := rfl
set_option maxRecDepth 100000 in
theorem xesw_55 : j_code jP 21 55 = some (.aload_n 0) := rfl
set_option maxRecDepth 100000 in
theorem xesw_56 : j_code jP 21 56 = some (.iload_n 1) := rfl
set_option maxRecDepth 100000 in
theorem xesw_57 : j_code jP 21 57 = some (.aload_n 0) := rfl
set_option maxRecDepth 100000 in
theorem xesw_58 : j_code jP 21 58 = some (.getfield 34) := rfl
set_option maxRecDepth 100000 in
theorem xesw_61 : j_code jP 21 61 = some (.iload_n 1) := rfl
set_option maxRecDepth 100000 in
theorem xesw_62 : j_code jP 21 62 = some (.iaload) := rfl
set_option maxRecDepth 100000 in
theorem xesw_63 : j_code jP 21 63 = some (.invokevirtual 79) := rfl
set_option maxRecDepth 100000 in
theorem xesw_66 : j_code jP 21 66 = some (.iastore) := rfl
set_option maxRecDepth 100000 in
theorem xesw_67 : j_code jP 21 67 = some (.iconst 0) := rfl
set_option maxRecDepth 100000 in
theorem xesw_68 : j_code jP 21 68 = some (.istore_n 2) := rfl
set_option maxRecDepth 100000 in
theorem xesw_69 : j_code jP 21 69 = some (.iload_n 2) := rfl
set_option maxRecDepth 100000 in
theorem xesw_70 : j_code jP 21 70 = some (.aload_n 0) := rfl
set_option maxRecDepth 100000 in
theorem xesw_71 : j_code jP 21 71 = some (.getfield 58) := rfl
set_option maxRecDepth 100000 in
theorem xesw_74 : j_code jP 21 74 = some (.if_icmp .ge 67) := rfl
set_option maxRecDepth 100000 in
theorem xesw_77 : j_code jP 21 77 = some (.iconst 0) := rfl
set_option maxRecDepth 100000 in
theorem xesw_78 : j_code jP 21 78 = some (.istore_n 3) := rfl
set_option maxRecDepth 100000 in
theorem xesw_79 : j_code jP 21 79 = some (.iload_n 2) := rfl
set_option maxRecDepth 100000 in
theorem xesw_80 : j_code jP 21 80 = some (.aload_n 0) := rfl
set_option maxRecDepth 100000 in
theorem xesw_81 : j_code jP 21 81 = some (.getfield 34) := rfl
set_option maxRecDepth 100000 in
theorem xesw_84 : j_code jP 21 84 = some (.iload_n 1) := rfl
set_option maxRecDepth 100000 in
theorem xesw_85 : j_code jP 21 85 = some (.iaload) := rfl
set_option maxRecDepth 100000 in
theorem xesw_86 : j_code jP 21 86 = some (.invokestatic 83) := rfl
set_option maxRecDepth 100000 in
theorem xesw_89 : j_code jP 21 89 = some (.iconst 1) := rfl
set_option maxRecDepth 100000 in
theorem xesw_90 : j_code jP 21 90 = some (.iadd) := rfl
set_option maxRecDepth 100000 in
theorem xesw_91 : j_code jP 21 91 = some (.istore 4) := rfl
set_option maxRecDepth 100000 in
theorem xesw_93 : j_code jP 21 93 = some (.iload 4) := rfl
set_option maxRecDepth 100000 in
theorem xesw_95 : j_code jP 21 95 = some (.iload_n 2) := rfl
set_option maxRecDepth 100000 in
theorem xesw_96 : j_code jP 21 96 = some (.aload_n 0) := rfl
set_option maxRecDepth 100000 in
theorem xesw_97 : j_code jP 21 97 = some (.getfield 34) := rfl
set_option maxRecDepth 100000 in
theorem xesw_100 : j_code jP 21 100 = some (.iload_n 1) := rfl
set_option maxRecDepth 100000 in
theorem xesw_101 : j_code jP 21 101 = some (.iaload) := rfl
set_option maxRecDepth 100000 in
theorem xesw_102 : j_code jP 21 102 = some (.invokestatic 88) := rfl
set_option maxRecDepth 100000 in
theorem xesw_105 : j_code jP 21 105 = some (.if_icmp .ge 18) := rfl
set_option maxRecDepth 100000 in
theorem xesw_108 : j_code jP 21 108 = some (.iload_n 3) := rfl
set_option maxRecDepth 100000 in
theorem xesw_109 : j_code jP 21 109 = some (.iconst 1) := rfl
set_option maxRecDepth 100000 in
theorem xesw_110 : j_code jP 21 110 = some (.iload 4) := rfl
set_option maxRecDepth 100000 in
theorem xesw_112 : j_code jP 21 112 = some (.iconst 3) := rfl
set_option maxRecDepth 100000 in
theorem xesw_113 : j_code jP 21 113 = some (.imul) := rfl
set_option maxRecDepth 100000 in
theorem xesw_114 : j_code jP 21 114 = some (.ishl) := rfl
set_option maxRecDepth 100000 in
theorem xesw_115 : j_code jP 21 115 = some (.ior) := rfl
set_option maxRecDepth 100000 in
theorem xesw_116 : j_code jP 21 116 = some (.istore_n 3) := rfl
set_option maxRecDepth 100000 in
theorem xesw_117 : j_code jP 21 117 = some (.iinc 4 1) := rfl
set_option maxRecDepth 100000 in
theorem xesw_120 : j_code jP 21 120 = some (.goto (-27)) := rfl
set_option maxRecDepth 100000 in
theorem xesw_123 : j_code jP 21 123 = some (.aload_n 0) := rfl
set_option maxRecDepth 100000 in
theorem xesw_124 : j_code jP 21 124 = some (.getfield 49) := rfl
set_option maxRecDepth 100000 in
theorem xesw_127 : j_code jP 21 127 = some (.iload_n 1) := rfl
set_option maxRecDepth 100000 in
theorem xesw_128 : j_code jP 21 128 = some (.bipush 7) := rfl
set_option maxRecDepth 100000 in
theorem xesw_130 : j_code jP 21 130 = some (.imul) := rfl
set_option maxRecDepth 100000 in
theorem xesw_131 : j_code jP 21 131 = some (.iload_n 2) := rfl
set_option maxRecDepth 100000 in
theorem xesw_132 : j_code jP 21 132 = some (.iadd) := rfl
set_option maxRecDepth 100000 in
theorem xesw_133 : j_code jP 21 133 = some (.iload_n 3) := rfl
set_option maxRecDepth 100000 in
theorem xesw_134 : j_code jP 21 134 = some (.iastore) := rfl
set_option maxRecDepth 100000 in
theorem xesw_135 : j_code jP 21 135 = some (.iinc 2 1) := rfl
set_option maxRecDepth 100000 in
theorem xesw_138 : j_code jP 21 138 = some (.goto (-69)) := rfl
set_option maxRecDepth 100000 in
theorem xesw_141 : j_code jP 21 141 = some (.return_) := rfl
set_option maxRecDepth 1000000 in
theorem xesw_in {ns : Int32} {nt : Int32} {cel : Int32} {tto : List Int32} {d : Nat} {h h0 : J_H} {x1 v2 : Int32} {Q : Option Value → J_H → Prop} (K : KN h [(307, .inl (2, [.int ns, .ref 308, .ref 309, .ref 310, .ref 311, .int nt, .ref 312, .ref 313, .ref 314, .ref 315, .ref 316, .ref 317, .ref 318, .int cel, .ref 319, .ref 320, .ref 321, .ref 322])), (315, .inr (.inl (0, tto)))] h0) : ∀ (f : Nat) (v4 v3 : Int32) {lv : J_L}, lpN (iMx v2 (gA tto x1)) v4 = f → LK lv [(0, .ref 307), (1, .int x1), (2, .int v2), (3, .int v3), (4, .int v4)] → (∀ lv, LK lv [(0, .ref 307), (1, .int x1), (2, .int v2), (3, .int (x_wayb f v4 v3))] → j_V jP d 21 123 lv [] h Q) → j_V jP d 21 93 lv [] h Q := by
  intro f
  induction f with
  | zero =>
    intro v4 v3 lv e L kk
    refine j_V.ldL xesw_M xesw_93 rfl (i := 4) (kd := 0) (v := .int v4) (pcJ := 95) rfl L rfl rfl rfl ?_
    refine j_V.ldL xesw_M xesw_95 rfl (i := 2) (kd := 0) (v := .int v2) (pcJ := 96) rfl L rfl rfl rfl ?_
    refine j_V.ldL xesw_M xesw_96 rfl (i := 0) (kd := 2) (v := .ref 307) (pcJ := 97) rfl L rfl rfl rfl ?_
    refine j_V.getK xesw_M xesw_97 (ci := 2) (j := 9) rfl K rfl rfl ?_
    refine j_V.ldL xesw_M xesw_100 rfl (i := 1) (kd := 0) (v := .int x1) (pcJ := 101) rfl L rfl rfl rfl ?_
    refine j_V.iaA xesw_M xesw_101 K rfl ?_
    refine j_V.mx xesw_M xesw_102 rfl rfl (Nat.le_of_ble_eq_true rfl) ?_
    refine j_V.icmp xesw_M xesw_105 (t := 123) rfl (fun c105_0 => ?_) (fun c105_0 => ?_)
    · replace c105_0 : ¬ (v4 < (iMx v2 (gA tto x1))) := jd_ge c105_0
      exact kk _ (L.sub ⟨rfl, rfl, rfl, rfl, trivial⟩)
    · replace c105_0 : v4 < (iMx v2 (gA tto x1)) := jd_gen c105_0
      exact absurd c105_0 (lpN_z e)
  | succ f ih =>
    intro v4 v3 lv e L kk
    refine j_V.ldL xesw_M xesw_93 rfl (i := 4) (kd := 0) (v := .int v4) (pcJ := 95) rfl L rfl rfl rfl ?_
    refine j_V.ldL xesw_M xesw_95 rfl (i := 2) (kd := 0) (v := .int v2) (pcJ := 96) rfl L rfl rfl rfl ?_
    refine j_V.ldL xesw_M xesw_96 rfl (i := 0) (kd := 2) (v := .ref 307) (pcJ := 97) rfl L rfl rfl rfl ?_
    refine j_V.getK xesw_M xesw_97 (ci := 2) (j := 9) rfl K rfl rfl ?_
    refine j_V.ldL xesw_M xesw_100 rfl (i := 1) (kd := 0) (v := .int x1) (pcJ := 101) rfl L rfl rfl rfl ?_
    refine j_V.iaA xesw_M xesw_101 K rfl ?_
    refine j_V.mx xesw_M xesw_102 rfl rfl (Nat.le_of_ble_eq_true rfl) ?_
    refine j_V.icmp xesw_M xesw_105 (t := 123) rfl (fun c105_0 => ?_) (fun c105_0 => ?_)
    · replace c105_0 : ¬ (v4 < (iMx v2 (gA tto x1))) := jd_ge c105_0
      exact absurd (lpN_s e) c105_0
    · replace c105_0 : v4 < (iMx v2 (gA tto x1)) := jd_gen c105_0
      refine j_V.ldL xesw_M xesw_108 rfl (i := 3) (kd := 0) (v := .int v3) (pcJ := 109) rfl L rfl rfl rfl ?_
      refine j_V.one xesw_M xesw_109 (by decide) (pcJ := 110) (stJ := [.int 1, .int v3]) rfl ?_
      refine j_V.ldL xesw_M xesw_110 rfl (i := 4) (kd := 0) (v := .int v4) (pcJ := 112) rfl L rfl rfl rfl ?_
      refine j_V.one xesw_M xesw_112 (by decide) (pcJ := 113) (stJ := [.int 3, .int v4, .int 1, .int v3]) rfl ?_
      refine j_V.one xesw_M xesw_113 (by decide) (pcJ := 114) (stJ := [.int (v4 * 3), .int 1, .int v3]) rfl ?_
      refine j_V.one xesw_M xesw_114 (by decide) (pcJ := 115) (stJ := [.int (1 <<< ((v4 * 3) &&& 31)), .int v3]) rfl ?_
      refine j_V.one xesw_M xesw_115 (by decide) (pcJ := 116) (stJ := [.int (v3 ||| (1 <<< ((v4 * 3) &&& 31)))]) rfl ?_
      refine j_V.stL xesw_M xesw_116 rfl (i := 3) (kd := 0) (kl' := [(0, .ref 307), (1, .int x1), (2, .int v2), (3, .int (v3 ||| (1 <<< ((v4 * 3) &&& 31)))), (4, .int v4)]) (pcJ := 117) rfl L rfl (by decide) rfl rfl rfl (fun lv L => ?_)
      refine j_V.inL xesw_M xesw_117 (i := 4) (kl' := [(0, .ref 307), (1, .int x1), (2, .int v2), (3, .int (v3 ||| (1 <<< ((v4 * 3) &&& 31)))), (4, .int (v4 + 1))]) (pcJ := 120) L rfl rfl rfl rfl (fun lv L => ?_)
      refine j_V.gto xesw_M xesw_120 (t := 93) rfl ?_
      rw [show (x_wayb (f + 1) v4 v3) = (x_wayb f (v4 + 1) (v3 ||| (1 <<< ((v4 * 3) &&& 31)))) from rfl] at kk
      exact ih _ _ (lpN_n e) L kk
set_option maxRecDepth 100000 in
theorem xe200_M : j_meth jP 20 = some (yX2_settleFit, cX2_settleFit, 3, none, 1, false, 2) := rfl
set_option maxRecDepth 100000 in
theorem xe200_0 : j_code jP 20 0 = some (.aload_n 0) := rfl
set_option maxRecDepth 100000 in
theorem xe200_1 : j_code jP 20 1 = some (.getfield 46) := rfl
set_option maxRecDepth 100000 in
theorem xe200_4 : j_code jP 20 4 = some (.iload_n 1) := rfl
set_option maxRecDepth 100000 in
theorem xe200_5 : j_code jP 20 5 = some (.iconst 0) := rfl
set_option maxRecDepth 100000 in
theorem xe200_6 : j_code jP 20 6 = some (.iastore) := rfl
set_option maxRecDepth 100000 in
theorem xe200_7 : j_code jP 20 7 = some (.iconst 0) := rfl
set_option maxRecDepth 100000 in
theorem xe200_8 : j_code jP 20 8 = some (.istore_n 2) := rfl
set_option maxRecDepth 100000 in
theorem xe200_9 : j_code jP 20 9 = some (.iload_n 2) := rfl
set_option maxRecDepth 100000 in
theorem xe200_10 : j_code jP 20 10 = some (.bipush 21) := rfl
set_option maxRecDepth 100000 in
theorem xe200_12 : j_code jP 20 12 = some (.if_icmp .ge 47) := rfl
set_option maxRecDepth 100000 in
theorem xe200_15 : j_code jP 20 15 = some (.aload_n 0) := rfl
set_option maxRecDepth 100000 in
theorem xe200_16 : j_code jP 20 16 = some (.getfield 65) := rfl
set_option maxRecDepth 100000 in
theorem xe200_19 : j_code jP 20 19 = some (.iload_n 2) := rfl
set_option maxRecDepth 100000 in
theorem xe200_20 : j_code jP 20 20 = some (.ishr) := rfl
set_option maxRecDepth 100000 in
theorem xe200_21 : j_code jP 20 21 = some (.iconst 1) := rfl
set_option maxRecDepth 100000 in
theorem xe200_22 : j_code jP 20 22 = some (.iand) := rfl
set_option maxRecDepth 100000 in
theorem xe200_23 : j_code jP 20 23 = some (.ifCond .eq 30) := rfl
set_option maxRecDepth 100000 in
theorem xe200_26 : j_code jP 20 26 = some (.aload_n 0) := rfl
set_option maxRecDepth 100000 in
theorem xe200_27 : j_code jP 20 27 = some (.getfield 22) := rfl
set_option maxRecDepth 100000 in
theorem xe200_30 : j_code jP 20 30 = some (.iload_n 2) := rfl
set_option maxRecDepth 100000 in
theorem xe200_31 : j_code jP 20 31 = some (.iaload) := rfl
set_option maxRecDepth 100000 in
theorem xe200_32 : j_code jP 20 32 = some (.aload_n 0) := rfl
set_option maxRecDepth 100000 in
theorem xe200_33 : j_code jP 20 33 = some (.getfield 28) := rfl
set_option maxRecDepth 100000 in
theorem xe200_36 : j_code jP 20 36 = some (.iload_n 1) := rfl
set_option maxRecDepth 100000 in
theorem xe200_37 : j_code jP 20 37 = some (.iaload) := rfl
set_option maxRecDepth 100000 in
theorem xe200_38 : j_code jP 20 38 = some (.if_icmp .lt 15) := rfl
set_option maxRecDepth 100000 in
theorem xe200_41 : j_code jP 20 41 = some (.aload_n 0) := rfl
set_option maxRecDepth 100000 in
theorem xe200_42 : j_code jP 20 42 = some (.getfield 46) := rfl
set_option maxRecDepth 100000 in
theorem xe200_45 : j_code jP 20 45 = some (.iload_n 1) := rfl
set_option maxRecDepth 100000 in
theorem xe200_46 : j_code jP 20 46 = some (.dup2) := rfl
set_option maxRecDepth 100000 in
theorem xe200_47 : j_code jP 20 47 = some (.iaload) := rfl
set_option maxRecDepth 100000 in
theorem xe200_48 : j_code jP 20 48 = some (.iconst 1) := rfl
set_option maxRecDepth 100000 in
theorem xe200_49 : j_code jP 20 49 = some (.iload_n 2) := rfl
set_option maxRecDepth 100000 in
theorem xe200_50 : j_code jP 20 50 = some (.ishl) := rfl
set_option maxRecDepth 100000 in
theorem xe200_51 : j_code jP 20 51 = some (.ior) := rfl
set_option maxRecDepth 100000 in
theorem xe200_52 : j_code jP 20 52 = some (.iastore) := rfl
set_option maxRecDepth 100000 in
theorem xe200_53 : j_code jP 20 53 = some (.iinc 2 1) := rfl
set_option maxRecDepth 100000 in
theorem xe200_56 : j_code jP 20 56 = some (.goto (-47)) := rfl
set_option maxRecDepth 100000 in
theorem xe200_59 : j_code jP 20 59 = some (.return_) := rfl
set_option maxRecDepth 1000000 in
theorem xe200_ok_l9 {ns : Int32} {nt : Int32} {cel : Int32} {len : List Int32} {siz : List Int32} {v1 : Int32} {d : Nat} {h0 : J_H} : ∀ (f : Nat) (v2 : Int32) (fit : List Int32) {lv : J_L} {h : J_H}, lpN 21 v2 = f → LK lv [(0, .ref 307), (1, .int v1), (2, .int v2)] → KN h [(307, .inl (2, [.int ns, .ref 308, .ref 309, .ref 310, .ref 311, .int nt, .ref 312, .ref 313, .ref 314, .ref 315, .ref 316, .ref 317, .ref 318, .int cel, .ref 319, .ref 320, .ref 321, .ref 322])), (311, .inr (.inl (0, len))), (313, .inr (.inl (0, siz))), (319, .inr (.inl (0, fit)))] h0 → j_V jP d 20 9 lv [] h (fun rv h' => rv = none ∧ KN h' [(307, .inl (2, [.int ns, .ref 308, .ref 309, .ref 310, .ref 311, .int nt, .ref 312, .ref 313, .ref 314, .ref 315, .ref 316, .ref 317, .ref 318, .int cel, .ref 319, .ref 320, .ref 321, .ref 322])), (311, .inr (.inl (0, len))), (313, .inr (.inl (0, siz))), (319, .inr (.inl (0, (x_settleFit_l9 cel len siz v1 f v2 fit))))] h0) := by
  intro f
  induction f with
  | zero =>
    intro v2 fit lv h e L K
    refine j_V.ldL xe200_M xe200_9 rfl (i := 2) (kd := 0) (v := .int v2) (pcJ := 10) rfl L rfl rfl rfl ?_
    refine j_V.one xe200_M xe200_10 (by decide) (pcJ := 12) (stJ := [.int 21, .int v2]) rfl ?_
    refine j_V.icmp xe200_M xe200_12 (t := 59) rfl (fun c12_0 => ?_) (fun c12_0 => ?_)
    · replace c12_0 : ¬ (v2 < 21) := jd_ge c12_0
      refine j_V.ret xe200_M xe200_59 rfl rfl ?_
      rw [show (x_settleFit_l9 cel len siz v1 0 v2 fit) = _ from (rfl)]
      exact ⟨rfl, K⟩
    · replace c12_0 : v2 < 21 := jd_gen c12_0
      exact absurd c12_0 (lpN_z e)
  | succ f ih =>
    intro v2 fit lv h e L K
    refine j_V.ldL xe200_M xe200_9 rfl (i := 2) (kd := 0) (v := .int v2) (pcJ := 10) rfl L rfl rfl rfl ?_
    refine j_V.one xe200_M xe200_10 (by decide) (pcJ := 12) (stJ := [.int 21, .int v2]) rfl ?_
    refine j_V.icmp xe200_M xe200_12 (t := 59) rfl (fun c12_0 => ?_) (fun c12_0 => ?_)
    · replace c12_0 : ¬ (v2 < 21) := jd_ge c12_0
      exact absurd (lpN_s e) c12_0
    · replace c12_0 : v2 < 21 := jd_gen c12_0
      refine j_V.ldL xe200_M xe200_15 rfl (i := 0) (kd := 2) (v := .ref 307) (pcJ := 16) rfl L rfl rfl rfl ?_
      refine j_V.getK xe200_M xe200_16 (ci := 2) (j := 13) rfl K rfl rfl ?_
      refine j_V.ldL xe200_M xe200_19 rfl (i := 2) (kd := 0) (v := .int v2) (pcJ := 20) rfl L rfl rfl rfl ?_
      refine j_V.one xe200_M xe200_20 (by decide) (pcJ := 21) (stJ := [.int (cel >>> (v2 &&& 31))]) rfl ?_
      refine j_V.one xe200_M xe200_21 (by decide) (pcJ := 22) (stJ := [.int 1, .int (cel >>> (v2 &&& 31))]) rfl ?_
      refine j_V.one xe200_M xe200_22 (by decide) (pcJ := 23) (stJ := [.int ((cel >>> (v2 &&& 31)) &&& 1)]) rfl ?_
      refine j_V.ifc xe200_M xe200_23 (t := 53) rfl (fun c23_0 => ?_) (fun c23_0 => ?_)
      · replace c23_0 : ((cel >>> (v2 &&& 31)) &&& 1) = 0 := jd_eq c23_0
        refine j_V.inL xe200_M xe200_53 (i := 2) (kl' := [(0, .ref 307), (1, .int v1), (2, .int (v2 + 1))]) (pcJ := 56) L rfl rfl rfl rfl (fun lv L => ?_)
        refine j_V.gto xe200_M xe200_56 (t := 9) rfl ?_
        rw [show (x_settleFit_l9 cel len siz v1 (f + 1) v2 fit) = _ from ((if_pos c23_0).trans (rfl))]
        exact ih _ _ (lpN_n e) L K
      · replace c23_0 : ¬ (((cel >>> (v2 &&& 31)) &&& 1) = 0) := jd_eqn c23_0
        refine j_V.ldL xe200_M xe200_26 rfl (i := 0) (kd := 2) (v := .ref 307) (pcJ := 27) rfl L rfl rfl rfl ?_
        refine j_V.getK xe200_M xe200_27 (ci := 2) (j := 4) rfl K rfl rfl ?_
        refine j_V.ldL xe200_M xe200_30 rfl (i := 2) (kd := 0) (v := .int v2) (pcJ := 31) rfl L rfl rfl rfl ?_
        refine j_V.iaA xe200_M xe200_31 K rfl ?_
        refine j_V.ldL xe200_M xe200_32 rfl (i := 0) (kd := 2) (v := .ref 307) (pcJ := 33) rfl L rfl rfl rfl ?_
        refine j_V.getK xe200_M xe200_33 (ci := 2) (j := 7) rfl K rfl rfl ?_
        refine j_V.ldL xe200_M xe200_36 rfl (i := 1) (kd := 0) (v := .int v1) (pcJ := 37) rfl L rfl rfl rfl ?_
        refine j_V.iaA xe200_M xe200_37 K rfl ?_
        refine j_V.icmp xe200_M xe200_38 (t := 53) rfl (fun c38_1 => ?_) (fun c38_1 => ?_)
        · replace c38_1 : (gA len v2) < (gA siz v1) := jd_lt c38_1
          refine j_V.inL xe200_M xe200_53 (i := 2) (kl' := [(0, .ref 307), (1, .int v1), (2, .int (v2 + 1))]) (pcJ := 56) L rfl rfl rfl rfl (fun lv L => ?_)
          refine j_V.gto xe200_M xe200_56 (t := 9) rfl ?_
          rw [show (x_settleFit_l9 cel len siz v1 (f + 1) v2 fit) = _ from ((if_neg c23_0).trans ((if_pos c38_1).trans (rfl)))]
          exact ih _ _ (lpN_n e) L K
        · replace c38_1 : ¬ ((gA len v2) < (gA siz v1)) := jd_ltn c38_1
          refine j_V.ldL xe200_M xe200_41 rfl (i := 0) (kd := 2) (v := .ref 307) (pcJ := 42) rfl L rfl rfl rfl ?_
          refine j_V.getK xe200_M xe200_42 (ci := 2) (j := 14) rfl K rfl rfl ?_
          refine j_V.ldL xe200_M xe200_45 rfl (i := 1) (kd := 0) (v := .int v1) (pcJ := 46) rfl L rfl rfl rfl ?_
          refine j_V.one xe200_M xe200_46 (by decide) (pcJ := 47) (stJ := [.int v1, .ref 319, .int v1, .ref 319]) rfl ?_
          refine j_V.iaA xe200_M xe200_47 K rfl ?_
          refine j_V.one xe200_M xe200_48 (by decide) (pcJ := 49) (stJ := [.int 1, .int (gA fit v1), .int v1, .ref 319]) rfl ?_
          refine j_V.ldL xe200_M xe200_49 rfl (i := 2) (kd := 0) (v := .int v2) (pcJ := 50) rfl L rfl rfl rfl ?_
          refine j_V.one xe200_M xe200_50 (by decide) (pcJ := 51) (stJ := [.int (1 <<< (v2 &&& 31)), .int (gA fit v1), .int v1, .ref 319]) rfl ?_
          refine j_V.one xe200_M xe200_51 (by decide) (pcJ := 52) (stJ := [.int ((gA fit v1) ||| (1 <<< (v2 &&& 31))), .int v1, .ref 319]) rfl ?_
          refine j_V.isA xe200_M xe200_52 (k' := [(307, .inl (2, [.int ns, .ref 308, .ref 309, .ref 310, .ref 311, .int nt, .ref 312, .ref 313, .ref 314, .ref 315, .ref 316, .ref 317, .ref 318, .int cel, .ref 319, .ref 320, .ref 321, .ref 322])), (311, .inr (.inl (0, len))), (313, .inr (.inl (0, siz))), (319, .inr (.inl (0, (sA fit v1 ((gA fit v1) ||| (1 <<< (v2 &&& 31)))))))]) K rfl rfl (fun h K => ?_)
          obtain ⟨fit3, efit3⟩ : ∃ z, z = (sA fit v1 ((gA fit v1) ||| (1 <<< (v2 &&& 31)))) := ⟨_, rfl⟩
          rw [← efit3] at K
          refine j_V.inL xe200_M xe200_53 (i := 2) (kl' := [(0, .ref 307), (1, .int v1), (2, .int (v2 + 1))]) (pcJ := 56) L rfl rfl rfl rfl (fun lv L => ?_)
          refine j_V.gto xe200_M xe200_56 (t := 9) rfl ?_
          subst efit3
          rw [show (x_settleFit_l9 cel len siz v1 (f + 1) v2 fit) = _ from ((if_neg c23_0).trans ((if_neg c38_1).trans (rfl)))]
          exact ih _ _ (lpN_n e) L K
set_option maxRecDepth 1000000 in
theorem xe200_ok {ns : Int32} {nt : Int32} {cel : Int32} {len : List Int32} {siz : List Int32} {fit : List Int32} {x1 : Int32} {d : Nat} {h h0 : J_H} (K : KN h [(307, .inl (2, [.int ns, .ref 308, .ref 309, .ref 310, .ref 311, .int nt, .ref 312, .ref 313, .ref 314, .ref 315, .ref 316, .ref 317, .ref 318, .int cel, .ref 319, .ref 320, .ref 321, .ref 322])), (311, .inr (.inl (0, len))), (313, .inr (.inl (0, siz))), (319, .inr (.inl (0, fit)))] h0) : j_V jP d 20 0 (lv_args 0 [.ref 307, .int x1]) [] h (fun rv h' => rv = none ∧ KN h' [(307, .inl (2, [.int ns, .ref 308, .ref 309, .ref 310, .ref 311, .int nt, .ref 312, .ref 313, .ref 314, .ref 315, .ref 316, .ref 317, .ref 318, .int cel, .ref 319, .ref 320, .ref 321, .ref 322])), (311, .inr (.inl (0, len))), (313, .inr (.inl (0, siz))), (319, .inr (.inl (0, (x_settleFit cel len siz fit x1))))] h0) := by
  show j_V jP d 20 0 [(0, .ref 307), (1, .int x1)] [] h _
  obtain ⟨lv, elv, L⟩ : ∃ lv, lv = [(0, .ref 307), (1, .int x1)] ∧ LK lv [(0, .ref 307), (1, .int x1)] := ⟨_, rfl, LK.rf⟩
  rw [← elv]
  clear elv
  refine j_V.ldL xe200_M xe200_0 rfl (i := 0) (kd := 2) (v := .ref 307) (pcJ := 1) rfl L rfl rfl rfl ?_
  refine j_V.getK xe200_M xe200_1 (ci := 2) (j := 14) rfl K rfl rfl ?_
  refine j_V.ldL xe200_M xe200_4 rfl (i := 1) (kd := 0) (v := .int x1) (pcJ := 5) rfl L rfl rfl rfl ?_
  refine j_V.one xe200_M xe200_5 (by decide) (pcJ := 6) (stJ := [.int 0, .int x1, .ref 319]) rfl ?_
  refine j_V.isA xe200_M xe200_6 (k' := [(307, .inl (2, [.int ns, .ref 308, .ref 309, .ref 310, .ref 311, .int nt, .ref 312, .ref 313, .ref 314, .ref 315, .ref 316, .ref 317, .ref 318, .int cel, .ref 319, .ref 320, .ref 321, .ref 322])), (311, .inr (.inl (0, len))), (313, .inr (.inl (0, siz))), (319, .inr (.inl (0, (sA fit x1 0))))]) K rfl rfl (fun h K => ?_)
  obtain ⟨fit4, efit4⟩ : ∃ z, z = (sA fit x1 0) := ⟨_, rfl⟩
  rw [← efit4] at K
  refine j_V.one xe200_M xe200_7 (by decide) (pcJ := 8) (stJ := [.int 0]) rfl ?_
  refine j_V.stL xe200_M xe200_8 rfl (i := 2) (kd := 0) (kl' := [(0, .ref 307), (1, .int x1), (2, .int 0)]) (pcJ := 9) rfl L rfl (by decide) rfl rfl rfl (fun lv L => ?_)
  subst efit4
  rw [show (x_settleFit cel len siz fit x1) = _ from (rfl)]
  exact xe200_ok_l9 _ _ _ rfl L K
set_option maxRecDepth 100000 in
theorem xe201_M : j_meth jP 21 = some (yX2_settleWay, cX2_settleWay, 5, none, 1, false, 2) := rfl
set_option maxRecDepth 100000 in
theorem xe201_0 : j_code jP 21 0 = some (.iconst 0) := rfl
set_option maxRecDepth 100000 in
theorem xe201_1 : j_code jP 21 1 = some (.istore_n 2) := rfl
set_option maxRecDepth 100000 in
theorem xe201_2 : j_code jP 21 2 = some (.iload_n 2) := rfl
set_option maxRecDepth 100000 in
theorem xe201_3 : j_code jP 21 3 = some (.aload_n 0) := rfl
set_option maxRecDepth 100000 in
theorem xe201_4 : j_code jP 21 4 = some (.getfield 58) := rfl
set_option maxRecDepth 100000 in
theorem xe201_7 : j_code jP 21 7 = some (.iconst 1) := rfl
set_option maxRecDepth 100000 in
theorem xe201_8 : j_code jP 21 8 = some (.isub) := rfl
set_option maxRecDepth 100000 in
theorem xe201_9 : j_code jP 21 9 = some (.if_icmp .ge 41) := rfl
set_option maxRecDepth 100000 in
theorem xe201_12 : j_code jP 21 12 = some (.aload_n 0) := rfl
set_option maxRecDepth 100000 in
theorem xe201_13 : j_code jP 21 13 = some (.getfield 52) := rfl
set_option maxRecDepth 100000 in
theorem xe201_16 : j_code jP 21 16 = some (.iload_n 1) := rfl
set_option maxRecDepth 100000 in
theorem xe201_17 : j_code jP 21 17 = some (.bipush 6) := rfl
set_option maxRecDepth 100000 in
theorem xe201_19 : j_code jP 21 19 = some (.imul) := rfl
set_option maxRecDepth 100000 in
theorem xe201_20 : j_code jP 21 20 = some (.iload_n 2) := rfl
set_option maxRecDepth 100000 in
theorem xe201_21 : j_code jP 21 21 = some (.iadd) := rfl
set_option maxRecDepth 100000 in
theorem xe201_22 : j_code jP 21 22 = some (.aload_n 0) := rfl
set_option maxRecDepth 100000 in
theorem xe201_23 : j_code jP 21 23 = some (.getfield 15) := rfl
set_option maxRecDepth 100000 in
theorem xe201_26 : j_code jP 21 26 = some (.iload_n 2) := rfl
set_option maxRecDepth 100000 in
theorem xe201_27 : j_code jP 21 27 = some (.iconst 1) := rfl
set_option maxRecDepth 100000 in
theorem xe201_28 : j_code jP 21 28 = some (.iadd) := rfl
set_option maxRecDepth 100000 in
theorem xe201_29 : j_code jP 21 29 = some (.iaload) := rfl
set_option maxRecDepth 100000 in
theorem xe201_30 : j_code jP 21 30 = some (.iconst 2) := rfl
set_option maxRecDepth 100000 in
theorem xe201_31 : j_code jP 21 31 = some (.aload_n 0) := rfl
set_option maxRecDepth 100000 in
theorem xe201_32 : j_code jP 21 32 = some (.getfield 40) := rfl
set_option maxRecDepth 100000 in
theorem xe201_35 : j_code jP 21 35 = some (.iload_n 1) := rfl
set_option maxRecDepth 100000 in
theorem xe201_36 : j_code jP 21 36 = some (.iaload) := rfl
set_option maxRecDepth 100000 in
theorem xe201_37 : j_code jP 21 37 = some (.iadd) := rfl
set_option maxRecDepth 100000 in
theorem xe201_38 : j_code jP 21 38 = some (.imul) := rfl
set_option maxRecDepth 100000 in
theorem xe201_39 : j_code jP 21 39 = some (.iconst 1) := rfl
set_option maxRecDepth 100000 in
theorem xe201_40 : j_code jP 21 40 = some (.iadd) := rfl
set_option maxRecDepth 100000 in
theorem xe201_41 : j_code jP 21 41 = some (.iconst 2) := rfl
set_option maxRecDepth 100000 in
theorem xe201_42 : j_code jP 21 42 = some (.idiv) := rfl
set_option maxRecDepth 100000 in
theorem xe201_43 : j_code jP 21 43 = some (.iastore) := rfl
set_option maxRecDepth 100000 in
theorem xe201_44 : j_code jP 21 44 = some (.iinc 2 1) := rfl
set_option maxRecDepth 100000 in
theorem xe201_47 : j_code jP 21 47 = some (.goto (-45)) := rfl
set_option maxRecDepth 100000 in
theorem xe201_50 : j_code jP 21 50 = some (.aload_n 0) := rfl
set_option maxRecDepth 100000 in
theorem xe201_51 : j_code jP 21 51 = some (.getfield 55) := rfl
set_option maxRecDepth 100000 in
theorem xe201_54 : j_code jP 21 54 = some (.iload_n 1) := rfl
set_option maxRecDepth 100000 in
theorem xe201_55 : j_code jP 21 55 = some (.aload_n 0) := rfl
set_option maxRecDepth 100000 in
theorem xe201_56 : j_code jP 21 56 = some (.iload_n 1) := rfl
set_option maxRecDepth 100000 in
theorem xe201_57 : j_code jP 21 57 = some (.aload_n 0) := rfl
set_option maxRecDepth 100000 in
theorem xe201_58 : j_code jP 21 58 = some (.getfield 34) := rfl
set_option maxRecDepth 100000 in
theorem xe201_61 : j_code jP 21 61 = some (.iload_n 1) := rfl
set_option maxRecDepth 100000 in
theorem xe201_62 : j_code jP 21 62 = some (.iaload) := rfl
set_option maxRecDepth 100000 in
theorem xe201_63 : j_code jP 21 63 = some (.invokevirtual 79) := rfl
set_option maxRecDepth 100000 in
theorem xe201_66 : j_code jP 21 66 = some (.iastore) := rfl
set_option maxRecDepth 100000 in
theorem xe201_67 : j_code jP 21 67 = some (.iconst 0) := rfl
set_option maxRecDepth 100000 in
theorem xe201_68 : j_code jP 21 68 = some (.istore_n 2) := rfl
set_option maxRecDepth 100000 in
theorem xe201_69 : j_code jP 21 69 = some (.iload_n 2) := rfl
set_option maxRecDepth 100000 in
theorem xe201_70 : j_code jP 21 70 = some (.aload_n 0) := rfl
set_option maxRecDepth 100000 in
theorem xe201_71 : j_code jP 21 71 = some (.getfield 58) := rfl
set_option maxRecDepth 100000 in
theorem xe201_74 : j_code jP 21 74 = some (.if_icmp .ge 67) := rfl
set_option maxRecDepth 100000 in
theorem xe201_77 : j_code jP 21 77 = some (.iconst 0) := rfl
set_option maxRecDepth 100000 in
theorem xe201_78 : j_code jP 21 78 = some (.istore_n 3) := rfl
set_option maxRecDepth 100000 in
theorem xe201_79 : j_code jP 21 79 = some (.iload_n 2) := rfl
set_option maxRecDepth 100000 in
theorem xe201_80 : j_code jP 21 80 = some (.aload_n 0) := rfl
set_option maxRecDepth 100000 in
theorem xe201_81 : j_code jP 21 81 = some (.getfield 34) := rfl
set_option maxRecDepth 100000 in
theorem xe201_84 : j_code jP 21 84 = some (.iload_n 1) := rfl
set_option maxRecDepth 100000 in
theorem xe201_85 : j_code jP 21 85 = some (.iaload) := rfl
set_option maxRecDepth 100000 in
theorem xe201_86 : j_code jP 21 86 = some (.invokestatic 83) := rfl
set_option maxRecDepth 100000 in
theorem xe201_89 : j_code jP 21 89 = some (.iconst 1) := rfl
set_option maxRecDepth 100000 in
theorem xe201_90 : j_code jP 21 90 = some (.iadd) := rfl
set_option maxRecDepth 100000 in
theorem xe201_91 : j_code jP 21 91 = some (.istore 4) := rfl
set_option maxRecDepth 100000 in
theorem xe201_93 : j_code jP 21 93 = some (.iload 4) := rfl
set_option maxRecDepth 100000 in
theorem xe201_95 : j_code jP 21 95 = some (.iload_n 2) := rfl
set_option maxRecDepth 100000 in
theorem xe201_96 : j_code jP 21 96 = some (.aload_n 0) := rfl
set_option maxRecDepth 100000 in
theorem xe201_97 : j_code jP 21 97 = some (.getfield 34) := rfl
set_option maxRecDepth 100000 in
theorem xe201_100 : j_code jP 21 100 = some (.iload_n 1) := rfl
set_option maxRecDepth 100000 in
theorem xe201_101 : j_code jP 21 101 = some (.iaload) := rfl
set_option maxRecDepth 100000 in
theorem xe201_102 : j_code jP 21 102 = some (.invokestatic 88) := rfl
set_option maxRecDepth 100000 in
theorem xe201_105 : j_code jP 21 105 = some (.if_icmp .ge 18) := rfl
set_option maxRecDepth 100000 in
theorem xe201_108 : j_code jP 21 108 = some (.iload_n 3) := rfl
set_option maxRecDepth 100000 in
theorem xe201_109 : j_code jP 21 109 = some (.iconst 1) := rfl
set_option maxRecDepth 100000 in
theorem xe201_110 : j_code jP 21 110 = some (.iload 4) := rfl
set_option maxRecDepth 100000 in
theorem xe201_112 : j_code jP 21 112 = some (.iconst 3) := rfl
set_option maxRecDepth 100000 in
theorem xe201_113 : j_code jP 21 113 = some (.imul) := rfl
set_option maxRecDepth 100000 in
theorem xe201_114 : j_code jP 21 114 = some (.ishl) := rfl
set_option maxRecDepth 100000 in
theorem xe201_115 : j_code jP 21 115 = some (.ior) := rfl
set_option maxRecDepth 100000 in
theorem xe201_116 : j_code jP 21 116 = some (.istore_n 3) := rfl
set_option maxRecDepth 100000 in
theorem xe201_117 : j_code jP 21 117 = some (.iinc 4 1) := rfl
set_option maxRecDepth 100000 in
theorem xe201_120 : j_code jP 21 120 = some (.goto (-27)) := rfl
set_option maxRecDepth 100000 in
theorem xe201_123 : j_code jP 21 123 = some (.aload_n 0) := rfl
set_option maxRecDepth 100000 in
theorem xe201_124 : j_code jP 21 124 = some (.getfield 49) := rfl
set_option maxRecDepth 100000 in
theorem xe201_127 : j_code jP 21 127 = some (.iload_n 1) := rfl
set_option maxRecDepth 100000 in
theorem xe201_128 : j_code jP 21 128 = some (.bipush 7) := rfl
set_option maxRecDepth 100000 in
theorem xe201_130 : j_code jP 21 130 = some (.imul) := rfl
set_option maxRecDepth 100000 in
theorem xe201_131 : j_code jP 21 131 = some (.iload_n 2) := rfl
set_option maxRecDepth 100000 in
theorem xe201_132 : j_code jP 21 132 = some (.iadd) := rfl
set_option maxRecDepth 100000 in
theorem xe201_133 : j_code jP 21 133 = some (.iload_n 3) := rfl
set_option maxRecDepth 100000 in
theorem xe201_134 : j_code jP 21 134 = some (.iastore) := rfl
set_option maxRecDepth 100000 in
theorem xe201_135 : j_code jP 21 135 = some (.iinc 2 1) := rfl
set_option maxRecDepth 100000 in
theorem xe201_138 : j_code jP 21 138 = some (.goto (-69)) := rfl
set_option maxRecDepth 100000 in
theorem xe201_141 : j_code jP 21 141 = some (.return_) := rfl
set_option maxRecDepth 1000000 in
theorem xe201_ok_l69 {ns : Int32} {nt : Int32} {cel : Int32} {run : List Int32} {frm : List Int32} {tto : List Int32} {slo : List Int32} {v1 : Int32} {d : Nat} {h0 : J_H} : ∀ (f : Nat) (v2 : Int32) (rid : List Int32) (lon : List Int32) (way : List Int32) {lv : J_L} {h : J_H}, lpN ns v2 = f → LK lv [(0, .ref 307), (1, .int v1), (2, .int v2)] → KN h [(307, .inl (2, [.int ns, .ref 308, .ref 309, .ref 310, .ref 311, .int nt, .ref 312, .ref 313, .ref 314, .ref 315, .ref 316, .ref 317, .ref 318, .int cel, .ref 319, .ref 320, .ref 321, .ref 322])), (309, .inr (.inl (0, run))), (314, .inr (.inl (0, frm))), (315, .inr (.inl (0, tto))), (317, .inr (.inl (0, slo))), (320, .inr (.inl (0, way))), (321, .inr (.inl (0, rid))), (322, .inr (.inl (0, lon)))] h0 → j_V jP d 21 69 lv [] h (fun rv h' => rv = none ∧ KN h' [(307, .inl (2, [.int ns, .ref 308, .ref 309, .ref 310, .ref 311, .int nt, .ref 312, .ref 313, .ref 314, .ref 315, .ref 316, .ref 317, .ref 318, .int cel, .ref 319, .ref 320, .ref 321, .ref 322])), (309, .inr (.inl (0, run))), (314, .inr (.inl (0, frm))), (315, .inr (.inl (0, tto))), (317, .inr (.inl (0, slo))), (320, .inr (.inl (0, (x_settleWay_l69 tto v1 f v2 rid lon way).2.2))), (321, .inr (.inl (0, (x_settleWay_l69 tto v1 f v2 rid lon way).1))), (322, .inr (.inl (0, (x_settleWay_l69 tto v1 f v2 rid lon way).2.1)))] h0) := by
  intro f
  induction f with
  | zero =>
    intro v2 rid lon way lv h e L K
    refine j_V.ldL xe201_M xe201_69 rfl (i := 2) (kd := 0) (v := .int v2) (pcJ := 70) rfl L rfl rfl rfl ?_
    refine j_V.ldL xe201_M xe201_70 rfl (i := 0) (kd := 2) (v := .ref 307) (pcJ := 71) rfl L rfl rfl rfl ?_
    refine j_V.getK xe201_M xe201_71 (ci := 2) (j := 0) rfl K rfl rfl ?_
    refine j_V.icmp xe201_M xe201_74 (t := 141) rfl (fun c74_0 => ?_) (fun c74_0 => ?_)
    · replace c74_0 : ¬ (v2 < ns) := jd_ge c74_0
      refine j_V.ret xe201_M xe201_141 rfl rfl ?_
      rw [show (x_settleWay_l69 tto v1 0 v2 rid lon way) = _ from (rfl)]
      exact ⟨rfl, K⟩
    · replace c74_0 : v2 < ns := jd_gen c74_0
      exact absurd c74_0 (lpN_z e)
  | succ f ih =>
    intro v2 rid lon way lv h e L K
    refine j_V.ldL xe201_M xe201_69 rfl (i := 2) (kd := 0) (v := .int v2) (pcJ := 70) rfl L rfl rfl rfl ?_
    refine j_V.ldL xe201_M xe201_70 rfl (i := 0) (kd := 2) (v := .ref 307) (pcJ := 71) rfl L rfl rfl rfl ?_
    refine j_V.getK xe201_M xe201_71 (ci := 2) (j := 0) rfl K rfl rfl ?_
    refine j_V.icmp xe201_M xe201_74 (t := 141) rfl (fun c74_0 => ?_) (fun c74_0 => ?_)
    · replace c74_0 : ¬ (v2 < ns) := jd_ge c74_0
      exact absurd (lpN_s e) c74_0
    · replace c74_0 : v2 < ns := jd_gen c74_0
      refine j_V.one xe201_M xe201_77 (by decide) (pcJ := 78) (stJ := [.int 0]) rfl ?_
      refine j_V.stL xe201_M xe201_78 rfl (i := 3) (kd := 0) (kl' := [(0, .ref 307), (1, .int v1), (2, .int v2), (3, .int 0)]) (pcJ := 79) rfl L rfl (by decide) rfl rfl rfl (fun lv L => ?_)
      refine j_V.ldL xe201_M xe201_79 rfl (i := 2) (kd := 0) (v := .int v2) (pcJ := 80) rfl L rfl rfl rfl ?_
      refine j_V.ldL xe201_M xe201_80 rfl (i := 0) (kd := 2) (v := .ref 307) (pcJ := 81) rfl L rfl rfl rfl ?_
      refine j_V.getK xe201_M xe201_81 (ci := 2) (j := 9) rfl K rfl rfl ?_
      refine j_V.ldL xe201_M xe201_84 rfl (i := 1) (kd := 0) (v := .int v1) (pcJ := 85) rfl L rfl rfl rfl ?_
      refine j_V.iaA xe201_M xe201_85 K rfl ?_
      refine j_V.mn xe201_M xe201_86 rfl rfl (Nat.le_of_ble_eq_true rfl) ?_
      refine j_V.one xe201_M xe201_89 (by decide) (pcJ := 90) (stJ := [.int 1, .int (iMn v2 (gA tto v1))]) rfl ?_
      refine j_V.one xe201_M xe201_90 (by decide) (pcJ := 91) (stJ := [.int ((iMn v2 (gA tto v1)) + 1)]) rfl ?_
      refine j_V.stL xe201_M xe201_91 rfl (i := 4) (kd := 0) (kl' := [(0, .ref 307), (1, .int v1), (2, .int v2), (3, .int 0), (4, .int ((iMn v2 (gA tto v1)) + 1))]) (pcJ := 93) rfl L rfl (by decide) rfl rfl rfl (fun lv L => ?_)
      refine xesw_in (K.fi [307, 315] rfl rfl) _ ((iMn v2 (gA tto v1)) + 1) 0 rfl L (fun lv L => ?_)
      refine j_V.ldL xe201_M xe201_123 rfl (i := 0) (kd := 2) (v := .ref 307) (pcJ := 124) rfl L rfl rfl rfl ?_
      refine j_V.getK xe201_M xe201_124 (ci := 2) (j := 15) rfl K rfl rfl ?_
      refine j_V.ldL xe201_M xe201_127 rfl (i := 1) (kd := 0) (v := .int v1) (pcJ := 128) rfl L rfl rfl rfl ?_
      refine j_V.one xe201_M xe201_128 (by decide) (pcJ := 130) (stJ := [.int 7, .int v1, .ref 320]) rfl ?_
      refine j_V.one xe201_M xe201_130 (by decide) (pcJ := 131) (stJ := [.int (v1 * 7), .ref 320]) rfl ?_
      refine j_V.ldL xe201_M xe201_131 rfl (i := 2) (kd := 0) (v := .int v2) (pcJ := 132) rfl L rfl rfl rfl ?_
      refine j_V.one xe201_M xe201_132 (by decide) (pcJ := 133) (stJ := [.int ((v1 * 7) + v2), .ref 320]) rfl ?_
      refine j_V.ldL xe201_M xe201_133 rfl (i := 3) (kd := 0) (v := .int (x_wayb (lpN (iMx v2 (gA tto v1)) ((iMn v2 (gA tto v1)) + 1)) ((iMn v2 (gA tto v1)) + 1) 0)) (pcJ := 134) rfl L rfl rfl rfl ?_
      refine j_V.isA xe201_M xe201_134 (k' := [(307, .inl (2, [.int ns, .ref 308, .ref 309, .ref 310, .ref 311, .int nt, .ref 312, .ref 313, .ref 314, .ref 315, .ref 316, .ref 317, .ref 318, .int cel, .ref 319, .ref 320, .ref 321, .ref 322])), (309, .inr (.inl (0, run))), (314, .inr (.inl (0, frm))), (315, .inr (.inl (0, tto))), (317, .inr (.inl (0, slo))), (320, .inr (.inl (0, (sA way ((v1 * 7) + v2) (x_wayb (lpN (iMx v2 (gA tto v1)) ((iMn v2 (gA tto v1)) + 1)) ((iMn v2 (gA tto v1)) + 1) 0))))), (321, .inr (.inl (0, rid))), (322, .inr (.inl (0, lon)))]) K rfl rfl (fun h K => ?_)
      obtain ⟨way1, eway1⟩ : ∃ z, z = (sA way ((v1 * 7) + v2) (x_wayb (lpN (iMx v2 (gA tto v1)) ((iMn v2 (gA tto v1)) + 1)) ((iMn v2 (gA tto v1)) + 1) 0)) := ⟨_, rfl⟩
      rw [← eway1] at K
      refine j_V.inL xe201_M xe201_135 (i := 2) (kl' := [(0, .ref 307), (1, .int v1), (2, .int (v2 + 1)), (3, .int (x_wayb (lpN (iMx v2 (gA tto v1)) ((iMn v2 (gA tto v1)) + 1)) ((iMn v2 (gA tto v1)) + 1) 0))]) (pcJ := 138) L rfl rfl rfl rfl (fun lv L => ?_)
      refine j_V.gto xe201_M xe201_138 (t := 69) rfl ?_
      subst eway1
      rw [show (x_settleWay_l69 tto v1 (f + 1) v2 rid lon way) = _ from (rfl)]
      exact ih _ _ _ _ (lpN_n e) (L.sub ⟨rfl, rfl, rfl, trivial⟩) K
set_option maxRecDepth 1000000 in
theorem xe201_ok_l2 {ns : Int32} {nt : Int32} {cel : Int32} {run : List Int32} {frm : List Int32} {tto : List Int32} {slo : List Int32} {v1 : Int32} {d : Nat} {h0 : J_H} : ∀ (f : Nat) (v2 : Int32) (rid : List Int32) (lon : List Int32) (way : List Int32) {lv : J_L} {h : J_H}, lpN (ns - 1) v2 = f → LK lv [(0, .ref 307), (1, .int v1), (2, .int v2)] → KN h [(307, .inl (2, [.int ns, .ref 308, .ref 309, .ref 310, .ref 311, .int nt, .ref 312, .ref 313, .ref 314, .ref 315, .ref 316, .ref 317, .ref 318, .int cel, .ref 319, .ref 320, .ref 321, .ref 322])), (309, .inr (.inl (0, run))), (314, .inr (.inl (0, frm))), (315, .inr (.inl (0, tto))), (317, .inr (.inl (0, slo))), (320, .inr (.inl (0, way))), (321, .inr (.inl (0, rid))), (322, .inr (.inl (0, lon)))] h0 → j_V jP d 21 2 lv [] h (fun rv h' => rv = none ∧ KN h' [(307, .inl (2, [.int ns, .ref 308, .ref 309, .ref 310, .ref 311, .int nt, .ref 312, .ref 313, .ref 314, .ref 315, .ref 316, .ref 317, .ref 318, .int cel, .ref 319, .ref 320, .ref 321, .ref 322])), (309, .inr (.inl (0, run))), (314, .inr (.inl (0, frm))), (315, .inr (.inl (0, tto))), (317, .inr (.inl (0, slo))), (320, .inr (.inl (0, (x_settleWay_l2 ns run frm tto slo v1 f v2 rid lon way).2.2))), (321, .inr (.inl (0, (x_settleWay_l2 ns run frm tto slo v1 f v2 rid lon way).1))), (322, .inr (.inl (0, (x_settleWay_l2 ns run frm tto slo v1 f v2 rid lon way).2.1)))] h0) := by
  intro f
  induction f with
  | zero =>
    intro v2 rid lon way lv h e L K
    refine j_V.ldL xe201_M xe201_2 rfl (i := 2) (kd := 0) (v := .int v2) (pcJ := 3) rfl L rfl rfl rfl ?_
    refine j_V.ldL xe201_M xe201_3 rfl (i := 0) (kd := 2) (v := .ref 307) (pcJ := 4) rfl L rfl rfl rfl ?_
    refine j_V.getK xe201_M xe201_4 (ci := 2) (j := 0) rfl K rfl rfl ?_
    refine j_V.one xe201_M xe201_7 (by decide) (pcJ := 8) (stJ := [.int 1, .int ns, .int v2]) rfl ?_
    refine j_V.one xe201_M xe201_8 (by decide) (pcJ := 9) (stJ := [.int (ns - 1), .int v2]) rfl ?_
    refine j_V.icmp xe201_M xe201_9 (t := 50) rfl (fun c9_0 => ?_) (fun c9_0 => ?_)
    · replace c9_0 : ¬ (v2 < (ns - 1)) := jd_ge c9_0
      refine j_V.ldL xe201_M xe201_50 rfl (i := 0) (kd := 2) (v := .ref 307) (pcJ := 51) rfl L rfl rfl rfl ?_
      refine j_V.getK xe201_M xe201_51 (ci := 2) (j := 17) rfl K rfl rfl ?_
      refine j_V.ldL xe201_M xe201_54 rfl (i := 1) (kd := 0) (v := .int v1) (pcJ := 55) rfl L rfl rfl rfl ?_
      refine j_V.ldL xe201_M xe201_55 rfl (i := 0) (kd := 2) (v := .ref 307) (pcJ := 56) rfl L rfl rfl rfl ?_
      refine j_V.ldL xe201_M xe201_56 rfl (i := 1) (kd := 0) (v := .int v1) (pcJ := 57) rfl L rfl rfl rfl ?_
      refine j_V.ldL xe201_M xe201_57 rfl (i := 0) (kd := 2) (v := .ref 307) (pcJ := 58) rfl L rfl rfl rfl ?_
      refine j_V.getK xe201_M xe201_58 (ci := 2) (j := 9) rfl K rfl rfl ?_
      refine j_V.ldL xe201_M xe201_61 rfl (i := 1) (kd := 0) (v := .int v1) (pcJ := 62) rfl L rfl rfl rfl ?_
      refine j_V.iaA xe201_M xe201_62 K rfl ?_
      refine j_V.cl xe201_M xe201_63 rfl (md := 3) (mj := 22) rfl (by decide) xe01_M (As := [.ref 307, .int v1, .int (gA tto v1)]) (rest := [.int v1, .ref 322]) (jk_spl3 (K.at rfl) rfl rfl rfl (Nat.le_of_ble_eq_true rfl) (Nat.le_of_ble_eq_true rfl)) (fun d => xe01_ok (K.fi [307, 314, 321] rfl rfl)) ?_
      rintro r hz ⟨rfl, ez⟩
      rw [ez]
      clear ez
      show j_V jP _ 21 66 lv [.int (x_rideTo frm rid v1 (gA tto v1)), .int v1, .ref 322] h _
      refine j_V.isA xe201_M xe201_66 (k' := [(307, .inl (2, [.int ns, .ref 308, .ref 309, .ref 310, .ref 311, .int nt, .ref 312, .ref 313, .ref 314, .ref 315, .ref 316, .ref 317, .ref 318, .int cel, .ref 319, .ref 320, .ref 321, .ref 322])), (309, .inr (.inl (0, run))), (314, .inr (.inl (0, frm))), (315, .inr (.inl (0, tto))), (317, .inr (.inl (0, slo))), (320, .inr (.inl (0, way))), (321, .inr (.inl (0, rid))), (322, .inr (.inl (0, (sA lon v1 (x_rideTo frm rid v1 (gA tto v1))))))]) K rfl rfl (fun h K => ?_)
      obtain ⟨lon1, elon1⟩ : ∃ z, z = (sA lon v1 (x_rideTo frm rid v1 (gA tto v1))) := ⟨_, rfl⟩
      rw [← elon1] at K
      refine j_V.one xe201_M xe201_67 (by decide) (pcJ := 68) (stJ := [.int 0]) rfl ?_
      refine j_V.stL xe201_M xe201_68 rfl (i := 2) (kd := 0) (kl' := [(0, .ref 307), (1, .int v1), (2, .int 0)]) (pcJ := 69) rfl L rfl (by decide) rfl rfl rfl (fun lv L => ?_)
      subst elon1
      rw [show (x_settleWay_l2 ns run frm tto slo v1 0 v2 rid lon way) = _ from (rfl)]
      exact xe201_ok_l69 _ _ _ _ _ rfl L K
    · replace c9_0 : v2 < (ns - 1) := jd_gen c9_0
      exact absurd c9_0 (lpN_z e)
  | succ f ih =>
    intro v2 rid lon way lv h e L K
    refine j_V.ldL xe201_M xe201_2 rfl (i := 2) (kd := 0) (v := .int v2) (pcJ := 3) rfl L rfl rfl rfl ?_
    refine j_V.ldL xe201_M xe201_3 rfl (i := 0) (kd := 2) (v := .ref 307) (pcJ := 4) rfl L rfl rfl rfl ?_
    refine j_V.getK xe201_M xe201_4 (ci := 2) (j := 0) rfl K rfl rfl ?_
    refine j_V.one xe201_M xe201_7 (by decide) (pcJ := 8) (stJ := [.int 1, .int ns, .int v2]) rfl ?_
    refine j_V.one xe201_M xe201_8 (by decide) (pcJ := 9) (stJ := [.int (ns - 1), .int v2]) rfl ?_
    refine j_V.icmp xe201_M xe201_9 (t := 50) rfl (fun c9_0 => ?_) (fun c9_0 => ?_)
    · replace c9_0 : ¬ (v2 < (ns - 1)) := jd_ge c9_0
      exact absurd (lpN_s e) c9_0
    · replace c9_0 : v2 < (ns - 1) := jd_gen c9_0
      refine j_V.ldL xe201_M xe201_12 rfl (i := 0) (kd := 2) (v := .ref 307) (pcJ := 13) rfl L rfl rfl rfl ?_
      refine j_V.getK xe201_M xe201_13 (ci := 2) (j := 16) rfl K rfl rfl ?_
      refine j_V.ldL xe201_M xe201_16 rfl (i := 1) (kd := 0) (v := .int v1) (pcJ := 17) rfl L rfl rfl rfl ?_
      refine j_V.one xe201_M xe201_17 (by decide) (pcJ := 19) (stJ := [.int 6, .int v1, .ref 321]) rfl ?_
      refine j_V.one xe201_M xe201_19 (by decide) (pcJ := 20) (stJ := [.int (v1 * 6), .ref 321]) rfl ?_
      refine j_V.ldL xe201_M xe201_20 rfl (i := 2) (kd := 0) (v := .int v2) (pcJ := 21) rfl L rfl rfl rfl ?_
      refine j_V.one xe201_M xe201_21 (by decide) (pcJ := 22) (stJ := [.int ((v1 * 6) + v2), .ref 321]) rfl ?_
      refine j_V.ldL xe201_M xe201_22 rfl (i := 0) (kd := 2) (v := .ref 307) (pcJ := 23) rfl L rfl rfl rfl ?_
      refine j_V.getK xe201_M xe201_23 (ci := 2) (j := 2) rfl K rfl rfl ?_
      refine j_V.ldL xe201_M xe201_26 rfl (i := 2) (kd := 0) (v := .int v2) (pcJ := 27) rfl L rfl rfl rfl ?_
      refine j_V.one xe201_M xe201_27 (by decide) (pcJ := 28) (stJ := [.int 1, .int v2, .ref 309, .int ((v1 * 6) + v2), .ref 321]) rfl ?_
      refine j_V.one xe201_M xe201_28 (by decide) (pcJ := 29) (stJ := [.int (v2 + 1), .ref 309, .int ((v1 * 6) + v2), .ref 321]) rfl ?_
      refine j_V.iaA xe201_M xe201_29 K rfl ?_
      refine j_V.one xe201_M xe201_30 (by decide) (pcJ := 31) (stJ := [.int 2, .int (gA run (v2 + 1)), .int ((v1 * 6) + v2), .ref 321]) rfl ?_
      refine j_V.ldL xe201_M xe201_31 rfl (i := 0) (kd := 2) (v := .ref 307) (pcJ := 32) rfl L rfl rfl rfl ?_
      refine j_V.getK xe201_M xe201_32 (ci := 2) (j := 11) rfl K rfl rfl ?_
      refine j_V.ldL xe201_M xe201_35 rfl (i := 1) (kd := 0) (v := .int v1) (pcJ := 36) rfl L rfl rfl rfl ?_
      refine j_V.iaA xe201_M xe201_36 K rfl ?_
      refine j_V.one xe201_M xe201_37 (by decide) (pcJ := 38) (stJ := [.int (2 + (gA slo v1)), .int (gA run (v2 + 1)), .int ((v1 * 6) + v2), .ref 321]) rfl ?_
      refine j_V.one xe201_M xe201_38 (by decide) (pcJ := 39) (stJ := [.int ((gA run (v2 + 1)) * (2 + (gA slo v1))), .int ((v1 * 6) + v2), .ref 321]) rfl ?_
      refine j_V.one xe201_M xe201_39 (by decide) (pcJ := 40) (stJ := [.int 1, .int ((gA run (v2 + 1)) * (2 + (gA slo v1))), .int ((v1 * 6) + v2), .ref 321]) rfl ?_
      refine j_V.one xe201_M xe201_40 (by decide) (pcJ := 41) (stJ := [.int (((gA run (v2 + 1)) * (2 + (gA slo v1))) + 1), .int ((v1 * 6) + v2), .ref 321]) rfl ?_
      refine j_V.one xe201_M xe201_41 (by decide) (pcJ := 42) (stJ := [.int 2, .int (((gA run (v2 + 1)) * (2 + (gA slo v1))) + 1), .int ((v1 * 6) + v2), .ref 321]) rfl ?_
      refine j_V.one xe201_M xe201_42 (by decide) (pcJ := 43) (stJ := [.int ((((gA run (v2 + 1)) * (2 + (gA slo v1))) + 1) / 2), .int ((v1 * 6) + v2), .ref 321]) rfl ?_
      refine j_V.isA xe201_M xe201_43 (k' := [(307, .inl (2, [.int ns, .ref 308, .ref 309, .ref 310, .ref 311, .int nt, .ref 312, .ref 313, .ref 314, .ref 315, .ref 316, .ref 317, .ref 318, .int cel, .ref 319, .ref 320, .ref 321, .ref 322])), (309, .inr (.inl (0, run))), (314, .inr (.inl (0, frm))), (315, .inr (.inl (0, tto))), (317, .inr (.inl (0, slo))), (320, .inr (.inl (0, way))), (321, .inr (.inl (0, (sA rid ((v1 * 6) + v2) ((((gA run (v2 + 1)) * (2 + (gA slo v1))) + 1) / 2))))), (322, .inr (.inl (0, lon)))]) K rfl rfl (fun h K => ?_)
      obtain ⟨rid1, erid1⟩ : ∃ z, z = (sA rid ((v1 * 6) + v2) ((((gA run (v2 + 1)) * (2 + (gA slo v1))) + 1) / 2)) := ⟨_, rfl⟩
      rw [← erid1] at K
      refine j_V.inL xe201_M xe201_44 (i := 2) (kl' := [(0, .ref 307), (1, .int v1), (2, .int (v2 + 1))]) (pcJ := 47) L rfl rfl rfl rfl (fun lv L => ?_)
      refine j_V.gto xe201_M xe201_47 (t := 2) rfl ?_
      subst erid1
      rw [show (x_settleWay_l2 ns run frm tto slo v1 (f + 1) v2 rid lon way) = _ from (rfl)]
      exact ih _ _ _ _ (lpN_n e) L K
set_option maxRecDepth 1000000 in
theorem xe201_ok {ns : Int32} {nt : Int32} {cel : Int32} {run : List Int32} {frm : List Int32} {tto : List Int32} {slo : List Int32} {way : List Int32} {rid : List Int32} {lon : List Int32} {x1 : Int32} {d : Nat} {h h0 : J_H} (K : KN h [(307, .inl (2, [.int ns, .ref 308, .ref 309, .ref 310, .ref 311, .int nt, .ref 312, .ref 313, .ref 314, .ref 315, .ref 316, .ref 317, .ref 318, .int cel, .ref 319, .ref 320, .ref 321, .ref 322])), (309, .inr (.inl (0, run))), (314, .inr (.inl (0, frm))), (315, .inr (.inl (0, tto))), (317, .inr (.inl (0, slo))), (320, .inr (.inl (0, way))), (321, .inr (.inl (0, rid))), (322, .inr (.inl (0, lon)))] h0) : j_V jP d 21 0 (lv_args 0 [.ref 307, .int x1]) [] h (fun rv h' => rv = none ∧ KN h' [(307, .inl (2, [.int ns, .ref 308, .ref 309, .ref 310, .ref 311, .int nt, .ref 312, .ref 313, .ref 314, .ref 315, .ref 316, .ref 317, .ref 318, .int cel, .ref 319, .ref 320, .ref 321, .ref 322])), (309, .inr (.inl (0, run))), (314, .inr (.inl (0, frm))), (315, .inr (.inl (0, tto))), (317, .inr (.inl (0, slo))), (320, .inr (.inl (0, (x_settleWay ns run frm tto slo way rid lon x1).2.2))), (321, .inr (.inl (0, (x_settleWay ns run frm tto slo way rid lon x1).1))), (322, .inr (.inl (0, (x_settleWay ns run frm tto slo way rid lon x1).2.1)))] h0) := by
  show j_V jP d 21 0 [(0, .ref 307), (1, .int x1)] [] h _
  obtain ⟨lv, elv, L⟩ : ∃ lv, lv = [(0, .ref 307), (1, .int x1)] ∧ LK lv [(0, .ref 307), (1, .int x1)] := ⟨_, rfl, LK.rf⟩
  rw [← elv]
  clear elv
  refine j_V.one xe201_M xe201_0 (by decide) (pcJ := 1) (stJ := [.int 0]) rfl ?_
  refine j_V.stL xe201_M xe201_1 rfl (i := 2) (kd := 0) (kl' := [(0, .ref 307), (1, .int x1), (2, .int 0)]) (pcJ := 2) rfl L rfl (by decide) rfl rfl rfl (fun lv L => ?_)
  rw [show (x_settleWay ns run frm tto slo way rid lon x1) = _ from (rfl)]
  exact xe201_ok_l2 _ _ _ _ _ rfl L K
set_option maxRecDepth 100000 in
theorem xe202_M : j_meth jP 19 = some (yX2_settle, cX2_settle, 2, none, 0, false, 2) := rfl
set_option maxRecDepth 100000 in
theorem xe202_0 : j_code jP 19 0 = some (.aload_n 0) := rfl
set_option maxRecDepth 100000 in
theorem xe202_1 : j_code jP 19 1 = some (.iconst 0) := rfl
set_option maxRecDepth 100000 in
theorem xe202_2 : j_code jP 19 2 = some (.putfield 65) := rfl
set_option maxRecDepth 100000 in
theorem xe202_5 : j_code jP 19 5 = some (.iconst 0) := rfl
set_option maxRecDepth 100000 in
theorem xe202_6 : j_code jP 19 6 = some (.istore_n 1) := rfl
set_option maxRecDepth 100000 in
theorem xe202_7 : j_code jP 19 7 = some (.iload_n 1) := rfl
set_option maxRecDepth 100000 in
theorem xe202_8 : j_code jP 19 8 = some (.aload_n 0) := rfl
set_option maxRecDepth 100000 in
theorem xe202_9 : j_code jP 19 9 = some (.getfield 58) := rfl
set_option maxRecDepth 100000 in
theorem xe202_12 : j_code jP 19 12 = some (.if_icmp .ge 23) := rfl
set_option maxRecDepth 100000 in
theorem xe202_15 : j_code jP 19 15 = some (.aload_n 0) := rfl
set_option maxRecDepth 100000 in
theorem xe202_16 : j_code jP 19 16 = some (.dup) := rfl
set_option maxRecDepth 100000 in
theorem xe202_17 : j_code jP 19 17 = some (.getfield 65) := rfl
set_option maxRecDepth 100000 in
theorem xe202_20 : j_code jP 19 20 = some (.aload_n 0) := rfl
set_option maxRecDepth 100000 in
theorem xe202_21 : j_code jP 19 21 = some (.iload_n 1) := rfl
set_option maxRecDepth 100000 in
theorem xe202_22 : j_code jP 19 22 = some (.invokevirtual 68) := rfl
set_option maxRecDepth 100000 in
theorem xe202_25 : j_code jP 19 25 = some (.ior) := rfl
set_option maxRecDepth 100000 in
theorem xe202_26 : j_code jP 19 26 = some (.putfield 65) := rfl
set_option maxRecDepth 100000 in
theorem xe202_29 : j_code jP 19 29 = some (.iinc 1 1) := rfl
set_option maxRecDepth 100000 in
theorem xe202_32 : j_code jP 19 32 = some (.goto (-25)) := rfl
set_option maxRecDepth 100000 in
theorem xe202_35 : j_code jP 19 35 = some (.iconst 0) := rfl
set_option maxRecDepth 100000 in
theorem xe202_36 : j_code jP 19 36 = some (.istore_n 1) := rfl
set_option maxRecDepth 100000 in
theorem xe202_37 : j_code jP 19 37 = some (.iload_n 1) := rfl
set_option maxRecDepth 100000 in
theorem xe202_38 : j_code jP 19 38 = some (.aload_n 0) := rfl
set_option maxRecDepth 100000 in
theorem xe202_39 : j_code jP 19 39 = some (.getfield 62) := rfl
set_option maxRecDepth 100000 in
theorem xe202_42 : j_code jP 19 42 = some (.if_icmp .ge 19) := rfl
set_option maxRecDepth 100000 in
theorem xe202_45 : j_code jP 19 45 = some (.aload_n 0) := rfl
set_option maxRecDepth 100000 in
theorem xe202_46 : j_code jP 19 46 = some (.iload_n 1) := rfl
set_option maxRecDepth 100000 in
theorem xe202_47 : j_code jP 19 47 = some (.invokevirtual 72) := rfl
set_option maxRecDepth 100000 in
theorem xe202_50 : j_code jP 19 50 = some (.aload_n 0) := rfl
set_option maxRecDepth 100000 in
theorem xe202_51 : j_code jP 19 51 = some (.iload_n 1) := rfl
set_option maxRecDepth 100000 in
theorem xe202_52 : j_code jP 19 52 = some (.invokevirtual 76) := rfl
set_option maxRecDepth 100000 in
theorem xe202_55 : j_code jP 19 55 = some (.iinc 1 1) := rfl
set_option maxRecDepth 100000 in
theorem xe202_58 : j_code jP 19 58 = some (.goto (-21)) := rfl
set_option maxRecDepth 100000 in
theorem xe202_61 : j_code jP 19 61 = some (.return_) := rfl
set_option maxRecDepth 1000000 in
theorem xe202_ok_l37 {ns : Int32} {nt : Int32} {run : List Int32} {tra : List Int32} {len : List Int32} {siz : List Int32} {frm : List Int32} {tto : List Int32} {slo : List Int32} {d : Nat} {h0 : J_H} : ∀ (f : Nat) (v1 : Int32) (cel : Int32) (fit : List Int32) (rid : List Int32) (lon : List Int32) (way : List Int32) {lv : J_L} {h : J_H}, lpN nt v1 = f → LK lv [(0, .ref 307), (1, .int v1)] → KN h [(307, .inl (2, [.int ns, .ref 308, .ref 309, .ref 310, .ref 311, .int nt, .ref 312, .ref 313, .ref 314, .ref 315, .ref 316, .ref 317, .ref 318, .int cel, .ref 319, .ref 320, .ref 321, .ref 322])), (309, .inr (.inl (0, run))), (310, .inr (.inl (0, tra))), (311, .inr (.inl (0, len))), (313, .inr (.inl (0, siz))), (314, .inr (.inl (0, frm))), (315, .inr (.inl (0, tto))), (317, .inr (.inl (0, slo))), (319, .inr (.inl (0, fit))), (320, .inr (.inl (0, way))), (321, .inr (.inl (0, rid))), (322, .inr (.inl (0, lon)))] h0 → j_V jP d 19 37 lv [] h (fun rv h' => rv = none ∧ KN h' [(307, .inl (2, [.int ns, .ref 308, .ref 309, .ref 310, .ref 311, .int nt, .ref 312, .ref 313, .ref 314, .ref 315, .ref 316, .ref 317, .ref 318, .int (x_settle_l37 ns run len siz frm tto slo f v1 cel fit rid lon way).1, .ref 319, .ref 320, .ref 321, .ref 322])), (309, .inr (.inl (0, run))), (310, .inr (.inl (0, tra))), (311, .inr (.inl (0, len))), (313, .inr (.inl (0, siz))), (314, .inr (.inl (0, frm))), (315, .inr (.inl (0, tto))), (317, .inr (.inl (0, slo))), (319, .inr (.inl (0, (x_settle_l37 ns run len siz frm tto slo f v1 cel fit rid lon way).2.1))), (320, .inr (.inl (0, (x_settle_l37 ns run len siz frm tto slo f v1 cel fit rid lon way).2.2.2.2))), (321, .inr (.inl (0, (x_settle_l37 ns run len siz frm tto slo f v1 cel fit rid lon way).2.2.1))), (322, .inr (.inl (0, (x_settle_l37 ns run len siz frm tto slo f v1 cel fit rid lon way).2.2.2.1)))] h0) := by
  intro f
  induction f with
  | zero =>
    intro v1 cel fit rid lon way lv h e L K
    refine j_V.ldL xe202_M xe202_37 rfl (i := 1) (kd := 0) (v := .int v1) (pcJ := 38) rfl L rfl rfl rfl ?_
    refine j_V.ldL xe202_M xe202_38 rfl (i := 0) (kd := 2) (v := .ref 307) (pcJ := 39) rfl L rfl rfl rfl ?_
    refine j_V.getK xe202_M xe202_39 (ci := 2) (j := 5) rfl K rfl rfl ?_
    refine j_V.icmp xe202_M xe202_42 (t := 61) rfl (fun c42_0 => ?_) (fun c42_0 => ?_)
    · replace c42_0 : ¬ (v1 < nt) := jd_ge c42_0
      refine j_V.ret xe202_M xe202_61 rfl rfl ?_
      rw [show (x_settle_l37 ns run len siz frm tto slo 0 v1 cel fit rid lon way) = _ from (rfl)]
      exact ⟨rfl, K⟩
    · replace c42_0 : v1 < nt := jd_gen c42_0
      exact absurd c42_0 (lpN_z e)
  | succ f ih =>
    intro v1 cel fit rid lon way lv h e L K
    refine j_V.ldL xe202_M xe202_37 rfl (i := 1) (kd := 0) (v := .int v1) (pcJ := 38) rfl L rfl rfl rfl ?_
    refine j_V.ldL xe202_M xe202_38 rfl (i := 0) (kd := 2) (v := .ref 307) (pcJ := 39) rfl L rfl rfl rfl ?_
    refine j_V.getK xe202_M xe202_39 (ci := 2) (j := 5) rfl K rfl rfl ?_
    refine j_V.icmp xe202_M xe202_42 (t := 61) rfl (fun c42_0 => ?_) (fun c42_0 => ?_)
    · replace c42_0 : ¬ (v1 < nt) := jd_ge c42_0
      exact absurd (lpN_s e) c42_0
    · replace c42_0 : v1 < nt := jd_gen c42_0
      refine j_V.ldL xe202_M xe202_45 rfl (i := 0) (kd := 2) (v := .ref 307) (pcJ := 46) rfl L rfl rfl rfl ?_
      refine j_V.ldL xe202_M xe202_46 rfl (i := 1) (kd := 0) (v := .int v1) (pcJ := 47) rfl L rfl rfl rfl ?_
      refine j_V.cl xe202_M xe202_47 rfl (md := 3) (mj := 20) rfl (by decide) xe200_M (As := [.ref 307, .int v1]) (rest := []) (jk_spl3 (K.at rfl) rfl rfl rfl (Nat.le_of_ble_eq_true rfl) (Nat.le_of_ble_eq_true rfl)) (fun d => xe200_ok (K.fi [307, 311, 313, 319] rfl rfl)) ?_
      rintro r h9 ⟨rfl, K9⟩
      generalize ez1 : (x_settleFit cel len siz fit v1) = z1 at K9 ⊢
      have K : KN h9 [(307, .inl (2, [.int ns, .ref 308, .ref 309, .ref 310, .ref 311, .int nt, .ref 312, .ref 313, .ref 314, .ref 315, .ref 316, .ref 317, .ref 318, .int cel, .ref 319, .ref 320, .ref 321, .ref 322])), (309, .inr (.inl (0, run))), (310, .inr (.inl (0, tra))), (311, .inr (.inl (0, len))), (313, .inr (.inl (0, siz))), (314, .inr (.inl (0, frm))), (315, .inr (.inl (0, tto))), (317, .inr (.inl (0, slo))), (319, .inr (.inl (0, (z1)))), (320, .inr (.inl (0, way))), (321, .inr (.inl (0, rid))), (322, .inr (.inl (0, lon)))] h0 := K.mg K9 rfl rfl
      clear K9
      show j_V jP _ 19 50 lv [] h9 _
      refine j_V.ldL xe202_M xe202_50 rfl (i := 0) (kd := 2) (v := .ref 307) (pcJ := 51) rfl L rfl rfl rfl ?_
      refine j_V.ldL xe202_M xe202_51 rfl (i := 1) (kd := 0) (v := .int v1) (pcJ := 52) rfl L rfl rfl rfl ?_
      refine j_V.cl xe202_M xe202_52 rfl (md := 3) (mj := 21) rfl (by decide) xe201_M (As := [.ref 307, .int v1]) (rest := []) (jk_spl3 (K.at rfl) rfl rfl rfl (Nat.le_of_ble_eq_true rfl) (Nat.le_of_ble_eq_true rfl)) (fun d => xe201_ok (K.fi [307, 309, 314, 315, 317, 320, 321, 322] rfl rfl)) ?_
      rintro r h9 ⟨rfl, K9⟩
      generalize ez2 : (x_settleWay ns run frm tto slo way rid lon v1) = z2 at K9 ⊢
      have K : KN h9 [(307, .inl (2, [.int ns, .ref 308, .ref 309, .ref 310, .ref 311, .int nt, .ref 312, .ref 313, .ref 314, .ref 315, .ref 316, .ref 317, .ref 318, .int cel, .ref 319, .ref 320, .ref 321, .ref 322])), (309, .inr (.inl (0, run))), (310, .inr (.inl (0, tra))), (311, .inr (.inl (0, len))), (313, .inr (.inl (0, siz))), (314, .inr (.inl (0, frm))), (315, .inr (.inl (0, tto))), (317, .inr (.inl (0, slo))), (319, .inr (.inl (0, (z1)))), (320, .inr (.inl (0, (z2.2.2)))), (321, .inr (.inl (0, (z2.1)))), (322, .inr (.inl (0, (z2.2.1))))] h0 := K.mg K9 rfl rfl
      clear K9
      show j_V jP _ 19 55 lv [] h9 _
      refine j_V.inL xe202_M xe202_55 (i := 1) (kl' := [(0, .ref 307), (1, .int (v1 + 1))]) (pcJ := 58) L rfl rfl rfl rfl (fun lv L => ?_)
      refine j_V.gto xe202_M xe202_58 (t := 37) rfl ?_
      subst ez2
      subst ez1
      rw [show (x_settle_l37 ns run len siz frm tto slo (f + 1) v1 cel fit rid lon way) = _ from (rfl)]
      exact ih _ _ _ _ _ _ (lpN_n e) L K
set_option maxRecDepth 1000000 in
theorem xe202_ok_l7 {ns : Int32} {nt : Int32} {run : List Int32} {tra : List Int32} {len : List Int32} {siz : List Int32} {frm : List Int32} {tto : List Int32} {slo : List Int32} {d : Nat} {h0 : J_H} : ∀ (f : Nat) (v1 : Int32) (cel : Int32) (fit : List Int32) (rid : List Int32) (lon : List Int32) (way : List Int32) {lv : J_L} {h : J_H}, lpN ns v1 = f → LK lv [(0, .ref 307), (1, .int v1)] → KN h [(307, .inl (2, [.int ns, .ref 308, .ref 309, .ref 310, .ref 311, .int nt, .ref 312, .ref 313, .ref 314, .ref 315, .ref 316, .ref 317, .ref 318, .int cel, .ref 319, .ref 320, .ref 321, .ref 322])), (309, .inr (.inl (0, run))), (310, .inr (.inl (0, tra))), (311, .inr (.inl (0, len))), (313, .inr (.inl (0, siz))), (314, .inr (.inl (0, frm))), (315, .inr (.inl (0, tto))), (317, .inr (.inl (0, slo))), (319, .inr (.inl (0, fit))), (320, .inr (.inl (0, way))), (321, .inr (.inl (0, rid))), (322, .inr (.inl (0, lon)))] h0 → j_V jP d 19 7 lv [] h (fun rv h' => rv = none ∧ KN h' [(307, .inl (2, [.int ns, .ref 308, .ref 309, .ref 310, .ref 311, .int nt, .ref 312, .ref 313, .ref 314, .ref 315, .ref 316, .ref 317, .ref 318, .int (x_settle_l7 ns nt run tra len siz frm tto slo f v1 cel fit rid lon way).1, .ref 319, .ref 320, .ref 321, .ref 322])), (309, .inr (.inl (0, run))), (310, .inr (.inl (0, tra))), (311, .inr (.inl (0, len))), (313, .inr (.inl (0, siz))), (314, .inr (.inl (0, frm))), (315, .inr (.inl (0, tto))), (317, .inr (.inl (0, slo))), (319, .inr (.inl (0, (x_settle_l7 ns nt run tra len siz frm tto slo f v1 cel fit rid lon way).2.1))), (320, .inr (.inl (0, (x_settle_l7 ns nt run tra len siz frm tto slo f v1 cel fit rid lon way).2.2.2.2))), (321, .inr (.inl (0, (x_settle_l7 ns nt run tra len siz frm tto slo f v1 cel fit rid lon way).2.2.1))), (322, .inr (.inl (0, (x_settle_l7 ns nt run tra len siz frm tto slo f v1 cel fit rid lon way).2.2.2.1)))] h0) := by
  intro f
  induction f with
  | zero =>
    intro v1 cel fit rid lon way lv h e L K
    refine j_V.ldL xe202_M xe202_7 rfl (i := 1) (kd := 0) (v := .int v1) (pcJ := 8) rfl L rfl rfl rfl ?_
    refine j_V.ldL xe202_M xe202_8 rfl (i := 0) (kd := 2) (v := .ref 307) (pcJ := 9) rfl L rfl rfl rfl ?_
    refine j_V.getK xe202_M xe202_9 (ci := 2) (j := 0) rfl K rfl rfl ?_
    refine j_V.icmp xe202_M xe202_12 (t := 35) rfl (fun c12_0 => ?_) (fun c12_0 => ?_)
    · replace c12_0 : ¬ (v1 < ns) := jd_ge c12_0
      refine j_V.one xe202_M xe202_35 (by decide) (pcJ := 36) (stJ := [.int 0]) rfl ?_
      refine j_V.stL xe202_M xe202_36 rfl (i := 1) (kd := 0) (kl' := [(0, .ref 307), (1, .int 0)]) (pcJ := 37) rfl L rfl (by decide) rfl rfl rfl (fun lv L => ?_)
      rw [show (x_settle_l7 ns nt run tra len siz frm tto slo 0 v1 cel fit rid lon way) = _ from (rfl)]
      exact xe202_ok_l37 _ _ _ _ _ _ _ rfl L K
    · replace c12_0 : v1 < ns := jd_gen c12_0
      exact absurd c12_0 (lpN_z e)
  | succ f ih =>
    intro v1 cel fit rid lon way lv h e L K
    refine j_V.ldL xe202_M xe202_7 rfl (i := 1) (kd := 0) (v := .int v1) (pcJ := 8) rfl L rfl rfl rfl ?_
    refine j_V.ldL xe202_M xe202_8 rfl (i := 0) (kd := 2) (v := .ref 307) (pcJ := 9) rfl L rfl rfl rfl ?_
    refine j_V.getK xe202_M xe202_9 (ci := 2) (j := 0) rfl K rfl rfl ?_
    refine j_V.icmp xe202_M xe202_12 (t := 35) rfl (fun c12_0 => ?_) (fun c12_0 => ?_)
    · replace c12_0 : ¬ (v1 < ns) := jd_ge c12_0
      exact absurd (lpN_s e) c12_0
    · replace c12_0 : v1 < ns := jd_gen c12_0
      refine j_V.ldL xe202_M xe202_15 rfl (i := 0) (kd := 2) (v := .ref 307) (pcJ := 16) rfl L rfl rfl rfl ?_
      refine j_V.one xe202_M xe202_16 (by decide) (pcJ := 17) (stJ := [.ref 307, .ref 307]) rfl ?_
      refine j_V.getK xe202_M xe202_17 (ci := 2) (j := 13) rfl K rfl rfl ?_
      refine j_V.ldL xe202_M xe202_20 rfl (i := 0) (kd := 2) (v := .ref 307) (pcJ := 21) rfl L rfl rfl rfl ?_
      refine j_V.ldL xe202_M xe202_21 rfl (i := 1) (kd := 0) (v := .int v1) (pcJ := 22) rfl L rfl rfl rfl ?_
      refine j_V.cl xe202_M xe202_22 rfl (md := 3) (mj := 23) rfl (by decide) xe00_M (As := [.ref 307, .int v1]) (rest := [.int cel, .ref 307]) (jk_spl3 (K.at rfl) rfl rfl rfl (Nat.le_of_ble_eq_true rfl) (Nat.le_of_ble_eq_true rfl)) (fun d => xe00_ok (K.fi [307, 310] rfl rfl)) ?_
      rintro r hz ⟨rfl, ez⟩
      rw [ez]
      clear ez
      show j_V jP _ 19 25 lv [.int (x_cellsOf tra v1), .int cel, .ref 307] h _
      refine j_V.one xe202_M xe202_25 (by decide) (pcJ := 26) (stJ := [.int (cel ||| (x_cellsOf tra v1)), .ref 307]) rfl ?_
      refine j_V.putK xe202_M xe202_26 (ci := 2) (j := 13) (k' := [(307, .inl (2, [.int ns, .ref 308, .ref 309, .ref 310, .ref 311, .int nt, .ref 312, .ref 313, .ref 314, .ref 315, .ref 316, .ref 317, .ref 318, .int (cel ||| (x_cellsOf tra v1)), .ref 319, .ref 320, .ref 321, .ref 322])), (309, .inr (.inl (0, run))), (310, .inr (.inl (0, tra))), (311, .inr (.inl (0, len))), (313, .inr (.inl (0, siz))), (314, .inr (.inl (0, frm))), (315, .inr (.inl (0, tto))), (317, .inr (.inl (0, slo))), (319, .inr (.inl (0, fit))), (320, .inr (.inl (0, way))), (321, .inr (.inl (0, rid))), (322, .inr (.inl (0, lon)))]) rfl K rfl (Nat.le_of_ble_eq_true rfl) rfl (Or.inl rfl) rfl rfl (fun h K => ?_)
      obtain ⟨cel1, ecel1⟩ : ∃ z, z = (cel ||| (x_cellsOf tra v1)) := ⟨_, rfl⟩
      rw [← ecel1] at K
      refine j_V.inL xe202_M xe202_29 (i := 1) (kl' := [(0, .ref 307), (1, .int (v1 + 1))]) (pcJ := 32) L rfl rfl rfl rfl (fun lv L => ?_)
      refine j_V.gto xe202_M xe202_32 (t := 7) rfl ?_
      subst ecel1
      rw [show (x_settle_l7 ns nt run tra len siz frm tto slo (f + 1) v1 cel fit rid lon way) = _ from (rfl)]
      exact ih _ _ _ _ _ _ (lpN_n e) L K
set_option maxRecDepth 1000000 in
theorem xe202_ok {ns : Int32} {nt : Int32} {cel : Int32} {run : List Int32} {tra : List Int32} {len : List Int32} {siz : List Int32} {frm : List Int32} {tto : List Int32} {slo : List Int32} {fit : List Int32} {way : List Int32} {rid : List Int32} {lon : List Int32} {d : Nat} {h h0 : J_H} (K : KN h [(307, .inl (2, [.int ns, .ref 308, .ref 309, .ref 310, .ref 311, .int nt, .ref 312, .ref 313, .ref 314, .ref 315, .ref 316, .ref 317, .ref 318, .int cel, .ref 319, .ref 320, .ref 321, .ref 322])), (309, .inr (.inl (0, run))), (310, .inr (.inl (0, tra))), (311, .inr (.inl (0, len))), (313, .inr (.inl (0, siz))), (314, .inr (.inl (0, frm))), (315, .inr (.inl (0, tto))), (317, .inr (.inl (0, slo))), (319, .inr (.inl (0, fit))), (320, .inr (.inl (0, way))), (321, .inr (.inl (0, rid))), (322, .inr (.inl (0, lon)))] h0) : j_V jP d 19 0 (lv_args 0 [.ref 307]) [] h (fun rv h' => rv = none ∧ KN h' [(307, .inl (2, [.int ns, .ref 308, .ref 309, .ref 310, .ref 311, .int nt, .ref 312, .ref 313, .ref 314, .ref 315, .ref 316, .ref 317, .ref 318, .int (x_settle ns nt run tra len siz frm tto slo fit way rid lon cel).1, .ref 319, .ref 320, .ref 321, .ref 322])), (309, .inr (.inl (0, run))), (310, .inr (.inl (0, tra))), (311, .inr (.inl (0, len))), (313, .inr (.inl (0, siz))), (314, .inr (.inl (0, frm))), (315, .inr (.inl (0, tto))), (317, .inr (.inl (0, slo))), (319, .inr (.inl (0, (x_settle ns nt run tra len siz frm tto slo fit way rid lon cel).2.1))), (320, .inr (.inl (0, (x_settle ns nt run tra len siz frm tto slo fit way rid lon cel).2.2.2.2))), (321, .inr (.inl (0, (x_settle ns nt run tra len siz frm tto slo fit way rid lon cel).2.2.1))), (322, .inr (.inl (0, (x_settle ns nt run tra len siz frm tto slo fit way rid lon cel).2.2.2.1)))] h0) := by
  show j_V jP d 19 0 [(0, .ref 307)] [] h _
  obtain ⟨lv, elv, L⟩ : ∃ lv, lv = [(0, .ref 307)] ∧ LK lv [(0, .ref 307)] := ⟨_, rfl, LK.rf⟩
  rw [← elv]
  clear elv
  refine j_V.ldL xe202_M xe202_0 rfl (i := 0) (kd := 2) (v := .ref 307) (pcJ := 1) rfl L rfl rfl rfl ?_
  refine j_V.one xe202_M xe202_1 (by decide) (pcJ := 2) (stJ := [.int 0, .ref 307]) rfl ?_
  refine j_V.putK xe202_M xe202_2 (ci := 2) (j := 13) (k' := [(307, .inl (2, [.int ns, .ref 308, .ref 309, .ref 310, .ref 311, .int nt, .ref 312, .ref 313, .ref 314, .ref 315, .ref 316, .ref 317, .ref 318, .int 0, .ref 319, .ref 320, .ref 321, .ref 322])), (309, .inr (.inl (0, run))), (310, .inr (.inl (0, tra))), (311, .inr (.inl (0, len))), (313, .inr (.inl (0, siz))), (314, .inr (.inl (0, frm))), (315, .inr (.inl (0, tto))), (317, .inr (.inl (0, slo))), (319, .inr (.inl (0, fit))), (320, .inr (.inl (0, way))), (321, .inr (.inl (0, rid))), (322, .inr (.inl (0, lon)))]) rfl K rfl (Nat.le_of_ble_eq_true rfl) rfl (Or.inl rfl) rfl rfl (fun h K => ?_)
  refine j_V.one xe202_M xe202_5 (by decide) (pcJ := 6) (stJ := [.int 0]) rfl ?_
  refine j_V.stL xe202_M xe202_6 rfl (i := 1) (kd := 0) (kl' := [(0, .ref 307), (1, .int 0)]) (pcJ := 7) rfl L rfl (by decide) rfl rfl rfl (fun lv L => ?_)
  rw [show (x_settle ns nt run tra len siz frm tto slo fit way rid lon cel) = _ from (rfl)]
  exact xe202_ok_l7 _ _ _ _ _ _ _ rfl L K
set_option maxRecDepth 100000 in
theorem xecw_M : j_meth jP 25 = some (yX2_copyWithTrack, cX2_copyWithTrack, 4, none, 3, false, 2) := rfl
set_option maxRecDepth 100000 in
theorem xecw_0 : j_code jP 25 0 = some (.aload_n 0) := rfl
set_option maxRecDepth 100000 in
theorem xecw_1 : j_code jP 25 1 = some (.aload_n 1) := rfl
set_option maxRecDepth 100000 in
theorem xecw_2 : j_code jP 25 2 = some (.getfield 58) := rfl
set_option maxRecDepth 100000 in
theorem xecw_5 : j_code jP 25 5 = some (.putfield 58) := rfl
set_option maxRecDepth 100000 in
theorem xecw_8 : j_code jP 25 8 = some (.aload_n 1) := rfl
set_option maxRecDepth 100000 in
theorem xecw_9 : j_code jP 25 9 = some (.getfield 15) := rfl
set_option maxRecDepth 100000 in
theorem xecw_12 : j_code jP 25 12 = some (.iconst 0) := rfl
set_option maxRecDepth 100000 in
theorem xecw_13 : j_code jP 25 13 = some (.aload_n 0) := rfl
set_option maxRecDepth 100000 in
theorem xecw_14 : j_code jP 25 14 = some (.getfield 15) := rfl
set_option maxRecDepth 100000 in
theorem xecw_17 : j_code jP 25 17 = some (.iconst 0) := rfl
set_option maxRecDepth 100000 in
theorem xecw_18 : j_code jP 25 18 = some (.bipush 7) := rfl
set_option maxRecDepth 100000 in
theorem xecw_20 : j_code jP 25 20 = some (.invokestatic 91) := rfl
set_option maxRecDepth 100000 in
theorem xecw_23 : j_code jP 25 23 = some (.aload_n 1) := rfl
set_option maxRecDepth 100000 in
theorem xecw_24 : j_code jP 25 24 = some (.getfield 19) := rfl
set_option maxRecDepth 100000 in
theorem xecw_27 : j_code jP 25 27 = some (.iconst 0) := rfl
set_option maxRecDepth 100000 in
theorem xecw_28 : j_code jP 25 28 = some (.aload_n 0) := rfl
set_option maxRecDepth 100000 in
theorem xecw_29 : j_code jP 25 29 = some (.getfield 19) := rfl
set_option maxRecDepth 100000 in
theorem xecw_32 : j_code jP 25 32 = some (.iconst 0) := rfl
set_option maxRecDepth 100000 in
theorem xecw_33 : j_code jP 25 33 = some (.bipush 7) := rfl
set_option maxRecDepth 100000 in
theorem xecw_35 : j_code jP 25 35 = some (.invokestatic 91) := rfl
set_option maxRecDepth 100000 in
theorem xecw_38 : j_code jP 25 38 = some (.aload_n 1) := rfl
set_option maxRecDepth 100000 in
theorem xecw_39 : j_code jP 25 39 = some (.getfield 22) := rfl
set_option maxRecDepth 100000 in
theorem xecw_42 : j_code jP 25 42 = some (.iconst 0) := rfl
set_option maxRecDepth 100000 in
theorem xecw_43 : j_code jP 25 43 = some (.aload_n 0) := rfl
set_option maxRecDepth 100000 in
theorem xecw_44 : j_code jP 25 44 = some (.getfield 22) := rfl
set_option maxRecDepth 100000 in
theorem xecw_47 : j_code jP 25 47 = some (.iconst 0) := rfl
set_option maxRecDepth 100000 in
theorem xecw_48 : j_code jP 25 48 = some (.bipush 21) := rfl
set_option maxRecDepth 100000 in
theorem xecw_50 : j_code jP 25 50 = some (.invokestatic 91) := rfl
set_option maxRecDepth 100000 in
theorem xecw_53 : j_code jP 25 53 = some (.aload_n 0) := rfl
set_option maxRecDepth 100000 in
theorem xecw_54 : j_code jP 25 54 = some (.aload_n 1) := rfl
set_option maxRecDepth 100000 in
theorem xecw_55 : j_code jP 25 55 = some (.getfield 62) := rfl
set_option maxRecDepth 100000 in
theorem xecw_58 : j_code jP 25 58 = some (.putfield 62) := rfl
set_option maxRecDepth 100000 in
theorem xecw_61 : j_code jP 25 61 = some (.aload_n 1) := rfl
set_option maxRecDepth 100000 in
theorem xecw_62 : j_code jP 25 62 = some (.getfield 28) := rfl
set_option maxRecDepth 100000 in
theorem xecw_65 : j_code jP 25 65 = some (.iconst 0) := rfl
set_option maxRecDepth 100000 in
theorem xecw_66 : j_code jP 25 66 = some (.aload_n 0) := rfl
set_option maxRecDepth 100000 in
theorem xecw_67 : j_code jP 25 67 = some (.getfield 28) := rfl
set_option maxRecDepth 100000 in
theorem xecw_70 : j_code jP 25 70 = some (.iconst 0) := rfl
set_option maxRecDepth 100000 in
theorem xecw_71 : j_code jP 25 71 = some (.iconst 5) := rfl
set_option maxRecDepth 100000 in
theorem xecw_72 : j_code jP 25 72 = some (.invokestatic 91) := rfl
set_option maxRecDepth 100000 in
theorem xecw_75 : j_code jP 25 75 = some (.aload_n 1) := rfl
set_option maxRecDepth 100000 in
theorem xecw_76 : j_code jP 25 76 = some (.getfield 31) := rfl
set_option maxRecDepth 100000 in
theorem xecw_79 : j_code jP 25 79 = some (.iconst 0) := rfl
set_option maxRecDepth 100000 in
theorem xecw_80 : j_code jP 25 80 = some (.aload_n 0) := rfl
set_option maxRecDepth 100000 in
theorem xecw_81 : j_code jP 25 81 = some (.getfield 31) := rfl
set_option maxRecDepth 100000 in
theorem xecw_84 : j_code jP 25 84 = some (.iconst 0) := rfl
set_option maxRecDepth 100000 in
theorem xecw_85 : j_code jP 25 85 = some (.iconst 5) := rfl
set_option maxRecDepth 100000 in
theorem xecw_86 : j_code jP 25 86 = some (.invokestatic 91) := rfl
set_option maxRecDepth 100000 in
theorem xecw_89 : j_code jP 25 89 = some (.aload_n 1) := rfl
set_option maxRecDepth 100000 in
theorem xecw_90 : j_code jP 25 90 = some (.getfield 34) := rfl
set_option maxRecDepth 100000 in
theorem xecw_93 : j_code jP 25 93 = some (.iconst 0) := rfl
set_option maxRecDepth 100000 in
theorem xecw_94 : j_code jP 25 94 = some (.aload_n 0) := rfl
set_option maxRecDepth 100000 in
theorem xecw_95 : j_code jP 25 95 = some (.getfield 34) := rfl
set_option maxRecDepth 100000 in
theorem xecw_98 : j_code jP 25 98 = some (.iconst 0) := rfl
set_option maxRecDepth 100000 in
theorem xecw_99 : j_code jP 25 99 = some (.iconst 5) := rfl
set_option maxRecDepth 100000 in
theorem xecw_100 : j_code jP 25 100 = some (.invokestatic 91) := rfl
set_option maxRecDepth 100000 in
theorem xecw_103 : j_code jP 25 103 = some (.aload_n 1) := rfl
set_option maxRecDepth 100000 in
theorem xecw_104 : j_code jP 25 104 = some (.getfield 40) := rfl
set_option maxRecDepth 100000 in
theorem xecw_107 : j_code jP 25 107 = some (.iconst 0) := rfl
set_option maxRecDepth 100000 in
theorem xecw_108 : j_code jP 25 108 = some (.aload_n 0) := rfl
set_option maxRecDepth 100000 in
theorem xecw_109 : j_code jP 25 109 = some (.getfield 40) := rfl
set_option maxRecDepth 100000 in
theorem xecw_112 : j_code jP 25 112 = some (.iconst 0) := rfl
set_option maxRecDepth 100000 in
theorem xecw_113 : j_code jP 25 113 = some (.iconst 5) := rfl
set_option maxRecDepth 100000 in
theorem xecw_114 : j_code jP 25 114 = some (.invokestatic 91) := rfl
set_option maxRecDepth 100000 in
theorem xecw_117 : j_code jP 25 117 = some (.aload_n 1) := rfl
set_option maxRecDepth 100000 in
theorem xecw_118 : j_code jP 25 118 = some (.getfield 43) := rfl
set_option maxRecDepth 100000 in
theorem xecw_121 : j_code jP 25 121 = some (.iconst 0) := rfl
set_option maxRecDepth 100000 in
theorem xecw_122 : j_code jP 25 122 = some (.aload_n 0) := rfl
set_option maxRecDepth 100000 in
theorem xecw_123 : j_code jP 25 123 = some (.getfield 43) := rfl
set_option maxRecDepth 100000 in
theorem xecw_126 : j_code jP 25 126 = some (.iconst 0) := rfl
set_option maxRecDepth 100000 in
theorem xecw_127 : j_code jP 25 127 = some (.iconst 5) := rfl
set_option maxRecDepth 100000 in
theorem xecw_128 : j_code jP 25 128 = some (.invokestatic 91) := rfl
set_option maxRecDepth 100000 in
theorem xecw_131 : j_code jP 25 131 = some (.aload_n 0) := rfl
set_option maxRecDepth 100000 in
theorem xecw_132 : j_code jP 25 132 = some (.getfield 19) := rfl
set_option maxRecDepth 100000 in
theorem xecw_135 : j_code jP 25 135 = some (.iload_n 2) := rfl
set_option maxRecDepth 100000 in
theorem xecw_136 : j_code jP 25 136 = some (.iaload) := rfl
set_option maxRecDepth 100000 in
theorem xecw_137 : j_code jP 25 137 = some (.iconst 3) := rfl
set_option maxRecDepth 100000 in
theorem xecw_138 : j_code jP 25 138 = some (.if_icmp .ge 29) := rfl
set_option maxRecDepth 100000 in
theorem xecw_141 : j_code jP 25 141 = some (.aload_n 0) := rfl
set_option maxRecDepth 100000 in
theorem xecw_142 : j_code jP 25 142 = some (.getfield 22) := rfl
set_option maxRecDepth 100000 in
theorem xecw_145 : j_code jP 25 145 = some (.iload_n 2) := rfl
set_option maxRecDepth 100000 in
theorem xecw_146 : j_code jP 25 146 = some (.iconst 3) := rfl
set_option maxRecDepth 100000 in
theorem xecw_147 : j_code jP 25 147 = some (.imul) := rfl
set_option maxRecDepth 100000 in
theorem xecw_148 : j_code jP 25 148 = some (.aload_n 0) := rfl
set_option maxRecDepth 100000 in
theorem xecw_149 : j_code jP 25 149 = some (.getfield 19) := rfl
set_option maxRecDepth 100000 in
theorem xecw_152 : j_code jP 25 152 = some (.iload_n 2) := rfl
set_option maxRecDepth 100000 in
theorem xecw_153 : j_code jP 25 153 = some (.iaload) := rfl
set_option maxRecDepth 100000 in
theorem xecw_154 : j_code jP 25 154 = some (.iadd) := rfl
set_option maxRecDepth 100000 in
theorem xecw_155 : j_code jP 25 155 = some (.iload_n 3) := rfl
set_option maxRecDepth 100000 in
theorem xecw_156 : j_code jP 25 156 = some (.iastore) := rfl
set_option maxRecDepth 100000 in
theorem xecw_157 : j_code jP 25 157 = some (.aload_n 0) := rfl
set_option maxRecDepth 100000 in
theorem xecw_158 : j_code jP 25 158 = some (.getfield 19) := rfl
set_option maxRecDepth 100000 in
theorem xecw_161 : j_code jP 25 161 = some (.iload_n 2) := rfl
set_option maxRecDepth 100000 in
theorem xecw_162 : j_code jP 25 162 = some (.dup2) := rfl
set_option maxRecDepth 100000 in
theorem xecw_163 : j_code jP 25 163 = some (.iaload) := rfl
set_option maxRecDepth 100000 in
theorem xecw_164 : j_code jP 25 164 = some (.iconst 1) := rfl
set_option maxRecDepth 100000 in
theorem xecw_165 : j_code jP 25 165 = some (.iadd) := rfl
set_option maxRecDepth 100000 in
theorem xecw_166 : j_code jP 25 166 = some (.iastore) := rfl
set_option maxRecDepth 100000 in
theorem xecw_167 : j_code jP 25 167 = some (.aload_n 0) := rfl
set_option maxRecDepth 100000 in
theorem xecw_168 : j_code jP 25 168 = some (.invokevirtual 97) := rfl
set_option maxRecDepth 100000 in
theorem xecw_171 : j_code jP 25 171 = some (.return_) := rfl
def x_copyWithTrack (cel : Int32) (run : List Int32) (tra : List Int32) (len : List Int32) (siz : List Int32) (frm : List Int32) (tto : List Int32) (slo : List Int32) (wei : List Int32) (fit : List Int32) (way : List Int32) (rid : List Int32) (lon : List Int32) (nss : Int32) (runs : List Int32) (tras : List Int32) (lens : List Int32) (nts : Int32) (sizs : List Int32) (frms : List Int32) (ttos : List Int32) (slos : List Int32) (weis : List Int32) (ns : Int32) (nt : Int32) (x2 : Int32) (x3 : Int32) : Int32 × Int32 × List Int32 × List Int32 × List Int32 × List Int32 × List Int32 × List Int32 × List Int32 × List Int32 × Int32 × List Int32 × List Int32 × List Int32 × List Int32 := let run1 := (aC 7 runs run); let tra1 := (aC 7 tras tra); let len1 := (aC 21 lens len); let siz1 := (aC 5 sizs siz); let frm1 := (aC 5 frms frm); let tto1 := (aC 5 ttos tto); let slo1 := (aC 5 slos slo); let wei1 := (aC 5 weis wei); (if (gA tra1 x2) < 3 then let len3 := (sA len1 ((x2 * 3) + (gA tra1 x2)) x3); let tra3 := (sA tra1 x2 ((gA tra1 x2) + 1)); let z2 := (x_settle nss nts run1 tra3 len3 siz1 frm1 tto1 slo1 fit way rid lon cel); (nss, nts, run1, tra3, len3, siz1, frm1, tto1, slo1, wei1, (z2.1), (z2.2.1), (z2.2.2.1), (z2.2.2.2.1), (z2.2.2.2.2)) else let z1 := (x_settle nss nts run1 tra1 len1 siz1 frm1 tto1 slo1 fit way rid lon cel); (nss, nts, run1, tra1, len1, siz1, frm1, tto1, slo1, wei1, (z1.1), (z1.2.1), (z1.2.2.1), (z1.2.2.2.1), (z1.2.2.2.2)))
set_option maxRecDepth 1000000 in
theorem xecw_ok {ns : Int32} {nt : Int32} {cel : Int32} {run : List Int32} {tra : List Int32} {len : List Int32} {siz : List Int32} {frm : List Int32} {tto : List Int32} {slo : List Int32} {wei : List Int32} {fit : List Int32} {way : List Int32} {rid : List Int32} {lon : List Int32} {nss : Int32} {runs : List Int32} {tras : List Int32} {lens : List Int32} {nts : Int32} {sizs : List Int32} {frms : List Int32} {ttos : List Int32} {slos : List Int32} {weis : List Int32} {cels : Int32} {x2 x3 : Int32} {d : Nat} {h h0 : J_H} (K : KN h [(307, .inl (2, [.int ns, .ref 308, .ref 309, .ref 310, .ref 311, .int nt, .ref 312, .ref 313, .ref 314, .ref 315, .ref 316, .ref 317, .ref 318, .int cel, .ref 319, .ref 320, .ref 321, .ref 322])), (309, .inr (.inl (0, run))), (310, .inr (.inl (0, tra))), (311, .inr (.inl (0, len))), (313, .inr (.inl (0, siz))), (314, .inr (.inl (0, frm))), (315, .inr (.inl (0, tto))), (317, .inr (.inl (0, slo))), (318, .inr (.inl (0, wei))), (319, .inr (.inl (0, fit))), (320, .inr (.inl (0, way))), (321, .inr (.inl (0, rid))), (322, .inr (.inl (0, lon))), (327, .inl (2, [.int nss, .ref 328, .ref 329, .ref 330, .ref 331, .int nts, .ref 332, .ref 333, .ref 334, .ref 335, .ref 336, .ref 337, .ref 338, .int cels, .ref 339, .ref 340, .ref 341, .ref 342])), (329, .inr (.inl (0, runs))), (330, .inr (.inl (0, tras))), (331, .inr (.inl (0, lens))), (333, .inr (.inl (0, sizs))), (334, .inr (.inl (0, frms))), (335, .inr (.inl (0, ttos))), (337, .inr (.inl (0, slos))), (338, .inr (.inl (0, weis)))] h0) : j_V jP d 25 0 (lv_args 0 [.ref 307, .ref 327, .int x2, .int x3]) [] h (fun rv h' => rv = none ∧ KN h' [(307, .inl (2, [.int (x_copyWithTrack cel run tra len siz frm tto slo wei fit way rid lon nss runs tras lens nts sizs frms ttos slos weis ns nt x2 x3).1, .ref 308, .ref 309, .ref 310, .ref 311, .int (x_copyWithTrack cel run tra len siz frm tto slo wei fit way rid lon nss runs tras lens nts sizs frms ttos slos weis ns nt x2 x3).2.1, .ref 312, .ref 313, .ref 314, .ref 315, .ref 316, .ref 317, .ref 318, .int (x_copyWithTrack cel run tra len siz frm tto slo wei fit way rid lon nss runs tras lens nts sizs frms ttos slos weis ns nt x2 x3).2.2.2.2.2.2.2.2.2.2.1, .ref 319, .ref 320, .ref 321, .ref 322])), (309, .inr (.inl (0, (x_copyWithTrack cel run tra len siz frm tto slo wei fit way rid lon nss runs tras lens nts sizs frms ttos slos weis ns nt x2 x3).2.2.1))), (310, .inr (.inl (0, (x_copyWithTrack cel run tra len siz frm tto slo wei fit way rid lon nss runs tras lens nts sizs frms ttos slos weis ns nt x2 x3).2.2.2.1))), (311, .inr (.inl (0, (x_copyWithTrack cel run tra len siz frm tto slo wei fit way rid lon nss runs tras lens nts sizs frms ttos slos weis ns nt x2 x3).2.2.2.2.1))), (313, .inr (.inl (0, (x_copyWithTrack cel run tra len siz frm tto slo wei fit way rid lon nss runs tras lens nts sizs frms ttos slos weis ns nt x2 x3).2.2.2.2.2.1))), (314, .inr (.inl (0, (x_copyWithTrack cel run tra len siz frm tto slo wei fit way rid lon nss runs tras lens nts sizs frms ttos slos weis ns nt x2 x3).2.2.2.2.2.2.1))), (315, .inr (.inl (0, (x_copyWithTrack cel run tra len siz frm tto slo wei fit way rid lon nss runs tras lens nts sizs frms ttos slos weis ns nt x2 x3).2.2.2.2.2.2.2.1))), (317, .inr (.inl (0, (x_copyWithTrack cel run tra len siz frm tto slo wei fit way rid lon nss runs tras lens nts sizs frms ttos slos weis ns nt x2 x3).2.2.2.2.2.2.2.2.1))), (318, .inr (.inl (0, (x_copyWithTrack cel run tra len siz frm tto slo wei fit way rid lon nss runs tras lens nts sizs frms ttos slos weis ns nt x2 x3).2.2.2.2.2.2.2.2.2.1))), (319, .inr (.inl (0, (x_copyWithTrack cel run tra len siz frm tto slo wei fit way rid lon nss runs tras lens nts sizs frms ttos slos weis ns nt x2 x3).2.2.2.2.2.2.2.2.2.2.2.1))), (320, .inr (.inl (0, (x_copyWithTrack cel run tra len siz frm tto slo wei fit way rid lon nss runs tras lens nts sizs frms ttos slos weis ns nt x2 x3).2.2.2.2.2.2.2.2.2.2.2.2.2.2))), (321, .inr (.inl (0, (x_copyWithTrack cel run tra len siz frm tto slo wei fit way rid lon nss runs tras lens nts sizs frms ttos slos weis ns nt x2 x3).2.2.2.2.2.2.2.2.2.2.2.2.1))), (322, .inr (.inl (0, (x_copyWithTrack cel run tra len siz frm tto slo wei fit way rid lon nss runs tras lens nts sizs frms ttos slos weis ns nt x2 x3).2.2.2.2.2.2.2.2.2.2.2.2.2.1))), (327, .inl (2, [.int nss, .ref 328, .ref 329, .ref 330, .ref 331, .int nts, .ref 332, .ref 333, .ref 334, .ref 335, .ref 336, .ref 337, .ref 338, .int cels, .ref 339, .ref 340, .ref 341, .ref 342])), (329, .inr (.inl (0, runs))), (330, .inr (.inl (0, tras))), (331, .inr (.inl (0, lens))), (333, .inr (.inl (0, sizs))), (334, .inr (.inl (0, frms))), (335, .inr (.inl (0, ttos))), (337, .inr (.inl (0, slos))), (338, .inr (.inl (0, weis)))] h0) := by
  show j_V jP d 25 0 [(0, .ref 307), (1, .ref 327), (2, .int x2), (3, .int x3)] [] h _
  obtain ⟨lv, elv, L⟩ : ∃ lv, lv = [(0, .ref 307), (1, .ref 327), (2, .int x2), (3, .int x3)] ∧ LK lv [(0, .ref 307), (1, .ref 327), (2, .int x2), (3, .int x3)] := ⟨_, rfl, LK.rf⟩
  rw [← elv]
  clear elv
  refine j_V.ldL xecw_M xecw_0 rfl (i := 0) (kd := 2) (v := .ref 307) (pcJ := 1) rfl L rfl rfl rfl ?_
  refine j_V.ldL xecw_M xecw_1 rfl (i := 1) (kd := 2) (v := .ref 327) (pcJ := 2) rfl L rfl rfl rfl ?_
  refine j_V.getK xecw_M xecw_2 (ci := 2) (j := 0) rfl K rfl rfl ?_
  refine j_V.putK xecw_M xecw_5 (ci := 2) (j := 0) (k' := [(307, .inl (2, [.int nss, .ref 308, .ref 309, .ref 310, .ref 311, .int nt, .ref 312, .ref 313, .ref 314, .ref 315, .ref 316, .ref 317, .ref 318, .int cel, .ref 319, .ref 320, .ref 321, .ref 322])), (309, .inr (.inl (0, run))), (310, .inr (.inl (0, tra))), (311, .inr (.inl (0, len))), (313, .inr (.inl (0, siz))), (314, .inr (.inl (0, frm))), (315, .inr (.inl (0, tto))), (317, .inr (.inl (0, slo))), (318, .inr (.inl (0, wei))), (319, .inr (.inl (0, fit))), (320, .inr (.inl (0, way))), (321, .inr (.inl (0, rid))), (322, .inr (.inl (0, lon))), (327, .inl (2, [.int nss, .ref 328, .ref 329, .ref 330, .ref 331, .int nts, .ref 332, .ref 333, .ref 334, .ref 335, .ref 336, .ref 337, .ref 338, .int cels, .ref 339, .ref 340, .ref 341, .ref 342])), (329, .inr (.inl (0, runs))), (330, .inr (.inl (0, tras))), (331, .inr (.inl (0, lens))), (333, .inr (.inl (0, sizs))), (334, .inr (.inl (0, frms))), (335, .inr (.inl (0, ttos))), (337, .inr (.inl (0, slos))), (338, .inr (.inl (0, weis)))]) rfl K rfl (Nat.le_of_ble_eq_true rfl) rfl (Or.inl rfl) rfl rfl (fun h K => ?_)
  refine j_V.ldL xecw_M xecw_8 rfl (i := 1) (kd := 2) (v := .ref 327) (pcJ := 9) rfl L rfl rfl rfl ?_
  refine j_V.getK xecw_M xecw_9 (ci := 2) (j := 2) rfl K rfl rfl ?_
  refine j_V.one xecw_M xecw_12 (by decide) (pcJ := 13) (stJ := [.int 0, .ref 329]) rfl ?_
  refine j_V.ldL xecw_M xecw_13 rfl (i := 0) (kd := 2) (v := .ref 307) (pcJ := 14) rfl L rfl rfl rfl ?_
  refine j_V.getK xecw_M xecw_14 (ci := 2) (j := 2) rfl K rfl rfl ?_
  refine j_V.one xecw_M xecw_17 (by decide) (pcJ := 18) (stJ := [.int 0, .ref 309, .int 0, .ref 329]) rfl ?_
  refine j_V.one xecw_M xecw_18 (by decide) (pcJ := 20) (stJ := [.int 7, .int 0, .ref 309, .int 0, .ref 329]) rfl ?_
  refine j_V.acp xecw_M xecw_20 rfl rfl K rfl rfl rfl (fun h K => ?_)
  obtain ⟨run1, erun1⟩ : ∃ z, z = (aC 7 runs run) := ⟨_, rfl⟩
  rw [← erun1] at K
  refine j_V.ldL xecw_M xecw_23 rfl (i := 1) (kd := 2) (v := .ref 327) (pcJ := 24) rfl L rfl rfl rfl ?_
  refine j_V.getK xecw_M xecw_24 (ci := 2) (j := 3) rfl K rfl rfl ?_
  refine j_V.one xecw_M xecw_27 (by decide) (pcJ := 28) (stJ := [.int 0, .ref 330]) rfl ?_
  refine j_V.ldL xecw_M xecw_28 rfl (i := 0) (kd := 2) (v := .ref 307) (pcJ := 29) rfl L rfl rfl rfl ?_
  refine j_V.getK xecw_M xecw_29 (ci := 2) (j := 3) rfl K rfl rfl ?_
  refine j_V.one xecw_M xecw_32 (by decide) (pcJ := 33) (stJ := [.int 0, .ref 310, .int 0, .ref 330]) rfl ?_
  refine j_V.one xecw_M xecw_33 (by decide) (pcJ := 35) (stJ := [.int 7, .int 0, .ref 310, .int 0, .ref 330]) rfl ?_
  refine j_V.acp xecw_M xecw_35 rfl rfl K rfl rfl rfl (fun h K => ?_)
  obtain ⟨tra1, etra1⟩ : ∃ z, z = (aC 7 tras tra) := ⟨_, rfl⟩
  rw [← etra1] at K
  refine j_V.ldL xecw_M xecw_38 rfl (i := 1) (kd := 2) (v := .ref 327) (pcJ := 39) rfl L rfl rfl rfl ?_
  refine j_V.getK xecw_M xecw_39 (ci := 2) (j := 4) rfl K rfl rfl ?_
  refine j_V.one xecw_M xecw_42 (by decide) (pcJ := 43) (stJ := [.int 0, .ref 331]) rfl ?_
  refine j_V.ldL xecw_M xecw_43 rfl (i := 0) (kd := 2) (v := .ref 307) (pcJ := 44) rfl L rfl rfl rfl ?_
  refine j_V.getK xecw_M xecw_44 (ci := 2) (j := 4) rfl K rfl rfl ?_
  refine j_V.one xecw_M xecw_47 (by decide) (pcJ := 48) (stJ := [.int 0, .ref 311, .int 0, .ref 331]) rfl ?_
  refine j_V.one xecw_M xecw_48 (by decide) (pcJ := 50) (stJ := [.int 21, .int 0, .ref 311, .int 0, .ref 331]) rfl ?_
  refine j_V.acp xecw_M xecw_50 rfl rfl K rfl rfl rfl (fun h K => ?_)
  obtain ⟨len1, elen1⟩ : ∃ z, z = (aC 21 lens len) := ⟨_, rfl⟩
  rw [← elen1] at K
  refine j_V.ldL xecw_M xecw_53 rfl (i := 0) (kd := 2) (v := .ref 307) (pcJ := 54) rfl L rfl rfl rfl ?_
  refine j_V.ldL xecw_M xecw_54 rfl (i := 1) (kd := 2) (v := .ref 327) (pcJ := 55) rfl L rfl rfl rfl ?_
  refine j_V.getK xecw_M xecw_55 (ci := 2) (j := 5) rfl K rfl rfl ?_
  refine j_V.putK xecw_M xecw_58 (ci := 2) (j := 5) (k' := [(307, .inl (2, [.int nss, .ref 308, .ref 309, .ref 310, .ref 311, .int nts, .ref 312, .ref 313, .ref 314, .ref 315, .ref 316, .ref 317, .ref 318, .int cel, .ref 319, .ref 320, .ref 321, .ref 322])), (309, .inr (.inl (0, run1))), (310, .inr (.inl (0, tra1))), (311, .inr (.inl (0, len1))), (313, .inr (.inl (0, siz))), (314, .inr (.inl (0, frm))), (315, .inr (.inl (0, tto))), (317, .inr (.inl (0, slo))), (318, .inr (.inl (0, wei))), (319, .inr (.inl (0, fit))), (320, .inr (.inl (0, way))), (321, .inr (.inl (0, rid))), (322, .inr (.inl (0, lon))), (327, .inl (2, [.int nss, .ref 328, .ref 329, .ref 330, .ref 331, .int nts, .ref 332, .ref 333, .ref 334, .ref 335, .ref 336, .ref 337, .ref 338, .int cels, .ref 339, .ref 340, .ref 341, .ref 342])), (329, .inr (.inl (0, runs))), (330, .inr (.inl (0, tras))), (331, .inr (.inl (0, lens))), (333, .inr (.inl (0, sizs))), (334, .inr (.inl (0, frms))), (335, .inr (.inl (0, ttos))), (337, .inr (.inl (0, slos))), (338, .inr (.inl (0, weis)))]) rfl K rfl (Nat.le_of_ble_eq_true rfl) rfl (Or.inl rfl) rfl rfl (fun h K => ?_)
  refine j_V.ldL xecw_M xecw_61 rfl (i := 1) (kd := 2) (v := .ref 327) (pcJ := 62) rfl L rfl rfl rfl ?_
  refine j_V.getK xecw_M xecw_62 (ci := 2) (j := 7) rfl K rfl rfl ?_
  refine j_V.one xecw_M xecw_65 (by decide) (pcJ := 66) (stJ := [.int 0, .ref 333]) rfl ?_
  refine j_V.ldL xecw_M xecw_66 rfl (i := 0) (kd := 2) (v := .ref 307) (pcJ := 67) rfl L rfl rfl rfl ?_
  refine j_V.getK xecw_M xecw_67 (ci := 2) (j := 7) rfl K rfl rfl ?_
  refine j_V.one xecw_M xecw_70 (by decide) (pcJ := 71) (stJ := [.int 0, .ref 313, .int 0, .ref 333]) rfl ?_
  refine j_V.one xecw_M xecw_71 (by decide) (pcJ := 72) (stJ := [.int 5, .int 0, .ref 313, .int 0, .ref 333]) rfl ?_
  refine j_V.acp xecw_M xecw_72 rfl rfl K rfl rfl rfl (fun h K => ?_)
  obtain ⟨siz1, esiz1⟩ : ∃ z, z = (aC 5 sizs siz) := ⟨_, rfl⟩
  rw [← esiz1] at K
  refine j_V.ldL xecw_M xecw_75 rfl (i := 1) (kd := 2) (v := .ref 327) (pcJ := 76) rfl L rfl rfl rfl ?_
  refine j_V.getK xecw_M xecw_76 (ci := 2) (j := 8) rfl K rfl rfl ?_
  refine j_V.one xecw_M xecw_79 (by decide) (pcJ := 80) (stJ := [.int 0, .ref 334]) rfl ?_
  refine j_V.ldL xecw_M xecw_80 rfl (i := 0) (kd := 2) (v := .ref 307) (pcJ := 81) rfl L rfl rfl rfl ?_
  refine j_V.getK xecw_M xecw_81 (ci := 2) (j := 8) rfl K rfl rfl ?_
  refine j_V.one xecw_M xecw_84 (by decide) (pcJ := 85) (stJ := [.int 0, .ref 314, .int 0, .ref 334]) rfl ?_
  refine j_V.one xecw_M xecw_85 (by decide) (pcJ := 86) (stJ := [.int 5, .int 0, .ref 314, .int 0, .ref 334]) rfl ?_
  refine j_V.acp xecw_M xecw_86 rfl rfl K rfl rfl rfl (fun h K => ?_)
  obtain ⟨frm1, efrm1⟩ : ∃ z, z = (aC 5 frms frm) := ⟨_, rfl⟩
  rw [← efrm1] at K
  refine j_V.ldL xecw_M xecw_89 rfl (i := 1) (kd := 2) (v := .ref 327) (pcJ := 90) rfl L rfl rfl rfl ?_
  refine j_V.getK xecw_M xecw_90 (ci := 2) (j := 9) rfl K rfl rfl ?_
  refine j_V.one xecw_M xecw_93 (by decide) (pcJ := 94) (stJ := [.int 0, .ref 335]) rfl ?_
  refine j_V.ldL xecw_M xecw_94 rfl (i := 0) (kd := 2) (v := .ref 307) (pcJ := 95) rfl L rfl rfl rfl ?_
  refine j_V.getK xecw_M xecw_95 (ci := 2) (j := 9) rfl K rfl rfl ?_
  refine j_V.one xecw_M xecw_98 (by decide) (pcJ := 99) (stJ := [.int 0, .ref 315, .int 0, .ref 335]) rfl ?_
  refine j_V.one xecw_M xecw_99 (by decide) (pcJ := 100) (stJ := [.int 5, .int 0, .ref 315, .int 0, .ref 335]) rfl ?_
  refine j_V.acp xecw_M xecw_100 rfl rfl K rfl rfl rfl (fun h K => ?_)
  obtain ⟨tto1, etto1⟩ : ∃ z, z = (aC 5 ttos tto) := ⟨_, rfl⟩
  rw [← etto1] at K
  refine j_V.ldL xecw_M xecw_103 rfl (i := 1) (kd := 2) (v := .ref 327) (pcJ := 104) rfl L rfl rfl rfl ?_
  refine j_V.getK xecw_M xecw_104 (ci := 2) (j := 11) rfl K rfl rfl ?_
  refine j_V.one xecw_M xecw_107 (by decide) (pcJ := 108) (stJ := [.int 0, .ref 337]) rfl ?_
  refine j_V.ldL xecw_M xecw_108 rfl (i := 0) (kd := 2) (v := .ref 307) (pcJ := 109) rfl L rfl rfl rfl ?_
  refine j_V.getK xecw_M xecw_109 (ci := 2) (j := 11) rfl K rfl rfl ?_
  refine j_V.one xecw_M xecw_112 (by decide) (pcJ := 113) (stJ := [.int 0, .ref 317, .int 0, .ref 337]) rfl ?_
  refine j_V.one xecw_M xecw_113 (by decide) (pcJ := 114) (stJ := [.int 5, .int 0, .ref 317, .int 0, .ref 337]) rfl ?_
  refine j_V.acp xecw_M xecw_114 rfl rfl K rfl rfl rfl (fun h K => ?_)
  obtain ⟨slo1, eslo1⟩ : ∃ z, z = (aC 5 slos slo) := ⟨_, rfl⟩
  rw [← eslo1] at K
  refine j_V.ldL xecw_M xecw_117 rfl (i := 1) (kd := 2) (v := .ref 327) (pcJ := 118) rfl L rfl rfl rfl ?_
  refine j_V.getK xecw_M xecw_118 (ci := 2) (j := 12) rfl K rfl rfl ?_
  refine j_V.one xecw_M xecw_121 (by decide) (pcJ := 122) (stJ := [.int 0, .ref 338]) rfl ?_
  refine j_V.ldL xecw_M xecw_122 rfl (i := 0) (kd := 2) (v := .ref 307) (pcJ := 123) rfl L rfl rfl rfl ?_
  refine j_V.getK xecw_M xecw_123 (ci := 2) (j := 12) rfl K rfl rfl ?_
  refine j_V.one xecw_M xecw_126 (by decide) (pcJ := 127) (stJ := [.int 0, .ref 318, .int 0, .ref 338]) rfl ?_
  refine j_V.one xecw_M xecw_127 (by decide) (pcJ := 128) (stJ := [.int 5, .int 0, .ref 318, .int 0, .ref 338]) rfl ?_
  refine j_V.acp xecw_M xecw_128 rfl rfl K rfl rfl rfl (fun h K => ?_)
  obtain ⟨wei1, ewei1⟩ : ∃ z, z = (aC 5 weis wei) := ⟨_, rfl⟩
  rw [← ewei1] at K
  refine j_V.ldL xecw_M xecw_131 rfl (i := 0) (kd := 2) (v := .ref 307) (pcJ := 132) rfl L rfl rfl rfl ?_
  refine j_V.getK xecw_M xecw_132 (ci := 2) (j := 3) rfl K rfl rfl ?_
  refine j_V.ldL xecw_M xecw_135 rfl (i := 2) (kd := 0) (v := .int x2) (pcJ := 136) rfl L rfl rfl rfl ?_
  refine j_V.iaA xecw_M xecw_136 K rfl ?_
  refine j_V.one xecw_M xecw_137 (by decide) (pcJ := 138) (stJ := [.int 3, .int (gA tra1 x2)]) rfl ?_
  refine j_V.icmp xecw_M xecw_138 (t := 167) rfl (fun c138_0 => ?_) (fun c138_0 => ?_)
  · replace c138_0 : ¬ ((gA tra1 x2) < 3) := jd_ge c138_0
    refine j_V.ldL xecw_M xecw_167 rfl (i := 0) (kd := 2) (v := .ref 307) (pcJ := 168) rfl L rfl rfl rfl ?_
    refine j_V.cl xecw_M xecw_168 rfl (md := 3) (mj := 19) rfl (by decide) xe202_M (As := [.ref 307]) (rest := []) (jk_spl3 (K.at rfl) rfl rfl rfl (Nat.le_of_ble_eq_true rfl) (Nat.le_of_ble_eq_true rfl)) (fun d => xe202_ok (K.fi [307, 309, 310, 311, 313, 314, 315, 317, 319, 320, 321, 322] rfl rfl)) ?_
    rintro r h9 ⟨rfl, K9⟩
    generalize ez1 : (x_settle nss nts run1 tra1 len1 siz1 frm1 tto1 slo1 fit way rid lon cel) = z1 at K9 ⊢
    have K : KN h9 [(307, .inl (2, [.int nss, .ref 308, .ref 309, .ref 310, .ref 311, .int nts, .ref 312, .ref 313, .ref 314, .ref 315, .ref 316, .ref 317, .ref 318, .int (z1.1), .ref 319, .ref 320, .ref 321, .ref 322])), (309, .inr (.inl (0, run1))), (310, .inr (.inl (0, tra1))), (311, .inr (.inl (0, len1))), (313, .inr (.inl (0, siz1))), (314, .inr (.inl (0, frm1))), (315, .inr (.inl (0, tto1))), (317, .inr (.inl (0, slo1))), (318, .inr (.inl (0, wei1))), (319, .inr (.inl (0, (z1.2.1)))), (320, .inr (.inl (0, (z1.2.2.2.2)))), (321, .inr (.inl (0, (z1.2.2.1)))), (322, .inr (.inl (0, (z1.2.2.2.1)))), (327, .inl (2, [.int nss, .ref 328, .ref 329, .ref 330, .ref 331, .int nts, .ref 332, .ref 333, .ref 334, .ref 335, .ref 336, .ref 337, .ref 338, .int cels, .ref 339, .ref 340, .ref 341, .ref 342])), (329, .inr (.inl (0, runs))), (330, .inr (.inl (0, tras))), (331, .inr (.inl (0, lens))), (333, .inr (.inl (0, sizs))), (334, .inr (.inl (0, frms))), (335, .inr (.inl (0, ttos))), (337, .inr (.inl (0, slos))), (338, .inr (.inl (0, weis)))] h0 := K.mg K9 rfl rfl
    clear K9
    show j_V jP _ 25 171 lv [] h9 _
    subst ez1
    subst ewei1
    subst eslo1
    subst etto1
    subst efrm1
    subst esiz1
    subst elen1
    subst etra1
    subst erun1
    refine j_V.ret xecw_M xecw_171 rfl rfl ?_
    rw [show (x_copyWithTrack cel run tra len siz frm tto slo wei fit way rid lon nss runs tras lens nts sizs frms ttos slos weis ns nt x2 x3) = _ from ((if_neg c138_0).trans (rfl))]
    exact ⟨rfl, K⟩
  · replace c138_0 : (gA tra1 x2) < 3 := jd_gen c138_0
    refine j_V.ldL xecw_M xecw_141 rfl (i := 0) (kd := 2) (v := .ref 307) (pcJ := 142) rfl L rfl rfl rfl ?_
    refine j_V.getK xecw_M xecw_142 (ci := 2) (j := 4) rfl K rfl rfl ?_
    refine j_V.ldL xecw_M xecw_145 rfl (i := 2) (kd := 0) (v := .int x2) (pcJ := 146) rfl L rfl rfl rfl ?_
    refine j_V.one xecw_M xecw_146 (by decide) (pcJ := 147) (stJ := [.int 3, .int x2, .ref 311]) rfl ?_
    refine j_V.one xecw_M xecw_147 (by decide) (pcJ := 148) (stJ := [.int (x2 * 3), .ref 311]) rfl ?_
    refine j_V.ldL xecw_M xecw_148 rfl (i := 0) (kd := 2) (v := .ref 307) (pcJ := 149) rfl L rfl rfl rfl ?_
    refine j_V.getK xecw_M xecw_149 (ci := 2) (j := 3) rfl K rfl rfl ?_
    refine j_V.ldL xecw_M xecw_152 rfl (i := 2) (kd := 0) (v := .int x2) (pcJ := 153) rfl L rfl rfl rfl ?_
    refine j_V.iaA xecw_M xecw_153 K rfl ?_
    refine j_V.one xecw_M xecw_154 (by decide) (pcJ := 155) (stJ := [.int ((x2 * 3) + (gA tra1 x2)), .ref 311]) rfl ?_
    refine j_V.ldL xecw_M xecw_155 rfl (i := 3) (kd := 0) (v := .int x3) (pcJ := 156) rfl L rfl rfl rfl ?_
    refine j_V.isA xecw_M xecw_156 (k' := [(307, .inl (2, [.int nss, .ref 308, .ref 309, .ref 310, .ref 311, .int nts, .ref 312, .ref 313, .ref 314, .ref 315, .ref 316, .ref 317, .ref 318, .int cel, .ref 319, .ref 320, .ref 321, .ref 322])), (309, .inr (.inl (0, run1))), (310, .inr (.inl (0, tra1))), (311, .inr (.inl (0, (sA len1 ((x2 * 3) + (gA tra1 x2)) x3)))), (313, .inr (.inl (0, siz1))), (314, .inr (.inl (0, frm1))), (315, .inr (.inl (0, tto1))), (317, .inr (.inl (0, slo1))), (318, .inr (.inl (0, wei1))), (319, .inr (.inl (0, fit))), (320, .inr (.inl (0, way))), (321, .inr (.inl (0, rid))), (322, .inr (.inl (0, lon))), (327, .inl (2, [.int nss, .ref 328, .ref 329, .ref 330, .ref 331, .int nts, .ref 332, .ref 333, .ref 334, .ref 335, .ref 336, .ref 337, .ref 338, .int cels, .ref 339, .ref 340, .ref 341, .ref 342])), (329, .inr (.inl (0, runs))), (330, .inr (.inl (0, tras))), (331, .inr (.inl (0, lens))), (333, .inr (.inl (0, sizs))), (334, .inr (.inl (0, frms))), (335, .inr (.inl (0, ttos))), (337, .inr (.inl (0, slos))), (338, .inr (.inl (0, weis)))]) K rfl rfl (fun h K => ?_)
    obtain ⟨len3, elen3⟩ : ∃ z, z = (sA len1 ((x2 * 3) + (gA tra1 x2)) x3) := ⟨_, rfl⟩
    rw [← elen3] at K
    refine j_V.ldL xecw_M xecw_157 rfl (i := 0) (kd := 2) (v := .ref 307) (pcJ := 158) rfl L rfl rfl rfl ?_
    refine j_V.getK xecw_M xecw_158 (ci := 2) (j := 3) rfl K rfl rfl ?_
    refine j_V.ldL xecw_M xecw_161 rfl (i := 2) (kd := 0) (v := .int x2) (pcJ := 162) rfl L rfl rfl rfl ?_
    refine j_V.one xecw_M xecw_162 (by decide) (pcJ := 163) (stJ := [.int x2, .ref 310, .int x2, .ref 310]) rfl ?_
    refine j_V.iaA xecw_M xecw_163 K rfl ?_
    refine j_V.one xecw_M xecw_164 (by decide) (pcJ := 165) (stJ := [.int 1, .int (gA tra1 x2), .int x2, .ref 310]) rfl ?_
    refine j_V.one xecw_M xecw_165 (by decide) (pcJ := 166) (stJ := [.int ((gA tra1 x2) + 1), .int x2, .ref 310]) rfl ?_
    refine j_V.isA xecw_M xecw_166 (k' := [(307, .inl (2, [.int nss, .ref 308, .ref 309, .ref 310, .ref 311, .int nts, .ref 312, .ref 313, .ref 314, .ref 315, .ref 316, .ref 317, .ref 318, .int cel, .ref 319, .ref 320, .ref 321, .ref 322])), (309, .inr (.inl (0, run1))), (310, .inr (.inl (0, (sA tra1 x2 ((gA tra1 x2) + 1))))), (311, .inr (.inl (0, len3))), (313, .inr (.inl (0, siz1))), (314, .inr (.inl (0, frm1))), (315, .inr (.inl (0, tto1))), (317, .inr (.inl (0, slo1))), (318, .inr (.inl (0, wei1))), (319, .inr (.inl (0, fit))), (320, .inr (.inl (0, way))), (321, .inr (.inl (0, rid))), (322, .inr (.inl (0, lon))), (327, .inl (2, [.int nss, .ref 328, .ref 329, .ref 330, .ref 331, .int nts, .ref 332, .ref 333, .ref 334, .ref 335, .ref 336, .ref 337, .ref 338, .int cels, .ref 339, .ref 340, .ref 341, .ref 342])), (329, .inr (.inl (0, runs))), (330, .inr (.inl (0, tras))), (331, .inr (.inl (0, lens))), (333, .inr (.inl (0, sizs))), (334, .inr (.inl (0, frms))), (335, .inr (.inl (0, ttos))), (337, .inr (.inl (0, slos))), (338, .inr (.inl (0, weis)))]) K rfl rfl (fun h K => ?_)
    obtain ⟨tra3, etra3⟩ : ∃ z, z = (sA tra1 x2 ((gA tra1 x2) + 1)) := ⟨_, rfl⟩
    rw [← etra3] at K
    refine j_V.ldL xecw_M xecw_167 rfl (i := 0) (kd := 2) (v := .ref 307) (pcJ := 168) rfl L rfl rfl rfl ?_
    refine j_V.cl xecw_M xecw_168 rfl (md := 3) (mj := 19) rfl (by decide) xe202_M (As := [.ref 307]) (rest := []) (jk_spl3 (K.at rfl) rfl rfl rfl (Nat.le_of_ble_eq_true rfl) (Nat.le_of_ble_eq_true rfl)) (fun d => xe202_ok (K.fi [307, 309, 310, 311, 313, 314, 315, 317, 319, 320, 321, 322] rfl rfl)) ?_
    rintro r h9 ⟨rfl, K9⟩
    generalize ez2 : (x_settle nss nts run1 tra3 len3 siz1 frm1 tto1 slo1 fit way rid lon cel) = z2 at K9 ⊢
    have K : KN h9 [(307, .inl (2, [.int nss, .ref 308, .ref 309, .ref 310, .ref 311, .int nts, .ref 312, .ref 313, .ref 314, .ref 315, .ref 316, .ref 317, .ref 318, .int (z2.1), .ref 319, .ref 320, .ref 321, .ref 322])), (309, .inr (.inl (0, run1))), (310, .inr (.inl (0, tra3))), (311, .inr (.inl (0, len3))), (313, .inr (.inl (0, siz1))), (314, .inr (.inl (0, frm1))), (315, .inr (.inl (0, tto1))), (317, .inr (.inl (0, slo1))), (318, .inr (.inl (0, wei1))), (319, .inr (.inl (0, (z2.2.1)))), (320, .inr (.inl (0, (z2.2.2.2.2)))), (321, .inr (.inl (0, (z2.2.2.1)))), (322, .inr (.inl (0, (z2.2.2.2.1)))), (327, .inl (2, [.int nss, .ref 328, .ref 329, .ref 330, .ref 331, .int nts, .ref 332, .ref 333, .ref 334, .ref 335, .ref 336, .ref 337, .ref 338, .int cels, .ref 339, .ref 340, .ref 341, .ref 342])), (329, .inr (.inl (0, runs))), (330, .inr (.inl (0, tras))), (331, .inr (.inl (0, lens))), (333, .inr (.inl (0, sizs))), (334, .inr (.inl (0, frms))), (335, .inr (.inl (0, ttos))), (337, .inr (.inl (0, slos))), (338, .inr (.inl (0, weis)))] h0 := K.mg K9 rfl rfl
    clear K9
    show j_V jP _ 25 171 lv [] h9 _
    subst ez2
    subst etra3
    subst elen3
    subst ewei1
    subst eslo1
    subst etto1
    subst efrm1
    subst esiz1
    subst elen1
    subst etra1
    subst erun1
    refine j_V.ret xecw_M xecw_171 rfl rfl ?_
    rw [show (x_copyWithTrack cel run tra len siz frm tto slo wei fit way rid lon nss runs tras lens nts sizs frms ttos slos weis ns nt x2 x3) = _ from ((if_pos c138_0).trans (rfl))]
    exact ⟨rfl, K⟩
set_option maxRecDepth 100000 in
theorem xecx_M : j_meth jP 25 = some (yX2_copyWithTrack, cX2_copyWithTrack, 4, none, 3, false, 2) := rfl
set_option maxRecDepth 100000 in
theorem xecx_0 : j_code jP 25 0 = some (.aload_n 0) := rfl
set_option maxRecDepth 100000 in
theorem xecx_1 : j_code jP 25 1 = some (.aload_n 1) := rfl
set_option maxRecDepth 100000 in
theorem xecx_2 : j_code jP 25 2 = some (.getfield 58) := rfl
set_option maxRecDepth 100000 in
theorem xecx_5 : j_code jP 25 5 = some (.putfield 58) := rfl
set_option maxRecDepth 100000 in
theorem xecx_8 : j_code jP 25 8 = some (.aload_n 1) := rfl
set_option maxRecDepth 100000 in
theorem xecx_9 : j_code jP 25 9 = some (.getfield 15) := rfl
set_option maxRecDepth 100000 in
theorem xecx_12 : j_code jP 25 12 = some (.iconst 0) := rfl
set_option maxRecDepth 100000 in
theorem xecx_13 : j_code jP 25 13 = some (.aload_n 0) := rfl
set_option maxRecDepth 100000 in
theorem xecx_14 : j_code jP 25 14 = some (.getfield 15) := rfl
set_option maxRecDepth 100000 in
theorem xecx_17 : j_code jP 25 17 = some (.iconst 0) := rfl
set_option maxRecDepth 100000 in
theorem xecx_18 : j_code jP 25 18 = some (.bipush 7) := rfl
set_option maxRecDepth 100000 in
theorem xecx_20 : j_code jP 25 20 = some (.invokestatic 91) := rfl
set_option maxRecDepth 100000 in
theorem xecx_23 : j_code jP 25 23 = some (.aload_n 1) := rfl
set_option maxRecDepth 100000 in
theorem xecx_24 : j_code jP 25 24 = some (.getfield 19) := rfl
set_option maxRecDepth 100000 in
theorem xecx_27 : j_code jP 25 27 = some (.iconst 0) := rfl
set_option maxRecDepth 100000 in
theorem xecx_28 : j_code jP 25 28 = some (.aload_n 0) := rfl
set_option maxRecDepth 100000 in
theorem xecx_29 : j_code jP 25 29 = some (.getfield 19) := rfl
set_option maxRecDepth 100000 in
theorem xecx_32 : j_code jP 25 32 = some (.iconst 0) := rfl
set_option maxRecDepth 100000 in
theorem xecx_33 : j_code jP 25 33 = some (.bipush 7) := rfl
set_option maxRecDepth 100000 in
theorem xecx_35 : j_code jP 25 35 = some (.invokestatic 91) := rfl
set_option maxRecDepth 100000 in
theorem xecx_38 : j_code jP 25 38 = some (.aload_n 1) := rfl
set_option maxRecDepth 100000 in
theorem xecx_39 : j_code jP 25 39 = some (.getfield 22) := rfl
set_option maxRecDepth 100000 in
theorem xecx_42 : j_code jP 25 42 = some (.iconst 0) := rfl
set_option maxRecDepth 100000 in
theorem xecx_43 : j_code jP 25 43 = some (.aload_n 0) := rfl
set_option maxRecDepth 100000 in
theorem xecx_44 : j_code jP 25 44 = some (.getfield 22) := rfl
set_option maxRecDepth 100000 in
theorem xecx_47 : j_code jP 25 47 = some (.iconst 0) := rfl
set_option maxRecDepth 100000 in
theorem xecx_48 : j_code jP 25 48 = some (.bipush 21) := rfl
set_option maxRecDepth 100000 in
theorem xecx_50 : j_code jP 25 50 = some (.invokestatic 91) := rfl
set_option maxRecDepth 100000 in
theorem xecx_53 : j_code jP 25 53 = some (.aload_n 0) := rfl
set_option maxRecDepth 100000 in
theorem xecx_54 : j_code jP 25 54 = some (.aload_n 1) := rfl
set_option maxRecDepth 100000 in
theorem xecx_55 : j_code jP 25 55 = some (.getfield 62) := rfl
set_option maxRecDepth 100000 in
theorem xecx_58 : j_code jP 25 58 = some (.putfield 62) := rfl
set_option maxRecDepth 100000 in
theorem xecx_61 : j_code jP 25 61 = some (.aload_n 1) := rfl
set_option maxRecDepth 100000 in
theorem xecx_62 : j_code jP 25 62 = some (.getfield 28) := rfl
set_option maxRecDepth 100000 in
theorem xecx_65 : j_code jP 25 65 = some (.iconst 0) := rfl
set_option maxRecDepth 100000 in
theorem xecx_66 : j_code jP 25 66 = some (.aload_n 0) := rfl
set_option maxRecDepth 100000 in
theorem xecx_67 : j_code jP 25 67 = some (.getfield 28) := rfl
set_option maxRecDepth 100000 in
theorem xecx_70 : j_code jP 25 70 = some (.iconst 0) := rfl
set_option maxRecDepth 100000 in
theorem xecx_71 : j_code jP 25 71 = some (.iconst 5) := rfl
set_option maxRecDepth 100000 in
theorem xecx_72 : j_code jP 25 72 = some (.invokestatic 91) := rfl
set_option maxRecDepth 100000 in
theorem xecx_75 : j_code jP 25 75 = some (.aload_n 1) := rfl
set_option maxRecDepth 100000 in
theorem xecx_76 : j_code jP 25 76 = some (.getfield 31) := rfl
set_option maxRecDepth 100000 in
theorem xecx_79 : j_code jP 25 79 = some (.iconst 0) := rfl
set_option maxRecDepth 100000 in
theorem xecx_80 : j_code jP 25 80 = some (.aload_n 0) := rfl
set_option maxRecDepth 100000 in
theorem xecx_81 : j_code jP 25 81 = some (.getfield 31) := rfl
set_option maxRecDepth 100000 in
theorem xecx_84 : j_code jP 25 84 = some (.iconst 0) := rfl
set_option maxRecDepth 100000 in
theorem xecx_85 : j_code jP 25 85 = some (.iconst 5) := rfl
set_option maxRecDepth 100000 in
theorem xecx_86 : j_code jP 25 86 = some (.invokestatic 91) := rfl
set_option maxRecDepth 100000 in
theorem xecx_89 : j_code jP 25 89 = some (.aload_n 1) := rfl
set_option maxRecDepth 100000 in
theorem xecx_90 : j_code jP 25 90 = some (.getfield 34) := rfl
set_option maxRecDepth 100000 in
theorem xecx_93 : j_code jP 25 93 = some (.iconst 0) := rfl
set_option maxRecDepth 100000 in
theorem xecx_94 : j_code jP 25 94 = some (.aload_n 0) := rfl
set_option maxRecDepth 100000 in
theorem xecx_95 : j_code jP 25 95 = some (.getfield 34) := rfl
set_option maxRecDepth 100000 in
theorem xecx_98 : j_code jP 25 98 = some (.iconst 0) := rfl
set_option maxRecDepth 100000 in
theorem xecx_99 : j_code jP 25 99 = some (.iconst 5) := rfl
set_option maxRecDepth 100000 in
theorem xecx_100 : j_code jP 25 100 = some (.invokestatic 91) := rfl
set_option maxRecDepth 100000 in
theorem xecx_103 : j_code jP 25 103 = some (.aload_n 1) := rfl
set_option maxRecDepth 100000 in
theorem xecx_104 : j_code jP 25 104 = some (.getfield 40) := rfl
set_option maxRecDepth 100000 in
theorem xecx_107 : j_code jP 25 107 = some (.iconst 0) := rfl
set_option maxRecDepth 100000 in
theorem xecx_108 : j_code jP 25 108 = some (.aload_n 0) := rfl
set_option maxRecDepth 100000 in
theorem xecx_109 : j_code jP 25 109 = some (.getfield 40) := rfl
set_option maxRecDepth 100000 in
theorem xecx_112 : j_code jP 25 112 = some (.iconst 0) := rfl
set_option maxRecDepth 100000 in
theorem xecx_113 : j_code jP 25 113 = some (.iconst 5) := rfl
set_option maxRecDepth 100000 in
theorem xecx_114 : j_code jP 25 114 = some (.invokestatic 91) := rfl
set_option maxRecDepth 100000 in
theorem xecx_117 : j_code jP 25 117 = some (.aload_n 1) := rfl
set_option maxRecDepth 100000 in
theorem xecx_118 : j_code jP 25 118 = some (.getfield 43) := rfl
set_option maxRecDepth 100000 in
theorem xecx_121 : j_code jP 25 121 = some (.iconst 0) := rfl
set_option maxRecDepth 100000 in
theorem xecx_122 : j_code jP 25 122 = some (.aload_n 0) := rfl
set_option maxRecDepth 100000 in
theorem xecx_123 : j_code jP 25 123 = some (.getfield 43) := rfl
set_option maxRecDepth 100000 in
theorem xecx_126 : j_code jP 25 126 = some (.iconst 0) := rfl
set_option maxRecDepth 100000 in
theorem xecx_127 : j_code jP 25 127 = some (.iconst 5) := rfl
set_option maxRecDepth 100000 in
theorem xecx_128 : j_code jP 25 128 = some (.invokestatic 91) := rfl
set_option maxRecDepth 100000 in
theorem xecx_131 : j_code jP 25 131 = some (.aload_n 0) := rfl
set_option maxRecDepth 100000 in
theorem xecx_132 : j_code jP 25 132 = some (.getfield 19) := rfl
set_option maxRecDepth 100000 in
theorem xecx_135 : j_code jP 25 135 = some (.iload_n 2) := rfl
set_option maxRecDepth 100000 in
theorem xecx_136 : j_code jP 25 136 = some (.iaload) := rfl
set_option maxRecDepth 100000 in
theorem xecx_137 : j_code jP 25 137 = some (.iconst 3) := rfl
set_option maxRecDepth 100000 in
theorem xecx_138 : j_code jP 25 138 = some (.if_icmp .ge 29) := rfl
set_option maxRecDepth 100000 in
theorem xecx_141 : j_code jP 25 141 = some (.aload_n 0) := rfl
set_option maxRecDepth 100000 in
theorem xecx_142 : j_code jP 25 142 = some (.getfield 22) := rfl
set_option maxRecDepth 100000 in
theorem xecx_145 : j_code jP 25 145 = some (.iload_n 2) := rfl
set_option maxRecDepth 100000 in
theorem xecx_146 : j_code jP 25 146 = some (.iconst 3) := rfl
set_option maxRecDepth 100000 in
theorem xecx_147 : j_code jP 25 147 = some (.imul) := rfl
set_option maxRecDepth 100000 in
theorem xecx_148 : j_code jP 25 148 = some (.aload_n 0) := rfl
set_option maxRecDepth 100000 in
theorem xecx_149 : j_code jP 25 149 = some (.getfield 19) := rfl
set_option maxRecDepth 100000 in
theorem xecx_152 : j_code jP 25 152 = some (.iload_n 2) := rfl
set_option maxRecDepth 100000 in
theorem xecx_153 : j_code jP 25 153 = some (.iaload) := rfl
set_option maxRecDepth 100000 in
theorem xecx_154 : j_code jP 25 154 = some (.iadd) := rfl
set_option maxRecDepth 100000 in
theorem xecx_155 : j_code jP 25 155 = some (.iload_n 3) := rfl
set_option maxRecDepth 100000 in
theorem xecx_156 : j_code jP 25 156 = some (.iastore) := rfl
set_option maxRecDepth 100000 in
theorem xecx_157 : j_code jP 25 157 = some (.aload_n 0) := rfl
set_option maxRecDepth 100000 in
theorem xecx_158 : j_code jP 25 158 = some (.getfield 19) := rfl
set_option maxRecDepth 100000 in
theorem xecx_161 : j_code jP 25 161 = some (.iload_n 2) := rfl
set_option maxRecDepth 100000 in
theorem xecx_162 : j_code jP 25 162 = some (.dup2) := rfl
set_option maxRecDepth 100000 in
theorem xecx_163 : j_code jP 25 163 = some (.iaload) := rfl
set_option maxRecDepth 100000 in
theorem xecx_164 : j_code jP 25 164 = some (.iconst 1) := rfl
set_option maxRecDepth 100000 in
theorem xecx_165 : j_code jP 25 165 = some (.iadd) := rfl
set_option maxRecDepth 100000 in
theorem xecx_166 : j_code jP 25 166 = some (.iastore) := rfl
set_option maxRecDepth 100000 in
theorem xecx_167 : j_code jP 25 167 = some (.aload_n 0) := rfl
set_option maxRecDepth 100000 in
theorem xecx_168 : j_code jP 25 168 = some (.invokevirtual 97) := rfl
set_option maxRecDepth 100000 in
theorem xecx_171 : j_code jP 25 171 = some (.return_) := rfl
set_option maxRecDepth 1000000 in
theorem xecx_ok {ns : Int32} {nt : Int32} {cel : Int32} {run : List Int32} {tra : List Int32} {len : List Int32} {siz : List Int32} {frm : List Int32} {tto : List Int32} {slo : List Int32} {wei : List Int32} {fit : List Int32} {way : List Int32} {rid : List Int32} {lon : List Int32} {nss : Int32} {runs : List Int32} {tras : List Int32} {lens : List Int32} {nts : Int32} {sizs : List Int32} {frms : List Int32} {ttos : List Int32} {slos : List Int32} {weis : List Int32} {cels : Int32} {x2 x3 : Int32} {d : Nat} {h h0 : J_H} (K : KN h [(307, .inl (2, [.int ns, .ref 308, .ref 309, .ref 310, .ref 311, .int nt, .ref 312, .ref 313, .ref 314, .ref 315, .ref 316, .ref 317, .ref 318, .int cel, .ref 319, .ref 320, .ref 321, .ref 322])), (309, .inr (.inl (0, run))), (310, .inr (.inl (0, tra))), (311, .inr (.inl (0, len))), (313, .inr (.inl (0, siz))), (314, .inr (.inl (0, frm))), (315, .inr (.inl (0, tto))), (317, .inr (.inl (0, slo))), (318, .inr (.inl (0, wei))), (319, .inr (.inl (0, fit))), (320, .inr (.inl (0, way))), (321, .inr (.inl (0, rid))), (322, .inr (.inl (0, lon))), (343, .inl (2, [.int nss, .ref 344, .ref 345, .ref 346, .ref 347, .int nts, .ref 348, .ref 349, .ref 350, .ref 351, .ref 352, .ref 353, .ref 354, .int cels, .ref 355, .ref 356, .ref 357, .ref 358])), (345, .inr (.inl (0, runs))), (346, .inr (.inl (0, tras))), (347, .inr (.inl (0, lens))), (349, .inr (.inl (0, sizs))), (350, .inr (.inl (0, frms))), (351, .inr (.inl (0, ttos))), (353, .inr (.inl (0, slos))), (354, .inr (.inl (0, weis)))] h0) : j_V jP d 25 0 (lv_args 0 [.ref 307, .ref 343, .int x2, .int x3]) [] h (fun rv h' => rv = none ∧ KN h' [(307, .inl (2, [.int (x_copyWithTrack cel run tra len siz frm tto slo wei fit way rid lon nss runs tras lens nts sizs frms ttos slos weis ns nt x2 x3).1, .ref 308, .ref 309, .ref 310, .ref 311, .int (x_copyWithTrack cel run tra len siz frm tto slo wei fit way rid lon nss runs tras lens nts sizs frms ttos slos weis ns nt x2 x3).2.1, .ref 312, .ref 313, .ref 314, .ref 315, .ref 316, .ref 317, .ref 318, .int (x_copyWithTrack cel run tra len siz frm tto slo wei fit way rid lon nss runs tras lens nts sizs frms ttos slos weis ns nt x2 x3).2.2.2.2.2.2.2.2.2.2.1, .ref 319, .ref 320, .ref 321, .ref 322])), (309, .inr (.inl (0, (x_copyWithTrack cel run tra len siz frm tto slo wei fit way rid lon nss runs tras lens nts sizs frms ttos slos weis ns nt x2 x3).2.2.1))), (310, .inr (.inl (0, (x_copyWithTrack cel run tra len siz frm tto slo wei fit way rid lon nss runs tras lens nts sizs frms ttos slos weis ns nt x2 x3).2.2.2.1))), (311, .inr (.inl (0, (x_copyWithTrack cel run tra len siz frm tto slo wei fit way rid lon nss runs tras lens nts sizs frms ttos slos weis ns nt x2 x3).2.2.2.2.1))), (313, .inr (.inl (0, (x_copyWithTrack cel run tra len siz frm tto slo wei fit way rid lon nss runs tras lens nts sizs frms ttos slos weis ns nt x2 x3).2.2.2.2.2.1))), (314, .inr (.inl (0, (x_copyWithTrack cel run tra len siz frm tto slo wei fit way rid lon nss runs tras lens nts sizs frms ttos slos weis ns nt x2 x3).2.2.2.2.2.2.1))), (315, .inr (.inl (0, (x_copyWithTrack cel run tra len siz frm tto slo wei fit way rid lon nss runs tras lens nts sizs frms ttos slos weis ns nt x2 x3).2.2.2.2.2.2.2.1))), (317, .inr (.inl (0, (x_copyWithTrack cel run tra len siz frm tto slo wei fit way rid lon nss runs tras lens nts sizs frms ttos slos weis ns nt x2 x3).2.2.2.2.2.2.2.2.1))), (318, .inr (.inl (0, (x_copyWithTrack cel run tra len siz frm tto slo wei fit way rid lon nss runs tras lens nts sizs frms ttos slos weis ns nt x2 x3).2.2.2.2.2.2.2.2.2.1))), (319, .inr (.inl (0, (x_copyWithTrack cel run tra len siz frm tto slo wei fit way rid lon nss runs tras lens nts sizs frms ttos slos weis ns nt x2 x3).2.2.2.2.2.2.2.2.2.2.2.1))), (320, .inr (.inl (0, (x_copyWithTrack cel run tra len siz frm tto slo wei fit way rid lon nss runs tras lens nts sizs frms ttos slos weis ns nt x2 x3).2.2.2.2.2.2.2.2.2.2.2.2.2.2))), (321, .inr (.inl (0, (x_copyWithTrack cel run tra len siz frm tto slo wei fit way rid lon nss runs tras lens nts sizs frms ttos slos weis ns nt x2 x3).2.2.2.2.2.2.2.2.2.2.2.2.1))), (322, .inr (.inl (0, (x_copyWithTrack cel run tra len siz frm tto slo wei fit way rid lon nss runs tras lens nts sizs frms ttos slos weis ns nt x2 x3).2.2.2.2.2.2.2.2.2.2.2.2.2.1))), (343, .inl (2, [.int nss, .ref 344, .ref 345, .ref 346, .ref 347, .int nts, .ref 348, .ref 349, .ref 350, .ref 351, .ref 352, .ref 353, .ref 354, .int cels, .ref 355, .ref 356, .ref 357, .ref 358])), (345, .inr (.inl (0, runs))), (346, .inr (.inl (0, tras))), (347, .inr (.inl (0, lens))), (349, .inr (.inl (0, sizs))), (350, .inr (.inl (0, frms))), (351, .inr (.inl (0, ttos))), (353, .inr (.inl (0, slos))), (354, .inr (.inl (0, weis)))] h0) := by
  show j_V jP d 25 0 [(0, .ref 307), (1, .ref 343), (2, .int x2), (3, .int x3)] [] h _
  obtain ⟨lv, elv, L⟩ : ∃ lv, lv = [(0, .ref 307), (1, .ref 343), (2, .int x2), (3, .int x3)] ∧ LK lv [(0, .ref 307), (1, .ref 343), (2, .int x2), (3, .int x3)] := ⟨_, rfl, LK.rf⟩
  rw [← elv]
  clear elv
  refine j_V.ldL xecx_M xecx_0 rfl (i := 0) (kd := 2) (v := .ref 307) (pcJ := 1) rfl L rfl rfl rfl ?_
  refine j_V.ldL xecx_M xecx_1 rfl (i := 1) (kd := 2) (v := .ref 343) (pcJ := 2) rfl L rfl rfl rfl ?_
  refine j_V.getK xecx_M xecx_2 (ci := 2) (j := 0) rfl K rfl rfl ?_
  refine j_V.putK xecx_M xecx_5 (ci := 2) (j := 0) (k' := [(307, .inl (2, [.int nss, .ref 308, .ref 309, .ref 310, .ref 311, .int nt, .ref 312, .ref 313, .ref 314, .ref 315, .ref 316, .ref 317, .ref 318, .int cel, .ref 319, .ref 320, .ref 321, .ref 322])), (309, .inr (.inl (0, run))), (310, .inr (.inl (0, tra))), (311, .inr (.inl (0, len))), (313, .inr (.inl (0, siz))), (314, .inr (.inl (0, frm))), (315, .inr (.inl (0, tto))), (317, .inr (.inl (0, slo))), (318, .inr (.inl (0, wei))), (319, .inr (.inl (0, fit))), (320, .inr (.inl (0, way))), (321, .inr (.inl (0, rid))), (322, .inr (.inl (0, lon))), (343, .inl (2, [.int nss, .ref 344, .ref 345, .ref 346, .ref 347, .int nts, .ref 348, .ref 349, .ref 350, .ref 351, .ref 352, .ref 353, .ref 354, .int cels, .ref 355, .ref 356, .ref 357, .ref 358])), (345, .inr (.inl (0, runs))), (346, .inr (.inl (0, tras))), (347, .inr (.inl (0, lens))), (349, .inr (.inl (0, sizs))), (350, .inr (.inl (0, frms))), (351, .inr (.inl (0, ttos))), (353, .inr (.inl (0, slos))), (354, .inr (.inl (0, weis)))]) rfl K rfl (Nat.le_of_ble_eq_true rfl) rfl (Or.inl rfl) rfl rfl (fun h K => ?_)
  refine j_V.ldL xecx_M xecx_8 rfl (i := 1) (kd := 2) (v := .ref 343) (pcJ := 9) rfl L rfl rfl rfl ?_
  refine j_V.getK xecx_M xecx_9 (ci := 2) (j := 2) rfl K rfl rfl ?_
  refine j_V.one xecx_M xecx_12 (by decide) (pcJ := 13) (stJ := [.int 0, .ref 345]) rfl ?_
  refine j_V.ldL xecx_M xecx_13 rfl (i := 0) (kd := 2) (v := .ref 307) (pcJ := 14) rfl L rfl rfl rfl ?_
  refine j_V.getK xecx_M xecx_14 (ci := 2) (j := 2) rfl K rfl rfl ?_
  refine j_V.one xecx_M xecx_17 (by decide) (pcJ := 18) (stJ := [.int 0, .ref 309, .int 0, .ref 345]) rfl ?_
  refine j_V.one xecx_M xecx_18 (by decide) (pcJ := 20) (stJ := [.int 7, .int 0, .ref 309, .int 0, .ref 345]) rfl ?_
  refine j_V.acp xecx_M xecx_20 rfl rfl K rfl rfl rfl (fun h K => ?_)
  obtain ⟨run1, erun1⟩ : ∃ z, z = (aC 7 runs run) := ⟨_, rfl⟩
  rw [← erun1] at K
  refine j_V.ldL xecx_M xecx_23 rfl (i := 1) (kd := 2) (v := .ref 343) (pcJ := 24) rfl L rfl rfl rfl ?_
  refine j_V.getK xecx_M xecx_24 (ci := 2) (j := 3) rfl K rfl rfl ?_
  refine j_V.one xecx_M xecx_27 (by decide) (pcJ := 28) (stJ := [.int 0, .ref 346]) rfl ?_
  refine j_V.ldL xecx_M xecx_28 rfl (i := 0) (kd := 2) (v := .ref 307) (pcJ := 29) rfl L rfl rfl rfl ?_
  refine j_V.getK xecx_M xecx_29 (ci := 2) (j := 3) rfl K rfl rfl ?_
  refine j_V.one xecx_M xecx_32 (by decide) (pcJ := 33) (stJ := [.int 0, .ref 310, .int 0, .ref 346]) rfl ?_
  refine j_V.one xecx_M xecx_33 (by decide) (pcJ := 35) (stJ := [.int 7, .int 0, .ref 310, .int 0, .ref 346]) rfl ?_
  refine j_V.acp xecx_M xecx_35 rfl rfl K rfl rfl rfl (fun h K => ?_)
  obtain ⟨tra1, etra1⟩ : ∃ z, z = (aC 7 tras tra) := ⟨_, rfl⟩
  rw [← etra1] at K
  refine j_V.ldL xecx_M xecx_38 rfl (i := 1) (kd := 2) (v := .ref 343) (pcJ := 39) rfl L rfl rfl rfl ?_
  refine j_V.getK xecx_M xecx_39 (ci := 2) (j := 4) rfl K rfl rfl ?_
  refine j_V.one xecx_M xecx_42 (by decide) (pcJ := 43) (stJ := [.int 0, .ref 347]) rfl ?_
  refine j_V.ldL xecx_M xecx_43 rfl (i := 0) (kd := 2) (v := .ref 307) (pcJ := 44) rfl L rfl rfl rfl ?_
  refine j_V.getK xecx_M xecx_44 (ci := 2) (j := 4) rfl K rfl rfl ?_
  refine j_V.one xecx_M xecx_47 (by decide) (pcJ := 48) (stJ := [.int 0, .ref 311, .int 0, .ref 347]) rfl ?_
  refine j_V.one xecx_M xecx_48 (by decide) (pcJ := 50) (stJ := [.int 21, .int 0, .ref 311, .int 0, .ref 347]) rfl ?_
  refine j_V.acp xecx_M xecx_50 rfl rfl K rfl rfl rfl (fun h K => ?_)
  obtain ⟨len1, elen1⟩ : ∃ z, z = (aC 21 lens len) := ⟨_, rfl⟩
  rw [← elen1] at K
  refine j_V.ldL xecx_M xecx_53 rfl (i := 0) (kd := 2) (v := .ref 307) (pcJ := 54) rfl L rfl rfl rfl ?_
  refine j_V.ldL xecx_M xecx_54 rfl (i := 1) (kd := 2) (v := .ref 343) (pcJ := 55) rfl L rfl rfl rfl ?_
  refine j_V.getK xecx_M xecx_55 (ci := 2) (j := 5) rfl K rfl rfl ?_
  refine j_V.putK xecx_M xecx_58 (ci := 2) (j := 5) (k' := [(307, .inl (2, [.int nss, .ref 308, .ref 309, .ref 310, .ref 311, .int nts, .ref 312, .ref 313, .ref 314, .ref 315, .ref 316, .ref 317, .ref 318, .int cel, .ref 319, .ref 320, .ref 321, .ref 322])), (309, .inr (.inl (0, run1))), (310, .inr (.inl (0, tra1))), (311, .inr (.inl (0, len1))), (313, .inr (.inl (0, siz))), (314, .inr (.inl (0, frm))), (315, .inr (.inl (0, tto))), (317, .inr (.inl (0, slo))), (318, .inr (.inl (0, wei))), (319, .inr (.inl (0, fit))), (320, .inr (.inl (0, way))), (321, .inr (.inl (0, rid))), (322, .inr (.inl (0, lon))), (343, .inl (2, [.int nss, .ref 344, .ref 345, .ref 346, .ref 347, .int nts, .ref 348, .ref 349, .ref 350, .ref 351, .ref 352, .ref 353, .ref 354, .int cels, .ref 355, .ref 356, .ref 357, .ref 358])), (345, .inr (.inl (0, runs))), (346, .inr (.inl (0, tras))), (347, .inr (.inl (0, lens))), (349, .inr (.inl (0, sizs))), (350, .inr (.inl (0, frms))), (351, .inr (.inl (0, ttos))), (353, .inr (.inl (0, slos))), (354, .inr (.inl (0, weis)))]) rfl K rfl (Nat.le_of_ble_eq_true rfl) rfl (Or.inl rfl) rfl rfl (fun h K => ?_)
  refine j_V.ldL xecx_M xecx_61 rfl (i := 1) (kd := 2) (v := .ref 343) (pcJ := 62) rfl L rfl rfl rfl ?_
  refine j_V.getK xecx_M xecx_62 (ci := 2) (j := 7) rfl K rfl rfl ?_
  refine j_V.one xecx_M xecx_65 (by decide) (pcJ := 66) (stJ := [.int 0, .ref 349]) rfl ?_
  refine j_V.ldL xecx_M xecx_66 rfl (i := 0) (kd := 2) (v := .ref 307) (pcJ := 67) rfl L rfl rfl rfl ?_
  refine j_V.getK xecx_M xecx_67 (ci := 2) (j := 7) rfl K rfl rfl ?_
  refine j_V.one xecx_M xecx_70 (by decide) (pcJ := 71) (stJ := [.int 0, .ref 313, .int 0, .ref 349]) rfl ?_
  refine j_V.one xecx_M xecx_71 (by decide) (pcJ := 72) (stJ := [.int 5, .int 0, .ref 313, .int 0, .ref 349]) rfl ?_
  refine j_V.acp xecx_M xecx_72 rfl rfl K rfl rfl rfl (fun h K => ?_)
  obtain ⟨siz1, esiz1⟩ : ∃ z, z = (aC 5 sizs siz) := ⟨_, rfl⟩
  rw [← esiz1] at K
  refine j_V.ldL xecx_M xecx_75 rfl (i := 1) (kd := 2) (v := .ref 343) (pcJ := 76) rfl L rfl rfl rfl ?_
  refine j_V.getK xecx_M xecx_76 (ci := 2) (j := 8) rfl K rfl rfl ?_
  refine j_V.one xecx_M xecx_79 (by decide) (pcJ := 80) (stJ := [.int 0, .ref 350]) rfl ?_
  refine j_V.ldL xecx_M xecx_80 rfl (i := 0) (kd := 2) (v := .ref 307) (pcJ := 81) rfl L rfl rfl rfl ?_
  refine j_V.getK xecx_M xecx_81 (ci := 2) (j := 8) rfl K rfl rfl ?_
  refine j_V.one xecx_M xecx_84 (by decide) (pcJ := 85) (stJ := [.int 0, .ref 314, .int 0, .ref 350]) rfl ?_
  refine j_V.one xecx_M xecx_85 (by decide) (pcJ := 86) (stJ := [.int 5, .int 0, .ref 314, .int 0, .ref 350]) rfl ?_
  refine j_V.acp xecx_M xecx_86 rfl rfl K rfl rfl rfl (fun h K => ?_)
  obtain ⟨frm1, efrm1⟩ : ∃ z, z = (aC 5 frms frm) := ⟨_, rfl⟩
  rw [← efrm1] at K
  refine j_V.ldL xecx_M xecx_89 rfl (i := 1) (kd := 2) (v := .ref 343) (pcJ := 90) rfl L rfl rfl rfl ?_
  refine j_V.getK xecx_M xecx_90 (ci := 2) (j := 9) rfl K rfl rfl ?_
  refine j_V.one xecx_M xecx_93 (by decide) (pcJ := 94) (stJ := [.int 0, .ref 351]) rfl ?_
  refine j_V.ldL xecx_M xecx_94 rfl (i := 0) (kd := 2) (v := .ref 307) (pcJ := 95) rfl L rfl rfl rfl ?_
  refine j_V.getK xecx_M xecx_95 (ci := 2) (j := 9) rfl K rfl rfl ?_
  refine j_V.one xecx_M xecx_98 (by decide) (pcJ := 99) (stJ := [.int 0, .ref 315, .int 0, .ref 351]) rfl ?_
  refine j_V.one xecx_M xecx_99 (by decide) (pcJ := 100) (stJ := [.int 5, .int 0, .ref 315, .int 0, .ref 351]) rfl ?_
  refine j_V.acp xecx_M xecx_100 rfl rfl K rfl rfl rfl (fun h K => ?_)
  obtain ⟨tto1, etto1⟩ : ∃ z, z = (aC 5 ttos tto) := ⟨_, rfl⟩
  rw [← etto1] at K
  refine j_V.ldL xecx_M xecx_103 rfl (i := 1) (kd := 2) (v := .ref 343) (pcJ := 104) rfl L rfl rfl rfl ?_
  refine j_V.getK xecx_M xecx_104 (ci := 2) (j := 11) rfl K rfl rfl ?_
  refine j_V.one xecx_M xecx_107 (by decide) (pcJ := 108) (stJ := [.int 0, .ref 353]) rfl ?_
  refine j_V.ldL xecx_M xecx_108 rfl (i := 0) (kd := 2) (v := .ref 307) (pcJ := 109) rfl L rfl rfl rfl ?_
  refine j_V.getK xecx_M xecx_109 (ci := 2) (j := 11) rfl K rfl rfl ?_
  refine j_V.one xecx_M xecx_112 (by decide) (pcJ := 113) (stJ := [.int 0, .ref 317, .int 0, .ref 353]) rfl ?_
  refine j_V.one xecx_M xecx_113 (by decide) (pcJ := 114) (stJ := [.int 5, .int 0, .ref 317, .int 0, .ref 353]) rfl ?_
  refine j_V.acp xecx_M xecx_114 rfl rfl K rfl rfl rfl (fun h K => ?_)
  obtain ⟨slo1, eslo1⟩ : ∃ z, z = (aC 5 slos slo) := ⟨_, rfl⟩
  rw [← eslo1] at K
  refine j_V.ldL xecx_M xecx_117 rfl (i := 1) (kd := 2) (v := .ref 343) (pcJ := 118) rfl L rfl rfl rfl ?_
  refine j_V.getK xecx_M xecx_118 (ci := 2) (j := 12) rfl K rfl rfl ?_
  refine j_V.one xecx_M xecx_121 (by decide) (pcJ := 122) (stJ := [.int 0, .ref 354]) rfl ?_
  refine j_V.ldL xecx_M xecx_122 rfl (i := 0) (kd := 2) (v := .ref 307) (pcJ := 123) rfl L rfl rfl rfl ?_
  refine j_V.getK xecx_M xecx_123 (ci := 2) (j := 12) rfl K rfl rfl ?_
  refine j_V.one xecx_M xecx_126 (by decide) (pcJ := 127) (stJ := [.int 0, .ref 318, .int 0, .ref 354]) rfl ?_
  refine j_V.one xecx_M xecx_127 (by decide) (pcJ := 128) (stJ := [.int 5, .int 0, .ref 318, .int 0, .ref 354]) rfl ?_
  refine j_V.acp xecx_M xecx_128 rfl rfl K rfl rfl rfl (fun h K => ?_)
  obtain ⟨wei1, ewei1⟩ : ∃ z, z = (aC 5 weis wei) := ⟨_, rfl⟩
  rw [← ewei1] at K
  refine j_V.ldL xecx_M xecx_131 rfl (i := 0) (kd := 2) (v := .ref 307) (pcJ := 132) rfl L rfl rfl rfl ?_
  refine j_V.getK xecx_M xecx_132 (ci := 2) (j := 3) rfl K rfl rfl ?_
  refine j_V.ldL xecx_M xecx_135 rfl (i := 2) (kd := 0) (v := .int x2) (pcJ := 136) rfl L rfl rfl rfl ?_
  refine j_V.iaA xecx_M xecx_136 K rfl ?_
  refine j_V.one xecx_M xecx_137 (by decide) (pcJ := 138) (stJ := [.int 3, .int (gA tra1 x2)]) rfl ?_
  refine j_V.icmp xecx_M xecx_138 (t := 167) rfl (fun c138_0 => ?_) (fun c138_0 => ?_)
  · replace c138_0 : ¬ ((gA tra1 x2) < 3) := jd_ge c138_0
    refine j_V.ldL xecx_M xecx_167 rfl (i := 0) (kd := 2) (v := .ref 307) (pcJ := 168) rfl L rfl rfl rfl ?_
    refine j_V.cl xecx_M xecx_168 rfl (md := 3) (mj := 19) rfl (by decide) xe202_M (As := [.ref 307]) (rest := []) (jk_spl3 (K.at rfl) rfl rfl rfl (Nat.le_of_ble_eq_true rfl) (Nat.le_of_ble_eq_true rfl)) (fun d => xe202_ok (K.fi [307, 309, 310, 311, 313, 314, 315, 317, 319, 320, 321, 322] rfl rfl)) ?_
    rintro r h9 ⟨rfl, K9⟩
    generalize ez1 : (x_settle nss nts run1 tra1 len1 siz1 frm1 tto1 slo1 fit way rid lon cel) = z1 at K9 ⊢
    have K : KN h9 [(307, .inl (2, [.int nss, .ref 308, .ref 309, .ref 310, .ref 311, .int nts, .ref 312, .ref 313, .ref 314, .ref 315, .ref 316, .ref 317, .ref 318, .int (z1.1), .ref 319, .ref 320, .ref 321, .ref 322])), (309, .inr (.inl (0, run1))), (310, .inr (.inl (0, tra1))), (311, .inr (.inl (0, len1))), (313, .inr (.inl (0, siz1))), (314, .inr (.inl (0, frm1))), (315, .inr (.inl (0, tto1))), (317, .inr (.inl (0, slo1))), (318, .inr (.inl (0, wei1))), (319, .inr (.inl (0, (z1.2.1)))), (320, .inr (.inl (0, (z1.2.2.2.2)))), (321, .inr (.inl (0, (z1.2.2.1)))), (322, .inr (.inl (0, (z1.2.2.2.1)))), (343, .inl (2, [.int nss, .ref 344, .ref 345, .ref 346, .ref 347, .int nts, .ref 348, .ref 349, .ref 350, .ref 351, .ref 352, .ref 353, .ref 354, .int cels, .ref 355, .ref 356, .ref 357, .ref 358])), (345, .inr (.inl (0, runs))), (346, .inr (.inl (0, tras))), (347, .inr (.inl (0, lens))), (349, .inr (.inl (0, sizs))), (350, .inr (.inl (0, frms))), (351, .inr (.inl (0, ttos))), (353, .inr (.inl (0, slos))), (354, .inr (.inl (0, weis)))] h0 := K.mg K9 rfl rfl
    clear K9
    show j_V jP _ 25 171 lv [] h9 _
    subst ez1
    subst ewei1
    subst eslo1
    subst etto1
    subst efrm1
    subst esiz1
    subst elen1
    subst etra1
    subst erun1
    refine j_V.ret xecx_M xecx_171 rfl rfl ?_
    rw [show (x_copyWithTrack cel run tra len siz frm tto slo wei fit way rid lon nss runs tras lens nts sizs frms ttos slos weis ns nt x2 x3) = _ from ((if_neg c138_0).trans (rfl))]
    exact ⟨rfl, K⟩
  · replace c138_0 : (gA tra1 x2) < 3 := jd_gen c138_0
    refine j_V.ldL xecx_M xecx_141 rfl (i := 0) (kd := 2) (v := .ref 307) (pcJ := 142) rfl L rfl rfl rfl ?_
    refine j_V.getK xecx_M xecx_142 (ci := 2) (j := 4) rfl K rfl rfl ?_
    refine j_V.ldL xecx_M xecx_145 rfl (i := 2) (kd := 0) (v := .int x2) (pcJ := 146) rfl L rfl rfl rfl ?_
    refine j_V.one xecx_M xecx_146 (by decide) (pcJ := 147) (stJ := [.int 3, .int x2, .ref 311]) rfl ?_
    refine j_V.one xecx_M xecx_147 (by decide) (pcJ := 148) (stJ := [.int (x2 * 3), .ref 311]) rfl ?_
    refine j_V.ldL xecx_M xecx_148 rfl (i := 0) (kd := 2) (v := .ref 307) (pcJ := 149) rfl L rfl rfl rfl ?_
    refine j_V.getK xecx_M xecx_149 (ci := 2) (j := 3) rfl K rfl rfl ?_
    refine j_V.ldL xecx_M xecx_152 rfl (i := 2) (kd := 0) (v := .int x2) (pcJ := 153) rfl L rfl rfl rfl ?_
    refine j_V.iaA xecx_M xecx_153 K rfl ?_
    refine j_V.one xecx_M xecx_154 (by decide) (pcJ := 155) (stJ := [.int ((x2 * 3) + (gA tra1 x2)), .ref 311]) rfl ?_
    refine j_V.ldL xecx_M xecx_155 rfl (i := 3) (kd := 0) (v := .int x3) (pcJ := 156) rfl L rfl rfl rfl ?_
    refine j_V.isA xecx_M xecx_156 (k' := [(307, .inl (2, [.int nss, .ref 308, .ref 309, .ref 310, .ref 311, .int nts, .ref 312, .ref 313, .ref 314, .ref 315, .ref 316, .ref 317, .ref 318, .int cel, .ref 319, .ref 320, .ref 321, .ref 322])), (309, .inr (.inl (0, run1))), (310, .inr (.inl (0, tra1))), (311, .inr (.inl (0, (sA len1 ((x2 * 3) + (gA tra1 x2)) x3)))), (313, .inr (.inl (0, siz1))), (314, .inr (.inl (0, frm1))), (315, .inr (.inl (0, tto1))), (317, .inr (.inl (0, slo1))), (318, .inr (.inl (0, wei1))), (319, .inr (.inl (0, fit))), (320, .inr (.inl (0, way))), (321, .inr (.inl (0, rid))), (322, .inr (.inl (0, lon))), (343, .inl (2, [.int nss, .ref 344, .ref 345, .ref 346, .ref 347, .int nts, .ref 348, .ref 349, .ref 350, .ref 351, .ref 352, .ref 353, .ref 354, .int cels, .ref 355, .ref 356, .ref 357, .ref 358])), (345, .inr (.inl (0, runs))), (346, .inr (.inl (0, tras))), (347, .inr (.inl (0, lens))), (349, .inr (.inl (0, sizs))), (350, .inr (.inl (0, frms))), (351, .inr (.inl (0, ttos))), (353, .inr (.inl (0, slos))), (354, .inr (.inl (0, weis)))]) K rfl rfl (fun h K => ?_)
    obtain ⟨len3, elen3⟩ : ∃ z, z = (sA len1 ((x2 * 3) + (gA tra1 x2)) x3) := ⟨_, rfl⟩
    rw [← elen3] at K
    refine j_V.ldL xecx_M xecx_157 rfl (i := 0) (kd := 2) (v := .ref 307) (pcJ := 158) rfl L rfl rfl rfl ?_
    refine j_V.getK xecx_M xecx_158 (ci := 2) (j := 3) rfl K rfl rfl ?_
    refine j_V.ldL xecx_M xecx_161 rfl (i := 2) (kd := 0) (v := .int x2) (pcJ := 162) rfl L rfl rfl rfl ?_
    refine j_V.one xecx_M xecx_162 (by decide) (pcJ := 163) (stJ := [.int x2, .ref 310, .int x2, .ref 310]) rfl ?_
    refine j_V.iaA xecx_M xecx_163 K rfl ?_
    refine j_V.one xecx_M xecx_164 (by decide) (pcJ := 165) (stJ := [.int 1, .int (gA tra1 x2), .int x2, .ref 310]) rfl ?_
    refine j_V.one xecx_M xecx_165 (by decide) (pcJ := 166) (stJ := [.int ((gA tra1 x2) + 1), .int x2, .ref 310]) rfl ?_
    refine j_V.isA xecx_M xecx_166 (k' := [(307, .inl (2, [.int nss, .ref 308, .ref 309, .ref 310, .ref 311, .int nts, .ref 312, .ref 313, .ref 314, .ref 315, .ref 316, .ref 317, .ref 318, .int cel, .ref 319, .ref 320, .ref 321, .ref 322])), (309, .inr (.inl (0, run1))), (310, .inr (.inl (0, (sA tra1 x2 ((gA tra1 x2) + 1))))), (311, .inr (.inl (0, len3))), (313, .inr (.inl (0, siz1))), (314, .inr (.inl (0, frm1))), (315, .inr (.inl (0, tto1))), (317, .inr (.inl (0, slo1))), (318, .inr (.inl (0, wei1))), (319, .inr (.inl (0, fit))), (320, .inr (.inl (0, way))), (321, .inr (.inl (0, rid))), (322, .inr (.inl (0, lon))), (343, .inl (2, [.int nss, .ref 344, .ref 345, .ref 346, .ref 347, .int nts, .ref 348, .ref 349, .ref 350, .ref 351, .ref 352, .ref 353, .ref 354, .int cels, .ref 355, .ref 356, .ref 357, .ref 358])), (345, .inr (.inl (0, runs))), (346, .inr (.inl (0, tras))), (347, .inr (.inl (0, lens))), (349, .inr (.inl (0, sizs))), (350, .inr (.inl (0, frms))), (351, .inr (.inl (0, ttos))), (353, .inr (.inl (0, slos))), (354, .inr (.inl (0, weis)))]) K rfl rfl (fun h K => ?_)
    obtain ⟨tra3, etra3⟩ : ∃ z, z = (sA tra1 x2 ((gA tra1 x2) + 1)) := ⟨_, rfl⟩
    rw [← etra3] at K
    refine j_V.ldL xecx_M xecx_167 rfl (i := 0) (kd := 2) (v := .ref 307) (pcJ := 168) rfl L rfl rfl rfl ?_
    refine j_V.cl xecx_M xecx_168 rfl (md := 3) (mj := 19) rfl (by decide) xe202_M (As := [.ref 307]) (rest := []) (jk_spl3 (K.at rfl) rfl rfl rfl (Nat.le_of_ble_eq_true rfl) (Nat.le_of_ble_eq_true rfl)) (fun d => xe202_ok (K.fi [307, 309, 310, 311, 313, 314, 315, 317, 319, 320, 321, 322] rfl rfl)) ?_
    rintro r h9 ⟨rfl, K9⟩
    generalize ez2 : (x_settle nss nts run1 tra3 len3 siz1 frm1 tto1 slo1 fit way rid lon cel) = z2 at K9 ⊢
    have K : KN h9 [(307, .inl (2, [.int nss, .ref 308, .ref 309, .ref 310, .ref 311, .int nts, .ref 312, .ref 313, .ref 314, .ref 315, .ref 316, .ref 317, .ref 318, .int (z2.1), .ref 319, .ref 320, .ref 321, .ref 322])), (309, .inr (.inl (0, run1))), (310, .inr (.inl (0, tra3))), (311, .inr (.inl (0, len3))), (313, .inr (.inl (0, siz1))), (314, .inr (.inl (0, frm1))), (315, .inr (.inl (0, tto1))), (317, .inr (.inl (0, slo1))), (318, .inr (.inl (0, wei1))), (319, .inr (.inl (0, (z2.2.1)))), (320, .inr (.inl (0, (z2.2.2.2.2)))), (321, .inr (.inl (0, (z2.2.2.1)))), (322, .inr (.inl (0, (z2.2.2.2.1)))), (343, .inl (2, [.int nss, .ref 344, .ref 345, .ref 346, .ref 347, .int nts, .ref 348, .ref 349, .ref 350, .ref 351, .ref 352, .ref 353, .ref 354, .int cels, .ref 355, .ref 356, .ref 357, .ref 358])), (345, .inr (.inl (0, runs))), (346, .inr (.inl (0, tras))), (347, .inr (.inl (0, lens))), (349, .inr (.inl (0, sizs))), (350, .inr (.inl (0, frms))), (351, .inr (.inl (0, ttos))), (353, .inr (.inl (0, slos))), (354, .inr (.inl (0, weis)))] h0 := K.mg K9 rfl rfl
    clear K9
    show j_V jP _ 25 171 lv [] h9 _
    subst ez2
    subst etra3
    subst elen3
    subst ewei1
    subst eslo1
    subst etto1
    subst efrm1
    subst esiz1
    subst elen1
    subst etra1
    subst erun1
    refine j_V.ret xecx_M xecx_171 rfl rfl ?_
    rw [show (x_copyWithTrack cel run tra len siz frm tto slo wei fit way rid lon nss runs tras lens nts sizs frms ttos slos weis ns nt x2 x3) = _ from ((if_pos c138_0).trans (rfl))]
    exact ⟨rfl, K⟩

/-! layouts settled, states reset (state 4, layout 327), by wip/px/gen_w2.py -/
set_option maxRecDepth 100000 in
theorem xasw_M : j_meth jP 21 = some (yX2_settleWay, cX2_settleWay, 5, none, 1, false, 2) := rfl
set_option maxRecDepth 100000 in
theorem xasw_0 : j_code jP 21 0 = some (.iconst 0) := rfl
set_option maxRecDepth 100000 in
theorem xasw_1 : j_code jP 21 1 = some (.istore_n 2) := rfl
set_option maxRecDepth 100000 in
theorem xasw_2 : j_code jP 21 2 = some (.iload_n 2) := rfl
set_option maxRecDepth 100000 in
theorem xasw_3 : j_code jP 21 3 = some (.aload_n 0) := rfl
set_option maxRecDepth 100000 in
theorem xasw_4 : j_code jP 21 4 = some (.getfield 58) := rfl
set_option maxRecDepth 100000 in
theorem xasw_7 : j_code jP 21 7 = some (.iconst 1) := rfl
set_option maxRecDepth 100000 in
theorem xasw_8 : j_code jP 21 8 = some (.isub) := rfl
set_option maxRecDepth 100000 in
theorem xasw_9 : j_code jP 21 9 = some (.if_icmp .ge 41) := rfl
set_option maxRecDepth 100000 in
theorem xasw_12 : j_code jP 21 12 = some (.aload_n 0) := rfl
set_option maxRecDepth 100000 in
theorem xasw_13 : j_code jP 21 13 = some (.getfield 52) := rfl
set_option maxRecDepth 100000 in
theorem xasw_16 : j_code jP 21 16 = some (.iload_n 1) := rfl
set_option maxRecDepth 100000 in
theorem xasw_17 : j_code jP 21 17 = some (.bipush 6) := rfl
set_option maxRecDepth 100000 in
theorem xasw_19 : j_code jP 21 19 = some (.imul) := rfl
set_option maxRecDepth 100000 in
theorem xasw_20 : j_code jP 21 20 = some (.iload_n 2) := rfl
set_option maxRecDepth 100000 in
theorem xasw_21 : j_code jP 21 21 = some (.iadd) := rfl
set_option maxRecDepth 100000 in
theorem xasw_22 : j_code jP 21 22 = some (.aload_n 0) := rfl
set_option maxRecDepth 100000 in
theorem xasw_23 : j_code jP 21 23 = some (.getfield 15) := rfl
set_option maxRecDepth 100000 in
theorem xasw_26 : j_code jP 21 26 = some (.iload_n 2) := rfl
set_option maxRecDepth 100000 in
theorem xasw_27 : j_code jP 21 27 = some (.iconst 1) := rfl
set_option maxRecDepth 100000 in
theorem xasw_28 : j_code jP 21 28 = some (.iadd) := rfl
set_option maxRecDepth 100000 in
theorem xasw_29 : j_code jP 21 29 = some (.iaload) := rfl
set_option maxRecDepth 100000 in
theorem xasw_30 : j_code jP 21 30 = some (.iconst 2) := rfl
set_option maxRecDepth 100000 in
theorem xasw_31 : j_code jP 21 31 = some (.aload_n 0) := rfl
set_option maxRecDepth 100000 in
theorem xasw_32 : j_code jP 21 32 = some (.getfield 40) := rfl
set_option maxRecDepth 100000 in
theorem xasw_35 : j_code jP 21 35 = some (.iload_n 1) := rfl
set_option maxRecDepth 100000 in
theorem xasw_36 : j_code jP 21 36 = some (.iaload) := rfl
set_option maxRecDepth 100000 in
theorem xasw_37 : j_code jP 21 37 = some (.iadd) := rfl
set_option maxRecDepth 100000 in
theorem xasw_38 : j_code jP 21 38 = some (.imul) := rfl
set_option maxRecDepth 100000 in
theorem xasw_39 : j_code jP 21 39 = some (.iconst 1) := rfl
set_option maxRecDepth 100000 in
theorem xasw_40 : j_code jP 21 40 = some (.iadd) := rfl
set_option maxRecDepth 100000 in
theorem xasw_41 : j_code jP 21 41 = some (.iconst 2) := rfl
set_option maxRecDepth 100000 in
theorem xasw_42 : j_code jP 21 42 = some (.idiv) := rfl
set_option maxRecDepth 100000 in
theorem xasw_43 : j_code jP 21 43 = some (.iastore) := rfl
set_option maxRecDepth 100000 in
theorem xasw_44 : j_code jP 21 44 = some (.iinc 2 1) := rfl
set_option maxRecDepth 100000 in
theorem xasw_47 : j_code jP 21 47 = some (.goto (-45)) := rfl
set_option maxRecDepth 100000 in
theorem xasw_50 : j_code jP 21 50 = some (.aload_n 0) := rfl
set_option maxRecDepth 100000 in
theorem xasw_51 : j_code jP 21 51 = some (.getfield 55) := rfl
set_option maxRecDepth 100000 in
theorem xasw_54 : j_code jP 21 54 = some (.iload_n 1) := rfl
set_option maxRecDepth 100000 in
theorem xasw_55 : j_code jP 21 55 = some (.aload_n 0) := rfl
set_option maxRecDepth 100000 in
theorem xasw_56 : j_code jP 21 56 = some (.iload_n 1) := rfl
set_option maxRecDepth 100000 in
theorem xasw_57 : j_code jP 21 57 = some (.aload_n 0) := rfl
set_option maxRecDepth 100000 in
theorem xasw_58 : j_code jP 21 58 = some (.getfield 34) := rfl
set_option maxRecDepth 100000 in
theorem xasw_61 : j_code jP 21 61 = some (.iload_n 1) := rfl
set_option maxRecDepth 100000 in
theorem xasw_62 : j_code jP 21 62 = some (.iaload) := rfl
set_option maxRecDepth 100000 in
theorem xasw_63 : j_code jP 21 63 = some (.invokevirtual 79) := rfl
set_option maxRecDepth 100000 in
theorem xasw_66 : j_code jP 21 66 = some (.iastore) := rfl
set_option maxRecDepth 100000 in
theorem xasw_67 : j_code jP 21 67 = some (.iconst 0) := rfl
set_option maxRecDepth 100000 in
theorem xasw_68 : j_code jP 21 68 = some (.istore_n 2) := rfl
set_option maxRecDepth 100000 in
theorem xasw_69 : j_code jP 21 69 = some (.iload_n 2) := rfl
set_option maxRecDepth 100000 in
theorem xasw_70 : j_code jP 21 70 = some (.aload_n 0) := rfl
set_option maxRecDepth 100000 in
theorem xasw_71 : j_code jP 21 71 = some (.getfield 58) := rfl
set_option maxRecDepth 100000 in
theorem xasw_74 : j_code jP 21 74 = some (.if_icmp .ge 67) := rfl
set_option maxRecDepth 100000 in
theorem xasw_77 : j_code jP 21 77 = some (.iconst 0) := rfl
set_option maxRecDepth 100000 in
theorem xasw_78 : j_code jP 21 78 = some (.istore_n 3) := rfl
set_option maxRecDepth 100000 in
theorem xasw_79 : j_code jP 21 79 = some (.iload_n 2) := rfl
set_option maxRecDepth 100000 in
theorem xasw_80 : j_code jP 21 80 = some (.aload_n 0) := rfl
set_option maxRecDepth 100000 in
theorem xasw_81 : j_code jP 21 81 = some (.getfield 34) := rfl
set_option maxRecDepth 100000 in
theorem xasw_84 : j_code jP 21 84 = some (.iload_n 1) := rfl
set_option maxRecDepth 100000 in
theorem xasw_85 : j_code jP 21 85 = some (.iaload) := rfl
set_option maxRecDepth 100000 in
theorem xasw_86 : j_code jP 21 86 = some (.invokestatic 83) := rfl
set_option maxRecDepth 100000 in
theorem xasw_89 : j_code jP 21 89 = some (.iconst 1) := rfl
set_option maxRecDepth 100000 in
theorem xasw_90 : j_code jP 21 90 = some (.iadd) := rfl
set_option maxRecDepth 100000 in
theorem xasw_91 : j_code jP 21 91 = some (.istore 4) := rfl
set_option maxRecDepth 100000 in
theorem xasw_93 : j_code jP 21 93 = some (.iload 4) := rfl
set_option maxRecDepth 100000 in
theorem xasw_95 : j_code jP 21 95 = some (.iload_n 2) := rfl
set_option maxRecDepth 100000 in
theorem xasw_96 : j_code jP 21 96 = some (.aload_n 0) := rfl
set_option maxRecDepth 100000 in
theorem xasw_97 : j_code jP 21 97 = some (.getfield 34) := rfl
set_option maxRecDepth 100000 in
theorem xasw_100 : j_code jP 21 100 = some (.iload_n 1) := rfl
set_option maxRecDepth 100000 in
theorem xasw_101 : j_code jP 21 101 = some (.iaload) := rfl
set_option maxRecDepth 100000 in
theorem xasw_102 : j_code jP 21 102 = some (.invokestatic 88) := rfl
set_option maxRecDepth 100000 in
theorem xasw_105 : j_code jP 21 105 = some (.if_icmp .ge 18) := rfl
set_option maxRecDepth 100000 in
theorem xasw_108 : j_code jP 21 108 = some (.iload_n 3) := rfl
set_option maxRecDepth 100000 in
theorem xasw_109 : j_code jP 21 109 = some (.iconst 1) := rfl
set_option maxRecDepth 100000 in
theorem xasw_110 : j_code jP 21 110 = some (.iload 4) := rfl
set_option maxRecDepth 100000 in
theorem xasw_112 : j_code jP 21 112 = some (.iconst 3) := rfl
set_option maxRecDepth 100000 in
theorem xasw_113 : j_code jP 21 113 = some (.imul) := rfl
set_option maxRecDepth 100000 in
theorem xasw_114 : j_code jP 21 114 = some (.ishl) := rfl
set_option maxRecDepth 100000 in
theorem xasw_115 : j_code jP 21 115 = some (.ior) := rfl
set_option maxRecDepth 100000 in
theorem xasw_116 : j_code jP 21 116 = some (.istore_n 3) := rfl
set_option maxRecDepth 100000 in
theorem xasw_117 : j_code jP 21 117 = some (.iinc 4 1) := rfl
set_option maxRecDepth 100000 in
theorem xasw_120 : j_code jP 21 120 = some (.goto (-27)) := rfl
set_option maxRecDepth 100000 in
theorem xasw_123 : j_code jP 21 123 = some (.aload_n 0) := rfl
set_option maxRecDepth 100000 in
theorem xasw_124 : j_code jP 21 124 = some (.getfield 49) := rfl
set_option maxRecDepth 100000 in
theorem xasw_127 : j_code jP 21 127 = some (.iload_n 1) := rfl
set_option maxRecDepth 100000 in
theorem xasw_128 : j_code jP 21 128 = some (.bipush 7) := rfl
set_option maxRecDepth 100000 in
theorem xasw_130 : j_code jP 21 130 = some (.imul) := rfl
set_option maxRecDepth 100000 in
theorem xasw_131 : j_code jP 21 131 = some (.iload_n 2) := rfl
set_option maxRecDepth 100000 in
theorem xasw_132 : j_code jP 21 132 = some (.iadd) := rfl
set_option maxRecDepth 100000 in
theorem xasw_133 : j_code jP 21 133 = some (.iload_n 3) := rfl
set_option maxRecDepth 100000 in
theorem xasw_134 : j_code jP 21 134 = some (.iastore) := rfl
set_option maxRecDepth 100000 in
theorem xasw_135 : j_code jP 21 135 = some (.iinc 2 1) := rfl
set_option maxRecDepth 100000 in
theorem xasw_138 : j_code jP 21 138 = some (.goto (-69)) := rfl
set_option maxRecDepth 100000 in
theorem xasw_141 : j_code jP 21 141 = some (.return_) := rfl
def x_wayb : Nat → Int32 → Int32 → Int32
  | 0, v4, v3 => v3
  | f + 1, v4, v3 => (x_wayb f (v4 + 1) (v3 ||| (1 <<< ((v4 * 3) &&& 31))))
set_option maxRecDepth 1000000 in
theorem xasw_in {ns : Int32} {nt : Int32} {cel : Int32} {tto : List Int32} {d : Nat} {h h0 : J_H} {x1 v2 : Int32} {Q : Option Value → J_H → Prop} (K : KN h [(327, .inl (2, [.int ns, .ref 328, .ref 329, .ref 330, .ref 331, .int nt, .ref 332, .ref 333, .ref 334, .ref 335, .ref 336, .ref 337, .ref 338, .int cel, .ref 339, .ref 340, .ref 341, .ref 342])), (335, .inr (.inl (0, tto)))] h0) : ∀ (f : Nat) (v4 v3 : Int32) {lv : J_L}, lpN (iMx v2 (gA tto x1)) v4 = f → LK lv [(0, .ref 327), (1, .int x1), (2, .int v2), (3, .int v3), (4, .int v4)] → (∀ lv, LK lv [(0, .ref 327), (1, .int x1), (2, .int v2), (3, .int (x_wayb f v4 v3))] → j_V jP d 21 123 lv [] h Q) → j_V jP d 21 93 lv [] h Q := by
  intro f
  induction f with
  | zero =>
    intro v4 v3 lv e L kk
    refine j_V.ldL xasw_M xasw_93 rfl (i := 4) (kd := 0) (v := .int v4) (pcJ := 95) rfl L rfl rfl rfl ?_
    refine j_V.ldL xasw_M xasw_95 rfl (i := 2) (kd := 0) (v := .int v2) (pcJ := 96) rfl L rfl rfl rfl ?_
    refine j_V.ldL xasw_M xasw_96 rfl (i := 0) (kd := 2) (v := .ref 327) (pcJ := 97) rfl L rfl rfl rfl ?_
    refine j_V.getK xasw_M xasw_97 (ci := 2) (j := 9) rfl K rfl rfl ?_
    refine j_V.ldL xasw_M xasw_100 rfl (i := 1) (kd := 0) (v := .int x1) (pcJ := 101) rfl L rfl rfl rfl ?_
    refine j_V.iaA xasw_M xasw_101 K rfl ?_
    refine j_V.mx xasw_M xasw_102 rfl rfl (Nat.le_of_ble_eq_true rfl) ?_
    refine j_V.icmp xasw_M xasw_105 (t := 123) rfl (fun c105_0 => ?_) (fun c105_0 => ?_)
    · replace c105_0 : ¬ (v4 < (iMx v2 (gA tto x1))) := jd_ge c105_0
      exact kk _ (L.sub ⟨rfl, rfl, rfl, rfl, trivial⟩)
    · replace c105_0 : v4 < (iMx v2 (gA tto x1)) := jd_gen c105_0
      exact absurd c105_0 (lpN_z e)
  | succ f ih =>
    intro v4 v3 lv e L kk
    refine j_V.ldL xasw_M xasw_93 rfl (i := 4) (kd := 0) (v := .int v4) (pcJ := 95) rfl L rfl rfl rfl ?_
    refine j_V.ldL xasw_M xasw_95 rfl (i := 2) (kd := 0) (v := .int v2) (pcJ := 96) rfl L rfl rfl rfl ?_
    refine j_V.ldL xasw_M xasw_96 rfl (i := 0) (kd := 2) (v := .ref 327) (pcJ := 97) rfl L rfl rfl rfl ?_
    refine j_V.getK xasw_M xasw_97 (ci := 2) (j := 9) rfl K rfl rfl ?_
    refine j_V.ldL xasw_M xasw_100 rfl (i := 1) (kd := 0) (v := .int x1) (pcJ := 101) rfl L rfl rfl rfl ?_
    refine j_V.iaA xasw_M xasw_101 K rfl ?_
    refine j_V.mx xasw_M xasw_102 rfl rfl (Nat.le_of_ble_eq_true rfl) ?_
    refine j_V.icmp xasw_M xasw_105 (t := 123) rfl (fun c105_0 => ?_) (fun c105_0 => ?_)
    · replace c105_0 : ¬ (v4 < (iMx v2 (gA tto x1))) := jd_ge c105_0
      exact absurd (lpN_s e) c105_0
    · replace c105_0 : v4 < (iMx v2 (gA tto x1)) := jd_gen c105_0
      refine j_V.ldL xasw_M xasw_108 rfl (i := 3) (kd := 0) (v := .int v3) (pcJ := 109) rfl L rfl rfl rfl ?_
      refine j_V.one xasw_M xasw_109 (by decide) (pcJ := 110) (stJ := [.int 1, .int v3]) rfl ?_
      refine j_V.ldL xasw_M xasw_110 rfl (i := 4) (kd := 0) (v := .int v4) (pcJ := 112) rfl L rfl rfl rfl ?_
      refine j_V.one xasw_M xasw_112 (by decide) (pcJ := 113) (stJ := [.int 3, .int v4, .int 1, .int v3]) rfl ?_
      refine j_V.one xasw_M xasw_113 (by decide) (pcJ := 114) (stJ := [.int (v4 * 3), .int 1, .int v3]) rfl ?_
      refine j_V.one xasw_M xasw_114 (by decide) (pcJ := 115) (stJ := [.int (1 <<< ((v4 * 3) &&& 31)), .int v3]) rfl ?_
      refine j_V.one xasw_M xasw_115 (by decide) (pcJ := 116) (stJ := [.int (v3 ||| (1 <<< ((v4 * 3) &&& 31)))]) rfl ?_
      refine j_V.stL xasw_M xasw_116 rfl (i := 3) (kd := 0) (kl' := [(0, .ref 327), (1, .int x1), (2, .int v2), (3, .int (v3 ||| (1 <<< ((v4 * 3) &&& 31)))), (4, .int v4)]) (pcJ := 117) rfl L rfl (by decide) rfl rfl rfl (fun lv L => ?_)
      refine j_V.inL xasw_M xasw_117 (i := 4) (kl' := [(0, .ref 327), (1, .int x1), (2, .int v2), (3, .int (v3 ||| (1 <<< ((v4 * 3) &&& 31)))), (4, .int (v4 + 1))]) (pcJ := 120) L rfl rfl rfl rfl (fun lv L => ?_)
      refine j_V.gto xasw_M xasw_120 (t := 93) rfl ?_
      rw [show (x_wayb (f + 1) v4 v3) = (x_wayb f (v4 + 1) (v3 ||| (1 <<< ((v4 * 3) &&& 31)))) from rfl] at kk
      exact ih _ _ (lpN_n e) L kk
set_option maxRecDepth 100000 in
theorem xa200_M : j_meth jP 20 = some (yX2_settleFit, cX2_settleFit, 3, none, 1, false, 2) := rfl
set_option maxRecDepth 100000 in
theorem xa200_0 : j_code jP 20 0 = some (.aload_n 0) := rfl
set_option maxRecDepth 100000 in
theorem xa200_1 : j_code jP 20 1 = some (.getfield 46) := rfl
set_option maxRecDepth 100000 in
theorem xa200_4 : j_code jP 20 4 = some (.iload_n 1) := rfl
set_option maxRecDepth 100000 in
theorem xa200_5 : j_code jP 20 5 = some (.iconst 0) := rfl
set_option maxRecDepth 100000 in
theorem xa200_6 : j_code jP 20 6 = some (.iastore) := rfl
set_option maxRecDepth 100000 in
theorem xa200_7 : j_code jP 20 7 = some (.iconst 0) := rfl
set_option maxRecDepth 100000 in
theorem xa200_8 : j_code jP 20 8 = some (.istore_n 2) := rfl
set_option maxRecDepth 100000 in
theorem xa200_9 : j_code jP 20 9 = some (.iload_n 2) := rfl
set_option maxRecDepth 100000 in
theorem xa200_10 : j_code jP 20 10 = some (.bipush 21) := rfl
set_option maxRecDepth 100000 in
theorem xa200_12 : j_code jP 20 12 = some (.if_icmp .ge 47) := rfl
set_option maxRecDepth 100000 in
theorem xa200_15 : j_code jP 20 15 = some (.aload_n 0) := rfl
set_option maxRecDepth 100000 in
theorem xa200_16 : j_code jP 20 16 = some (.getfield 65) := rfl
set_option maxRecDepth 100000 in
theorem xa200_19 : j_code jP 20 19 = some (.iload_n 2) := rfl
set_option maxRecDepth 100000 in
theorem xa200_20 : j_code jP 20 20 = some (.ishr) := rfl
set_option maxRecDepth 100000 in
theorem xa200_21 : j_code jP 20 21 = some (.iconst 1) := rfl
set_option maxRecDepth 100000 in
theorem xa200_22 : j_code jP 20 22 = some (.iand) := rfl
set_option maxRecDepth 100000 in
theorem xa200_23 : j_code jP 20 23 = some (.ifCond .eq 30) := rfl
set_option maxRecDepth 100000 in
theorem xa200_26 : j_code jP 20 26 = some (.aload_n 0) := rfl
set_option maxRecDepth 100000 in
theorem xa200_27 : j_code jP 20 27 = some (.getfield 22) := rfl
set_option maxRecDepth 100000 in
theorem xa200_30 : j_code jP 20 30 = some (.iload_n 2) := rfl
set_option maxRecDepth 100000 in
theorem xa200_31 : j_code jP 20 31 = some (.iaload) := rfl
set_option maxRecDepth 100000 in
theorem xa200_32 : j_code jP 20 32 = some (.aload_n 0) := rfl
set_option maxRecDepth 100000 in
theorem xa200_33 : j_code jP 20 33 = some (.getfield 28) := rfl
set_option maxRecDepth 100000 in
theorem xa200_36 : j_code jP 20 36 = some (.iload_n 1) := rfl
set_option maxRecDepth 100000 in
theorem xa200_37 : j_code jP 20 37 = some (.iaload) := rfl
set_option maxRecDepth 100000 in
theorem xa200_38 : j_code jP 20 38 = some (.if_icmp .lt 15) := rfl
set_option maxRecDepth 100000 in
theorem xa200_41 : j_code jP 20 41 = some (.aload_n 0) := rfl
set_option maxRecDepth 100000 in
theorem xa200_42 : j_code jP 20 42 = some (.getfield 46) := rfl
set_option maxRecDepth 100000 in
theorem xa200_45 : j_code jP 20 45 = some (.iload_n 1) := rfl
set_option maxRecDepth 100000 in
theorem xa200_46 : j_code jP 20 46 = some (.dup2) := rfl
set_option maxRecDepth 100000 in
theorem xa200_47 : j_code jP 20 47 = some (.iaload) := rfl
set_option maxRecDepth 100000 in
theorem xa200_48 : j_code jP 20 48 = some (.iconst 1) := rfl
set_option maxRecDepth 100000 in
theorem xa200_49 : j_code jP 20 49 = some (.iload_n 2) := rfl
set_option maxRecDepth 100000 in
theorem xa200_50 : j_code jP 20 50 = some (.ishl) := rfl
set_option maxRecDepth 100000 in
theorem xa200_51 : j_code jP 20 51 = some (.ior) := rfl
set_option maxRecDepth 100000 in
theorem xa200_52 : j_code jP 20 52 = some (.iastore) := rfl
set_option maxRecDepth 100000 in
theorem xa200_53 : j_code jP 20 53 = some (.iinc 2 1) := rfl
set_option maxRecDepth 100000 in
theorem xa200_56 : j_code jP 20 56 = some (.goto (-47)) := rfl
set_option maxRecDepth 100000 in
theorem xa200_59 : j_code jP 20 59 = some (.return_) := rfl
def x_settleFit_l9 (cel : Int32) (len : List Int32) (siz : List Int32) (v1 : Int32) : Nat → Int32 → List Int32 → List Int32
  | 0, v2, fit => fit
  | f + 1, v2, fit => (if ((cel >>> (v2 &&& 31)) &&& 1) = 0 then (x_settleFit_l9 cel len siz v1 f (v2 + 1) fit) else (if (gA len v2) < (gA siz v1) then (x_settleFit_l9 cel len siz v1 f (v2 + 1) fit) else let fit3 := (sA fit v1 ((gA fit v1) ||| (1 <<< (v2 &&& 31)))); (x_settleFit_l9 cel len siz v1 f (v2 + 1) fit3)))
set_option maxRecDepth 1000000 in
theorem xa200_ok_l9 {ns : Int32} {nt : Int32} {cel : Int32} {len : List Int32} {siz : List Int32} {v1 : Int32} {d : Nat} {h0 : J_H} : ∀ (f : Nat) (v2 : Int32) (fit : List Int32) {lv : J_L} {h : J_H}, lpN 21 v2 = f → LK lv [(0, .ref 327), (1, .int v1), (2, .int v2)] → KN h [(327, .inl (2, [.int ns, .ref 328, .ref 329, .ref 330, .ref 331, .int nt, .ref 332, .ref 333, .ref 334, .ref 335, .ref 336, .ref 337, .ref 338, .int cel, .ref 339, .ref 340, .ref 341, .ref 342])), (331, .inr (.inl (0, len))), (333, .inr (.inl (0, siz))), (339, .inr (.inl (0, fit)))] h0 → j_V jP d 20 9 lv [] h (fun rv h' => rv = none ∧ KN h' [(327, .inl (2, [.int ns, .ref 328, .ref 329, .ref 330, .ref 331, .int nt, .ref 332, .ref 333, .ref 334, .ref 335, .ref 336, .ref 337, .ref 338, .int cel, .ref 339, .ref 340, .ref 341, .ref 342])), (331, .inr (.inl (0, len))), (333, .inr (.inl (0, siz))), (339, .inr (.inl (0, (x_settleFit_l9 cel len siz v1 f v2 fit))))] h0) := by
  intro f
  induction f with
  | zero =>
    intro v2 fit lv h e L K
    refine j_V.ldL xa200_M xa200_9 rfl (i := 2) (kd := 0) (v := .int v2) (pcJ := 10) rfl L rfl rfl rfl ?_
    refine j_V.one xa200_M xa200_10 (by decide) (pcJ := 12) (stJ := [.int 21, .int v2]) rfl ?_
    refine j_V.icmp xa200_M xa200_12 (t := 59) rfl (fun c12_0 => ?_) (fun c12_0 => ?_)
    · replace c12_0 : ¬ (v2 < 21) := jd_ge c12_0
      refine j_V.ret xa200_M xa200_59 rfl rfl ?_
      rw [show (x_settleFit_l9 cel len siz v1 0 v2 fit) = _ from (rfl)]
      exact ⟨rfl, K⟩
    · replace c12_0 : v2 < 21 := jd_gen c12_0
      exact absurd c12_0 (lpN_z e)
  | succ f ih =>
    intro v2 fit lv h e L K
    refine j_V.ldL xa200_M xa200_9 rfl (i := 2) (kd := 0) (v := .int v2) (pcJ := 10) rfl L rfl rfl rfl ?_
    refine j_V.one xa200_M xa200_10 (by decide) (pcJ := 12) (stJ := [.int 21, .int v2]) rfl ?_
    refine j_V.icmp xa200_M xa200_12 (t := 59) rfl (fun c12_0 => ?_) (fun c12_0 => ?_)
    · replace c12_0 : ¬ (v2 < 21) := jd_ge c12_0
      exact absurd (lpN_s e) c12_0
    · replace c12_0 : v2 < 21 := jd_gen c12_0
      refine j_V.ldL xa200_M xa200_15 rfl (i := 0) (kd := 2) (v := .ref 327) (pcJ := 16) rfl L rfl rfl rfl ?_
      refine j_V.getK xa200_M xa200_16 (ci := 2) (j := 13) rfl K rfl rfl ?_
      refine j_V.ldL xa200_M xa200_19 rfl (i := 2) (kd := 0) (v := .int v2) (pcJ := 20) rfl L rfl rfl rfl ?_
      refine j_V.one xa200_M xa200_20 (by decide) (pcJ := 21) (stJ := [.int (cel >>> (v2 &&& 31))]) rfl ?_
      refine j_V.one xa200_M xa200_21 (by decide) (pcJ := 22) (stJ := [.int 1, .int (cel >>> (v2 &&& 31))]) rfl ?_
      refine j_V.one xa200_M xa200_22 (by decide) (pcJ := 23) (stJ := [.int ((cel >>> (v2 &&& 31)) &&& 1)]) rfl ?_
      refine j_V.ifc xa200_M xa200_23 (t := 53) rfl (fun c23_0 => ?_) (fun c23_0 => ?_)
      · replace c23_0 : ((cel >>> (v2 &&& 31)) &&& 1) = 0 := jd_eq c23_0
        refine j_V.inL xa200_M xa200_53 (i := 2) (kl' := [(0, .ref 327), (1, .int v1), (2, .int (v2 + 1))]) (pcJ := 56) L rfl rfl rfl rfl (fun lv L => ?_)
        refine j_V.gto xa200_M xa200_56 (t := 9) rfl ?_
        rw [show (x_settleFit_l9 cel len siz v1 (f + 1) v2 fit) = _ from ((if_pos c23_0).trans (rfl))]
        exact ih _ _ (lpN_n e) L K
      · replace c23_0 : ¬ (((cel >>> (v2 &&& 31)) &&& 1) = 0) := jd_eqn c23_0
        refine j_V.ldL xa200_M xa200_26 rfl (i := 0) (kd := 2) (v := .ref 327) (pcJ := 27) rfl L rfl rfl rfl ?_
        refine j_V.getK xa200_M xa200_27 (ci := 2) (j := 4) rfl K rfl rfl ?_
        refine j_V.ldL xa200_M xa200_30 rfl (i := 2) (kd := 0) (v := .int v2) (pcJ := 31) rfl L rfl rfl rfl ?_
        refine j_V.iaA xa200_M xa200_31 K rfl ?_
        refine j_V.ldL xa200_M xa200_32 rfl (i := 0) (kd := 2) (v := .ref 327) (pcJ := 33) rfl L rfl rfl rfl ?_
        refine j_V.getK xa200_M xa200_33 (ci := 2) (j := 7) rfl K rfl rfl ?_
        refine j_V.ldL xa200_M xa200_36 rfl (i := 1) (kd := 0) (v := .int v1) (pcJ := 37) rfl L rfl rfl rfl ?_
        refine j_V.iaA xa200_M xa200_37 K rfl ?_
        refine j_V.icmp xa200_M xa200_38 (t := 53) rfl (fun c38_1 => ?_) (fun c38_1 => ?_)
        · replace c38_1 : (gA len v2) < (gA siz v1) := jd_lt c38_1
          refine j_V.inL xa200_M xa200_53 (i := 2) (kl' := [(0, .ref 327), (1, .int v1), (2, .int (v2 + 1))]) (pcJ := 56) L rfl rfl rfl rfl (fun lv L => ?_)
          refine j_V.gto xa200_M xa200_56 (t := 9) rfl ?_
          rw [show (x_settleFit_l9 cel len siz v1 (f + 1) v2 fit) = _ from ((if_neg c23_0).trans ((if_pos c38_1).trans (rfl)))]
          exact ih _ _ (lpN_n e) L K
        · replace c38_1 : ¬ ((gA len v2) < (gA siz v1)) := jd_ltn c38_1
          refine j_V.ldL xa200_M xa200_41 rfl (i := 0) (kd := 2) (v := .ref 327) (pcJ := 42) rfl L rfl rfl rfl ?_
          refine j_V.getK xa200_M xa200_42 (ci := 2) (j := 14) rfl K rfl rfl ?_
          refine j_V.ldL xa200_M xa200_45 rfl (i := 1) (kd := 0) (v := .int v1) (pcJ := 46) rfl L rfl rfl rfl ?_
          refine j_V.one xa200_M xa200_46 (by decide) (pcJ := 47) (stJ := [.int v1, .ref 339, .int v1, .ref 339]) rfl ?_
          refine j_V.iaA xa200_M xa200_47 K rfl ?_
          refine j_V.one xa200_M xa200_48 (by decide) (pcJ := 49) (stJ := [.int 1, .int (gA fit v1), .int v1, .ref 339]) rfl ?_
          refine j_V.ldL xa200_M xa200_49 rfl (i := 2) (kd := 0) (v := .int v2) (pcJ := 50) rfl L rfl rfl rfl ?_
          refine j_V.one xa200_M xa200_50 (by decide) (pcJ := 51) (stJ := [.int (1 <<< (v2 &&& 31)), .int (gA fit v1), .int v1, .ref 339]) rfl ?_
          refine j_V.one xa200_M xa200_51 (by decide) (pcJ := 52) (stJ := [.int ((gA fit v1) ||| (1 <<< (v2 &&& 31))), .int v1, .ref 339]) rfl ?_
          refine j_V.isA xa200_M xa200_52 (k' := [(327, .inl (2, [.int ns, .ref 328, .ref 329, .ref 330, .ref 331, .int nt, .ref 332, .ref 333, .ref 334, .ref 335, .ref 336, .ref 337, .ref 338, .int cel, .ref 339, .ref 340, .ref 341, .ref 342])), (331, .inr (.inl (0, len))), (333, .inr (.inl (0, siz))), (339, .inr (.inl (0, (sA fit v1 ((gA fit v1) ||| (1 <<< (v2 &&& 31)))))))]) K rfl rfl (fun h K => ?_)
          obtain ⟨fit3, efit3⟩ : ∃ z, z = (sA fit v1 ((gA fit v1) ||| (1 <<< (v2 &&& 31)))) := ⟨_, rfl⟩
          rw [← efit3] at K
          refine j_V.inL xa200_M xa200_53 (i := 2) (kl' := [(0, .ref 327), (1, .int v1), (2, .int (v2 + 1))]) (pcJ := 56) L rfl rfl rfl rfl (fun lv L => ?_)
          refine j_V.gto xa200_M xa200_56 (t := 9) rfl ?_
          subst efit3
          rw [show (x_settleFit_l9 cel len siz v1 (f + 1) v2 fit) = _ from ((if_neg c23_0).trans ((if_neg c38_1).trans (rfl)))]
          exact ih _ _ (lpN_n e) L K
def x_settleFit (cel : Int32) (len : List Int32) (siz : List Int32) (fit : List Int32) (x1 : Int32) : List Int32 := let fit4 := (sA fit x1 0); (x_settleFit_l9 cel len siz x1 (lpN 21 0) 0 fit4)
set_option maxRecDepth 1000000 in
theorem xa200_ok {ns : Int32} {nt : Int32} {cel : Int32} {len : List Int32} {siz : List Int32} {fit : List Int32} {x1 : Int32} {d : Nat} {h h0 : J_H} (K : KN h [(327, .inl (2, [.int ns, .ref 328, .ref 329, .ref 330, .ref 331, .int nt, .ref 332, .ref 333, .ref 334, .ref 335, .ref 336, .ref 337, .ref 338, .int cel, .ref 339, .ref 340, .ref 341, .ref 342])), (331, .inr (.inl (0, len))), (333, .inr (.inl (0, siz))), (339, .inr (.inl (0, fit)))] h0) : j_V jP d 20 0 (lv_args 0 [.ref 327, .int x1]) [] h (fun rv h' => rv = none ∧ KN h' [(327, .inl (2, [.int ns, .ref 328, .ref 329, .ref 330, .ref 331, .int nt, .ref 332, .ref 333, .ref 334, .ref 335, .ref 336, .ref 337, .ref 338, .int cel, .ref 339, .ref 340, .ref 341, .ref 342])), (331, .inr (.inl (0, len))), (333, .inr (.inl (0, siz))), (339, .inr (.inl (0, (x_settleFit cel len siz fit x1))))] h0) := by
  show j_V jP d 20 0 [(0, .ref 327), (1, .int x1)] [] h _
  obtain ⟨lv, elv, L⟩ : ∃ lv, lv = [(0, .ref 327), (1, .int x1)] ∧ LK lv [(0, .ref 327), (1, .int x1)] := ⟨_, rfl, LK.rf⟩
  rw [← elv]
  clear elv
  refine j_V.ldL xa200_M xa200_0 rfl (i := 0) (kd := 2) (v := .ref 327) (pcJ := 1) rfl L rfl rfl rfl ?_
  refine j_V.getK xa200_M xa200_1 (ci := 2) (j := 14) rfl K rfl rfl ?_
  refine j_V.ldL xa200_M xa200_4 rfl (i := 1) (kd := 0) (v := .int x1) (pcJ := 5) rfl L rfl rfl rfl ?_
  refine j_V.one xa200_M xa200_5 (by decide) (pcJ := 6) (stJ := [.int 0, .int x1, .ref 339]) rfl ?_
  refine j_V.isA xa200_M xa200_6 (k' := [(327, .inl (2, [.int ns, .ref 328, .ref 329, .ref 330, .ref 331, .int nt, .ref 332, .ref 333, .ref 334, .ref 335, .ref 336, .ref 337, .ref 338, .int cel, .ref 339, .ref 340, .ref 341, .ref 342])), (331, .inr (.inl (0, len))), (333, .inr (.inl (0, siz))), (339, .inr (.inl (0, (sA fit x1 0))))]) K rfl rfl (fun h K => ?_)
  obtain ⟨fit4, efit4⟩ : ∃ z, z = (sA fit x1 0) := ⟨_, rfl⟩
  rw [← efit4] at K
  refine j_V.one xa200_M xa200_7 (by decide) (pcJ := 8) (stJ := [.int 0]) rfl ?_
  refine j_V.stL xa200_M xa200_8 rfl (i := 2) (kd := 0) (kl' := [(0, .ref 327), (1, .int x1), (2, .int 0)]) (pcJ := 9) rfl L rfl (by decide) rfl rfl rfl (fun lv L => ?_)
  subst efit4
  rw [show (x_settleFit cel len siz fit x1) = _ from (rfl)]
  exact xa200_ok_l9 _ _ _ rfl L K
set_option maxRecDepth 100000 in
theorem xa201_M : j_meth jP 21 = some (yX2_settleWay, cX2_settleWay, 5, none, 1, false, 2) := rfl
set_option maxRecDepth 100000 in
theorem xa201_0 : j_code jP 21 0 = some (.iconst 0) := rfl
set_option maxRecDepth 100000 in
theorem xa201_1 : j_code jP 21 1 = some (.istore_n 2) := rfl
set_option maxRecDepth 100000 in
theorem xa201_2 : j_code jP 21 2 = some (.iload_n 2) := rfl
set_option maxRecDepth 100000 in
theorem xa201_3 : j_code jP 21 3 = some (.aload_n 0) := rfl
set_option maxRecDepth 100000 in
theorem xa201_4 : j_code jP 21 4 = some (.getfield 58) := rfl
set_option maxRecDepth 100000 in
theorem xa201_7 : j_code jP 21 7 = some (.iconst 1) := rfl
set_option maxRecDepth 100000 in
theorem xa201_8 : j_code jP 21 8 = some (.isub) := rfl
set_option maxRecDepth 100000 in
theorem xa201_9 : j_code jP 21 9 = some (.if_icmp .ge 41) := rfl
set_option maxRecDepth 100000 in
theorem xa201_12 : j_code jP 21 12 = some (.aload_n 0) := rfl
set_option maxRecDepth 100000 in
theorem xa201_13 : j_code jP 21 13 = some (.getfield 52) := rfl
set_option maxRecDepth 100000 in
theorem xa201_16 : j_code jP 21 16 = some (.iload_n 1) := rfl
set_option maxRecDepth 100000 in
theorem xa201_17 : j_code jP 21 17 = some (.bipush 6) := rfl
set_option maxRecDepth 100000 in
theorem xa201_19 : j_code jP 21 19 = some (.imul) := rfl
set_option maxRecDepth 100000 in
theorem xa201_20 : j_code jP 21 20 = some (.iload_n 2) := rfl
set_option maxRecDepth 100000 in
theorem xa201_21 : j_code jP 21 21 = some (.iadd) := rfl
set_option maxRecDepth 100000 in
theorem xa201_22 : j_code jP 21 22 = some (.aload_n 0) := rfl
set_option maxRecDepth 100000 in
theorem xa201_23 : j_code jP 21 23 = some (.getfield 15) := rfl
set_option maxRecDepth 100000 in
theorem xa201_26 : j_code jP 21 26 = some (.iload_n 2) := rfl
set_option maxRecDepth 100000 in
theorem xa201_27 : j_code jP 21 27 = some (.iconst 1) := rfl
set_option maxRecDepth 100000 in
theorem xa201_28 : j_code jP 21 28 = some (.iadd) := rfl
set_option maxRecDepth 100000 in
theorem xa201_29 : j_code jP 21 29 = some (.iaload) := rfl
set_option maxRecDepth 100000 in
theorem xa201_30 : j_code jP 21 30 = some (.iconst 2) := rfl
set_option maxRecDepth 100000 in
theorem xa201_31 : j_code jP 21 31 = some (.aload_n 0) := rfl
set_option maxRecDepth 100000 in
theorem xa201_32 : j_code jP 21 32 = some (.getfield 40) := rfl
set_option maxRecDepth 100000 in
theorem xa201_35 : j_code jP 21 35 = some (.iload_n 1) := rfl
set_option maxRecDepth 100000 in
theorem xa201_36 : j_code jP 21 36 = some (.iaload) := rfl
set_option maxRecDepth 100000 in
theorem xa201_37 : j_code jP 21 37 = some (.iadd) := rfl
set_option maxRecDepth 100000 in
theorem xa201_38 : j_code jP 21 38 = some (.imul) := rfl
set_option maxRecDepth 100000 in
theorem xa201_39 : j_code jP 21 39 = some (.iconst 1) := rfl
set_option maxRecDepth 100000 in
theorem xa201_40 : j_code jP 21 40 = some (.iadd) := rfl
set_option maxRecDepth 100000 in
theorem xa201_41 : j_code jP 21 41 = some (.iconst 2) := rfl
set_option maxRecDepth 100000 in
theorem xa201_42 : j_code jP 21 42 = some (.idiv) := rfl
set_option maxRecDepth 100000 in
theorem xa201_43 : j_code jP 21 43 = some (.iastore) := rfl
set_option maxRecDepth 100000 in
theorem xa201_44 : j_code jP 21 44 = some (.iinc 2 1) := rfl
set_option maxRecDepth 100000 in
theorem xa201_47 : j_code jP 21 47 = some (.goto (-45)) := rfl
set_option maxRecDepth 100000 in
theorem xa201_50 : j_code jP 21 50 = some (.aload_n 0) := rfl
set_option maxRecDepth 100000 in
theorem xa201_51 : j_code jP 21 51 = some (.getfield 55) := rfl
set_option maxRecDepth 100000 in
theorem xa201_54 : j_code jP 21 54 = some (.iload_n 1) := rfl
set_option maxRecDepth 100000 in
theorem xa201_55 : j_code jP 21 55 = some (.aload_n 0) := rfl
set_option maxRecDepth 100000 in
theorem xa201_56 : j_code jP 21 56 = some (.iload_n 1) := rfl
set_option maxRecDepth 100000 in
theorem xa201_57 : j_code jP 21 57 = some (.aload_n 0) := rfl
set_option maxRecDepth 100000 in
theorem xa201_58 : j_code jP 21 58 = some (.getfield 34) := rfl
set_option maxRecDepth 100000 in
theorem xa201_61 : j_code jP 21 61 = some (.iload_n 1) := rfl
set_option maxRecDepth 100000 in
theorem xa201_62 : j_code jP 21 62 = some (.iaload) := rfl
set_option maxRecDepth 100000 in
theorem xa201_63 : j_code jP 21 63 = some (.invokevirtual 79) := rfl
set_option maxRecDepth 100000 in
theorem xa201_66 : j_code jP 21 66 = some (.iastore) := rfl
set_option maxRecDepth 100000 in
theorem xa201_67 : j_code jP 21 67 = some (.iconst 0) := rfl
set_option maxRecDepth 100000 in
theorem xa201_68 : j_code jP 21 68 = some (.istore_n 2) := rfl
set_option maxRecDepth 100000 in
theorem xa201_69 : j_code jP 21 69 = some (.iload_n 2) := rfl
set_option maxRecDepth 100000 in
theorem xa201_70 : j_code jP 21 70 = some (.aload_n 0) := rfl
set_option maxRecDepth 100000 in
theorem xa201_71 : j_code jP 21 71 = some (.getfield 58) := rfl
set_option maxRecDepth 100000 in
theorem xa201_74 : j_code jP 21 74 = some (.if_icmp .ge 67) := rfl
set_option maxRecDepth 100000 in
theorem xa201_77 : j_code jP 21 77 = some (.iconst 0) := rfl
set_option maxRecDepth 100000 in
theorem xa201_78 : j_code jP 21 78 = some (.istore_n 3) := rfl
set_option maxRecDepth 100000 in
theorem xa201_79 : j_code jP 21 79 = some (.iload_n 2) := rfl
set_option maxRecDepth 100000 in
theorem xa201_80 : j_code jP 21 80 = some (.aload_n 0) := rfl
set_option maxRecDepth 100000 in
theorem xa201_81 : j_code jP 21 81 = some (.getfield 34) := rfl
set_option maxRecDepth 100000 in
theorem xa201_84 : j_code jP 21 84 = some (.iload_n 1) := rfl
set_option maxRecDepth 100000 in
theorem xa201_85 : j_code jP 21 85 = some (.iaload) := rfl
set_option maxRecDepth 100000 in
theorem xa201_86 : j_code jP 21 86 = some (.invokestatic 83) := rfl
set_option maxRecDepth 100000 in
theorem xa201_89 : j_code jP 21 89 = some (.iconst 1) := rfl
set_option maxRecDepth 100000 in
theorem xa201_90 : j_code jP 21 90 = some (.iadd) := rfl
set_option maxRecDepth 100000 in
theorem xa201_91 : j_code jP 21 91 = some (.istore 4) := rfl
set_option maxRecDepth 100000 in
theorem xa201_93 : j_code jP 21 93 = some (.iload 4) := rfl
set_option maxRecDepth 100000 in
theorem xa201_95 : j_code jP 21 95 = some (.iload_n 2) := rfl
set_option maxRecDepth 100000 in
theorem xa201_96 : j_code jP 21 96 = some (.aload_n 0) := rfl
set_option maxRecDepth 100000 in
theorem xa201_97 : j_code jP 21 97 = some (.getfield 34) := rfl
set_option maxRecDepth 100000 in
theorem xa201_100 : j_code jP 21 100 = some (.iload_n 1) := rfl
set_option maxRecDepth 100000 in
theorem xa201_101 : j_code jP 21 101 = some (.iaload) := rfl
set_option maxRecDepth 100000 in
theorem xa201_102 : j_code jP 21 102 = some (.invokestatic 88) := rfl
set_option maxRecDepth 100000 in
theorem xa201_105 : j_code jP 21 105 = some (.if_icmp .ge 18) := rfl
set_option maxRecDepth 100000 in
theorem xa201_108 : j_code jP 21 108 = some (.iload_n 3) := rfl
set_option maxRecDepth 100000 in
theorem xa201_109 : j_code jP 21 109 = some (.iconst 1) := rfl
set_option maxRecDepth 100000 in
theorem xa201_110 : j_code jP 21 110 = some (.iload 4) := rfl
set_option maxRecDepth 100000 in
theorem xa201_112 : j_code jP 21 112 = some (.iconst 3) := rfl
set_option maxRecDepth 100000 in
theorem xa201_113 : j_code jP 21 113 = some (.imul) := rfl
set_option maxRecDepth 100000 in
theorem xa201_114 : j_code jP 21 114 = some (.ishl) := rfl
set_option maxRecDepth 100000 in
theorem xa201_115 : j_code jP 21 115 = some (.ior) := rfl
set_option maxRecDepth 100000 in
theorem xa201_116 : j_code jP 21 116 = some (.istore_n 3) := rfl
set_option maxRecDepth 100000 in
theorem xa201_117 : j_code jP 21 117 = some (.iinc 4 1) := rfl
set_option maxRecDepth 100000 in
theorem xa201_120 : j_code jP 21 120 = some (.goto (-27)) := rfl
set_option maxRecDepth 100000 in
theorem xa201_123 : j_code jP 21 123 = some (.aload_n 0) := rfl
set_option maxRecDepth 100000 in
theorem xa201_124 : j_code jP 21 124 = some (.getfield 49) := rfl
set_option maxRecDepth 100000 in
theorem xa201_127 : j_code jP 21 127 = some (.iload_n 1) := rfl
set_option maxRecDepth 100000 in
theorem xa201_128 : j_code jP 21 128 = some (.bipush 7) := rfl
set_option maxRecDepth 100000 in
theorem xa201_130 : j_code jP 21 130 = some (.imul) := rfl
set_option maxRecDepth 100000 in
theorem xa201_131 : j_code jP 21 131 = some (.iload_n 2) := rfl
set_option maxRecDepth 100000 in
theorem xa201_132 : j_code jP 21 132 = some (.iadd) := rfl
set_option maxRecDepth 100000 in
theorem xa201_133 : j_code jP 21 133 = some (.iload_n 3) := rfl
set_option maxRecDepth 100000 in
theorem xa201_134 : j_code jP 21 134 = some (.iastore) := rfl
set_option maxRecDepth 100000 in
theorem xa201_135 : j_code jP 21 135 = some (.iinc 2 1) := rfl
set_option maxRecDepth 100000 in
theorem xa201_138 : j_code jP 21 138 = some (.goto (-69)) := rfl
set_option maxRecDepth 100000 in
theorem xa201_141 : j_code jP 21 141 = some (.return_) := rfl
def x_settleWay_l69 (tto : List Int32) (v1 : Int32) : Nat → Int32 → List Int32 → List Int32 → List Int32 → List Int32 × List Int32 × List Int32
  | 0, v2, rid, lon, way => (rid, lon, way)
  | f + 1, v2, rid, lon, way => let way1 := (sA way ((v1 * 7) + v2) (x_wayb (lpN (iMx v2 (gA tto v1)) ((iMn v2 (gA tto v1)) + 1)) ((iMn v2 (gA tto v1)) + 1) 0)); (x_settleWay_l69 tto v1 f (v2 + 1) rid lon way1)
set_option maxRecDepth 1000000 in
theorem xa201_ok_l69 {ns : Int32} {nt : Int32} {cel : Int32} {run : List Int32} {frm : List Int32} {tto : List Int32} {slo : List Int32} {v1 : Int32} {d : Nat} {h0 : J_H} : ∀ (f : Nat) (v2 : Int32) (rid : List Int32) (lon : List Int32) (way : List Int32) {lv : J_L} {h : J_H}, lpN ns v2 = f → LK lv [(0, .ref 327), (1, .int v1), (2, .int v2)] → KN h [(327, .inl (2, [.int ns, .ref 328, .ref 329, .ref 330, .ref 331, .int nt, .ref 332, .ref 333, .ref 334, .ref 335, .ref 336, .ref 337, .ref 338, .int cel, .ref 339, .ref 340, .ref 341, .ref 342])), (329, .inr (.inl (0, run))), (334, .inr (.inl (0, frm))), (335, .inr (.inl (0, tto))), (337, .inr (.inl (0, slo))), (340, .inr (.inl (0, way))), (341, .inr (.inl (0, rid))), (342, .inr (.inl (0, lon)))] h0 → j_V jP d 21 69 lv [] h (fun rv h' => rv = none ∧ KN h' [(327, .inl (2, [.int ns, .ref 328, .ref 329, .ref 330, .ref 331, .int nt, .ref 332, .ref 333, .ref 334, .ref 335, .ref 336, .ref 337, .ref 338, .int cel, .ref 339, .ref 340, .ref 341, .ref 342])), (329, .inr (.inl (0, run))), (334, .inr (.inl (0, frm))), (335, .inr (.inl (0, tto))), (337, .inr (.inl (0, slo))), (340, .inr (.inl (0, (x_settleWay_l69 tto v1 f v2 rid lon way).2.2))), (341, .inr (.inl (0, (x_settleWay_l69 tto v1 f v2 rid lon way).1))), (342, .inr (.inl (0, (x_settleWay_l69 tto v1 f v2 rid lon way).2.1)))] h0) := by
  intro f
  induction f with
  | zero =>
    intro v2 rid lon way lv h e L K
    refine j_V.ldL xa201_M xa201_69 rfl (i := 2) (kd := 0) (v := .int v2) (pcJ := 70) rfl L rfl rfl rfl ?_
    refine j_V.ldL xa201_M xa201_70 rfl (i := 0) (kd := 2) (v := .ref 327) (pcJ := 71) rfl L rfl rfl rfl ?_
    refine j_V.getK xa201_M xa201_71 (ci := 2) (j := 0) rfl K rfl rfl ?_
    refine j_V.icmp xa201_M xa201_74 (t := 141) rfl (fun c74_0 => ?_) (fun c74_0 => ?_)
    · replace c74_0 : ¬ (v2 < ns) := jd_ge c74_0
      refine j_V.ret xa201_M xa201_141 rfl rfl ?_
      rw [show (x_settleWay_l69 tto v1 0 v2 rid lon way) = _ from (rfl)]
      exact ⟨rfl, K⟩
    · replace c74_0 : v2 < ns := jd_gen c74_0
      exact absurd c74_0 (lpN_z e)
  | succ f ih =>
    intro v2 rid lon way lv h e L K
    refine j_V.ldL xa201_M xa201_69 rfl (i := 2) (kd := 0) (v := .int v2) (pcJ := 70) rfl L rfl rfl rfl ?_
    refine j_V.ldL xa201_M xa201_70 rfl (i := 0) (kd := 2) (v := .ref 327) (pcJ := 71) rfl L rfl rfl rfl ?_
    refine j_V.getK xa201_M xa201_71 (ci := 2) (j := 0) rfl K rfl rfl ?_
    refine j_V.icmp xa201_M xa201_74 (t := 141) rfl (fun c74_0 => ?_) (fun c74_0 => ?_)
    · replace c74_0 : ¬ (v2 < ns) := jd_ge c74_0
      exact absurd (lpN_s e) c74_0
    · replace c74_0 : v2 < ns := jd_gen c74_0
      refine j_V.one xa201_M xa201_77 (by decide) (pcJ := 78) (stJ := [.int 0]) rfl ?_
      refine j_V.stL xa201_M xa201_78 rfl (i := 3) (kd := 0) (kl' := [(0, .ref 327), (1, .int v1), (2, .int v2), (3, .int 0)]) (pcJ := 79) rfl L rfl (by decide) rfl rfl rfl (fun lv L => ?_)
      refine j_V.ldL xa201_M xa201_79 rfl (i := 2) (kd := 0) (v := .int v2) (pcJ := 80) rfl L rfl rfl rfl ?_
      refine j_V.ldL xa201_M xa201_80 rfl (i := 0) (kd := 2) (v := .ref 327) (pcJ := 81) rfl L rfl rfl rfl ?_
      refine j_V.getK xa201_M xa201_81 (ci := 2) (j := 9) rfl K rfl rfl ?_
      refine j_V.ldL xa201_M xa201_84 rfl (i := 1) (kd := 0) (v := .int v1) (pcJ := 85) rfl L rfl rfl rfl ?_
      refine j_V.iaA xa201_M xa201_85 K rfl ?_
      refine j_V.mn xa201_M xa201_86 rfl rfl (Nat.le_of_ble_eq_true rfl) ?_
      refine j_V.one xa201_M xa201_89 (by decide) (pcJ := 90) (stJ := [.int 1, .int (iMn v2 (gA tto v1))]) rfl ?_
      refine j_V.one xa201_M xa201_90 (by decide) (pcJ := 91) (stJ := [.int ((iMn v2 (gA tto v1)) + 1)]) rfl ?_
      refine j_V.stL xa201_M xa201_91 rfl (i := 4) (kd := 0) (kl' := [(0, .ref 327), (1, .int v1), (2, .int v2), (3, .int 0), (4, .int ((iMn v2 (gA tto v1)) + 1))]) (pcJ := 93) rfl L rfl (by decide) rfl rfl rfl (fun lv L => ?_)
      refine xasw_in (K.fi [327, 335] rfl rfl) _ ((iMn v2 (gA tto v1)) + 1) 0 rfl L (fun lv L => ?_)
      refine j_V.ldL xa201_M xa201_123 rfl (i := 0) (kd := 2) (v := .ref 327) (pcJ := 124) rfl L rfl rfl rfl ?_
      refine j_V.getK xa201_M xa201_124 (ci := 2) (j := 15) rfl K rfl rfl ?_
      refine j_V.ldL xa201_M xa201_127 rfl (i := 1) (kd := 0) (v := .int v1) (pcJ := 128) rfl L rfl rfl rfl ?_
      refine j_V.one xa201_M xa201_128 (by decide) (pcJ := 130) (stJ := [.int 7, .int v1, .ref 340]) rfl ?_
      refine j_V.one xa201_M xa201_130 (by decide) (pcJ := 131) (stJ := [.int (v1 * 7), .ref 340]) rfl ?_
      refine j_V.ldL xa201_M xa201_131 rfl (i := 2) (kd := 0) (v := .int v2) (pcJ := 132) rfl L rfl rfl rfl ?_
      refine j_V.one xa201_M xa201_132 (by decide) (pcJ := 133) (stJ := [.int ((v1 * 7) + v2), .ref 340]) rfl ?_
      refine j_V.ldL xa201_M xa201_133 rfl (i := 3) (kd := 0) (v := .int (x_wayb (lpN (iMx v2 (gA tto v1)) ((iMn v2 (gA tto v1)) + 1)) ((iMn v2 (gA tto v1)) + 1) 0)) (pcJ := 134) rfl L rfl rfl rfl ?_
      refine j_V.isA xa201_M xa201_134 (k' := [(327, .inl (2, [.int ns, .ref 328, .ref 329, .ref 330, .ref 331, .int nt, .ref 332, .ref 333, .ref 334, .ref 335, .ref 336, .ref 337, .ref 338, .int cel, .ref 339, .ref 340, .ref 341, .ref 342])), (329, .inr (.inl (0, run))), (334, .inr (.inl (0, frm))), (335, .inr (.inl (0, tto))), (337, .inr (.inl (0, slo))), (340, .inr (.inl (0, (sA way ((v1 * 7) + v2) (x_wayb (lpN (iMx v2 (gA tto v1)) ((iMn v2 (gA tto v1)) + 1)) ((iMn v2 (gA tto v1)) + 1) 0))))), (341, .inr (.inl (0, rid))), (342, .inr (.inl (0, lon)))]) K rfl rfl (fun h K => ?_)
      obtain ⟨way1, eway1⟩ : ∃ z, z = (sA way ((v1 * 7) + v2) (x_wayb (lpN (iMx v2 (gA tto v1)) ((iMn v2 (gA tto v1)) + 1)) ((iMn v2 (gA tto v1)) + 1) 0)) := ⟨_, rfl⟩
      rw [← eway1] at K
      refine j_V.inL xa201_M xa201_135 (i := 2) (kl' := [(0, .ref 327), (1, .int v1), (2, .int (v2 + 1)), (3, .int (x_wayb (lpN (iMx v2 (gA tto v1)) ((iMn v2 (gA tto v1)) + 1)) ((iMn v2 (gA tto v1)) + 1) 0))]) (pcJ := 138) L rfl rfl rfl rfl (fun lv L => ?_)
      refine j_V.gto xa201_M xa201_138 (t := 69) rfl ?_
      subst eway1
      rw [show (x_settleWay_l69 tto v1 (f + 1) v2 rid lon way) = _ from (rfl)]
      exact ih _ _ _ _ (lpN_n e) (L.sub ⟨rfl, rfl, rfl, trivial⟩) K
def x_settleWay_l2 (ns : Int32) (run : List Int32) (frm : List Int32) (tto : List Int32) (slo : List Int32) (v1 : Int32) : Nat → Int32 → List Int32 → List Int32 → List Int32 → List Int32 × List Int32 × List Int32
  | 0, v2, rid, lon, way => let lon1 := (sA lon v1 (x_rideTo frm rid v1 (gA tto v1))); (x_settleWay_l69 tto v1 (lpN ns 0) 0 rid lon1 way)
  | f + 1, v2, rid, lon, way => let rid1 := (sA rid ((v1 * 6) + v2) ((((gA run (v2 + 1)) * (2 + (gA slo v1))) + 1) / 2)); (x_settleWay_l2 ns run frm tto slo v1 f (v2 + 1) rid1 lon way)
set_option maxRecDepth 1000000 in
theorem xa201_ok_l2 {ns : Int32} {nt : Int32} {cel : Int32} {run : List Int32} {frm : List Int32} {tto : List Int32} {slo : List Int32} {v1 : Int32} {d : Nat} {h0 : J_H} : ∀ (f : Nat) (v2 : Int32) (rid : List Int32) (lon : List Int32) (way : List Int32) {lv : J_L} {h : J_H}, lpN (ns - 1) v2 = f → LK lv [(0, .ref 327), (1, .int v1), (2, .int v2)] → KN h [(327, .inl (2, [.int ns, .ref 328, .ref 329, .ref 330, .ref 331, .int nt, .ref 332, .ref 333, .ref 334, .ref 335, .ref 336, .ref 337, .ref 338, .int cel, .ref 339, .ref 340, .ref 341, .ref 342])), (329, .inr (.inl (0, run))), (334, .inr (.inl (0, frm))), (335, .inr (.inl (0, tto))), (337, .inr (.inl (0, slo))), (340, .inr (.inl (0, way))), (341, .inr (.inl (0, rid))), (342, .inr (.inl (0, lon)))] h0 → j_V jP d 21 2 lv [] h (fun rv h' => rv = none ∧ KN h' [(327, .inl (2, [.int ns, .ref 328, .ref 329, .ref 330, .ref 331, .int nt, .ref 332, .ref 333, .ref 334, .ref 335, .ref 336, .ref 337, .ref 338, .int cel, .ref 339, .ref 340, .ref 341, .ref 342])), (329, .inr (.inl (0, run))), (334, .inr (.inl (0, frm))), (335, .inr (.inl (0, tto))), (337, .inr (.inl (0, slo))), (340, .inr (.inl (0, (x_settleWay_l2 ns run frm tto slo v1 f v2 rid lon way).2.2))), (341, .inr (.inl (0, (x_settleWay_l2 ns run frm tto slo v1 f v2 rid lon way).1))), (342, .inr (.inl (0, (x_settleWay_l2 ns run frm tto slo v1 f v2 rid lon way).2.1)))] h0) := by
  intro f
  induction f with
  | zero =>
    intro v2 rid lon way lv h e L K
    refine j_V.ldL xa201_M xa201_2 rfl (i := 2) (kd := 0) (v := .int v2) (pcJ := 3) rfl L rfl rfl rfl ?_
    refine j_V.ldL xa201_M xa201_3 rfl (i := 0) (kd := 2) (v := .ref 327) (pcJ := 4) rfl L rfl rfl rfl ?_
    refine j_V.getK xa201_M xa201_4 (ci := 2) (j := 0) rfl K rfl rfl ?_
    refine j_V.one xa201_M xa201_7 (by decide) (pcJ := 8) (stJ := [.int 1, .int ns, .int v2]) rfl ?_
    refine j_V.one xa201_M xa201_8 (by decide) (pcJ := 9) (stJ := [.int (ns - 1), .int v2]) rfl ?_
    refine j_V.icmp xa201_M xa201_9 (t := 50) rfl (fun c9_0 => ?_) (fun c9_0 => ?_)
    · replace c9_0 : ¬ (v2 < (ns - 1)) := jd_ge c9_0
      refine j_V.ldL xa201_M xa201_50 rfl (i := 0) (kd := 2) (v := .ref 327) (pcJ := 51) rfl L rfl rfl rfl ?_
      refine j_V.getK xa201_M xa201_51 (ci := 2) (j := 17) rfl K rfl rfl ?_
      refine j_V.ldL xa201_M xa201_54 rfl (i := 1) (kd := 0) (v := .int v1) (pcJ := 55) rfl L rfl rfl rfl ?_
      refine j_V.ldL xa201_M xa201_55 rfl (i := 0) (kd := 2) (v := .ref 327) (pcJ := 56) rfl L rfl rfl rfl ?_
      refine j_V.ldL xa201_M xa201_56 rfl (i := 1) (kd := 0) (v := .int v1) (pcJ := 57) rfl L rfl rfl rfl ?_
      refine j_V.ldL xa201_M xa201_57 rfl (i := 0) (kd := 2) (v := .ref 327) (pcJ := 58) rfl L rfl rfl rfl ?_
      refine j_V.getK xa201_M xa201_58 (ci := 2) (j := 9) rfl K rfl rfl ?_
      refine j_V.ldL xa201_M xa201_61 rfl (i := 1) (kd := 0) (v := .int v1) (pcJ := 62) rfl L rfl rfl rfl ?_
      refine j_V.iaA xa201_M xa201_62 K rfl ?_
      refine j_V.cl xa201_M xa201_63 rfl (md := 3) (mj := 22) rfl (by decide) xa01_M (As := [.ref 327, .int v1, .int (gA tto v1)]) (rest := [.int v1, .ref 342]) (jk_spl3 (K.at rfl) rfl rfl rfl (Nat.le_of_ble_eq_true rfl) (Nat.le_of_ble_eq_true rfl)) (fun d => xa01_ok (K.fi [327, 334, 341] rfl rfl)) ?_
      rintro r hz ⟨rfl, ez⟩
      rw [ez]
      clear ez
      show j_V jP _ 21 66 lv [.int (x_rideTo frm rid v1 (gA tto v1)), .int v1, .ref 342] h _
      refine j_V.isA xa201_M xa201_66 (k' := [(327, .inl (2, [.int ns, .ref 328, .ref 329, .ref 330, .ref 331, .int nt, .ref 332, .ref 333, .ref 334, .ref 335, .ref 336, .ref 337, .ref 338, .int cel, .ref 339, .ref 340, .ref 341, .ref 342])), (329, .inr (.inl (0, run))), (334, .inr (.inl (0, frm))), (335, .inr (.inl (0, tto))), (337, .inr (.inl (0, slo))), (340, .inr (.inl (0, way))), (341, .inr (.inl (0, rid))), (342, .inr (.inl (0, (sA lon v1 (x_rideTo frm rid v1 (gA tto v1))))))]) K rfl rfl (fun h K => ?_)
      obtain ⟨lon1, elon1⟩ : ∃ z, z = (sA lon v1 (x_rideTo frm rid v1 (gA tto v1))) := ⟨_, rfl⟩
      rw [← elon1] at K
      refine j_V.one xa201_M xa201_67 (by decide) (pcJ := 68) (stJ := [.int 0]) rfl ?_
      refine j_V.stL xa201_M xa201_68 rfl (i := 2) (kd := 0) (kl' := [(0, .ref 327), (1, .int v1), (2, .int 0)]) (pcJ := 69) rfl L rfl (by decide) rfl rfl rfl (fun lv L => ?_)
      subst elon1
      rw [show (x_settleWay_l2 ns run frm tto slo v1 0 v2 rid lon way) = _ from (rfl)]
      exact xa201_ok_l69 _ _ _ _ _ rfl L K
    · replace c9_0 : v2 < (ns - 1) := jd_gen c9_0
      exact absurd c9_0 (lpN_z e)
  | succ f ih =>
    intro v2 rid lon way lv h e L K
    refine j_V.ldL xa201_M xa201_2 rfl (i := 2) (kd := 0) (v := .int v2) (pcJ := 3) rfl L rfl rfl rfl ?_
    refine j_V.ldL xa201_M xa201_3 rfl (i := 0) (kd := 2) (v := .ref 327) (pcJ := 4) rfl L rfl rfl rfl ?_
    refine j_V.getK xa201_M xa201_4 (ci := 2) (j := 0) rfl K rfl rfl ?_
    refine j_V.one xa201_M xa201_7 (by decide) (pcJ := 8) (stJ := [.int 1, .int ns, .int v2]) rfl ?_
    refine j_V.one xa201_M xa201_8 (by decide) (pcJ := 9) (stJ := [.int (ns - 1), .int v2]) rfl ?_
    refine j_V.icmp xa201_M xa201_9 (t := 50) rfl (fun c9_0 => ?_) (fun c9_0 => ?_)
    · replace c9_0 : ¬ (v2 < (ns - 1)) := jd_ge c9_0
      exact absurd (lpN_s e) c9_0
    · replace c9_0 : v2 < (ns - 1) := jd_gen c9_0
      refine j_V.ldL xa201_M xa201_12 rfl (i := 0) (kd := 2) (v := .ref 327) (pcJ := 13) rfl L rfl rfl rfl ?_
      refine j_V.getK xa201_M xa201_13 (ci := 2) (j := 16) rfl K rfl rfl ?_
      refine j_V.ldL xa201_M xa201_16 rfl (i := 1) (kd := 0) (v := .int v1) (pcJ := 17) rfl L rfl rfl rfl ?_
      refine j_V.one xa201_M xa201_17 (by decide) (pcJ := 19) (stJ := [.int 6, .int v1, .ref 341]) rfl ?_
      refine j_V.one xa201_M xa201_19 (by decide) (pcJ := 20) (stJ := [.int (v1 * 6), .ref 341]) rfl ?_
      refine j_V.ldL xa201_M xa201_20 rfl (i := 2) (kd := 0) (v := .int v2) (pcJ := 21) rfl L rfl rfl rfl ?_
      refine j_V.one xa201_M xa201_21 (by decide) (pcJ := 22) (stJ := [.int ((v1 * 6) + v2), .ref 341]) rfl ?_
      refine j_V.ldL xa201_M xa201_22 rfl (i := 0) (kd := 2) (v := .ref 327) (pcJ := 23) rfl L rfl rfl rfl ?_
      refine j_V.getK xa201_M xa201_23 (ci := 2) (j := 2) rfl K rfl rfl ?_
      refine j_V.ldL xa201_M xa201_26 rfl (i := 2) (kd := 0) (v := .int v2) (pcJ := 27) rfl L rfl rfl rfl ?_
      refine j_V.one xa201_M xa201_27 (by decide) (pcJ := 28) (stJ := [.int 1, .int v2, .ref 329, .int ((v1 * 6) + v2), .ref 341]) rfl ?_
      refine j_V.one xa201_M xa201_28 (by decide) (pcJ := 29) (stJ := [.int (v2 + 1), .ref 329, .int ((v1 * 6) + v2), .ref 341]) rfl ?_
      refine j_V.iaA xa201_M xa201_29 K rfl ?_
      refine j_V.one xa201_M xa201_30 (by decide) (pcJ := 31) (stJ := [.int 2, .int (gA run (v2 + 1)), .int ((v1 * 6) + v2), .ref 341]) rfl ?_
      refine j_V.ldL xa201_M xa201_31 rfl (i := 0) (kd := 2) (v := .ref 327) (pcJ := 32) rfl L rfl rfl rfl ?_
      refine j_V.getK xa201_M xa201_32 (ci := 2) (j := 11) rfl K rfl rfl ?_
      refine j_V.ldL xa201_M xa201_35 rfl (i := 1) (kd := 0) (v := .int v1) (pcJ := 36) rfl L rfl rfl rfl ?_
      refine j_V.iaA xa201_M xa201_36 K rfl ?_
      refine j_V.one xa201_M xa201_37 (by decide) (pcJ := 38) (stJ := [.int (2 + (gA slo v1)), .int (gA run (v2 + 1)), .int ((v1 * 6) + v2), .ref 341]) rfl ?_
      refine j_V.one xa201_M xa201_38 (by decide) (pcJ := 39) (stJ := [.int ((gA run (v2 + 1)) * (2 + (gA slo v1))), .int ((v1 * 6) + v2), .ref 341]) rfl ?_
      refine j_V.one xa201_M xa201_39 (by decide) (pcJ := 40) (stJ := [.int 1, .int ((gA run (v2 + 1)) * (2 + (gA slo v1))), .int ((v1 * 6) + v2), .ref 341]) rfl ?_
      refine j_V.one xa201_M xa201_40 (by decide) (pcJ := 41) (stJ := [.int (((gA run (v2 + 1)) * (2 + (gA slo v1))) + 1), .int ((v1 * 6) + v2), .ref 341]) rfl ?_
      refine j_V.one xa201_M xa201_41 (by decide) (pcJ := 42) (stJ := [.int 2, .int (((gA run (v2 + 1)) * (2 + (gA slo v1))) + 1), .int ((v1 * 6) + v2), .ref 341]) rfl ?_
      refine j_V.one xa201_M xa201_42 (by decide) (pcJ := 43) (stJ := [.int ((((gA run (v2 + 1)) * (2 + (gA slo v1))) + 1) / 2), .int ((v1 * 6) + v2), .ref 341]) rfl ?_
      refine j_V.isA xa201_M xa201_43 (k' := [(327, .inl (2, [.int ns, .ref 328, .ref 329, .ref 330, .ref 331, .int nt, .ref 332, .ref 333, .ref 334, .ref 335, .ref 336, .ref 337, .ref 338, .int cel, .ref 339, .ref 340, .ref 341, .ref 342])), (329, .inr (.inl (0, run))), (334, .inr (.inl (0, frm))), (335, .inr (.inl (0, tto))), (337, .inr (.inl (0, slo))), (340, .inr (.inl (0, way))), (341, .inr (.inl (0, (sA rid ((v1 * 6) + v2) ((((gA run (v2 + 1)) * (2 + (gA slo v1))) + 1) / 2))))), (342, .inr (.inl (0, lon)))]) K rfl rfl (fun h K => ?_)
      obtain ⟨rid1, erid1⟩ : ∃ z, z = (sA rid ((v1 * 6) + v2) ((((gA run (v2 + 1)) * (2 + (gA slo v1))) + 1) / 2)) := ⟨_, rfl⟩
      rw [← erid1] at K
      refine j_V.inL xa201_M xa201_44 (i := 2) (kl' := [(0, .ref 327), (1, .int v1), (2, .int (v2 + 1))]) (pcJ := 47) L rfl rfl rfl rfl (fun lv L => ?_)
      refine j_V.gto xa201_M xa201_47 (t := 2) rfl ?_
      subst erid1
      rw [show (x_settleWay_l2 ns run frm tto slo v1 (f + 1) v2 rid lon way) = _ from (rfl)]
      exact ih _ _ _ _ (lpN_n e) L K
def x_settleWay (ns : Int32) (run : List Int32) (frm : List Int32) (tto : List Int32) (slo : List Int32) (way : List Int32) (rid : List Int32) (lon : List Int32) (x1 : Int32) : List Int32 × List Int32 × List Int32 := (x_settleWay_l2 ns run frm tto slo x1 (lpN (ns - 1) 0) 0 rid lon way)
set_option maxRecDepth 1000000 in
theorem xa201_ok {ns : Int32} {nt : Int32} {cel : Int32} {run : List Int32} {frm : List Int32} {tto : List Int32} {slo : List Int32} {way : List Int32} {rid : List Int32} {lon : List Int32} {x1 : Int32} {d : Nat} {h h0 : J_H} (K : KN h [(327, .inl (2, [.int ns, .ref 328, .ref 329, .ref 330, .ref 331, .int nt, .ref 332, .ref 333, .ref 334, .ref 335, .ref 336, .ref 337, .ref 338, .int cel, .ref 339, .ref 340, .ref 341, .ref 342])), (329, .inr (.inl (0, run))), (334, .inr (.inl (0, frm))), (335, .inr (.inl (0, tto))), (337, .inr (.inl (0, slo))), (340, .inr (.inl (0, way))), (341, .inr (.inl (0, rid))), (342, .inr (.inl (0, lon)))] h0) : j_V jP d 21 0 (lv_args 0 [.ref 327, .int x1]) [] h (fun rv h' => rv = none ∧ KN h' [(327, .inl (2, [.int ns, .ref 328, .ref 329, .ref 330, .ref 331, .int nt, .ref 332, .ref 333, .ref 334, .ref 335, .ref 336, .ref 337, .ref 338, .int cel, .ref 339, .ref 340, .ref 341, .ref 342])), (329, .inr (.inl (0, run))), (334, .inr (.inl (0, frm))), (335, .inr (.inl (0, tto))), (337, .inr (.inl (0, slo))), (340, .inr (.inl (0, (x_settleWay ns run frm tto slo way rid lon x1).2.2))), (341, .inr (.inl (0, (x_settleWay ns run frm tto slo way rid lon x1).1))), (342, .inr (.inl (0, (x_settleWay ns run frm tto slo way rid lon x1).2.1)))] h0) := by
  show j_V jP d 21 0 [(0, .ref 327), (1, .int x1)] [] h _
  obtain ⟨lv, elv, L⟩ : ∃ lv, lv = [(0, .ref 327), (1, .int x1)] ∧ LK lv [(0, .ref 327), (1, .int x1)] := ⟨_, rfl, LK.rf⟩
  rw [← elv]
  clear elv
  refine j_V.one xa201_M xa201_0 (by decide) (pcJ := 1) (stJ := [.int 0]) rfl ?_
  refine j_V.stL xa201_M xa201_1 rfl (i := 2) (kd := 0) (kl' := [(0, .ref 327), (1, .int x1), (2, .int 0)]) (pcJ := 2) rfl L rfl (by decide) rfl rfl rfl (fun lv L => ?_)
  rw [show (x_settleWay ns run frm tto slo way rid lon x1) = _ from (rfl)]
  exact xa201_ok_l2 _ _ _ _ _ rfl L K
set_option maxRecDepth 100000 in
theorem xa202_M : j_meth jP 19 = some (yX2_settle, cX2_settle, 2, none, 0, false, 2) := rfl
set_option maxRecDepth 100000 in
theorem xa202_0 : j_code jP 19 0 = some (.aload_n 0) := rfl
set_option maxRecDepth 100000 in
theorem xa202_1 : j_code jP 19 1 = some (.iconst 0) := rfl
set_option maxRecDepth 100000 in
theorem xa202_2 : j_code jP 19 2 = some (.putfield 65) := rfl
set_option maxRecDepth 100000 in
theorem xa202_5 : j_code jP 19 5 = some (.iconst 0) := rfl
set_option maxRecDepth 100000 in
theorem xa202_6 : j_code jP 19 6 = some (.istore_n 1) := rfl
set_option maxRecDepth 100000 in
theorem xa202_7 : j_code jP 19 7 = some (.iload_n 1) := rfl
set_option maxRecDepth 100000 in
theorem xa202_8 : j_code jP 19 8 = some (.aload_n 0) := rfl
set_option maxRecDepth 100000 in
theorem xa202_9 : j_code jP 19 9 = some (.getfield 58) := rfl
set_option maxRecDepth 100000 in
theorem xa202_12 : j_code jP 19 12 = some (.if_icmp .ge 23) := rfl
set_option maxRecDepth 100000 in
theorem xa202_15 : j_code jP 19 15 = some (.aload_n 0) := rfl
set_option maxRecDepth 100000 in
theorem xa202_16 : j_code jP 19 16 = some (.dup) := rfl
set_option maxRecDepth 100000 in
theorem xa202_17 : j_code jP 19 17 = some (.getfield 65) := rfl
set_option maxRecDepth 100000 in
theorem xa202_20 : j_code jP 19 20 = some (.aload_n 0) := rfl
set_option maxRecDepth 100000 in
theorem xa202_21 : j_code jP 19 21 = some (.iload_n 1) := rfl
set_option maxRecDepth 100000 in
theorem xa202_22 : j_code jP 19 22 = some (.invokevirtual 68) := rfl
set_option maxRecDepth 100000 in
theorem xa202_25 : j_code jP 19 25 = some (.ior) := rfl
set_option maxRecDepth 100000 in
theorem xa202_26 : j_code jP 19 26 = some (.putfield 65) := rfl
set_option maxRecDepth 100000 in
theorem xa202_29 : j_code jP 19 29 = some (.iinc 1 1) := rfl
set_option maxRecDepth 100000 in
theorem xa202_32 : j_code jP 19 32 = some (.goto (-25)) := rfl
set_option maxRecDepth 100000 in
theorem xa202_35 : j_code jP 19 35 = some (.iconst 0) := rfl
set_option maxRecDepth 100000 in
theorem xa202_36 : j_code jP 19 36 = some (.istore_n 1) := rfl
set_option maxRecDepth 100000 in
theorem xa202_37 : j_code jP 19 37 = some (.iload_n 1) := rfl
set_option maxRecDepth 100000 in
theorem xa202_38 : j_code jP 19 38 = some (.aload_n 0) := rfl
set_option maxRecDepth 100000 in
theorem xa202_39 : j_code jP 19 39 = some (.getfield 62) := rfl
set_option maxRecDepth 100000 in
theorem xa202_42 : j_code jP 19 42 = some (.if_icmp .ge 19) := rfl
set_option maxRecDepth 100000 in
theorem xa202_45 : j_code jP 19 45 = some (.aload_n 0) := rfl
set_option maxRecDepth 100000 in
theorem xa202_46 : j_code jP 19 46 = some (.iload_n 1) := rfl
set_option maxRecDepth 100000 in
theorem xa202_47 : j_code jP 19 47 = some (.invokevirtual 72) := rfl
set_option maxRecDepth 100000 in
theorem xa202_50 : j_code jP 19 50 = some (.aload_n 0) := rfl
set_option maxRecDepth 100000 in
theorem xa202_51 : j_code jP 19 51 = some (.iload_n 1) := rfl
set_option maxRecDepth 100000 in
theorem xa202_52 : j_code jP 19 52 = some (.invokevirtual 76) := rfl
set_option maxRecDepth 100000 in
theorem xa202_55 : j_code jP 19 55 = some (.iinc 1 1) := rfl
set_option maxRecDepth 100000 in
theorem xa202_58 : j_code jP 19 58 = some (.goto (-21)) := rfl
set_option maxRecDepth 100000 in
theorem xa202_61 : j_code jP 19 61 = some (.return_) := rfl
def x_settle_l37 (ns : Int32) (run : List Int32) (len : List Int32) (siz : List Int32) (frm : List Int32) (tto : List Int32) (slo : List Int32) : Nat → Int32 → Int32 → List Int32 → List Int32 → List Int32 → List Int32 → Int32 × List Int32 × List Int32 × List Int32 × List Int32
  | 0, v1, cel, fit, rid, lon, way => (cel, fit, rid, lon, way)
  | f + 1, v1, cel, fit, rid, lon, way => let z1 := (x_settleFit cel len siz fit v1); let z2 := (x_settleWay ns run frm tto slo way rid lon v1); (x_settle_l37 ns run len siz frm tto slo f (v1 + 1) cel (z1) (z2.1) (z2.2.1) (z2.2.2))
set_option maxRecDepth 1000000 in
theorem xa202_ok_l37 {ns : Int32} {nt : Int32} {run : List Int32} {tra : List Int32} {len : List Int32} {siz : List Int32} {frm : List Int32} {tto : List Int32} {slo : List Int32} {d : Nat} {h0 : J_H} : ∀ (f : Nat) (v1 : Int32) (cel : Int32) (fit : List Int32) (rid : List Int32) (lon : List Int32) (way : List Int32) {lv : J_L} {h : J_H}, lpN nt v1 = f → LK lv [(0, .ref 327), (1, .int v1)] → KN h [(327, .inl (2, [.int ns, .ref 328, .ref 329, .ref 330, .ref 331, .int nt, .ref 332, .ref 333, .ref 334, .ref 335, .ref 336, .ref 337, .ref 338, .int cel, .ref 339, .ref 340, .ref 341, .ref 342])), (329, .inr (.inl (0, run))), (330, .inr (.inl (0, tra))), (331, .inr (.inl (0, len))), (333, .inr (.inl (0, siz))), (334, .inr (.inl (0, frm))), (335, .inr (.inl (0, tto))), (337, .inr (.inl (0, slo))), (339, .inr (.inl (0, fit))), (340, .inr (.inl (0, way))), (341, .inr (.inl (0, rid))), (342, .inr (.inl (0, lon)))] h0 → j_V jP d 19 37 lv [] h (fun rv h' => rv = none ∧ KN h' [(327, .inl (2, [.int ns, .ref 328, .ref 329, .ref 330, .ref 331, .int nt, .ref 332, .ref 333, .ref 334, .ref 335, .ref 336, .ref 337, .ref 338, .int (x_settle_l37 ns run len siz frm tto slo f v1 cel fit rid lon way).1, .ref 339, .ref 340, .ref 341, .ref 342])), (329, .inr (.inl (0, run))), (330, .inr (.inl (0, tra))), (331, .inr (.inl (0, len))), (333, .inr (.inl (0, siz))), (334, .inr (.inl (0, frm))), (335, .inr (.inl (0, tto))), (337, .inr (.inl (0, slo))), (339, .inr (.inl (0, (x_settle_l37 ns run len siz frm tto slo f v1 cel fit rid lon way).2.1))), (340, .inr (.inl (0, (x_settle_l37 ns run len siz frm tto slo f v1 cel fit rid lon way).2.2.2.2))), (341, .inr (.inl (0, (x_settle_l37 ns run len siz frm tto slo f v1 cel fit rid lon way).2.2.1))), (342, .inr (.inl (0, (x_settle_l37 ns run len siz frm tto slo f v1 cel fit rid lon way).2.2.2.1)))] h0) := by
  intro f
  induction f with
  | zero =>
    intro v1 cel fit rid lon way lv h e L K
    refine j_V.ldL xa202_M xa202_37 rfl (i := 1) (kd := 0) (v := .int v1) (pcJ := 38) rfl L rfl rfl rfl ?_
    refine j_V.ldL xa202_M xa202_38 rfl (i := 0) (kd := 2) (v := .ref 327) (pcJ := 39) rfl L rfl rfl rfl ?_
    refine j_V.getK xa202_M xa202_39 (ci := 2) (j := 5) rfl K rfl rfl ?_
    refine j_V.icmp xa202_M xa202_42 (t := 61) rfl (fun c42_0 => ?_) (fun c42_0 => ?_)
    · replace c42_0 : ¬ (v1 < nt) := jd_ge c42_0
      refine j_V.ret xa202_M xa202_61 rfl rfl ?_
      rw [show (x_settle_l37 ns run len siz frm tto slo 0 v1 cel fit rid lon way) = _ from (rfl)]
      exact ⟨rfl, K⟩
    · replace c42_0 : v1 < nt := jd_gen c42_0
      exact absurd c42_0 (lpN_z e)
  | succ f ih =>
    intro v1 cel fit rid lon way lv h e L K
    refine j_V.ldL xa202_M xa202_37 rfl (i := 1) (kd := 0) (v := .int v1) (pcJ := 38) rfl L rfl rfl rfl ?_
    refine j_V.ldL xa202_M xa202_38 rfl (i := 0) (kd := 2) (v := .ref 327) (pcJ := 39) rfl L rfl rfl rfl ?_
    refine j_V.getK xa202_M xa202_39 (ci := 2) (j := 5) rfl K rfl rfl ?_
    refine j_V.icmp xa202_M xa202_42 (t := 61) rfl (fun c42_0 => ?_) (fun c42_0 => ?_)
    · replace c42_0 : ¬ (v1 < nt) := jd_ge c42_0
      exact absurd (lpN_s e) c42_0
    · replace c42_0 : v1 < nt := jd_gen c42_0
      refine j_V.ldL xa202_M xa202_45 rfl (i := 0) (kd := 2) (v := .ref 327) (pcJ := 46) rfl L rfl rfl rfl ?_
      refine j_V.ldL xa202_M xa202_46 rfl (i := 1) (kd := 0) (v := .int v1) (pcJ := 47) rfl L rfl rfl rfl ?_
      refine j_V.cl xa202_M xa202_47 rfl (md := 3) (mj := 20) rfl (by decide) xa200_M (As := [.ref 327, .int v1]) (rest := []) (jk_spl3 (K.at rfl) rfl rfl rfl (Nat.le_of_ble_eq_true rfl) (Nat.le_of_ble_eq_true rfl)) (fun d => xa200_ok (K.fi [327, 331, 333, 339] rfl rfl)) ?_
      rintro r h9 ⟨rfl, K9⟩
      generalize ez1 : (x_settleFit cel len siz fit v1) = z1 at K9 ⊢
      have K : KN h9 [(327, .inl (2, [.int ns, .ref 328, .ref 329, .ref 330, .ref 331, .int nt, .ref 332, .ref 333, .ref 334, .ref 335, .ref 336, .ref 337, .ref 338, .int cel, .ref 339, .ref 340, .ref 341, .ref 342])), (329, .inr (.inl (0, run))), (330, .inr (.inl (0, tra))), (331, .inr (.inl (0, len))), (333, .inr (.inl (0, siz))), (334, .inr (.inl (0, frm))), (335, .inr (.inl (0, tto))), (337, .inr (.inl (0, slo))), (339, .inr (.inl (0, (z1)))), (340, .inr (.inl (0, way))), (341, .inr (.inl (0, rid))), (342, .inr (.inl (0, lon)))] h0 := K.mg K9 rfl rfl
      clear K9
      show j_V jP _ 19 50 lv [] h9 _
      refine j_V.ldL xa202_M xa202_50 rfl (i := 0) (kd := 2) (v := .ref 327) (pcJ := 51) rfl L rfl rfl rfl ?_
      refine j_V.ldL xa202_M xa202_51 rfl (i := 1) (kd := 0) (v := .int v1) (pcJ := 52) rfl L rfl rfl rfl ?_
      refine j_V.cl xa202_M xa202_52 rfl (md := 3) (mj := 21) rfl (by decide) xa201_M (As := [.ref 327, .int v1]) (rest := []) (jk_spl3 (K.at rfl) rfl rfl rfl (Nat.le_of_ble_eq_true rfl) (Nat.le_of_ble_eq_true rfl)) (fun d => xa201_ok (K.fi [327, 329, 334, 335, 337, 340, 341, 342] rfl rfl)) ?_
      rintro r h9 ⟨rfl, K9⟩
      generalize ez2 : (x_settleWay ns run frm tto slo way rid lon v1) = z2 at K9 ⊢
      have K : KN h9 [(327, .inl (2, [.int ns, .ref 328, .ref 329, .ref 330, .ref 331, .int nt, .ref 332, .ref 333, .ref 334, .ref 335, .ref 336, .ref 337, .ref 338, .int cel, .ref 339, .ref 340, .ref 341, .ref 342])), (329, .inr (.inl (0, run))), (330, .inr (.inl (0, tra))), (331, .inr (.inl (0, len))), (333, .inr (.inl (0, siz))), (334, .inr (.inl (0, frm))), (335, .inr (.inl (0, tto))), (337, .inr (.inl (0, slo))), (339, .inr (.inl (0, (z1)))), (340, .inr (.inl (0, (z2.2.2)))), (341, .inr (.inl (0, (z2.1)))), (342, .inr (.inl (0, (z2.2.1))))] h0 := K.mg K9 rfl rfl
      clear K9
      show j_V jP _ 19 55 lv [] h9 _
      refine j_V.inL xa202_M xa202_55 (i := 1) (kl' := [(0, .ref 327), (1, .int (v1 + 1))]) (pcJ := 58) L rfl rfl rfl rfl (fun lv L => ?_)
      refine j_V.gto xa202_M xa202_58 (t := 37) rfl ?_
      subst ez2
      subst ez1
      rw [show (x_settle_l37 ns run len siz frm tto slo (f + 1) v1 cel fit rid lon way) = _ from (rfl)]
      exact ih _ _ _ _ _ _ (lpN_n e) L K
def x_settle_l7 (ns : Int32) (nt : Int32) (run : List Int32) (tra : List Int32) (len : List Int32) (siz : List Int32) (frm : List Int32) (tto : List Int32) (slo : List Int32) : Nat → Int32 → Int32 → List Int32 → List Int32 → List Int32 → List Int32 → Int32 × List Int32 × List Int32 × List Int32 × List Int32
  | 0, v1, cel, fit, rid, lon, way => (x_settle_l37 ns run len siz frm tto slo (lpN nt 0) 0 cel fit rid lon way)
  | f + 1, v1, cel, fit, rid, lon, way => let cel1 := (cel ||| (x_cellsOf tra v1)); (x_settle_l7 ns nt run tra len siz frm tto slo f (v1 + 1) cel1 fit rid lon way)
set_option maxRecDepth 1000000 in
theorem xa202_ok_l7 {ns : Int32} {nt : Int32} {run : List Int32} {tra : List Int32} {len : List Int32} {siz : List Int32} {frm : List Int32} {tto : List Int32} {slo : List Int32} {d : Nat} {h0 : J_H} : ∀ (f : Nat) (v1 : Int32) (cel : Int32) (fit : List Int32) (rid : List Int32) (lon : List Int32) (way : List Int32) {lv : J_L} {h : J_H}, lpN ns v1 = f → LK lv [(0, .ref 327), (1, .int v1)] → KN h [(327, .inl (2, [.int ns, .ref 328, .ref 329, .ref 330, .ref 331, .int nt, .ref 332, .ref 333, .ref 334, .ref 335, .ref 336, .ref 337, .ref 338, .int cel, .ref 339, .ref 340, .ref 341, .ref 342])), (329, .inr (.inl (0, run))), (330, .inr (.inl (0, tra))), (331, .inr (.inl (0, len))), (333, .inr (.inl (0, siz))), (334, .inr (.inl (0, frm))), (335, .inr (.inl (0, tto))), (337, .inr (.inl (0, slo))), (339, .inr (.inl (0, fit))), (340, .inr (.inl (0, way))), (341, .inr (.inl (0, rid))), (342, .inr (.inl (0, lon)))] h0 → j_V jP d 19 7 lv [] h (fun rv h' => rv = none ∧ KN h' [(327, .inl (2, [.int ns, .ref 328, .ref 329, .ref 330, .ref 331, .int nt, .ref 332, .ref 333, .ref 334, .ref 335, .ref 336, .ref 337, .ref 338, .int (x_settle_l7 ns nt run tra len siz frm tto slo f v1 cel fit rid lon way).1, .ref 339, .ref 340, .ref 341, .ref 342])), (329, .inr (.inl (0, run))), (330, .inr (.inl (0, tra))), (331, .inr (.inl (0, len))), (333, .inr (.inl (0, siz))), (334, .inr (.inl (0, frm))), (335, .inr (.inl (0, tto))), (337, .inr (.inl (0, slo))), (339, .inr (.inl (0, (x_settle_l7 ns nt run tra len siz frm tto slo f v1 cel fit rid lon way).2.1))), (340, .inr (.inl (0, (x_settle_l7 ns nt run tra len siz frm tto slo f v1 cel fit rid lon way).2.2.2.2))), (341, .inr (.inl (0, (x_settle_l7 ns nt run tra len siz frm tto slo f v1 cel fit rid lon way).2.2.1))), (342, .inr (.inl (0, (x_settle_l7 ns nt run tra len siz frm tto slo f v1 cel fit rid lon way).2.2.2.1)))] h0) := by
  intro f
  induction f with
  | zero =>
    intro v1 cel fit rid lon way lv h e L K
    refine j_V.ldL xa202_M xa202_7 rfl (i := 1) (kd := 0) (v := .int v1) (pcJ := 8) rfl L rfl rfl rfl ?_
    refine j_V.ldL xa202_M xa202_8 rfl (i := 0) (kd := 2) (v := .ref 327) (pcJ := 9) rfl L rfl rfl rfl ?_
    refine j_V.getK xa202_M xa202_9 (ci := 2) (j := 0) rfl K rfl rfl ?_
    refine j_V.icmp xa202_M xa202_12 (t := 35) rfl (fun c12_0 => ?_) (fun c12_0 => ?_)
    · replace c12_0 : ¬ (v1 < ns) := jd_ge c12_0
      refine j_V.one xa202_M xa202_35 (by decide) (pcJ := 36) (stJ := [.int 0]) rfl ?_
      refine j_V.stL xa202_M xa202_36 rfl (i := 1) (kd := 0) (kl' := [(0, .ref 327), (1, .int 0)]) (pcJ := 37) rfl L rfl (by decide) rfl rfl rfl (fun lv L => ?_)
      rw [show (x_settle_l7 ns nt run tra len siz frm tto slo 0 v1 cel fit rid lon way) = _ from (rfl)]
      exact xa202_ok_l37 _ _ _ _ _ _ _ rfl L K
    · replace c12_0 : v1 < ns := jd_gen c12_0
      exact absurd c12_0 (lpN_z e)
  | succ f ih =>
    intro v1 cel fit rid lon way lv h e L K
    refine j_V.ldL xa202_M xa202_7 rfl (i := 1) (kd := 0) (v := .int v1) (pcJ := 8) rfl L rfl rfl rfl ?_
    refine j_V.ldL xa202_M xa202_8 rfl (i := 0) (kd := 2) (v := .ref 327) (pcJ := 9) rfl L rfl rfl rfl ?_
    refine j_V.getK xa202_M xa202_9 (ci := 2) (j := 0) rfl K rfl rfl ?_
    refine j_V.icmp xa202_M xa202_12 (t := 35) rfl (fun c12_0 => ?_) (fun c12_0 => ?_)
    · replace c12_0 : ¬ (v1 < ns) := jd_ge c12_0
      exact absurd (lpN_s e) c12_0
    · replace c12_0 : v1 < ns := jd_gen c12_0
      refine j_V.ldL xa202_M xa202_15 rfl (i := 0) (kd := 2) (v := .ref 327) (pcJ := 16) rfl L rfl rfl rfl ?_
      refine j_V.one xa202_M xa202_16 (by decide) (pcJ := 17) (stJ := [.ref 327, .ref 327]) rfl ?_
      refine j_V.getK xa202_M xa202_17 (ci := 2) (j := 13) rfl K rfl rfl ?_
      refine j_V.ldL xa202_M xa202_20 rfl (i := 0) (kd := 2) (v := .ref 327) (pcJ := 21) rfl L rfl rfl rfl ?_
      refine j_V.ldL xa202_M xa202_21 rfl (i := 1) (kd := 0) (v := .int v1) (pcJ := 22) rfl L rfl rfl rfl ?_
      refine j_V.cl xa202_M xa202_22 rfl (md := 3) (mj := 23) rfl (by decide) xa00_M (As := [.ref 327, .int v1]) (rest := [.int cel, .ref 327]) (jk_spl3 (K.at rfl) rfl rfl rfl (Nat.le_of_ble_eq_true rfl) (Nat.le_of_ble_eq_true rfl)) (fun d => xa00_ok (K.fi [327, 330] rfl rfl)) ?_
      rintro r hz ⟨rfl, ez⟩
      rw [ez]
      clear ez
      show j_V jP _ 19 25 lv [.int (x_cellsOf tra v1), .int cel, .ref 327] h _
      refine j_V.one xa202_M xa202_25 (by decide) (pcJ := 26) (stJ := [.int (cel ||| (x_cellsOf tra v1)), .ref 327]) rfl ?_
      refine j_V.putK xa202_M xa202_26 (ci := 2) (j := 13) (k' := [(327, .inl (2, [.int ns, .ref 328, .ref 329, .ref 330, .ref 331, .int nt, .ref 332, .ref 333, .ref 334, .ref 335, .ref 336, .ref 337, .ref 338, .int (cel ||| (x_cellsOf tra v1)), .ref 339, .ref 340, .ref 341, .ref 342])), (329, .inr (.inl (0, run))), (330, .inr (.inl (0, tra))), (331, .inr (.inl (0, len))), (333, .inr (.inl (0, siz))), (334, .inr (.inl (0, frm))), (335, .inr (.inl (0, tto))), (337, .inr (.inl (0, slo))), (339, .inr (.inl (0, fit))), (340, .inr (.inl (0, way))), (341, .inr (.inl (0, rid))), (342, .inr (.inl (0, lon)))]) rfl K rfl (Nat.le_of_ble_eq_true rfl) rfl (Or.inl rfl) rfl rfl (fun h K => ?_)
      obtain ⟨cel1, ecel1⟩ : ∃ z, z = (cel ||| (x_cellsOf tra v1)) := ⟨_, rfl⟩
      rw [← ecel1] at K
      refine j_V.inL xa202_M xa202_29 (i := 1) (kl' := [(0, .ref 327), (1, .int (v1 + 1))]) (pcJ := 32) L rfl rfl rfl rfl (fun lv L => ?_)
      refine j_V.gto xa202_M xa202_32 (t := 7) rfl ?_
      subst ecel1
      rw [show (x_settle_l7 ns nt run tra len siz frm tto slo (f + 1) v1 cel fit rid lon way) = _ from (rfl)]
      exact ih _ _ _ _ _ _ (lpN_n e) L K
def x_settle (ns : Int32) (nt : Int32) (run : List Int32) (tra : List Int32) (len : List Int32) (siz : List Int32) (frm : List Int32) (tto : List Int32) (slo : List Int32) (fit : List Int32) (way : List Int32) (rid : List Int32) (lon : List Int32) (cel : Int32) : Int32 × List Int32 × List Int32 × List Int32 × List Int32 := (x_settle_l7 ns nt run tra len siz frm tto slo (lpN ns 0) 0 0 fit rid lon way)
set_option maxRecDepth 1000000 in
theorem xa202_ok {ns : Int32} {nt : Int32} {cel : Int32} {run : List Int32} {tra : List Int32} {len : List Int32} {siz : List Int32} {frm : List Int32} {tto : List Int32} {slo : List Int32} {fit : List Int32} {way : List Int32} {rid : List Int32} {lon : List Int32} {d : Nat} {h h0 : J_H} (K : KN h [(327, .inl (2, [.int ns, .ref 328, .ref 329, .ref 330, .ref 331, .int nt, .ref 332, .ref 333, .ref 334, .ref 335, .ref 336, .ref 337, .ref 338, .int cel, .ref 339, .ref 340, .ref 341, .ref 342])), (329, .inr (.inl (0, run))), (330, .inr (.inl (0, tra))), (331, .inr (.inl (0, len))), (333, .inr (.inl (0, siz))), (334, .inr (.inl (0, frm))), (335, .inr (.inl (0, tto))), (337, .inr (.inl (0, slo))), (339, .inr (.inl (0, fit))), (340, .inr (.inl (0, way))), (341, .inr (.inl (0, rid))), (342, .inr (.inl (0, lon)))] h0) : j_V jP d 19 0 (lv_args 0 [.ref 327]) [] h (fun rv h' => rv = none ∧ KN h' [(327, .inl (2, [.int ns, .ref 328, .ref 329, .ref 330, .ref 331, .int nt, .ref 332, .ref 333, .ref 334, .ref 335, .ref 336, .ref 337, .ref 338, .int (x_settle ns nt run tra len siz frm tto slo fit way rid lon cel).1, .ref 339, .ref 340, .ref 341, .ref 342])), (329, .inr (.inl (0, run))), (330, .inr (.inl (0, tra))), (331, .inr (.inl (0, len))), (333, .inr (.inl (0, siz))), (334, .inr (.inl (0, frm))), (335, .inr (.inl (0, tto))), (337, .inr (.inl (0, slo))), (339, .inr (.inl (0, (x_settle ns nt run tra len siz frm tto slo fit way rid lon cel).2.1))), (340, .inr (.inl (0, (x_settle ns nt run tra len siz frm tto slo fit way rid lon cel).2.2.2.2))), (341, .inr (.inl (0, (x_settle ns nt run tra len siz frm tto slo fit way rid lon cel).2.2.1))), (342, .inr (.inl (0, (x_settle ns nt run tra len siz frm tto slo fit way rid lon cel).2.2.2.1)))] h0) := by
  show j_V jP d 19 0 [(0, .ref 327)] [] h _
  obtain ⟨lv, elv, L⟩ : ∃ lv, lv = [(0, .ref 327)] ∧ LK lv [(0, .ref 327)] := ⟨_, rfl, LK.rf⟩
  rw [← elv]
  clear elv
  refine j_V.ldL xa202_M xa202_0 rfl (i := 0) (kd := 2) (v := .ref 327) (pcJ := 1) rfl L rfl rfl rfl ?_
  refine j_V.one xa202_M xa202_1 (by decide) (pcJ := 2) (stJ := [.int 0, .ref 327]) rfl ?_
  refine j_V.putK xa202_M xa202_2 (ci := 2) (j := 13) (k' := [(327, .inl (2, [.int ns, .ref 328, .ref 329, .ref 330, .ref 331, .int nt, .ref 332, .ref 333, .ref 334, .ref 335, .ref 336, .ref 337, .ref 338, .int 0, .ref 339, .ref 340, .ref 341, .ref 342])), (329, .inr (.inl (0, run))), (330, .inr (.inl (0, tra))), (331, .inr (.inl (0, len))), (333, .inr (.inl (0, siz))), (334, .inr (.inl (0, frm))), (335, .inr (.inl (0, tto))), (337, .inr (.inl (0, slo))), (339, .inr (.inl (0, fit))), (340, .inr (.inl (0, way))), (341, .inr (.inl (0, rid))), (342, .inr (.inl (0, lon)))]) rfl K rfl (Nat.le_of_ble_eq_true rfl) rfl (Or.inl rfl) rfl rfl (fun h K => ?_)
  refine j_V.one xa202_M xa202_5 (by decide) (pcJ := 6) (stJ := [.int 0]) rfl ?_
  refine j_V.stL xa202_M xa202_6 rfl (i := 1) (kd := 0) (kl' := [(0, .ref 327), (1, .int 0)]) (pcJ := 7) rfl L rfl (by decide) rfl rfl rfl (fun lv L => ?_)
  rw [show (x_settle ns nt run tra len siz frm tto slo fit way rid lon cel) = _ from (rfl)]
  exact xa202_ok_l7 _ _ _ _ _ _ _ rfl L K
set_option maxRecDepth 100000 in
theorem xarw_M : j_meth jP 60 = some (yX7_rankByWeight, cX7_rankByWeight, 3, none, 0, false, 7) := rfl
set_option maxRecDepth 100000 in
theorem xarw_0 : j_code jP 60 0 = some (.aload_n 0) := rfl
set_option maxRecDepth 100000 in
theorem xarw_1 : j_code jP 60 1 = some (.getfield 9) := rfl
set_option maxRecDepth 100000 in
theorem xarw_4 : j_code jP 60 4 = some (.iconst 0) := rfl
set_option maxRecDepth 100000 in
theorem xarw_5 : j_code jP 60 5 = some (.invokestatic 90) := rfl
set_option maxRecDepth 100000 in
theorem xarw_8 : j_code jP 60 8 = some (.iconst 0) := rfl
set_option maxRecDepth 100000 in
theorem xarw_9 : j_code jP 60 9 = some (.istore_n 1) := rfl
set_option maxRecDepth 100000 in
theorem xarw_10 : j_code jP 60 10 = some (.iload_n 1) := rfl
set_option maxRecDepth 100000 in
theorem xarw_11 : j_code jP 60 11 = some (.aload_n 0) := rfl
set_option maxRecDepth 100000 in
theorem xarw_12 : j_code jP 60 12 = some (.getfield 64) := rfl
set_option maxRecDepth 100000 in
theorem xarw_15 : j_code jP 60 15 = some (.getfield 102) := rfl
set_option maxRecDepth 100000 in
theorem xarw_18 : j_code jP 60 18 = some (.if_icmp .ge 70) := rfl
set_option maxRecDepth 100000 in
theorem xarw_21 : j_code jP 60 21 = some (.iload_n 1) := rfl
set_option maxRecDepth 100000 in
theorem xarw_22 : j_code jP 60 22 = some (.istore_n 2) := rfl
set_option maxRecDepth 100000 in
theorem xarw_23 : j_code jP 60 23 = some (.iload_n 2) := rfl
set_option maxRecDepth 100000 in
theorem xarw_24 : j_code jP 60 24 = some (.ifCond .le 51) := rfl
set_option maxRecDepth 100000 in
theorem xarw_27 : j_code jP 60 27 = some (.aload_n 0) := rfl
set_option maxRecDepth 100000 in
theorem xarw_28 : j_code jP 60 28 = some (.getfield 64) := rfl
set_option maxRecDepth 100000 in
theorem xarw_31 : j_code jP 60 31 = some (.getfield 105) := rfl
set_option maxRecDepth 100000 in
theorem xarw_34 : j_code jP 60 34 = some (.aload_n 0) := rfl
set_option maxRecDepth 100000 in
theorem xarw_35 : j_code jP 60 35 = some (.getfield 9) := rfl
set_option maxRecDepth 100000 in
theorem xarw_38 : j_code jP 60 38 = some (.iload_n 2) := rfl
set_option maxRecDepth 100000 in
theorem xarw_39 : j_code jP 60 39 = some (.iconst 1) := rfl
set_option maxRecDepth 100000 in
theorem xarw_40 : j_code jP 60 40 = some (.isub) := rfl
set_option maxRecDepth 100000 in
theorem xarw_41 : j_code jP 60 41 = some (.iaload) := rfl
set_option maxRecDepth 100000 in
theorem xarw_42 : j_code jP 60 42 = some (.iaload) := rfl
set_option maxRecDepth 100000 in
theorem xarw_43 : j_code jP 60 43 = some (.aload_n 0) := rfl
set_option maxRecDepth 100000 in
theorem xarw_44 : j_code jP 60 44 = some (.getfield 64) := rfl
set_option maxRecDepth 100000 in
theorem xarw_47 : j_code jP 60 47 = some (.getfield 105) := rfl
set_option maxRecDepth 100000 in
theorem xarw_50 : j_code jP 60 50 = some (.iload_n 1) := rfl
set_option maxRecDepth 100000 in
theorem xarw_51 : j_code jP 60 51 = some (.iaload) := rfl
set_option maxRecDepth 100000 in
theorem xarw_52 : j_code jP 60 52 = some (.if_icmp .ge 23) := rfl
set_option maxRecDepth 100000 in
theorem xarw_55 : j_code jP 60 55 = some (.aload_n 0) := rfl
set_option maxRecDepth 100000 in
theorem xarw_56 : j_code jP 60 56 = some (.getfield 9) := rfl
set_option maxRecDepth 100000 in
theorem xarw_59 : j_code jP 60 59 = some (.iload_n 2) := rfl
set_option maxRecDepth 100000 in
theorem xarw_60 : j_code jP 60 60 = some (.aload_n 0) := rfl
set_option maxRecDepth 100000 in
theorem xarw_61 : j_code jP 60 61 = some (.getfield 9) := rfl
set_option maxRecDepth 100000 in
theorem xarw_64 : j_code jP 60 64 = some (.iload_n 2) := rfl
set_option maxRecDepth 100000 in
theorem xarw_65 : j_code jP 60 65 = some (.iconst 1) := rfl
set_option maxRecDepth 100000 in
theorem xarw_66 : j_code jP 60 66 = some (.isub) := rfl
set_option maxRecDepth 100000 in
theorem xarw_67 : j_code jP 60 67 = some (.iaload) := rfl
set_option maxRecDepth 100000 in
theorem xarw_68 : j_code jP 60 68 = some (.iastore) := rfl
set_option maxRecDepth 100000 in
theorem xarw_69 : j_code jP 60 69 = some (.iinc 2 (-1)) := rfl
set_option maxRecDepth 100000 in
theorem xarw_72 : j_code jP 60 72 = some (.goto (-49)) := rfl
set_option maxRecDepth 100000 in
theorem xarw_75 : j_code jP 60 75 = some (.aload_n 0) := rfl
set_option maxRecDepth 100000 in
theorem xarw_76 : j_code jP 60 76 = some (.getfield 9) := rfl
set_option maxRecDepth 100000 in
theorem xarw_79 : j_code jP 60 79 = some (.iload_n 2) := rfl
set_option maxRecDepth 100000 in
theorem xarw_80 : j_code jP 60 80 = some (.iload_n 1) := rfl
set_option maxRecDepth 100000 in
theorem xarw_81 : j_code jP 60 81 = some (.iastore) := rfl
set_option maxRecDepth 100000 in
theorem xarw_82 : j_code jP 60 82 = some (.iinc 1 1) := rfl
set_option maxRecDepth 100000 in
theorem xarw_85 : j_code jP 60 85 = some (.goto (-75)) := rfl
set_option maxRecDepth 100000 in
theorem xarw_88 : j_code jP 60 88 = some (.return_) := rfl
theorem lpN_d {v : Int32} {f : Nat} (h : lpN v 0 = f + 1) : lpN (v + (-1)) 0 = f := by
  have h1 := lpN_s h
  rw [Int32.lt_iff_toInt_lt, show (0 : Int32).toInt = 0 from rfl] at h1
  have h2 := Int32.toInt_lt v
  have e : (v + (-1)).toInt = v.toInt - 1 := by
    rw [Int32.toInt_add, show (-1 : Int32).toInt = -1 from rfl, Int.bmod_eq_of_le (by omega) (by omega)]
    omega
  unfold lpN at h ⊢
  rw [show (0 : Int32).toInt = 0 from rfl] at *
  omega
def x_rwi (wei : List Int32) (v1 : Int32) : Nat → Int32 → List Int32 → Int32 × List Int32
  | 0, v2, rk => (v2, rk)
  | f + 1, v2, rk => (if 0 < v2 then (if (gA wei (gA rk (v2 - 1))) < (gA wei v1) then (x_rwi wei v1 f (v2 + (-1)) (sA rk v2 (gA rk (v2 - 1)))) else (v2, rk)) else (v2, rk))
set_option maxRecDepth 1000000 in
theorem xarw_in {mi : Int32} {shu : Int32} {bus : Int32} {lks : Int32} {ns : Int32} {nt : Int32} {cel : Int32} {wei : List Int32} {d : Nat} {h0 : J_H} {v1 : Int32} {Q : Option Value → J_H → Prop} : ∀ (f : Nat) (v2 : Int32) (rk : List Int32) {lv : J_L} {h : J_H}, lpN v2 0 = f → LK lv [(0, .ref 4), (1, .int v1), (2, .int v2)] → KN h [(4, .inl (7, [.ref 327, .int mi, .int shu, .int bus, .ref 5, .ref 6, .ref 7, .ref 8, .ref 9, .ref 10, .ref 11, .ref 12, .ref 13, .ref 14, .ref 15, .int lks, .ref 16, .ref 17, .ref 20])), (5, .inr (.inl (0, rk))), (327, .inl (2, [.int ns, .ref 328, .ref 329, .ref 330, .ref 331, .int nt, .ref 332, .ref 333, .ref 334, .ref 335, .ref 336, .ref 337, .ref 338, .int cel, .ref 339, .ref 340, .ref 341, .ref 342])), (338, .inr (.inl (0, wei)))] h0 → (∀ lv h, LK lv [(0, .ref 4), (1, .int v1), (2, .int (x_rwi wei v1 f v2 rk).1)] → KN h [(4, .inl (7, [.ref 327, .int mi, .int shu, .int bus, .ref 5, .ref 6, .ref 7, .ref 8, .ref 9, .ref 10, .ref 11, .ref 12, .ref 13, .ref 14, .ref 15, .int lks, .ref 16, .ref 17, .ref 20])), (5, .inr (.inl (0, (x_rwi wei v1 f v2 rk).2))), (327, .inl (2, [.int ns, .ref 328, .ref 329, .ref 330, .ref 331, .int nt, .ref 332, .ref 333, .ref 334, .ref 335, .ref 336, .ref 337, .ref 338, .int cel, .ref 339, .ref 340, .ref 341, .ref 342])), (338, .inr (.inl (0, wei)))] h0 → j_V jP d 60 75 lv [] h Q) → j_V jP d 60 23 lv [] h Q := by
  intro f
  induction f with
  | zero =>
    intro v2 rk lv h e L K kk
    refine j_V.ldL xarw_M xarw_23 rfl (i := 2) (kd := 0) (v := .int v2) (pcJ := 24) rfl L rfl rfl rfl ?_
    refine j_V.ifc xarw_M xarw_24 (t := 75) rfl (fun c24_0 => ?_) (fun c24_0 => ?_)
    · replace c24_0 : ¬ (0 < v2) := jd_le c24_0
      rw [show (x_rwi wei v1 0 v2 rk) = _ from (rfl)] at kk
      exact kk _ _ L K
    · replace c24_0 : 0 < v2 := jd_len c24_0
      exact absurd c24_0 (lpN_z e)
  | succ f ih =>
    intro v2 rk lv h e L K kk
    refine j_V.ldL xarw_M xarw_23 rfl (i := 2) (kd := 0) (v := .int v2) (pcJ := 24) rfl L rfl rfl rfl ?_
    refine j_V.ifc xarw_M xarw_24 (t := 75) rfl (fun c24_0 => ?_) (fun c24_0 => ?_)
    · replace c24_0 : ¬ (0 < v2) := jd_le c24_0
      rw [show (x_rwi wei v1 (f + 1) v2 rk) = _ from ((if_neg c24_0).trans (rfl))] at kk
      exact kk _ _ L K
    · replace c24_0 : 0 < v2 := jd_len c24_0
      refine j_V.ldL xarw_M xarw_27 rfl (i := 0) (kd := 2) (v := .ref 4) (pcJ := 28) rfl L rfl rfl rfl ?_
      refine j_V.getK xarw_M xarw_28 (ci := 7) (j := 0) rfl K rfl rfl ?_
      refine j_V.getK xarw_M xarw_31 (ci := 2) (j := 12) rfl K rfl rfl ?_
      refine j_V.ldL xarw_M xarw_34 rfl (i := 0) (kd := 2) (v := .ref 4) (pcJ := 35) rfl L rfl rfl rfl ?_
      refine j_V.getK xarw_M xarw_35 (ci := 7) (j := 4) rfl K rfl rfl ?_
      refine j_V.ldL xarw_M xarw_38 rfl (i := 2) (kd := 0) (v := .int v2) (pcJ := 39) rfl L rfl rfl rfl ?_
      refine j_V.one xarw_M xarw_39 (by decide) (pcJ := 40) (stJ := [.int 1, .int v2, .ref 5, .ref 338]) rfl ?_
      refine j_V.one xarw_M xarw_40 (by decide) (pcJ := 41) (stJ := [.int (v2 - 1), .ref 5, .ref 338]) rfl ?_
      refine j_V.iaA xarw_M xarw_41 K rfl ?_
      refine j_V.iaA xarw_M xarw_42 K rfl ?_
      refine j_V.ldL xarw_M xarw_43 rfl (i := 0) (kd := 2) (v := .ref 4) (pcJ := 44) rfl L rfl rfl rfl ?_
      refine j_V.getK xarw_M xarw_44 (ci := 7) (j := 0) rfl K rfl rfl ?_
      refine j_V.getK xarw_M xarw_47 (ci := 2) (j := 12) rfl K rfl rfl ?_
      refine j_V.ldL xarw_M xarw_50 rfl (i := 1) (kd := 0) (v := .int v1) (pcJ := 51) rfl L rfl rfl rfl ?_
      refine j_V.iaA xarw_M xarw_51 K rfl ?_
      refine j_V.icmp xarw_M xarw_52 (t := 75) rfl (fun c52_1 => ?_) (fun c52_1 => ?_)
      · replace c52_1 : ¬ ((gA wei (gA rk (v2 - 1))) < (gA wei v1)) := jd_ge c52_1
        rw [show (x_rwi wei v1 (f + 1) v2 rk) = _ from ((if_pos c24_0).trans ((if_neg c52_1).trans (rfl)))] at kk
        exact kk _ _ L K
      · replace c52_1 : (gA wei (gA rk (v2 - 1))) < (gA wei v1) := jd_gen c52_1
        refine j_V.ldL xarw_M xarw_55 rfl (i := 0) (kd := 2) (v := .ref 4) (pcJ := 56) rfl L rfl rfl rfl ?_
        refine j_V.getK xarw_M xarw_56 (ci := 7) (j := 4) rfl K rfl rfl ?_
        refine j_V.ldL xarw_M xarw_59 rfl (i := 2) (kd := 0) (v := .int v2) (pcJ := 60) rfl L rfl rfl rfl ?_
        refine j_V.ldL xarw_M xarw_60 rfl (i := 0) (kd := 2) (v := .ref 4) (pcJ := 61) rfl L rfl rfl rfl ?_
        refine j_V.getK xarw_M xarw_61 (ci := 7) (j := 4) rfl K rfl rfl ?_
        refine j_V.ldL xarw_M xarw_64 rfl (i := 2) (kd := 0) (v := .int v2) (pcJ := 65) rfl L rfl rfl rfl ?_
        refine j_V.one xarw_M xarw_65 (by decide) (pcJ := 66) (stJ := [.int 1, .int v2, .ref 5, .int v2, .ref 5]) rfl ?_
        refine j_V.one xarw_M xarw_66 (by decide) (pcJ := 67) (stJ := [.int (v2 - 1), .ref 5, .int v2, .ref 5]) rfl ?_
        refine j_V.iaA xarw_M xarw_67 K rfl ?_
        refine j_V.isA xarw_M xarw_68 (k' := [(4, .inl (7, [.ref 327, .int mi, .int shu, .int bus, .ref 5, .ref 6, .ref 7, .ref 8, .ref 9, .ref 10, .ref 11, .ref 12, .ref 13, .ref 14, .ref 15, .int lks, .ref 16, .ref 17, .ref 20])), (5, .inr (.inl (0, (sA rk v2 (gA rk (v2 - 1)))))), (327, .inl (2, [.int ns, .ref 328, .ref 329, .ref 330, .ref 331, .int nt, .ref 332, .ref 333, .ref 334, .ref 335, .ref 336, .ref 337, .ref 338, .int cel, .ref 339, .ref 340, .ref 341, .ref 342])), (338, .inr (.inl (0, wei)))]) K rfl rfl (fun h K => ?_)
        refine j_V.inL xarw_M xarw_69 (i := 2) (kl' := [(0, .ref 4), (1, .int v1), (2, .int (v2 + (-1)))]) (pcJ := 72) L rfl rfl rfl rfl (fun lv L => ?_)
        refine j_V.gto xarw_M xarw_72 (t := 23) rfl ?_
        rw [show (x_rwi wei v1 (f + 1) v2 rk) = (x_rwi wei v1 f (v2 + (-1)) (sA rk v2 (gA rk (v2 - 1)))) from (if_pos c24_0).trans ((if_pos c52_1).trans (rfl))] at kk
        exact ih (v2 + (-1)) (sA rk v2 (gA rk (v2 - 1))) (lpN_d e) L K kk
set_option maxRecDepth 100000 in
theorem xa203_M : j_meth jP 60 = some (yX7_rankByWeight, cX7_rankByWeight, 3, none, 0, false, 7) := rfl
set_option maxRecDepth 100000 in
theorem xa203_0 : j_code jP 60 0 = some (.aload_n 0) := rfl
set_option maxRecDepth 100000 in
theorem xa203_1 : j_code jP 60 1 = some (.getfield 9) := rfl
set_option maxRecDepth 100000 in
theorem xa203_4 : j_code jP 60 4 = some (.iconst 0) := rfl
set_option maxRecDepth 100000 in
theorem xa203_5 : j_code jP 60 5 = some (.invokestatic 90) := rfl
set_option maxRecDepth 100000 in
theorem xa203_8 : j_code jP 60 8 = some (.iconst 0) := rfl
set_option maxRecDepth 100000 in
theorem xa203_9 : j_code jP 60 9 = some (.istore_n 1) := rfl
set_option maxRecDepth 100000 in
theorem xa203_10 : j_code jP 60 10 = some (.iload_n 1) := rfl
set_option maxRecDepth 100000 in
theorem xa203_11 : j_code jP 60 11 = some (.aload_n 0) := rfl
set_option maxRecDepth 100000 in
theorem xa203_12 : j_code jP 60 12 = some (.getfield 64) := rfl
set_option maxRecDepth 100000 in
theorem xa203_15 : j_code jP 60 15 = some (.getfield 102) := rfl
set_option maxRecDepth 100000 in
theorem xa203_18 : j_code jP 60 18 = some (.if_icmp .ge 70) := rfl
set_option maxRecDepth 100000 in
theorem xa203_21 : j_code jP 60 21 = some (.iload_n 1) := rfl
set_option maxRecDepth 100000 in
theorem xa203_22 : j_code jP 60 22 = some (.istore_n 2) := rfl
set_option maxRecDepth 100000 in
theorem xa203_23 : j_code jP 60 23 = some (.iload_n 2) := rfl
set_option maxRecDepth 100000 in
theorem xa203_24 : j_code jP 60 24 = some (.ifCond .le 51) := rfl
set_option maxRecDepth 100000 in
theorem xa203_27 : j_code jP 60 27 = some (.aload_n 0) := rfl
set_option maxRecDepth 100000 in
theorem xa203_28 : j_code jP 60 28 = some (.getfield 64) := rfl
set_option maxRecDepth 100000 in
theorem xa203_31 : j_code jP 60 31 = some (.getfield 105) := rfl
set_option maxRecDepth 100000 in
theorem xa203_34 : j_code jP 60 34 = some (.aload_n 0) := rfl
set_option maxRecDepth 100000 in
theorem xa203_35 : j_code jP 60 35 = some (.getfield 9) := rfl
set_option maxRecDepth 100000 in
theorem xa203_38 : j_code jP 60 38 = some (.iload_n 2) := rfl
set_option maxRecDepth 100000 in
theorem xa203_39 : j_code jP 60 39 = some (.iconst 1) := rfl
set_option maxRecDepth 100000 in
theorem xa203_40 : j_code jP 60 40 = some (.isub) := rfl
set_option maxRecDepth 100000 in
theorem xa203_41 : j_code jP 60 41 = some (.iaload) := rfl
set_option maxRecDepth 100000 in
theorem xa203_42 : j_code jP 60 42 = some (.iaload) := rfl
set_option maxRecDepth 100000 in
theorem xa203_43 : j_code jP 60 43 = some (.aload_n 0) := rfl
set_option maxRecDepth 100000 in
theorem xa203_44 : j_code jP 60 44 = some (.getfield 64) := rfl
set_option maxRecDepth 100000 in
theorem xa203_47 : j_code jP 60 47 = some (.getfield 105) := rfl
set_option maxRecDepth 100000 in
theorem xa203_50 : j_code jP 60 50 = some (.iload_n 1) := rfl
set_option maxRecDepth 100000 in
theorem xa203_51 : j_code jP 60 51 = some (.iaload) := rfl
set_option maxRecDepth 100000 in
theorem xa203_52 : j_code jP 60 52 = some (.if_icmp .ge 23) := rfl
set_option maxRecDepth 100000 in
theorem xa203_55 : j_code jP 60 55 = some (.aload_n 0) := rfl
set_option maxRecDepth 100000 in
theorem xa203_56 : j_code jP 60 56 = some (.getfield 9) := rfl
set_option maxRecDepth 100000 in
theorem xa203_59 : j_code jP 60 59 = some (.iload_n 2) := rfl
set_option maxRecDepth 100000 in
theorem xa203_60 : j_code jP 60 60 = some (.aload_n 0) := rfl
set_option maxRecDepth 100000 in
theorem xa203_61 : j_code jP 60 61 = some (.getfield 9) := rfl
set_option maxRecDepth 100000 in
theorem xa203_64 : j_code jP 60 64 = some (.iload_n 2) := rfl
set_option maxRecDepth 100000 in
theorem xa203_65 : j_code jP 60 65 = some (.iconst 1) := rfl
set_option maxRecDepth 100000 in
theorem xa203_66 : j_code jP 60 66 = some (.isub) := rfl
set_option maxRecDepth 100000 in
theorem xa203_67 : j_code jP 60 67 = some (.iaload) := rfl
set_option maxRecDepth 100000 in
theorem xa203_68 : j_code jP 60 68 = some (.iastore) := rfl
set_option maxRecDepth 100000 in
theorem xa203_69 : j_code jP 60 69 = some (.iinc 2 (-1)) := rfl
set_option maxRecDepth 100000 in
theorem xa203_72 : j_code jP 60 72 = some (.goto (-49)) := rfl
set_option maxRecDepth 100000 in
theorem xa203_75 : j_code jP 60 75 = some (.aload_n 0) := rfl
set_option maxRecDepth 100000 in
theorem xa203_76 : j_code jP 60 76 = some (.getfield 9) := rfl
set_option maxRecDepth 100000 in
theorem xa203_79 : j_code jP 60 79 = some (.iload_n 2) := rfl
set_option maxRecDepth 100000 in
theorem xa203_80 : j_code jP 60 80 = some (.iload_n 1) := rfl
set_option maxRecDepth 100000 in
theorem xa203_81 : j_code jP 60 81 = some (.iastore) := rfl
set_option maxRecDepth 100000 in
theorem xa203_82 : j_code jP 60 82 = some (.iinc 1 1) := rfl
set_option maxRecDepth 100000 in
theorem xa203_85 : j_code jP 60 85 = some (.goto (-75)) := rfl
set_option maxRecDepth 100000 in
theorem xa203_88 : j_code jP 60 88 = some (.return_) := rfl
def x_rankByWeight_l10 (wei : List Int32) : Nat → Int32 → List Int32 → List Int32
  | 0, v1, rk => rk
  | f + 1, v1, rk => let rk1 := (sA (x_rwi wei v1 (lpN v1 0) v1 rk).2 ((x_rwi wei v1 (lpN v1 0) v1 rk).1) v1); (x_rankByWeight_l10 wei f (v1 + 1) rk1)
set_option maxRecDepth 1000000 in
theorem xa203_ok_l10 {mi : Int32} {shu : Int32} {bus : Int32} {lks : Int32} {ns : Int32} {nt : Int32} {cel : Int32} {wei : List Int32} {d : Nat} {h0 : J_H} : ∀ (f : Nat) (v1 : Int32) (rk : List Int32) {lv : J_L} {h : J_H}, lpN nt v1 = f → LK lv [(0, .ref 4), (1, .int v1)] → KN h [(4, .inl (7, [.ref 327, .int mi, .int shu, .int bus, .ref 5, .ref 6, .ref 7, .ref 8, .ref 9, .ref 10, .ref 11, .ref 12, .ref 13, .ref 14, .ref 15, .int lks, .ref 16, .ref 17, .ref 20])), (5, .inr (.inl (0, rk))), (327, .inl (2, [.int ns, .ref 328, .ref 329, .ref 330, .ref 331, .int nt, .ref 332, .ref 333, .ref 334, .ref 335, .ref 336, .ref 337, .ref 338, .int cel, .ref 339, .ref 340, .ref 341, .ref 342])), (338, .inr (.inl (0, wei)))] h0 → j_V jP d 60 10 lv [] h (fun rv h' => rv = none ∧ KN h' [(4, .inl (7, [.ref 327, .int mi, .int shu, .int bus, .ref 5, .ref 6, .ref 7, .ref 8, .ref 9, .ref 10, .ref 11, .ref 12, .ref 13, .ref 14, .ref 15, .int lks, .ref 16, .ref 17, .ref 20])), (5, .inr (.inl (0, (x_rankByWeight_l10 wei f v1 rk)))), (327, .inl (2, [.int ns, .ref 328, .ref 329, .ref 330, .ref 331, .int nt, .ref 332, .ref 333, .ref 334, .ref 335, .ref 336, .ref 337, .ref 338, .int cel, .ref 339, .ref 340, .ref 341, .ref 342])), (338, .inr (.inl (0, wei)))] h0) := by
  intro f
  induction f with
  | zero =>
    intro v1 rk lv h e L K
    refine j_V.ldL xa203_M xa203_10 rfl (i := 1) (kd := 0) (v := .int v1) (pcJ := 11) rfl L rfl rfl rfl ?_
    refine j_V.ldL xa203_M xa203_11 rfl (i := 0) (kd := 2) (v := .ref 4) (pcJ := 12) rfl L rfl rfl rfl ?_
    refine j_V.getK xa203_M xa203_12 (ci := 7) (j := 0) rfl K rfl rfl ?_
    refine j_V.getK xa203_M xa203_15 (ci := 2) (j := 5) rfl K rfl rfl ?_
    refine j_V.icmp xa203_M xa203_18 (t := 88) rfl (fun c18_0 => ?_) (fun c18_0 => ?_)
    · replace c18_0 : ¬ (v1 < nt) := jd_ge c18_0
      refine j_V.ret xa203_M xa203_88 rfl rfl ?_
      rw [show (x_rankByWeight_l10 wei 0 v1 rk) = _ from (rfl)]
      exact ⟨rfl, K⟩
    · replace c18_0 : v1 < nt := jd_gen c18_0
      exact absurd c18_0 (lpN_z e)
  | succ f ih =>
    intro v1 rk lv h e L K
    refine j_V.ldL xa203_M xa203_10 rfl (i := 1) (kd := 0) (v := .int v1) (pcJ := 11) rfl L rfl rfl rfl ?_
    refine j_V.ldL xa203_M xa203_11 rfl (i := 0) (kd := 2) (v := .ref 4) (pcJ := 12) rfl L rfl rfl rfl ?_
    refine j_V.getK xa203_M xa203_12 (ci := 7) (j := 0) rfl K rfl rfl ?_
    refine j_V.getK xa203_M xa203_15 (ci := 2) (j := 5) rfl K rfl rfl ?_
    refine j_V.icmp xa203_M xa203_18 (t := 88) rfl (fun c18_0 => ?_) (fun c18_0 => ?_)
    · replace c18_0 : ¬ (v1 < nt) := jd_ge c18_0
      exact absurd (lpN_s e) c18_0
    · replace c18_0 : v1 < nt := jd_gen c18_0
      refine j_V.ldL xa203_M xa203_21 rfl (i := 1) (kd := 0) (v := .int v1) (pcJ := 22) rfl L rfl rfl rfl ?_
      refine j_V.stL xa203_M xa203_22 rfl (i := 2) (kd := 0) (kl' := [(0, .ref 4), (1, .int v1), (2, .int v1)]) (pcJ := 23) rfl L rfl (by decide) rfl rfl rfl (fun lv L => ?_)
      refine xarw_in _ v1 rk rfl L (K.fi [4, 5, 327, 338] rfl rfl) (fun lv h9 L K9 => ?_)
      have K : KN h9 [(4, .inl (7, [.ref 327, .int mi, .int shu, .int bus, .ref 5, .ref 6, .ref 7, .ref 8, .ref 9, .ref 10, .ref 11, .ref 12, .ref 13, .ref 14, .ref 15, .int lks, .ref 16, .ref 17, .ref 20])), (5, .inr (.inl (0, (x_rwi wei v1 (lpN v1 0) v1 rk).2))), (327, .inl (2, [.int ns, .ref 328, .ref 329, .ref 330, .ref 331, .int nt, .ref 332, .ref 333, .ref 334, .ref 335, .ref 336, .ref 337, .ref 338, .int cel, .ref 339, .ref 340, .ref 341, .ref 342])), (338, .inr (.inl (0, wei)))] h0 := K.mg K9 rfl rfl
      clear K9
      refine j_V.ldL xa203_M xa203_75 rfl (i := 0) (kd := 2) (v := .ref 4) (pcJ := 76) rfl L rfl rfl rfl ?_
      refine j_V.getK xa203_M xa203_76 (ci := 7) (j := 4) rfl K rfl rfl ?_
      refine j_V.ldL xa203_M xa203_79 rfl (i := 2) (kd := 0) (v := .int ((x_rwi wei v1 (lpN v1 0) v1 rk).1)) (pcJ := 80) rfl L rfl rfl rfl ?_
      refine j_V.ldL xa203_M xa203_80 rfl (i := 1) (kd := 0) (v := .int v1) (pcJ := 81) rfl L rfl rfl rfl ?_
      refine j_V.isA xa203_M xa203_81 (k' := [(4, .inl (7, [.ref 327, .int mi, .int shu, .int bus, .ref 5, .ref 6, .ref 7, .ref 8, .ref 9, .ref 10, .ref 11, .ref 12, .ref 13, .ref 14, .ref 15, .int lks, .ref 16, .ref 17, .ref 20])), (5, .inr (.inl (0, (sA (x_rwi wei v1 (lpN v1 0) v1 rk).2 ((x_rwi wei v1 (lpN v1 0) v1 rk).1) v1)))), (327, .inl (2, [.int ns, .ref 328, .ref 329, .ref 330, .ref 331, .int nt, .ref 332, .ref 333, .ref 334, .ref 335, .ref 336, .ref 337, .ref 338, .int cel, .ref 339, .ref 340, .ref 341, .ref 342])), (338, .inr (.inl (0, wei)))]) K rfl rfl (fun h K => ?_)
      obtain ⟨rk1, erk1⟩ : ∃ z, z = (sA (x_rwi wei v1 (lpN v1 0) v1 rk).2 ((x_rwi wei v1 (lpN v1 0) v1 rk).1) v1) := ⟨_, rfl⟩
      rw [← erk1] at K
      refine j_V.inL xa203_M xa203_82 (i := 1) (kl' := [(0, .ref 4), (1, .int (v1 + 1)), (2, .int ((x_rwi wei v1 (lpN v1 0) v1 rk).1))]) (pcJ := 85) L rfl rfl rfl rfl (fun lv L => ?_)
      refine j_V.gto xa203_M xa203_85 (t := 10) rfl ?_
      subst erk1
      rw [show (x_rankByWeight_l10 wei (f + 1) v1 rk) = _ from (rfl)]
      exact ih _ _ (lpN_n e) (L.sub ⟨rfl, rfl, trivial⟩) K
def x_rankByWeight (rk : List Int32) (nt : Int32) (wei : List Int32) : List Int32 := let rk2 := (fL 0 rk); (x_rankByWeight_l10 wei (lpN nt 0) 0 rk2)
set_option maxRecDepth 1000000 in
theorem xa203_ok {mi : Int32} {shu : Int32} {bus : Int32} {lks : Int32} {rk : List Int32} {ns : Int32} {nt : Int32} {cel : Int32} {wei : List Int32} {d : Nat} {h h0 : J_H} (K : KN h [(4, .inl (7, [.ref 327, .int mi, .int shu, .int bus, .ref 5, .ref 6, .ref 7, .ref 8, .ref 9, .ref 10, .ref 11, .ref 12, .ref 13, .ref 14, .ref 15, .int lks, .ref 16, .ref 17, .ref 20])), (5, .inr (.inl (0, rk))), (327, .inl (2, [.int ns, .ref 328, .ref 329, .ref 330, .ref 331, .int nt, .ref 332, .ref 333, .ref 334, .ref 335, .ref 336, .ref 337, .ref 338, .int cel, .ref 339, .ref 340, .ref 341, .ref 342])), (338, .inr (.inl (0, wei)))] h0) : j_V jP d 60 0 (lv_args 0 [.ref 4]) [] h (fun rv h' => rv = none ∧ KN h' [(4, .inl (7, [.ref 327, .int mi, .int shu, .int bus, .ref 5, .ref 6, .ref 7, .ref 8, .ref 9, .ref 10, .ref 11, .ref 12, .ref 13, .ref 14, .ref 15, .int lks, .ref 16, .ref 17, .ref 20])), (5, .inr (.inl (0, (x_rankByWeight rk nt wei)))), (327, .inl (2, [.int ns, .ref 328, .ref 329, .ref 330, .ref 331, .int nt, .ref 332, .ref 333, .ref 334, .ref 335, .ref 336, .ref 337, .ref 338, .int cel, .ref 339, .ref 340, .ref 341, .ref 342])), (338, .inr (.inl (0, wei)))] h0) := by
  show j_V jP d 60 0 [(0, .ref 4)] [] h _
  obtain ⟨lv, elv, L⟩ : ∃ lv, lv = [(0, .ref 4)] ∧ LK lv [(0, .ref 4)] := ⟨_, rfl, LK.rf⟩
  rw [← elv]
  clear elv
  refine j_V.ldL xa203_M xa203_0 rfl (i := 0) (kd := 2) (v := .ref 4) (pcJ := 1) rfl L rfl rfl rfl ?_
  refine j_V.getK xa203_M xa203_1 (ci := 7) (j := 4) rfl K rfl rfl ?_
  refine j_V.one xa203_M xa203_4 (by decide) (pcJ := 5) (stJ := [.int 0, .ref 5]) rfl ?_
  refine j_V.fil rfl xa203_M xa203_5 rfl rfl (Nat.le_of_ble_eq_true rfl) K rfl rfl (fun h K => ?_)
  obtain ⟨rk2, erk2⟩ : ∃ z, z = (fL 0 rk) := ⟨_, rfl⟩
  rw [← erk2] at K
  refine j_V.one xa203_M xa203_8 (by decide) (pcJ := 9) (stJ := [.int 0]) rfl ?_
  refine j_V.stL xa203_M xa203_9 rfl (i := 1) (kd := 0) (kl' := [(0, .ref 4), (1, .int 0)]) (pcJ := 10) rfl L rfl (by decide) rfl rfl rfl (fun lv L => ?_)
  subst erk2
  rw [show (x_rankByWeight rk nt wei) = _ from (rfl)]
  exact xa203_ok_l10 _ _ _ rfl L K
set_option maxRecDepth 100000 in
theorem xapr_M : j_meth jP 27 = some (yX3_reset, cX3_reset, 1, none, 0, false, 3) := rfl
set_option maxRecDepth 100000 in
theorem xapr_0 : j_code jP 27 0 = some (.aload_n 0) := rfl
set_option maxRecDepth 100000 in
theorem xapr_1 : j_code jP 27 1 = some (.getfield 9) := rfl
set_option maxRecDepth 100000 in
theorem xapr_4 : j_code jP 27 4 = some (.iconst (-1)) := rfl
set_option maxRecDepth 100000 in
theorem xapr_5 : j_code jP 27 5 = some (.invokestatic 40) := rfl
set_option maxRecDepth 100000 in
theorem xapr_8 : j_code jP 27 8 = some (.aload_n 0) := rfl
set_option maxRecDepth 100000 in
theorem xapr_9 : j_code jP 27 9 = some (.getfield 15) := rfl
set_option maxRecDepth 100000 in
theorem xapr_12 : j_code jP 27 12 = some (.iconst (-1)) := rfl
set_option maxRecDepth 100000 in
theorem xapr_13 : j_code jP 27 13 = some (.invokestatic 40) := rfl
set_option maxRecDepth 100000 in
theorem xapr_16 : j_code jP 27 16 = some (.aload_n 0) := rfl
set_option maxRecDepth 100000 in
theorem xapr_17 : j_code jP 27 17 = some (.getfield 18) := rfl
set_option maxRecDepth 100000 in
theorem xapr_20 : j_code jP 27 20 = some (.iconst 0) := rfl
set_option maxRecDepth 100000 in
theorem xapr_21 : j_code jP 27 21 = some (.invokestatic 40) := rfl
set_option maxRecDepth 100000 in
theorem xapr_24 : j_code jP 27 24 = some (.aload_n 0) := rfl
set_option maxRecDepth 100000 in
theorem xapr_25 : j_code jP 27 25 = some (.getfield 21) := rfl
set_option maxRecDepth 100000 in
theorem xapr_28 : j_code jP 27 28 = some (.iconst 0) := rfl
set_option maxRecDepth 100000 in
theorem xapr_29 : j_code jP 27 29 = some (.invokestatic 40) := rfl
set_option maxRecDepth 100000 in
theorem xapr_32 : j_code jP 27 32 = some (.aload_n 0) := rfl
set_option maxRecDepth 100000 in
theorem xapr_33 : j_code jP 27 33 = some (.getfield 24) := rfl
set_option maxRecDepth 100000 in
theorem xapr_36 : j_code jP 27 36 = some (.iconst 0) := rfl
set_option maxRecDepth 100000 in
theorem xapr_37 : j_code jP 27 37 = some (.invokestatic 40) := rfl
set_option maxRecDepth 100000 in
theorem xapr_40 : j_code jP 27 40 = some (.aload_n 0) := rfl
set_option maxRecDepth 100000 in
theorem xapr_41 : j_code jP 27 41 = some (.getfield 27) := rfl
set_option maxRecDepth 100000 in
theorem xapr_44 : j_code jP 27 44 = some (.iconst 0) := rfl
set_option maxRecDepth 100000 in
theorem xapr_45 : j_code jP 27 45 = some (.invokestatic 40) := rfl
set_option maxRecDepth 100000 in
theorem xapr_48 : j_code jP 27 48 = some (.aload_n 0) := rfl
set_option maxRecDepth 100000 in
theorem xapr_49 : j_code jP 27 49 = some (.iconst 0) := rfl
set_option maxRecDepth 100000 in
theorem xapr_50 : j_code jP 27 50 = some (.putfield 46) := rfl
set_option maxRecDepth 100000 in
theorem xapr_53 : j_code jP 27 53 = some (.return_) := rfl
set_option maxRecDepth 1000000 in
theorem xapr_ok {pev : Int32} {pk : Int32} {pms : List Int32} {pmm : List Int32} {pmt : List Int32} {pst : List Int32} {pwa : List Int32} {prs : List Int32} {d : Nat} {h h0 : J_H} (K : KN h [(20, .inl (3, [.ref 21, .ref 22, .ref 23, .ref 24, .ref 25, .ref 26, .ref 27, .ref 28, .int pev, .int pk])), (21, .inr (.inl (0, pms))), (22, .inr (.inl (0, pmm))), (23, .inr (.inl (0, pmt))), (24, .inr (.inl (0, pst))), (25, .inr (.inl (0, pwa))), (26, .inr (.inl (0, prs)))] h0) : j_V jP d 27 0 (lv_args 0 [.ref 20]) [] h (fun rv h' => rv = none ∧ KN h' [(20, .inl (3, [.ref 21, .ref 22, .ref 23, .ref 24, .ref 25, .ref 26, .ref 27, .ref 28, .int 0, .int pk])), (21, .inr (.inl (0, (fL (-1) pms)))), (22, .inr (.inl (0, (fL (-1) pmm)))), (23, .inr (.inl (0, (fL 0 pmt)))), (24, .inr (.inl (0, (fL 0 pst)))), (25, .inr (.inl (0, (fL 0 pwa)))), (26, .inr (.inl (0, (fL 0 prs))))] h0) := by
  show j_V jP d 27 0 [(0, .ref 20)] [] h _
  obtain ⟨lv, elv, L⟩ : ∃ lv, lv = [(0, .ref 20)] ∧ LK lv [(0, .ref 20)] := ⟨_, rfl, LK.rf⟩
  rw [← elv]
  clear elv
  refine j_V.ldL xapr_M xapr_0 rfl (i := 0) (kd := 2) (v := .ref 20) (pcJ := 1) rfl L rfl rfl rfl ?_
  refine j_V.getK xapr_M xapr_1 (ci := 3) (j := 0) rfl K rfl rfl ?_
  refine j_V.one xapr_M xapr_4 (by decide) (pcJ := 5) (stJ := [.int (-1), .ref 21]) rfl ?_
  refine j_V.fil rfl xapr_M xapr_5 rfl rfl (Nat.le_of_ble_eq_true rfl) K rfl rfl (fun h K => ?_)
  refine j_V.ldL xapr_M xapr_8 rfl (i := 0) (kd := 2) (v := .ref 20) (pcJ := 9) rfl L rfl rfl rfl ?_
  refine j_V.getK xapr_M xapr_9 (ci := 3) (j := 1) rfl K rfl rfl ?_
  refine j_V.one xapr_M xapr_12 (by decide) (pcJ := 13) (stJ := [.int (-1), .ref 22]) rfl ?_
  refine j_V.fil rfl xapr_M xapr_13 rfl rfl (Nat.le_of_ble_eq_true rfl) K rfl rfl (fun h K => ?_)
  refine j_V.ldL xapr_M xapr_16 rfl (i := 0) (kd := 2) (v := .ref 20) (pcJ := 17) rfl L rfl rfl rfl ?_
  refine j_V.getK xapr_M xapr_17 (ci := 3) (j := 2) rfl K rfl rfl ?_
  refine j_V.one xapr_M xapr_20 (by decide) (pcJ := 21) (stJ := [.int 0, .ref 23]) rfl ?_
  refine j_V.fil rfl xapr_M xapr_21 rfl rfl (Nat.le_of_ble_eq_true rfl) K rfl rfl (fun h K => ?_)
  refine j_V.ldL xapr_M xapr_24 rfl (i := 0) (kd := 2) (v := .ref 20) (pcJ := 25) rfl L rfl rfl rfl ?_
  refine j_V.getK xapr_M xapr_25 (ci := 3) (j := 3) rfl K rfl rfl ?_
  refine j_V.one xapr_M xapr_28 (by decide) (pcJ := 29) (stJ := [.int 0, .ref 24]) rfl ?_
  refine j_V.fil rfl xapr_M xapr_29 rfl rfl (Nat.le_of_ble_eq_true rfl) K rfl rfl (fun h K => ?_)
  refine j_V.ldL xapr_M xapr_32 rfl (i := 0) (kd := 2) (v := .ref 20) (pcJ := 33) rfl L rfl rfl rfl ?_
  refine j_V.getK xapr_M xapr_33 (ci := 3) (j := 4) rfl K rfl rfl ?_
  refine j_V.one xapr_M xapr_36 (by decide) (pcJ := 37) (stJ := [.int 0, .ref 25]) rfl ?_
  refine j_V.fil rfl xapr_M xapr_37 rfl rfl (Nat.le_of_ble_eq_true rfl) K rfl rfl (fun h K => ?_)
  refine j_V.ldL xapr_M xapr_40 rfl (i := 0) (kd := 2) (v := .ref 20) (pcJ := 41) rfl L rfl rfl rfl ?_
  refine j_V.getK xapr_M xapr_41 (ci := 3) (j := 5) rfl K rfl rfl ?_
  refine j_V.one xapr_M xapr_44 (by decide) (pcJ := 45) (stJ := [.int 0, .ref 26]) rfl ?_
  refine j_V.fil rfl xapr_M xapr_45 rfl rfl (Nat.le_of_ble_eq_true rfl) K rfl rfl (fun h K => ?_)
  refine j_V.ldL xapr_M xapr_48 rfl (i := 0) (kd := 2) (v := .ref 20) (pcJ := 49) rfl L rfl rfl rfl ?_
  refine j_V.one xapr_M xapr_49 (by decide) (pcJ := 50) (stJ := [.int 0, .ref 20]) rfl ?_
  refine j_V.putK xapr_M xapr_50 (ci := 3) (j := 8) (k' := [(20, .inl (3, [.ref 21, .ref 22, .ref 23, .ref 24, .ref 25, .ref 26, .ref 27, .ref 28, .int 0, .int pk])), (21, .inr (.inl (0, (fL (-1) pms)))), (22, .inr (.inl (0, (fL (-1) pmm)))), (23, .inr (.inl (0, (fL 0 pmt)))), (24, .inr (.inl (0, (fL 0 pst)))), (25, .inr (.inl (0, (fL 0 pwa)))), (26, .inr (.inl (0, (fL 0 prs))))]) rfl K rfl (Nat.le_of_ble_eq_true rfl) rfl (Or.inl rfl) rfl rfl (fun h K => ?_)
  exact j_V.ret xapr_M xapr_53 rfl rfl ⟨rfl, K⟩
set_option maxRecDepth 100000 in
theorem xare_M : j_meth jP 59 = some (yX7_reset, cX7_reset, 2, none, 1, false, 7) := rfl
set_option maxRecDepth 100000 in
theorem xare_0 : j_code jP 59 0 = some (.aload_n 0) := rfl
set_option maxRecDepth 100000 in
theorem xare_1 : j_code jP 59 1 = some (.aload_n 1) := rfl
set_option maxRecDepth 100000 in
theorem xare_2 : j_code jP 59 2 = some (.putfield 64) := rfl
set_option maxRecDepth 100000 in
theorem xare_5 : j_code jP 59 5 = some (.aload_n 0) := rfl
set_option maxRecDepth 100000 in
theorem xare_6 : j_code jP 59 6 = some (.iconst 0) := rfl
set_option maxRecDepth 100000 in
theorem xare_7 : j_code jP 59 7 = some (.putfield 68) := rfl
set_option maxRecDepth 100000 in
theorem xare_10 : j_code jP 59 10 = some (.aload_n 0) := rfl
set_option maxRecDepth 100000 in
theorem xare_11 : j_code jP 59 11 = some (.iconst 0) := rfl
set_option maxRecDepth 100000 in
theorem xare_12 : j_code jP 59 12 = some (.putfield 72) := rfl
set_option maxRecDepth 100000 in
theorem xare_15 : j_code jP 59 15 = some (.aload_n 0) := rfl
set_option maxRecDepth 100000 in
theorem xare_16 : j_code jP 59 16 = some (.iconst 0) := rfl
set_option maxRecDepth 100000 in
theorem xare_17 : j_code jP 59 17 = some (.putfield 75) := rfl
set_option maxRecDepth 100000 in
theorem xare_20 : j_code jP 59 20 = some (.aload_n 0) := rfl
set_option maxRecDepth 100000 in
theorem xare_21 : j_code jP 59 21 = some (.iconst 0) := rfl
set_option maxRecDepth 100000 in
theorem xare_22 : j_code jP 59 22 = some (.putfield 78) := rfl
set_option maxRecDepth 100000 in
theorem xare_25 : j_code jP 59 25 = some (.aload_n 1) := rfl
set_option maxRecDepth 100000 in
theorem xare_26 : j_code jP 59 26 = some (.getfield 81) := rfl
set_option maxRecDepth 100000 in
theorem xare_29 : j_code jP 59 29 = some (.iconst 0) := rfl
set_option maxRecDepth 100000 in
theorem xare_30 : j_code jP 59 30 = some (.aload_n 0) := rfl
set_option maxRecDepth 100000 in
theorem xare_31 : j_code jP 59 31 = some (.getfield 15) := rfl
set_option maxRecDepth 100000 in
theorem xare_34 : j_code jP 59 34 = some (.iconst 0) := rfl
set_option maxRecDepth 100000 in
theorem xare_35 : j_code jP 59 35 = some (.iconst 5) := rfl
set_option maxRecDepth 100000 in
theorem xare_36 : j_code jP 59 36 = some (.invokestatic 84) := rfl
set_option maxRecDepth 100000 in
theorem xare_39 : j_code jP 59 39 = some (.aload_n 0) := rfl
set_option maxRecDepth 100000 in
theorem xare_40 : j_code jP 59 40 = some (.getfield 18) := rfl
set_option maxRecDepth 100000 in
theorem xare_43 : j_code jP 59 43 = some (.iconst 0) := rfl
set_option maxRecDepth 100000 in
theorem xare_44 : j_code jP 59 44 = some (.invokestatic 90) := rfl
set_option maxRecDepth 100000 in
theorem xare_47 : j_code jP 59 47 = some (.aload_n 0) := rfl
set_option maxRecDepth 100000 in
theorem xare_48 : j_code jP 59 48 = some (.getfield 21) := rfl
set_option maxRecDepth 100000 in
theorem xare_51 : j_code jP 59 51 = some (.iconst (-1)) := rfl
set_option maxRecDepth 100000 in
theorem xare_52 : j_code jP 59 52 = some (.invokestatic 90) := rfl
set_option maxRecDepth 100000 in
theorem xare_55 : j_code jP 59 55 = some (.aload_n 0) := rfl
set_option maxRecDepth 100000 in
theorem xare_56 : j_code jP 59 56 = some (.getfield 24) := rfl
set_option maxRecDepth 100000 in
theorem xare_59 : j_code jP 59 59 = some (.iconst (-1)) := rfl
set_option maxRecDepth 100000 in
theorem xare_60 : j_code jP 59 60 = some (.invokestatic 90) := rfl
set_option maxRecDepth 100000 in
theorem xare_63 : j_code jP 59 63 = some (.aload_n 0) := rfl
set_option maxRecDepth 100000 in
theorem xare_64 : j_code jP 59 64 = some (.getfield 27) := rfl
set_option maxRecDepth 100000 in
theorem xare_67 : j_code jP 59 67 = some (.iconst (-1)) := rfl
set_option maxRecDepth 100000 in
theorem xare_68 : j_code jP 59 68 = some (.invokestatic 90) := rfl
set_option maxRecDepth 100000 in
theorem xare_71 : j_code jP 59 71 = some (.aload_n 0) := rfl
set_option maxRecDepth 100000 in
theorem xare_72 : j_code jP 59 72 = some (.getfield 30) := rfl
set_option maxRecDepth 100000 in
theorem xare_75 : j_code jP 59 75 = some (.iconst 0) := rfl
set_option maxRecDepth 100000 in
theorem xare_76 : j_code jP 59 76 = some (.invokestatic 90) := rfl
set_option maxRecDepth 100000 in
theorem xare_79 : j_code jP 59 79 = some (.aload_n 0) := rfl
set_option maxRecDepth 100000 in
theorem xare_80 : j_code jP 59 80 = some (.getfield 33) := rfl
set_option maxRecDepth 100000 in
theorem xare_83 : j_code jP 59 83 = some (.iconst (-1)) := rfl
set_option maxRecDepth 100000 in
theorem xare_84 : j_code jP 59 84 = some (.invokestatic 90) := rfl
set_option maxRecDepth 100000 in
theorem xare_87 : j_code jP 59 87 = some (.aload_n 0) := rfl
set_option maxRecDepth 100000 in
theorem xare_88 : j_code jP 59 88 = some (.getfield 36) := rfl
set_option maxRecDepth 100000 in
theorem xare_91 : j_code jP 59 91 = some (.iconst 0) := rfl
set_option maxRecDepth 100000 in
theorem xare_92 : j_code jP 59 92 = some (.invokestatic 90) := rfl
set_option maxRecDepth 100000 in
theorem xare_95 : j_code jP 59 95 = some (.aload_n 0) := rfl
set_option maxRecDepth 100000 in
theorem xare_96 : j_code jP 59 96 = some (.getfield 39) := rfl
set_option maxRecDepth 100000 in
theorem xare_99 : j_code jP 59 99 = some (.iconst (-1)) := rfl
set_option maxRecDepth 100000 in
theorem xare_100 : j_code jP 59 100 = some (.invokestatic 90) := rfl
set_option maxRecDepth 100000 in
theorem xare_103 : j_code jP 59 103 = some (.aload_n 0) := rfl
set_option maxRecDepth 100000 in
theorem xare_104 : j_code jP 59 104 = some (.getfield 42) := rfl
set_option maxRecDepth 100000 in
theorem xare_107 : j_code jP 59 107 = some (.iconst (-1)) := rfl
set_option maxRecDepth 100000 in
theorem xare_108 : j_code jP 59 108 = some (.invokestatic 90) := rfl
set_option maxRecDepth 100000 in
theorem xare_111 : j_code jP 59 111 = some (.aload_n 0) := rfl
set_option maxRecDepth 100000 in
theorem xare_112 : j_code jP 59 112 = some (.invokevirtual 96) := rfl
set_option maxRecDepth 100000 in
theorem xare_115 : j_code jP 59 115 = some (.aload_n 0) := rfl
set_option maxRecDepth 100000 in
theorem xare_116 : j_code jP 59 116 = some (.getfield 60) := rfl
set_option maxRecDepth 100000 in
theorem xare_119 : j_code jP 59 119 = some (.invokevirtual 99) := rfl
set_option maxRecDepth 100000 in
theorem xare_122 : j_code jP 59 122 = some (.return_) := rfl
set_option maxRecDepth 1000000 in
theorem xare_ok {mi : Int32} {shu : Int32} {bus : Int32} {lks : Int32} {rk : List Int32} {sta : List Int32} {ph : List Int32} {sp : List Int32} {ce : List Int32} {du : List Int32} {he : List Int32} {ri : List Int32} {us : List Int32} {cm : List Int32} {lf : List Int32} {pev : Int32} {pk : Int32} {pms : List Int32} {pmm : List Int32} {pmt : List Int32} {pst : List Int32} {pwa : List Int32} {prs : List Int32} {ns : Int32} {nt : Int32} {cel : Int32} {lst : List Int32} {wei : List Int32} {ly : Value} {d : Nat} {h h0 : J_H} (K : KN h [(4, .inl (7, [ly, .int mi, .int shu, .int bus, .ref 5, .ref 6, .ref 7, .ref 8, .ref 9, .ref 10, .ref 11, .ref 12, .ref 13, .ref 14, .ref 15, .int lks, .ref 16, .ref 17, .ref 20])), (5, .inr (.inl (0, rk))), (6, .inr (.inl (0, sta))), (7, .inr (.inl (0, ph))), (8, .inr (.inl (0, sp))), (9, .inr (.inl (0, ce))), (10, .inr (.inl (0, du))), (11, .inr (.inl (0, he))), (12, .inr (.inl (0, ri))), (13, .inr (.inl (0, us))), (14, .inr (.inl (0, cm))), (15, .inr (.inl (0, lf))), (20, .inl (3, [.ref 21, .ref 22, .ref 23, .ref 24, .ref 25, .ref 26, .ref 27, .ref 28, .int pev, .int pk])), (21, .inr (.inl (0, pms))), (22, .inr (.inl (0, pmm))), (23, .inr (.inl (0, pmt))), (24, .inr (.inl (0, pst))), (25, .inr (.inl (0, pwa))), (26, .inr (.inl (0, prs))), (327, .inl (2, [.int ns, .ref 328, .ref 329, .ref 330, .ref 331, .int nt, .ref 332, .ref 333, .ref 334, .ref 335, .ref 336, .ref 337, .ref 338, .int cel, .ref 339, .ref 340, .ref 341, .ref 342])), (336, .inr (.inl (0, lst))), (338, .inr (.inl (0, wei)))] h0) : j_V jP d 59 0 (lv_args 0 [.ref 4, .ref 327]) [] h (fun rv h' => rv = none ∧ KN h' [(4, .inl (7, [.ref 327, .int 0, .int 0, .int 0, .ref 5, .ref 6, .ref 7, .ref 8, .ref 9, .ref 10, .ref 11, .ref 12, .ref 13, .ref 14, .ref 15, .int 0, .ref 16, .ref 17, .ref 20])), (5, .inr (.inl (0, ((x_rankByWeight rk nt wei))))), (6, .inr (.inl (0, (aC 5 lst sta)))), (7, .inr (.inl (0, (fL 0 ph)))), (8, .inr (.inl (0, (fL (-1) sp)))), (9, .inr (.inl (0, (fL (-1) ce)))), (10, .inr (.inl (0, (fL (-1) du)))), (11, .inr (.inl (0, (fL 0 he)))), (12, .inr (.inl (0, (fL (-1) ri)))), (13, .inr (.inl (0, (fL 0 us)))), (14, .inr (.inl (0, (fL (-1) cm)))), (15, .inr (.inl (0, (fL (-1) lf)))), (20, .inl (3, [.ref 21, .ref 22, .ref 23, .ref 24, .ref 25, .ref 26, .ref 27, .ref 28, .int 0, .int pk])), (21, .inr (.inl (0, (fL (-1) pms)))), (22, .inr (.inl (0, (fL (-1) pmm)))), (23, .inr (.inl (0, (fL 0 pmt)))), (24, .inr (.inl (0, (fL 0 pst)))), (25, .inr (.inl (0, (fL 0 pwa)))), (26, .inr (.inl (0, (fL 0 prs)))), (327, .inl (2, [.int ns, .ref 328, .ref 329, .ref 330, .ref 331, .int nt, .ref 332, .ref 333, .ref 334, .ref 335, .ref 336, .ref 337, .ref 338, .int cel, .ref 339, .ref 340, .ref 341, .ref 342])), (336, .inr (.inl (0, lst))), (338, .inr (.inl (0, wei)))] h0) := by
  show j_V jP d 59 0 [(0, .ref 4), (1, .ref 327)] [] h _
  obtain ⟨lv, elv, L⟩ : ∃ lv, lv = [(0, .ref 4), (1, .ref 327)] ∧ LK lv [(0, .ref 4), (1, .ref 327)] := ⟨_, rfl, LK.rf⟩
  rw [← elv]
  clear elv
  refine j_V.ldL xare_M xare_0 rfl (i := 0) (kd := 2) (v := .ref 4) (pcJ := 1) rfl L rfl rfl rfl ?_
  refine j_V.ldL xare_M xare_1 rfl (i := 1) (kd := 2) (v := .ref 327) (pcJ := 2) rfl L rfl rfl rfl ?_
  refine j_V.putK xare_M xare_2 (ci := 7) (j := 0) (k' := [(4, .inl (7, [.ref 327, .int mi, .int shu, .int bus, .ref 5, .ref 6, .ref 7, .ref 8, .ref 9, .ref 10, .ref 11, .ref 12, .ref 13, .ref 14, .ref 15, .int lks, .ref 16, .ref 17, .ref 20])), (5, .inr (.inl (0, rk))), (6, .inr (.inl (0, sta))), (7, .inr (.inl (0, ph))), (8, .inr (.inl (0, sp))), (9, .inr (.inl (0, ce))), (10, .inr (.inl (0, du))), (11, .inr (.inl (0, he))), (12, .inr (.inl (0, ri))), (13, .inr (.inl (0, us))), (14, .inr (.inl (0, cm))), (15, .inr (.inl (0, lf))), (20, .inl (3, [.ref 21, .ref 22, .ref 23, .ref 24, .ref 25, .ref 26, .ref 27, .ref 28, .int pev, .int pk])), (21, .inr (.inl (0, pms))), (22, .inr (.inl (0, pmm))), (23, .inr (.inl (0, pmt))), (24, .inr (.inl (0, pst))), (25, .inr (.inl (0, pwa))), (26, .inr (.inl (0, prs))), (327, .inl (2, [.int ns, .ref 328, .ref 329, .ref 330, .ref 331, .int nt, .ref 332, .ref 333, .ref 334, .ref 335, .ref 336, .ref 337, .ref 338, .int cel, .ref 339, .ref 340, .ref 341, .ref 342])), (336, .inr (.inl (0, lst))), (338, .inr (.inl (0, wei)))]) rfl K rfl (Nat.le_of_ble_eq_true rfl) rfl (Or.inl rfl) rfl rfl (fun h K => ?_)
  refine j_V.ldL xare_M xare_5 rfl (i := 0) (kd := 2) (v := .ref 4) (pcJ := 6) rfl L rfl rfl rfl ?_
  refine j_V.one xare_M xare_6 (by decide) (pcJ := 7) (stJ := [.int 0, .ref 4]) rfl ?_
  refine j_V.putK xare_M xare_7 (ci := 7) (j := 1) (k' := [(4, .inl (7, [.ref 327, .int 0, .int shu, .int bus, .ref 5, .ref 6, .ref 7, .ref 8, .ref 9, .ref 10, .ref 11, .ref 12, .ref 13, .ref 14, .ref 15, .int lks, .ref 16, .ref 17, .ref 20])), (5, .inr (.inl (0, rk))), (6, .inr (.inl (0, sta))), (7, .inr (.inl (0, ph))), (8, .inr (.inl (0, sp))), (9, .inr (.inl (0, ce))), (10, .inr (.inl (0, du))), (11, .inr (.inl (0, he))), (12, .inr (.inl (0, ri))), (13, .inr (.inl (0, us))), (14, .inr (.inl (0, cm))), (15, .inr (.inl (0, lf))), (20, .inl (3, [.ref 21, .ref 22, .ref 23, .ref 24, .ref 25, .ref 26, .ref 27, .ref 28, .int pev, .int pk])), (21, .inr (.inl (0, pms))), (22, .inr (.inl (0, pmm))), (23, .inr (.inl (0, pmt))), (24, .inr (.inl (0, pst))), (25, .inr (.inl (0, pwa))), (26, .inr (.inl (0, prs))), (327, .inl (2, [.int ns, .ref 328, .ref 329, .ref 330, .ref 331, .int nt, .ref 332, .ref 333, .ref 334, .ref 335, .ref 336, .ref 337, .ref 338, .int cel, .ref 339, .ref 340, .ref 341, .ref 342])), (336, .inr (.inl (0, lst))), (338, .inr (.inl (0, wei)))]) rfl K rfl (Nat.le_of_ble_eq_true rfl) rfl (Or.inl rfl) rfl rfl (fun h K => ?_)
  refine j_V.ldL xare_M xare_10 rfl (i := 0) (kd := 2) (v := .ref 4) (pcJ := 11) rfl L rfl rfl rfl ?_
  refine j_V.one xare_M xare_11 (by decide) (pcJ := 12) (stJ := [.int 0, .ref 4]) rfl ?_
  refine j_V.putK xare_M xare_12 (ci := 7) (j := 2) (k' := [(4, .inl (7, [.ref 327, .int 0, .int 0, .int bus, .ref 5, .ref 6, .ref 7, .ref 8, .ref 9, .ref 10, .ref 11, .ref 12, .ref 13, .ref 14, .ref 15, .int lks, .ref 16, .ref 17, .ref 20])), (5, .inr (.inl (0, rk))), (6, .inr (.inl (0, sta))), (7, .inr (.inl (0, ph))), (8, .inr (.inl (0, sp))), (9, .inr (.inl (0, ce))), (10, .inr (.inl (0, du))), (11, .inr (.inl (0, he))), (12, .inr (.inl (0, ri))), (13, .inr (.inl (0, us))), (14, .inr (.inl (0, cm))), (15, .inr (.inl (0, lf))), (20, .inl (3, [.ref 21, .ref 22, .ref 23, .ref 24, .ref 25, .ref 26, .ref 27, .ref 28, .int pev, .int pk])), (21, .inr (.inl (0, pms))), (22, .inr (.inl (0, pmm))), (23, .inr (.inl (0, pmt))), (24, .inr (.inl (0, pst))), (25, .inr (.inl (0, pwa))), (26, .inr (.inl (0, prs))), (327, .inl (2, [.int ns, .ref 328, .ref 329, .ref 330, .ref 331, .int nt, .ref 332, .ref 333, .ref 334, .ref 335, .ref 336, .ref 337, .ref 338, .int cel, .ref 339, .ref 340, .ref 341, .ref 342])), (336, .inr (.inl (0, lst))), (338, .inr (.inl (0, wei)))]) rfl K rfl (Nat.le_of_ble_eq_true rfl) rfl (Or.inl rfl) rfl rfl (fun h K => ?_)
  refine j_V.ldL xare_M xare_15 rfl (i := 0) (kd := 2) (v := .ref 4) (pcJ := 16) rfl L rfl rfl rfl ?_
  refine j_V.one xare_M xare_16 (by decide) (pcJ := 17) (stJ := [.int 0, .ref 4]) rfl ?_
  refine j_V.putK xare_M xare_17 (ci := 7) (j := 3) (k' := [(4, .inl (7, [.ref 327, .int 0, .int 0, .int 0, .ref 5, .ref 6, .ref 7, .ref 8, .ref 9, .ref 10, .ref 11, .ref 12, .ref 13, .ref 14, .ref 15, .int lks, .ref 16, .ref 17, .ref 20])), (5, .inr (.inl (0, rk))), (6, .inr (.inl (0, sta))), (7, .inr (.inl (0, ph))), (8, .inr (.inl (0, sp))), (9, .inr (.inl (0, ce))), (10, .inr (.inl (0, du))), (11, .inr (.inl (0, he))), (12, .inr (.inl (0, ri))), (13, .inr (.inl (0, us))), (14, .inr (.inl (0, cm))), (15, .inr (.inl (0, lf))), (20, .inl (3, [.ref 21, .ref 22, .ref 23, .ref 24, .ref 25, .ref 26, .ref 27, .ref 28, .int pev, .int pk])), (21, .inr (.inl (0, pms))), (22, .inr (.inl (0, pmm))), (23, .inr (.inl (0, pmt))), (24, .inr (.inl (0, pst))), (25, .inr (.inl (0, pwa))), (26, .inr (.inl (0, prs))), (327, .inl (2, [.int ns, .ref 328, .ref 329, .ref 330, .ref 331, .int nt, .ref 332, .ref 333, .ref 334, .ref 335, .ref 336, .ref 337, .ref 338, .int cel, .ref 339, .ref 340, .ref 341, .ref 342])), (336, .inr (.inl (0, lst))), (338, .inr (.inl (0, wei)))]) rfl K rfl (Nat.le_of_ble_eq_true rfl) rfl (Or.inl rfl) rfl rfl (fun h K => ?_)
  refine j_V.ldL xare_M xare_20 rfl (i := 0) (kd := 2) (v := .ref 4) (pcJ := 21) rfl L rfl rfl rfl ?_
  refine j_V.one xare_M xare_21 (by decide) (pcJ := 22) (stJ := [.int 0, .ref 4]) rfl ?_
  refine j_V.putK xare_M xare_22 (ci := 7) (j := 15) (k' := [(4, .inl (7, [.ref 327, .int 0, .int 0, .int 0, .ref 5, .ref 6, .ref 7, .ref 8, .ref 9, .ref 10, .ref 11, .ref 12, .ref 13, .ref 14, .ref 15, .int 0, .ref 16, .ref 17, .ref 20])), (5, .inr (.inl (0, rk))), (6, .inr (.inl (0, sta))), (7, .inr (.inl (0, ph))), (8, .inr (.inl (0, sp))), (9, .inr (.inl (0, ce))), (10, .inr (.inl (0, du))), (11, .inr (.inl (0, he))), (12, .inr (.inl (0, ri))), (13, .inr (.inl (0, us))), (14, .inr (.inl (0, cm))), (15, .inr (.inl (0, lf))), (20, .inl (3, [.ref 21, .ref 22, .ref 23, .ref 24, .ref 25, .ref 26, .ref 27, .ref 28, .int pev, .int pk])), (21, .inr (.inl (0, pms))), (22, .inr (.inl (0, pmm))), (23, .inr (.inl (0, pmt))), (24, .inr (.inl (0, pst))), (25, .inr (.inl (0, pwa))), (26, .inr (.inl (0, prs))), (327, .inl (2, [.int ns, .ref 328, .ref 329, .ref 330, .ref 331, .int nt, .ref 332, .ref 333, .ref 334, .ref 335, .ref 336, .ref 337, .ref 338, .int cel, .ref 339, .ref 340, .ref 341, .ref 342])), (336, .inr (.inl (0, lst))), (338, .inr (.inl (0, wei)))]) rfl K rfl (Nat.le_of_ble_eq_true rfl) rfl (Or.inl rfl) rfl rfl (fun h K => ?_)
  refine j_V.ldL xare_M xare_25 rfl (i := 1) (kd := 2) (v := .ref 327) (pcJ := 26) rfl L rfl rfl rfl ?_
  refine j_V.getK xare_M xare_26 (ci := 2) (j := 10) rfl K rfl rfl ?_
  refine j_V.one xare_M xare_29 (by decide) (pcJ := 30) (stJ := [.int 0, .ref 336]) rfl ?_
  refine j_V.ldL xare_M xare_30 rfl (i := 0) (kd := 2) (v := .ref 4) (pcJ := 31) rfl L rfl rfl rfl ?_
  refine j_V.getK xare_M xare_31 (ci := 7) (j := 5) rfl K rfl rfl ?_
  refine j_V.one xare_M xare_34 (by decide) (pcJ := 35) (stJ := [.int 0, .ref 6, .int 0, .ref 336]) rfl ?_
  refine j_V.one xare_M xare_35 (by decide) (pcJ := 36) (stJ := [.int 5, .int 0, .ref 6, .int 0, .ref 336]) rfl ?_
  refine j_V.acp xare_M xare_36 rfl rfl K rfl rfl rfl (fun h K => ?_)
  refine j_V.ldL xare_M xare_39 rfl (i := 0) (kd := 2) (v := .ref 4) (pcJ := 40) rfl L rfl rfl rfl ?_
  refine j_V.getK xare_M xare_40 (ci := 7) (j := 6) rfl K rfl rfl ?_
  refine j_V.one xare_M xare_43 (by decide) (pcJ := 44) (stJ := [.int 0, .ref 7]) rfl ?_
  refine j_V.fil rfl xare_M xare_44 rfl rfl (Nat.le_of_ble_eq_true rfl) K rfl rfl (fun h K => ?_)
  refine j_V.ldL xare_M xare_47 rfl (i := 0) (kd := 2) (v := .ref 4) (pcJ := 48) rfl L rfl rfl rfl ?_
  refine j_V.getK xare_M xare_48 (ci := 7) (j := 7) rfl K rfl rfl ?_
  refine j_V.one xare_M xare_51 (by decide) (pcJ := 52) (stJ := [.int (-1), .ref 8]) rfl ?_
  refine j_V.fil rfl xare_M xare_52 rfl rfl (Nat.le_of_ble_eq_true rfl) K rfl rfl (fun h K => ?_)
  refine j_V.ldL xare_M xare_55 rfl (i := 0) (kd := 2) (v := .ref 4) (pcJ := 56) rfl L rfl rfl rfl ?_
  refine j_V.getK xare_M xare_56 (ci := 7) (j := 8) rfl K rfl rfl ?_
  refine j_V.one xare_M xare_59 (by decide) (pcJ := 60) (stJ := [.int (-1), .ref 9]) rfl ?_
  refine j_V.fil rfl xare_M xare_60 rfl rfl (Nat.le_of_ble_eq_true rfl) K rfl rfl (fun h K => ?_)
  refine j_V.ldL xare_M xare_63 rfl (i := 0) (kd := 2) (v := .ref 4) (pcJ := 64) rfl L rfl rfl rfl ?_
  refine j_V.getK xare_M xare_64 (ci := 7) (j := 9) rfl K rfl rfl ?_
  refine j_V.one xare_M xare_67 (by decide) (pcJ := 68) (stJ := [.int (-1), .ref 10]) rfl ?_
  refine j_V.fil rfl xare_M xare_68 rfl rfl (Nat.le_of_ble_eq_true rfl) K rfl rfl (fun h K => ?_)
  refine j_V.ldL xare_M xare_71 rfl (i := 0) (kd := 2) (v := .ref 4) (pcJ := 72) rfl L rfl rfl rfl ?_
  refine j_V.getK xare_M xare_72 (ci := 7) (j := 10) rfl K rfl rfl ?_
  refine j_V.one xare_M xare_75 (by decide) (pcJ := 76) (stJ := [.int 0, .ref 11]) rfl ?_
  refine j_V.fil rfl xare_M xare_76 rfl rfl (Nat.le_of_ble_eq_true rfl) K rfl rfl (fun h K => ?_)
  refine j_V.ldL xare_M xare_79 rfl (i := 0) (kd := 2) (v := .ref 4) (pcJ := 80) rfl L rfl rfl rfl ?_
  refine j_V.getK xare_M xare_80 (ci := 7) (j := 11) rfl K rfl rfl ?_
  refine j_V.one xare_M xare_83 (by decide) (pcJ := 84) (stJ := [.int (-1), .ref 12]) rfl ?_
  refine j_V.fil rfl xare_M xare_84 rfl rfl (Nat.le_of_ble_eq_true rfl) K rfl rfl (fun h K => ?_)
  refine j_V.ldL xare_M xare_87 rfl (i := 0) (kd := 2) (v := .ref 4) (pcJ := 88) rfl L rfl rfl rfl ?_
  refine j_V.getK xare_M xare_88 (ci := 7) (j := 12) rfl K rfl rfl ?_
  refine j_V.one xare_M xare_91 (by decide) (pcJ := 92) (stJ := [.int 0, .ref 13]) rfl ?_
  refine j_V.fil rfl xare_M xare_92 rfl rfl (Nat.le_of_ble_eq_true rfl) K rfl rfl (fun h K => ?_)
  refine j_V.ldL xare_M xare_95 rfl (i := 0) (kd := 2) (v := .ref 4) (pcJ := 96) rfl L rfl rfl rfl ?_
  refine j_V.getK xare_M xare_96 (ci := 7) (j := 13) rfl K rfl rfl ?_
  refine j_V.one xare_M xare_99 (by decide) (pcJ := 100) (stJ := [.int (-1), .ref 14]) rfl ?_
  refine j_V.fil rfl xare_M xare_100 rfl rfl (Nat.le_of_ble_eq_true rfl) K rfl rfl (fun h K => ?_)
  refine j_V.ldL xare_M xare_103 rfl (i := 0) (kd := 2) (v := .ref 4) (pcJ := 104) rfl L rfl rfl rfl ?_
  refine j_V.getK xare_M xare_104 (ci := 7) (j := 14) rfl K rfl rfl ?_
  refine j_V.one xare_M xare_107 (by decide) (pcJ := 108) (stJ := [.int (-1), .ref 15]) rfl ?_
  refine j_V.fil rfl xare_M xare_108 rfl rfl (Nat.le_of_ble_eq_true rfl) K rfl rfl (fun h K => ?_)
  refine j_V.ldL xare_M xare_111 rfl (i := 0) (kd := 2) (v := .ref 4) (pcJ := 112) rfl L rfl rfl rfl ?_
  refine j_V.cl xare_M xare_112 rfl (md := 3) (mj := 60) rfl (by decide) xa203_M (As := [.ref 4]) (rest := []) (jk_spl3 (K.at rfl) rfl rfl rfl (Nat.le_of_ble_eq_true rfl) (Nat.le_of_ble_eq_true rfl)) (fun d => xa203_ok (K.fi [4, 5, 327, 338] rfl rfl)) ?_
  rintro r h9 ⟨rfl, K9⟩
  have K : KN h9 [(4, .inl (7, [.ref 327, .int 0, .int 0, .int 0, .ref 5, .ref 6, .ref 7, .ref 8, .ref 9, .ref 10, .ref 11, .ref 12, .ref 13, .ref 14, .ref 15, .int 0, .ref 16, .ref 17, .ref 20])), (5, .inr (.inl (0, ((x_rankByWeight rk nt wei))))), (6, .inr (.inl (0, (aC 5 lst sta)))), (7, .inr (.inl (0, (fL 0 ph)))), (8, .inr (.inl (0, (fL (-1) sp)))), (9, .inr (.inl (0, (fL (-1) ce)))), (10, .inr (.inl (0, (fL (-1) du)))), (11, .inr (.inl (0, (fL 0 he)))), (12, .inr (.inl (0, (fL (-1) ri)))), (13, .inr (.inl (0, (fL 0 us)))), (14, .inr (.inl (0, (fL (-1) cm)))), (15, .inr (.inl (0, (fL (-1) lf)))), (20, .inl (3, [.ref 21, .ref 22, .ref 23, .ref 24, .ref 25, .ref 26, .ref 27, .ref 28, .int pev, .int pk])), (21, .inr (.inl (0, pms))), (22, .inr (.inl (0, pmm))), (23, .inr (.inl (0, pmt))), (24, .inr (.inl (0, pst))), (25, .inr (.inl (0, pwa))), (26, .inr (.inl (0, prs))), (327, .inl (2, [.int ns, .ref 328, .ref 329, .ref 330, .ref 331, .int nt, .ref 332, .ref 333, .ref 334, .ref 335, .ref 336, .ref 337, .ref 338, .int cel, .ref 339, .ref 340, .ref 341, .ref 342])), (336, .inr (.inl (0, lst))), (338, .inr (.inl (0, wei)))] h0 := K.mg K9 rfl rfl
  clear K9
  show j_V jP _ 59 115 lv [] h9 _
  refine j_V.ldL xare_M xare_115 rfl (i := 0) (kd := 2) (v := .ref 4) (pcJ := 116) rfl L rfl rfl rfl ?_
  refine j_V.getK xare_M xare_116 (ci := 7) (j := 18) rfl K rfl rfl ?_
  refine j_V.cl xare_M xare_119 rfl (md := 3) (mj := 27) rfl (by decide) xapr_M (As := [.ref 20]) (rest := []) (jk_spl3 (K.at rfl) rfl rfl rfl (Nat.le_of_ble_eq_true rfl) (Nat.le_of_ble_eq_true rfl)) (fun d => xapr_ok (K.fi [20, 21, 22, 23, 24, 25, 26] rfl rfl)) ?_
  rintro r h9 ⟨rfl, K9⟩
  have K : KN h9 [(4, .inl (7, [.ref 327, .int 0, .int 0, .int 0, .ref 5, .ref 6, .ref 7, .ref 8, .ref 9, .ref 10, .ref 11, .ref 12, .ref 13, .ref 14, .ref 15, .int 0, .ref 16, .ref 17, .ref 20])), (5, .inr (.inl (0, ((x_rankByWeight rk nt wei))))), (6, .inr (.inl (0, (aC 5 lst sta)))), (7, .inr (.inl (0, (fL 0 ph)))), (8, .inr (.inl (0, (fL (-1) sp)))), (9, .inr (.inl (0, (fL (-1) ce)))), (10, .inr (.inl (0, (fL (-1) du)))), (11, .inr (.inl (0, (fL 0 he)))), (12, .inr (.inl (0, (fL (-1) ri)))), (13, .inr (.inl (0, (fL 0 us)))), (14, .inr (.inl (0, (fL (-1) cm)))), (15, .inr (.inl (0, (fL (-1) lf)))), (20, .inl (3, [.ref 21, .ref 22, .ref 23, .ref 24, .ref 25, .ref 26, .ref 27, .ref 28, .int 0, .int pk])), (21, .inr (.inl (0, (fL (-1) pms)))), (22, .inr (.inl (0, (fL (-1) pmm)))), (23, .inr (.inl (0, (fL 0 pmt)))), (24, .inr (.inl (0, (fL 0 pst)))), (25, .inr (.inl (0, (fL 0 pwa)))), (26, .inr (.inl (0, (fL 0 prs)))), (327, .inl (2, [.int ns, .ref 328, .ref 329, .ref 330, .ref 331, .int nt, .ref 332, .ref 333, .ref 334, .ref 335, .ref 336, .ref 337, .ref 338, .int cel, .ref 339, .ref 340, .ref 341, .ref 342])), (336, .inr (.inl (0, lst))), (338, .inr (.inl (0, wei)))] h0 := K.mg K9 rfl rfl
  clear K9
  show j_V jP _ 59 122 lv [] h9 _
  exact j_V.ret xare_M xare_122 rfl rfl ⟨rfl, K⟩

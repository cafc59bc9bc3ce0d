/-! the class's readManner: written by wip/jk/gen_manner.py -/
set_option maxRecDepth 100000 in
theorem xm_M : j_meth jP 38 = some (yX4_readManner, cX4_readManner, 2, (some .boolean), 1, false, 4) := rfl
set_option maxRecDepth 100000 in
theorem xm_0 : j_code jP 38 0 = some (.aload_n 0) := rfl
set_option maxRecDepth 100000 in
theorem xm_1 : j_code jP 38 1 = some (.getfield 22) := rfl
set_option maxRecDepth 100000 in
theorem xm_4 : j_code jP 38 4 = some (.getfield 127) := rfl
set_option maxRecDepth 100000 in
theorem xm_7 : j_code jP 38 7 = some (.iload_n 1) := rfl
set_option maxRecDepth 100000 in
theorem xm_8 : j_code jP 38 8 = some (.iconst 0) := rfl
set_option maxRecDepth 100000 in
theorem xm_9 : j_code jP 38 9 = some (.iastore) := rfl
set_option maxRecDepth 100000 in
theorem xm_10 : j_code jP 38 10 = some (.aload_n 0) := rfl
set_option maxRecDepth 100000 in
theorem xm_11 : j_code jP 38 11 = some (.getfield 22) := rfl
set_option maxRecDepth 100000 in
theorem xm_14 : j_code jP 38 14 = some (.getfield 130) := rfl
set_option maxRecDepth 100000 in
theorem xm_17 : j_code jP 38 17 = some (.iload_n 1) := rfl
set_option maxRecDepth 100000 in
theorem xm_18 : j_code jP 38 18 = some (.iconst 1) := rfl
set_option maxRecDepth 100000 in
theorem xm_19 : j_code jP 38 19 = some (.iastore) := rfl
set_option maxRecDepth 100000 in
theorem xm_20 : j_code jP 38 20 = some (.aload_n 0) := rfl
set_option maxRecDepth 100000 in
theorem xm_21 : j_code jP 38 21 = some (.getfield 18) := rfl
set_option maxRecDepth 100000 in
theorem xm_24 : j_code jP 38 24 = some (.invokevirtual 37) := rfl
set_option maxRecDepth 100000 in
theorem xm_27 : j_code jP 38 27 = some (.aload_n 0) := rfl
set_option maxRecDepth 100000 in
theorem xm_28 : j_code jP 38 28 = some (.getfield 18) := rfl
set_option maxRecDepth 100000 in
theorem xm_31 : j_code jP 38 31 = some (.ldc2_w 133) := rfl
set_option maxRecDepth 100000 in
theorem xm_34 : j_code jP 38 34 = some (.invokevirtual 45) := rfl
set_option maxRecDepth 100000 in
theorem xm_37 : j_code jP 38 37 = some (.ifCond .eq 37) := rfl
set_option maxRecDepth 100000 in
theorem xm_40 : j_code jP 38 40 = some (.aload_n 0) := rfl
set_option maxRecDepth 100000 in
theorem xm_41 : j_code jP 38 41 = some (.iconst 0) := rfl
set_option maxRecDepth 100000 in
theorem xm_42 : j_code jP 38 42 = some (.iconst 3) := rfl
set_option maxRecDepth 100000 in
theorem xm_43 : j_code jP 38 43 = some (.invokevirtual 79) := rfl
set_option maxRecDepth 100000 in
theorem xm_46 : j_code jP 38 46 = some (.ifCond .ne 5) := rfl
set_option maxRecDepth 100000 in
theorem xm_49 : j_code jP 38 49 = some (.iconst 0) := rfl
set_option maxRecDepth 100000 in
theorem xm_50 : j_code jP 38 50 = some (.ireturn) := rfl
set_option maxRecDepth 100000 in
theorem xm_51 : j_code jP 38 51 = some (.aload_n 0) := rfl
set_option maxRecDepth 100000 in
theorem xm_52 : j_code jP 38 52 = some (.getfield 22) := rfl
set_option maxRecDepth 100000 in
theorem xm_55 : j_code jP 38 55 = some (.getfield 127) := rfl
set_option maxRecDepth 100000 in
theorem xm_58 : j_code jP 38 58 = some (.iload_n 1) := rfl
set_option maxRecDepth 100000 in
theorem xm_59 : j_code jP 38 59 = some (.aload_n 0) := rfl
set_option maxRecDepth 100000 in
theorem xm_60 : j_code jP 38 60 = some (.getfield 18) := rfl
set_option maxRecDepth 100000 in
theorem xm_63 : j_code jP 38 63 = some (.getfield 87) := rfl
set_option maxRecDepth 100000 in
theorem xm_66 : j_code jP 38 66 = some (.iastore) := rfl
set_option maxRecDepth 100000 in
theorem xm_67 : j_code jP 38 67 = some (.aload_n 0) := rfl
set_option maxRecDepth 100000 in
theorem xm_68 : j_code jP 38 68 = some (.getfield 18) := rfl
set_option maxRecDepth 100000 in
theorem xm_71 : j_code jP 38 71 = some (.invokevirtual 37) := rfl
set_option maxRecDepth 100000 in
theorem xm_74 : j_code jP 38 74 = some (.aload_n 0) := rfl
set_option maxRecDepth 100000 in
theorem xm_75 : j_code jP 38 75 = some (.getfield 18) := rfl
set_option maxRecDepth 100000 in
theorem xm_78 : j_code jP 38 78 = some (.ldc2_w 135) := rfl
set_option maxRecDepth 100000 in
theorem xm_81 : j_code jP 38 81 = some (.invokevirtual 45) := rfl
set_option maxRecDepth 100000 in
theorem xm_84 : j_code jP 38 84 = some (.ifCond .eq 38) := rfl
set_option maxRecDepth 100000 in
theorem xm_87 : j_code jP 38 87 = some (.aload_n 0) := rfl
set_option maxRecDepth 100000 in
theorem xm_88 : j_code jP 38 88 = some (.iconst 1) := rfl
set_option maxRecDepth 100000 in
theorem xm_89 : j_code jP 38 89 = some (.bipush 9) := rfl
set_option maxRecDepth 100000 in
theorem xm_91 : j_code jP 38 91 = some (.invokevirtual 79) := rfl
set_option maxRecDepth 100000 in
theorem xm_94 : j_code jP 38 94 = some (.ifCond .ne 5) := rfl
set_option maxRecDepth 100000 in
theorem xm_97 : j_code jP 38 97 = some (.iconst 0) := rfl
set_option maxRecDepth 100000 in
theorem xm_98 : j_code jP 38 98 = some (.ireturn) := rfl
set_option maxRecDepth 100000 in
theorem xm_99 : j_code jP 38 99 = some (.aload_n 0) := rfl
set_option maxRecDepth 100000 in
theorem xm_100 : j_code jP 38 100 = some (.getfield 22) := rfl
set_option maxRecDepth 100000 in
theorem xm_103 : j_code jP 38 103 = some (.getfield 130) := rfl
set_option maxRecDepth 100000 in
theorem xm_106 : j_code jP 38 106 = some (.iload_n 1) := rfl
set_option maxRecDepth 100000 in
theorem xm_107 : j_code jP 38 107 = some (.aload_n 0) := rfl
set_option maxRecDepth 100000 in
theorem xm_108 : j_code jP 38 108 = some (.getfield 18) := rfl
set_option maxRecDepth 100000 in
theorem xm_111 : j_code jP 38 111 = some (.getfield 87) := rfl
set_option maxRecDepth 100000 in
theorem xm_114 : j_code jP 38 114 = some (.iastore) := rfl
set_option maxRecDepth 100000 in
theorem xm_115 : j_code jP 38 115 = some (.aload_n 0) := rfl
set_option maxRecDepth 100000 in
theorem xm_116 : j_code jP 38 116 = some (.getfield 18) := rfl
set_option maxRecDepth 100000 in
theorem xm_119 : j_code jP 38 119 = some (.invokevirtual 37) := rfl
set_option maxRecDepth 100000 in
theorem xm_122 : j_code jP 38 122 = some (.aload_n 0) := rfl
set_option maxRecDepth 100000 in
theorem xm_123 : j_code jP 38 123 = some (.getfield 18) := rfl
set_option maxRecDepth 100000 in
theorem xm_126 : j_code jP 38 126 = some (.getfield 40) := rfl
set_option maxRecDepth 100000 in
theorem xm_129 : j_code jP 38 129 = some (.iconst 3) := rfl
set_option maxRecDepth 100000 in
theorem xm_130 : j_code jP 38 130 = some (.if_icmp .eq 10) := rfl
set_option maxRecDepth 100000 in
theorem xm_133 : j_code jP 38 133 = some (.aload_n 0) := rfl
set_option maxRecDepth 100000 in
theorem xm_134 : j_code jP 38 134 = some (.invokevirtual 58) := rfl
set_option maxRecDepth 100000 in
theorem xm_137 : j_code jP 38 137 = some (.ifCond .eq 7) := rfl
set_option maxRecDepth 100000 in
theorem xm_140 : j_code jP 38 140 = some (.iconst 1) := rfl
set_option maxRecDepth 100000 in
theorem xm_141 : j_code jP 38 141 = some (.goto 4) := rfl
set_option maxRecDepth 100000 in
theorem xm_144 : j_code jP 38 144 = some (.iconst 0) := rfl
set_option maxRecDepth 100000 in
theorem xm_145 : j_code jP 38 145 = some (.ireturn) := rfl
def PMA (ln ce : Int32) (e ns nt : Nat) (l : List Int32) (h0 : J_H) (R : rX) (rv : Option Value) (h' : J_H) : Prop := rv = some (.int (bif R.1 then 1 else 0)) ∧ KN h' [(1, .inl (8, [.ref 2, .int ln, .int (nI e), .int (nI R.2.2.1.1), .int R.2.2.1.2.1, .int R.2.2.1.2.2.1, .long R.2.2.1.2.2.2.1, .int R.2.2.1.2.2.2.2])), (2, .inr (.inl (1, l))), (3, .inl (4, [.ref 1, .ref 327, .int R.2.1.1, .int R.2.1.2])), (327, .inl (2, [.int (nI ns), .ref 328, .ref 329, .ref 330, .ref 331, .int (nI nt), .ref 332, .ref 333, .ref 334, .ref 335, .ref 336, .ref 337, .ref 338, .int ce, .ref 339, .ref 340, .ref 341, .ref 342])), (337, .inr (.inl (0, R.2.2.2.1))), (338, .inr (.inl (0, R.2.2.2.2)))] h0
theorem xm_eA {ln fa pa ce : Int32} {e ns nt t : Nat} {l : List Int32} {h h0 : J_H} {d : Nat} {z : rK} {sl we : List Int32} (K : KN h [(1, .inl (8, [.ref 2, .int ln, .int (nI e), .int (nI z.1), .int z.2.1, .int z.2.2.1, .long z.2.2.2.1, .int z.2.2.2.2])), (2, .inr (.inl (1, l))), (3, .inl (4, [.ref 1, .ref 327, .int fa, .int pa])), (327, .inl (2, [.int (nI ns), .ref 328, .ref 329, .ref 330, .ref 331, .int (nI nt), .ref 332, .ref 333, .ref 334, .ref 335, .ref 336, .ref 337, .ref 338, .int ce, .ref 339, .ref 340, .ref 341, .ref 342])), (337, .inr (.inl (0, sl))), (338, .inr (.inl (0, we)))] h0) : j_W jP (d + 1 + 1) 38 122 [(0, .ref 3), (1, .int (nI t))] [] h (PMA ln ce e ns nt l h0 (mE fa pa z sl we)) := by
  unfold mE
  refine j_W.one xm_M xm_122 (by decide) (pcJ := 123) (stJ := [.ref 3]) rfl ?_
  refine j_W.getK xm_M xm_123 (ci := 4) (j := 0) rfl K rfl rfl ?_
  refine j_W.getK xm_M xm_126 (ci := 8) (j := 4) rfl K rfl rfl ?_
  refine j_W.one xm_M xm_129 (by decide) (pcJ := 130) (stJ := [.int 3, .int z.2.1]) rfl ?_
  refine j_W.icmp xm_M xm_130 (t := 140) rfl (fun c => ?_) (fun c => ?_)
  · have c : z.2.1 = 3 := by simpa [j_cond] using c
    rw [if_pos c]
    refine j_W.one xm_M xm_140 (by decide) (pcJ := 141) (stJ := [.int 1]) rfl ?_
    refine j_W.gto xm_M xm_141 (t := 145) rfl ?_
    refine j_W.ret xm_M xm_145 rfl rfl ⟨rfl, K⟩
  · have c : ¬ z.2.1 = 3 := by simpa [j_cond] using c
    rw [if_neg c]
    clear c
    refine j_W.one xm_M xm_133 (by decide) (pcJ := 134) (stJ := [.ref 3]) rfl ?_
    refine j_W.call xm_M xm_134 rfl (md := 3) (mj := 45) rfl (by decide) xh_M (As := [.ref 3]) (rest := []) (jk_spl3 (K.at rfl) rfl rfl rfl (Nat.le_of_ble_eq_true rfl) (Nat.le_of_ble_eq_true rfl)) (xh_ok (K.sub ⟨rfl, rfl, trivial⟩)) ?_
    rintro r h9 ⟨rfl, K9⟩
    have K : KN h9 [(1, .inl (8, [.ref 2, .int ln, .int (nI e), .int (nI z.1), .int z.2.1, .int z.2.2.1, .long z.2.2.2.1, .int z.2.2.2.2])), (2, .inr (.inl (1, l))), (3, .inl (4, [.ref 1, .ref 327, .int (if z.2.1 = 4 then 1 else 2), .int z.2.2.1])), (327, .inl (2, [.int (nI ns), .ref 328, .ref 329, .ref 330, .ref 331, .int (nI nt), .ref 332, .ref 333, .ref 334, .ref 335, .ref 336, .ref 337, .ref 338, .int ce, .ref 339, .ref 340, .ref 341, .ref 342])), (337, .inr (.inl (0, sl))), (338, .inr (.inl (0, we)))] h0 := K.go K9 rfl rfl rfl
    clear K9
    show j_W jP _ 38 137 [(0, .ref 3), (1, .int (nI t))] [.int 0] h9 _
    refine j_W.ifc xm_M xm_137 (t := 144) rfl (fun c => ?_) (fun c => ?_)
    · refine j_W.one xm_M xm_144 (by decide) (pcJ := 145) (stJ := [.int 0]) rfl ?_
      refine j_W.ret xm_M xm_145 rfl rfl ⟨rfl, K⟩
    · cases c
theorem xm_wA {ln fa pa ce : Int32} {e ns nt t : Nat} {l : List Int32} {h h0 : J_H} {d : Nat} {z : rK} {sl we : List Int32} (hl : l.length = 700) (he : e ≤ 700) (hp : z.1 ≤ e) (ht : t < 5) (h1 : sl.length = 5) (h2 : we.length = 5) (K : KN h [(1, .inl (8, [.ref 2, .int ln, .int (nI e), .int (nI z.1), .int z.2.1, .int z.2.2.1, .long z.2.2.2.1, .int z.2.2.2.2])), (2, .inr (.inl (1, l))), (3, .inl (4, [.ref 1, .ref 327, .int fa, .int pa])), (327, .inl (2, [.int (nI ns), .ref 328, .ref 329, .ref 330, .ref 331, .int (nI nt), .ref 332, .ref 333, .ref 334, .ref 335, .ref 336, .ref 337, .ref 338, .int ce, .ref 339, .ref 340, .ref 341, .ref 342])), (337, .inr (.inl (0, sl))), (338, .inr (.inl (0, we)))] h0) : j_W jP (d + 1 + 1 + 1) 38 74 [(0, .ref 3), (1, .int (nI t))] [] h (PMA ln ce e ns nt l h0 (mW l e t fa pa z sl we)) := by
  unfold mW
  refine j_W.one xm_M xm_74 (by decide) (pcJ := 75) (stJ := [.ref 3]) rfl ?_
  refine j_W.getK xm_M xm_75 (ci := 4) (j := 0) rfl K rfl rfl ?_
  refine j_W.one xm_M xm_78 (by decide) (pcJ := 81) (stJ := [.long 131277443786868, .ref 1]) rfl ?_
  refine j_W.call xm_M xm_81 rfl (md := 3) (mj := 108) rfl (by decide) xw_M (As := [.ref 1, .long 131277443786868]) (rest := []) (jk_spl3 (K.at rfl) rfl rfl rfl (Nat.le_of_ble_eq_true rfl) (Nat.le_of_ble_eq_true rfl)) (xw_ok (K.sub ⟨rfl, trivial⟩)) ?_
  rintro r hz ⟨rfl, ez⟩
  rw [ez]
  clear ez
  show j_W jP _ 38 84 [(0, .ref 3), (1, .int (nI t))] [.int (if z.2.1 = 1 ∧ z.2.2.2.1 = 131277443786868 then 1 else 0)] h _
  rcases Decidable.em (z.2.1 = 1 ∧ z.2.2.2.1 = 131277443786868) with hw | hw
  · rw [if_pos hw, if_pos hw]
    refine j_W.ifc xm_M xm_84 (t := 122) rfl (fun c => ?_) (fun c => ?_)
    · cases c
    · clear c
      refine j_W.one xm_M xm_87 (by decide) (pcJ := 88) (stJ := [.ref 3]) rfl ?_
      refine j_W.one xm_M xm_88 (by decide) (pcJ := 89) (stJ := [.int 1, .ref 3]) rfl ?_
      refine j_W.one xm_M xm_89 (by decide) (pcJ := 91) (stJ := [.int 9, .int 1, .ref 3]) rfl ?_
      refine j_W.call xm_M xm_91 rfl (md := 3) (mj := 39) rfl (by decide) xt_M (As := [.ref 3, .int 1, .int 9]) (rest := []) (jk_spl3 (K.at rfl) rfl rfl rfl (Nat.le_of_ble_eq_true rfl) (Nat.le_of_ble_eq_true rfl)) (xt_ok hl he hp (K.sub ⟨rfl, rfl, rfl, trivial⟩)) ?_
      rintro r h9 ⟨rfl, K9⟩
      have K : KN h9 [(1, .inl (8, [.ref 2, .int ln, .int (nI e), .int (nI (aT l e z).1), .int (aT l e z).2.1, .int (aT l e z).2.2.1, .long (aT l e z).2.2.2.1, .int (aT l e z).2.2.2.2])), (2, .inr (.inl (1, l))), (3, .inl (4, [.ref 1, .ref 327, .int (bif (nOk (aT l e z).2.1 (aT l e z).2.2.2.2 1 9) then fa else nF (aT l e z).2.1), .int (bif (nOk (aT l e z).2.1 (aT l e z).2.2.2.2 1 9) then pa else (aT l e z).2.2.1)])), (327, .inl (2, [.int (nI ns), .ref 328, .ref 329, .ref 330, .ref 331, .int (nI nt), .ref 332, .ref 333, .ref 334, .ref 335, .ref 336, .ref 337, .ref 338, .int ce, .ref 339, .ref 340, .ref 341, .ref 342])), (337, .inr (.inl (0, sl))), (338, .inr (.inl (0, we)))] h0 := K.go K9 rfl rfl rfl
      clear K9
      show j_W jP _ 38 94 [(0, .ref 3), (1, .int (nI t))] [.int (bif (nOk (aT l e z).2.1 (aT l e z).2.2.2.2 1 9) then 1 else 0)] h9 _
      cases hb : nOk (aT l e z).2.1 (aT l e z).2.2.2.2 1 9 with
      | true =>
        rw [hb] at K
        have K : KN h9 [(1, .inl (8, [.ref 2, .int ln, .int (nI e), .int (nI (aT l e z).1), .int (aT l e z).2.1, .int (aT l e z).2.2.1, .long (aT l e z).2.2.2.1, .int (aT l e z).2.2.2.2])), (2, .inr (.inl (1, l))), (3, .inl (4, [.ref 1, .ref 327, .int fa, .int pa])), (327, .inl (2, [.int (nI ns), .ref 328, .ref 329, .ref 330, .ref 331, .int (nI nt), .ref 332, .ref 333, .ref 334, .ref 335, .ref 336, .ref 337, .ref 338, .int ce, .ref 339, .ref 340, .ref 341, .ref 342])), (337, .inr (.inl (0, sl))), (338, .inr (.inl (0, we)))] h0 := K
        show j_W jP _ 38 94 [(0, .ref 3), (1, .int (nI t))] [.int 1] h9 _
        refine j_W.ifc xm_M xm_94 (t := 99) rfl (fun c => ?_) (fun c => ?_)
        · clear c
          refine j_W.one xm_M xm_99 (by decide) (pcJ := 100) (stJ := [.ref 3]) rfl ?_
          refine j_W.getK xm_M xm_100 (ci := 4) (j := 1) rfl K rfl rfl ?_
          refine j_W.getK xm_M xm_103 (ci := 2) (j := 12) rfl K rfl rfl ?_
          refine j_W.one xm_M xm_106 (by decide) (pcJ := 107) (stJ := [.int (nI t), .ref 338]) rfl ?_
          refine j_W.one xm_M xm_107 (by decide) (pcJ := 108) (stJ := [.ref 3, .int (nI t), .ref 338]) rfl ?_
          refine j_W.getK xm_M xm_108 (ci := 4) (j := 0) rfl K rfl rfl ?_
          refine j_W.getK xm_M xm_111 (ci := 8) (j := 7) rfl K rfl rfl ?_
          refine j_W.iastK xm_M xm_114 (n := t) (k' := [(1, .inl (8, [.ref 2, .int ln, .int (nI e), .int (nI (aT l e z).1), .int (aT l e z).2.1, .int (aT l e z).2.2.1, .long (aT l e z).2.2.2.1, .int (aT l e z).2.2.2.2])), (2, .inr (.inl (1, l))), (3, .inl (4, [.ref 1, .ref 327, .int fa, .int pa])), (327, .inl (2, [.int (nI ns), .ref 328, .ref 329, .ref 330, .ref 331, .int (nI nt), .ref 332, .ref 333, .ref 334, .ref 335, .ref 336, .ref 337, .ref 338, .int ce, .ref 339, .ref 340, .ref 341, .ref 342])), (337, .inr (.inl (0, sl))), (338, .inr (.inl (0, (we.set t (aT l e z).2.2.2.2))))]) K rfl (by omega) (by omega) rfl (fun h K => ?_)
          have hp1 : (aT l e z).1 ≤ e := tkN_le hp
          refine j_W.one xm_M xm_115 (by decide) (pcJ := 116) (stJ := [.ref 3]) rfl ?_
          refine j_W.getK xm_M xm_116 (ci := 4) (j := 0) rfl K rfl rfl ?_
          refine j_W.call xm_M xm_119 rfl (md := 3) (mj := 107) rfl (by decide) sa_M (As := [.ref 1]) (rest := []) (jk_spl3 (K.at rfl) rfl rfl rfl (Nat.le_of_ble_eq_true rfl) (Nat.le_of_ble_eq_true rfl)) (sa_ok hl he hp1 (K.sub ⟨rfl, rfl, trivial⟩)) ?_
          rintro r h9 ⟨rfl, K9⟩
          have K : KN h9 [(1, .inl (8, [.ref 2, .int ln, .int (nI e), .int (nI (aT l e (aT l e z)).1), .int (aT l e (aT l e z)).2.1, .int (aT l e (aT l e z)).2.2.1, .long (aT l e (aT l e z)).2.2.2.1, .int (aT l e (aT l e z)).2.2.2.2])), (2, .inr (.inl (1, l))), (3, .inl (4, [.ref 1, .ref 327, .int fa, .int pa])), (327, .inl (2, [.int (nI ns), .ref 328, .ref 329, .ref 330, .ref 331, .int (nI nt), .ref 332, .ref 333, .ref 334, .ref 335, .ref 336, .ref 337, .ref 338, .int ce, .ref 339, .ref 340, .ref 341, .ref 342])), (337, .inr (.inl (0, sl))), (338, .inr (.inl (0, (we.set t (aT l e z).2.2.2.2))))] h0 := K.go K9 rfl rfl rfl
          clear K9
          show j_W jP _ 38 122 [(0, .ref 3), (1, .int (nI t))] [] h9 _
          exact xm_eA K
        · cases c
      | false =>
        rw [hb] at K
        have K : KN h9 [(1, .inl (8, [.ref 2, .int ln, .int (nI e), .int (nI (aT l e z).1), .int (aT l e z).2.1, .int (aT l e z).2.2.1, .long (aT l e z).2.2.2.1, .int (aT l e z).2.2.2.2])), (2, .inr (.inl (1, l))), (3, .inl (4, [.ref 1, .ref 327, .int (nF (aT l e z).2.1), .int (aT l e z).2.2.1])), (327, .inl (2, [.int (nI ns), .ref 328, .ref 329, .ref 330, .ref 331, .int (nI nt), .ref 332, .ref 333, .ref 334, .ref 335, .ref 336, .ref 337, .ref 338, .int ce, .ref 339, .ref 340, .ref 341, .ref 342])), (337, .inr (.inl (0, sl))), (338, .inr (.inl (0, we)))] h0 := K
        show j_W jP _ 38 94 [(0, .ref 3), (1, .int (nI t))] [.int 0] h9 _
        refine j_W.ifc xm_M xm_94 (t := 99) rfl (fun c => ?_) (fun c => ?_)
        · cases c
        · refine j_W.one xm_M xm_97 (by decide) (pcJ := 98) (stJ := [.int 0]) rfl ?_
          refine j_W.ret xm_M xm_98 rfl rfl ⟨rfl, K⟩
  · rw [if_neg hw, if_neg hw]
    refine j_W.ifc xm_M xm_84 (t := 122) rfl (fun c => ?_) (fun c => ?_)
    · exact xm_eA K
    · cases c
theorem xm_sA {ln fa pa ce : Int32} {e ns nt t : Nat} {l : List Int32} {h h0 : J_H} {d : Nat} {z : rK} {sl we : List Int32} (hl : l.length = 700) (he : e ≤ 700) (hp : z.1 ≤ e) (ht : t < 5) (h1 : sl.length = 5) (h2 : we.length = 5) (K : KN h [(1, .inl (8, [.ref 2, .int ln, .int (nI e), .int (nI z.1), .int z.2.1, .int z.2.2.1, .long z.2.2.2.1, .int z.2.2.2.2])), (2, .inr (.inl (1, l))), (3, .inl (4, [.ref 1, .ref 327, .int fa, .int pa])), (327, .inl (2, [.int (nI ns), .ref 328, .ref 329, .ref 330, .ref 331, .int (nI nt), .ref 332, .ref 333, .ref 334, .ref 335, .ref 336, .ref 337, .ref 338, .int ce, .ref 339, .ref 340, .ref 341, .ref 342])), (337, .inr (.inl (0, sl))), (338, .inr (.inl (0, we)))] h0) : j_W jP (d + 1 + 1 + 1) 38 27 [(0, .ref 3), (1, .int (nI t))] [] h (PMA ln ce e ns nt l h0 (mS l e t fa pa z sl we)) := by
  unfold mS
  refine j_W.one xm_M xm_27 (by decide) (pcJ := 28) (stJ := [.ref 3]) rfl ?_
  refine j_W.getK xm_M xm_28 (ci := 4) (j := 0) rfl K rfl rfl ?_
  refine j_W.one xm_M xm_31 (by decide) (pcJ := 34) (stJ := [.long 1936486263, .ref 1]) rfl ?_
  refine j_W.call xm_M xm_34 rfl (md := 3) (mj := 108) rfl (by decide) xw_M (As := [.ref 1, .long 1936486263]) (rest := []) (jk_spl3 (K.at rfl) rfl rfl rfl (Nat.le_of_ble_eq_true rfl) (Nat.le_of_ble_eq_true rfl)) (xw_ok (K.sub ⟨rfl, trivial⟩)) ?_
  rintro r hz ⟨rfl, ez⟩
  rw [ez]
  clear ez
  show j_W jP _ 38 37 [(0, .ref 3), (1, .int (nI t))] [.int (if z.2.1 = 1 ∧ z.2.2.2.1 = 1936486263 then 1 else 0)] h _
  rcases Decidable.em (z.2.1 = 1 ∧ z.2.2.2.1 = 1936486263) with hw | hw
  · rw [if_pos hw, if_pos hw]
    refine j_W.ifc xm_M xm_37 (t := 74) rfl (fun c => ?_) (fun c => ?_)
    · cases c
    · clear c
      refine j_W.one xm_M xm_40 (by decide) (pcJ := 41) (stJ := [.ref 3]) rfl ?_
      refine j_W.one xm_M xm_41 (by decide) (pcJ := 42) (stJ := [.int 0, .ref 3]) rfl ?_
      refine j_W.one xm_M xm_42 (by decide) (pcJ := 43) (stJ := [.int 3, .int 0, .ref 3]) rfl ?_
      refine j_W.call xm_M xm_43 rfl (md := 3) (mj := 39) rfl (by decide) xt_M (As := [.ref 3, .int 0, .int 3]) (rest := []) (jk_spl3 (K.at rfl) rfl rfl rfl (Nat.le_of_ble_eq_true rfl) (Nat.le_of_ble_eq_true rfl)) (xt_ok hl he hp (K.sub ⟨rfl, rfl, rfl, trivial⟩)) ?_
      rintro r h9 ⟨rfl, K9⟩
      have K : KN h9 [(1, .inl (8, [.ref 2, .int ln, .int (nI e), .int (nI (aT l e z).1), .int (aT l e z).2.1, .int (aT l e z).2.2.1, .long (aT l e z).2.2.2.1, .int (aT l e z).2.2.2.2])), (2, .inr (.inl (1, l))), (3, .inl (4, [.ref 1, .ref 327, .int (bif (nOk (aT l e z).2.1 (aT l e z).2.2.2.2 0 3) then fa else nF (aT l e z).2.1), .int (bif (nOk (aT l e z).2.1 (aT l e z).2.2.2.2 0 3) then pa else (aT l e z).2.2.1)])), (327, .inl (2, [.int (nI ns), .ref 328, .ref 329, .ref 330, .ref 331, .int (nI nt), .ref 332, .ref 333, .ref 334, .ref 335, .ref 336, .ref 337, .ref 338, .int ce, .ref 339, .ref 340, .ref 341, .ref 342])), (337, .inr (.inl (0, sl))), (338, .inr (.inl (0, we)))] h0 := K.go K9 rfl rfl rfl
      clear K9
      show j_W jP _ 38 46 [(0, .ref 3), (1, .int (nI t))] [.int (bif (nOk (aT l e z).2.1 (aT l e z).2.2.2.2 0 3) then 1 else 0)] h9 _
      cases hb : nOk (aT l e z).2.1 (aT l e z).2.2.2.2 0 3 with
      | true =>
        rw [hb] at K
        have K : KN h9 [(1, .inl (8, [.ref 2, .int ln, .int (nI e), .int (nI (aT l e z).1), .int (aT l e z).2.1, .int (aT l e z).2.2.1, .long (aT l e z).2.2.2.1, .int (aT l e z).2.2.2.2])), (2, .inr (.inl (1, l))), (3, .inl (4, [.ref 1, .ref 327, .int fa, .int pa])), (327, .inl (2, [.int (nI ns), .ref 328, .ref 329, .ref 330, .ref 331, .int (nI nt), .ref 332, .ref 333, .ref 334, .ref 335, .ref 336, .ref 337, .ref 338, .int ce, .ref 339, .ref 340, .ref 341, .ref 342])), (337, .inr (.inl (0, sl))), (338, .inr (.inl (0, we)))] h0 := K
        show j_W jP _ 38 46 [(0, .ref 3), (1, .int (nI t))] [.int 1] h9 _
        refine j_W.ifc xm_M xm_46 (t := 51) rfl (fun c => ?_) (fun c => ?_)
        · clear c
          refine j_W.one xm_M xm_51 (by decide) (pcJ := 52) (stJ := [.ref 3]) rfl ?_
          refine j_W.getK xm_M xm_52 (ci := 4) (j := 1) rfl K rfl rfl ?_
          refine j_W.getK xm_M xm_55 (ci := 2) (j := 11) rfl K rfl rfl ?_
          refine j_W.one xm_M xm_58 (by decide) (pcJ := 59) (stJ := [.int (nI t), .ref 337]) rfl ?_
          refine j_W.one xm_M xm_59 (by decide) (pcJ := 60) (stJ := [.ref 3, .int (nI t), .ref 337]) rfl ?_
          refine j_W.getK xm_M xm_60 (ci := 4) (j := 0) rfl K rfl rfl ?_
          refine j_W.getK xm_M xm_63 (ci := 8) (j := 7) rfl K rfl rfl ?_
          refine j_W.iastK xm_M xm_66 (n := t) (k' := [(1, .inl (8, [.ref 2, .int ln, .int (nI e), .int (nI (aT l e z).1), .int (aT l e z).2.1, .int (aT l e z).2.2.1, .long (aT l e z).2.2.2.1, .int (aT l e z).2.2.2.2])), (2, .inr (.inl (1, l))), (3, .inl (4, [.ref 1, .ref 327, .int fa, .int pa])), (327, .inl (2, [.int (nI ns), .ref 328, .ref 329, .ref 330, .ref 331, .int (nI nt), .ref 332, .ref 333, .ref 334, .ref 335, .ref 336, .ref 337, .ref 338, .int ce, .ref 339, .ref 340, .ref 341, .ref 342])), (337, .inr (.inl (0, (sl.set t (aT l e z).2.2.2.2)))), (338, .inr (.inl (0, we)))]) K rfl (by omega) (by omega) rfl (fun h K => ?_)
          have hp1 : (aT l e z).1 ≤ e := tkN_le hp
          refine j_W.one xm_M xm_67 (by decide) (pcJ := 68) (stJ := [.ref 3]) rfl ?_
          refine j_W.getK xm_M xm_68 (ci := 4) (j := 0) rfl K rfl rfl ?_
          refine j_W.call xm_M xm_71 rfl (md := 3) (mj := 107) rfl (by decide) sa_M (As := [.ref 1]) (rest := []) (jk_spl3 (K.at rfl) rfl rfl rfl (Nat.le_of_ble_eq_true rfl) (Nat.le_of_ble_eq_true rfl)) (sa_ok hl he hp1 (K.sub ⟨rfl, rfl, trivial⟩)) ?_
          rintro r h9 ⟨rfl, K9⟩
          have K : KN h9 [(1, .inl (8, [.ref 2, .int ln, .int (nI e), .int (nI (aT l e (aT l e z)).1), .int (aT l e (aT l e z)).2.1, .int (aT l e (aT l e z)).2.2.1, .long (aT l e (aT l e z)).2.2.2.1, .int (aT l e (aT l e z)).2.2.2.2])), (2, .inr (.inl (1, l))), (3, .inl (4, [.ref 1, .ref 327, .int fa, .int pa])), (327, .inl (2, [.int (nI ns), .ref 328, .ref 329, .ref 330, .ref 331, .int (nI nt), .ref 332, .ref 333, .ref 334, .ref 335, .ref 336, .ref 337, .ref 338, .int ce, .ref 339, .ref 340, .ref 341, .ref 342])), (337, .inr (.inl (0, (sl.set t (aT l e z).2.2.2.2)))), (338, .inr (.inl (0, we)))] h0 := K.go K9 rfl rfl rfl
          clear K9
          show j_W jP _ 38 74 [(0, .ref 3), (1, .int (nI t))] [] h9 _
          exact xm_wA hl he (tkN_le hp1) ht (by simp [h1]) h2 K
        · cases c
      | false =>
        rw [hb] at K
        have K : KN h9 [(1, .inl (8, [.ref 2, .int ln, .int (nI e), .int (nI (aT l e z).1), .int (aT l e z).2.1, .int (aT l e z).2.2.1, .long (aT l e z).2.2.2.1, .int (aT l e z).2.2.2.2])), (2, .inr (.inl (1, l))), (3, .inl (4, [.ref 1, .ref 327, .int (nF (aT l e z).2.1), .int (aT l e z).2.2.1])), (327, .inl (2, [.int (nI ns), .ref 328, .ref 329, .ref 330, .ref 331, .int (nI nt), .ref 332, .ref 333, .ref 334, .ref 335, .ref 336, .ref 337, .ref 338, .int ce, .ref 339, .ref 340, .ref 341, .ref 342])), (337, .inr (.inl (0, sl))), (338, .inr (.inl (0, we)))] h0 := K
        show j_W jP _ 38 46 [(0, .ref 3), (1, .int (nI t))] [.int 0] h9 _
        refine j_W.ifc xm_M xm_46 (t := 51) rfl (fun c => ?_) (fun c => ?_)
        · cases c
        · refine j_W.one xm_M xm_49 (by decide) (pcJ := 50) (stJ := [.int 0]) rfl ?_
          refine j_W.ret xm_M xm_50 rfl rfl ⟨rfl, K⟩
  · rw [if_neg hw, if_neg hw]
    refine j_W.ifc xm_M xm_37 (t := 74) rfl (fun c => ?_) (fun c => ?_)
    · exact xm_wA hl he hp ht h1 h2 K
    · cases c
theorem xm_okA {ln fa pa ce : Int32} {e ns nt t : Nat} {l : List Int32} {h h0 : J_H} {d : Nat} {z : rK} {sl we : List Int32} (hl : l.length = 700) (he : e ≤ 700) (hp : z.1 ≤ e) (ht : t < 5) (h1 : sl.length = 5) (h2 : we.length = 5) (K : KN h [(1, .inl (8, [.ref 2, .int ln, .int (nI e), .int (nI z.1), .int z.2.1, .int z.2.2.1, .long z.2.2.2.1, .int z.2.2.2.2])), (2, .inr (.inl (1, l))), (3, .inl (4, [.ref 1, .ref 327, .int fa, .int pa])), (327, .inl (2, [.int (nI ns), .ref 328, .ref 329, .ref 330, .ref 331, .int (nI nt), .ref 332, .ref 333, .ref 334, .ref 335, .ref 336, .ref 337, .ref 338, .int ce, .ref 339, .ref 340, .ref 341, .ref 342])), (337, .inr (.inl (0, sl))), (338, .inr (.inl (0, we)))] h0) : j_W jP (d + 1 + 1 + 1) 38 0 (lv_args 0 [.ref 3, .int (nI t)]) [] h (PMA ln ce e ns nt l h0 (mS l e t fa pa (aT l e z) (sl.set t 0) (we.set t 1))) := by
  show j_W jP (d + 1 + 1 + 1) 38 0 [(0, .ref 3), (1, .int (nI t))] [] h _
  refine j_W.one xm_M xm_0 (by decide) (pcJ := 1) (stJ := [.ref 3]) rfl ?_
  refine j_W.getK xm_M xm_1 (ci := 4) (j := 1) rfl K rfl rfl ?_
  refine j_W.getK xm_M xm_4 (ci := 2) (j := 11) rfl K rfl rfl ?_
  refine j_W.one xm_M xm_7 (by decide) (pcJ := 8) (stJ := [.int (nI t), .ref 337]) rfl ?_
  refine j_W.one xm_M xm_8 (by decide) (pcJ := 9) (stJ := [.int 0, .int (nI t), .ref 337]) rfl ?_
  refine j_W.iastK xm_M xm_9 (n := t) (k' := [(1, .inl (8, [.ref 2, .int ln, .int (nI e), .int (nI z.1), .int z.2.1, .int z.2.2.1, .long z.2.2.2.1, .int z.2.2.2.2])), (2, .inr (.inl (1, l))), (3, .inl (4, [.ref 1, .ref 327, .int fa, .int pa])), (327, .inl (2, [.int (nI ns), .ref 328, .ref 329, .ref 330, .ref 331, .int (nI nt), .ref 332, .ref 333, .ref 334, .ref 335, .ref 336, .ref 337, .ref 338, .int ce, .ref 339, .ref 340, .ref 341, .ref 342])), (337, .inr (.inl (0, (sl.set t 0)))), (338, .inr (.inl (0, we)))]) K rfl (by omega) (by omega) rfl (fun h K => ?_)
  refine j_W.one xm_M xm_10 (by decide) (pcJ := 11) (stJ := [.ref 3]) rfl ?_
  refine j_W.getK xm_M xm_11 (ci := 4) (j := 1) rfl K rfl rfl ?_
  refine j_W.getK xm_M xm_14 (ci := 2) (j := 12) rfl K rfl rfl ?_
  refine j_W.one xm_M xm_17 (by decide) (pcJ := 18) (stJ := [.int (nI t), .ref 338]) rfl ?_
  refine j_W.one xm_M xm_18 (by decide) (pcJ := 19) (stJ := [.int 1, .int (nI t), .ref 338]) rfl ?_
  refine j_W.iastK xm_M xm_19 (n := t) (k' := [(1, .inl (8, [.ref 2, .int ln, .int (nI e), .int (nI z.1), .int z.2.1, .int z.2.2.1, .long z.2.2.2.1, .int z.2.2.2.2])), (2, .inr (.inl (1, l))), (3, .inl (4, [.ref 1, .ref 327, .int fa, .int pa])), (327, .inl (2, [.int (nI ns), .ref 328, .ref 329, .ref 330, .ref 331, .int (nI nt), .ref 332, .ref 333, .ref 334, .ref 335, .ref 336, .ref 337, .ref 338, .int ce, .ref 339, .ref 340, .ref 341, .ref 342])), (337, .inr (.inl (0, (sl.set t 0)))), (338, .inr (.inl (0, (we.set t 1))))]) K rfl (by omega) (by omega) rfl (fun h K => ?_)
  refine j_W.one xm_M xm_20 (by decide) (pcJ := 21) (stJ := [.ref 3]) rfl ?_
  refine j_W.getK xm_M xm_21 (ci := 4) (j := 0) rfl K rfl rfl ?_
  refine j_W.call xm_M xm_24 rfl (md := 3) (mj := 107) rfl (by decide) sa_M (As := [.ref 1]) (rest := []) (jk_spl3 (K.at rfl) rfl rfl rfl (Nat.le_of_ble_eq_true rfl) (Nat.le_of_ble_eq_true rfl)) (sa_ok hl he hp (K.sub ⟨rfl, rfl, trivial⟩)) ?_
  rintro r h9 ⟨rfl, K9⟩
  have K : KN h9 [(1, .inl (8, [.ref 2, .int ln, .int (nI e), .int (nI (aT l e z).1), .int (aT l e z).2.1, .int (aT l e z).2.2.1, .long (aT l e z).2.2.2.1, .int (aT l e z).2.2.2.2])), (2, .inr (.inl (1, l))), (3, .inl (4, [.ref 1, .ref 327, .int fa, .int pa])), (327, .inl (2, [.int (nI ns), .ref 328, .ref 329, .ref 330, .ref 331, .int (nI nt), .ref 332, .ref 333, .ref 334, .ref 335, .ref 336, .ref 337, .ref 338, .int ce, .ref 339, .ref 340, .ref 341, .ref 342])), (337, .inr (.inl (0, (sl.set t 0)))), (338, .inr (.inl (0, (we.set t 1))))] h0 := K.go K9 rfl rfl rfl
  clear K9
  show j_W jP _ 38 27 [(0, .ref 3), (1, .int (nI t))] [] h9 _
  exact xm_sA hl he (tkN_le hp) ht (by simp [h1]) (by simp [h2]) K
def PMB (ln ce : Int32) (e ns nt : Nat) (l : List Int32) (h0 : J_H) (R : rX) (rv : Option Value) (h' : J_H) : Prop := rv = some (.int (bif R.1 then 1 else 0)) ∧ KN h' [(1, .inl (8, [.ref 2, .int ln, .int (nI e), .int (nI R.2.2.1.1), .int R.2.2.1.2.1, .int R.2.2.1.2.2.1, .long R.2.2.1.2.2.2.1, .int R.2.2.1.2.2.2.2])), (2, .inr (.inl (1, l))), (3, .inl (4, [.ref 1, .ref 343, .int R.2.1.1, .int R.2.1.2])), (343, .inl (2, [.int (nI ns), .ref 344, .ref 345, .ref 346, .ref 347, .int (nI nt), .ref 348, .ref 349, .ref 350, .ref 351, .ref 352, .ref 353, .ref 354, .int ce, .ref 355, .ref 356, .ref 357, .ref 358])), (353, .inr (.inl (0, R.2.2.2.1))), (354, .inr (.inl (0, R.2.2.2.2)))] h0
theorem xm_eB {ln fa pa ce : Int32} {e ns nt t : Nat} {l : List Int32} {h h0 : J_H} {d : Nat} {z : rK} {sl we : List Int32} (K : KN h [(1, .inl (8, [.ref 2, .int ln, .int (nI e), .int (nI z.1), .int z.2.1, .int z.2.2.1, .long z.2.2.2.1, .int z.2.2.2.2])), (2, .inr (.inl (1, l))), (3, .inl (4, [.ref 1, .ref 343, .int fa, .int pa])), (343, .inl (2, [.int (nI ns), .ref 344, .ref 345, .ref 346, .ref 347, .int (nI nt), .ref 348, .ref 349, .ref 350, .ref 351, .ref 352, .ref 353, .ref 354, .int ce, .ref 355, .ref 356, .ref 357, .ref 358])), (353, .inr (.inl (0, sl))), (354, .inr (.inl (0, we)))] h0) : j_W jP (d + 1 + 1) 38 122 [(0, .ref 3), (1, .int (nI t))] [] h (PMB ln ce e ns nt l h0 (mE fa pa z sl we)) := by
  unfold mE
  refine j_W.one xm_M xm_122 (by decide) (pcJ := 123) (stJ := [.ref 3]) rfl ?_
  refine j_W.getK xm_M xm_123 (ci := 4) (j := 0) rfl K rfl rfl ?_
  refine j_W.getK xm_M xm_126 (ci := 8) (j := 4) rfl K rfl rfl ?_
  refine j_W.one xm_M xm_129 (by decide) (pcJ := 130) (stJ := [.int 3, .int z.2.1]) rfl ?_
  refine j_W.icmp xm_M xm_130 (t := 140) rfl (fun c => ?_) (fun c => ?_)
  · have c : z.2.1 = 3 := by simpa [j_cond] using c
    rw [if_pos c]
    refine j_W.one xm_M xm_140 (by decide) (pcJ := 141) (stJ := [.int 1]) rfl ?_
    refine j_W.gto xm_M xm_141 (t := 145) rfl ?_
    refine j_W.ret xm_M xm_145 rfl rfl ⟨rfl, K⟩
  · have c : ¬ z.2.1 = 3 := by simpa [j_cond] using c
    rw [if_neg c]
    clear c
    refine j_W.one xm_M xm_133 (by decide) (pcJ := 134) (stJ := [.ref 3]) rfl ?_
    refine j_W.call xm_M xm_134 rfl (md := 3) (mj := 45) rfl (by decide) xh_M (As := [.ref 3]) (rest := []) (jk_spl3 (K.at rfl) rfl rfl rfl (Nat.le_of_ble_eq_true rfl) (Nat.le_of_ble_eq_true rfl)) (xh_ok (K.sub ⟨rfl, rfl, trivial⟩)) ?_
    rintro r h9 ⟨rfl, K9⟩
    have K : KN h9 [(1, .inl (8, [.ref 2, .int ln, .int (nI e), .int (nI z.1), .int z.2.1, .int z.2.2.1, .long z.2.2.2.1, .int z.2.2.2.2])), (2, .inr (.inl (1, l))), (3, .inl (4, [.ref 1, .ref 343, .int (if z.2.1 = 4 then 1 else 2), .int z.2.2.1])), (343, .inl (2, [.int (nI ns), .ref 344, .ref 345, .ref 346, .ref 347, .int (nI nt), .ref 348, .ref 349, .ref 350, .ref 351, .ref 352, .ref 353, .ref 354, .int ce, .ref 355, .ref 356, .ref 357, .ref 358])), (353, .inr (.inl (0, sl))), (354, .inr (.inl (0, we)))] h0 := K.go K9 rfl rfl rfl
    clear K9
    show j_W jP _ 38 137 [(0, .ref 3), (1, .int (nI t))] [.int 0] h9 _
    refine j_W.ifc xm_M xm_137 (t := 144) rfl (fun c => ?_) (fun c => ?_)
    · refine j_W.one xm_M xm_144 (by decide) (pcJ := 145) (stJ := [.int 0]) rfl ?_
      refine j_W.ret xm_M xm_145 rfl rfl ⟨rfl, K⟩
    · cases c
theorem xm_wB {ln fa pa ce : Int32} {e ns nt t : Nat} {l : List Int32} {h h0 : J_H} {d : Nat} {z : rK} {sl we : List Int32} (hl : l.length = 700) (he : e ≤ 700) (hp : z.1 ≤ e) (ht : t < 5) (h1 : sl.length = 5) (h2 : we.length = 5) (K : KN h [(1, .inl (8, [.ref 2, .int ln, .int (nI e), .int (nI z.1), .int z.2.1, .int z.2.2.1, .long z.2.2.2.1, .int z.2.2.2.2])), (2, .inr (.inl (1, l))), (3, .inl (4, [.ref 1, .ref 343, .int fa, .int pa])), (343, .inl (2, [.int (nI ns), .ref 344, .ref 345, .ref 346, .ref 347, .int (nI nt), .ref 348, .ref 349, .ref 350, .ref 351, .ref 352, .ref 353, .ref 354, .int ce, .ref 355, .ref 356, .ref 357, .ref 358])), (353, .inr (.inl (0, sl))), (354, .inr (.inl (0, we)))] h0) : j_W jP (d + 1 + 1 + 1) 38 74 [(0, .ref 3), (1, .int (nI t))] [] h (PMB ln ce e ns nt l h0 (mW l e t fa pa z sl we)) := by
  unfold mW
  refine j_W.one xm_M xm_74 (by decide) (pcJ := 75) (stJ := [.ref 3]) rfl ?_
  refine j_W.getK xm_M xm_75 (ci := 4) (j := 0) rfl K rfl rfl ?_
  refine j_W.one xm_M xm_78 (by decide) (pcJ := 81) (stJ := [.long 131277443786868, .ref 1]) rfl ?_
  refine j_W.call xm_M xm_81 rfl (md := 3) (mj := 108) rfl (by decide) xw_M (As := [.ref 1, .long 131277443786868]) (rest := []) (jk_spl3 (K.at rfl) rfl rfl rfl (Nat.le_of_ble_eq_true rfl) (Nat.le_of_ble_eq_true rfl)) (xw_ok (K.sub ⟨rfl, trivial⟩)) ?_
  rintro r hz ⟨rfl, ez⟩
  rw [ez]
  clear ez
  show j_W jP _ 38 84 [(0, .ref 3), (1, .int (nI t))] [.int (if z.2.1 = 1 ∧ z.2.2.2.1 = 131277443786868 then 1 else 0)] h _
  rcases Decidable.em (z.2.1 = 1 ∧ z.2.2.2.1 = 131277443786868) with hw | hw
  · rw [if_pos hw, if_pos hw]
    refine j_W.ifc xm_M xm_84 (t := 122) rfl (fun c => ?_) (fun c => ?_)
    · cases c
    · clear c
      refine j_W.one xm_M xm_87 (by decide) (pcJ := 88) (stJ := [.ref 3]) rfl ?_
      refine j_W.one xm_M xm_88 (by decide) (pcJ := 89) (stJ := [.int 1, .ref 3]) rfl ?_
      refine j_W.one xm_M xm_89 (by decide) (pcJ := 91) (stJ := [.int 9, .int 1, .ref 3]) rfl ?_
      refine j_W.call xm_M xm_91 rfl (md := 3) (mj := 39) rfl (by decide) xt_M (As := [.ref 3, .int 1, .int 9]) (rest := []) (jk_spl3 (K.at rfl) rfl rfl rfl (Nat.le_of_ble_eq_true rfl) (Nat.le_of_ble_eq_true rfl)) (xt_ok hl he hp (K.sub ⟨rfl, rfl, rfl, trivial⟩)) ?_
      rintro r h9 ⟨rfl, K9⟩
      have K : KN h9 [(1, .inl (8, [.ref 2, .int ln, .int (nI e), .int (nI (aT l e z).1), .int (aT l e z).2.1, .int (aT l e z).2.2.1, .long (aT l e z).2.2.2.1, .int (aT l e z).2.2.2.2])), (2, .inr (.inl (1, l))), (3, .inl (4, [.ref 1, .ref 343, .int (bif (nOk (aT l e z).2.1 (aT l e z).2.2.2.2 1 9) then fa else nF (aT l e z).2.1), .int (bif (nOk (aT l e z).2.1 (aT l e z).2.2.2.2 1 9) then pa else (aT l e z).2.2.1)])), (343, .inl (2, [.int (nI ns), .ref 344, .ref 345, .ref 346, .ref 347, .int (nI nt), .ref 348, .ref 349, .ref 350, .ref 351, .ref 352, .ref 353, .ref 354, .int ce, .ref 355, .ref 356, .ref 357, .ref 358])), (353, .inr (.inl (0, sl))), (354, .inr (.inl (0, we)))] h0 := K.go K9 rfl rfl rfl
      clear K9
      show j_W jP _ 38 94 [(0, .ref 3), (1, .int (nI t))] [.int (bif (nOk (aT l e z).2.1 (aT l e z).2.2.2.2 1 9) then 1 else 0)] h9 _
      cases hb : nOk (aT l e z).2.1 (aT l e z).2.2.2.2 1 9 with
      | true =>
        rw [hb] at K
        have K : KN h9 [(1, .inl (8, [.ref 2, .int ln, .int (nI e), .int (nI (aT l e z).1), .int (aT l e z).2.1, .int (aT l e z).2.2.1, .long (aT l e z).2.2.2.1, .int (aT l e z).2.2.2.2])), (2, .inr (.inl (1, l))), (3, .inl (4, [.ref 1, .ref 343, .int fa, .int pa])), (343, .inl (2, [.int (nI ns), .ref 344, .ref 345, .ref 346, .ref 347, .int (nI nt), .ref 348, .ref 349, .ref 350, .ref 351, .ref 352, .ref 353, .ref 354, .int ce, .ref 355, .ref 356, .ref 357, .ref 358])), (353, .inr (.inl (0, sl))), (354, .inr (.inl (0, we)))] h0 := K
        show j_W jP _ 38 94 [(0, .ref 3), (1, .int (nI t))] [.int 1] h9 _
        refine j_W.ifc xm_M xm_94 (t := 99) rfl (fun c => ?_) (fun c => ?_)
        · clear c
          refine j_W.one xm_M xm_99 (by decide) (pcJ := 100) (stJ := [.ref 3]) rfl ?_
          refine j_W.getK xm_M xm_100 (ci := 4) (j := 1) rfl K rfl rfl ?_
          refine j_W.getK xm_M xm_103 (ci := 2) (j := 12) rfl K rfl rfl ?_
          refine j_W.one xm_M xm_106 (by decide) (pcJ := 107) (stJ := [.int (nI t), .ref 354]) rfl ?_
          refine j_W.one xm_M xm_107 (by decide) (pcJ := 108) (stJ := [.ref 3, .int (nI t), .ref 354]) rfl ?_
          refine j_W.getK xm_M xm_108 (ci := 4) (j := 0) rfl K rfl rfl ?_
          refine j_W.getK xm_M xm_111 (ci := 8) (j := 7) rfl K rfl rfl ?_
          refine j_W.iastK xm_M xm_114 (n := t) (k' := [(1, .inl (8, [.ref 2, .int ln, .int (nI e), .int (nI (aT l e z).1), .int (aT l e z).2.1, .int (aT l e z).2.2.1, .long (aT l e z).2.2.2.1, .int (aT l e z).2.2.2.2])), (2, .inr (.inl (1, l))), (3, .inl (4, [.ref 1, .ref 343, .int fa, .int pa])), (343, .inl (2, [.int (nI ns), .ref 344, .ref 345, .ref 346, .ref 347, .int (nI nt), .ref 348, .ref 349, .ref 350, .ref 351, .ref 352, .ref 353, .ref 354, .int ce, .ref 355, .ref 356, .ref 357, .ref 358])), (353, .inr (.inl (0, sl))), (354, .inr (.inl (0, (we.set t (aT l e z).2.2.2.2))))]) K rfl (by omega) (by omega) rfl (fun h K => ?_)
          have hp1 : (aT l e z).1 ≤ e := tkN_le hp
          refine j_W.one xm_M xm_115 (by decide) (pcJ := 116) (stJ := [.ref 3]) rfl ?_
          refine j_W.getK xm_M xm_116 (ci := 4) (j := 0) rfl K rfl rfl ?_
          refine j_W.call xm_M xm_119 rfl (md := 3) (mj := 107) rfl (by decide) sa_M (As := [.ref 1]) (rest := []) (jk_spl3 (K.at rfl) rfl rfl rfl (Nat.le_of_ble_eq_true rfl) (Nat.le_of_ble_eq_true rfl)) (sa_ok hl he hp1 (K.sub ⟨rfl, rfl, trivial⟩)) ?_
          rintro r h9 ⟨rfl, K9⟩
          have K : KN h9 [(1, .inl (8, [.ref 2, .int ln, .int (nI e), .int (nI (aT l e (aT l e z)).1), .int (aT l e (aT l e z)).2.1, .int (aT l e (aT l e z)).2.2.1, .long (aT l e (aT l e z)).2.2.2.1, .int (aT l e (aT l e z)).2.2.2.2])), (2, .inr (.inl (1, l))), (3, .inl (4, [.ref 1, .ref 343, .int fa, .int pa])), (343, .inl (2, [.int (nI ns), .ref 344, .ref 345, .ref 346, .ref 347, .int (nI nt), .ref 348, .ref 349, .ref 350, .ref 351, .ref 352, .ref 353, .ref 354, .int ce, .ref 355, .ref 356, .ref 357, .ref 358])), (353, .inr (.inl (0, sl))), (354, .inr (.inl (0, (we.set t (aT l e z).2.2.2.2))))] h0 := K.go K9 rfl rfl rfl
          clear K9
          show j_W jP _ 38 122 [(0, .ref 3), (1, .int (nI t))] [] h9 _
          exact xm_eB K
        · cases c
      | false =>
        rw [hb] at K
        have K : KN h9 [(1, .inl (8, [.ref 2, .int ln, .int (nI e), .int (nI (aT l e z).1), .int (aT l e z).2.1, .int (aT l e z).2.2.1, .long (aT l e z).2.2.2.1, .int (aT l e z).2.2.2.2])), (2, .inr (.inl (1, l))), (3, .inl (4, [.ref 1, .ref 343, .int (nF (aT l e z).2.1), .int (aT l e z).2.2.1])), (343, .inl (2, [.int (nI ns), .ref 344, .ref 345, .ref 346, .ref 347, .int (nI nt), .ref 348, .ref 349, .ref 350, .ref 351, .ref 352, .ref 353, .ref 354, .int ce, .ref 355, .ref 356, .ref 357, .ref 358])), (353, .inr (.inl (0, sl))), (354, .inr (.inl (0, we)))] h0 := K
        show j_W jP _ 38 94 [(0, .ref 3), (1, .int (nI t))] [.int 0] h9 _
        refine j_W.ifc xm_M xm_94 (t := 99) rfl (fun c => ?_) (fun c => ?_)
        · cases c
        · refine j_W.one xm_M xm_97 (by decide) (pcJ := 98) (stJ := [.int 0]) rfl ?_
          refine j_W.ret xm_M xm_98 rfl rfl ⟨rfl, K⟩
  · rw [if_neg hw, if_neg hw]
    refine j_W.ifc xm_M xm_84 (t := 122) rfl (fun c => ?_) (fun c => ?_)
    · exact xm_eB K
    · cases c
theorem xm_sB {ln fa pa ce : Int32} {e ns nt t : Nat} {l : List Int32} {h h0 : J_H} {d : Nat} {z : rK} {sl we : List Int32} (hl : l.length = 700) (he : e ≤ 700) (hp : z.1 ≤ e) (ht : t < 5) (h1 : sl.length = 5) (h2 : we.length = 5) (K : KN h [(1, .inl (8, [.ref 2, .int ln, .int (nI e), .int (nI z.1), .int z.2.1, .int z.2.2.1, .long z.2.2.2.1, .int z.2.2.2.2])), (2, .inr (.inl (1, l))), (3, .inl (4, [.ref 1, .ref 343, .int fa, .int pa])), (343, .inl (2, [.int (nI ns), .ref 344, .ref 345, .ref 346, .ref 347, .int (nI nt), .ref 348, .ref 349, .ref 350, .ref 351, .ref 352, .ref 353, .ref 354, .int ce, .ref 355, .ref 356, .ref 357, .ref 358])), (353, .inr (.inl (0, sl))), (354, .inr (.inl (0, we)))] h0) : j_W jP (d + 1 + 1 + 1) 38 27 [(0, .ref 3), (1, .int (nI t))] [] h (PMB ln ce e ns nt l h0 (mS l e t fa pa z sl we)) := by
  unfold mS
  refine j_W.one xm_M xm_27 (by decide) (pcJ := 28) (stJ := [.ref 3]) rfl ?_
  refine j_W.getK xm_M xm_28 (ci := 4) (j := 0) rfl K rfl rfl ?_
  refine j_W.one xm_M xm_31 (by decide) (pcJ := 34) (stJ := [.long 1936486263, .ref 1]) rfl ?_
  refine j_W.call xm_M xm_34 rfl (md := 3) (mj := 108) rfl (by decide) xw_M (As := [.ref 1, .long 1936486263]) (rest := []) (jk_spl3 (K.at rfl) rfl rfl rfl (Nat.le_of_ble_eq_true rfl) (Nat.le_of_ble_eq_true rfl)) (xw_ok (K.sub ⟨rfl, trivial⟩)) ?_
  rintro r hz ⟨rfl, ez⟩
  rw [ez]
  clear ez
  show j_W jP _ 38 37 [(0, .ref 3), (1, .int (nI t))] [.int (if z.2.1 = 1 ∧ z.2.2.2.1 = 1936486263 then 1 else 0)] h _
  rcases Decidable.em (z.2.1 = 1 ∧ z.2.2.2.1 = 1936486263) with hw | hw
  · rw [if_pos hw, if_pos hw]
    refine j_W.ifc xm_M xm_37 (t := 74) rfl (fun c => ?_) (fun c => ?_)
    · cases c
    · clear c
      refine j_W.one xm_M xm_40 (by decide) (pcJ := 41) (stJ := [.ref 3]) rfl ?_
      refine j_W.one xm_M xm_41 (by decide) (pcJ := 42) (stJ := [.int 0, .ref 3]) rfl ?_
      refine j_W.one xm_M xm_42 (by decide) (pcJ := 43) (stJ := [.int 3, .int 0, .ref 3]) rfl ?_
      refine j_W.call xm_M xm_43 rfl (md := 3) (mj := 39) rfl (by decide) xt_M (As := [.ref 3, .int 0, .int 3]) (rest := []) (jk_spl3 (K.at rfl) rfl rfl rfl (Nat.le_of_ble_eq_true rfl) (Nat.le_of_ble_eq_true rfl)) (xt_ok hl he hp (K.sub ⟨rfl, rfl, rfl, trivial⟩)) ?_
      rintro r h9 ⟨rfl, K9⟩
      have K : KN h9 [(1, .inl (8, [.ref 2, .int ln, .int (nI e), .int (nI (aT l e z).1), .int (aT l e z).2.1, .int (aT l e z).2.2.1, .long (aT l e z).2.2.2.1, .int (aT l e z).2.2.2.2])), (2, .inr (.inl (1, l))), (3, .inl (4, [.ref 1, .ref 343, .int (bif (nOk (aT l e z).2.1 (aT l e z).2.2.2.2 0 3) then fa else nF (aT l e z).2.1), .int (bif (nOk (aT l e z).2.1 (aT l e z).2.2.2.2 0 3) then pa else (aT l e z).2.2.1)])), (343, .inl (2, [.int (nI ns), .ref 344, .ref 345, .ref 346, .ref 347, .int (nI nt), .ref 348, .ref 349, .ref 350, .ref 351, .ref 352, .ref 353, .ref 354, .int ce, .ref 355, .ref 356, .ref 357, .ref 358])), (353, .inr (.inl (0, sl))), (354, .inr (.inl (0, we)))] h0 := K.go K9 rfl rfl rfl
      clear K9
      show j_W jP _ 38 46 [(0, .ref 3), (1, .int (nI t))] [.int (bif (nOk (aT l e z).2.1 (aT l e z).2.2.2.2 0 3) then 1 else 0)] h9 _
      cases hb : nOk (aT l e z).2.1 (aT l e z).2.2.2.2 0 3 with
      | true =>
        rw [hb] at K
        have K : KN h9 [(1, .inl (8, [.ref 2, .int ln, .int (nI e), .int (nI (aT l e z).1), .int (aT l e z).2.1, .int (aT l e z).2.2.1, .long (aT l e z).2.2.2.1, .int (aT l e z).2.2.2.2])), (2, .inr (.inl (1, l))), (3, .inl (4, [.ref 1, .ref 343, .int fa, .int pa])), (343, .inl (2, [.int (nI ns), .ref 344, .ref 345, .ref 346, .ref 347, .int (nI nt), .ref 348, .ref 349, .ref 350, .ref 351, .ref 352, .ref 353, .ref 354, .int ce, .ref 355, .ref 356, .ref 357, .ref 358])), (353, .inr (.inl (0, sl))), (354, .inr (.inl (0, we)))] h0 := K
        show j_W jP _ 38 46 [(0, .ref 3), (1, .int (nI t))] [.int 1] h9 _
        refine j_W.ifc xm_M xm_46 (t := 51) rfl (fun c => ?_) (fun c => ?_)
        · clear c
          refine j_W.one xm_M xm_51 (by decide) (pcJ := 52) (stJ := [.ref 3]) rfl ?_
          refine j_W.getK xm_M xm_52 (ci := 4) (j := 1) rfl K rfl rfl ?_
          refine j_W.getK xm_M xm_55 (ci := 2) (j := 11) rfl K rfl rfl ?_
          refine j_W.one xm_M xm_58 (by decide) (pcJ := 59) (stJ := [.int (nI t), .ref 353]) rfl ?_
          refine j_W.one xm_M xm_59 (by decide) (pcJ := 60) (stJ := [.ref 3, .int (nI t), .ref 353]) rfl ?_
          refine j_W.getK xm_M xm_60 (ci := 4) (j := 0) rfl K rfl rfl ?_
          refine j_W.getK xm_M xm_63 (ci := 8) (j := 7) rfl K rfl rfl ?_
          refine j_W.iastK xm_M xm_66 (n := t) (k' := [(1, .inl (8, [.ref 2, .int ln, .int (nI e), .int (nI (aT l e z).1), .int (aT l e z).2.1, .int (aT l e z).2.2.1, .long (aT l e z).2.2.2.1, .int (aT l e z).2.2.2.2])), (2, .inr (.inl (1, l))), (3, .inl (4, [.ref 1, .ref 343, .int fa, .int pa])), (343, .inl (2, [.int (nI ns), .ref 344, .ref 345, .ref 346, .ref 347, .int (nI nt), .ref 348, .ref 349, .ref 350, .ref 351, .ref 352, .ref 353, .ref 354, .int ce, .ref 355, .ref 356, .ref 357, .ref 358])), (353, .inr (.inl (0, (sl.set t (aT l e z).2.2.2.2)))), (354, .inr (.inl (0, we)))]) K rfl (by omega) (by omega) rfl (fun h K => ?_)
          have hp1 : (aT l e z).1 ≤ e := tkN_le hp
          refine j_W.one xm_M xm_67 (by decide) (pcJ := 68) (stJ := [.ref 3]) rfl ?_
          refine j_W.getK xm_M xm_68 (ci := 4) (j := 0) rfl K rfl rfl ?_
          refine j_W.call xm_M xm_71 rfl (md := 3) (mj := 107) rfl (by decide) sa_M (As := [.ref 1]) (rest := []) (jk_spl3 (K.at rfl) rfl rfl rfl (Nat.le_of_ble_eq_true rfl) (Nat.le_of_ble_eq_true rfl)) (sa_ok hl he hp1 (K.sub ⟨rfl, rfl, trivial⟩)) ?_
          rintro r h9 ⟨rfl, K9⟩
          have K : KN h9 [(1, .inl (8, [.ref 2, .int ln, .int (nI e), .int (nI (aT l e (aT l e z)).1), .int (aT l e (aT l e z)).2.1, .int (aT l e (aT l e z)).2.2.1, .long (aT l e (aT l e z)).2.2.2.1, .int (aT l e (aT l e z)).2.2.2.2])), (2, .inr (.inl (1, l))), (3, .inl (4, [.ref 1, .ref 343, .int fa, .int pa])), (343, .inl (2, [.int (nI ns), .ref 344, .ref 345, .ref 346, .ref 347, .int (nI nt), .ref 348, .ref 349, .ref 350, .ref 351, .ref 352, .ref 353, .ref 354, .int ce, .ref 355, .ref 356, .ref 357, .ref 358])), (353, .inr (.inl (0, (sl.set t (aT l e z).2.2.2.2)))), (354, .inr (.inl (0, we)))] h0 := K.go K9 rfl rfl rfl
          clear K9
          show j_W jP _ 38 74 [(0, .ref 3), (1, .int (nI t))] [] h9 _
          exact xm_wB hl he (tkN_le hp1) ht (by simp [h1]) h2 K
        · cases c
      | false =>
        rw [hb] at K
        have K : KN h9 [(1, .inl (8, [.ref 2, .int ln, .int (nI e), .int (nI (aT l e z).1), .int (aT l e z).2.1, .int (aT l e z).2.2.1, .long (aT l e z).2.2.2.1, .int (aT l e z).2.2.2.2])), (2, .inr (.inl (1, l))), (3, .inl (4, [.ref 1, .ref 343, .int (nF (aT l e z).2.1), .int (aT l e z).2.2.1])), (343, .inl (2, [.int (nI ns), .ref 344, .ref 345, .ref 346, .ref 347, .int (nI nt), .ref 348, .ref 349, .ref 350, .ref 351, .ref 352, .ref 353, .ref 354, .int ce, .ref 355, .ref 356, .ref 357, .ref 358])), (353, .inr (.inl (0, sl))), (354, .inr (.inl (0, we)))] h0 := K
        show j_W jP _ 38 46 [(0, .ref 3), (1, .int (nI t))] [.int 0] h9 _
        refine j_W.ifc xm_M xm_46 (t := 51) rfl (fun c => ?_) (fun c => ?_)
        · cases c
        · refine j_W.one xm_M xm_49 (by decide) (pcJ := 50) (stJ := [.int 0]) rfl ?_
          refine j_W.ret xm_M xm_50 rfl rfl ⟨rfl, K⟩
  · rw [if_neg hw, if_neg hw]
    refine j_W.ifc xm_M xm_37 (t := 74) rfl (fun c => ?_) (fun c => ?_)
    · exact xm_wB hl he hp ht h1 h2 K
    · cases c
theorem xm_okB {ln fa pa ce : Int32} {e ns nt t : Nat} {l : List Int32} {h h0 : J_H} {d : Nat} {z : rK} {sl we : List Int32} (hl : l.length = 700) (he : e ≤ 700) (hp : z.1 ≤ e) (ht : t < 5) (h1 : sl.length = 5) (h2 : we.length = 5) (K : KN h [(1, .inl (8, [.ref 2, .int ln, .int (nI e), .int (nI z.1), .int z.2.1, .int z.2.2.1, .long z.2.2.2.1, .int z.2.2.2.2])), (2, .inr (.inl (1, l))), (3, .inl (4, [.ref 1, .ref 343, .int fa, .int pa])), (343, .inl (2, [.int (nI ns), .ref 344, .ref 345, .ref 346, .ref 347, .int (nI nt), .ref 348, .ref 349, .ref 350, .ref 351, .ref 352, .ref 353, .ref 354, .int ce, .ref 355, .ref 356, .ref 357, .ref 358])), (353, .inr (.inl (0, sl))), (354, .inr (.inl (0, we)))] h0) : j_W jP (d + 1 + 1 + 1) 38 0 (lv_args 0 [.ref 3, .int (nI t)]) [] h (PMB ln ce e ns nt l h0 (mS l e t fa pa (aT l e z) (sl.set t 0) (we.set t 1))) := by
  show j_W jP (d + 1 + 1 + 1) 38 0 [(0, .ref 3), (1, .int (nI t))] [] h _
  refine j_W.one xm_M xm_0 (by decide) (pcJ := 1) (stJ := [.ref 3]) rfl ?_
  refine j_W.getK xm_M xm_1 (ci := 4) (j := 1) rfl K rfl rfl ?_
  refine j_W.getK xm_M xm_4 (ci := 2) (j := 11) rfl K rfl rfl ?_
  refine j_W.one xm_M xm_7 (by decide) (pcJ := 8) (stJ := [.int (nI t), .ref 353]) rfl ?_
  refine j_W.one xm_M xm_8 (by decide) (pcJ := 9) (stJ := [.int 0, .int (nI t), .ref 353]) rfl ?_
  refine j_W.iastK xm_M xm_9 (n := t) (k' := [(1, .inl (8, [.ref 2, .int ln, .int (nI e), .int (nI z.1), .int z.2.1, .int z.2.2.1, .long z.2.2.2.1, .int z.2.2.2.2])), (2, .inr (.inl (1, l))), (3, .inl (4, [.ref 1, .ref 343, .int fa, .int pa])), (343, .inl (2, [.int (nI ns), .ref 344, .ref 345, .ref 346, .ref 347, .int (nI nt), .ref 348, .ref 349, .ref 350, .ref 351, .ref 352, .ref 353, .ref 354, .int ce, .ref 355, .ref 356, .ref 357, .ref 358])), (353, .inr (.inl (0, (sl.set t 0)))), (354, .inr (.inl (0, we)))]) K rfl (by omega) (by omega) rfl (fun h K => ?_)
  refine j_W.one xm_M xm_10 (by decide) (pcJ := 11) (stJ := [.ref 3]) rfl ?_
  refine j_W.getK xm_M xm_11 (ci := 4) (j := 1) rfl K rfl rfl ?_
  refine j_W.getK xm_M xm_14 (ci := 2) (j := 12) rfl K rfl rfl ?_
  refine j_W.one xm_M xm_17 (by decide) (pcJ := 18) (stJ := [.int (nI t), .ref 354]) rfl ?_
  refine j_W.one xm_M xm_18 (by decide) (pcJ := 19) (stJ := [.int 1, .int (nI t), .ref 354]) rfl ?_
  refine j_W.iastK xm_M xm_19 (n := t) (k' := [(1, .inl (8, [.ref 2, .int ln, .int (nI e), .int (nI z.1), .int z.2.1, .int z.2.2.1, .long z.2.2.2.1, .int z.2.2.2.2])), (2, .inr (.inl (1, l))), (3, .inl (4, [.ref 1, .ref 343, .int fa, .int pa])), (343, .inl (2, [.int (nI ns), .ref 344, .ref 345, .ref 346, .ref 347, .int (nI nt), .ref 348, .ref 349, .ref 350, .ref 351, .ref 352, .ref 353, .ref 354, .int ce, .ref 355, .ref 356, .ref 357, .ref 358])), (353, .inr (.inl (0, (sl.set t 0)))), (354, .inr (.inl (0, (we.set t 1))))]) K rfl (by omega) (by omega) rfl (fun h K => ?_)
  refine j_W.one xm_M xm_20 (by decide) (pcJ := 21) (stJ := [.ref 3]) rfl ?_
  refine j_W.getK xm_M xm_21 (ci := 4) (j := 0) rfl K rfl rfl ?_
  refine j_W.call xm_M xm_24 rfl (md := 3) (mj := 107) rfl (by decide) sa_M (As := [.ref 1]) (rest := []) (jk_spl3 (K.at rfl) rfl rfl rfl (Nat.le_of_ble_eq_true rfl) (Nat.le_of_ble_eq_true rfl)) (sa_ok hl he hp (K.sub ⟨rfl, rfl, trivial⟩)) ?_
  rintro r h9 ⟨rfl, K9⟩
  have K : KN h9 [(1, .inl (8, [.ref 2, .int ln, .int (nI e), .int (nI (aT l e z).1), .int (aT l e z).2.1, .int (aT l e z).2.2.1, .long (aT l e z).2.2.2.1, .int (aT l e z).2.2.2.2])), (2, .inr (.inl (1, l))), (3, .inl (4, [.ref 1, .ref 343, .int fa, .int pa])), (343, .inl (2, [.int (nI ns), .ref 344, .ref 345, .ref 346, .ref 347, .int (nI nt), .ref 348, .ref 349, .ref 350, .ref 351, .ref 352, .ref 353, .ref 354, .int ce, .ref 355, .ref 356, .ref 357, .ref 358])), (353, .inr (.inl (0, (sl.set t 0)))), (354, .inr (.inl (0, (we.set t 1))))] h0 := K.go K9 rfl rfl rfl
  clear K9
  show j_W jP _ 38 27 [(0, .ref 3), (1, .int (nI t))] [] h9 _
  exact xm_sB hl he (tkN_le hp) ht (by simp [h1]) (by simp [h2]) K

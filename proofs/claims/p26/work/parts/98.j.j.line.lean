/-! the class's readStation, readTrain: written by wip/jk/gen_line.py -/
set_option maxRecDepth 100000 in
theorem xp_M : j_meth jP 35 = some (yX4_readStation, cX4_readStation, 2, (some .boolean), 0, false, 4) := rfl
set_option maxRecDepth 100000 in
theorem xp_0 : j_code jP 35 0 = some (.aload_n 0) := rfl
set_option maxRecDepth 100000 in
theorem xp_1 : j_code jP 35 1 = some (.getfield 22) := rfl
set_option maxRecDepth 100000 in
theorem xp_4 : j_code jP 35 4 = some (.getfield 61) := rfl
set_option maxRecDepth 100000 in
theorem xp_7 : j_code jP 35 7 = some (.istore_n 1) := rfl
set_option maxRecDepth 100000 in
theorem xp_8 : j_code jP 35 8 = some (.iload_n 1) := rfl
set_option maxRecDepth 100000 in
theorem xp_9 : j_code jP 35 9 = some (.bipush 7) := rfl
set_option maxRecDepth 100000 in
theorem xp_11 : j_code jP 35 11 = some (.if_icmp .lt 9) := rfl
set_option maxRecDepth 100000 in
theorem xp_14 : j_code jP 35 14 = some (.aload_n 0) := rfl
set_option maxRecDepth 100000 in
theorem xp_15 : j_code jP 35 15 = some (.iconst 5) := rfl
set_option maxRecDepth 100000 in
theorem xp_16 : j_code jP 35 16 = some (.invokevirtual 64) := rfl
set_option maxRecDepth 100000 in
theorem xp_19 : j_code jP 35 19 = some (.ireturn) := rfl
set_option maxRecDepth 100000 in
theorem xp_20 : j_code jP 35 20 = some (.aload_n 0) := rfl
set_option maxRecDepth 100000 in
theorem xp_21 : j_code jP 35 21 = some (.invokevirtual 68) := rfl
set_option maxRecDepth 100000 in
theorem xp_24 : j_code jP 35 24 = some (.ifCond .ne 5) := rfl
set_option maxRecDepth 100000 in
theorem xp_27 : j_code jP 35 27 = some (.iconst 0) := rfl
set_option maxRecDepth 100000 in
theorem xp_28 : j_code jP 35 28 = some (.ireturn) := rfl
set_option maxRecDepth 100000 in
theorem xp_29 : j_code jP 35 29 = some (.aload_n 0) := rfl
set_option maxRecDepth 100000 in
theorem xp_30 : j_code jP 35 30 = some (.getfield 22) := rfl
set_option maxRecDepth 100000 in
theorem xp_33 : j_code jP 35 33 = some (.getfield 71) := rfl
set_option maxRecDepth 100000 in
theorem xp_36 : j_code jP 35 36 = some (.iload_n 1) := rfl
set_option maxRecDepth 100000 in
theorem xp_37 : j_code jP 35 37 = some (.aload_n 0) := rfl
set_option maxRecDepth 100000 in
theorem xp_38 : j_code jP 35 38 = some (.getfield 18) := rfl
set_option maxRecDepth 100000 in
theorem xp_41 : j_code jP 35 41 = some (.getfield 75) := rfl
set_option maxRecDepth 100000 in
theorem xp_44 : j_code jP 35 44 = some (.lastore) := rfl
set_option maxRecDepth 100000 in
theorem xp_45 : j_code jP 35 45 = some (.aload_n 0) := rfl
set_option maxRecDepth 100000 in
theorem xp_46 : j_code jP 35 46 = some (.iload_n 1) := rfl
set_option maxRecDepth 100000 in
theorem xp_47 : j_code jP 35 47 = some (.ifCond .ne 7) := rfl
set_option maxRecDepth 100000 in
theorem xp_50 : j_code jP 35 50 = some (.iconst 0) := rfl
set_option maxRecDepth 100000 in
theorem xp_51 : j_code jP 35 51 = some (.goto 4) := rfl
set_option maxRecDepth 100000 in
theorem xp_54 : j_code jP 35 54 = some (.iconst 1) := rfl
set_option maxRecDepth 100000 in
theorem xp_55 : j_code jP 35 55 = some (.bipush 30) := rfl
set_option maxRecDepth 100000 in
theorem xp_57 : j_code jP 35 57 = some (.invokevirtual 79) := rfl
set_option maxRecDepth 100000 in
theorem xp_60 : j_code jP 35 60 = some (.ifCond .ne 5) := rfl
set_option maxRecDepth 100000 in
theorem xp_63 : j_code jP 35 63 = some (.iconst 0) := rfl
set_option maxRecDepth 100000 in
theorem xp_64 : j_code jP 35 64 = some (.ireturn) := rfl
set_option maxRecDepth 100000 in
theorem xp_65 : j_code jP 35 65 = some (.aload_n 0) := rfl
set_option maxRecDepth 100000 in
theorem xp_66 : j_code jP 35 66 = some (.getfield 22) := rfl
set_option maxRecDepth 100000 in
theorem xp_69 : j_code jP 35 69 = some (.getfield 83) := rfl
set_option maxRecDepth 100000 in
theorem xp_72 : j_code jP 35 72 = some (.iload_n 1) := rfl
set_option maxRecDepth 100000 in
theorem xp_73 : j_code jP 35 73 = some (.aload_n 0) := rfl
set_option maxRecDepth 100000 in
theorem xp_74 : j_code jP 35 74 = some (.getfield 18) := rfl
set_option maxRecDepth 100000 in
theorem xp_77 : j_code jP 35 77 = some (.getfield 87) := rfl
set_option maxRecDepth 100000 in
theorem xp_80 : j_code jP 35 80 = some (.iastore) := rfl
set_option maxRecDepth 100000 in
theorem xp_81 : j_code jP 35 81 = some (.aload_n 0) := rfl
set_option maxRecDepth 100000 in
theorem xp_82 : j_code jP 35 82 = some (.iload_n 1) := rfl
set_option maxRecDepth 100000 in
theorem xp_83 : j_code jP 35 83 = some (.invokevirtual 90) := rfl
set_option maxRecDepth 100000 in
theorem xp_86 : j_code jP 35 86 = some (.ifCond .ne 5) := rfl
set_option maxRecDepth 100000 in
theorem xp_89 : j_code jP 35 89 = some (.iconst 0) := rfl
set_option maxRecDepth 100000 in
theorem xp_90 : j_code jP 35 90 = some (.ireturn) := rfl
set_option maxRecDepth 100000 in
theorem xp_91 : j_code jP 35 91 = some (.aload_n 0) := rfl
set_option maxRecDepth 100000 in
theorem xp_92 : j_code jP 35 92 = some (.getfield 22) := rfl
set_option maxRecDepth 100000 in
theorem xp_95 : j_code jP 35 95 = some (.dup) := rfl
set_option maxRecDepth 100000 in
theorem xp_96 : j_code jP 35 96 = some (.getfield 61) := rfl
set_option maxRecDepth 100000 in
theorem xp_99 : j_code jP 35 99 = some (.iconst 1) := rfl
set_option maxRecDepth 100000 in
theorem xp_100 : j_code jP 35 100 = some (.iadd) := rfl
set_option maxRecDepth 100000 in
theorem xp_101 : j_code jP 35 101 = some (.putfield 61) := rfl
set_option maxRecDepth 100000 in
theorem xp_104 : j_code jP 35 104 = some (.iconst 1) := rfl
set_option maxRecDepth 100000 in
theorem xp_105 : j_code jP 35 105 = some (.ireturn) := rfl
def PSA (ln ce : Int32) (e nt : Nat) (l : List Int32) (tn : List Int64) (h0 : J_H) (R : rA) (rv : Option Value) (h' : J_H) : Prop := rv = some (.int (bif R.1 then 1 else 0)) ∧ KN h' [(1, .inl (8, [.ref 2, .int ln, .int (nI e), .int (nI R.2.2.1.1), .int R.2.2.1.2.1, .int R.2.2.1.2.2.1, .long R.2.2.1.2.2.2.1, .int R.2.2.1.2.2.2.2])), (2, .inr (.inl (1, l))), (3, .inl (4, [.ref 1, .ref 327, .int R.2.1.1, .int R.2.1.2])), (327, .inl (2, [.int (nI R.2.2.2.1), .ref 328, .ref 329, .ref 330, .ref 331, .int (nI nt), .ref 332, .ref 333, .ref 334, .ref 335, .ref 336, .ref 337, .ref 338, .int ce, .ref 339, .ref 340, .ref 341, .ref 342])), (328, .inr (.inr (.inl R.2.2.2.2.1))), (329, .inr (.inl (0, R.2.2.2.2.2.1))), (330, .inr (.inl (0, R.2.2.2.2.2.2.1))), (331, .inr (.inl (0, R.2.2.2.2.2.2.2))), (332, .inr (.inr (.inl tn)))] h0
theorem xr_okA {ln fa pa ce : Int32} {e ns nt : Nat} {l : List Int32} {h h0 : J_H} {d : Nat} {z : rK} {tr le : List Int32} (hl : l.length = 700) (he : e ≤ 700) (hp : z.1 ≤ e) (hn : ns < 7) (h3 : tr.length = 7) (h4 : le.length = 21) (K : KN h [(1, .inl (8, [.ref 2, .int ln, .int (nI e), .int (nI z.1), .int z.2.1, .int z.2.2.1, .long z.2.2.2.1, .int z.2.2.2.2])), (2, .inr (.inl (1, l))), (3, .inl (4, [.ref 1, .ref 327, .int fa, .int pa])), (327, .inl (2, [.int (nI ns), .ref 328, .ref 329, .ref 330, .ref 331, .int (nI nt), .ref 332, .ref 333, .ref 334, .ref 335, .ref 336, .ref 337, .ref 338, .int ce, .ref 339, .ref 340, .ref 341, .ref 342])), (330, .inr (.inl (0, tr))), (331, .inr (.inl (0, le)))] h0) : j_W jP (d + 1 + 1) 36 0 (lv_args 0 [.ref 3, .int (nI ns)]) [] h (PTA ln ce e ns nt l h0 (rT l e ns fa pa 4 0 z.1 z.2.1 z.2.2.1 z.2.2.2.1 z.2.2.2.2 tr le)) := by
  show j_W jP (d + 1 + 1) 36 0 [(0, .ref 3), (1, .int (nI ns))] [] h _
  refine j_W.one xr_M xr_0 (by decide) (pcJ := 1) (stJ := [.int 0]) rfl ?_
  refine j_W.one xr_M xr_1 (by decide) (pcJ := 2) (lv' := [(2, .int 0), (0, .ref 3), (1, .int (nI ns))]) (stJ := []) rfl ?_
  exact xr_lA hl he hn 4 0 z.1 z.2.1 z.2.2.1 z.2.2.2.1 z.2.2.2.2 tr le h rfl hp h3 h4 K
theorem xp_gA {ln fa pa ce : Int32} {e ns nt : Nat} {l : List Int32} {h h0 : J_H} {d : Nat} {z : rK} {sn tn : List Int64} {ru tr le : List Int32} (hl : l.length = 700) (he : e ≤ 700) (hp : z.1 ≤ e) (hn : ns < 7) (h3 : tr.length = 7) (h4 : le.length = 21) (K : KN h [(1, .inl (8, [.ref 2, .int ln, .int (nI e), .int (nI z.1), .int z.2.1, .int z.2.2.1, .long z.2.2.2.1, .int z.2.2.2.2])), (2, .inr (.inl (1, l))), (3, .inl (4, [.ref 1, .ref 327, .int fa, .int pa])), (327, .inl (2, [.int (nI ns), .ref 328, .ref 329, .ref 330, .ref 331, .int (nI nt), .ref 332, .ref 333, .ref 334, .ref 335, .ref 336, .ref 337, .ref 338, .int ce, .ref 339, .ref 340, .ref 341, .ref 342])), (328, .inr (.inr (.inl sn))), (329, .inr (.inl (0, ru))), (330, .inr (.inl (0, tr))), (331, .inr (.inl (0, le))), (332, .inr (.inr (.inl tn)))] h0) : j_W jP (d + 1 + 1 + 1) 35 81 [(1, .int (nI ns)), (0, .ref 3)] [] h (PSA ln ce e nt l tn h0 (stE ns sn ru (rT l e ns fa pa 4 0 z.1 z.2.1 z.2.2.1 z.2.2.2.1 z.2.2.2.2 tr le))) := by
  refine j_W.one xp_M xp_81 (by decide) (pcJ := 82) (stJ := [.ref 3]) rfl ?_
  refine j_W.one xp_M xp_82 (by decide) (pcJ := 83) (stJ := [.int (nI ns), .ref 3]) rfl ?_
  generalize hR : (rT l e ns fa pa 4 0 z.1 z.2.1 z.2.2.1 z.2.2.2.1 z.2.2.2.2 tr le) = R
  refine j_W.call xp_M xp_83 rfl (md := 3) (mj := 36) rfl (by decide) xr_M (As := [.ref 3, .int (nI ns)]) (rest := []) (jk_spl3 (K.at rfl) rfl rfl rfl (Nat.le_of_ble_eq_true rfl) (Nat.le_of_ble_eq_true rfl)) (hR ▸ xr_okA hl he hp hn h3 h4 (K.sub ⟨rfl, rfl, rfl, rfl, rfl, rfl, trivial⟩)) ?_
  rintro r h9 ⟨rfl, K9⟩
  have K : KN h9 [(1, .inl (8, [.ref 2, .int ln, .int (nI e), .int (nI R.2.2.1.1), .int R.2.2.1.2.1, .int R.2.2.1.2.2.1, .long R.2.2.1.2.2.2.1, .int R.2.2.1.2.2.2.2])), (2, .inr (.inl (1, l))), (3, .inl (4, [.ref 1, .ref 327, .int R.2.1.1, .int R.2.1.2])), (327, .inl (2, [.int (nI ns), .ref 328, .ref 329, .ref 330, .ref 331, .int (nI nt), .ref 332, .ref 333, .ref 334, .ref 335, .ref 336, .ref 337, .ref 338, .int ce, .ref 339, .ref 340, .ref 341, .ref 342])), (328, .inr (.inr (.inl sn))), (329, .inr (.inl (0, ru))), (330, .inr (.inl (0, R.2.2.2.1))), (331, .inr (.inl (0, R.2.2.2.2))), (332, .inr (.inr (.inl tn)))] h0 := K.go K9 rfl rfl rfl
  clear K9
  show j_W jP _ 35 86 [(1, .int (nI ns)), (0, .ref 3)] [.int (bif R.1 then 1 else 0)] h9 _
  clear hR
  obtain ⟨R1, R2, R3, R4, R5⟩ := R
  cases R1 with
  | true =>
    have K : KN h9 [(1, .inl (8, [.ref 2, .int ln, .int (nI e), .int (nI R3.1), .int R3.2.1, .int R3.2.2.1, .long R3.2.2.2.1, .int R3.2.2.2.2])), (2, .inr (.inl (1, l))), (3, .inl (4, [.ref 1, .ref 327, .int R2.1, .int R2.2])), (327, .inl (2, [.int (nI ns), .ref 328, .ref 329, .ref 330, .ref 331, .int (nI nt), .ref 332, .ref 333, .ref 334, .ref 335, .ref 336, .ref 337, .ref 338, .int ce, .ref 339, .ref 340, .ref 341, .ref 342])), (328, .inr (.inr (.inl sn))), (329, .inr (.inl (0, ru))), (330, .inr (.inl (0, R4))), (331, .inr (.inl (0, R5))), (332, .inr (.inr (.inl tn)))] h0 := K
    show j_W jP _ 35 86 [(1, .int (nI ns)), (0, .ref 3)] [.int 1] h9 _
    refine j_W.ifc xp_M xp_86 (t := 91) rfl (fun c => ?_) (fun c => ?_)
    · clear c
      refine j_W.one xp_M xp_91 (by decide) (pcJ := 92) (stJ := [.ref 3]) rfl ?_
      refine j_W.getK xp_M xp_92 (ci := 4) (j := 1) rfl K rfl rfl ?_
      refine j_W.one xp_M xp_95 (by decide) (pcJ := 96) (stJ := [.ref 327, .ref 327]) rfl ?_
      refine j_W.getK xp_M xp_96 (ci := 2) (j := 0) rfl K rfl rfl ?_
      refine j_W.one xp_M xp_99 (by decide) (pcJ := 100) (stJ := [.int 1, .int (nI ns), .ref 327]) rfl ?_
      refine j_W.one xp_M xp_100 (by decide) (pcJ := 101) (stJ := [.int ((nI ns) + 1), .ref 327]) rfl ?_
      refine j_W.putK xp_M xp_101 (ci := 2) (j := 0) (k' := [(1, .inl (8, [.ref 2, .int ln, .int (nI e), .int (nI R3.1), .int R3.2.1, .int R3.2.2.1, .long R3.2.2.2.1, .int R3.2.2.2.2])), (2, .inr (.inl (1, l))), (3, .inl (4, [.ref 1, .ref 327, .int R2.1, .int R2.2])), (327, .inl (2, [.int ((nI ns) + 1), .ref 328, .ref 329, .ref 330, .ref 331, .int (nI nt), .ref 332, .ref 333, .ref 334, .ref 335, .ref 336, .ref 337, .ref 338, .int ce, .ref 339, .ref 340, .ref 341, .ref 342])), (328, .inr (.inr (.inl sn))), (329, .inr (.inl (0, ru))), (330, .inr (.inl (0, R4))), (331, .inr (.inl (0, R5))), (332, .inr (.inr (.inl tn)))]) rfl K rfl (Nat.le_of_ble_eq_true rfl) rfl (Or.inl rfl) rfl rfl (fun h K => ?_)
      refine j_W.one xp_M xp_104 (by decide) (pcJ := 105) (stJ := [.int 1]) rfl ?_
      refine j_W.ret xp_M xp_105 rfl rfl ⟨rfl, ?_⟩
      rw [← nI_succ] at K
      exact K
    · cases c
  | false =>
    have K : KN h9 [(1, .inl (8, [.ref 2, .int ln, .int (nI e), .int (nI R3.1), .int R3.2.1, .int R3.2.2.1, .long R3.2.2.2.1, .int R3.2.2.2.2])), (2, .inr (.inl (1, l))), (3, .inl (4, [.ref 1, .ref 327, .int R2.1, .int R2.2])), (327, .inl (2, [.int (nI ns), .ref 328, .ref 329, .ref 330, .ref 331, .int (nI nt), .ref 332, .ref 333, .ref 334, .ref 335, .ref 336, .ref 337, .ref 338, .int ce, .ref 339, .ref 340, .ref 341, .ref 342])), (328, .inr (.inr (.inl sn))), (329, .inr (.inl (0, ru))), (330, .inr (.inl (0, R4))), (331, .inr (.inl (0, R5))), (332, .inr (.inr (.inl tn)))] h0 := K
    show j_W jP _ 35 86 [(1, .int (nI ns)), (0, .ref 3)] [.int 0] h9 _
    refine j_W.ifc xp_M xp_86 (t := 91) rfl (fun c => ?_) (fun c => ?_)
    · cases c
    · refine j_W.one xp_M xp_89 (by decide) (pcJ := 90) (stJ := [.int 0]) rfl ?_
      refine j_W.ret xp_M xp_90 rfl rfl ⟨rfl, K⟩
theorem xp_nA {ln fa pa ce : Int32} {e ns nt : Nat} {l : List Int32} {h h0 : J_H} {d : Nat} {z : rK} {sn tn : List Int64} {ru tr le : List Int32} {lo : Int32} (hl : l.length = 700) (he : e ≤ 700) (hp : z.1 ≤ e) (hn : ns < 7) (h2 : ru.length = 7) (h3 : tr.length = 7) (h4 : le.length = 21) (K : KN h [(1, .inl (8, [.ref 2, .int ln, .int (nI e), .int (nI z.1), .int z.2.1, .int z.2.2.1, .long z.2.2.2.1, .int z.2.2.2.2])), (2, .inr (.inl (1, l))), (3, .inl (4, [.ref 1, .ref 327, .int fa, .int pa])), (327, .inl (2, [.int (nI ns), .ref 328, .ref 329, .ref 330, .ref 331, .int (nI nt), .ref 332, .ref 333, .ref 334, .ref 335, .ref 336, .ref 337, .ref 338, .int ce, .ref 339, .ref 340, .ref 341, .ref 342])), (328, .inr (.inr (.inl sn))), (329, .inr (.inl (0, ru))), (330, .inr (.inl (0, tr))), (331, .inr (.inl (0, le))), (332, .inr (.inr (.inl tn)))] h0) : j_W jP (d + 1 + 1 + 1) 35 55 [(1, .int (nI ns)), (0, .ref 3)] [.int lo, .ref 3] h (PSA ln ce e nt l tn h0 (stN l e ns fa pa z lo sn ru tr le)) := by
  unfold stN
  refine j_W.one xp_M xp_55 (by decide) (pcJ := 57) (stJ := [.int 30, .int lo, .ref 3]) rfl ?_
  refine j_W.call xp_M xp_57 rfl (md := 3) (mj := 39) rfl (by decide) xt_M (As := [.ref 3, .int lo, .int 30]) (rest := []) (jk_spl3 (K.at rfl) rfl rfl rfl (Nat.le_of_ble_eq_true rfl) (Nat.le_of_ble_eq_true rfl)) (xt_ok hl he hp (K.sub ⟨rfl, rfl, rfl, trivial⟩)) ?_
  rintro r h9 ⟨rfl, K9⟩
  have K : KN h9 [(1, .inl (8, [.ref 2, .int ln, .int (nI e), .int (nI (aT l e z).1), .int (aT l e z).2.1, .int (aT l e z).2.2.1, .long (aT l e z).2.2.2.1, .int (aT l e z).2.2.2.2])), (2, .inr (.inl (1, l))), (3, .inl (4, [.ref 1, .ref 327, .int (bif (nOk (aT l e z).2.1 (aT l e z).2.2.2.2 lo 30) then fa else nF (aT l e z).2.1), .int (bif (nOk (aT l e z).2.1 (aT l e z).2.2.2.2 lo 30) then pa else (aT l e z).2.2.1)])), (327, .inl (2, [.int (nI ns), .ref 328, .ref 329, .ref 330, .ref 331, .int (nI nt), .ref 332, .ref 333, .ref 334, .ref 335, .ref 336, .ref 337, .ref 338, .int ce, .ref 339, .ref 340, .ref 341, .ref 342])), (328, .inr (.inr (.inl sn))), (329, .inr (.inl (0, ru))), (330, .inr (.inl (0, tr))), (331, .inr (.inl (0, le))), (332, .inr (.inr (.inl tn)))] h0 := K.go K9 rfl rfl rfl
  clear K9
  show j_W jP _ 35 60 [(1, .int (nI ns)), (0, .ref 3)] [.int (bif (nOk (aT l e z).2.1 (aT l e z).2.2.2.2 lo 30) then 1 else 0)] h9 _
  cases hb : nOk (aT l e z).2.1 (aT l e z).2.2.2.2 lo 30 with
  | true =>
    rw [hb] at K
    have K : KN h9 [(1, .inl (8, [.ref 2, .int ln, .int (nI e), .int (nI (aT l e z).1), .int (aT l e z).2.1, .int (aT l e z).2.2.1, .long (aT l e z).2.2.2.1, .int (aT l e z).2.2.2.2])), (2, .inr (.inl (1, l))), (3, .inl (4, [.ref 1, .ref 327, .int fa, .int pa])), (327, .inl (2, [.int (nI ns), .ref 328, .ref 329, .ref 330, .ref 331, .int (nI nt), .ref 332, .ref 333, .ref 334, .ref 335, .ref 336, .ref 337, .ref 338, .int ce, .ref 339, .ref 340, .ref 341, .ref 342])), (328, .inr (.inr (.inl sn))), (329, .inr (.inl (0, ru))), (330, .inr (.inl (0, tr))), (331, .inr (.inl (0, le))), (332, .inr (.inr (.inl tn)))] h0 := K
    show j_W jP _ 35 60 [(1, .int (nI ns)), (0, .ref 3)] [.int 1] h9 _
    refine j_W.ifc xp_M xp_60 (t := 65) rfl (fun c => ?_) (fun c => ?_)
    · clear c
      refine j_W.one xp_M xp_65 (by decide) (pcJ := 66) (stJ := [.ref 3]) rfl ?_
      refine j_W.getK xp_M xp_66 (ci := 4) (j := 1) rfl K rfl rfl ?_
      refine j_W.getK xp_M xp_69 (ci := 2) (j := 2) rfl K rfl rfl ?_
      refine j_W.one xp_M xp_72 (by decide) (pcJ := 73) (stJ := [.int (nI ns), .ref 329]) rfl ?_
      refine j_W.one xp_M xp_73 (by decide) (pcJ := 74) (stJ := [.ref 3, .int (nI ns), .ref 329]) rfl ?_
      refine j_W.getK xp_M xp_74 (ci := 4) (j := 0) rfl K rfl rfl ?_
      refine j_W.getK xp_M xp_77 (ci := 8) (j := 7) rfl K rfl rfl ?_
      refine j_W.iastK xp_M xp_80 (n := ns) (k' := [(1, .inl (8, [.ref 2, .int ln, .int (nI e), .int (nI (aT l e z).1), .int (aT l e z).2.1, .int (aT l e z).2.2.1, .long (aT l e z).2.2.2.1, .int (aT l e z).2.2.2.2])), (2, .inr (.inl (1, l))), (3, .inl (4, [.ref 1, .ref 327, .int fa, .int pa])), (327, .inl (2, [.int (nI ns), .ref 328, .ref 329, .ref 330, .ref 331, .int (nI nt), .ref 332, .ref 333, .ref 334, .ref 335, .ref 336, .ref 337, .ref 338, .int ce, .ref 339, .ref 340, .ref 341, .ref 342])), (328, .inr (.inr (.inl sn))), (329, .inr (.inl (0, (ru.set ns (aT l e z).2.2.2.2)))), (330, .inr (.inl (0, tr))), (331, .inr (.inl (0, le))), (332, .inr (.inr (.inl tn)))]) K rfl (by omega) (by omega) rfl (fun h K => ?_)
      exact xp_gA hl he (tkN_le hp) hn h3 h4 K
    · cases c
  | false =>
    rw [hb] at K
    have K : KN h9 [(1, .inl (8, [.ref 2, .int ln, .int (nI e), .int (nI (aT l e z).1), .int (aT l e z).2.1, .int (aT l e z).2.2.1, .long (aT l e z).2.2.2.1, .int (aT l e z).2.2.2.2])), (2, .inr (.inl (1, l))), (3, .inl (4, [.ref 1, .ref 327, .int (nF (aT l e z).2.1), .int (aT l e z).2.2.1])), (327, .inl (2, [.int (nI ns), .ref 328, .ref 329, .ref 330, .ref 331, .int (nI nt), .ref 332, .ref 333, .ref 334, .ref 335, .ref 336, .ref 337, .ref 338, .int ce, .ref 339, .ref 340, .ref 341, .ref 342])), (328, .inr (.inr (.inl sn))), (329, .inr (.inl (0, ru))), (330, .inr (.inl (0, tr))), (331, .inr (.inl (0, le))), (332, .inr (.inr (.inl tn)))] h0 := K
    show j_W jP _ 35 60 [(1, .int (nI ns)), (0, .ref 3)] [.int 0] h9 _
    refine j_W.ifc xp_M xp_60 (t := 65) rfl (fun c => ?_) (fun c => ?_)
    · cases c
    · refine j_W.one xp_M xp_63 (by decide) (pcJ := 64) (stJ := [.int 0]) rfl ?_
      refine j_W.ret xp_M xp_64 rfl rfl ⟨rfl, K⟩
theorem xp_okA {ln fa pa ce : Int32} {e ns nt : Nat} {l : List Int32} {h h0 : J_H} {d : Nat} {z : rK} {sn tn : List Int64} {ru tr le : List Int32} (hl : l.length = 700) (he : e ≤ 700) (hp : z.1 ≤ e) (hn : ns ≤ 7) (hm : nt ≤ 5) (h1 : sn.length = 7) (h2 : ru.length = 7) (h3 : tr.length = 7) (h4 : le.length = 21) (h5 : tn.length = 5) (K : KN h [(1, .inl (8, [.ref 2, .int ln, .int (nI e), .int (nI z.1), .int z.2.1, .int z.2.2.1, .long z.2.2.2.1, .int z.2.2.2.2])), (2, .inr (.inl (1, l))), (3, .inl (4, [.ref 1, .ref 327, .int fa, .int pa])), (327, .inl (2, [.int (nI ns), .ref 328, .ref 329, .ref 330, .ref 331, .int (nI nt), .ref 332, .ref 333, .ref 334, .ref 335, .ref 336, .ref 337, .ref 338, .int ce, .ref 339, .ref 340, .ref 341, .ref 342])), (328, .inr (.inr (.inl sn))), (329, .inr (.inl (0, ru))), (330, .inr (.inl (0, tr))), (331, .inr (.inl (0, le))), (332, .inr (.inr (.inl tn)))] h0) : j_W jP (d + 1 + 1 + 1 + 1) 35 0 (lv_args 0 [.ref 3]) [] h (PSA ln ce e nt l tn h0 (stX l e ns nt fa pa z sn tn ru tr le)) := by
  show j_W jP (d + 1 + 1 + 1 + 1) 35 0 [(0, .ref 3)] [] h _
  unfold stX
  refine j_W.one xp_M xp_0 (by decide) (pcJ := 1) (stJ := [.ref 3]) rfl ?_
  refine j_W.getK xp_M xp_1 (ci := 4) (j := 1) rfl K rfl rfl ?_
  refine j_W.getK xp_M xp_4 (ci := 2) (j := 0) rfl K rfl rfl ?_
  refine j_W.one xp_M xp_7 (by decide) (pcJ := 8) (lv' := [(1, .int (nI ns)), (0, .ref 3)]) (stJ := []) rfl ?_
  refine j_W.one xp_M xp_8 (by decide) (pcJ := 9) (stJ := [.int (nI ns)]) rfl ?_
  refine j_W.one xp_M xp_9 (by decide) (pcJ := 11) (stJ := [.int 7, .int (nI ns)]) rfl ?_
  refine j_W.icmp xp_M xp_11 (t := 20) rfl (fun c => ?_) (fun c => ?_)
  · rw [sk_lt] at c; have c := of_decide_eq_true c; rw [nI_toInt (by omega), show (7 : Int32).toInt = 7 from rfl] at c; have hn7 : ns < 7 := (by omega); rw [if_neg (show ¬ 7 ≤ ns by omega)]
    clear c
    refine j_W.one xp_M xp_20 (by decide) (pcJ := 21) (stJ := [.ref 3]) rfl ?_
    refine j_W.call xp_M xp_21 rfl (md := 3) (mj := 42) rfl (by decide) xq_M (As := [.ref 3]) (rest := []) (jk_spl3 (K.at rfl) rfl rfl rfl (Nat.le_of_ble_eq_true rfl) (Nat.le_of_ble_eq_true rfl)) (xq_okA hl he hp h1 h5 hn hm (K.sub ⟨rfl, rfl, rfl, rfl, rfl, rfl, trivial⟩)) ?_
    rintro r h9 ⟨rfl, K9⟩
    have K : KN h9 [(1, .inl (8, [.ref 2, .int ln, .int (nI e), .int (nI (aT l e z).1), .int (aT l e z).2.1, .int (aT l e z).2.2.1, .long (aT l e z).2.2.2.1, .int (aT l e z).2.2.2.2])), (2, .inr (.inl (1, l))), (3, .inl (4, [.ref 1, .ref 327, .int (bif nnOk (aT l e z).2.1 (aT l e z).2.2.2.1 sn tn ns nt then fa else uF (aT l e z).2.1 (aT l e z).2.2.2.1), .int (bif nnOk (aT l e z).2.1 (aT l e z).2.2.2.1 sn tn ns nt then pa else (aT l e z).2.2.1)])), (327, .inl (2, [.int (nI ns), .ref 328, .ref 329, .ref 330, .ref 331, .int (nI nt), .ref 332, .ref 333, .ref 334, .ref 335, .ref 336, .ref 337, .ref 338, .int ce, .ref 339, .ref 340, .ref 341, .ref 342])), (328, .inr (.inr (.inl sn))), (329, .inr (.inl (0, ru))), (330, .inr (.inl (0, tr))), (331, .inr (.inl (0, le))), (332, .inr (.inr (.inl tn)))] h0 := K.go K9 rfl rfl rfl
    clear K9
    show j_W jP _ 35 24 [(1, .int (nI ns)), (0, .ref 3)] [.int (bif nnOk (aT l e z).2.1 (aT l e z).2.2.2.1 sn tn ns nt then 1 else 0)] h9 _
    cases hb : nnOk (aT l e z).2.1 (aT l e z).2.2.2.1 sn tn ns nt with
    | true =>
      rw [hb] at K
      have K : KN h9 [(1, .inl (8, [.ref 2, .int ln, .int (nI e), .int (nI (aT l e z).1), .int (aT l e z).2.1, .int (aT l e z).2.2.1, .long (aT l e z).2.2.2.1, .int (aT l e z).2.2.2.2])), (2, .inr (.inl (1, l))), (3, .inl (4, [.ref 1, .ref 327, .int fa, .int pa])), (327, .inl (2, [.int (nI ns), .ref 328, .ref 329, .ref 330, .ref 331, .int (nI nt), .ref 332, .ref 333, .ref 334, .ref 335, .ref 336, .ref 337, .ref 338, .int ce, .ref 339, .ref 340, .ref 341, .ref 342])), (328, .inr (.inr (.inl sn))), (329, .inr (.inl (0, ru))), (330, .inr (.inl (0, tr))), (331, .inr (.inl (0, le))), (332, .inr (.inr (.inl tn)))] h0 := K
      show j_W jP _ 35 24 [(1, .int (nI ns)), (0, .ref 3)] [.int 1] h9 _
      refine j_W.ifc xp_M xp_24 (t := 29) rfl (fun c => ?_) (fun c => ?_)
      · clear c
        refine j_W.one xp_M xp_29 (by decide) (pcJ := 30) (stJ := [.ref 3]) rfl ?_
        refine j_W.getK xp_M xp_30 (ci := 4) (j := 1) rfl K rfl rfl ?_
        refine j_W.getK xp_M xp_33 (ci := 2) (j := 1) rfl K rfl rfl ?_
        refine j_W.one xp_M xp_36 (by decide) (pcJ := 37) (stJ := [.int (nI ns), .ref 328]) rfl ?_
        refine j_W.one xp_M xp_37 (by decide) (pcJ := 38) (stJ := [.ref 3, .int (nI ns), .ref 328]) rfl ?_
        refine j_W.getK xp_M xp_38 (ci := 4) (j := 0) rfl K rfl rfl ?_
        refine j_W.getK xp_M xp_41 (ci := 8) (j := 6) rfl K rfl rfl ?_
        refine j_W.lastK xp_M xp_44 (n := ns) (k' := [(1, .inl (8, [.ref 2, .int ln, .int (nI e), .int (nI (aT l e z).1), .int (aT l e z).2.1, .int (aT l e z).2.2.1, .long (aT l e z).2.2.2.1, .int (aT l e z).2.2.2.2])), (2, .inr (.inl (1, l))), (3, .inl (4, [.ref 1, .ref 327, .int fa, .int pa])), (327, .inl (2, [.int (nI ns), .ref 328, .ref 329, .ref 330, .ref 331, .int (nI nt), .ref 332, .ref 333, .ref 334, .ref 335, .ref 336, .ref 337, .ref 338, .int ce, .ref 339, .ref 340, .ref 341, .ref 342])), (328, .inr (.inr (.inl (sn.set ns (aT l e z).2.2.2.1)))), (329, .inr (.inl (0, ru))), (330, .inr (.inl (0, tr))), (331, .inr (.inl (0, le))), (332, .inr (.inr (.inl tn)))]) K rfl (by omega) (by omega) rfl (fun h K => ?_)
        refine j_W.one xp_M xp_45 (by decide) (pcJ := 46) (stJ := [.ref 3]) rfl ?_
        refine j_W.one xp_M xp_46 (by decide) (pcJ := 47) (stJ := [.int (nI ns), .ref 3]) rfl ?_
        refine j_W.ifc xp_M xp_47 (t := 54) rfl (fun c => ?_) (fun c => ?_)
        · have c1 : ¬ ns = 0 := by intro z1; subst z1; exact absurd c (by decide)
          rw [if_neg c1]
          refine j_W.one xp_M xp_54 (by decide) (pcJ := 55) (stJ := [.int 1, .ref 3]) rfl ?_
          exact xp_nA hl he (tkN_le hp) hn7 h2 h3 h4 K
        · have c1 : ns = 0 := by
            by_cases z1 : ns = 0
            · exact z1
            · exfalso; have z2 : nI ns = 0 := by simpa [j_cond] using c
              have z3 : (nI ns).toInt = 0 := by rw [z2]; rfl
              rw [nI_toInt (by omega)] at z3; omega
          rw [if_pos c1]
          refine j_W.one xp_M xp_50 (by decide) (pcJ := 51) (stJ := [.int 0, .ref 3]) rfl ?_
          refine j_W.gto xp_M xp_51 (t := 55) rfl ?_
          exact xp_nA hl he (tkN_le hp) hn7 h2 h3 h4 K
      · cases c
    | false =>
      rw [hb] at K
      have K : KN h9 [(1, .inl (8, [.ref 2, .int ln, .int (nI e), .int (nI (aT l e z).1), .int (aT l e z).2.1, .int (aT l e z).2.2.1, .long (aT l e z).2.2.2.1, .int (aT l e z).2.2.2.2])), (2, .inr (.inl (1, l))), (3, .inl (4, [.ref 1, .ref 327, .int (uF (aT l e z).2.1 (aT l e z).2.2.2.1), .int (aT l e z).2.2.1])), (327, .inl (2, [.int (nI ns), .ref 328, .ref 329, .ref 330, .ref 331, .int (nI nt), .ref 332, .ref 333, .ref 334, .ref 335, .ref 336, .ref 337, .ref 338, .int ce, .ref 339, .ref 340, .ref 341, .ref 342])), (328, .inr (.inr (.inl sn))), (329, .inr (.inl (0, ru))), (330, .inr (.inl (0, tr))), (331, .inr (.inl (0, le))), (332, .inr (.inr (.inl tn)))] h0 := K
      show j_W jP _ 35 24 [(1, .int (nI ns)), (0, .ref 3)] [.int 0] h9 _
      refine j_W.ifc xp_M xp_24 (t := 29) rfl (fun c => ?_) (fun c => ?_)
      · cases c
      · refine j_W.one xp_M xp_27 (by decide) (pcJ := 28) (stJ := [.int 0]) rfl ?_
        refine j_W.ret xp_M xp_28 rfl rfl ⟨rfl, K⟩
  · rw [sk_lt] at c; have c := of_decide_eq_false c; rw [nI_toInt (by omega), show (7 : Int32).toInt = 7 from rfl] at c; rw [if_pos (show 7 ≤ ns by omega)]
    clear c
    refine j_W.one xp_M xp_14 (by decide) (pcJ := 15) (stJ := [.ref 3]) rfl ?_
    refine j_W.one xp_M xp_15 (by decide) (pcJ := 16) (stJ := [.int 5, .ref 3]) rfl ?_
    refine j_W.call xp_M xp_16 rfl (md := 3) (mj := 46) rfl (by decide) xf_M (As := [.ref 3, .int 5]) (rest := []) (jk_spl3 (K.at rfl) rfl rfl rfl (Nat.le_of_ble_eq_true rfl) (Nat.le_of_ble_eq_true rfl)) (xf_ok (K.sub ⟨rfl, rfl, trivial⟩)) ?_
    rintro r h9 ⟨rfl, K9⟩
    have K : KN h9 [(1, .inl (8, [.ref 2, .int ln, .int (nI e), .int (nI z.1), .int z.2.1, .int z.2.2.1, .long z.2.2.2.1, .int z.2.2.2.2])), (2, .inr (.inl (1, l))), (3, .inl (4, [.ref 1, .ref 327, .int 5, .int z.2.2.1])), (327, .inl (2, [.int (nI ns), .ref 328, .ref 329, .ref 330, .ref 331, .int (nI nt), .ref 332, .ref 333, .ref 334, .ref 335, .ref 336, .ref 337, .ref 338, .int ce, .ref 339, .ref 340, .ref 341, .ref 342])), (328, .inr (.inr (.inl sn))), (329, .inr (.inl (0, ru))), (330, .inr (.inl (0, tr))), (331, .inr (.inl (0, le))), (332, .inr (.inr (.inl tn)))] h0 := K.go K9 rfl rfl rfl
    clear K9
    show j_W jP _ 35 19 [(1, .int (nI ns)), (0, .ref 3)] [.int 0] h9 _
    refine j_W.ret xp_M xp_19 rfl rfl ⟨rfl, K⟩
set_option maxRecDepth 100000 in
theorem xv_M : j_meth jP 37 = some (yX4_readTrain, cX4_readTrain, 2, (some .boolean), 0, false, 4) := rfl
set_option maxRecDepth 100000 in
theorem xv_0 : j_code jP 37 0 = some (.aload_n 0) := rfl
set_option maxRecDepth 100000 in
theorem xv_1 : j_code jP 37 1 = some (.getfield 22) := rfl
set_option maxRecDepth 100000 in
theorem xv_4 : j_code jP 37 4 = some (.getfield 102) := rfl
set_option maxRecDepth 100000 in
theorem xv_7 : j_code jP 37 7 = some (.istore_n 1) := rfl
set_option maxRecDepth 100000 in
theorem xv_8 : j_code jP 37 8 = some (.iload_n 1) := rfl
set_option maxRecDepth 100000 in
theorem xv_9 : j_code jP 37 9 = some (.iconst 5) := rfl
set_option maxRecDepth 100000 in
theorem xv_10 : j_code jP 37 10 = some (.if_icmp .lt 9) := rfl
set_option maxRecDepth 100000 in
theorem xv_13 : j_code jP 37 13 = some (.aload_n 0) := rfl
set_option maxRecDepth 100000 in
theorem xv_14 : j_code jP 37 14 = some (.iconst 5) := rfl
set_option maxRecDepth 100000 in
theorem xv_15 : j_code jP 37 15 = some (.invokevirtual 64) := rfl
set_option maxRecDepth 100000 in
theorem xv_18 : j_code jP 37 18 = some (.ireturn) := rfl
set_option maxRecDepth 100000 in
theorem xv_19 : j_code jP 37 19 = some (.aload_n 0) := rfl
set_option maxRecDepth 100000 in
theorem xv_20 : j_code jP 37 20 = some (.invokevirtual 68) := rfl
set_option maxRecDepth 100000 in
theorem xv_23 : j_code jP 37 23 = some (.ifCond .ne 5) := rfl
set_option maxRecDepth 100000 in
theorem xv_26 : j_code jP 37 26 = some (.iconst 0) := rfl
set_option maxRecDepth 100000 in
theorem xv_27 : j_code jP 37 27 = some (.ireturn) := rfl
set_option maxRecDepth 100000 in
theorem xv_28 : j_code jP 37 28 = some (.aload_n 0) := rfl
set_option maxRecDepth 100000 in
theorem xv_29 : j_code jP 37 29 = some (.getfield 22) := rfl
set_option maxRecDepth 100000 in
theorem xv_32 : j_code jP 37 32 = some (.getfield 105) := rfl
set_option maxRecDepth 100000 in
theorem xv_35 : j_code jP 37 35 = some (.iload_n 1) := rfl
set_option maxRecDepth 100000 in
theorem xv_36 : j_code jP 37 36 = some (.aload_n 0) := rfl
set_option maxRecDepth 100000 in
theorem xv_37 : j_code jP 37 37 = some (.getfield 18) := rfl
set_option maxRecDepth 100000 in
theorem xv_40 : j_code jP 37 40 = some (.getfield 75) := rfl
set_option maxRecDepth 100000 in
theorem xv_43 : j_code jP 37 43 = some (.lastore) := rfl
set_option maxRecDepth 100000 in
theorem xv_44 : j_code jP 37 44 = some (.aload_n 0) := rfl
set_option maxRecDepth 100000 in
theorem xv_45 : j_code jP 37 45 = some (.iconst 1) := rfl
set_option maxRecDepth 100000 in
theorem xv_46 : j_code jP 37 46 = some (.bipush 99) := rfl
set_option maxRecDepth 100000 in
theorem xv_48 : j_code jP 37 48 = some (.invokevirtual 79) := rfl
set_option maxRecDepth 100000 in
theorem xv_51 : j_code jP 37 51 = some (.ifCond .ne 5) := rfl
set_option maxRecDepth 100000 in
theorem xv_54 : j_code jP 37 54 = some (.iconst 0) := rfl
set_option maxRecDepth 100000 in
theorem xv_55 : j_code jP 37 55 = some (.ireturn) := rfl
set_option maxRecDepth 100000 in
theorem xv_56 : j_code jP 37 56 = some (.aload_n 0) := rfl
set_option maxRecDepth 100000 in
theorem xv_57 : j_code jP 37 57 = some (.getfield 22) := rfl
set_option maxRecDepth 100000 in
theorem xv_60 : j_code jP 37 60 = some (.getfield 108) := rfl
set_option maxRecDepth 100000 in
theorem xv_63 : j_code jP 37 63 = some (.iload_n 1) := rfl
set_option maxRecDepth 100000 in
theorem xv_64 : j_code jP 37 64 = some (.aload_n 0) := rfl
set_option maxRecDepth 100000 in
theorem xv_65 : j_code jP 37 65 = some (.getfield 18) := rfl
set_option maxRecDepth 100000 in
theorem xv_68 : j_code jP 37 68 = some (.getfield 87) := rfl
set_option maxRecDepth 100000 in
theorem xv_71 : j_code jP 37 71 = some (.iastore) := rfl
set_option maxRecDepth 100000 in
theorem xv_72 : j_code jP 37 72 = some (.aload_n 0) := rfl
set_option maxRecDepth 100000 in
theorem xv_73 : j_code jP 37 73 = some (.getfield 22) := rfl
set_option maxRecDepth 100000 in
theorem xv_76 : j_code jP 37 76 = some (.getfield 111) := rfl
set_option maxRecDepth 100000 in
theorem xv_79 : j_code jP 37 79 = some (.iload_n 1) := rfl
set_option maxRecDepth 100000 in
theorem xv_80 : j_code jP 37 80 = some (.aload_n 0) := rfl
set_option maxRecDepth 100000 in
theorem xv_81 : j_code jP 37 81 = some (.iconst (-1)) := rfl
set_option maxRecDepth 100000 in
theorem xv_82 : j_code jP 37 82 = some (.invokevirtual 114) := rfl
set_option maxRecDepth 100000 in
theorem xv_85 : j_code jP 37 85 = some (.iastore) := rfl
set_option maxRecDepth 100000 in
theorem xv_86 : j_code jP 37 86 = some (.aload_n 0) := rfl
set_option maxRecDepth 100000 in
theorem xv_87 : j_code jP 37 87 = some (.getfield 9) := rfl
set_option maxRecDepth 100000 in
theorem xv_90 : j_code jP 37 90 = some (.ifCond .eq 5) := rfl
set_option maxRecDepth 100000 in
theorem xv_93 : j_code jP 37 93 = some (.iconst 0) := rfl
set_option maxRecDepth 100000 in
theorem xv_94 : j_code jP 37 94 = some (.ireturn) := rfl
set_option maxRecDepth 100000 in
theorem xv_95 : j_code jP 37 95 = some (.aload_n 0) := rfl
set_option maxRecDepth 100000 in
theorem xv_96 : j_code jP 37 96 = some (.getfield 22) := rfl
set_option maxRecDepth 100000 in
theorem xv_99 : j_code jP 37 99 = some (.getfield 118) := rfl
set_option maxRecDepth 100000 in
theorem xv_102 : j_code jP 37 102 = some (.iload_n 1) := rfl
set_option maxRecDepth 100000 in
theorem xv_103 : j_code jP 37 103 = some (.aload_n 0) := rfl
set_option maxRecDepth 100000 in
theorem xv_104 : j_code jP 37 104 = some (.aload_n 0) := rfl
set_option maxRecDepth 100000 in
theorem xv_105 : j_code jP 37 105 = some (.getfield 22) := rfl
set_option maxRecDepth 100000 in
theorem xv_108 : j_code jP 37 108 = some (.getfield 111) := rfl
set_option maxRecDepth 100000 in
theorem xv_111 : j_code jP 37 111 = some (.iload_n 1) := rfl
set_option maxRecDepth 100000 in
theorem xv_112 : j_code jP 37 112 = some (.iaload) := rfl
set_option maxRecDepth 100000 in
theorem xv_113 : j_code jP 37 113 = some (.invokevirtual 114) := rfl
set_option maxRecDepth 100000 in
theorem xv_116 : j_code jP 37 116 = some (.iastore) := rfl
set_option maxRecDepth 100000 in
theorem xv_117 : j_code jP 37 117 = some (.aload_n 0) := rfl
set_option maxRecDepth 100000 in
theorem xv_118 : j_code jP 37 118 = some (.getfield 9) := rfl
set_option maxRecDepth 100000 in
theorem xv_121 : j_code jP 37 121 = some (.ifCond .ne 14) := rfl
set_option maxRecDepth 100000 in
theorem xv_124 : j_code jP 37 124 = some (.aload_n 0) := rfl
set_option maxRecDepth 100000 in
theorem xv_125 : j_code jP 37 125 = some (.iconst 0) := rfl
set_option maxRecDepth 100000 in
theorem xv_126 : j_code jP 37 126 = some (.sipush 199) := rfl
set_option maxRecDepth 100000 in
theorem xv_129 : j_code jP 37 129 = some (.invokevirtual 79) := rfl
set_option maxRecDepth 100000 in
theorem xv_132 : j_code jP 37 132 = some (.ifCond .ne 5) := rfl
set_option maxRecDepth 100000 in
theorem xv_135 : j_code jP 37 135 = some (.iconst 0) := rfl
set_option maxRecDepth 100000 in
theorem xv_136 : j_code jP 37 136 = some (.ireturn) := rfl
set_option maxRecDepth 100000 in
theorem xv_137 : j_code jP 37 137 = some (.aload_n 0) := rfl
set_option maxRecDepth 100000 in
theorem xv_138 : j_code jP 37 138 = some (.getfield 22) := rfl
set_option maxRecDepth 100000 in
theorem xv_141 : j_code jP 37 141 = some (.getfield 121) := rfl
set_option maxRecDepth 100000 in
theorem xv_144 : j_code jP 37 144 = some (.iload_n 1) := rfl
set_option maxRecDepth 100000 in
theorem xv_145 : j_code jP 37 145 = some (.aload_n 0) := rfl
set_option maxRecDepth 100000 in
theorem xv_146 : j_code jP 37 146 = some (.getfield 18) := rfl
set_option maxRecDepth 100000 in
theorem xv_149 : j_code jP 37 149 = some (.getfield 87) := rfl
set_option maxRecDepth 100000 in
theorem xv_152 : j_code jP 37 152 = some (.iastore) := rfl
set_option maxRecDepth 100000 in
theorem xv_153 : j_code jP 37 153 = some (.aload_n 0) := rfl
set_option maxRecDepth 100000 in
theorem xv_154 : j_code jP 37 154 = some (.iload_n 1) := rfl
set_option maxRecDepth 100000 in
theorem xv_155 : j_code jP 37 155 = some (.invokevirtual 124) := rfl
set_option maxRecDepth 100000 in
theorem xv_158 : j_code jP 37 158 = some (.ifCond .ne 5) := rfl
set_option maxRecDepth 100000 in
theorem xv_161 : j_code jP 37 161 = some (.iconst 0) := rfl
set_option maxRecDepth 100000 in
theorem xv_162 : j_code jP 37 162 = some (.ireturn) := rfl
set_option maxRecDepth 100000 in
theorem xv_163 : j_code jP 37 163 = some (.aload_n 0) := rfl
set_option maxRecDepth 100000 in
theorem xv_164 : j_code jP 37 164 = some (.getfield 22) := rfl
set_option maxRecDepth 100000 in
theorem xv_167 : j_code jP 37 167 = some (.dup) := rfl
set_option maxRecDepth 100000 in
theorem xv_168 : j_code jP 37 168 = some (.getfield 102) := rfl
set_option maxRecDepth 100000 in
theorem xv_171 : j_code jP 37 171 = some (.iconst 1) := rfl
set_option maxRecDepth 100000 in
theorem xv_172 : j_code jP 37 172 = some (.iadd) := rfl
set_option maxRecDepth 100000 in
theorem xv_173 : j_code jP 37 173 = some (.putfield 102) := rfl
set_option maxRecDepth 100000 in
theorem xv_176 : j_code jP 37 176 = some (.iconst 1) := rfl
set_option maxRecDepth 100000 in
theorem xv_177 : j_code jP 37 177 = some (.ireturn) := rfl
def PVA (ln ce : Int32) (e ns : Nat) (l : List Int32) (sn : List Int64) (h0 : J_H) (R : rB) (rv : Option Value) (h' : J_H) : Prop := rv = some (.int (bif R.1 then 1 else 0)) ∧ KN h' [(1, .inl (8, [.ref 2, .int ln, .int (nI e), .int (nI R.2.2.1.1), .int R.2.2.1.2.1, .int R.2.2.1.2.2.1, .long R.2.2.1.2.2.2.1, .int R.2.2.1.2.2.2.2])), (2, .inr (.inl (1, l))), (3, .inl (4, [.ref 1, .ref 327, .int R.2.1.1, .int R.2.1.2])), (327, .inl (2, [.int (nI ns), .ref 328, .ref 329, .ref 330, .ref 331, .int (nI R.2.2.2.1), .ref 332, .ref 333, .ref 334, .ref 335, .ref 336, .ref 337, .ref 338, .int ce, .ref 339, .ref 340, .ref 341, .ref 342])), (328, .inr (.inr (.inl sn))), (332, .inr (.inr (.inl R.2.2.2.2.1))), (333, .inr (.inl (0, R.2.2.2.2.2.1))), (334, .inr (.inl (0, R.2.2.2.2.2.2.1))), (335, .inr (.inl (0, R.2.2.2.2.2.2.2.1))), (336, .inr (.inl (0, R.2.2.2.2.2.2.2.2.1))), (337, .inr (.inl (0, R.2.2.2.2.2.2.2.2.2.1))), (338, .inr (.inl (0, R.2.2.2.2.2.2.2.2.2.2)))] h0
theorem xv_mA {ln pa ce : Int32} {e ns nt : Nat} {l : List Int32} {h h0 : J_H} {d : Nat} {z : rK} {sn tn : List Int64} {si fr to st sl we : List Int32} (hl : l.length = 700) (he : e ≤ 700) (hp : z.1 ≤ e) (ht : nt < 5) (h1 : sn.length = 7) (hn : ns ≤ 7) (g0 : tn.length = 5) (g1 : si.length = 5) (g2 : fr.length = 5) (g3 : to.length = 5) (g4 : st.length = 5) (g5 : sl.length = 5) (g6 : we.length = 5) (K : KN h [(1, .inl (8, [.ref 2, .int ln, .int (nI e), .int (nI z.1), .int z.2.1, .int z.2.2.1, .long z.2.2.2.1, .int z.2.2.2.2])), (2, .inr (.inl (1, l))), (3, .inl (4, [.ref 1, .ref 327, .int 0, .int pa])), (327, .inl (2, [.int (nI ns), .ref 328, .ref 329, .ref 330, .ref 331, .int (nI nt), .ref 332, .ref 333, .ref 334, .ref 335, .ref 336, .ref 337, .ref 338, .int ce, .ref 339, .ref 340, .ref 341, .ref 342])), (328, .inr (.inr (.inl sn))), (332, .inr (.inr (.inl tn))), (333, .inr (.inl (0, si))), (334, .inr (.inl (0, fr))), (335, .inr (.inl (0, to))), (336, .inr (.inl (0, st))), (337, .inr (.inl (0, sl))), (338, .inr (.inl (0, we)))] h0) : j_W jP (d + 1 + 1 + 1 + 1) 37 153 [(1, .int (nI nt)), (0, .ref 3)] [] h (PVA ln ce e ns l sn h0 (trM nt tn si fr to st (mS l e nt 0 pa (aT l e z) (sl.set nt 0) (we.set nt 1)))) := by
  refine j_W.one xv_M xv_153 (by decide) (pcJ := 154) (stJ := [.ref 3]) rfl ?_
  refine j_W.one xv_M xv_154 (by decide) (pcJ := 155) (stJ := [.int (nI nt), .ref 3]) rfl ?_
  generalize hR : (mS l e nt 0 pa (aT l e z) (sl.set nt 0) (we.set nt 1)) = R
  refine j_W.call xv_M xv_155 rfl (md := 3) (mj := 38) rfl (by decide) xm_M (As := [.ref 3, .int (nI nt)]) (rest := []) (jk_spl3 (K.at rfl) rfl rfl rfl (Nat.le_of_ble_eq_true rfl) (Nat.le_of_ble_eq_true rfl)) (hR ▸ xm_okA hl he hp ht g5 g6 (K.sub ⟨rfl, rfl, rfl, rfl, rfl, rfl, trivial⟩)) ?_
  rintro r h9 ⟨rfl, K9⟩
  have K : KN h9 [(1, .inl (8, [.ref 2, .int ln, .int (nI e), .int (nI R.2.2.1.1), .int R.2.2.1.2.1, .int R.2.2.1.2.2.1, .long R.2.2.1.2.2.2.1, .int R.2.2.1.2.2.2.2])), (2, .inr (.inl (1, l))), (3, .inl (4, [.ref 1, .ref 327, .int R.2.1.1, .int R.2.1.2])), (327, .inl (2, [.int (nI ns), .ref 328, .ref 329, .ref 330, .ref 331, .int (nI nt), .ref 332, .ref 333, .ref 334, .ref 335, .ref 336, .ref 337, .ref 338, .int ce, .ref 339, .ref 340, .ref 341, .ref 342])), (328, .inr (.inr (.inl sn))), (332, .inr (.inr (.inl tn))), (333, .inr (.inl (0, si))), (334, .inr (.inl (0, fr))), (335, .inr (.inl (0, to))), (336, .inr (.inl (0, st))), (337, .inr (.inl (0, R.2.2.2.1))), (338, .inr (.inl (0, R.2.2.2.2)))] h0 := K.go K9 rfl rfl rfl
  clear K9
  show j_W jP _ 37 158 [(1, .int (nI nt)), (0, .ref 3)] [.int (bif R.1 then 1 else 0)] h9 _
  clear hR
  obtain ⟨R1, R2, R3, R4, R5⟩ := R
  cases R1 with
  | true =>
    have K : KN h9 [(1, .inl (8, [.ref 2, .int ln, .int (nI e), .int (nI R3.1), .int R3.2.1, .int R3.2.2.1, .long R3.2.2.2.1, .int R3.2.2.2.2])), (2, .inr (.inl (1, l))), (3, .inl (4, [.ref 1, .ref 327, .int R2.1, .int R2.2])), (327, .inl (2, [.int (nI ns), .ref 328, .ref 329, .ref 330, .ref 331, .int (nI nt), .ref 332, .ref 333, .ref 334, .ref 335, .ref 336, .ref 337, .ref 338, .int ce, .ref 339, .ref 340, .ref 341, .ref 342])), (328, .inr (.inr (.inl sn))), (332, .inr (.inr (.inl tn))), (333, .inr (.inl (0, si))), (334, .inr (.inl (0, fr))), (335, .inr (.inl (0, to))), (336, .inr (.inl (0, st))), (337, .inr (.inl (0, R4))), (338, .inr (.inl (0, R5)))] h0 := K
    show j_W jP _ 37 158 [(1, .int (nI nt)), (0, .ref 3)] [.int 1] h9 _
    refine j_W.ifc xv_M xv_158 (t := 163) rfl (fun c => ?_) (fun c => ?_)
    · clear c
      refine j_W.one xv_M xv_163 (by decide) (pcJ := 164) (stJ := [.ref 3]) rfl ?_
      refine j_W.getK xv_M xv_164 (ci := 4) (j := 1) rfl K rfl rfl ?_
      refine j_W.one xv_M xv_167 (by decide) (pcJ := 168) (stJ := [.ref 327, .ref 327]) rfl ?_
      refine j_W.getK xv_M xv_168 (ci := 2) (j := 5) rfl K rfl rfl ?_
      refine j_W.one xv_M xv_171 (by decide) (pcJ := 172) (stJ := [.int 1, .int (nI nt), .ref 327]) rfl ?_
      refine j_W.one xv_M xv_172 (by decide) (pcJ := 173) (stJ := [.int ((nI nt) + 1), .ref 327]) rfl ?_
      refine j_W.putK xv_M xv_173 (ci := 2) (j := 5) (k' := [(1, .inl (8, [.ref 2, .int ln, .int (nI e), .int (nI R3.1), .int R3.2.1, .int R3.2.2.1, .long R3.2.2.2.1, .int R3.2.2.2.2])), (2, .inr (.inl (1, l))), (3, .inl (4, [.ref 1, .ref 327, .int R2.1, .int R2.2])), (327, .inl (2, [.int (nI ns), .ref 328, .ref 329, .ref 330, .ref 331, .int ((nI nt) + 1), .ref 332, .ref 333, .ref 334, .ref 335, .ref 336, .ref 337, .ref 338, .int ce, .ref 339, .ref 340, .ref 341, .ref 342])), (328, .inr (.inr (.inl sn))), (332, .inr (.inr (.inl tn))), (333, .inr (.inl (0, si))), (334, .inr (.inl (0, fr))), (335, .inr (.inl (0, to))), (336, .inr (.inl (0, st))), (337, .inr (.inl (0, R4))), (338, .inr (.inl (0, R5)))]) rfl K rfl (Nat.le_of_ble_eq_true rfl) rfl (Or.inl rfl) rfl rfl (fun h K => ?_)
      refine j_W.one xv_M xv_176 (by decide) (pcJ := 177) (stJ := [.int 1]) rfl ?_
      refine j_W.ret xv_M xv_177 rfl rfl ⟨rfl, ?_⟩
      rw [← nI_succ] at K
      exact K
    · cases c
  | false =>
    have K : KN h9 [(1, .inl (8, [.ref 2, .int ln, .int (nI e), .int (nI R3.1), .int R3.2.1, .int R3.2.2.1, .long R3.2.2.2.1, .int R3.2.2.2.2])), (2, .inr (.inl (1, l))), (3, .inl (4, [.ref 1, .ref 327, .int R2.1, .int R2.2])), (327, .inl (2, [.int (nI ns), .ref 328, .ref 329, .ref 330, .ref 331, .int (nI nt), .ref 332, .ref 333, .ref 334, .ref 335, .ref 336, .ref 337, .ref 338, .int ce, .ref 339, .ref 340, .ref 341, .ref 342])), (328, .inr (.inr (.inl sn))), (332, .inr (.inr (.inl tn))), (333, .inr (.inl (0, si))), (334, .inr (.inl (0, fr))), (335, .inr (.inl (0, to))), (336, .inr (.inl (0, st))), (337, .inr (.inl (0, R4))), (338, .inr (.inl (0, R5)))] h0 := K
    show j_W jP _ 37 158 [(1, .int (nI nt)), (0, .ref 3)] [.int 0] h9 _
    refine j_W.ifc xv_M xv_158 (t := 163) rfl (fun c => ?_) (fun c => ?_)
    · cases c
    · refine j_W.one xv_M xv_161 (by decide) (pcJ := 162) (stJ := [.int 0]) rfl ?_
      refine j_W.ret xv_M xv_162 rfl rfl ⟨rfl, K⟩
theorem xv_sA {ln pa ce : Int32} {e ns nt : Nat} {l : List Int32} {h h0 : J_H} {d : Nat} {z : rK} {sn tn : List Int64} {si fr to st sl we : List Int32} (hl : l.length = 700) (he : e ≤ 700) (hp : z.1 ≤ e) (ht : nt < 5) (h1 : sn.length = 7) (hn : ns ≤ 7) (g0 : tn.length = 5) (g1 : si.length = 5) (g2 : fr.length = 5) (g3 : to.length = 5) (g4 : st.length = 5) (g5 : sl.length = 5) (g6 : we.length = 5) (K : KN h [(1, .inl (8, [.ref 2, .int ln, .int (nI e), .int (nI z.1), .int z.2.1, .int z.2.2.1, .long z.2.2.2.1, .int z.2.2.2.2])), (2, .inr (.inl (1, l))), (3, .inl (4, [.ref 1, .ref 327, .int 0, .int pa])), (327, .inl (2, [.int (nI ns), .ref 328, .ref 329, .ref 330, .ref 331, .int (nI nt), .ref 332, .ref 333, .ref 334, .ref 335, .ref 336, .ref 337, .ref 338, .int ce, .ref 339, .ref 340, .ref 341, .ref 342])), (328, .inr (.inr (.inl sn))), (332, .inr (.inr (.inl tn))), (333, .inr (.inl (0, si))), (334, .inr (.inl (0, fr))), (335, .inr (.inl (0, to))), (336, .inr (.inl (0, st))), (337, .inr (.inl (0, sl))), (338, .inr (.inl (0, we)))] h0) : j_W jP (d + 1 + 1 + 1 + 1) 37 124 [(1, .int (nI nt)), (0, .ref 3)] [] h (PVA ln ce e ns l sn h0 (trS l e nt pa z tn si fr to st sl we)) := by
  unfold trS
  refine j_W.one xv_M xv_124 (by decide) (pcJ := 125) (stJ := [.ref 3]) rfl ?_
  refine j_W.one xv_M xv_125 (by decide) (pcJ := 126) (stJ := [.int 0, .ref 3]) rfl ?_
  refine j_W.one xv_M xv_126 (by decide) (pcJ := 129) (stJ := [.int 199, .int 0, .ref 3]) rfl ?_
  refine j_W.call xv_M xv_129 rfl (md := 3) (mj := 39) rfl (by decide) xt_M (As := [.ref 3, .int 0, .int 199]) (rest := []) (jk_spl3 (K.at rfl) rfl rfl rfl (Nat.le_of_ble_eq_true rfl) (Nat.le_of_ble_eq_true rfl)) (xt_ok hl he hp (K.sub ⟨rfl, rfl, rfl, trivial⟩)) ?_
  rintro r h9 ⟨rfl, K9⟩
  have K : KN h9 [(1, .inl (8, [.ref 2, .int ln, .int (nI e), .int (nI (aT l e z).1), .int (aT l e z).2.1, .int (aT l e z).2.2.1, .long (aT l e z).2.2.2.1, .int (aT l e z).2.2.2.2])), (2, .inr (.inl (1, l))), (3, .inl (4, [.ref 1, .ref 327, .int (bif nOk (aT l e z).2.1 (aT l e z).2.2.2.2 0 199 then 0 else nF (aT l e z).2.1), .int (bif nOk (aT l e z).2.1 (aT l e z).2.2.2.2 0 199 then pa else (aT l e z).2.2.1)])), (327, .inl (2, [.int (nI ns), .ref 328, .ref 329, .ref 330, .ref 331, .int (nI nt), .ref 332, .ref 333, .ref 334, .ref 335, .ref 336, .ref 337, .ref 338, .int ce, .ref 339, .ref 340, .ref 341, .ref 342])), (328, .inr (.inr (.inl sn))), (332, .inr (.inr (.inl tn))), (333, .inr (.inl (0, si))), (334, .inr (.inl (0, fr))), (335, .inr (.inl (0, to))), (336, .inr (.inl (0, st))), (337, .inr (.inl (0, sl))), (338, .inr (.inl (0, we)))] h0 := K.go K9 rfl rfl rfl
  clear K9
  show j_W jP _ 37 132 [(1, .int (nI nt)), (0, .ref 3)] [.int (bif nOk (aT l e z).2.1 (aT l e z).2.2.2.2 0 199 then 1 else 0)] h9 _
  cases hb : nOk (aT l e z).2.1 (aT l e z).2.2.2.2 0 199 with
  | true =>
    rw [hb] at K
    have K : KN h9 [(1, .inl (8, [.ref 2, .int ln, .int (nI e), .int (nI (aT l e z).1), .int (aT l e z).2.1, .int (aT l e z).2.2.1, .long (aT l e z).2.2.2.1, .int (aT l e z).2.2.2.2])), (2, .inr (.inl (1, l))), (3, .inl (4, [.ref 1, .ref 327, .int 0, .int pa])), (327, .inl (2, [.int (nI ns), .ref 328, .ref 329, .ref 330, .ref 331, .int (nI nt), .ref 332, .ref 333, .ref 334, .ref 335, .ref 336, .ref 337, .ref 338, .int ce, .ref 339, .ref 340, .ref 341, .ref 342])), (328, .inr (.inr (.inl sn))), (332, .inr (.inr (.inl tn))), (333, .inr (.inl (0, si))), (334, .inr (.inl (0, fr))), (335, .inr (.inl (0, to))), (336, .inr (.inl (0, st))), (337, .inr (.inl (0, sl))), (338, .inr (.inl (0, we)))] h0 := K
    show j_W jP _ 37 132 [(1, .int (nI nt)), (0, .ref 3)] [.int 1] h9 _
    refine j_W.ifc xv_M xv_132 (t := 137) rfl (fun c => ?_) (fun c => ?_)
    · clear c
      refine j_W.one xv_M xv_137 (by decide) (pcJ := 138) (stJ := [.ref 3]) rfl ?_
      refine j_W.getK xv_M xv_138 (ci := 4) (j := 1) rfl K rfl rfl ?_
      refine j_W.getK xv_M xv_141 (ci := 2) (j := 10) rfl K rfl rfl ?_
      refine j_W.one xv_M xv_144 (by decide) (pcJ := 145) (stJ := [.int (nI nt), .ref 336]) rfl ?_
      refine j_W.one xv_M xv_145 (by decide) (pcJ := 146) (stJ := [.ref 3, .int (nI nt), .ref 336]) rfl ?_
      refine j_W.getK xv_M xv_146 (ci := 4) (j := 0) rfl K rfl rfl ?_
      refine j_W.getK xv_M xv_149 (ci := 8) (j := 7) rfl K rfl rfl ?_
      refine j_W.iastK xv_M xv_152 (n := nt) (k' := [(1, .inl (8, [.ref 2, .int ln, .int (nI e), .int (nI (aT l e z).1), .int (aT l e z).2.1, .int (aT l e z).2.2.1, .long (aT l e z).2.2.2.1, .int (aT l e z).2.2.2.2])), (2, .inr (.inl (1, l))), (3, .inl (4, [.ref 1, .ref 327, .int 0, .int pa])), (327, .inl (2, [.int (nI ns), .ref 328, .ref 329, .ref 330, .ref 331, .int (nI nt), .ref 332, .ref 333, .ref 334, .ref 335, .ref 336, .ref 337, .ref 338, .int ce, .ref 339, .ref 340, .ref 341, .ref 342])), (328, .inr (.inr (.inl sn))), (332, .inr (.inr (.inl tn))), (333, .inr (.inl (0, si))), (334, .inr (.inl (0, fr))), (335, .inr (.inl (0, to))), (336, .inr (.inl (0, (st.set nt (aT l e z).2.2.2.2)))), (337, .inr (.inl (0, sl))), (338, .inr (.inl (0, we)))]) K rfl (by omega) (by omega) rfl (fun h K => ?_)
      exact xv_mA hl he (tkN_le hp) ht h1 hn g0 g1 g2 g3 (by simp [g4]) g5 g6 K
    · cases c
  | false =>
    rw [hb] at K
    have K : KN h9 [(1, .inl (8, [.ref 2, .int ln, .int (nI e), .int (nI (aT l e z).1), .int (aT l e z).2.1, .int (aT l e z).2.2.1, .long (aT l e z).2.2.2.1, .int (aT l e z).2.2.2.2])), (2, .inr (.inl (1, l))), (3, .inl (4, [.ref 1, .ref 327, .int (nF (aT l e z).2.1), .int (aT l e z).2.2.1])), (327, .inl (2, [.int (nI ns), .ref 328, .ref 329, .ref 330, .ref 331, .int (nI nt), .ref 332, .ref 333, .ref 334, .ref 335, .ref 336, .ref 337, .ref 338, .int ce, .ref 339, .ref 340, .ref 341, .ref 342])), (328, .inr (.inr (.inl sn))), (332, .inr (.inr (.inl tn))), (333, .inr (.inl (0, si))), (334, .inr (.inl (0, fr))), (335, .inr (.inl (0, to))), (336, .inr (.inl (0, st))), (337, .inr (.inl (0, sl))), (338, .inr (.inl (0, we)))] h0 := K
    show j_W jP _ 37 132 [(1, .int (nI nt)), (0, .ref 3)] [.int 0] h9 _
    refine j_W.ifc xv_M xv_132 (t := 137) rfl (fun c => ?_) (fun c => ?_)
    · cases c
    · refine j_W.one xv_M xv_135 (by decide) (pcJ := 136) (stJ := [.int 0]) rfl ?_
      refine j_W.ret xv_M xv_136 rfl rfl ⟨rfl, K⟩
theorem xv_oA {ln pa ce u : Int32} {e ns nt : Nat} {l : List Int32} {h h0 : J_H} {d : Nat} {z : rK} {sn tn : List Int64} {si fr to st sl we : List Int32} (hl : l.length = 700) (he : e ≤ 700) (hp : z.1 ≤ e) (ht : nt < 5) (h1 : sn.length = 7) (hn : ns ≤ 7) (g0 : tn.length = 5) (g1 : si.length = 5) (g2 : fr.length = 5) (g3 : to.length = 5) (g4 : st.length = 5) (g5 : sl.length = 5) (g6 : we.length = 5) (hu : fr.getD nt 0 = u) (K : KN h [(1, .inl (8, [.ref 2, .int ln, .int (nI e), .int (nI z.1), .int z.2.1, .int z.2.2.1, .long z.2.2.2.1, .int z.2.2.2.2])), (2, .inr (.inl (1, l))), (3, .inl (4, [.ref 1, .ref 327, .int 0, .int pa])), (327, .inl (2, [.int (nI ns), .ref 328, .ref 329, .ref 330, .ref 331, .int (nI nt), .ref 332, .ref 333, .ref 334, .ref 335, .ref 336, .ref 337, .ref 338, .int ce, .ref 339, .ref 340, .ref 341, .ref 342])), (328, .inr (.inr (.inl sn))), (332, .inr (.inr (.inl tn))), (333, .inr (.inl (0, si))), (334, .inr (.inl (0, fr))), (335, .inr (.inl (0, to))), (336, .inr (.inl (0, st))), (337, .inr (.inl (0, sl))), (338, .inr (.inl (0, we)))] h0) : j_W jP (d + 1 + 1 + 1 + 1) 37 95 [(1, .int (nI nt)), (0, .ref 3)] [] h (PVA ln ce e ns l sn h0 (trO l e ns nt sn pa z u tn si fr to st sl we)) := by
  unfold trO
  refine j_W.one xv_M xv_95 (by decide) (pcJ := 96) (stJ := [.ref 3]) rfl ?_
  refine j_W.getK xv_M xv_96 (ci := 4) (j := 1) rfl K rfl rfl ?_
  refine j_W.getK xv_M xv_99 (ci := 2) (j := 9) rfl K rfl rfl ?_
  refine j_W.one xv_M xv_102 (by decide) (pcJ := 103) (stJ := [.int (nI nt), .ref 335]) rfl ?_
  refine j_W.one xv_M xv_103 (by decide) (pcJ := 104) (stJ := [.ref 3, .int (nI nt), .ref 335]) rfl ?_
  refine j_W.one xv_M xv_104 (by decide) (pcJ := 105) (stJ := [.ref 3, .ref 3, .int (nI nt), .ref 335]) rfl ?_
  refine j_W.getK xv_M xv_105 (ci := 4) (j := 1) rfl K rfl rfl ?_
  refine j_W.getK xv_M xv_108 (ci := 2) (j := 8) rfl K rfl rfl ?_
  refine j_W.one xv_M xv_111 (by decide) (pcJ := 112) (stJ := [.int (nI nt), .ref 334, .ref 3, .int (nI nt), .ref 335]) rfl ?_
  refine j_W.ialdK xv_M xv_112 K rfl (n := nt) (by omega) (by omega) ?_
  rw [hu]
  refine j_W.call xv_M xv_113 rfl (md := 3) (mj := 43) rfl (by decide) xu_M (As := [.ref 3, .int u]) (rest := [.int (nI nt), .ref 335]) (jk_spl3 (K.at rfl) rfl rfl rfl (Nat.le_of_ble_eq_true rfl) (Nat.le_of_ble_eq_true rfl)) (xu_okA hl he hp h1 hn (K.sub ⟨rfl, rfl, rfl, rfl, rfl, trivial⟩)) ?_
  rintro r h9 ⟨rfl, K9⟩
  have K : KN h9 [(1, .inl (8, [.ref 2, .int ln, .int (nI e), .int (nI (aT l e z).1), .int (aT l e z).2.1, .int (aT l e z).2.2.1, .long (aT l e z).2.2.2.1, .int (aT l e z).2.2.2.2])), (2, .inr (.inl (1, l))), (3, .inl (4, [.ref 1, .ref 327, .int (bif uOk (aT l e z).2.1 (aT l e z).2.2.2.1 sn ns u then 0 else uF (aT l e z).2.1 (aT l e z).2.2.2.1), .int (bif uOk (aT l e z).2.1 (aT l e z).2.2.2.1 sn ns u then pa else (aT l e z).2.2.1)])), (327, .inl (2, [.int (nI ns), .ref 328, .ref 329, .ref 330, .ref 331, .int (nI nt), .ref 332, .ref 333, .ref 334, .ref 335, .ref 336, .ref 337, .ref 338, .int ce, .ref 339, .ref 340, .ref 341, .ref 342])), (328, .inr (.inr (.inl sn))), (332, .inr (.inr (.inl tn))), (333, .inr (.inl (0, si))), (334, .inr (.inl (0, fr))), (335, .inr (.inl (0, to))), (336, .inr (.inl (0, st))), (337, .inr (.inl (0, sl))), (338, .inr (.inl (0, we)))] h0 := K.go K9 rfl rfl rfl
  clear K9
  show j_W jP _ 37 116 [(1, .int (nI nt)), (0, .ref 3)] [.int (bif uOk (aT l e z).2.1 (aT l e z).2.2.2.1 sn ns u then (sIx sn (aT l e z).2.2.2.1 ns 0) else (-1)), .int (nI nt), .ref 335] h9 _
  cases hb : uOk (aT l e z).2.1 (aT l e z).2.2.2.1 sn ns u with
  | true =>
    rw [cond_true, cond_true]
    rw [hb] at K
    have K : KN h9 [(1, .inl (8, [.ref 2, .int ln, .int (nI e), .int (nI (aT l e z).1), .int (aT l e z).2.1, .int (aT l e z).2.2.1, .long (aT l e z).2.2.2.1, .int (aT l e z).2.2.2.2])), (2, .inr (.inl (1, l))), (3, .inl (4, [.ref 1, .ref 327, .int 0, .int pa])), (327, .inl (2, [.int (nI ns), .ref 328, .ref 329, .ref 330, .ref 331, .int (nI nt), .ref 332, .ref 333, .ref 334, .ref 335, .ref 336, .ref 337, .ref 338, .int ce, .ref 339, .ref 340, .ref 341, .ref 342])), (328, .inr (.inr (.inl sn))), (332, .inr (.inr (.inl tn))), (333, .inr (.inl (0, si))), (334, .inr (.inl (0, fr))), (335, .inr (.inl (0, to))), (336, .inr (.inl (0, st))), (337, .inr (.inl (0, sl))), (338, .inr (.inl (0, we)))] h0 := K
    show j_W jP _ 37 116 [(1, .int (nI nt)), (0, .ref 3)] [.int (sIx sn (aT l e z).2.2.2.1 ns 0), .int (nI nt), .ref 335] h9 _
    refine j_W.iastK xv_M xv_116 (n := nt) (k' := [(1, .inl (8, [.ref 2, .int ln, .int (nI e), .int (nI (aT l e z).1), .int (aT l e z).2.1, .int (aT l e z).2.2.1, .long (aT l e z).2.2.2.1, .int (aT l e z).2.2.2.2])), (2, .inr (.inl (1, l))), (3, .inl (4, [.ref 1, .ref 327, .int 0, .int pa])), (327, .inl (2, [.int (nI ns), .ref 328, .ref 329, .ref 330, .ref 331, .int (nI nt), .ref 332, .ref 333, .ref 334, .ref 335, .ref 336, .ref 337, .ref 338, .int ce, .ref 339, .ref 340, .ref 341, .ref 342])), (328, .inr (.inr (.inl sn))), (332, .inr (.inr (.inl tn))), (333, .inr (.inl (0, si))), (334, .inr (.inl (0, fr))), (335, .inr (.inl (0, (to.set nt (sIx sn (aT l e z).2.2.2.1 ns 0))))), (336, .inr (.inl (0, st))), (337, .inr (.inl (0, sl))), (338, .inr (.inl (0, we)))]) K rfl (by omega) (by omega) rfl (fun h K => ?_)
    refine j_W.one xv_M xv_117 (by decide) (pcJ := 118) (stJ := [.ref 3]) rfl ?_
    refine j_W.getK xv_M xv_118 (ci := 4) (j := 2) rfl K rfl rfl ?_
    refine j_W.ifc xv_M xv_121 (t := 135) rfl (fun c => ?_) (fun c => ?_)
    · exact absurd c (by decide)
    · clear c
      exact xv_sA hl he (tkN_le hp) ht h1 hn g0 g1 g2 (by simp [g3]) g4 g5 g6 K
  | false =>
    rw [cond_false, cond_false]
    rw [hb] at K
    have K : KN h9 [(1, .inl (8, [.ref 2, .int ln, .int (nI e), .int (nI (aT l e z).1), .int (aT l e z).2.1, .int (aT l e z).2.2.1, .long (aT l e z).2.2.2.1, .int (aT l e z).2.2.2.2])), (2, .inr (.inl (1, l))), (3, .inl (4, [.ref 1, .ref 327, .int (uF (aT l e z).2.1 (aT l e z).2.2.2.1), .int (aT l e z).2.2.1])), (327, .inl (2, [.int (nI ns), .ref 328, .ref 329, .ref 330, .ref 331, .int (nI nt), .ref 332, .ref 333, .ref 334, .ref 335, .ref 336, .ref 337, .ref 338, .int ce, .ref 339, .ref 340, .ref 341, .ref 342])), (328, .inr (.inr (.inl sn))), (332, .inr (.inr (.inl tn))), (333, .inr (.inl (0, si))), (334, .inr (.inl (0, fr))), (335, .inr (.inl (0, to))), (336, .inr (.inl (0, st))), (337, .inr (.inl (0, sl))), (338, .inr (.inl (0, we)))] h0 := K
    show j_W jP _ 37 116 [(1, .int (nI nt)), (0, .ref 3)] [.int (-1), .int (nI nt), .ref 335] h9 _
    refine j_W.iastK xv_M xv_116 (n := nt) (k' := [(1, .inl (8, [.ref 2, .int ln, .int (nI e), .int (nI (aT l e z).1), .int (aT l e z).2.1, .int (aT l e z).2.2.1, .long (aT l e z).2.2.2.1, .int (aT l e z).2.2.2.2])), (2, .inr (.inl (1, l))), (3, .inl (4, [.ref 1, .ref 327, .int (uF (aT l e z).2.1 (aT l e z).2.2.2.1), .int (aT l e z).2.2.1])), (327, .inl (2, [.int (nI ns), .ref 328, .ref 329, .ref 330, .ref 331, .int (nI nt), .ref 332, .ref 333, .ref 334, .ref 335, .ref 336, .ref 337, .ref 338, .int ce, .ref 339, .ref 340, .ref 341, .ref 342])), (328, .inr (.inr (.inl sn))), (332, .inr (.inr (.inl tn))), (333, .inr (.inl (0, si))), (334, .inr (.inl (0, fr))), (335, .inr (.inl (0, (to.set nt (-1))))), (336, .inr (.inl (0, st))), (337, .inr (.inl (0, sl))), (338, .inr (.inl (0, we)))]) K rfl (by omega) (by omega) rfl (fun h K => ?_)
    refine j_W.one xv_M xv_117 (by decide) (pcJ := 118) (stJ := [.ref 3]) rfl ?_
    refine j_W.getK xv_M xv_118 (ci := 4) (j := 2) rfl K rfl rfl ?_
    refine j_W.ifc xv_M xv_121 (t := 135) rfl (fun c => ?_) (fun c => ?_)
    · clear c
      refine j_W.one xv_M xv_135 (by decide) (pcJ := 136) (stJ := [.int 0]) rfl ?_
      refine j_W.ret xv_M xv_136 rfl rfl ⟨rfl, K⟩
    · exact absurd c (by simp [j_cond, uF_ne])
theorem xv_gA {ln pa ce u : Int32} {e ns nt : Nat} {l : List Int32} {h h0 : J_H} {d : Nat} {z : rK} {sn tn : List Int64} {si fr to st sl we : List Int32} (hl : l.length = 700) (he : e ≤ 700) (hp : z.1 ≤ e) (ht : nt < 5) (h1 : sn.length = 7) (hn : ns ≤ 7) (g0 : tn.length = 5) (g1 : si.length = 5) (g2 : fr.length = 5) (g3 : to.length = 5) (g4 : st.length = 5) (g5 : sl.length = 5) (g6 : we.length = 5) (K : KN h [(1, .inl (8, [.ref 2, .int ln, .int (nI e), .int (nI z.1), .int z.2.1, .int z.2.2.1, .long z.2.2.2.1, .int z.2.2.2.2])), (2, .inr (.inl (1, l))), (3, .inl (4, [.ref 1, .ref 327, .int 0, .int pa])), (327, .inl (2, [.int (nI ns), .ref 328, .ref 329, .ref 330, .ref 331, .int (nI nt), .ref 332, .ref 333, .ref 334, .ref 335, .ref 336, .ref 337, .ref 338, .int ce, .ref 339, .ref 340, .ref 341, .ref 342])), (328, .inr (.inr (.inl sn))), (332, .inr (.inr (.inl tn))), (333, .inr (.inl (0, si))), (334, .inr (.inl (0, fr))), (335, .inr (.inl (0, to))), (336, .inr (.inl (0, st))), (337, .inr (.inl (0, sl))), (338, .inr (.inl (0, we)))] h0) : j_W jP (d + 1 + 1 + 1 + 1) 37 82 [(1, .int (nI nt)), (0, .ref 3)] [.int u, .ref 3, .int (nI nt), .ref 334] h (PVA ln ce e ns l sn h0 (trG u l e ns nt sn pa z tn si fr to st sl we)) := by
  unfold trG
  refine j_W.call xv_M xv_82 rfl (md := 3) (mj := 43) rfl (by decide) xu_M (As := [.ref 3, .int u]) (rest := [.int (nI nt), .ref 334]) (jk_spl3 (K.at rfl) rfl rfl rfl (Nat.le_of_ble_eq_true rfl) (Nat.le_of_ble_eq_true rfl)) (xu_okA hl he hp h1 hn (K.sub ⟨rfl, rfl, rfl, rfl, rfl, trivial⟩)) ?_
  rintro r h9 ⟨rfl, K9⟩
  have K : KN h9 [(1, .inl (8, [.ref 2, .int ln, .int (nI e), .int (nI (aT l e z).1), .int (aT l e z).2.1, .int (aT l e z).2.2.1, .long (aT l e z).2.2.2.1, .int (aT l e z).2.2.2.2])), (2, .inr (.inl (1, l))), (3, .inl (4, [.ref 1, .ref 327, .int (bif uOk (aT l e z).2.1 (aT l e z).2.2.2.1 sn ns u then 0 else uF (aT l e z).2.1 (aT l e z).2.2.2.1), .int (bif uOk (aT l e z).2.1 (aT l e z).2.2.2.1 sn ns u then pa else (aT l e z).2.2.1)])), (327, .inl (2, [.int (nI ns), .ref 328, .ref 329, .ref 330, .ref 331, .int (nI nt), .ref 332, .ref 333, .ref 334, .ref 335, .ref 336, .ref 337, .ref 338, .int ce, .ref 339, .ref 340, .ref 341, .ref 342])), (328, .inr (.inr (.inl sn))), (332, .inr (.inr (.inl tn))), (333, .inr (.inl (0, si))), (334, .inr (.inl (0, fr))), (335, .inr (.inl (0, to))), (336, .inr (.inl (0, st))), (337, .inr (.inl (0, sl))), (338, .inr (.inl (0, we)))] h0 := K.go K9 rfl rfl rfl
  clear K9
  show j_W jP _ 37 85 [(1, .int (nI nt)), (0, .ref 3)] [.int (bif uOk (aT l e z).2.1 (aT l e z).2.2.2.1 sn ns u then (sIx sn (aT l e z).2.2.2.1 ns 0) else (-1)), .int (nI nt), .ref 334] h9 _
  cases hb : uOk (aT l e z).2.1 (aT l e z).2.2.2.1 sn ns u with
  | true =>
    rw [cond_true, cond_true]
    rw [hb] at K
    have K : KN h9 [(1, .inl (8, [.ref 2, .int ln, .int (nI e), .int (nI (aT l e z).1), .int (aT l e z).2.1, .int (aT l e z).2.2.1, .long (aT l e z).2.2.2.1, .int (aT l e z).2.2.2.2])), (2, .inr (.inl (1, l))), (3, .inl (4, [.ref 1, .ref 327, .int 0, .int pa])), (327, .inl (2, [.int (nI ns), .ref 328, .ref 329, .ref 330, .ref 331, .int (nI nt), .ref 332, .ref 333, .ref 334, .ref 335, .ref 336, .ref 337, .ref 338, .int ce, .ref 339, .ref 340, .ref 341, .ref 342])), (328, .inr (.inr (.inl sn))), (332, .inr (.inr (.inl tn))), (333, .inr (.inl (0, si))), (334, .inr (.inl (0, fr))), (335, .inr (.inl (0, to))), (336, .inr (.inl (0, st))), (337, .inr (.inl (0, sl))), (338, .inr (.inl (0, we)))] h0 := K
    show j_W jP _ 37 85 [(1, .int (nI nt)), (0, .ref 3)] [.int (sIx sn (aT l e z).2.2.2.1 ns 0), .int (nI nt), .ref 334] h9 _
    refine j_W.iastK xv_M xv_85 (n := nt) (k' := [(1, .inl (8, [.ref 2, .int ln, .int (nI e), .int (nI (aT l e z).1), .int (aT l e z).2.1, .int (aT l e z).2.2.1, .long (aT l e z).2.2.2.1, .int (aT l e z).2.2.2.2])), (2, .inr (.inl (1, l))), (3, .inl (4, [.ref 1, .ref 327, .int 0, .int pa])), (327, .inl (2, [.int (nI ns), .ref 328, .ref 329, .ref 330, .ref 331, .int (nI nt), .ref 332, .ref 333, .ref 334, .ref 335, .ref 336, .ref 337, .ref 338, .int ce, .ref 339, .ref 340, .ref 341, .ref 342])), (328, .inr (.inr (.inl sn))), (332, .inr (.inr (.inl tn))), (333, .inr (.inl (0, si))), (334, .inr (.inl (0, (fr.set nt (sIx sn (aT l e z).2.2.2.1 ns 0))))), (335, .inr (.inl (0, to))), (336, .inr (.inl (0, st))), (337, .inr (.inl (0, sl))), (338, .inr (.inl (0, we)))]) K rfl (by omega) (by omega) rfl (fun h K => ?_)
    refine j_W.one xv_M xv_86 (by decide) (pcJ := 87) (stJ := [.ref 3]) rfl ?_
    refine j_W.getK xv_M xv_87 (ci := 4) (j := 2) rfl K rfl rfl ?_
    refine j_W.ifc xv_M xv_90 (t := 95) rfl (fun c => ?_) (fun c => ?_)
    · clear c
      exact xv_oA hl he (tkN_le hp) ht h1 hn g0 g1 (by simp [g2]) g3 g4 g5 g6 (jk_gs _ _ _ _ (by omega)) K
    · exact absurd c (by decide)
  | false =>
    rw [cond_false, cond_false]
    rw [hb] at K
    have K : KN h9 [(1, .inl (8, [.ref 2, .int ln, .int (nI e), .int (nI (aT l e z).1), .int (aT l e z).2.1, .int (aT l e z).2.2.1, .long (aT l e z).2.2.2.1, .int (aT l e z).2.2.2.2])), (2, .inr (.inl (1, l))), (3, .inl (4, [.ref 1, .ref 327, .int (uF (aT l e z).2.1 (aT l e z).2.2.2.1), .int (aT l e z).2.2.1])), (327, .inl (2, [.int (nI ns), .ref 328, .ref 329, .ref 330, .ref 331, .int (nI nt), .ref 332, .ref 333, .ref 334, .ref 335, .ref 336, .ref 337, .ref 338, .int ce, .ref 339, .ref 340, .ref 341, .ref 342])), (328, .inr (.inr (.inl sn))), (332, .inr (.inr (.inl tn))), (333, .inr (.inl (0, si))), (334, .inr (.inl (0, fr))), (335, .inr (.inl (0, to))), (336, .inr (.inl (0, st))), (337, .inr (.inl (0, sl))), (338, .inr (.inl (0, we)))] h0 := K
    show j_W jP _ 37 85 [(1, .int (nI nt)), (0, .ref 3)] [.int (-1), .int (nI nt), .ref 334] h9 _
    refine j_W.iastK xv_M xv_85 (n := nt) (k' := [(1, .inl (8, [.ref 2, .int ln, .int (nI e), .int (nI (aT l e z).1), .int (aT l e z).2.1, .int (aT l e z).2.2.1, .long (aT l e z).2.2.2.1, .int (aT l e z).2.2.2.2])), (2, .inr (.inl (1, l))), (3, .inl (4, [.ref 1, .ref 327, .int (uF (aT l e z).2.1 (aT l e z).2.2.2.1), .int (aT l e z).2.2.1])), (327, .inl (2, [.int (nI ns), .ref 328, .ref 329, .ref 330, .ref 331, .int (nI nt), .ref 332, .ref 333, .ref 334, .ref 335, .ref 336, .ref 337, .ref 338, .int ce, .ref 339, .ref 340, .ref 341, .ref 342])), (328, .inr (.inr (.inl sn))), (332, .inr (.inr (.inl tn))), (333, .inr (.inl (0, si))), (334, .inr (.inl (0, (fr.set nt (-1))))), (335, .inr (.inl (0, to))), (336, .inr (.inl (0, st))), (337, .inr (.inl (0, sl))), (338, .inr (.inl (0, we)))]) K rfl (by omega) (by omega) rfl (fun h K => ?_)
    refine j_W.one xv_M xv_86 (by decide) (pcJ := 87) (stJ := [.ref 3]) rfl ?_
    refine j_W.getK xv_M xv_87 (ci := 4) (j := 2) rfl K rfl rfl ?_
    refine j_W.ifc xv_M xv_90 (t := 95) rfl (fun c => ?_) (fun c => ?_)
    · exact absurd c (by simp [j_cond, uF_ne])
    · clear c
      refine j_W.one xv_M xv_93 (by decide) (pcJ := 94) (stJ := [.int 0]) rfl ?_
      refine j_W.ret xv_M xv_94 rfl rfl ⟨rfl, K⟩
theorem xv_fA {ln pa ce : Int32} {e ns nt : Nat} {l : List Int32} {h h0 : J_H} {d : Nat} {z : rK} {sn tn : List Int64} {si fr to st sl we : List Int32} (hl : l.length = 700) (he : e ≤ 700) (hp : z.1 ≤ e) (ht : nt < 5) (h1 : sn.length = 7) (hn : ns ≤ 7) (g0 : tn.length = 5) (g1 : si.length = 5) (g2 : fr.length = 5) (g3 : to.length = 5) (g4 : st.length = 5) (g5 : sl.length = 5) (g6 : we.length = 5) (K : KN h [(1, .inl (8, [.ref 2, .int ln, .int (nI e), .int (nI z.1), .int z.2.1, .int z.2.2.1, .long z.2.2.2.1, .int z.2.2.2.2])), (2, .inr (.inl (1, l))), (3, .inl (4, [.ref 1, .ref 327, .int 0, .int pa])), (327, .inl (2, [.int (nI ns), .ref 328, .ref 329, .ref 330, .ref 331, .int (nI nt), .ref 332, .ref 333, .ref 334, .ref 335, .ref 336, .ref 337, .ref 338, .int ce, .ref 339, .ref 340, .ref 341, .ref 342])), (328, .inr (.inr (.inl sn))), (332, .inr (.inr (.inl tn))), (333, .inr (.inl (0, si))), (334, .inr (.inl (0, fr))), (335, .inr (.inl (0, to))), (336, .inr (.inl (0, st))), (337, .inr (.inl (0, sl))), (338, .inr (.inl (0, we)))] h0) : j_W jP (d + 1 + 1 + 1 + 1) 37 72 [(1, .int (nI nt)), (0, .ref 3)] [] h (PVA ln ce e ns l sn h0 (trF l e ns nt sn pa z tn si fr to st sl we)) := by
  unfold trF
  refine j_W.one xv_M xv_72 (by decide) (pcJ := 73) (stJ := [.ref 3]) rfl ?_
  refine j_W.getK xv_M xv_73 (ci := 4) (j := 1) rfl K rfl rfl ?_
  refine j_W.getK xv_M xv_76 (ci := 2) (j := 8) rfl K rfl rfl ?_
  refine j_W.one xv_M xv_79 (by decide) (pcJ := 80) (stJ := [.int (nI nt), .ref 334]) rfl ?_
  refine j_W.one xv_M xv_80 (by decide) (pcJ := 81) (stJ := [.ref 3, .int (nI nt), .ref 334]) rfl ?_
  refine j_W.one xv_M xv_81 (by decide) (pcJ := 82) (stJ := [.int (-1), .ref 3, .int (nI nt), .ref 334]) rfl ?_
  exact xv_gA hl he hp ht h1 hn g0 g1 g2 g3 g4 g5 g6 K
theorem xv_zA {ln pa ce : Int32} {e ns nt : Nat} {l : List Int32} {h h0 : J_H} {d : Nat} {z : rK} {sn tn : List Int64} {si fr to st sl we : List Int32} (hl : l.length = 700) (he : e ≤ 700) (hp : z.1 ≤ e) (ht : nt < 5) (h1 : sn.length = 7) (hn : ns ≤ 7) (g0 : tn.length = 5) (g1 : si.length = 5) (g2 : fr.length = 5) (g3 : to.length = 5) (g4 : st.length = 5) (g5 : sl.length = 5) (g6 : we.length = 5) (K : KN h [(1, .inl (8, [.ref 2, .int ln, .int (nI e), .int (nI z.1), .int z.2.1, .int z.2.2.1, .long z.2.2.2.1, .int z.2.2.2.2])), (2, .inr (.inl (1, l))), (3, .inl (4, [.ref 1, .ref 327, .int 0, .int pa])), (327, .inl (2, [.int (nI ns), .ref 328, .ref 329, .ref 330, .ref 331, .int (nI nt), .ref 332, .ref 333, .ref 334, .ref 335, .ref 336, .ref 337, .ref 338, .int ce, .ref 339, .ref 340, .ref 341, .ref 342])), (328, .inr (.inr (.inl sn))), (332, .inr (.inr (.inl tn))), (333, .inr (.inl (0, si))), (334, .inr (.inl (0, fr))), (335, .inr (.inl (0, to))), (336, .inr (.inl (0, st))), (337, .inr (.inl (0, sl))), (338, .inr (.inl (0, we)))] h0) : j_W jP (d + 1 + 1 + 1 + 1) 37 44 [(1, .int (nI nt)), (0, .ref 3)] [] h (PVA ln ce e ns l sn h0 (trZ l e ns nt sn pa z tn si fr to st sl we)) := by
  unfold trZ
  refine j_W.one xv_M xv_44 (by decide) (pcJ := 45) (stJ := [.ref 3]) rfl ?_
  refine j_W.one xv_M xv_45 (by decide) (pcJ := 46) (stJ := [.int 1, .ref 3]) rfl ?_
  refine j_W.one xv_M xv_46 (by decide) (pcJ := 48) (stJ := [.int 99, .int 1, .ref 3]) rfl ?_
  refine j_W.call xv_M xv_48 rfl (md := 3) (mj := 39) rfl (by decide) xt_M (As := [.ref 3, .int 1, .int 99]) (rest := []) (jk_spl3 (K.at rfl) rfl rfl rfl (Nat.le_of_ble_eq_true rfl) (Nat.le_of_ble_eq_true rfl)) (xt_ok hl he hp (K.sub ⟨rfl, rfl, rfl, trivial⟩)) ?_
  rintro r h9 ⟨rfl, K9⟩
  have K : KN h9 [(1, .inl (8, [.ref 2, .int ln, .int (nI e), .int (nI (aT l e z).1), .int (aT l e z).2.1, .int (aT l e z).2.2.1, .long (aT l e z).2.2.2.1, .int (aT l e z).2.2.2.2])), (2, .inr (.inl (1, l))), (3, .inl (4, [.ref 1, .ref 327, .int (bif nOk (aT l e z).2.1 (aT l e z).2.2.2.2 1 99 then 0 else nF (aT l e z).2.1), .int (bif nOk (aT l e z).2.1 (aT l e z).2.2.2.2 1 99 then pa else (aT l e z).2.2.1)])), (327, .inl (2, [.int (nI ns), .ref 328, .ref 329, .ref 330, .ref 331, .int (nI nt), .ref 332, .ref 333, .ref 334, .ref 335, .ref 336, .ref 337, .ref 338, .int ce, .ref 339, .ref 340, .ref 341, .ref 342])), (328, .inr (.inr (.inl sn))), (332, .inr (.inr (.inl tn))), (333, .inr (.inl (0, si))), (334, .inr (.inl (0, fr))), (335, .inr (.inl (0, to))), (336, .inr (.inl (0, st))), (337, .inr (.inl (0, sl))), (338, .inr (.inl (0, we)))] h0 := K.go K9 rfl rfl rfl
  clear K9
  show j_W jP _ 37 51 [(1, .int (nI nt)), (0, .ref 3)] [.int (bif nOk (aT l e z).2.1 (aT l e z).2.2.2.2 1 99 then 1 else 0)] h9 _
  cases hb : nOk (aT l e z).2.1 (aT l e z).2.2.2.2 1 99 with
  | true =>
    rw [hb] at K
    have K : KN h9 [(1, .inl (8, [.ref 2, .int ln, .int (nI e), .int (nI (aT l e z).1), .int (aT l e z).2.1, .int (aT l e z).2.2.1, .long (aT l e z).2.2.2.1, .int (aT l e z).2.2.2.2])), (2, .inr (.inl (1, l))), (3, .inl (4, [.ref 1, .ref 327, .int 0, .int pa])), (327, .inl (2, [.int (nI ns), .ref 328, .ref 329, .ref 330, .ref 331, .int (nI nt), .ref 332, .ref 333, .ref 334, .ref 335, .ref 336, .ref 337, .ref 338, .int ce, .ref 339, .ref 340, .ref 341, .ref 342])), (328, .inr (.inr (.inl sn))), (332, .inr (.inr (.inl tn))), (333, .inr (.inl (0, si))), (334, .inr (.inl (0, fr))), (335, .inr (.inl (0, to))), (336, .inr (.inl (0, st))), (337, .inr (.inl (0, sl))), (338, .inr (.inl (0, we)))] h0 := K
    show j_W jP _ 37 51 [(1, .int (nI nt)), (0, .ref 3)] [.int 1] h9 _
    refine j_W.ifc xv_M xv_51 (t := 56) rfl (fun c => ?_) (fun c => ?_)
    · clear c
      refine j_W.one xv_M xv_56 (by decide) (pcJ := 57) (stJ := [.ref 3]) rfl ?_
      refine j_W.getK xv_M xv_57 (ci := 4) (j := 1) rfl K rfl rfl ?_
      refine j_W.getK xv_M xv_60 (ci := 2) (j := 7) rfl K rfl rfl ?_
      refine j_W.one xv_M xv_63 (by decide) (pcJ := 64) (stJ := [.int (nI nt), .ref 333]) rfl ?_
      refine j_W.one xv_M xv_64 (by decide) (pcJ := 65) (stJ := [.ref 3, .int (nI nt), .ref 333]) rfl ?_
      refine j_W.getK xv_M xv_65 (ci := 4) (j := 0) rfl K rfl rfl ?_
      refine j_W.getK xv_M xv_68 (ci := 8) (j := 7) rfl K rfl rfl ?_
      refine j_W.iastK xv_M xv_71 (n := nt) (k' := [(1, .inl (8, [.ref 2, .int ln, .int (nI e), .int (nI (aT l e z).1), .int (aT l e z).2.1, .int (aT l e z).2.2.1, .long (aT l e z).2.2.2.1, .int (aT l e z).2.2.2.2])), (2, .inr (.inl (1, l))), (3, .inl (4, [.ref 1, .ref 327, .int 0, .int pa])), (327, .inl (2, [.int (nI ns), .ref 328, .ref 329, .ref 330, .ref 331, .int (nI nt), .ref 332, .ref 333, .ref 334, .ref 335, .ref 336, .ref 337, .ref 338, .int ce, .ref 339, .ref 340, .ref 341, .ref 342])), (328, .inr (.inr (.inl sn))), (332, .inr (.inr (.inl tn))), (333, .inr (.inl (0, (si.set nt (aT l e z).2.2.2.2)))), (334, .inr (.inl (0, fr))), (335, .inr (.inl (0, to))), (336, .inr (.inl (0, st))), (337, .inr (.inl (0, sl))), (338, .inr (.inl (0, we)))]) K rfl (by omega) (by omega) rfl (fun h K => ?_)
      exact xv_fA hl he (tkN_le hp) ht h1 hn g0 (by simp [g1]) g2 g3 g4 g5 g6 K
    · cases c
  | false =>
    rw [hb] at K
    have K : KN h9 [(1, .inl (8, [.ref 2, .int ln, .int (nI e), .int (nI (aT l e z).1), .int (aT l e z).2.1, .int (aT l e z).2.2.1, .long (aT l e z).2.2.2.1, .int (aT l e z).2.2.2.2])), (2, .inr (.inl (1, l))), (3, .inl (4, [.ref 1, .ref 327, .int (nF (aT l e z).2.1), .int (aT l e z).2.2.1])), (327, .inl (2, [.int (nI ns), .ref 328, .ref 329, .ref 330, .ref 331, .int (nI nt), .ref 332, .ref 333, .ref 334, .ref 335, .ref 336, .ref 337, .ref 338, .int ce, .ref 339, .ref 340, .ref 341, .ref 342])), (328, .inr (.inr (.inl sn))), (332, .inr (.inr (.inl tn))), (333, .inr (.inl (0, si))), (334, .inr (.inl (0, fr))), (335, .inr (.inl (0, to))), (336, .inr (.inl (0, st))), (337, .inr (.inl (0, sl))), (338, .inr (.inl (0, we)))] h0 := K
    show j_W jP _ 37 51 [(1, .int (nI nt)), (0, .ref 3)] [.int 0] h9 _
    refine j_W.ifc xv_M xv_51 (t := 56) rfl (fun c => ?_) (fun c => ?_)
    · cases c
    · refine j_W.one xv_M xv_54 (by decide) (pcJ := 55) (stJ := [.int 0]) rfl ?_
      refine j_W.ret xv_M xv_55 rfl rfl ⟨rfl, K⟩
theorem xv_okA {ln pa ce : Int32} {e ns nt : Nat} {l : List Int32} {h h0 : J_H} {d : Nat} {z : rK} {sn tn : List Int64} {si fr to st sl we : List Int32} (hl : l.length = 700) (he : e ≤ 700) (hp : z.1 ≤ e) (ht : nt ≤ 5) (h1 : sn.length = 7) (hn : ns ≤ 7) (g0 : tn.length = 5) (g1 : si.length = 5) (g2 : fr.length = 5) (g3 : to.length = 5) (g4 : st.length = 5) (g5 : sl.length = 5) (g6 : we.length = 5) (K : KN h [(1, .inl (8, [.ref 2, .int ln, .int (nI e), .int (nI z.1), .int z.2.1, .int z.2.2.1, .long z.2.2.2.1, .int z.2.2.2.2])), (2, .inr (.inl (1, l))), (3, .inl (4, [.ref 1, .ref 327, .int 0, .int pa])), (327, .inl (2, [.int (nI ns), .ref 328, .ref 329, .ref 330, .ref 331, .int (nI nt), .ref 332, .ref 333, .ref 334, .ref 335, .ref 336, .ref 337, .ref 338, .int ce, .ref 339, .ref 340, .ref 341, .ref 342])), (328, .inr (.inr (.inl sn))), (332, .inr (.inr (.inl tn))), (333, .inr (.inl (0, si))), (334, .inr (.inl (0, fr))), (335, .inr (.inl (0, to))), (336, .inr (.inl (0, st))), (337, .inr (.inl (0, sl))), (338, .inr (.inl (0, we)))] h0) : j_W jP (d + 1 + 1 + 1 + 1) 37 0 (lv_args 0 [.ref 3]) [] h (PVA ln ce e ns l sn h0 (trX l e ns nt sn pa z tn si fr to st sl we)) := by
  show j_W jP (d + 1 + 1 + 1 + 1) 37 0 [(0, .ref 3)] [] h _
  unfold trX
  refine j_W.one xv_M xv_0 (by decide) (pcJ := 1) (stJ := [.ref 3]) rfl ?_
  refine j_W.getK xv_M xv_1 (ci := 4) (j := 1) rfl K rfl rfl ?_
  refine j_W.getK xv_M xv_4 (ci := 2) (j := 5) rfl K rfl rfl ?_
  refine j_W.one xv_M xv_7 (by decide) (pcJ := 8) (lv' := [(1, .int (nI nt)), (0, .ref 3)]) (stJ := []) rfl ?_
  refine j_W.one xv_M xv_8 (by decide) (pcJ := 9) (stJ := [.int (nI nt)]) rfl ?_
  refine j_W.one xv_M xv_9 (by decide) (pcJ := 10) (stJ := [.int 5, .int (nI nt)]) rfl ?_
  refine j_W.icmp xv_M xv_10 (t := 19) rfl (fun c => ?_) (fun c => ?_)
  · rw [sk_lt] at c; have c := of_decide_eq_true c; rw [nI_toInt (by omega), show (5 : Int32).toInt = 5 from rfl] at c; have hm : nt < 5 := (by omega); rw [if_neg (show ¬ 5 ≤ nt by omega)]
    clear c
    refine j_W.one xv_M xv_19 (by decide) (pcJ := 20) (stJ := [.ref 3]) rfl ?_
    refine j_W.call xv_M xv_20 rfl (md := 3) (mj := 42) rfl (by decide) xq_M (As := [.ref 3]) (rest := []) (jk_spl3 (K.at rfl) rfl rfl rfl (Nat.le_of_ble_eq_true rfl) (Nat.le_of_ble_eq_true rfl)) (xq_okA hl he hp h1 g0 hn ht (K.sub ⟨rfl, rfl, rfl, rfl, rfl, rfl, trivial⟩)) ?_
    rintro r h9 ⟨rfl, K9⟩
    have K : KN h9 [(1, .inl (8, [.ref 2, .int ln, .int (nI e), .int (nI (aT l e z).1), .int (aT l e z).2.1, .int (aT l e z).2.2.1, .long (aT l e z).2.2.2.1, .int (aT l e z).2.2.2.2])), (2, .inr (.inl (1, l))), (3, .inl (4, [.ref 1, .ref 327, .int (bif nnOk (aT l e z).2.1 (aT l e z).2.2.2.1 sn tn ns nt then 0 else uF (aT l e z).2.1 (aT l e z).2.2.2.1), .int (bif nnOk (aT l e z).2.1 (aT l e z).2.2.2.1 sn tn ns nt then pa else (aT l e z).2.2.1)])), (327, .inl (2, [.int (nI ns), .ref 328, .ref 329, .ref 330, .ref 331, .int (nI nt), .ref 332, .ref 333, .ref 334, .ref 335, .ref 336, .ref 337, .ref 338, .int ce, .ref 339, .ref 340, .ref 341, .ref 342])), (328, .inr (.inr (.inl sn))), (332, .inr (.inr (.inl tn))), (333, .inr (.inl (0, si))), (334, .inr (.inl (0, fr))), (335, .inr (.inl (0, to))), (336, .inr (.inl (0, st))), (337, .inr (.inl (0, sl))), (338, .inr (.inl (0, we)))] h0 := K.go K9 rfl rfl rfl
    clear K9
    show j_W jP _ 37 23 [(1, .int (nI nt)), (0, .ref 3)] [.int (bif nnOk (aT l e z).2.1 (aT l e z).2.2.2.1 sn tn ns nt then 1 else 0)] h9 _
    cases hb : nnOk (aT l e z).2.1 (aT l e z).2.2.2.1 sn tn ns nt with
    | true =>
      rw [hb] at K
      have K : KN h9 [(1, .inl (8, [.ref 2, .int ln, .int (nI e), .int (nI (aT l e z).1), .int (aT l e z).2.1, .int (aT l e z).2.2.1, .long (aT l e z).2.2.2.1, .int (aT l e z).2.2.2.2])), (2, .inr (.inl (1, l))), (3, .inl (4, [.ref 1, .ref 327, .int 0, .int pa])), (327, .inl (2, [.int (nI ns), .ref 328, .ref 329, .ref 330, .ref 331, .int (nI nt), .ref 332, .ref 333, .ref 334, .ref 335, .ref 336, .ref 337, .ref 338, .int ce, .ref 339, .ref 340, .ref 341, .ref 342])), (328, .inr (.inr (.inl sn))), (332, .inr (.inr (.inl tn))), (333, .inr (.inl (0, si))), (334, .inr (.inl (0, fr))), (335, .inr (.inl (0, to))), (336, .inr (.inl (0, st))), (337, .inr (.inl (0, sl))), (338, .inr (.inl (0, we)))] h0 := K
      show j_W jP _ 37 23 [(1, .int (nI nt)), (0, .ref 3)] [.int 1] h9 _
      refine j_W.ifc xv_M xv_23 (t := 28) rfl (fun c => ?_) (fun c => ?_)
      · clear c
        refine j_W.one xv_M xv_28 (by decide) (pcJ := 29) (stJ := [.ref 3]) rfl ?_
        refine j_W.getK xv_M xv_29 (ci := 4) (j := 1) rfl K rfl rfl ?_
        refine j_W.getK xv_M xv_32 (ci := 2) (j := 6) rfl K rfl rfl ?_
        refine j_W.one xv_M xv_35 (by decide) (pcJ := 36) (stJ := [.int (nI nt), .ref 332]) rfl ?_
        refine j_W.one xv_M xv_36 (by decide) (pcJ := 37) (stJ := [.ref 3, .int (nI nt), .ref 332]) rfl ?_
        refine j_W.getK xv_M xv_37 (ci := 4) (j := 0) rfl K rfl rfl ?_
        refine j_W.getK xv_M xv_40 (ci := 8) (j := 6) rfl K rfl rfl ?_
        refine j_W.lastK xv_M xv_43 (n := nt) (k' := [(1, .inl (8, [.ref 2, .int ln, .int (nI e), .int (nI (aT l e z).1), .int (aT l e z).2.1, .int (aT l e z).2.2.1, .long (aT l e z).2.2.2.1, .int (aT l e z).2.2.2.2])), (2, .inr (.inl (1, l))), (3, .inl (4, [.ref 1, .ref 327, .int 0, .int pa])), (327, .inl (2, [.int (nI ns), .ref 328, .ref 329, .ref 330, .ref 331, .int (nI nt), .ref 332, .ref 333, .ref 334, .ref 335, .ref 336, .ref 337, .ref 338, .int ce, .ref 339, .ref 340, .ref 341, .ref 342])), (328, .inr (.inr (.inl sn))), (332, .inr (.inr (.inl (tn.set nt (aT l e z).2.2.2.1)))), (333, .inr (.inl (0, si))), (334, .inr (.inl (0, fr))), (335, .inr (.inl (0, to))), (336, .inr (.inl (0, st))), (337, .inr (.inl (0, sl))), (338, .inr (.inl (0, we)))]) K rfl (by omega) (by omega) rfl (fun h K => ?_)
        exact xv_zA hl he (tkN_le hp) hm h1 hn (by simp [g0]) g1 g2 g3 g4 g5 g6 K
      · cases c
    | false =>
      rw [hb] at K
      have K : KN h9 [(1, .inl (8, [.ref 2, .int ln, .int (nI e), .int (nI (aT l e z).1), .int (aT l e z).2.1, .int (aT l e z).2.2.1, .long (aT l e z).2.2.2.1, .int (aT l e z).2.2.2.2])), (2, .inr (.inl (1, l))), (3, .inl (4, [.ref 1, .ref 327, .int (uF (aT l e z).2.1 (aT l e z).2.2.2.1), .int (aT l e z).2.2.1])), (327, .inl (2, [.int (nI ns), .ref 328, .ref 329, .ref 330, .ref 331, .int (nI nt), .ref 332, .ref 333, .ref 334, .ref 335, .ref 336, .ref 337, .ref 338, .int ce, .ref 339, .ref 340, .ref 341, .ref 342])), (328, .inr (.inr (.inl sn))), (332, .inr (.inr (.inl tn))), (333, .inr (.inl (0, si))), (334, .inr (.inl (0, fr))), (335, .inr (.inl (0, to))), (336, .inr (.inl (0, st))), (337, .inr (.inl (0, sl))), (338, .inr (.inl (0, we)))] h0 := K
      show j_W jP _ 37 23 [(1, .int (nI nt)), (0, .ref 3)] [.int 0] h9 _
      refine j_W.ifc xv_M xv_23 (t := 28) rfl (fun c => ?_) (fun c => ?_)
      · cases c
      · refine j_W.one xv_M xv_26 (by decide) (pcJ := 27) (stJ := [.int 0]) rfl ?_
        refine j_W.ret xv_M xv_27 rfl rfl ⟨rfl, K⟩
  · rw [sk_lt] at c; have c := of_decide_eq_false c; rw [nI_toInt (by omega), show (5 : Int32).toInt = 5 from rfl] at c; rw [if_pos (show 5 ≤ nt by omega)]
    clear c
    refine j_W.one xv_M xv_13 (by decide) (pcJ := 14) (stJ := [.ref 3]) rfl ?_
    refine j_W.one xv_M xv_14 (by decide) (pcJ := 15) (stJ := [.int 5, .ref 3]) rfl ?_
    refine j_W.call xv_M xv_15 rfl (md := 3) (mj := 46) rfl (by decide) xf_M (As := [.ref 3, .int 5]) (rest := []) (jk_spl3 (K.at rfl) rfl rfl rfl (Nat.le_of_ble_eq_true rfl) (Nat.le_of_ble_eq_true rfl)) (xf_ok (K.sub ⟨rfl, rfl, trivial⟩)) ?_
    rintro r h9 ⟨rfl, K9⟩
    have K : KN h9 [(1, .inl (8, [.ref 2, .int ln, .int (nI e), .int (nI z.1), .int z.2.1, .int z.2.2.1, .long z.2.2.2.1, .int z.2.2.2.2])), (2, .inr (.inl (1, l))), (3, .inl (4, [.ref 1, .ref 327, .int 5, .int z.2.2.1])), (327, .inl (2, [.int (nI ns), .ref 328, .ref 329, .ref 330, .ref 331, .int (nI nt), .ref 332, .ref 333, .ref 334, .ref 335, .ref 336, .ref 337, .ref 338, .int ce, .ref 339, .ref 340, .ref 341, .ref 342])), (328, .inr (.inr (.inl sn))), (332, .inr (.inr (.inl tn))), (333, .inr (.inl (0, si))), (334, .inr (.inl (0, fr))), (335, .inr (.inl (0, to))), (336, .inr (.inl (0, st))), (337, .inr (.inl (0, sl))), (338, .inr (.inl (0, we)))] h0 := K.go K9 rfl rfl rfl
    clear K9
    show j_W jP _ 37 18 [(1, .int (nI nt)), (0, .ref 3)] [.int 0] h9 _
    refine j_W.ret xv_M xv_18 rfl rfl ⟨rfl, K⟩
def PSB (ln ce : Int32) (e nt : Nat) (l : List Int32) (tn : List Int64) (h0 : J_H) (R : rA) (rv : Option Value) (h' : J_H) : Prop := rv = some (.int (bif R.1 then 1 else 0)) ∧ KN h' [(1, .inl (8, [.ref 2, .int ln, .int (nI e), .int (nI R.2.2.1.1), .int R.2.2.1.2.1, .int R.2.2.1.2.2.1, .long R.2.2.1.2.2.2.1, .int R.2.2.1.2.2.2.2])), (2, .inr (.inl (1, l))), (3, .inl (4, [.ref 1, .ref 343, .int R.2.1.1, .int R.2.1.2])), (343, .inl (2, [.int (nI R.2.2.2.1), .ref 344, .ref 345, .ref 346, .ref 347, .int (nI nt), .ref 348, .ref 349, .ref 350, .ref 351, .ref 352, .ref 353, .ref 354, .int ce, .ref 355, .ref 356, .ref 357, .ref 358])), (344, .inr (.inr (.inl R.2.2.2.2.1))), (345, .inr (.inl (0, R.2.2.2.2.2.1))), (346, .inr (.inl (0, R.2.2.2.2.2.2.1))), (347, .inr (.inl (0, R.2.2.2.2.2.2.2))), (348, .inr (.inr (.inl tn)))] h0
theorem xr_okB {ln fa pa ce : Int32} {e ns nt : Nat} {l : List Int32} {h h0 : J_H} {d : Nat} {z : rK} {tr le : List Int32} (hl : l.length = 700) (he : e ≤ 700) (hp : z.1 ≤ e) (hn : ns < 7) (h3 : tr.length = 7) (h4 : le.length = 21) (K : KN h [(1, .inl (8, [.ref 2, .int ln, .int (nI e), .int (nI z.1), .int z.2.1, .int z.2.2.1, .long z.2.2.2.1, .int z.2.2.2.2])), (2, .inr (.inl (1, l))), (3, .inl (4, [.ref 1, .ref 343, .int fa, .int pa])), (343, .inl (2, [.int (nI ns), .ref 344, .ref 345, .ref 346, .ref 347, .int (nI nt), .ref 348, .ref 349, .ref 350, .ref 351, .ref 352, .ref 353, .ref 354, .int ce, .ref 355, .ref 356, .ref 357, .ref 358])), (346, .inr (.inl (0, tr))), (347, .inr (.inl (0, le)))] h0) : j_W jP (d + 1 + 1) 36 0 (lv_args 0 [.ref 3, .int (nI ns)]) [] h (PTB ln ce e ns nt l h0 (rT l e ns fa pa 4 0 z.1 z.2.1 z.2.2.1 z.2.2.2.1 z.2.2.2.2 tr le)) := by
  show j_W jP (d + 1 + 1) 36 0 [(0, .ref 3), (1, .int (nI ns))] [] h _
  refine j_W.one xr_M xr_0 (by decide) (pcJ := 1) (stJ := [.int 0]) rfl ?_
  refine j_W.one xr_M xr_1 (by decide) (pcJ := 2) (lv' := [(2, .int 0), (0, .ref 3), (1, .int (nI ns))]) (stJ := []) rfl ?_
  exact xr_lB hl he hn 4 0 z.1 z.2.1 z.2.2.1 z.2.2.2.1 z.2.2.2.2 tr le h rfl hp h3 h4 K
theorem xp_gB {ln fa pa ce : Int32} {e ns nt : Nat} {l : List Int32} {h h0 : J_H} {d : Nat} {z : rK} {sn tn : List Int64} {ru tr le : List Int32} (hl : l.length = 700) (he : e ≤ 700) (hp : z.1 ≤ e) (hn : ns < 7) (h3 : tr.length = 7) (h4 : le.length = 21) (K : KN h [(1, .inl (8, [.ref 2, .int ln, .int (nI e), .int (nI z.1), .int z.2.1, .int z.2.2.1, .long z.2.2.2.1, .int z.2.2.2.2])), (2, .inr (.inl (1, l))), (3, .inl (4, [.ref 1, .ref 343, .int fa, .int pa])), (343, .inl (2, [.int (nI ns), .ref 344, .ref 345, .ref 346, .ref 347, .int (nI nt), .ref 348, .ref 349, .ref 350, .ref 351, .ref 352, .ref 353, .ref 354, .int ce, .ref 355, .ref 356, .ref 357, .ref 358])), (344, .inr (.inr (.inl sn))), (345, .inr (.inl (0, ru))), (346, .inr (.inl (0, tr))), (347, .inr (.inl (0, le))), (348, .inr (.inr (.inl tn)))] h0) : j_W jP (d + 1 + 1 + 1) 35 81 [(1, .int (nI ns)), (0, .ref 3)] [] h (PSB ln ce e nt l tn h0 (stE ns sn ru (rT l e ns fa pa 4 0 z.1 z.2.1 z.2.2.1 z.2.2.2.1 z.2.2.2.2 tr le))) := by
  refine j_W.one xp_M xp_81 (by decide) (pcJ := 82) (stJ := [.ref 3]) rfl ?_
  refine j_W.one xp_M xp_82 (by decide) (pcJ := 83) (stJ := [.int (nI ns), .ref 3]) rfl ?_
  generalize hR : (rT l e ns fa pa 4 0 z.1 z.2.1 z.2.2.1 z.2.2.2.1 z.2.2.2.2 tr le) = R
  refine j_W.call xp_M xp_83 rfl (md := 3) (mj := 36) rfl (by decide) xr_M (As := [.ref 3, .int (nI ns)]) (rest := []) (jk_spl3 (K.at rfl) rfl rfl rfl (Nat.le_of_ble_eq_true rfl) (Nat.le_of_ble_eq_true rfl)) (hR ▸ xr_okB hl he hp hn h3 h4 (K.sub ⟨rfl, rfl, rfl, rfl, rfl, rfl, trivial⟩)) ?_
  rintro r h9 ⟨rfl, K9⟩
  have K : KN h9 [(1, .inl (8, [.ref 2, .int ln, .int (nI e), .int (nI R.2.2.1.1), .int R.2.2.1.2.1, .int R.2.2.1.2.2.1, .long R.2.2.1.2.2.2.1, .int R.2.2.1.2.2.2.2])), (2, .inr (.inl (1, l))), (3, .inl (4, [.ref 1, .ref 343, .int R.2.1.1, .int R.2.1.2])), (343, .inl (2, [.int (nI ns), .ref 344, .ref 345, .ref 346, .ref 347, .int (nI nt), .ref 348, .ref 349, .ref 350, .ref 351, .ref 352, .ref 353, .ref 354, .int ce, .ref 355, .ref 356, .ref 357, .ref 358])), (344, .inr (.inr (.inl sn))), (345, .inr (.inl (0, ru))), (346, .inr (.inl (0, R.2.2.2.1))), (347, .inr (.inl (0, R.2.2.2.2))), (348, .inr (.inr (.inl tn)))] h0 := K.go K9 rfl rfl rfl
  clear K9
  show j_W jP _ 35 86 [(1, .int (nI ns)), (0, .ref 3)] [.int (bif R.1 then 1 else 0)] h9 _
  clear hR
  obtain ⟨R1, R2, R3, R4, R5⟩ := R
  cases R1 with
  | true =>
    have K : KN h9 [(1, .inl (8, [.ref 2, .int ln, .int (nI e), .int (nI R3.1), .int R3.2.1, .int R3.2.2.1, .long R3.2.2.2.1, .int R3.2.2.2.2])), (2, .inr (.inl (1, l))), (3, .inl (4, [.ref 1, .ref 343, .int R2.1, .int R2.2])), (343, .inl (2, [.int (nI ns), .ref 344, .ref 345, .ref 346, .ref 347, .int (nI nt), .ref 348, .ref 349, .ref 350, .ref 351, .ref 352, .ref 353, .ref 354, .int ce, .ref 355, .ref 356, .ref 357, .ref 358])), (344, .inr (.inr (.inl sn))), (345, .inr (.inl (0, ru))), (346, .inr (.inl (0, R4))), (347, .inr (.inl (0, R5))), (348, .inr (.inr (.inl tn)))] h0 := K
    show j_W jP _ 35 86 [(1, .int (nI ns)), (0, .ref 3)] [.int 1] h9 _
    refine j_W.ifc xp_M xp_86 (t := 91) rfl (fun c => ?_) (fun c => ?_)
    · clear c
      refine j_W.one xp_M xp_91 (by decide) (pcJ := 92) (stJ := [.ref 3]) rfl ?_
      refine j_W.getK xp_M xp_92 (ci := 4) (j := 1) rfl K rfl rfl ?_
      refine j_W.one xp_M xp_95 (by decide) (pcJ := 96) (stJ := [.ref 343, .ref 343]) rfl ?_
      refine j_W.getK xp_M xp_96 (ci := 2) (j := 0) rfl K rfl rfl ?_
      refine j_W.one xp_M xp_99 (by decide) (pcJ := 100) (stJ := [.int 1, .int (nI ns), .ref 343]) rfl ?_
      refine j_W.one xp_M xp_100 (by decide) (pcJ := 101) (stJ := [.int ((nI ns) + 1), .ref 343]) rfl ?_
      refine j_W.putK xp_M xp_101 (ci := 2) (j := 0) (k' := [(1, .inl (8, [.ref 2, .int ln, .int (nI e), .int (nI R3.1), .int R3.2.1, .int R3.2.2.1, .long R3.2.2.2.1, .int R3.2.2.2.2])), (2, .inr (.inl (1, l))), (3, .inl (4, [.ref 1, .ref 343, .int R2.1, .int R2.2])), (343, .inl (2, [.int ((nI ns) + 1), .ref 344, .ref 345, .ref 346, .ref 347, .int (nI nt), .ref 348, .ref 349, .ref 350, .ref 351, .ref 352, .ref 353, .ref 354, .int ce, .ref 355, .ref 356, .ref 357, .ref 358])), (344, .inr (.inr (.inl sn))), (345, .inr (.inl (0, ru))), (346, .inr (.inl (0, R4))), (347, .inr (.inl (0, R5))), (348, .inr (.inr (.inl tn)))]) rfl K rfl (Nat.le_of_ble_eq_true rfl) rfl (Or.inl rfl) rfl rfl (fun h K => ?_)
      refine j_W.one xp_M xp_104 (by decide) (pcJ := 105) (stJ := [.int 1]) rfl ?_
      refine j_W.ret xp_M xp_105 rfl rfl ⟨rfl, ?_⟩
      rw [← nI_succ] at K
      exact K
    · cases c
  | false =>
    have K : KN h9 [(1, .inl (8, [.ref 2, .int ln, .int (nI e), .int (nI R3.1), .int R3.2.1, .int R3.2.2.1, .long R3.2.2.2.1, .int R3.2.2.2.2])), (2, .inr (.inl (1, l))), (3, .inl (4, [.ref 1, .ref 343, .int R2.1, .int R2.2])), (343, .inl (2, [.int (nI ns), .ref 344, .ref 345, .ref 346, .ref 347, .int (nI nt), .ref 348, .ref 349, .ref 350, .ref 351, .ref 352, .ref 353, .ref 354, .int ce, .ref 355, .ref 356, .ref 357, .ref 358])), (344, .inr (.inr (.inl sn))), (345, .inr (.inl (0, ru))), (346, .inr (.inl (0, R4))), (347, .inr (.inl (0, R5))), (348, .inr (.inr (.inl tn)))] h0 := K
    show j_W jP _ 35 86 [(1, .int (nI ns)), (0, .ref 3)] [.int 0] h9 _
    refine j_W.ifc xp_M xp_86 (t := 91) rfl (fun c => ?_) (fun c => ?_)
    · cases c
    · refine j_W.one xp_M xp_89 (by decide) (pcJ := 90) (stJ := [.int 0]) rfl ?_
      refine j_W.ret xp_M xp_90 rfl rfl ⟨rfl, K⟩
theorem xp_nB {ln fa pa ce : Int32} {e ns nt : Nat} {l : List Int32} {h h0 : J_H} {d : Nat} {z : rK} {sn tn : List Int64} {ru tr le : List Int32} {lo : Int32} (hl : l.length = 700) (he : e ≤ 700) (hp : z.1 ≤ e) (hn : ns < 7) (h2 : ru.length = 7) (h3 : tr.length = 7) (h4 : le.length = 21) (K : KN h [(1, .inl (8, [.ref 2, .int ln, .int (nI e), .int (nI z.1), .int z.2.1, .int z.2.2.1, .long z.2.2.2.1, .int z.2.2.2.2])), (2, .inr (.inl (1, l))), (3, .inl (4, [.ref 1, .ref 343, .int fa, .int pa])), (343, .inl (2, [.int (nI ns), .ref 344, .ref 345, .ref 346, .ref 347, .int (nI nt), .ref 348, .ref 349, .ref 350, .ref 351, .ref 352, .ref 353, .ref 354, .int ce, .ref 355, .ref 356, .ref 357, .ref 358])), (344, .inr (.inr (.inl sn))), (345, .inr (.inl (0, ru))), (346, .inr (.inl (0, tr))), (347, .inr (.inl (0, le))), (348, .inr (.inr (.inl tn)))] h0) : j_W jP (d + 1 + 1 + 1) 35 55 [(1, .int (nI ns)), (0, .ref 3)] [.int lo, .ref 3] h (PSB ln ce e nt l tn h0 (stN l e ns fa pa z lo sn ru tr le)) := by
  unfold stN
  refine j_W.one xp_M xp_55 (by decide) (pcJ := 57) (stJ := [.int 30, .int lo, .ref 3]) rfl ?_
  refine j_W.call xp_M xp_57 rfl (md := 3) (mj := 39) rfl (by decide) xt_M (As := [.ref 3, .int lo, .int 30]) (rest := []) (jk_spl3 (K.at rfl) rfl rfl rfl (Nat.le_of_ble_eq_true rfl) (Nat.le_of_ble_eq_true rfl)) (xt_ok hl he hp (K.sub ⟨rfl, rfl, rfl, trivial⟩)) ?_
  rintro r h9 ⟨rfl, K9⟩
  have K : KN h9 [(1, .inl (8, [.ref 2, .int ln, .int (nI e), .int (nI (aT l e z).1), .int (aT l e z).2.1, .int (aT l e z).2.2.1, .long (aT l e z).2.2.2.1, .int (aT l e z).2.2.2.2])), (2, .inr (.inl (1, l))), (3, .inl (4, [.ref 1, .ref 343, .int (bif (nOk (aT l e z).2.1 (aT l e z).2.2.2.2 lo 30) then fa else nF (aT l e z).2.1), .int (bif (nOk (aT l e z).2.1 (aT l e z).2.2.2.2 lo 30) then pa else (aT l e z).2.2.1)])), (343, .inl (2, [.int (nI ns), .ref 344, .ref 345, .ref 346, .ref 347, .int (nI nt), .ref 348, .ref 349, .ref 350, .ref 351, .ref 352, .ref 353, .ref 354, .int ce, .ref 355, .ref 356, .ref 357, .ref 358])), (344, .inr (.inr (.inl sn))), (345, .inr (.inl (0, ru))), (346, .inr (.inl (0, tr))), (347, .inr (.inl (0, le))), (348, .inr (.inr (.inl tn)))] h0 := K.go K9 rfl rfl rfl
  clear K9
  show j_W jP _ 35 60 [(1, .int (nI ns)), (0, .ref 3)] [.int (bif (nOk (aT l e z).2.1 (aT l e z).2.2.2.2 lo 30) then 1 else 0)] h9 _
  cases hb : nOk (aT l e z).2.1 (aT l e z).2.2.2.2 lo 30 with
  | true =>
    rw [hb] at K
    have K : KN h9 [(1, .inl (8, [.ref 2, .int ln, .int (nI e), .int (nI (aT l e z).1), .int (aT l e z).2.1, .int (aT l e z).2.2.1, .long (aT l e z).2.2.2.1, .int (aT l e z).2.2.2.2])), (2, .inr (.inl (1, l))), (3, .inl (4, [.ref 1, .ref 343, .int fa, .int pa])), (343, .inl (2, [.int (nI ns), .ref 344, .ref 345, .ref 346, .ref 347, .int (nI nt), .ref 348, .ref 349, .ref 350, .ref 351, .ref 352, .ref 353, .ref 354, .int ce, .ref 355, .ref 356, .ref 357, .ref 358])), (344, .inr (.inr (.inl sn))), (345, .inr (.inl (0, ru))), (346, .inr (.inl (0, tr))), (347, .inr (.inl (0, le))), (348, .inr (.inr (.inl tn)))] h0 := K
    show j_W jP _ 35 60 [(1, .int (nI ns)), (0, .ref 3)] [.int 1] h9 _
    refine j_W.ifc xp_M xp_60 (t := 65) rfl (fun c => ?_) (fun c => ?_)
    · clear c
      refine j_W.one xp_M xp_65 (by decide) (pcJ := 66) (stJ := [.ref 3]) rfl ?_
      refine j_W.getK xp_M xp_66 (ci := 4) (j := 1) rfl K rfl rfl ?_
      refine j_W.getK xp_M xp_69 (ci := 2) (j := 2) rfl K rfl rfl ?_
      refine j_W.one xp_M xp_72 (by decide) (pcJ := 73) (stJ := [.int (nI ns), .ref 345]) rfl ?_
      refine j_W.one xp_M xp_73 (by decide) (pcJ := 74) (stJ := [.ref 3, .int (nI ns), .ref 345]) rfl ?_
      refine j_W.getK xp_M xp_74 (ci := 4) (j := 0) rfl K rfl rfl ?_
      refine j_W.getK xp_M xp_77 (ci := 8) (j := 7) rfl K rfl rfl ?_
      refine j_W.iastK xp_M xp_80 (n := ns) (k' := [(1, .inl (8, [.ref 2, .int ln, .int (nI e), .int (nI (aT l e z).1), .int (aT l e z).2.1, .int (aT l e z).2.2.1, .long (aT l e z).2.2.2.1, .int (aT l e z).2.2.2.2])), (2, .inr (.inl (1, l))), (3, .inl (4, [.ref 1, .ref 343, .int fa, .int pa])), (343, .inl (2, [.int (nI ns), .ref 344, .ref 345, .ref 346, .ref 347, .int (nI nt), .ref 348, .ref 349, .ref 350, .ref 351, .ref 352, .ref 353, .ref 354, .int ce, .ref 355, .ref 356, .ref 357, .ref 358])), (344, .inr (.inr (.inl sn))), (345, .inr (.inl (0, (ru.set ns (aT l e z).2.2.2.2)))), (346, .inr (.inl (0, tr))), (347, .inr (.inl (0, le))), (348, .inr (.inr (.inl tn)))]) K rfl (by omega) (by omega) rfl (fun h K => ?_)
      exact xp_gB hl he (tkN_le hp) hn h3 h4 K
    · cases c
  | false =>
    rw [hb] at K
    have K : KN h9 [(1, .inl (8, [.ref 2, .int ln, .int (nI e), .int (nI (aT l e z).1), .int (aT l e z).2.1, .int (aT l e z).2.2.1, .long (aT l e z).2.2.2.1, .int (aT l e z).2.2.2.2])), (2, .inr (.inl (1, l))), (3, .inl (4, [.ref 1, .ref 343, .int (nF (aT l e z).2.1), .int (aT l e z).2.2.1])), (343, .inl (2, [.int (nI ns), .ref 344, .ref 345, .ref 346, .ref 347, .int (nI nt), .ref 348, .ref 349, .ref 350, .ref 351, .ref 352, .ref 353, .ref 354, .int ce, .ref 355, .ref 356, .ref 357, .ref 358])), (344, .inr (.inr (.inl sn))), (345, .inr (.inl (0, ru))), (346, .inr (.inl (0, tr))), (347, .inr (.inl (0, le))), (348, .inr (.inr (.inl tn)))] h0 := K
    show j_W jP _ 35 60 [(1, .int (nI ns)), (0, .ref 3)] [.int 0] h9 _
    refine j_W.ifc xp_M xp_60 (t := 65) rfl (fun c => ?_) (fun c => ?_)
    · cases c
    · refine j_W.one xp_M xp_63 (by decide) (pcJ := 64) (stJ := [.int 0]) rfl ?_
      refine j_W.ret xp_M xp_64 rfl rfl ⟨rfl, K⟩
theorem xp_okB {ln fa pa ce : Int32} {e ns nt : Nat} {l : List Int32} {h h0 : J_H} {d : Nat} {z : rK} {sn tn : List Int64} {ru tr le : List Int32} (hl : l.length = 700) (he : e ≤ 700) (hp : z.1 ≤ e) (hn : ns ≤ 7) (hm : nt ≤ 5) (h1 : sn.length = 7) (h2 : ru.length = 7) (h3 : tr.length = 7) (h4 : le.length = 21) (h5 : tn.length = 5) (K : KN h [(1, .inl (8, [.ref 2, .int ln, .int (nI e), .int (nI z.1), .int z.2.1, .int z.2.2.1, .long z.2.2.2.1, .int z.2.2.2.2])), (2, .inr (.inl (1, l))), (3, .inl (4, [.ref 1, .ref 343, .int fa, .int pa])), (343, .inl (2, [.int (nI ns), .ref 344, .ref 345, .ref 346, .ref 347, .int (nI nt), .ref 348, .ref 349, .ref 350, .ref 351, .ref 352, .ref 353, .ref 354, .int ce, .ref 355, .ref 356, .ref 357, .ref 358])), (344, .inr (.inr (.inl sn))), (345, .inr (.inl (0, ru))), (346, .inr (.inl (0, tr))), (347, .inr (.inl (0, le))), (348, .inr (.inr (.inl tn)))] h0) : j_W jP (d + 1 + 1 + 1 + 1) 35 0 (lv_args 0 [.ref 3]) [] h (PSB ln ce e nt l tn h0 (stX l e ns nt fa pa z sn tn ru tr le)) := by
  show j_W jP (d + 1 + 1 + 1 + 1) 35 0 [(0, .ref 3)] [] h _
  unfold stX
  refine j_W.one xp_M xp_0 (by decide) (pcJ := 1) (stJ := [.ref 3]) rfl ?_
  refine j_W.getK xp_M xp_1 (ci := 4) (j := 1) rfl K rfl rfl ?_
  refine j_W.getK xp_M xp_4 (ci := 2) (j := 0) rfl K rfl rfl ?_
  refine j_W.one xp_M xp_7 (by decide) (pcJ := 8) (lv' := [(1, .int (nI ns)), (0, .ref 3)]) (stJ := []) rfl ?_
  refine j_W.one xp_M xp_8 (by decide) (pcJ := 9) (stJ := [.int (nI ns)]) rfl ?_
  refine j_W.one xp_M xp_9 (by decide) (pcJ := 11) (stJ := [.int 7, .int (nI ns)]) rfl ?_
  refine j_W.icmp xp_M xp_11 (t := 20) rfl (fun c => ?_) (fun c => ?_)
  · rw [sk_lt] at c; have c := of_decide_eq_true c; rw [nI_toInt (by omega), show (7 : Int32).toInt = 7 from rfl] at c; have hn7 : ns < 7 := (by omega); rw [if_neg (show ¬ 7 ≤ ns by omega)]
    clear c
    refine j_W.one xp_M xp_20 (by decide) (pcJ := 21) (stJ := [.ref 3]) rfl ?_
    refine j_W.call xp_M xp_21 rfl (md := 3) (mj := 42) rfl (by decide) xq_M (As := [.ref 3]) (rest := []) (jk_spl3 (K.at rfl) rfl rfl rfl (Nat.le_of_ble_eq_true rfl) (Nat.le_of_ble_eq_true rfl)) (xq_okB hl he hp h1 h5 hn hm (K.sub ⟨rfl, rfl, rfl, rfl, rfl, rfl, trivial⟩)) ?_
    rintro r h9 ⟨rfl, K9⟩
    have K : KN h9 [(1, .inl (8, [.ref 2, .int ln, .int (nI e), .int (nI (aT l e z).1), .int (aT l e z).2.1, .int (aT l e z).2.2.1, .long (aT l e z).2.2.2.1, .int (aT l e z).2.2.2.2])), (2, .inr (.inl (1, l))), (3, .inl (4, [.ref 1, .ref 343, .int (bif nnOk (aT l e z).2.1 (aT l e z).2.2.2.1 sn tn ns nt then fa else uF (aT l e z).2.1 (aT l e z).2.2.2.1), .int (bif nnOk (aT l e z).2.1 (aT l e z).2.2.2.1 sn tn ns nt then pa else (aT l e z).2.2.1)])), (343, .inl (2, [.int (nI ns), .ref 344, .ref 345, .ref 346, .ref 347, .int (nI nt), .ref 348, .ref 349, .ref 350, .ref 351, .ref 352, .ref 353, .ref 354, .int ce, .ref 355, .ref 356, .ref 357, .ref 358])), (344, .inr (.inr (.inl sn))), (345, .inr (.inl (0, ru))), (346, .inr (.inl (0, tr))), (347, .inr (.inl (0, le))), (348, .inr (.inr (.inl tn)))] h0 := K.go K9 rfl rfl rfl
    clear K9
    show j_W jP _ 35 24 [(1, .int (nI ns)), (0, .ref 3)] [.int (bif nnOk (aT l e z).2.1 (aT l e z).2.2.2.1 sn tn ns nt then 1 else 0)] h9 _
    cases hb : nnOk (aT l e z).2.1 (aT l e z).2.2.2.1 sn tn ns nt with
    | true =>
      rw [hb] at K
      have K : KN h9 [(1, .inl (8, [.ref 2, .int ln, .int (nI e), .int (nI (aT l e z).1), .int (aT l e z).2.1, .int (aT l e z).2.2.1, .long (aT l e z).2.2.2.1, .int (aT l e z).2.2.2.2])), (2, .inr (.inl (1, l))), (3, .inl (4, [.ref 1, .ref 343, .int fa, .int pa])), (343, .inl (2, [.int (nI ns), .ref 344, .ref 345, .ref 346, .ref 347, .int (nI nt), .ref 348, .ref 349, .ref 350, .ref 351, .ref 352, .ref 353, .ref 354, .int ce, .ref 355, .ref 356, .ref 357, .ref 358])), (344, .inr (.inr (.inl sn))), (345, .inr (.inl (0, ru))), (346, .inr (.inl (0, tr))), (347, .inr (.inl (0, le))), (348, .inr (.inr (.inl tn)))] h0 := K
      show j_W jP _ 35 24 [(1, .int (nI ns)), (0, .ref 3)] [.int 1] h9 _
      refine j_W.ifc xp_M xp_24 (t := 29) rfl (fun c => ?_) (fun c => ?_)
      · clear c
        refine j_W.one xp_M xp_29 (by decide) (pcJ := 30) (stJ := [.ref 3]) rfl ?_
        refine j_W.getK xp_M xp_30 (ci := 4) (j := 1) rfl K rfl rfl ?_
        refine j_W.getK xp_M xp_33 (ci := 2) (j := 1) rfl K rfl rfl ?_
        refine j_W.one xp_M xp_36 (by decide) (pcJ := 37) (stJ := [.int (nI ns), .ref 344]) rfl ?_
        refine j_W.one xp_M xp_37 (by decide) (pcJ := 38) (stJ := [.ref 3, .int (nI ns), .ref 344]) rfl ?_
        refine j_W.getK xp_M xp_38 (ci := 4) (j := 0) rfl K rfl rfl ?_
        refine j_W.getK xp_M xp_41 (ci := 8) (j := 6) rfl K rfl rfl ?_
        refine j_W.lastK xp_M xp_44 (n := ns) (k' := [(1, .inl (8, [.ref 2, .int ln, .int (nI e), .int (nI (aT l e z).1), .int (aT l e z).2.1, .int (aT l e z).2.2.1, .long (aT l e z).2.2.2.1, .int (aT l e z).2.2.2.2])), (2, .inr (.inl (1, l))), (3, .inl (4, [.ref 1, .ref 343, .int fa, .int pa])), (343, .inl (2, [.int (nI ns), .ref 344, .ref 345, .ref 346, .ref 347, .int (nI nt), .ref 348, .ref 349, .ref 350, .ref 351, .ref 352, .ref 353, .ref 354, .int ce, .ref 355, .ref 356, .ref 357, .ref 358])), (344, .inr (.inr (.inl (sn.set ns (aT l e z).2.2.2.1)))), (345, .inr (.inl (0, ru))), (346, .inr (.inl (0, tr))), (347, .inr (.inl (0, le))), (348, .inr (.inr (.inl tn)))]) K rfl (by omega) (by omega) rfl (fun h K => ?_)
        refine j_W.one xp_M xp_45 (by decide) (pcJ := 46) (stJ := [.ref 3]) rfl ?_
        refine j_W.one xp_M xp_46 (by decide) (pcJ := 47) (stJ := [.int (nI ns), .ref 3]) rfl ?_
        refine j_W.ifc xp_M xp_47 (t := 54) rfl (fun c => ?_) (fun c => ?_)
        · have c1 : ¬ ns = 0 := by intro z1; subst z1; exact absurd c (by decide)
          rw [if_neg c1]
          refine j_W.one xp_M xp_54 (by decide) (pcJ := 55) (stJ := [.int 1, .ref 3]) rfl ?_
          exact xp_nB hl he (tkN_le hp) hn7 h2 h3 h4 K
        · have c1 : ns = 0 := by
            by_cases z1 : ns = 0
            · exact z1
            · exfalso; have z2 : nI ns = 0 := by simpa [j_cond] using c
              have z3 : (nI ns).toInt = 0 := by rw [z2]; rfl
              rw [nI_toInt (by omega)] at z3; omega
          rw [if_pos c1]
          refine j_W.one xp_M xp_50 (by decide) (pcJ := 51) (stJ := [.int 0, .ref 3]) rfl ?_
          refine j_W.gto xp_M xp_51 (t := 55) rfl ?_
          exact xp_nB hl he (tkN_le hp) hn7 h2 h3 h4 K
      · cases c
    | false =>
      rw [hb] at K
      have K : KN h9 [(1, .inl (8, [.ref 2, .int ln, .int (nI e), .int (nI (aT l e z).1), .int (aT l e z).2.1, .int (aT l e z).2.2.1, .long (aT l e z).2.2.2.1, .int (aT l e z).2.2.2.2])), (2, .inr (.inl (1, l))), (3, .inl (4, [.ref 1, .ref 343, .int (uF (aT l e z).2.1 (aT l e z).2.2.2.1), .int (aT l e z).2.2.1])), (343, .inl (2, [.int (nI ns), .ref 344, .ref 345, .ref 346, .ref 347, .int (nI nt), .ref 348, .ref 349, .ref 350, .ref 351, .ref 352, .ref 353, .ref 354, .int ce, .ref 355, .ref 356, .ref 357, .ref 358])), (344, .inr (.inr (.inl sn))), (345, .inr (.inl (0, ru))), (346, .inr (.inl (0, tr))), (347, .inr (.inl (0, le))), (348, .inr (.inr (.inl tn)))] h0 := K
      show j_W jP _ 35 24 [(1, .int (nI ns)), (0, .ref 3)] [.int 0] h9 _
      refine j_W.ifc xp_M xp_24 (t := 29) rfl (fun c => ?_) (fun c => ?_)
      · cases c
      · refine j_W.one xp_M xp_27 (by decide) (pcJ := 28) (stJ := [.int 0]) rfl ?_
        refine j_W.ret xp_M xp_28 rfl rfl ⟨rfl, K⟩
  · rw [sk_lt] at c; have c := of_decide_eq_false c; rw [nI_toInt (by omega), show (7 : Int32).toInt = 7 from rfl] at c; rw [if_pos (show 7 ≤ ns by omega)]
    clear c
    refine j_W.one xp_M xp_14 (by decide) (pcJ := 15) (stJ := [.ref 3]) rfl ?_
    refine j_W.one xp_M xp_15 (by decide) (pcJ := 16) (stJ := [.int 5, .ref 3]) rfl ?_
    refine j_W.call xp_M xp_16 rfl (md := 3) (mj := 46) rfl (by decide) xf_M (As := [.ref 3, .int 5]) (rest := []) (jk_spl3 (K.at rfl) rfl rfl rfl (Nat.le_of_ble_eq_true rfl) (Nat.le_of_ble_eq_true rfl)) (xf_ok (K.sub ⟨rfl, rfl, trivial⟩)) ?_
    rintro r h9 ⟨rfl, K9⟩
    have K : KN h9 [(1, .inl (8, [.ref 2, .int ln, .int (nI e), .int (nI z.1), .int z.2.1, .int z.2.2.1, .long z.2.2.2.1, .int z.2.2.2.2])), (2, .inr (.inl (1, l))), (3, .inl (4, [.ref 1, .ref 343, .int 5, .int z.2.2.1])), (343, .inl (2, [.int (nI ns), .ref 344, .ref 345, .ref 346, .ref 347, .int (nI nt), .ref 348, .ref 349, .ref 350, .ref 351, .ref 352, .ref 353, .ref 354, .int ce, .ref 355, .ref 356, .ref 357, .ref 358])), (344, .inr (.inr (.inl sn))), (345, .inr (.inl (0, ru))), (346, .inr (.inl (0, tr))), (347, .inr (.inl (0, le))), (348, .inr (.inr (.inl tn)))] h0 := K.go K9 rfl rfl rfl
    clear K9
    show j_W jP _ 35 19 [(1, .int (nI ns)), (0, .ref 3)] [.int 0] h9 _
    refine j_W.ret xp_M xp_19 rfl rfl ⟨rfl, K⟩
def PVB (ln ce : Int32) (e ns : Nat) (l : List Int32) (sn : List Int64) (h0 : J_H) (R : rB) (rv : Option Value) (h' : J_H) : Prop := rv = some (.int (bif R.1 then 1 else 0)) ∧ KN h' [(1, .inl (8, [.ref 2, .int ln, .int (nI e), .int (nI R.2.2.1.1), .int R.2.2.1.2.1, .int R.2.2.1.2.2.1, .long R.2.2.1.2.2.2.1, .int R.2.2.1.2.2.2.2])), (2, .inr (.inl (1, l))), (3, .inl (4, [.ref 1, .ref 343, .int R.2.1.1, .int R.2.1.2])), (343, .inl (2, [.int (nI ns), .ref 344, .ref 345, .ref 346, .ref 347, .int (nI R.2.2.2.1), .ref 348, .ref 349, .ref 350, .ref 351, .ref 352, .ref 353, .ref 354, .int ce, .ref 355, .ref 356, .ref 357, .ref 358])), (344, .inr (.inr (.inl sn))), (348, .inr (.inr (.inl R.2.2.2.2.1))), (349, .inr (.inl (0, R.2.2.2.2.2.1))), (350, .inr (.inl (0, R.2.2.2.2.2.2.1))), (351, .inr (.inl (0, R.2.2.2.2.2.2.2.1))), (352, .inr (.inl (0, R.2.2.2.2.2.2.2.2.1))), (353, .inr (.inl (0, R.2.2.2.2.2.2.2.2.2.1))), (354, .inr (.inl (0, R.2.2.2.2.2.2.2.2.2.2)))] h0
theorem xv_mB {ln pa ce : Int32} {e ns nt : Nat} {l : List Int32} {h h0 : J_H} {d : Nat} {z : rK} {sn tn : List Int64} {si fr to st sl we : List Int32} (hl : l.length = 700) (he : e ≤ 700) (hp : z.1 ≤ e) (ht : nt < 5) (h1 : sn.length = 7) (hn : ns ≤ 7) (g0 : tn.length = 5) (g1 : si.length = 5) (g2 : fr.length = 5) (g3 : to.length = 5) (g4 : st.length = 5) (g5 : sl.length = 5) (g6 : we.length = 5) (K : KN h [(1, .inl (8, [.ref 2, .int ln, .int (nI e), .int (nI z.1), .int z.2.1, .int z.2.2.1, .long z.2.2.2.1, .int z.2.2.2.2])), (2, .inr (.inl (1, l))), (3, .inl (4, [.ref 1, .ref 343, .int 0, .int pa])), (343, .inl (2, [.int (nI ns), .ref 344, .ref 345, .ref 346, .ref 347, .int (nI nt), .ref 348, .ref 349, .ref 350, .ref 351, .ref 352, .ref 353, .ref 354, .int ce, .ref 355, .ref 356, .ref 357, .ref 358])), (344, .inr (.inr (.inl sn))), (348, .inr (.inr (.inl tn))), (349, .inr (.inl (0, si))), (350, .inr (.inl (0, fr))), (351, .inr (.inl (0, to))), (352, .inr (.inl (0, st))), (353, .inr (.inl (0, sl))), (354, .inr (.inl (0, we)))] h0) : j_W jP (d + 1 + 1 + 1 + 1) 37 153 [(1, .int (nI nt)), (0, .ref 3)] [] h (PVB ln ce e ns l sn h0 (trM nt tn si fr to st (mS l e nt 0 pa (aT l e z) (sl.set nt 0) (we.set nt 1)))) := by
  refine j_W.one xv_M xv_153 (by decide) (pcJ := 154) (stJ := [.ref 3]) rfl ?_
  refine j_W.one xv_M xv_154 (by decide) (pcJ := 155) (stJ := [.int (nI nt), .ref 3]) rfl ?_
  generalize hR : (mS l e nt 0 pa (aT l e z) (sl.set nt 0) (we.set nt 1)) = R
  refine j_W.call xv_M xv_155 rfl (md := 3) (mj := 38) rfl (by decide) xm_M (As := [.ref 3, .int (nI nt)]) (rest := []) (jk_spl3 (K.at rfl) rfl rfl rfl (Nat.le_of_ble_eq_true rfl) (Nat.le_of_ble_eq_true rfl)) (hR ▸ xm_okB hl he hp ht g5 g6 (K.sub ⟨rfl, rfl, rfl, rfl, rfl, rfl, trivial⟩)) ?_
  rintro r h9 ⟨rfl, K9⟩
  have K : KN h9 [(1, .inl (8, [.ref 2, .int ln, .int (nI e), .int (nI R.2.2.1.1), .int R.2.2.1.2.1, .int R.2.2.1.2.2.1, .long R.2.2.1.2.2.2.1, .int R.2.2.1.2.2.2.2])), (2, .inr (.inl (1, l))), (3, .inl (4, [.ref 1, .ref 343, .int R.2.1.1, .int R.2.1.2])), (343, .inl (2, [.int (nI ns), .ref 344, .ref 345, .ref 346, .ref 347, .int (nI nt), .ref 348, .ref 349, .ref 350, .ref 351, .ref 352, .ref 353, .ref 354, .int ce, .ref 355, .ref 356, .ref 357, .ref 358])), (344, .inr (.inr (.inl sn))), (348, .inr (.inr (.inl tn))), (349, .inr (.inl (0, si))), (350, .inr (.inl (0, fr))), (351, .inr (.inl (0, to))), (352, .inr (.inl (0, st))), (353, .inr (.inl (0, R.2.2.2.1))), (354, .inr (.inl (0, R.2.2.2.2)))] h0 := K.go K9 rfl rfl rfl
  clear K9
  show j_W jP _ 37 158 [(1, .int (nI nt)), (0, .ref 3)] [.int (bif R.1 then 1 else 0)] h9 _
  clear hR
  obtain ⟨R1, R2, R3, R4, R5⟩ := R
  cases R1 with
  | true =>
    have K : KN h9 [(1, .inl (8, [.ref 2, .int ln, .int (nI e), .int (nI R3.1), .int R3.2.1, .int R3.2.2.1, .long R3.2.2.2.1, .int R3.2.2.2.2])), (2, .inr (.inl (1, l))), (3, .inl (4, [.ref 1, .ref 343, .int R2.1, .int R2.2])), (343, .inl (2, [.int (nI ns), .ref 344, .ref 345, .ref 346, .ref 347, .int (nI nt), .ref 348, .ref 349, .ref 350, .ref 351, .ref 352, .ref 353, .ref 354, .int ce, .ref 355, .ref 356, .ref 357, .ref 358])), (344, .inr (.inr (.inl sn))), (348, .inr (.inr (.inl tn))), (349, .inr (.inl (0, si))), (350, .inr (.inl (0, fr))), (351, .inr (.inl (0, to))), (352, .inr (.inl (0, st))), (353, .inr (.inl (0, R4))), (354, .inr (.inl (0, R5)))] h0 := K
    show j_W jP _ 37 158 [(1, .int (nI nt)), (0, .ref 3)] [.int 1] h9 _
    refine j_W.ifc xv_M xv_158 (t := 163) rfl (fun c => ?_) (fun c => ?_)
    · clear c
      refine j_W.one xv_M xv_163 (by decide) (pcJ := 164) (stJ := [.ref 3]) rfl ?_
      refine j_W.getK xv_M xv_164 (ci := 4) (j := 1) rfl K rfl rfl ?_
      refine j_W.one xv_M xv_167 (by decide) (pcJ := 168) (stJ := [.ref 343, .ref 343]) rfl ?_
      refine j_W.getK xv_M xv_168 (ci := 2) (j := 5) rfl K rfl rfl ?_
      refine j_W.one xv_M xv_171 (by decide) (pcJ := 172) (stJ := [.int 1, .int (nI nt), .ref 343]) rfl ?_
      refine j_W.one xv_M xv_172 (by decide) (pcJ := 173) (stJ := [.int ((nI nt) + 1), .ref 343]) rfl ?_
      refine j_W.putK xv_M xv_173 (ci := 2) (j := 5) (k' := [(1, .inl (8, [.ref 2, .int ln, .int (nI e), .int (nI R3.1), .int R3.2.1, .int R3.2.2.1, .long R3.2.2.2.1, .int R3.2.2.2.2])), (2, .inr (.inl (1, l))), (3, .inl (4, [.ref 1, .ref 343, .int R2.1, .int R2.2])), (343, .inl (2, [.int (nI ns), .ref 344, .ref 345, .ref 346, .ref 347, .int ((nI nt) + 1), .ref 348, .ref 349, .ref 350, .ref 351, .ref 352, .ref 353, .ref 354, .int ce, .ref 355, .ref 356, .ref 357, .ref 358])), (344, .inr (.inr (.inl sn))), (348, .inr (.inr (.inl tn))), (349, .inr (.inl (0, si))), (350, .inr (.inl (0, fr))), (351, .inr (.inl (0, to))), (352, .inr (.inl (0, st))), (353, .inr (.inl (0, R4))), (354, .inr (.inl (0, R5)))]) rfl K rfl (Nat.le_of_ble_eq_true rfl) rfl (Or.inl rfl) rfl rfl (fun h K => ?_)
      refine j_W.one xv_M xv_176 (by decide) (pcJ := 177) (stJ := [.int 1]) rfl ?_
      refine j_W.ret xv_M xv_177 rfl rfl ⟨rfl, ?_⟩
      rw [← nI_succ] at K
      exact K
    · cases c
  | false =>
    have K : KN h9 [(1, .inl (8, [.ref 2, .int ln, .int (nI e), .int (nI R3.1), .int R3.2.1, .int R3.2.2.1, .long R3.2.2.2.1, .int R3.2.2.2.2])), (2, .inr (.inl (1, l))), (3, .inl (4, [.ref 1, .ref 343, .int R2.1, .int R2.2])), (343, .inl (2, [.int (nI ns), .ref 344, .ref 345, .ref 346, .ref 347, .int (nI nt), .ref 348, .ref 349, .ref 350, .ref 351, .ref 352, .ref 353, .ref 354, .int ce, .ref 355, .ref 356, .ref 357, .ref 358])), (344, .inr (.inr (.inl sn))), (348, .inr (.inr (.inl tn))), (349, .inr (.inl (0, si))), (350, .inr (.inl (0, fr))), (351, .inr (.inl (0, to))), (352, .inr (.inl (0, st))), (353, .inr (.inl (0, R4))), (354, .inr (.inl (0, R5)))] h0 := K
    show j_W jP _ 37 158 [(1, .int (nI nt)), (0, .ref 3)] [.int 0] h9 _
    refine j_W.ifc xv_M xv_158 (t := 163) rfl (fun c => ?_) (fun c => ?_)
    · cases c
    · refine j_W.one xv_M xv_161 (by decide) (pcJ := 162) (stJ := [.int 0]) rfl ?_
      refine j_W.ret xv_M xv_162 rfl rfl ⟨rfl, K⟩
theorem xv_sB {ln pa ce : Int32} {e ns nt : Nat} {l : List Int32} {h h0 : J_H} {d : Nat} {z : rK} {sn tn : List Int64} {si fr to st sl we : List Int32} (hl : l.length = 700) (he : e ≤ 700) (hp : z.1 ≤ e) (ht : nt < 5) (h1 : sn.length = 7) (hn : ns ≤ 7) (g0 : tn.length = 5) (g1 : si.length = 5) (g2 : fr.length = 5) (g3 : to.length = 5) (g4 : st.length = 5) (g5 : sl.length = 5) (g6 : we.length = 5) (K : KN h [(1, .inl (8, [.ref 2, .int ln, .int (nI e), .int (nI z.1), .int z.2.1, .int z.2.2.1, .long z.2.2.2.1, .int z.2.2.2.2])), (2, .inr (.inl (1, l))), (3, .inl (4, [.ref 1, .ref 343, .int 0, .int pa])), (343, .inl (2, [.int (nI ns), .ref 344, .ref 345, .ref 346, .ref 347, .int (nI nt), .ref 348, .ref 349, .ref 350, .ref 351, .ref 352, .ref 353, .ref 354, .int ce, .ref 355, .ref 356, .ref 357, .ref 358])), (344, .inr (.inr (.inl sn))), (348, .inr (.inr (.inl tn))), (349, .inr (.inl (0, si))), (350, .inr (.inl (0, fr))), (351, .inr (.inl (0, to))), (352, .inr (.inl (0, st))), (353, .inr (.inl (0, sl))), (354, .inr (.inl (0, we)))] h0) : j_W jP (d + 1 + 1 + 1 + 1) 37 124 [(1, .int (nI nt)), (0, .ref 3)] [] h (PVB ln ce e ns l sn h0 (trS l e nt pa z tn si fr to st sl we)) := by
  unfold trS
  refine j_W.one xv_M xv_124 (by decide) (pcJ := 125) (stJ := [.ref 3]) rfl ?_
  refine j_W.one xv_M xv_125 (by decide) (pcJ := 126) (stJ := [.int 0, .ref 3]) rfl ?_
  refine j_W.one xv_M xv_126 (by decide) (pcJ := 129) (stJ := [.int 199, .int 0, .ref 3]) rfl ?_
  refine j_W.call xv_M xv_129 rfl (md := 3) (mj := 39) rfl (by decide) xt_M (As := [.ref 3, .int 0, .int 199]) (rest := []) (jk_spl3 (K.at rfl) rfl rfl rfl (Nat.le_of_ble_eq_true rfl) (Nat.le_of_ble_eq_true rfl)) (xt_ok hl he hp (K.sub ⟨rfl, rfl, rfl, trivial⟩)) ?_
  rintro r h9 ⟨rfl, K9⟩
  have K : KN h9 [(1, .inl (8, [.ref 2, .int ln, .int (nI e), .int (nI (aT l e z).1), .int (aT l e z).2.1, .int (aT l e z).2.2.1, .long (aT l e z).2.2.2.1, .int (aT l e z).2.2.2.2])), (2, .inr (.inl (1, l))), (3, .inl (4, [.ref 1, .ref 343, .int (bif nOk (aT l e z).2.1 (aT l e z).2.2.2.2 0 199 then 0 else nF (aT l e z).2.1), .int (bif nOk (aT l e z).2.1 (aT l e z).2.2.2.2 0 199 then pa else (aT l e z).2.2.1)])), (343, .inl (2, [.int (nI ns), .ref 344, .ref 345, .ref 346, .ref 347, .int (nI nt), .ref 348, .ref 349, .ref 350, .ref 351, .ref 352, .ref 353, .ref 354, .int ce, .ref 355, .ref 356, .ref 357, .ref 358])), (344, .inr (.inr (.inl sn))), (348, .inr (.inr (.inl tn))), (349, .inr (.inl (0, si))), (350, .inr (.inl (0, fr))), (351, .inr (.inl (0, to))), (352, .inr (.inl (0, st))), (353, .inr (.inl (0, sl))), (354, .inr (.inl (0, we)))] h0 := K.go K9 rfl rfl rfl
  clear K9
  show j_W jP _ 37 132 [(1, .int (nI nt)), (0, .ref 3)] [.int (bif nOk (aT l e z).2.1 (aT l e z).2.2.2.2 0 199 then 1 else 0)] h9 _
  cases hb : nOk (aT l e z).2.1 (aT l e z).2.2.2.2 0 199 with
  | true =>
    rw [hb] at K
    have K : KN h9 [(1, .inl (8, [.ref 2, .int ln, .int (nI e), .int (nI (aT l e z).1), .int (aT l e z).2.1, .int (aT l e z).2.2.1, .long (aT l e z).2.2.2.1, .int (aT l e z).2.2.2.2])), (2, .inr (.inl (1, l))), (3, .inl (4, [.ref 1, .ref 343, .int 0, .int pa])), (343, .inl (2, [.int (nI ns), .ref 344, .ref 345, .ref 346, .ref 347, .int (nI nt), .ref 348, .ref 349, .ref 350, .ref 351, .ref 352, .ref 353, .ref 354, .int ce, .ref 355, .ref 356, .ref 357, .ref 358])), (344, .inr (.inr (.inl sn))), (348, .inr (.inr (.inl tn))), (349, .inr (.inl (0, si))), (350, .inr (.inl (0, fr))), (351, .inr (.inl (0, to))), (352, .inr (.inl (0, st))), (353, .inr (.inl (0, sl))), (354, .inr (.inl (0, we)))] h0 := K
    show j_W jP _ 37 132 [(1, .int (nI nt)), (0, .ref 3)] [.int 1] h9 _
    refine j_W.ifc xv_M xv_132 (t := 137) rfl (fun c => ?_) (fun c => ?_)
    · clear c
      refine j_W.one xv_M xv_137 (by decide) (pcJ := 138) (stJ := [.ref 3]) rfl ?_
      refine j_W.getK xv_M xv_138 (ci := 4) (j := 1) rfl K rfl rfl ?_
      refine j_W.getK xv_M xv_141 (ci := 2) (j := 10) rfl K rfl rfl ?_
      refine j_W.one xv_M xv_144 (by decide) (pcJ := 145) (stJ := [.int (nI nt), .ref 352]) rfl ?_
      refine j_W.one xv_M xv_145 (by decide) (pcJ := 146) (stJ := [.ref 3, .int (nI nt), .ref 352]) rfl ?_
      refine j_W.getK xv_M xv_146 (ci := 4) (j := 0) rfl K rfl rfl ?_
      refine j_W.getK xv_M xv_149 (ci := 8) (j := 7) rfl K rfl rfl ?_
      refine j_W.iastK xv_M xv_152 (n := nt) (k' := [(1, .inl (8, [.ref 2, .int ln, .int (nI e), .int (nI (aT l e z).1), .int (aT l e z).2.1, .int (aT l e z).2.2.1, .long (aT l e z).2.2.2.1, .int (aT l e z).2.2.2.2])), (2, .inr (.inl (1, l))), (3, .inl (4, [.ref 1, .ref 343, .int 0, .int pa])), (343, .inl (2, [.int (nI ns), .ref 344, .ref 345, .ref 346, .ref 347, .int (nI nt), .ref 348, .ref 349, .ref 350, .ref 351, .ref 352, .ref 353, .ref 354, .int ce, .ref 355, .ref 356, .ref 357, .ref 358])), (344, .inr (.inr (.inl sn))), (348, .inr (.inr (.inl tn))), (349, .inr (.inl (0, si))), (350, .inr (.inl (0, fr))), (351, .inr (.inl (0, to))), (352, .inr (.inl (0, (st.set nt (aT l e z).2.2.2.2)))), (353, .inr (.inl (0, sl))), (354, .inr (.inl (0, we)))]) K rfl (by omega) (by omega) rfl (fun h K => ?_)
      exact xv_mB hl he (tkN_le hp) ht h1 hn g0 g1 g2 g3 (by simp [g4]) g5 g6 K
    · cases c
  | false =>
    rw [hb] at K
    have K : KN h9 [(1, .inl (8, [.ref 2, .int ln, .int (nI e), .int (nI (aT l e z).1), .int (aT l e z).2.1, .int (aT l e z).2.2.1, .long (aT l e z).2.2.2.1, .int (aT l e z).2.2.2.2])), (2, .inr (.inl (1, l))), (3, .inl (4, [.ref 1, .ref 343, .int (nF (aT l e z).2.1), .int (aT l e z).2.2.1])), (343, .inl (2, [.int (nI ns), .ref 344, .ref 345, .ref 346, .ref 347, .int (nI nt), .ref 348, .ref 349, .ref 350, .ref 351, .ref 352, .ref 353, .ref 354, .int ce, .ref 355, .ref 356, .ref 357, .ref 358])), (344, .inr (.inr (.inl sn))), (348, .inr (.inr (.inl tn))), (349, .inr (.inl (0, si))), (350, .inr (.inl (0, fr))), (351, .inr (.inl (0, to))), (352, .inr (.inl (0, st))), (353, .inr (.inl (0, sl))), (354, .inr (.inl (0, we)))] h0 := K
    show j_W jP _ 37 132 [(1, .int (nI nt)), (0, .ref 3)] [.int 0] h9 _
    refine j_W.ifc xv_M xv_132 (t := 137) rfl (fun c => ?_) (fun c => ?_)
    · cases c
    · refine j_W.one xv_M xv_135 (by decide) (pcJ := 136) (stJ := [.int 0]) rfl ?_
      refine j_W.ret xv_M xv_136 rfl rfl ⟨rfl, K⟩
theorem xv_oB {ln pa ce u : Int32} {e ns nt : Nat} {l : List Int32} {h h0 : J_H} {d : Nat} {z : rK} {sn tn : List Int64} {si fr to st sl we : List Int32} (hl : l.length = 700) (he : e ≤ 700) (hp : z.1 ≤ e) (ht : nt < 5) (h1 : sn.length = 7) (hn : ns ≤ 7) (g0 : tn.length = 5) (g1 : si.length = 5) (g2 : fr.length = 5) (g3 : to.length = 5) (g4 : st.length = 5) (g5 : sl.length = 5) (g6 : we.length = 5) (hu : fr.getD nt 0 = u) (K : KN h [(1, .inl (8, [.ref 2, .int ln, .int (nI e), .int (nI z.1), .int z.2.1, .int z.2.2.1, .long z.2.2.2.1, .int z.2.2.2.2])), (2, .inr (.inl (1, l))), (3, .inl (4, [.ref 1, .ref 343, .int 0, .int pa])), (343, .inl (2, [.int (nI ns), .ref 344, .ref 345, .ref 346, .ref 347, .int (nI nt), .ref 348, .ref 349, .ref 350, .ref 351, .ref 352, .ref 353, .ref 354, .int ce, .ref 355, .ref 356, .ref 357, .ref 358])), (344, .inr (.inr (.inl sn))), (348, .inr (.inr (.inl tn))), (349, .inr (.inl (0, si))), (350, .inr (.inl (0, fr))), (351, .inr (.inl (0, to))), (352, .inr (.inl (0, st))), (353, .inr (.inl (0, sl))), (354, .inr (.inl (0, we)))] h0) : j_W jP (d + 1 + 1 + 1 + 1) 37 95 [(1, .int (nI nt)), (0, .ref 3)] [] h (PVB ln ce e ns l sn h0 (trO l e ns nt sn pa z u tn si fr to st sl we)) := by
  unfold trO
  refine j_W.one xv_M xv_95 (by decide) (pcJ := 96) (stJ := [.ref 3]) rfl ?_
  refine j_W.getK xv_M xv_96 (ci := 4) (j := 1) rfl K rfl rfl ?_
  refine j_W.getK xv_M xv_99 (ci := 2) (j := 9) rfl K rfl rfl ?_
  refine j_W.one xv_M xv_102 (by decide) (pcJ := 103) (stJ := [.int (nI nt), .ref 351]) rfl ?_
  refine j_W.one xv_M xv_103 (by decide) (pcJ := 104) (stJ := [.ref 3, .int (nI nt), .ref 351]) rfl ?_
  refine j_W.one xv_M xv_104 (by decide) (pcJ := 105) (stJ := [.ref 3, .ref 3, .int (nI nt), .ref 351]) rfl ?_
  refine j_W.getK xv_M xv_105 (ci := 4) (j := 1) rfl K rfl rfl ?_
  refine j_W.getK xv_M xv_108 (ci := 2) (j := 8) rfl K rfl rfl ?_
  refine j_W.one xv_M xv_111 (by decide) (pcJ := 112) (stJ := [.int (nI nt), .ref 350, .ref 3, .int (nI nt), .ref 351]) rfl ?_
  refine j_W.ialdK xv_M xv_112 K rfl (n := nt) (by omega) (by omega) ?_
  rw [hu]
  refine j_W.call xv_M xv_113 rfl (md := 3) (mj := 43) rfl (by decide) xu_M (As := [.ref 3, .int u]) (rest := [.int (nI nt), .ref 351]) (jk_spl3 (K.at rfl) rfl rfl rfl (Nat.le_of_ble_eq_true rfl) (Nat.le_of_ble_eq_true rfl)) (xu_okB hl he hp h1 hn (K.sub ⟨rfl, rfl, rfl, rfl, rfl, trivial⟩)) ?_
  rintro r h9 ⟨rfl, K9⟩
  have K : KN h9 [(1, .inl (8, [.ref 2, .int ln, .int (nI e), .int (nI (aT l e z).1), .int (aT l e z).2.1, .int (aT l e z).2.2.1, .long (aT l e z).2.2.2.1, .int (aT l e z).2.2.2.2])), (2, .inr (.inl (1, l))), (3, .inl (4, [.ref 1, .ref 343, .int (bif uOk (aT l e z).2.1 (aT l e z).2.2.2.1 sn ns u then 0 else uF (aT l e z).2.1 (aT l e z).2.2.2.1), .int (bif uOk (aT l e z).2.1 (aT l e z).2.2.2.1 sn ns u then pa else (aT l e z).2.2.1)])), (343, .inl (2, [.int (nI ns), .ref 344, .ref 345, .ref 346, .ref 347, .int (nI nt), .ref 348, .ref 349, .ref 350, .ref 351, .ref 352, .ref 353, .ref 354, .int ce, .ref 355, .ref 356, .ref 357, .ref 358])), (344, .inr (.inr (.inl sn))), (348, .inr (.inr (.inl tn))), (349, .inr (.inl (0, si))), (350, .inr (.inl (0, fr))), (351, .inr (.inl (0, to))), (352, .inr (.inl (0, st))), (353, .inr (.inl (0, sl))), (354, .inr (.inl (0, we)))] h0 := K.go K9 rfl rfl rfl
  clear K9
  show j_W jP _ 37 116 [(1, .int (nI nt)), (0, .ref 3)] [.int (bif uOk (aT l e z).2.1 (aT l e z).2.2.2.1 sn ns u then (sIx sn (aT l e z).2.2.2.1 ns 0) else (-1)), .int (nI nt), .ref 351] h9 _
  cases hb : uOk (aT l e z).2.1 (aT l e z).2.2.2.1 sn ns u with
  | true =>
    rw [cond_true, cond_true]
    rw [hb] at K
    have K : KN h9 [(1, .inl (8, [.ref 2, .int ln, .int (nI e), .int (nI (aT l e z).1), .int (aT l e z).2.1, .int (aT l e z).2.2.1, .long (aT l e z).2.2.2.1, .int (aT l e z).2.2.2.2])), (2, .inr (.inl (1, l))), (3, .inl (4, [.ref 1, .ref 343, .int 0, .int pa])), (343, .inl (2, [.int (nI ns), .ref 344, .ref 345, .ref 346, .ref 347, .int (nI nt), .ref 348, .ref 349, .ref 350, .ref 351, .ref 352, .ref 353, .ref 354, .int ce, .ref 355, .ref 356, .ref 357, .ref 358])), (344, .inr (.inr (.inl sn))), (348, .inr (.inr (.inl tn))), (349, .inr (.inl (0, si))), (350, .inr (.inl (0, fr))), (351, .inr (.inl (0, to))), (352, .inr (.inl (0, st))), (353, .inr (.inl (0, sl))), (354, .inr (.inl (0, we)))] h0 := K
    show j_W jP _ 37 116 [(1, .int (nI nt)), (0, .ref 3)] [.int (sIx sn (aT l e z).2.2.2.1 ns 0), .int (nI nt), .ref 351] h9 _
    refine j_W.iastK xv_M xv_116 (n := nt) (k' := [(1, .inl (8, [.ref 2, .int ln, .int (nI e), .int (nI (aT l e z).1), .int (aT l e z).2.1, .int (aT l e z).2.2.1, .long (aT l e z).2.2.2.1, .int (aT l e z).2.2.2.2])), (2, .inr (.inl (1, l))), (3, .inl (4, [.ref 1, .ref 343, .int 0, .int pa])), (343, .inl (2, [.int (nI ns), .ref 344, .ref 345, .ref 346, .ref 347, .int (nI nt), .ref 348, .ref 349, .ref 350, .ref 351, .ref 352, .ref 353, .ref 354, .int ce, .ref 355, .ref 356, .ref 357, .ref 358])), (344, .inr (.inr (.inl sn))), (348, .inr (.inr (.inl tn))), (349, .inr (.inl (0, si))), (350, .inr (.inl (0, fr))), (351, .inr (.inl (0, (to.set nt (sIx sn (aT l e z).2.2.2.1 ns 0))))), (352, .inr (.inl (0, st))), (353, .inr (.inl (0, sl))), (354, .inr (.inl (0, we)))]) K rfl (by omega) (by omega) rfl (fun h K => ?_)
    refine j_W.one xv_M xv_117 (by decide) (pcJ := 118) (stJ := [.ref 3]) rfl ?_
    refine j_W.getK xv_M xv_118 (ci := 4) (j := 2) rfl K rfl rfl ?_
    refine j_W.ifc xv_M xv_121 (t := 135) rfl (fun c => ?_) (fun c => ?_)
    · exact absurd c (by decide)
    · clear c
      exact xv_sB hl he (tkN_le hp) ht h1 hn g0 g1 g2 (by simp [g3]) g4 g5 g6 K
  | false =>
    rw [cond_false, cond_false]
    rw [hb] at K
    have K : KN h9 [(1, .inl (8, [.ref 2, .int ln, .int (nI e), .int (nI (aT l e z).1), .int (aT l e z).2.1, .int (aT l e z).2.2.1, .long (aT l e z).2.2.2.1, .int (aT l e z).2.2.2.2])), (2, .inr (.inl (1, l))), (3, .inl (4, [.ref 1, .ref 343, .int (uF (aT l e z).2.1 (aT l e z).2.2.2.1), .int (aT l e z).2.2.1])), (343, .inl (2, [.int (nI ns), .ref 344, .ref 345, .ref 346, .ref 347, .int (nI nt), .ref 348, .ref 349, .ref 350, .ref 351, .ref 352, .ref 353, .ref 354, .int ce, .ref 355, .ref 356, .ref 357, .ref 358])), (344, .inr (.inr (.inl sn))), (348, .inr (.inr (.inl tn))), (349, .inr (.inl (0, si))), (350, .inr (.inl (0, fr))), (351, .inr (.inl (0, to))), (352, .inr (.inl (0, st))), (353, .inr (.inl (0, sl))), (354, .inr (.inl (0, we)))] h0 := K
    show j_W jP _ 37 116 [(1, .int (nI nt)), (0, .ref 3)] [.int (-1), .int (nI nt), .ref 351] h9 _
    refine j_W.iastK xv_M xv_116 (n := nt) (k' := [(1, .inl (8, [.ref 2, .int ln, .int (nI e), .int (nI (aT l e z).1), .int (aT l e z).2.1, .int (aT l e z).2.2.1, .long (aT l e z).2.2.2.1, .int (aT l e z).2.2.2.2])), (2, .inr (.inl (1, l))), (3, .inl (4, [.ref 1, .ref 343, .int (uF (aT l e z).2.1 (aT l e z).2.2.2.1), .int (aT l e z).2.2.1])), (343, .inl (2, [.int (nI ns), .ref 344, .ref 345, .ref 346, .ref 347, .int (nI nt), .ref 348, .ref 349, .ref 350, .ref 351, .ref 352, .ref 353, .ref 354, .int ce, .ref 355, .ref 356, .ref 357, .ref 358])), (344, .inr (.inr (.inl sn))), (348, .inr (.inr (.inl tn))), (349, .inr (.inl (0, si))), (350, .inr (.inl (0, fr))), (351, .inr (.inl (0, (to.set nt (-1))))), (352, .inr (.inl (0, st))), (353, .inr (.inl (0, sl))), (354, .inr (.inl (0, we)))]) K rfl (by omega) (by omega) rfl (fun h K => ?_)
    refine j_W.one xv_M xv_117 (by decide) (pcJ := 118) (stJ := [.ref 3]) rfl ?_
    refine j_W.getK xv_M xv_118 (ci := 4) (j := 2) rfl K rfl rfl ?_
    refine j_W.ifc xv_M xv_121 (t := 135) rfl (fun c => ?_) (fun c => ?_)
    · clear c
      refine j_W.one xv_M xv_135 (by decide) (pcJ := 136) (stJ := [.int 0]) rfl ?_
      refine j_W.ret xv_M xv_136 rfl rfl ⟨rfl, K⟩
    · exact absurd c (by simp [j_cond, uF_ne])
theorem xv_gB {ln pa ce u : Int32} {e ns nt : Nat} {l : List Int32} {h h0 : J_H} {d : Nat} {z : rK} {sn tn : List Int64} {si fr to st sl we : List Int32} (hl : l.length = 700) (he : e ≤ 700) (hp : z.1 ≤ e) (ht : nt < 5) (h1 : sn.length = 7) (hn : ns ≤ 7) (g0 : tn.length = 5) (g1 : si.length = 5) (g2 : fr.length = 5) (g3 : to.length = 5) (g4 : st.length = 5) (g5 : sl.length = 5) (g6 : we.length = 5) (K : KN h [(1, .inl (8, [.ref 2, .int ln, .int (nI e), .int (nI z.1), .int z.2.1, .int z.2.2.1, .long z.2.2.2.1, .int z.2.2.2.2])), (2, .inr (.inl (1, l))), (3, .inl (4, [.ref 1, .ref 343, .int 0, .int pa])), (343, .inl (2, [.int (nI ns), .ref 344, .ref 345, .ref 346, .ref 347, .int (nI nt), .ref 348, .ref 349, .ref 350, .ref 351, .ref 352, .ref 353, .ref 354, .int ce, .ref 355, .ref 356, .ref 357, .ref 358])), (344, .inr (.inr (.inl sn))), (348, .inr (.inr (.inl tn))), (349, .inr (.inl (0, si))), (350, .inr (.inl (0, fr))), (351, .inr (.inl (0, to))), (352, .inr (.inl (0, st))), (353, .inr (.inl (0, sl))), (354, .inr (.inl (0, we)))] h0) : j_W jP (d + 1 + 1 + 1 + 1) 37 82 [(1, .int (nI nt)), (0, .ref 3)] [.int u, .ref 3, .int (nI nt), .ref 350] h (PVB ln ce e ns l sn h0 (trG u l e ns nt sn pa z tn si fr to st sl we)) := by
  unfold trG
  refine j_W.call xv_M xv_82 rfl (md := 3) (mj := 43) rfl (by decide) xu_M (As := [.ref 3, .int u]) (rest := [.int (nI nt), .ref 350]) (jk_spl3 (K.at rfl) rfl rfl rfl (Nat.le_of_ble_eq_true rfl) (Nat.le_of_ble_eq_true rfl)) (xu_okB hl he hp h1 hn (K.sub ⟨rfl, rfl, rfl, rfl, rfl, trivial⟩)) ?_
  rintro r h9 ⟨rfl, K9⟩
  have K : KN h9 [(1, .inl (8, [.ref 2, .int ln, .int (nI e), .int (nI (aT l e z).1), .int (aT l e z).2.1, .int (aT l e z).2.2.1, .long (aT l e z).2.2.2.1, .int (aT l e z).2.2.2.2])), (2, .inr (.inl (1, l))), (3, .inl (4, [.ref 1, .ref 343, .int (bif uOk (aT l e z).2.1 (aT l e z).2.2.2.1 sn ns u then 0 else uF (aT l e z).2.1 (aT l e z).2.2.2.1), .int (bif uOk (aT l e z).2.1 (aT l e z).2.2.2.1 sn ns u then pa else (aT l e z).2.2.1)])), (343, .inl (2, [.int (nI ns), .ref 344, .ref 345, .ref 346, .ref 347, .int (nI nt), .ref 348, .ref 349, .ref 350, .ref 351, .ref 352, .ref 353, .ref 354, .int ce, .ref 355, .ref 356, .ref 357, .ref 358])), (344, .inr (.inr (.inl sn))), (348, .inr (.inr (.inl tn))), (349, .inr (.inl (0, si))), (350, .inr (.inl (0, fr))), (351, .inr (.inl (0, to))), (352, .inr (.inl (0, st))), (353, .inr (.inl (0, sl))), (354, .inr (.inl (0, we)))] h0 := K.go K9 rfl rfl rfl
  clear K9
  show j_W jP _ 37 85 [(1, .int (nI nt)), (0, .ref 3)] [.int (bif uOk (aT l e z).2.1 (aT l e z).2.2.2.1 sn ns u then (sIx sn (aT l e z).2.2.2.1 ns 0) else (-1)), .int (nI nt), .ref 350] h9 _
  cases hb : uOk (aT l e z).2.1 (aT l e z).2.2.2.1 sn ns u with
  | true =>
    rw [cond_true, cond_true]
    rw [hb] at K
    have K : KN h9 [(1, .inl (8, [.ref 2, .int ln, .int (nI e), .int (nI (aT l e z).1), .int (aT l e z).2.1, .int (aT l e z).2.2.1, .long (aT l e z).2.2.2.1, .int (aT l e z).2.2.2.2])), (2, .inr (.inl (1, l))), (3, .inl (4, [.ref 1, .ref 343, .int 0, .int pa])), (343, .inl (2, [.int (nI ns), .ref 344, .ref 345, .ref 346, .ref 347, .int (nI nt), .ref 348, .ref 349, .ref 350, .ref 351, .ref 352, .ref 353, .ref 354, .int ce, .ref 355, .ref 356, .ref 357, .ref 358])), (344, .inr (.inr (.inl sn))), (348, .inr (.inr (.inl tn))), (349, .inr (.inl (0, si))), (350, .inr (.inl (0, fr))), (351, .inr (.inl (0, to))), (352, .inr (.inl (0, st))), (353, .inr (.inl (0, sl))), (354, .inr (.inl (0, we)))] h0 := K
    show j_W jP _ 37 85 [(1, .int (nI nt)), (0, .ref 3)] [.int (sIx sn (aT l e z).2.2.2.1 ns 0), .int (nI nt), .ref 350] h9 _
    refine j_W.iastK xv_M xv_85 (n := nt) (k' := [(1, .inl (8, [.ref 2, .int ln, .int (nI e), .int (nI (aT l e z).1), .int (aT l e z).2.1, .int (aT l e z).2.2.1, .long (aT l e z).2.2.2.1, .int (aT l e z).2.2.2.2])), (2, .inr (.inl (1, l))), (3, .inl (4, [.ref 1, .ref 343, .int 0, .int pa])), (343, .inl (2, [.int (nI ns), .ref 344, .ref 345, .ref 346, .ref 347, .int (nI nt), .ref 348, .ref 349, .ref 350, .ref 351, .ref 352, .ref 353, .ref 354, .int ce, .ref 355, .ref 356, .ref 357, .ref 358])), (344, .inr (.inr (.inl sn))), (348, .inr (.inr (.inl tn))), (349, .inr (.inl (0, si))), (350, .inr (.inl (0, (fr.set nt (sIx sn (aT l e z).2.2.2.1 ns 0))))), (351, .inr (.inl (0, to))), (352, .inr (.inl (0, st))), (353, .inr (.inl (0, sl))), (354, .inr (.inl (0, we)))]) K rfl (by omega) (by omega) rfl (fun h K => ?_)
    refine j_W.one xv_M xv_86 (by decide) (pcJ := 87) (stJ := [.ref 3]) rfl ?_
    refine j_W.getK xv_M xv_87 (ci := 4) (j := 2) rfl K rfl rfl ?_
    refine j_W.ifc xv_M xv_90 (t := 95) rfl (fun c => ?_) (fun c => ?_)
    · clear c
      exact xv_oB hl he (tkN_le hp) ht h1 hn g0 g1 (by simp [g2]) g3 g4 g5 g6 (jk_gs _ _ _ _ (by omega)) K
    · exact absurd c (by decide)
  | false =>
    rw [cond_false, cond_false]
    rw [hb] at K
    have K : KN h9 [(1, .inl (8, [.ref 2, .int ln, .int (nI e), .int (nI (aT l e z).1), .int (aT l e z).2.1, .int (aT l e z).2.2.1, .long (aT l e z).2.2.2.1, .int (aT l e z).2.2.2.2])), (2, .inr (.inl (1, l))), (3, .inl (4, [.ref 1, .ref 343, .int (uF (aT l e z).2.1 (aT l e z).2.2.2.1), .int (aT l e z).2.2.1])), (343, .inl (2, [.int (nI ns), .ref 344, .ref 345, .ref 346, .ref 347, .int (nI nt), .ref 348, .ref 349, .ref 350, .ref 351, .ref 352, .ref 353, .ref 354, .int ce, .ref 355, .ref 356, .ref 357, .ref 358])), (344, .inr (.inr (.inl sn))), (348, .inr (.inr (.inl tn))), (349, .inr (.inl (0, si))), (350, .inr (.inl (0, fr))), (351, .inr (.inl (0, to))), (352, .inr (.inl (0, st))), (353, .inr (.inl (0, sl))), (354, .inr (.inl (0, we)))] h0 := K
    show j_W jP _ 37 85 [(1, .int (nI nt)), (0, .ref 3)] [.int (-1), .int (nI nt), .ref 350] h9 _
    refine j_W.iastK xv_M xv_85 (n := nt) (k' := [(1, .inl (8, [.ref 2, .int ln, .int (nI e), .int (nI (aT l e z).1), .int (aT l e z).2.1, .int (aT l e z).2.2.1, .long (aT l e z).2.2.2.1, .int (aT l e z).2.2.2.2])), (2, .inr (.inl (1, l))), (3, .inl (4, [.ref 1, .ref 343, .int (uF (aT l e z).2.1 (aT l e z).2.2.2.1), .int (aT l e z).2.2.1])), (343, .inl (2, [.int (nI ns), .ref 344, .ref 345, .ref 346, .ref 347, .int (nI nt), .ref 348, .ref 349, .ref 350, .ref 351, .ref 352, .ref 353, .ref 354, .int ce, .ref 355, .ref 356, .ref 357, .ref 358])), (344, .inr (.inr (.inl sn))), (348, .inr (.inr (.inl tn))), (349, .inr (.inl (0, si))), (350, .inr (.inl (0, (fr.set nt (-1))))), (351, .inr (.inl (0, to))), (352, .inr (.inl (0, st))), (353, .inr (.inl (0, sl))), (354, .inr (.inl (0, we)))]) K rfl (by omega) (by omega) rfl (fun h K => ?_)
    refine j_W.one xv_M xv_86 (by decide) (pcJ := 87) (stJ := [.ref 3]) rfl ?_
    refine j_W.getK xv_M xv_87 (ci := 4) (j := 2) rfl K rfl rfl ?_
    refine j_W.ifc xv_M xv_90 (t := 95) rfl (fun c => ?_) (fun c => ?_)
    · exact absurd c (by simp [j_cond, uF_ne])
    · clear c
      refine j_W.one xv_M xv_93 (by decide) (pcJ := 94) (stJ := [.int 0]) rfl ?_
      refine j_W.ret xv_M xv_94 rfl rfl ⟨rfl, K⟩
theorem xv_fB {ln pa ce : Int32} {e ns nt : Nat} {l : List Int32} {h h0 : J_H} {d : Nat} {z : rK} {sn tn : List Int64} {si fr to st sl we : List Int32} (hl : l.length = 700) (he : e ≤ 700) (hp : z.1 ≤ e) (ht : nt < 5) (h1 : sn.length = 7) (hn : ns ≤ 7) (g0 : tn.length = 5) (g1 : si.length = 5) (g2 : fr.length = 5) (g3 : to.length = 5) (g4 : st.length = 5) (g5 : sl.length = 5) (g6 : we.length = 5) (K : KN h [(1, .inl (8, [.ref 2, .int ln, .int (nI e), .int (nI z.1), .int z.2.1, .int z.2.2.1, .long z.2.2.2.1, .int z.2.2.2.2])), (2, .inr (.inl (1, l))), (3, .inl (4, [.ref 1, .ref 343, .int 0, .int pa])), (343, .inl (2, [.int (nI ns), .ref 344, .ref 345, .ref 346, .ref 347, .int (nI nt), .ref 348, .ref 349, .ref 350, .ref 351, .ref 352, .ref 353, .ref 354, .int ce, .ref 355, .ref 356, .ref 357, .ref 358])), (344, .inr (.inr (.inl sn))), (348, .inr (.inr (.inl tn))), (349, .inr (.inl (0, si))), (350, .inr (.inl (0, fr))), (351, .inr (.inl (0, to))), (352, .inr (.inl (0, st))), (353, .inr (.inl (0, sl))), (354, .inr (.inl (0, we)))] h0) : j_W jP (d + 1 + 1 + 1 + 1) 37 72 [(1, .int (nI nt)), (0, .ref 3)] [] h (PVB ln ce e ns l sn h0 (trF l e ns nt sn pa z tn si fr to st sl we)) := by
  unfold trF
  refine j_W.one xv_M xv_72 (by decide) (pcJ := 73) (stJ := [.ref 3]) rfl ?_
  refine j_W.getK xv_M xv_73 (ci := 4) (j := 1) rfl K rfl rfl ?_
  refine j_W.getK xv_M xv_76 (ci := 2) (j := 8) rfl K rfl rfl ?_
  refine j_W.one xv_M xv_79 (by decide) (pcJ := 80) (stJ := [.int (nI nt), .ref 350]) rfl ?_
  refine j_W.one xv_M xv_80 (by decide) (pcJ := 81) (stJ := [.ref 3, .int (nI nt), .ref 350]) rfl ?_
  refine j_W.one xv_M xv_81 (by decide) (pcJ := 82) (stJ := [.int (-1), .ref 3, .int (nI nt), .ref 350]) rfl ?_
  exact xv_gB hl he hp ht h1 hn g0 g1 g2 g3 g4 g5 g6 K
theorem xv_zB {ln pa ce : Int32} {e ns nt : Nat} {l : List Int32} {h h0 : J_H} {d : Nat} {z : rK} {sn tn : List Int64} {si fr to st sl we : List Int32} (hl : l.length = 700) (he : e ≤ 700) (hp : z.1 ≤ e) (ht : nt < 5) (h1 : sn.length = 7) (hn : ns ≤ 7) (g0 : tn.length = 5) (g1 : si.length = 5) (g2 : fr.length = 5) (g3 : to.length = 5) (g4 : st.length = 5) (g5 : sl.length = 5) (g6 : we.length = 5) (K : KN h [(1, .inl (8, [.ref 2, .int ln, .int (nI e), .int (nI z.1), .int z.2.1, .int z.2.2.1, .long z.2.2.2.1, .int z.2.2.2.2])), (2, .inr (.inl (1, l))), (3, .inl (4, [.ref 1, .ref 343, .int 0, .int pa])), (343, .inl (2, [.int (nI ns), .ref 344, .ref 345, .ref 346, .ref 347, .int (nI nt), .ref 348, .ref 349, .ref 350, .ref 351, .ref 352, .ref 353, .ref 354, .int ce, .ref 355, .ref 356, .ref 357, .ref 358])), (344, .inr (.inr (.inl sn))), (348, .inr (.inr (.inl tn))), (349, .inr (.inl (0, si))), (350, .inr (.inl (0, fr))), (351, .inr (.inl (0, to))), (352, .inr (.inl (0, st))), (353, .inr (.inl (0, sl))), (354, .inr (.inl (0, we)))] h0) : j_W jP (d + 1 + 1 + 1 + 1) 37 44 [(1, .int (nI nt)), (0, .ref 3)] [] h (PVB ln ce e ns l sn h0 (trZ l e ns nt sn pa z tn si fr to st sl we)) := by
  unfold trZ
  refine j_W.one xv_M xv_44 (by decide) (pcJ := 45) (stJ := [.ref 3]) rfl ?_
  refine j_W.one xv_M xv_45 (by decide) (pcJ := 46) (stJ := [.int 1, .ref 3]) rfl ?_
  refine j_W.one xv_M xv_46 (by decide) (pcJ := 48) (stJ := [.int 99, .int 1, .ref 3]) rfl ?_
  refine j_W.call xv_M xv_48 rfl (md := 3) (mj := 39) rfl (by decide) xt_M (As := [.ref 3, .int 1, .int 99]) (rest := []) (jk_spl3 (K.at rfl) rfl rfl rfl (Nat.le_of_ble_eq_true rfl) (Nat.le_of_ble_eq_true rfl)) (xt_ok hl he hp (K.sub ⟨rfl, rfl, rfl, trivial⟩)) ?_
  rintro r h9 ⟨rfl, K9⟩
  have K : KN h9 [(1, .inl (8, [.ref 2, .int ln, .int (nI e), .int (nI (aT l e z).1), .int (aT l e z).2.1, .int (aT l e z).2.2.1, .long (aT l e z).2.2.2.1, .int (aT l e z).2.2.2.2])), (2, .inr (.inl (1, l))), (3, .inl (4, [.ref 1, .ref 343, .int (bif nOk (aT l e z).2.1 (aT l e z).2.2.2.2 1 99 then 0 else nF (aT l e z).2.1), .int (bif nOk (aT l e z).2.1 (aT l e z).2.2.2.2 1 99 then pa else (aT l e z).2.2.1)])), (343, .inl (2, [.int (nI ns), .ref 344, .ref 345, .ref 346, .ref 347, .int (nI nt), .ref 348, .ref 349, .ref 350, .ref 351, .ref 352, .ref 353, .ref 354, .int ce, .ref 355, .ref 356, .ref 357, .ref 358])), (344, .inr (.inr (.inl sn))), (348, .inr (.inr (.inl tn))), (349, .inr (.inl (0, si))), (350, .inr (.inl (0, fr))), (351, .inr (.inl (0, to))), (352, .inr (.inl (0, st))), (353, .inr (.inl (0, sl))), (354, .inr (.inl (0, we)))] h0 := K.go K9 rfl rfl rfl
  clear K9
  show j_W jP _ 37 51 [(1, .int (nI nt)), (0, .ref 3)] [.int (bif nOk (aT l e z).2.1 (aT l e z).2.2.2.2 1 99 then 1 else 0)] h9 _
  cases hb : nOk (aT l e z).2.1 (aT l e z).2.2.2.2 1 99 with
  | true =>
    rw [hb] at K
    have K : KN h9 [(1, .inl (8, [.ref 2, .int ln, .int (nI e), .int (nI (aT l e z).1), .int (aT l e z).2.1, .int (aT l e z).2.2.1, .long (aT l e z).2.2.2.1, .int (aT l e z).2.2.2.2])), (2, .inr (.inl (1, l))), (3, .inl (4, [.ref 1, .ref 343, .int 0, .int pa])), (343, .inl (2, [.int (nI ns), .ref 344, .ref 345, .ref 346, .ref 347, .int (nI nt), .ref 348, .ref 349, .ref 350, .ref 351, .ref 352, .ref 353, .ref 354, .int ce, .ref 355, .ref 356, .ref 357, .ref 358])), (344, .inr (.inr (.inl sn))), (348, .inr (.inr (.inl tn))), (349, .inr (.inl (0, si))), (350, .inr (.inl (0, fr))), (351, .inr (.inl (0, to))), (352, .inr (.inl (0, st))), (353, .inr (.inl (0, sl))), (354, .inr (.inl (0, we)))] h0 := K
    show j_W jP _ 37 51 [(1, .int (nI nt)), (0, .ref 3)] [.int 1] h9 _
    refine j_W.ifc xv_M xv_51 (t := 56) rfl (fun c => ?_) (fun c => ?_)
    · clear c
      refine j_W.one xv_M xv_56 (by decide) (pcJ := 57) (stJ := [.ref 3]) rfl ?_
      refine j_W.getK xv_M xv_57 (ci := 4) (j := 1) rfl K rfl rfl ?_
      refine j_W.getK xv_M xv_60 (ci := 2) (j := 7) rfl K rfl rfl ?_
      refine j_W.one xv_M xv_63 (by decide) (pcJ := 64) (stJ := [.int (nI nt), .ref 349]) rfl ?_
      refine j_W.one xv_M xv_64 (by decide) (pcJ := 65) (stJ := [.ref 3, .int (nI nt), .ref 349]) rfl ?_
      refine j_W.getK xv_M xv_65 (ci := 4) (j := 0) rfl K rfl rfl ?_
      refine j_W.getK xv_M xv_68 (ci := 8) (j := 7) rfl K rfl rfl ?_
      refine j_W.iastK xv_M xv_71 (n := nt) (k' := [(1, .inl (8, [.ref 2, .int ln, .int (nI e), .int (nI (aT l e z).1), .int (aT l e z).2.1, .int (aT l e z).2.2.1, .long (aT l e z).2.2.2.1, .int (aT l e z).2.2.2.2])), (2, .inr (.inl (1, l))), (3, .inl (4, [.ref 1, .ref 343, .int 0, .int pa])), (343, .inl (2, [.int (nI ns), .ref 344, .ref 345, .ref 346, .ref 347, .int (nI nt), .ref 348, .ref 349, .ref 350, .ref 351, .ref 352, .ref 353, .ref 354, .int ce, .ref 355, .ref 356, .ref 357, .ref 358])), (344, .inr (.inr (.inl sn))), (348, .inr (.inr (.inl tn))), (349, .inr (.inl (0, (si.set nt (aT l e z).2.2.2.2)))), (350, .inr (.inl (0, fr))), (351, .inr (.inl (0, to))), (352, .inr (.inl (0, st))), (353, .inr (.inl (0, sl))), (354, .inr (.inl (0, we)))]) K rfl (by omega) (by omega) rfl (fun h K => ?_)
      exact xv_fB hl he (tkN_le hp) ht h1 hn g0 (by simp [g1]) g2 g3 g4 g5 g6 K
    · cases c
  | false =>
    rw [hb] at K
    have K : KN h9 [(1, .inl (8, [.ref 2, .int ln, .int (nI e), .int (nI (aT l e z).1), .int (aT l e z).2.1, .int (aT l e z).2.2.1, .long (aT l e z).2.2.2.1, .int (aT l e z).2.2.2.2])), (2, .inr (.inl (1, l))), (3, .inl (4, [.ref 1, .ref 343, .int (nF (aT l e z).2.1), .int (aT l e z).2.2.1])), (343, .inl (2, [.int (nI ns), .ref 344, .ref 345, .ref 346, .ref 347, .int (nI nt), .ref 348, .ref 349, .ref 350, .ref 351, .ref 352, .ref 353, .ref 354, .int ce, .ref 355, .ref 356, .ref 357, .ref 358])), (344, .inr (.inr (.inl sn))), (348, .inr (.inr (.inl tn))), (349, .inr (.inl (0, si))), (350, .inr (.inl (0, fr))), (351, .inr (.inl (0, to))), (352, .inr (.inl (0, st))), (353, .inr (.inl (0, sl))), (354, .inr (.inl (0, we)))] h0 := K
    show j_W jP _ 37 51 [(1, .int (nI nt)), (0, .ref 3)] [.int 0] h9 _
    refine j_W.ifc xv_M xv_51 (t := 56) rfl (fun c => ?_) (fun c => ?_)
    · cases c
    · refine j_W.one xv_M xv_54 (by decide) (pcJ := 55) (stJ := [.int 0]) rfl ?_
      refine j_W.ret xv_M xv_55 rfl rfl ⟨rfl, K⟩
theorem xv_okB {ln pa ce : Int32} {e ns nt : Nat} {l : List Int32} {h h0 : J_H} {d : Nat} {z : rK} {sn tn : List Int64} {si fr to st sl we : List Int32} (hl : l.length = 700) (he : e ≤ 700) (hp : z.1 ≤ e) (ht : nt ≤ 5) (h1 : sn.length = 7) (hn : ns ≤ 7) (g0 : tn.length = 5) (g1 : si.length = 5) (g2 : fr.length = 5) (g3 : to.length = 5) (g4 : st.length = 5) (g5 : sl.length = 5) (g6 : we.length = 5) (K : KN h [(1, .inl (8, [.ref 2, .int ln, .int (nI e), .int (nI z.1), .int z.2.1, .int z.2.2.1, .long z.2.2.2.1, .int z.2.2.2.2])), (2, .inr (.inl (1, l))), (3, .inl (4, [.ref 1, .ref 343, .int 0, .int pa])), (343, .inl (2, [.int (nI ns), .ref 344, .ref 345, .ref 346, .ref 347, .int (nI nt), .ref 348, .ref 349, .ref 350, .ref 351, .ref 352, .ref 353, .ref 354, .int ce, .ref 355, .ref 356, .ref 357, .ref 358])), (344, .inr (.inr (.inl sn))), (348, .inr (.inr (.inl tn))), (349, .inr (.inl (0, si))), (350, .inr (.inl (0, fr))), (351, .inr (.inl (0, to))), (352, .inr (.inl (0, st))), (353, .inr (.inl (0, sl))), (354, .inr (.inl (0, we)))] h0) : j_W jP (d + 1 + 1 + 1 + 1) 37 0 (lv_args 0 [.ref 3]) [] h (PVB ln ce e ns l sn h0 (trX l e ns nt sn pa z tn si fr to st sl we)) := by
  show j_W jP (d + 1 + 1 + 1 + 1) 37 0 [(0, .ref 3)] [] h _
  unfold trX
  refine j_W.one xv_M xv_0 (by decide) (pcJ := 1) (stJ := [.ref 3]) rfl ?_
  refine j_W.getK xv_M xv_1 (ci := 4) (j := 1) rfl K rfl rfl ?_
  refine j_W.getK xv_M xv_4 (ci := 2) (j := 5) rfl K rfl rfl ?_
  refine j_W.one xv_M xv_7 (by decide) (pcJ := 8) (lv' := [(1, .int (nI nt)), (0, .ref 3)]) (stJ := []) rfl ?_
  refine j_W.one xv_M xv_8 (by decide) (pcJ := 9) (stJ := [.int (nI nt)]) rfl ?_
  refine j_W.one xv_M xv_9 (by decide) (pcJ := 10) (stJ := [.int 5, .int (nI nt)]) rfl ?_
  refine j_W.icmp xv_M xv_10 (t := 19) rfl (fun c => ?_) (fun c => ?_)
  · rw [sk_lt] at c; have c := of_decide_eq_true c; rw [nI_toInt (by omega), show (5 : Int32).toInt = 5 from rfl] at c; have hm : nt < 5 := (by omega); rw [if_neg (show ¬ 5 ≤ nt by omega)]
    clear c
    refine j_W.one xv_M xv_19 (by decide) (pcJ := 20) (stJ := [.ref 3]) rfl ?_
    refine j_W.call xv_M xv_20 rfl (md := 3) (mj := 42) rfl (by decide) xq_M (As := [.ref 3]) (rest := []) (jk_spl3 (K.at rfl) rfl rfl rfl (Nat.le_of_ble_eq_true rfl) (Nat.le_of_ble_eq_true rfl)) (xq_okB hl he hp h1 g0 hn ht (K.sub ⟨rfl, rfl, rfl, rfl, rfl, rfl, trivial⟩)) ?_
    rintro r h9 ⟨rfl, K9⟩
    have K : KN h9 [(1, .inl (8, [.ref 2, .int ln, .int (nI e), .int (nI (aT l e z).1), .int (aT l e z).2.1, .int (aT l e z).2.2.1, .long (aT l e z).2.2.2.1, .int (aT l e z).2.2.2.2])), (2, .inr (.inl (1, l))), (3, .inl (4, [.ref 1, .ref 343, .int (bif nnOk (aT l e z).2.1 (aT l e z).2.2.2.1 sn tn ns nt then 0 else uF (aT l e z).2.1 (aT l e z).2.2.2.1), .int (bif nnOk (aT l e z).2.1 (aT l e z).2.2.2.1 sn tn ns nt then pa else (aT l e z).2.2.1)])), (343, .inl (2, [.int (nI ns), .ref 344, .ref 345, .ref 346, .ref 347, .int (nI nt), .ref 348, .ref 349, .ref 350, .ref 351, .ref 352, .ref 353, .ref 354, .int ce, .ref 355, .ref 356, .ref 357, .ref 358])), (344, .inr (.inr (.inl sn))), (348, .inr (.inr (.inl tn))), (349, .inr (.inl (0, si))), (350, .inr (.inl (0, fr))), (351, .inr (.inl (0, to))), (352, .inr (.inl (0, st))), (353, .inr (.inl (0, sl))), (354, .inr (.inl (0, we)))] h0 := K.go K9 rfl rfl rfl
    clear K9
    show j_W jP _ 37 23 [(1, .int (nI nt)), (0, .ref 3)] [.int (bif nnOk (aT l e z).2.1 (aT l e z).2.2.2.1 sn tn ns nt then 1 else 0)] h9 _
    cases hb : nnOk (aT l e z).2.1 (aT l e z).2.2.2.1 sn tn ns nt with
    | true =>
      rw [hb] at K
      have K : KN h9 [(1, .inl (8, [.ref 2, .int ln, .int (nI e), .int (nI (aT l e z).1), .int (aT l e z).2.1, .int (aT l e z).2.2.1, .long (aT l e z).2.2.2.1, .int (aT l e z).2.2.2.2])), (2, .inr (.inl (1, l))), (3, .inl (4, [.ref 1, .ref 343, .int 0, .int pa])), (343, .inl (2, [.int (nI ns), .ref 344, .ref 345, .ref 346, .ref 347, .int (nI nt), .ref 348, .ref 349, .ref 350, .ref 351, .ref 352, .ref 353, .ref 354, .int ce, .ref 355, .ref 356, .ref 357, .ref 358])), (344, .inr (.inr (.inl sn))), (348, .inr (.inr (.inl tn))), (349, .inr (.inl (0, si))), (350, .inr (.inl (0, fr))), (351, .inr (.inl (0, to))), (352, .inr (.inl (0, st))), (353, .inr (.inl (0, sl))), (354, .inr (.inl (0, we)))] h0 := K
      show j_W jP _ 37 23 [(1, .int (nI nt)), (0, .ref 3)] [.int 1] h9 _
      refine j_W.ifc xv_M xv_23 (t := 28) rfl (fun c => ?_) (fun c => ?_)
      · clear c
        refine j_W.one xv_M xv_28 (by decide) (pcJ := 29) (stJ := [.ref 3]) rfl ?_
        refine j_W.getK xv_M xv_29 (ci := 4) (j := 1) rfl K rfl rfl ?_
        refine j_W.getK xv_M xv_32 (ci := 2) (j := 6) rfl K rfl rfl ?_
        refine j_W.one xv_M xv_35 (by decide) (pcJ := 36) (stJ := [.int (nI nt), .ref 348]) rfl ?_
        refine j_W.one xv_M xv_36 (by decide) (pcJ := 37) (stJ := [.ref 3, .int (nI nt), .ref 348]) rfl ?_
        refine j_W.getK xv_M xv_37 (ci := 4) (j := 0) rfl K rfl rfl ?_
        refine j_W.getK xv_M xv_40 (ci := 8) (j := 6) rfl K rfl rfl ?_
        refine j_W.lastK xv_M xv_43 (n := nt) (k' := [(1, .inl (8, [.ref 2, .int ln, .int (nI e), .int (nI (aT l e z).1), .int (aT l e z).2.1, .int (aT l e z).2.2.1, .long (aT l e z).2.2.2.1, .int (aT l e z).2.2.2.2])), (2, .inr (.inl (1, l))), (3, .inl (4, [.ref 1, .ref 343, .int 0, .int pa])), (343, .inl (2, [.int (nI ns), .ref 344, .ref 345, .ref 346, .ref 347, .int (nI nt), .ref 348, .ref 349, .ref 350, .ref 351, .ref 352, .ref 353, .ref 354, .int ce, .ref 355, .ref 356, .ref 357, .ref 358])), (344, .inr (.inr (.inl sn))), (348, .inr (.inr (.inl (tn.set nt (aT l e z).2.2.2.1)))), (349, .inr (.inl (0, si))), (350, .inr (.inl (0, fr))), (351, .inr (.inl (0, to))), (352, .inr (.inl (0, st))), (353, .inr (.inl (0, sl))), (354, .inr (.inl (0, we)))]) K rfl (by omega) (by omega) rfl (fun h K => ?_)
        exact xv_zB hl he (tkN_le hp) hm h1 hn (by simp [g0]) g1 g2 g3 g4 g5 g6 K
      · cases c
    | false =>
      rw [hb] at K
      have K : KN h9 [(1, .inl (8, [.ref 2, .int ln, .int (nI e), .int (nI (aT l e z).1), .int (aT l e z).2.1, .int (aT l e z).2.2.1, .long (aT l e z).2.2.2.1, .int (aT l e z).2.2.2.2])), (2, .inr (.inl (1, l))), (3, .inl (4, [.ref 1, .ref 343, .int (uF (aT l e z).2.1 (aT l e z).2.2.2.1), .int (aT l e z).2.2.1])), (343, .inl (2, [.int (nI ns), .ref 344, .ref 345, .ref 346, .ref 347, .int (nI nt), .ref 348, .ref 349, .ref 350, .ref 351, .ref 352, .ref 353, .ref 354, .int ce, .ref 355, .ref 356, .ref 357, .ref 358])), (344, .inr (.inr (.inl sn))), (348, .inr (.inr (.inl tn))), (349, .inr (.inl (0, si))), (350, .inr (.inl (0, fr))), (351, .inr (.inl (0, to))), (352, .inr (.inl (0, st))), (353, .inr (.inl (0, sl))), (354, .inr (.inl (0, we)))] h0 := K
      show j_W jP _ 37 23 [(1, .int (nI nt)), (0, .ref 3)] [.int 0] h9 _
      refine j_W.ifc xv_M xv_23 (t := 28) rfl (fun c => ?_) (fun c => ?_)
      · cases c
      · refine j_W.one xv_M xv_26 (by decide) (pcJ := 27) (stJ := [.int 0]) rfl ?_
        refine j_W.ret xv_M xv_27 rfl rfl ⟨rfl, K⟩
  · rw [sk_lt] at c; have c := of_decide_eq_false c; rw [nI_toInt (by omega), show (5 : Int32).toInt = 5 from rfl] at c; rw [if_pos (show 5 ≤ nt by omega)]
    clear c
    refine j_W.one xv_M xv_13 (by decide) (pcJ := 14) (stJ := [.ref 3]) rfl ?_
    refine j_W.one xv_M xv_14 (by decide) (pcJ := 15) (stJ := [.int 5, .ref 3]) rfl ?_
    refine j_W.call xv_M xv_15 rfl (md := 3) (mj := 46) rfl (by decide) xf_M (As := [.ref 3, .int 5]) (rest := []) (jk_spl3 (K.at rfl) rfl rfl rfl (Nat.le_of_ble_eq_true rfl) (Nat.le_of_ble_eq_true rfl)) (xf_ok (K.sub ⟨rfl, rfl, trivial⟩)) ?_
    rintro r h9 ⟨rfl, K9⟩
    have K : KN h9 [(1, .inl (8, [.ref 2, .int ln, .int (nI e), .int (nI z.1), .int z.2.1, .int z.2.2.1, .long z.2.2.2.1, .int z.2.2.2.2])), (2, .inr (.inl (1, l))), (3, .inl (4, [.ref 1, .ref 343, .int 5, .int z.2.2.1])), (343, .inl (2, [.int (nI ns), .ref 344, .ref 345, .ref 346, .ref 347, .int (nI nt), .ref 348, .ref 349, .ref 350, .ref 351, .ref 352, .ref 353, .ref 354, .int ce, .ref 355, .ref 356, .ref 357, .ref 358])), (344, .inr (.inr (.inl sn))), (348, .inr (.inr (.inl tn))), (349, .inr (.inl (0, si))), (350, .inr (.inl (0, fr))), (351, .inr (.inl (0, to))), (352, .inr (.inl (0, st))), (353, .inr (.inl (0, sl))), (354, .inr (.inl (0, we)))] h0 := K.go K9 rfl rfl rfl
    clear K9
    show j_W jP _ 37 18 [(1, .int (nI nt)), (0, .ref 3)] [.int 0] h9 _
    refine j_W.ret xv_M xv_18 rfl rfl ⟨rfl, K⟩

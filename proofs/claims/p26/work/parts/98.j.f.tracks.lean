/-! the class's readTracks: written by wip/jk/gen_tracks.py -/
set_option maxRecDepth 100000 in
theorem xr_M : j_meth jP 36 = some (yX4_readTracks, cX4_readTracks, 3, (some .boolean), 1, false, 4) := rfl
set_option maxRecDepth 100000 in
theorem xr_0 : j_code jP 36 0 = some (.iconst 0) := rfl
set_option maxRecDepth 100000 in
theorem xr_1 : j_code jP 36 1 = some (.istore_n 2) := rfl
set_option maxRecDepth 100000 in
theorem xr_2 : j_code jP 36 2 = some (.iload_n 2) := rfl
set_option maxRecDepth 100000 in
theorem xr_3 : j_code jP 36 3 = some (.iconst 3) := rfl
set_option maxRecDepth 100000 in
theorem xr_4 : j_code jP 36 4 = some (.if_icmp .gt 80) := rfl
set_option maxRecDepth 100000 in
theorem xr_7 : j_code jP 36 7 = some (.aload_n 0) := rfl
set_option maxRecDepth 100000 in
theorem xr_8 : j_code jP 36 8 = some (.getfield 18) := rfl
set_option maxRecDepth 100000 in
theorem xr_11 : j_code jP 36 11 = some (.invokevirtual 37) := rfl
set_option maxRecDepth 100000 in
theorem xr_14 : j_code jP 36 14 = some (.iload_n 2) := rfl
set_option maxRecDepth 100000 in
theorem xr_15 : j_code jP 36 15 = some (.ifCond .le 26) := rfl
set_option maxRecDepth 100000 in
theorem xr_18 : j_code jP 36 18 = some (.aload_n 0) := rfl
set_option maxRecDepth 100000 in
theorem xr_19 : j_code jP 36 19 = some (.getfield 18) := rfl
set_option maxRecDepth 100000 in
theorem xr_22 : j_code jP 36 22 = some (.getfield 40) := rfl
set_option maxRecDepth 100000 in
theorem xr_25 : j_code jP 36 25 = some (.iconst 3) := rfl
set_option maxRecDepth 100000 in
theorem xr_26 : j_code jP 36 26 = some (.if_icmp .ne 15) := rfl
set_option maxRecDepth 100000 in
theorem xr_29 : j_code jP 36 29 = some (.aload_n 0) := rfl
set_option maxRecDepth 100000 in
theorem xr_30 : j_code jP 36 30 = some (.getfield 22) := rfl
set_option maxRecDepth 100000 in
theorem xr_33 : j_code jP 36 33 = some (.getfield 93) := rfl
set_option maxRecDepth 100000 in
theorem xr_36 : j_code jP 36 36 = some (.iload_n 1) := rfl
set_option maxRecDepth 100000 in
theorem xr_37 : j_code jP 36 37 = some (.iload_n 2) := rfl
set_option maxRecDepth 100000 in
theorem xr_38 : j_code jP 36 38 = some (.iastore) := rfl
set_option maxRecDepth 100000 in
theorem xr_39 : j_code jP 36 39 = some (.iconst 1) := rfl
set_option maxRecDepth 100000 in
theorem xr_40 : j_code jP 36 40 = some (.ireturn) := rfl
set_option maxRecDepth 100000 in
theorem xr_41 : j_code jP 36 41 = some (.aload_n 0) := rfl
set_option maxRecDepth 100000 in
theorem xr_42 : j_code jP 36 42 = some (.iconst 1) := rfl
set_option maxRecDepth 100000 in
theorem xr_43 : j_code jP 36 43 = some (.bipush 99) := rfl
set_option maxRecDepth 100000 in
theorem xr_45 : j_code jP 36 45 = some (.invokevirtual 96) := rfl
set_option maxRecDepth 100000 in
theorem xr_48 : j_code jP 36 48 = some (.ifCond .ne 5) := rfl
set_option maxRecDepth 100000 in
theorem xr_51 : j_code jP 36 51 = some (.iconst 0) := rfl
set_option maxRecDepth 100000 in
theorem xr_52 : j_code jP 36 52 = some (.ireturn) := rfl
set_option maxRecDepth 100000 in
theorem xr_53 : j_code jP 36 53 = some (.iload_n 2) := rfl
set_option maxRecDepth 100000 in
theorem xr_54 : j_code jP 36 54 = some (.iconst 3) := rfl
set_option maxRecDepth 100000 in
theorem xr_55 : j_code jP 36 55 = some (.if_icmp .ge 23) := rfl
set_option maxRecDepth 100000 in
theorem xr_58 : j_code jP 36 58 = some (.aload_n 0) := rfl
set_option maxRecDepth 100000 in
theorem xr_59 : j_code jP 36 59 = some (.getfield 22) := rfl
set_option maxRecDepth 100000 in
theorem xr_62 : j_code jP 36 62 = some (.getfield 99) := rfl
set_option maxRecDepth 100000 in
theorem xr_65 : j_code jP 36 65 = some (.iload_n 1) := rfl
set_option maxRecDepth 100000 in
theorem xr_66 : j_code jP 36 66 = some (.iconst 3) := rfl
set_option maxRecDepth 100000 in
theorem xr_67 : j_code jP 36 67 = some (.imul) := rfl
set_option maxRecDepth 100000 in
theorem xr_68 : j_code jP 36 68 = some (.iload_n 2) := rfl
set_option maxRecDepth 100000 in
theorem xr_69 : j_code jP 36 69 = some (.iadd) := rfl
set_option maxRecDepth 100000 in
theorem xr_70 : j_code jP 36 70 = some (.aload_n 0) := rfl
set_option maxRecDepth 100000 in
theorem xr_71 : j_code jP 36 71 = some (.getfield 18) := rfl
set_option maxRecDepth 100000 in
theorem xr_74 : j_code jP 36 74 = some (.getfield 87) := rfl
set_option maxRecDepth 100000 in
theorem xr_77 : j_code jP 36 77 = some (.iastore) := rfl
set_option maxRecDepth 100000 in
theorem xr_78 : j_code jP 36 78 = some (.iinc 2 1) := rfl
set_option maxRecDepth 100000 in
theorem xr_81 : j_code jP 36 81 = some (.goto (-79)) := rfl
set_option maxRecDepth 100000 in
theorem xr_84 : j_code jP 36 84 = some (.aload_n 0) := rfl
set_option maxRecDepth 100000 in
theorem xr_85 : j_code jP 36 85 = some (.iconst 5) := rfl
set_option maxRecDepth 100000 in
theorem xr_86 : j_code jP 36 86 = some (.invokevirtual 64) := rfl
set_option maxRecDepth 100000 in
theorem xr_89 : j_code jP 36 89 = some (.ireturn) := rfl
def PTA (ln ce : Int32) (e ns nt : Nat) (l : List Int32) (h0 : J_H) (R : rX) (rv : Option Value) (h' : J_H) : Prop := rv = some (.int (bif R.1 then 1 else 0)) ∧ KN h' [(1, .inl (8, [.ref 2, .int ln, .int (nI e), .int (nI R.2.2.1.1), .int R.2.2.1.2.1, .int R.2.2.1.2.2.1, .long R.2.2.1.2.2.2.1, .int R.2.2.1.2.2.2.2])), (2, .inr (.inl (1, l))), (3, .inl (4, [.ref 1, .ref 327, .int R.2.1.1, .int R.2.1.2])), (327, .inl (2, [.int (nI ns), .ref 328, .ref 329, .ref 330, .ref 331, .int (nI nt), .ref 332, .ref 333, .ref 334, .ref 335, .ref 336, .ref 337, .ref 338, .int ce, .ref 339, .ref 340, .ref 341, .ref 342])), (330, .inr (.inl (0, R.2.2.2.1))), (331, .inr (.inl (0, R.2.2.2.2)))] h0
theorem xr_lA {ln fa pa ce : Int32} {e ns nt s : Nat} {l : List Int32} {h0 : J_H} {d : Nat} (hl : l.length = 700) (he : e ≤ 700) (hs : s < 7) : ∀ (f k p : Nat) (kd pl : Int32) (wo : Int64) (nu : Int32) (tr le : List Int32) (h : J_H), k + f = 4 → p ≤ e → tr.length = 7 → le.length = 21 → KN h [(1, .inl (8, [.ref 2, .int ln, .int (nI e), .int (nI p), .int kd, .int pl, .long wo, .int nu])), (2, .inr (.inl (1, l))), (3, .inl (4, [.ref 1, .ref 327, .int fa, .int pa])), (327, .inl (2, [.int (nI ns), .ref 328, .ref 329, .ref 330, .ref 331, .int (nI nt), .ref 332, .ref 333, .ref 334, .ref 335, .ref 336, .ref 337, .ref 338, .int ce, .ref 339, .ref 340, .ref 341, .ref 342])), (330, .inr (.inl (0, tr))), (331, .inr (.inl (0, le)))] h0 → j_W jP (d + 1 + 1) 36 2 [(2, .int (nI k)), (0, .ref 3), (1, .int (nI s))] [] h (PTA ln ce e ns nt l h0 (rT l e s fa pa f k p kd pl wo nu tr le)) := by
  intro f
  induction f with
  | zero =>
    intro k p kd pl wo nu tr le h hf hp ht hle K
    refine j_W.one xr_M xr_2 (by decide) (pcJ := 3) (stJ := [.int (nI k)]) rfl ?_
    refine j_W.one xr_M xr_3 (by decide) (pcJ := 4) (stJ := [.int 3, .int (nI k)]) rfl ?_
    refine j_W.icmp xr_M xr_4 (t := 84) rfl (fun c => ?_) (fun c => ?_)
    · refine j_W.one xr_M xr_84 (by decide) (pcJ := 85) (stJ := [.ref 3]) rfl ?_
      refine j_W.one xr_M xr_85 (by decide) (pcJ := 86) (stJ := [.int 5, .ref 3]) rfl ?_
      refine j_W.call xr_M xr_86 rfl (md := 3) (mj := 46) rfl (by decide) xf_M (As := [.ref 3, .int 5]) (rest := []) (jk_spl3 (K.at rfl) rfl rfl rfl (Nat.le_of_ble_eq_true rfl) (Nat.le_of_ble_eq_true rfl)) (xf_ok (K.sub ⟨rfl, rfl, trivial⟩)) ?_
      rintro r h9 ⟨rfl, K9⟩
      have K : KN h9 [(1, .inl (8, [.ref 2, .int ln, .int (nI e), .int (nI p), .int kd, .int pl, .long wo, .int nu])), (2, .inr (.inl (1, l))), (3, .inl (4, [.ref 1, .ref 327, .int 5, .int pl])), (327, .inl (2, [.int (nI ns), .ref 328, .ref 329, .ref 330, .ref 331, .int (nI nt), .ref 332, .ref 333, .ref 334, .ref 335, .ref 336, .ref 337, .ref 338, .int ce, .ref 339, .ref 340, .ref 341, .ref 342])), (330, .inr (.inl (0, tr))), (331, .inr (.inl (0, le)))] h0 := K.go K9 rfl rfl rfl
      clear K9
      show j_W jP _ 36 89 [(2, .int (nI k)), (0, .ref 3), (1, .int (nI s))] [.int 0] h9 _
      refine j_W.ret xr_M xr_89 rfl rfl ⟨rfl, K⟩
    · exfalso; rw [jk_gt] at c; have c := of_decide_eq_false c; rw [nI_toInt (by omega), show (3 : Int32).toInt = 3 from rfl] at c; omega
  | succ f ih =>
    intro k p kd pl wo nu tr le h hf hp ht hle K
    refine j_W.one xr_M xr_2 (by decide) (pcJ := 3) (stJ := [.int (nI k)]) rfl ?_
    refine j_W.one xr_M xr_3 (by decide) (pcJ := 4) (stJ := [.int 3, .int (nI k)]) rfl ?_
    refine j_W.icmp xr_M xr_4 (t := 84) rfl (fun c => ?_) (fun c => ?_)
    · exfalso; rw [jk_gt] at c; have c := of_decide_eq_true c; rw [nI_toInt (by omega), show (3 : Int32).toInt = 3 from rfl] at c; omega
    · clear c
      refine j_W.one xr_M xr_7 (by decide) (pcJ := 8) (stJ := [.ref 3]) rfl ?_
      refine j_W.getK xr_M xr_8 (ci := 4) (j := 0) rfl K rfl rfl ?_
      refine j_W.call xr_M xr_11 rfl (md := 3) (mj := 107) rfl (by decide) sa_M (As := [.ref 1]) (rest := []) (jk_spl3 (K.at rfl) rfl rfl rfl (Nat.le_of_ble_eq_true rfl) (Nat.le_of_ble_eq_true rfl)) (sa_ok hl he hp (K.sub ⟨rfl, rfl, trivial⟩)) ?_
      rintro r h9 ⟨rfl, K9⟩
      have K : KN h9 [(1, .inl (8, [.ref 2, .int ln, .int (nI e), .int (nI (tkN (cX l) e p)), .int (tkK (cX l) e p), .int (nI (tkQ (cX l) e p)), .long (tkW l e p wo), .int (tkD l e p nu)])), (2, .inr (.inl (1, l))), (3, .inl (4, [.ref 1, .ref 327, .int fa, .int pa])), (327, .inl (2, [.int (nI ns), .ref 328, .ref 329, .ref 330, .ref 331, .int (nI nt), .ref 332, .ref 333, .ref 334, .ref 335, .ref 336, .ref 337, .ref 338, .int ce, .ref 339, .ref 340, .ref 341, .ref 342])), (330, .inr (.inl (0, tr))), (331, .inr (.inl (0, le)))] h0 := K.go K9 rfl rfl rfl
      clear K9
      show j_W jP _ 36 14 [(2, .int (nI k)), (0, .ref 3), (1, .int (nI s))] [] h9 _
      refine j_W.one xr_M xr_14 (by decide) (pcJ := 15) (stJ := [.int (nI k)]) rfl ?_
      simp only [rT]
      refine j_W.ifc xr_M xr_15 (t := 41) rfl (fun c => ?_) (fun c => ?_)
      · rw [jk_le] at c; have c := of_decide_eq_true c; rw [nI_toInt (by omega), show (0 : Int32).toInt = 0 from rfl] at c
        rw [if_neg (fun z => by have := z.1; omega)]
        clear c
        refine j_W.one xr_M xr_41 (by decide) (pcJ := 42) (stJ := [.ref 3]) rfl ?_
        refine j_W.one xr_M xr_42 (by decide) (pcJ := 43) (stJ := [.int 1, .ref 3]) rfl ?_
        refine j_W.one xr_M xr_43 (by decide) (pcJ := 45) (stJ := [.int 99, .int 1, .ref 3]) rfl ?_
        refine j_W.call xr_M xr_45 rfl (md := 3) (mj := 40) rfl (by decide) xi_M (As := [.ref 3, .int 1, .int 99]) (rest := []) (jk_spl3 (K.at rfl) rfl rfl rfl (Nat.le_of_ble_eq_true rfl) (Nat.le_of_ble_eq_true rfl)) (xi_ok (K.sub ⟨rfl, rfl, trivial⟩)) ?_
        rintro r h9 ⟨rfl, K9⟩
        have K : KN h9 [(1, .inl (8, [.ref 2, .int ln, .int (nI e), .int (nI (tkN (cX l) e p)), .int (tkK (cX l) e p), .int (nI (tkQ (cX l) e p)), .long (tkW l e p wo), .int (tkD l e p nu)])), (2, .inr (.inl (1, l))), (3, .inl (4, [.ref 1, .ref 327, .int (bif (nOk (tkK (cX l) e p) (tkD l e p nu) 1 99) then fa else nF (tkK (cX l) e p)), .int (bif (nOk (tkK (cX l) e p) (tkD l e p nu) 1 99) then pa else (nI (tkQ (cX l) e p)))])), (327, .inl (2, [.int (nI ns), .ref 328, .ref 329, .ref 330, .ref 331, .int (nI nt), .ref 332, .ref 333, .ref 334, .ref 335, .ref 336, .ref 337, .ref 338, .int ce, .ref 339, .ref 340, .ref 341, .ref 342])), (330, .inr (.inl (0, tr))), (331, .inr (.inl (0, le)))] h0 := K.go K9 rfl rfl rfl
        clear K9
        show j_W jP _ 36 48 [(2, .int (nI k)), (0, .ref 3), (1, .int (nI s))] [.int (bif (nOk (tkK (cX l) e p) (tkD l e p nu) 1 99) then 1 else 0)] h9 _
        cases hb : nOk (tkK (cX l) e p) (tkD l e p nu) 1 99 with
        | true =>
          rw [hb] at K
          have K : KN h9 [(1, .inl (8, [.ref 2, .int ln, .int (nI e), .int (nI (tkN (cX l) e p)), .int (tkK (cX l) e p), .int (nI (tkQ (cX l) e p)), .long (tkW l e p wo), .int (tkD l e p nu)])), (2, .inr (.inl (1, l))), (3, .inl (4, [.ref 1, .ref 327, .int fa, .int pa])), (327, .inl (2, [.int (nI ns), .ref 328, .ref 329, .ref 330, .ref 331, .int (nI nt), .ref 332, .ref 333, .ref 334, .ref 335, .ref 336, .ref 337, .ref 338, .int ce, .ref 339, .ref 340, .ref 341, .ref 342])), (330, .inr (.inl (0, tr))), (331, .inr (.inl (0, le)))] h0 := K
          show j_W jP _ 36 48 [(2, .int (nI k)), (0, .ref 3), (1, .int (nI s))] [.int 1] h9 _
          refine j_W.ifc xr_M xr_48 (t := 53) rfl (fun c => ?_) (fun c => ?_)
          · clear c
            refine j_W.one xr_M xr_53 (by decide) (pcJ := 54) (stJ := [.int (nI k)]) rfl ?_
            refine j_W.one xr_M xr_54 (by decide) (pcJ := 55) (stJ := [.int 3, .int (nI k)]) rfl ?_
            refine j_W.icmp xr_M xr_55 (t := 78) rfl (fun c => ?_) (fun c => ?_)
            · rw [jk_ge] at c; have c := of_decide_eq_true c; rw [nI_toInt (by omega), show (3 : Int32).toInt = 3 from rfl] at c; have c9 : ¬ k < 3 := by omega
              clear c
              refine j_W.one xr_M xr_78 (by decide) (pcJ := 81) (lv' := [(2, .int ((nI k) + 1)), (0, .ref 3), (1, .int (nI s))]) (stJ := []) rfl ?_
              refine j_W.gto xr_M xr_81 (t := 2) rfl ?_
              have t9 := ih (k + 1) (tkN (cX l) e p) (tkK (cX l) e p) (nI (tkQ (cX l) e p)) (tkW l e p wo) (tkD l e p nu) tr (if k < 3 then le.set (3 * s + k) (tkD l e p nu) else le) h9 (by omega) (tkN_le hp) ht (by split <;> simp [hle]) (by rw [if_neg c9]; exact K)
              rw [nI_succ] at t9
              exact t9
            · rw [jk_ge] at c; have c := of_decide_eq_false c; rw [nI_toInt (by omega), show (3 : Int32).toInt = 3 from rfl] at c; have c9 : k < 3 := by omega
              clear c
              refine j_W.one xr_M xr_58 (by decide) (pcJ := 59) (stJ := [.ref 3]) rfl ?_
              refine j_W.getK xr_M xr_59 (ci := 4) (j := 1) rfl K rfl rfl ?_
              refine j_W.getK xr_M xr_62 (ci := 2) (j := 4) rfl K rfl rfl ?_
              refine j_W.one xr_M xr_65 (by decide) (pcJ := 66) (stJ := [.int (nI s), .ref 331]) rfl ?_
              refine j_W.one xr_M xr_66 (by decide) (pcJ := 67) (stJ := [.int 3, .int (nI s), .ref 331]) rfl ?_
              refine j_W.one xr_M xr_67 (by decide) (pcJ := 68) (stJ := [.int ((nI s) * 3), .ref 331]) rfl ?_
              refine j_W.one xr_M xr_68 (by decide) (pcJ := 69) (stJ := [.int (nI k), .int ((nI s) * 3), .ref 331]) rfl ?_
              refine j_W.one xr_M xr_69 (by decide) (pcJ := 70) (stJ := [.int (((nI s) * 3) + (nI k)), .ref 331]) rfl ?_
              refine j_W.one xr_M xr_70 (by decide) (pcJ := 71) (stJ := [.ref 3, .int (((nI s) * 3) + (nI k)), .ref 331]) rfl ?_
              refine j_W.getK xr_M xr_71 (ci := 4) (j := 0) rfl K rfl rfl ?_
              refine j_W.getK xr_M xr_74 (ci := 8) (j := 7) rfl K rfl rfl ?_
              rw [jk_ix3]
              refine j_W.iastK xr_M xr_77 (n := 3 * s + k) (k' := [(1, .inl (8, [.ref 2, .int ln, .int (nI e), .int (nI (tkN (cX l) e p)), .int (tkK (cX l) e p), .int (nI (tkQ (cX l) e p)), .long (tkW l e p wo), .int (tkD l e p nu)])), (2, .inr (.inl (1, l))), (3, .inl (4, [.ref 1, .ref 327, .int fa, .int pa])), (327, .inl (2, [.int (nI ns), .ref 328, .ref 329, .ref 330, .ref 331, .int (nI nt), .ref 332, .ref 333, .ref 334, .ref 335, .ref 336, .ref 337, .ref 338, .int ce, .ref 339, .ref 340, .ref 341, .ref 342])), (330, .inr (.inl (0, tr))), (331, .inr (.inl (0, (le.set (3 * s + k) (tkD l e p nu)))))]) K rfl (by omega) (by omega) rfl (fun h K => ?_)
              refine j_W.one xr_M xr_78 (by decide) (pcJ := 81) (lv' := [(2, .int ((nI k) + 1)), (0, .ref 3), (1, .int (nI s))]) (stJ := []) rfl ?_
              refine j_W.gto xr_M xr_81 (t := 2) rfl ?_
              have t9 := ih (k + 1) (tkN (cX l) e p) (tkK (cX l) e p) (nI (tkQ (cX l) e p)) (tkW l e p wo) (tkD l e p nu) tr (if k < 3 then le.set (3 * s + k) (tkD l e p nu) else le) h (by omega) (tkN_le hp) ht (by split <;> simp [hle]) (by rw [if_pos c9]; exact K)
              rw [nI_succ] at t9
              exact t9
          · cases c
        | false =>
          rw [hb] at K
          have K : KN h9 [(1, .inl (8, [.ref 2, .int ln, .int (nI e), .int (nI (tkN (cX l) e p)), .int (tkK (cX l) e p), .int (nI (tkQ (cX l) e p)), .long (tkW l e p wo), .int (tkD l e p nu)])), (2, .inr (.inl (1, l))), (3, .inl (4, [.ref 1, .ref 327, .int (nF (tkK (cX l) e p)), .int (nI (tkQ (cX l) e p))])), (327, .inl (2, [.int (nI ns), .ref 328, .ref 329, .ref 330, .ref 331, .int (nI nt), .ref 332, .ref 333, .ref 334, .ref 335, .ref 336, .ref 337, .ref 338, .int ce, .ref 339, .ref 340, .ref 341, .ref 342])), (330, .inr (.inl (0, tr))), (331, .inr (.inl (0, le)))] h0 := K
          show j_W jP _ 36 48 [(2, .int (nI k)), (0, .ref 3), (1, .int (nI s))] [.int 0] h9 _
          refine j_W.ifc xr_M xr_48 (t := 53) rfl (fun c => ?_) (fun c => ?_)
          · cases c
          · refine j_W.one xr_M xr_51 (by decide) (pcJ := 52) (stJ := [.int 0]) rfl ?_
            refine j_W.ret xr_M xr_52 rfl rfl ⟨rfl, K⟩
      · rw [jk_le] at c; have c := of_decide_eq_false c; rw [nI_toInt (by omega), show (0 : Int32).toInt = 0 from rfl] at c; have c1 : 0 < k := by omega
        clear c
        refine j_W.one xr_M xr_18 (by decide) (pcJ := 19) (stJ := [.ref 3]) rfl ?_
        refine j_W.getK xr_M xr_19 (ci := 4) (j := 0) rfl K rfl rfl ?_
        refine j_W.getK xr_M xr_22 (ci := 8) (j := 4) rfl K rfl rfl ?_
        refine j_W.one xr_M xr_25 (by decide) (pcJ := 26) (stJ := [.int 3, .int (tkK (cX l) e p)]) rfl ?_
        refine j_W.icmp xr_M xr_26 (t := 41) rfl (fun c => ?_) (fun c => ?_)
        · have c : ¬ (tkK (cX l) e p) = 3 := by simpa [j_cond] using c
          rw [if_neg (fun z => c z.2)]
          clear c
          refine j_W.one xr_M xr_41 (by decide) (pcJ := 42) (stJ := [.ref 3]) rfl ?_
          refine j_W.one xr_M xr_42 (by decide) (pcJ := 43) (stJ := [.int 1, .ref 3]) rfl ?_
          refine j_W.one xr_M xr_43 (by decide) (pcJ := 45) (stJ := [.int 99, .int 1, .ref 3]) rfl ?_
          refine j_W.call xr_M xr_45 rfl (md := 3) (mj := 40) rfl (by decide) xi_M (As := [.ref 3, .int 1, .int 99]) (rest := []) (jk_spl3 (K.at rfl) rfl rfl rfl (Nat.le_of_ble_eq_true rfl) (Nat.le_of_ble_eq_true rfl)) (xi_ok (K.sub ⟨rfl, rfl, trivial⟩)) ?_
          rintro r h9 ⟨rfl, K9⟩
          have K : KN h9 [(1, .inl (8, [.ref 2, .int ln, .int (nI e), .int (nI (tkN (cX l) e p)), .int (tkK (cX l) e p), .int (nI (tkQ (cX l) e p)), .long (tkW l e p wo), .int (tkD l e p nu)])), (2, .inr (.inl (1, l))), (3, .inl (4, [.ref 1, .ref 327, .int (bif (nOk (tkK (cX l) e p) (tkD l e p nu) 1 99) then fa else nF (tkK (cX l) e p)), .int (bif (nOk (tkK (cX l) e p) (tkD l e p nu) 1 99) then pa else (nI (tkQ (cX l) e p)))])), (327, .inl (2, [.int (nI ns), .ref 328, .ref 329, .ref 330, .ref 331, .int (nI nt), .ref 332, .ref 333, .ref 334, .ref 335, .ref 336, .ref 337, .ref 338, .int ce, .ref 339, .ref 340, .ref 341, .ref 342])), (330, .inr (.inl (0, tr))), (331, .inr (.inl (0, le)))] h0 := K.go K9 rfl rfl rfl
          clear K9
          show j_W jP _ 36 48 [(2, .int (nI k)), (0, .ref 3), (1, .int (nI s))] [.int (bif (nOk (tkK (cX l) e p) (tkD l e p nu) 1 99) then 1 else 0)] h9 _
          cases hb : nOk (tkK (cX l) e p) (tkD l e p nu) 1 99 with
          | true =>
            rw [hb] at K
            have K : KN h9 [(1, .inl (8, [.ref 2, .int ln, .int (nI e), .int (nI (tkN (cX l) e p)), .int (tkK (cX l) e p), .int (nI (tkQ (cX l) e p)), .long (tkW l e p wo), .int (tkD l e p nu)])), (2, .inr (.inl (1, l))), (3, .inl (4, [.ref 1, .ref 327, .int fa, .int pa])), (327, .inl (2, [.int (nI ns), .ref 328, .ref 329, .ref 330, .ref 331, .int (nI nt), .ref 332, .ref 333, .ref 334, .ref 335, .ref 336, .ref 337, .ref 338, .int ce, .ref 339, .ref 340, .ref 341, .ref 342])), (330, .inr (.inl (0, tr))), (331, .inr (.inl (0, le)))] h0 := K
            show j_W jP _ 36 48 [(2, .int (nI k)), (0, .ref 3), (1, .int (nI s))] [.int 1] h9 _
            refine j_W.ifc xr_M xr_48 (t := 53) rfl (fun c => ?_) (fun c => ?_)
            · clear c
              refine j_W.one xr_M xr_53 (by decide) (pcJ := 54) (stJ := [.int (nI k)]) rfl ?_
              refine j_W.one xr_M xr_54 (by decide) (pcJ := 55) (stJ := [.int 3, .int (nI k)]) rfl ?_
              refine j_W.icmp xr_M xr_55 (t := 78) rfl (fun c => ?_) (fun c => ?_)
              · rw [jk_ge] at c; have c := of_decide_eq_true c; rw [nI_toInt (by omega), show (3 : Int32).toInt = 3 from rfl] at c; have c9 : ¬ k < 3 := by omega
                clear c
                refine j_W.one xr_M xr_78 (by decide) (pcJ := 81) (lv' := [(2, .int ((nI k) + 1)), (0, .ref 3), (1, .int (nI s))]) (stJ := []) rfl ?_
                refine j_W.gto xr_M xr_81 (t := 2) rfl ?_
                have t9 := ih (k + 1) (tkN (cX l) e p) (tkK (cX l) e p) (nI (tkQ (cX l) e p)) (tkW l e p wo) (tkD l e p nu) tr (if k < 3 then le.set (3 * s + k) (tkD l e p nu) else le) h9 (by omega) (tkN_le hp) ht (by split <;> simp [hle]) (by rw [if_neg c9]; exact K)
                rw [nI_succ] at t9
                exact t9
              · rw [jk_ge] at c; have c := of_decide_eq_false c; rw [nI_toInt (by omega), show (3 : Int32).toInt = 3 from rfl] at c; have c9 : k < 3 := by omega
                clear c
                refine j_W.one xr_M xr_58 (by decide) (pcJ := 59) (stJ := [.ref 3]) rfl ?_
                refine j_W.getK xr_M xr_59 (ci := 4) (j := 1) rfl K rfl rfl ?_
                refine j_W.getK xr_M xr_62 (ci := 2) (j := 4) rfl K rfl rfl ?_
                refine j_W.one xr_M xr_65 (by decide) (pcJ := 66) (stJ := [.int (nI s), .ref 331]) rfl ?_
                refine j_W.one xr_M xr_66 (by decide) (pcJ := 67) (stJ := [.int 3, .int (nI s), .ref 331]) rfl ?_
                refine j_W.one xr_M xr_67 (by decide) (pcJ := 68) (stJ := [.int ((nI s) * 3), .ref 331]) rfl ?_
                refine j_W.one xr_M xr_68 (by decide) (pcJ := 69) (stJ := [.int (nI k), .int ((nI s) * 3), .ref 331]) rfl ?_
                refine j_W.one xr_M xr_69 (by decide) (pcJ := 70) (stJ := [.int (((nI s) * 3) + (nI k)), .ref 331]) rfl ?_
                refine j_W.one xr_M xr_70 (by decide) (pcJ := 71) (stJ := [.ref 3, .int (((nI s) * 3) + (nI k)), .ref 331]) rfl ?_
                refine j_W.getK xr_M xr_71 (ci := 4) (j := 0) rfl K rfl rfl ?_
                refine j_W.getK xr_M xr_74 (ci := 8) (j := 7) rfl K rfl rfl ?_
                rw [jk_ix3]
                refine j_W.iastK xr_M xr_77 (n := 3 * s + k) (k' := [(1, .inl (8, [.ref 2, .int ln, .int (nI e), .int (nI (tkN (cX l) e p)), .int (tkK (cX l) e p), .int (nI (tkQ (cX l) e p)), .long (tkW l e p wo), .int (tkD l e p nu)])), (2, .inr (.inl (1, l))), (3, .inl (4, [.ref 1, .ref 327, .int fa, .int pa])), (327, .inl (2, [.int (nI ns), .ref 328, .ref 329, .ref 330, .ref 331, .int (nI nt), .ref 332, .ref 333, .ref 334, .ref 335, .ref 336, .ref 337, .ref 338, .int ce, .ref 339, .ref 340, .ref 341, .ref 342])), (330, .inr (.inl (0, tr))), (331, .inr (.inl (0, (le.set (3 * s + k) (tkD l e p nu)))))]) K rfl (by omega) (by omega) rfl (fun h K => ?_)
                refine j_W.one xr_M xr_78 (by decide) (pcJ := 81) (lv' := [(2, .int ((nI k) + 1)), (0, .ref 3), (1, .int (nI s))]) (stJ := []) rfl ?_
                refine j_W.gto xr_M xr_81 (t := 2) rfl ?_
                have t9 := ih (k + 1) (tkN (cX l) e p) (tkK (cX l) e p) (nI (tkQ (cX l) e p)) (tkW l e p wo) (tkD l e p nu) tr (if k < 3 then le.set (3 * s + k) (tkD l e p nu) else le) h (by omega) (tkN_le hp) ht (by split <;> simp [hle]) (by rw [if_pos c9]; exact K)
                rw [nI_succ] at t9
                exact t9
            · cases c
          | false =>
            rw [hb] at K
            have K : KN h9 [(1, .inl (8, [.ref 2, .int ln, .int (nI e), .int (nI (tkN (cX l) e p)), .int (tkK (cX l) e p), .int (nI (tkQ (cX l) e p)), .long (tkW l e p wo), .int (tkD l e p nu)])), (2, .inr (.inl (1, l))), (3, .inl (4, [.ref 1, .ref 327, .int (nF (tkK (cX l) e p)), .int (nI (tkQ (cX l) e p))])), (327, .inl (2, [.int (nI ns), .ref 328, .ref 329, .ref 330, .ref 331, .int (nI nt), .ref 332, .ref 333, .ref 334, .ref 335, .ref 336, .ref 337, .ref 338, .int ce, .ref 339, .ref 340, .ref 341, .ref 342])), (330, .inr (.inl (0, tr))), (331, .inr (.inl (0, le)))] h0 := K
            show j_W jP _ 36 48 [(2, .int (nI k)), (0, .ref 3), (1, .int (nI s))] [.int 0] h9 _
            refine j_W.ifc xr_M xr_48 (t := 53) rfl (fun c => ?_) (fun c => ?_)
            · cases c
            · refine j_W.one xr_M xr_51 (by decide) (pcJ := 52) (stJ := [.int 0]) rfl ?_
              refine j_W.ret xr_M xr_52 rfl rfl ⟨rfl, K⟩
        · have c : (tkK (cX l) e p) = 3 := by simpa [j_cond] using c
          rw [if_pos ⟨c1, c⟩]
          clear c
          refine j_W.one xr_M xr_29 (by decide) (pcJ := 30) (stJ := [.ref 3]) rfl ?_
          refine j_W.getK xr_M xr_30 (ci := 4) (j := 1) rfl K rfl rfl ?_
          refine j_W.getK xr_M xr_33 (ci := 2) (j := 3) rfl K rfl rfl ?_
          refine j_W.one xr_M xr_36 (by decide) (pcJ := 37) (stJ := [.int (nI s), .ref 330]) rfl ?_
          refine j_W.one xr_M xr_37 (by decide) (pcJ := 38) (stJ := [.int (nI k), .int (nI s), .ref 330]) rfl ?_
          refine j_W.iastK xr_M xr_38 (n := s) (k' := [(1, .inl (8, [.ref 2, .int ln, .int (nI e), .int (nI (tkN (cX l) e p)), .int (tkK (cX l) e p), .int (nI (tkQ (cX l) e p)), .long (tkW l e p wo), .int (tkD l e p nu)])), (2, .inr (.inl (1, l))), (3, .inl (4, [.ref 1, .ref 327, .int fa, .int pa])), (327, .inl (2, [.int (nI ns), .ref 328, .ref 329, .ref 330, .ref 331, .int (nI nt), .ref 332, .ref 333, .ref 334, .ref 335, .ref 336, .ref 337, .ref 338, .int ce, .ref 339, .ref 340, .ref 341, .ref 342])), (330, .inr (.inl (0, (tr.set s (nI k))))), (331, .inr (.inl (0, le)))]) K rfl (by omega) (by omega) rfl (fun h K => ?_)
          refine j_W.one xr_M xr_39 (by decide) (pcJ := 40) (stJ := [.int 1]) rfl ?_
          refine j_W.ret xr_M xr_40 rfl rfl ⟨rfl, K⟩
def PTB (ln ce : Int32) (e ns nt : Nat) (l : List Int32) (h0 : J_H) (R : rX) (rv : Option Value) (h' : J_H) : Prop := rv = some (.int (bif R.1 then 1 else 0)) ∧ KN h' [(1, .inl (8, [.ref 2, .int ln, .int (nI e), .int (nI R.2.2.1.1), .int R.2.2.1.2.1, .int R.2.2.1.2.2.1, .long R.2.2.1.2.2.2.1, .int R.2.2.1.2.2.2.2])), (2, .inr (.inl (1, l))), (3, .inl (4, [.ref 1, .ref 343, .int R.2.1.1, .int R.2.1.2])), (343, .inl (2, [.int (nI ns), .ref 344, .ref 345, .ref 346, .ref 347, .int (nI nt), .ref 348, .ref 349, .ref 350, .ref 351, .ref 352, .ref 353, .ref 354, .int ce, .ref 355, .ref 356, .ref 357, .ref 358])), (346, .inr (.inl (0, R.2.2.2.1))), (347, .inr (.inl (0, R.2.2.2.2)))] h0
theorem xr_lB {ln fa pa ce : Int32} {e ns nt s : Nat} {l : List Int32} {h0 : J_H} {d : Nat} (hl : l.length = 700) (he : e ≤ 700) (hs : s < 7) : ∀ (f k p : Nat) (kd pl : Int32) (wo : Int64) (nu : Int32) (tr le : List Int32) (h : J_H), k + f = 4 → p ≤ e → tr.length = 7 → le.length = 21 → KN h [(1, .inl (8, [.ref 2, .int ln, .int (nI e), .int (nI p), .int kd, .int pl, .long wo, .int nu])), (2, .inr (.inl (1, l))), (3, .inl (4, [.ref 1, .ref 343, .int fa, .int pa])), (343, .inl (2, [.int (nI ns), .ref 344, .ref 345, .ref 346, .ref 347, .int (nI nt), .ref 348, .ref 349, .ref 350, .ref 351, .ref 352, .ref 353, .ref 354, .int ce, .ref 355, .ref 356, .ref 357, .ref 358])), (346, .inr (.inl (0, tr))), (347, .inr (.inl (0, le)))] h0 → j_W jP (d + 1 + 1) 36 2 [(2, .int (nI k)), (0, .ref 3), (1, .int (nI s))] [] h (PTB ln ce e ns nt l h0 (rT l e s fa pa f k p kd pl wo nu tr le)) := by
  intro f
  induction f with
  | zero =>
    intro k p kd pl wo nu tr le h hf hp ht hle K
    refine j_W.one xr_M xr_2 (by decide) (pcJ := 3) (stJ := [.int (nI k)]) rfl ?_
    refine j_W.one xr_M xr_3 (by decide) (pcJ := 4) (stJ := [.int 3, .int (nI k)]) rfl ?_
    refine j_W.icmp xr_M xr_4 (t := 84) rfl (fun c => ?_) (fun c => ?_)
    · refine j_W.one xr_M xr_84 (by decide) (pcJ := 85) (stJ := [.ref 3]) rfl ?_
      refine j_W.one xr_M xr_85 (by decide) (pcJ := 86) (stJ := [.int 5, .ref 3]) rfl ?_
      refine j_W.call xr_M xr_86 rfl (md := 3) (mj := 46) rfl (by decide) xf_M (As := [.ref 3, .int 5]) (rest := []) (jk_spl3 (K.at rfl) rfl rfl rfl (Nat.le_of_ble_eq_true rfl) (Nat.le_of_ble_eq_true rfl)) (xf_ok (K.sub ⟨rfl, rfl, trivial⟩)) ?_
      rintro r h9 ⟨rfl, K9⟩
      have K : KN h9 [(1, .inl (8, [.ref 2, .int ln, .int (nI e), .int (nI p), .int kd, .int pl, .long wo, .int nu])), (2, .inr (.inl (1, l))), (3, .inl (4, [.ref 1, .ref 343, .int 5, .int pl])), (343, .inl (2, [.int (nI ns), .ref 344, .ref 345, .ref 346, .ref 347, .int (nI nt), .ref 348, .ref 349, .ref 350, .ref 351, .ref 352, .ref 353, .ref 354, .int ce, .ref 355, .ref 356, .ref 357, .ref 358])), (346, .inr (.inl (0, tr))), (347, .inr (.inl (0, le)))] h0 := K.go K9 rfl rfl rfl
      clear K9
      show j_W jP _ 36 89 [(2, .int (nI k)), (0, .ref 3), (1, .int (nI s))] [.int 0] h9 _
      refine j_W.ret xr_M xr_89 rfl rfl ⟨rfl, K⟩
    · exfalso; rw [jk_gt] at c; have c := of_decide_eq_false c; rw [nI_toInt (by omega), show (3 : Int32).toInt = 3 from rfl] at c; omega
  | succ f ih =>
    intro k p kd pl wo nu tr le h hf hp ht hle K
    refine j_W.one xr_M xr_2 (by decide) (pcJ := 3) (stJ := [.int (nI k)]) rfl ?_
    refine j_W.one xr_M xr_3 (by decide) (pcJ := 4) (stJ := [.int 3, .int (nI k)]) rfl ?_
    refine j_W.icmp xr_M xr_4 (t := 84) rfl (fun c => ?_) (fun c => ?_)
    · exfalso; rw [jk_gt] at c; have c := of_decide_eq_true c; rw [nI_toInt (by omega), show (3 : Int32).toInt = 3 from rfl] at c; omega
    · clear c
      refine j_W.one xr_M xr_7 (by decide) (pcJ := 8) (stJ := [.ref 3]) rfl ?_
      refine j_W.getK xr_M xr_8 (ci := 4) (j := 0) rfl K rfl rfl ?_
      refine j_W.call xr_M xr_11 rfl (md := 3) (mj := 107) rfl (by decide) sa_M (As := [.ref 1]) (rest := []) (jk_spl3 (K.at rfl) rfl rfl rfl (Nat.le_of_ble_eq_true rfl) (Nat.le_of_ble_eq_true rfl)) (sa_ok hl he hp (K.sub ⟨rfl, rfl, trivial⟩)) ?_
      rintro r h9 ⟨rfl, K9⟩
      have K : KN h9 [(1, .inl (8, [.ref 2, .int ln, .int (nI e), .int (nI (tkN (cX l) e p)), .int (tkK (cX l) e p), .int (nI (tkQ (cX l) e p)), .long (tkW l e p wo), .int (tkD l e p nu)])), (2, .inr (.inl (1, l))), (3, .inl (4, [.ref 1, .ref 343, .int fa, .int pa])), (343, .inl (2, [.int (nI ns), .ref 344, .ref 345, .ref 346, .ref 347, .int (nI nt), .ref 348, .ref 349, .ref 350, .ref 351, .ref 352, .ref 353, .ref 354, .int ce, .ref 355, .ref 356, .ref 357, .ref 358])), (346, .inr (.inl (0, tr))), (347, .inr (.inl (0, le)))] h0 := K.go K9 rfl rfl rfl
      clear K9
      show j_W jP _ 36 14 [(2, .int (nI k)), (0, .ref 3), (1, .int (nI s))] [] h9 _
      refine j_W.one xr_M xr_14 (by decide) (pcJ := 15) (stJ := [.int (nI k)]) rfl ?_
      simp only [rT]
      refine j_W.ifc xr_M xr_15 (t := 41) rfl (fun c => ?_) (fun c => ?_)
      · rw [jk_le] at c; have c := of_decide_eq_true c; rw [nI_toInt (by omega), show (0 : Int32).toInt = 0 from rfl] at c
        rw [if_neg (fun z => by have := z.1; omega)]
        clear c
        refine j_W.one xr_M xr_41 (by decide) (pcJ := 42) (stJ := [.ref 3]) rfl ?_
        refine j_W.one xr_M xr_42 (by decide) (pcJ := 43) (stJ := [.int 1, .ref 3]) rfl ?_
        refine j_W.one xr_M xr_43 (by decide) (pcJ := 45) (stJ := [.int 99, .int 1, .ref 3]) rfl ?_
        refine j_W.call xr_M xr_45 rfl (md := 3) (mj := 40) rfl (by decide) xi_M (As := [.ref 3, .int 1, .int 99]) (rest := []) (jk_spl3 (K.at rfl) rfl rfl rfl (Nat.le_of_ble_eq_true rfl) (Nat.le_of_ble_eq_true rfl)) (xi_ok (K.sub ⟨rfl, rfl, trivial⟩)) ?_
        rintro r h9 ⟨rfl, K9⟩
        have K : KN h9 [(1, .inl (8, [.ref 2, .int ln, .int (nI e), .int (nI (tkN (cX l) e p)), .int (tkK (cX l) e p), .int (nI (tkQ (cX l) e p)), .long (tkW l e p wo), .int (tkD l e p nu)])), (2, .inr (.inl (1, l))), (3, .inl (4, [.ref 1, .ref 343, .int (bif (nOk (tkK (cX l) e p) (tkD l e p nu) 1 99) then fa else nF (tkK (cX l) e p)), .int (bif (nOk (tkK (cX l) e p) (tkD l e p nu) 1 99) then pa else (nI (tkQ (cX l) e p)))])), (343, .inl (2, [.int (nI ns), .ref 344, .ref 345, .ref 346, .ref 347, .int (nI nt), .ref 348, .ref 349, .ref 350, .ref 351, .ref 352, .ref 353, .ref 354, .int ce, .ref 355, .ref 356, .ref 357, .ref 358])), (346, .inr (.inl (0, tr))), (347, .inr (.inl (0, le)))] h0 := K.go K9 rfl rfl rfl
        clear K9
        show j_W jP _ 36 48 [(2, .int (nI k)), (0, .ref 3), (1, .int (nI s))] [.int (bif (nOk (tkK (cX l) e p) (tkD l e p nu) 1 99) then 1 else 0)] h9 _
        cases hb : nOk (tkK (cX l) e p) (tkD l e p nu) 1 99 with
        | true =>
          rw [hb] at K
          have K : KN h9 [(1, .inl (8, [.ref 2, .int ln, .int (nI e), .int (nI (tkN (cX l) e p)), .int (tkK (cX l) e p), .int (nI (tkQ (cX l) e p)), .long (tkW l e p wo), .int (tkD l e p nu)])), (2, .inr (.inl (1, l))), (3, .inl (4, [.ref 1, .ref 343, .int fa, .int pa])), (343, .inl (2, [.int (nI ns), .ref 344, .ref 345, .ref 346, .ref 347, .int (nI nt), .ref 348, .ref 349, .ref 350, .ref 351, .ref 352, .ref 353, .ref 354, .int ce, .ref 355, .ref 356, .ref 357, .ref 358])), (346, .inr (.inl (0, tr))), (347, .inr (.inl (0, le)))] h0 := K
          show j_W jP _ 36 48 [(2, .int (nI k)), (0, .ref 3), (1, .int (nI s))] [.int 1] h9 _
          refine j_W.ifc xr_M xr_48 (t := 53) rfl (fun c => ?_) (fun c => ?_)
          · clear c
            refine j_W.one xr_M xr_53 (by decide) (pcJ := 54) (stJ := [.int (nI k)]) rfl ?_
            refine j_W.one xr_M xr_54 (by decide) (pcJ := 55) (stJ := [.int 3, .int (nI k)]) rfl ?_
            refine j_W.icmp xr_M xr_55 (t := 78) rfl (fun c => ?_) (fun c => ?_)
            · rw [jk_ge] at c; have c := of_decide_eq_true c; rw [nI_toInt (by omega), show (3 : Int32).toInt = 3 from rfl] at c; have c9 : ¬ k < 3 := by omega
              clear c
              refine j_W.one xr_M xr_78 (by decide) (pcJ := 81) (lv' := [(2, .int ((nI k) + 1)), (0, .ref 3), (1, .int (nI s))]) (stJ := []) rfl ?_
              refine j_W.gto xr_M xr_81 (t := 2) rfl ?_
              have t9 := ih (k + 1) (tkN (cX l) e p) (tkK (cX l) e p) (nI (tkQ (cX l) e p)) (tkW l e p wo) (tkD l e p nu) tr (if k < 3 then le.set (3 * s + k) (tkD l e p nu) else le) h9 (by omega) (tkN_le hp) ht (by split <;> simp [hle]) (by rw [if_neg c9]; exact K)
              rw [nI_succ] at t9
              exact t9
            · rw [jk_ge] at c; have c := of_decide_eq_false c; rw [nI_toInt (by omega), show (3 : Int32).toInt = 3 from rfl] at c; have c9 : k < 3 := by omega
              clear c
              refine j_W.one xr_M xr_58 (by decide) (pcJ := 59) (stJ := [.ref 3]) rfl ?_
              refine j_W.getK xr_M xr_59 (ci := 4) (j := 1) rfl K rfl rfl ?_
              refine j_W.getK xr_M xr_62 (ci := 2) (j := 4) rfl K rfl rfl ?_
              refine j_W.one xr_M xr_65 (by decide) (pcJ := 66) (stJ := [.int (nI s), .ref 347]) rfl ?_
              refine j_W.one xr_M xr_66 (by decide) (pcJ := 67) (stJ := [.int 3, .int (nI s), .ref 347]) rfl ?_
              refine j_W.one xr_M xr_67 (by decide) (pcJ := 68) (stJ := [.int ((nI s) * 3), .ref 347]) rfl ?_
              refine j_W.one xr_M xr_68 (by decide) (pcJ := 69) (stJ := [.int (nI k), .int ((nI s) * 3), .ref 347]) rfl ?_
              refine j_W.one xr_M xr_69 (by decide) (pcJ := 70) (stJ := [.int (((nI s) * 3) + (nI k)), .ref 347]) rfl ?_
              refine j_W.one xr_M xr_70 (by decide) (pcJ := 71) (stJ := [.ref 3, .int (((nI s) * 3) + (nI k)), .ref 347]) rfl ?_
              refine j_W.getK xr_M xr_71 (ci := 4) (j := 0) rfl K rfl rfl ?_
              refine j_W.getK xr_M xr_74 (ci := 8) (j := 7) rfl K rfl rfl ?_
              rw [jk_ix3]
              refine j_W.iastK xr_M xr_77 (n := 3 * s + k) (k' := [(1, .inl (8, [.ref 2, .int ln, .int (nI e), .int (nI (tkN (cX l) e p)), .int (tkK (cX l) e p), .int (nI (tkQ (cX l) e p)), .long (tkW l e p wo), .int (tkD l e p nu)])), (2, .inr (.inl (1, l))), (3, .inl (4, [.ref 1, .ref 343, .int fa, .int pa])), (343, .inl (2, [.int (nI ns), .ref 344, .ref 345, .ref 346, .ref 347, .int (nI nt), .ref 348, .ref 349, .ref 350, .ref 351, .ref 352, .ref 353, .ref 354, .int ce, .ref 355, .ref 356, .ref 357, .ref 358])), (346, .inr (.inl (0, tr))), (347, .inr (.inl (0, (le.set (3 * s + k) (tkD l e p nu)))))]) K rfl (by omega) (by omega) rfl (fun h K => ?_)
              refine j_W.one xr_M xr_78 (by decide) (pcJ := 81) (lv' := [(2, .int ((nI k) + 1)), (0, .ref 3), (1, .int (nI s))]) (stJ := []) rfl ?_
              refine j_W.gto xr_M xr_81 (t := 2) rfl ?_
              have t9 := ih (k + 1) (tkN (cX l) e p) (tkK (cX l) e p) (nI (tkQ (cX l) e p)) (tkW l e p wo) (tkD l e p nu) tr (if k < 3 then le.set (3 * s + k) (tkD l e p nu) else le) h (by omega) (tkN_le hp) ht (by split <;> simp [hle]) (by rw [if_pos c9]; exact K)
              rw [nI_succ] at t9
              exact t9
          · cases c
        | false =>
          rw [hb] at K
          have K : KN h9 [(1, .inl (8, [.ref 2, .int ln, .int (nI e), .int (nI (tkN (cX l) e p)), .int (tkK (cX l) e p), .int (nI (tkQ (cX l) e p)), .long (tkW l e p wo), .int (tkD l e p nu)])), (2, .inr (.inl (1, l))), (3, .inl (4, [.ref 1, .ref 343, .int (nF (tkK (cX l) e p)), .int (nI (tkQ (cX l) e p))])), (343, .inl (2, [.int (nI ns), .ref 344, .ref 345, .ref 346, .ref 347, .int (nI nt), .ref 348, .ref 349, .ref 350, .ref 351, .ref 352, .ref 353, .ref 354, .int ce, .ref 355, .ref 356, .ref 357, .ref 358])), (346, .inr (.inl (0, tr))), (347, .inr (.inl (0, le)))] h0 := K
          show j_W jP _ 36 48 [(2, .int (nI k)), (0, .ref 3), (1, .int (nI s))] [.int 0] h9 _
          refine j_W.ifc xr_M xr_48 (t := 53) rfl (fun c => ?_) (fun c => ?_)
          · cases c
          · refine j_W.one xr_M xr_51 (by decide) (pcJ := 52) (stJ := [.int 0]) rfl ?_
            refine j_W.ret xr_M xr_52 rfl rfl ⟨rfl, K⟩
      · rw [jk_le] at c; have c := of_decide_eq_false c; rw [nI_toInt (by omega), show (0 : Int32).toInt = 0 from rfl] at c; have c1 : 0 < k := by omega
        clear c
        refine j_W.one xr_M xr_18 (by decide) (pcJ := 19) (stJ := [.ref 3]) rfl ?_
        refine j_W.getK xr_M xr_19 (ci := 4) (j := 0) rfl K rfl rfl ?_
        refine j_W.getK xr_M xr_22 (ci := 8) (j := 4) rfl K rfl rfl ?_
        refine j_W.one xr_M xr_25 (by decide) (pcJ := 26) (stJ := [.int 3, .int (tkK (cX l) e p)]) rfl ?_
        refine j_W.icmp xr_M xr_26 (t := 41) rfl (fun c => ?_) (fun c => ?_)
        · have c : ¬ (tkK (cX l) e p) = 3 := by simpa [j_cond] using c
          rw [if_neg (fun z => c z.2)]
          clear c
          refine j_W.one xr_M xr_41 (by decide) (pcJ := 42) (stJ := [.ref 3]) rfl ?_
          refine j_W.one xr_M xr_42 (by decide) (pcJ := 43) (stJ := [.int 1, .ref 3]) rfl ?_
          refine j_W.one xr_M xr_43 (by decide) (pcJ := 45) (stJ := [.int 99, .int 1, .ref 3]) rfl ?_
          refine j_W.call xr_M xr_45 rfl (md := 3) (mj := 40) rfl (by decide) xi_M (As := [.ref 3, .int 1, .int 99]) (rest := []) (jk_spl3 (K.at rfl) rfl rfl rfl (Nat.le_of_ble_eq_true rfl) (Nat.le_of_ble_eq_true rfl)) (xi_ok (K.sub ⟨rfl, rfl, trivial⟩)) ?_
          rintro r h9 ⟨rfl, K9⟩
          have K : KN h9 [(1, .inl (8, [.ref 2, .int ln, .int (nI e), .int (nI (tkN (cX l) e p)), .int (tkK (cX l) e p), .int (nI (tkQ (cX l) e p)), .long (tkW l e p wo), .int (tkD l e p nu)])), (2, .inr (.inl (1, l))), (3, .inl (4, [.ref 1, .ref 343, .int (bif (nOk (tkK (cX l) e p) (tkD l e p nu) 1 99) then fa else nF (tkK (cX l) e p)), .int (bif (nOk (tkK (cX l) e p) (tkD l e p nu) 1 99) then pa else (nI (tkQ (cX l) e p)))])), (343, .inl (2, [.int (nI ns), .ref 344, .ref 345, .ref 346, .ref 347, .int (nI nt), .ref 348, .ref 349, .ref 350, .ref 351, .ref 352, .ref 353, .ref 354, .int ce, .ref 355, .ref 356, .ref 357, .ref 358])), (346, .inr (.inl (0, tr))), (347, .inr (.inl (0, le)))] h0 := K.go K9 rfl rfl rfl
          clear K9
          show j_W jP _ 36 48 [(2, .int (nI k)), (0, .ref 3), (1, .int (nI s))] [.int (bif (nOk (tkK (cX l) e p) (tkD l e p nu) 1 99) then 1 else 0)] h9 _
          cases hb : nOk (tkK (cX l) e p) (tkD l e p nu) 1 99 with
          | true =>
            rw [hb] at K
            have K : KN h9 [(1, .inl (8, [.ref 2, .int ln, .int (nI e), .int (nI (tkN (cX l) e p)), .int (tkK (cX l) e p), .int (nI (tkQ (cX l) e p)), .long (tkW l e p wo), .int (tkD l e p nu)])), (2, .inr (.inl (1, l))), (3, .inl (4, [.ref 1, .ref 343, .int fa, .int pa])), (343, .inl (2, [.int (nI ns), .ref 344, .ref 345, .ref 346, .ref 347, .int (nI nt), .ref 348, .ref 349, .ref 350, .ref 351, .ref 352, .ref 353, .ref 354, .int ce, .ref 355, .ref 356, .ref 357, .ref 358])), (346, .inr (.inl (0, tr))), (347, .inr (.inl (0, le)))] h0 := K
            show j_W jP _ 36 48 [(2, .int (nI k)), (0, .ref 3), (1, .int (nI s))] [.int 1] h9 _
            refine j_W.ifc xr_M xr_48 (t := 53) rfl (fun c => ?_) (fun c => ?_)
            · clear c
              refine j_W.one xr_M xr_53 (by decide) (pcJ := 54) (stJ := [.int (nI k)]) rfl ?_
              refine j_W.one xr_M xr_54 (by decide) (pcJ := 55) (stJ := [.int 3, .int (nI k)]) rfl ?_
              refine j_W.icmp xr_M xr_55 (t := 78) rfl (fun c => ?_) (fun c => ?_)
              · rw [jk_ge] at c; have c := of_decide_eq_true c; rw [nI_toInt (by omega), show (3 : Int32).toInt = 3 from rfl] at c; have c9 : ¬ k < 3 := by omega
                clear c
                refine j_W.one xr_M xr_78 (by decide) (pcJ := 81) (lv' := [(2, .int ((nI k) + 1)), (0, .ref 3), (1, .int (nI s))]) (stJ := []) rfl ?_
                refine j_W.gto xr_M xr_81 (t := 2) rfl ?_
                have t9 := ih (k + 1) (tkN (cX l) e p) (tkK (cX l) e p) (nI (tkQ (cX l) e p)) (tkW l e p wo) (tkD l e p nu) tr (if k < 3 then le.set (3 * s + k) (tkD l e p nu) else le) h9 (by omega) (tkN_le hp) ht (by split <;> simp [hle]) (by rw [if_neg c9]; exact K)
                rw [nI_succ] at t9
                exact t9
              · rw [jk_ge] at c; have c := of_decide_eq_false c; rw [nI_toInt (by omega), show (3 : Int32).toInt = 3 from rfl] at c; have c9 : k < 3 := by omega
                clear c
                refine j_W.one xr_M xr_58 (by decide) (pcJ := 59) (stJ := [.ref 3]) rfl ?_
                refine j_W.getK xr_M xr_59 (ci := 4) (j := 1) rfl K rfl rfl ?_
                refine j_W.getK xr_M xr_62 (ci := 2) (j := 4) rfl K rfl rfl ?_
                refine j_W.one xr_M xr_65 (by decide) (pcJ := 66) (stJ := [.int (nI s), .ref 347]) rfl ?_
                refine j_W.one xr_M xr_66 (by decide) (pcJ := 67) (stJ := [.int 3, .int (nI s), .ref 347]) rfl ?_
                refine j_W.one xr_M xr_67 (by decide) (pcJ := 68) (stJ := [.int ((nI s) * 3), .ref 347]) rfl ?_
                refine j_W.one xr_M xr_68 (by decide) (pcJ := 69) (stJ := [.int (nI k), .int ((nI s) * 3), .ref 347]) rfl ?_
                refine j_W.one xr_M xr_69 (by decide) (pcJ := 70) (stJ := [.int (((nI s) * 3) + (nI k)), .ref 347]) rfl ?_
                refine j_W.one xr_M xr_70 (by decide) (pcJ := 71) (stJ := [.ref 3, .int (((nI s) * 3) + (nI k)), .ref 347]) rfl ?_
                refine j_W.getK xr_M xr_71 (ci := 4) (j := 0) rfl K rfl rfl ?_
                refine j_W.getK xr_M xr_74 (ci := 8) (j := 7) rfl K rfl rfl ?_
                rw [jk_ix3]
                refine j_W.iastK xr_M xr_77 (n := 3 * s + k) (k' := [(1, .inl (8, [.ref 2, .int ln, .int (nI e), .int (nI (tkN (cX l) e p)), .int (tkK (cX l) e p), .int (nI (tkQ (cX l) e p)), .long (tkW l e p wo), .int (tkD l e p nu)])), (2, .inr (.inl (1, l))), (3, .inl (4, [.ref 1, .ref 343, .int fa, .int pa])), (343, .inl (2, [.int (nI ns), .ref 344, .ref 345, .ref 346, .ref 347, .int (nI nt), .ref 348, .ref 349, .ref 350, .ref 351, .ref 352, .ref 353, .ref 354, .int ce, .ref 355, .ref 356, .ref 357, .ref 358])), (346, .inr (.inl (0, tr))), (347, .inr (.inl (0, (le.set (3 * s + k) (tkD l e p nu)))))]) K rfl (by omega) (by omega) rfl (fun h K => ?_)
                refine j_W.one xr_M xr_78 (by decide) (pcJ := 81) (lv' := [(2, .int ((nI k) + 1)), (0, .ref 3), (1, .int (nI s))]) (stJ := []) rfl ?_
                refine j_W.gto xr_M xr_81 (t := 2) rfl ?_
                have t9 := ih (k + 1) (tkN (cX l) e p) (tkK (cX l) e p) (nI (tkQ (cX l) e p)) (tkW l e p wo) (tkD l e p nu) tr (if k < 3 then le.set (3 * s + k) (tkD l e p nu) else le) h (by omega) (tkN_le hp) ht (by split <;> simp [hle]) (by rw [if_pos c9]; exact K)
                rw [nI_succ] at t9
                exact t9
            · cases c
          | false =>
            rw [hb] at K
            have K : KN h9 [(1, .inl (8, [.ref 2, .int ln, .int (nI e), .int (nI (tkN (cX l) e p)), .int (tkK (cX l) e p), .int (nI (tkQ (cX l) e p)), .long (tkW l e p wo), .int (tkD l e p nu)])), (2, .inr (.inl (1, l))), (3, .inl (4, [.ref 1, .ref 343, .int (nF (tkK (cX l) e p)), .int (nI (tkQ (cX l) e p))])), (343, .inl (2, [.int (nI ns), .ref 344, .ref 345, .ref 346, .ref 347, .int (nI nt), .ref 348, .ref 349, .ref 350, .ref 351, .ref 352, .ref 353, .ref 354, .int ce, .ref 355, .ref 356, .ref 357, .ref 358])), (346, .inr (.inl (0, tr))), (347, .inr (.inl (0, le)))] h0 := K
            show j_W jP _ 36 48 [(2, .int (nI k)), (0, .ref 3), (1, .int (nI s))] [.int 0] h9 _
            refine j_W.ifc xr_M xr_48 (t := 53) rfl (fun c => ?_) (fun c => ?_)
            · cases c
            · refine j_W.one xr_M xr_51 (by decide) (pcJ := 52) (stJ := [.int 0]) rfl ?_
              refine j_W.ret xr_M xr_52 rfl rfl ⟨rfl, K⟩
        · have c : (tkK (cX l) e p) = 3 := by simpa [j_cond] using c
          rw [if_pos ⟨c1, c⟩]
          clear c
          refine j_W.one xr_M xr_29 (by decide) (pcJ := 30) (stJ := [.ref 3]) rfl ?_
          refine j_W.getK xr_M xr_30 (ci := 4) (j := 1) rfl K rfl rfl ?_
          refine j_W.getK xr_M xr_33 (ci := 2) (j := 3) rfl K rfl rfl ?_
          refine j_W.one xr_M xr_36 (by decide) (pcJ := 37) (stJ := [.int (nI s), .ref 346]) rfl ?_
          refine j_W.one xr_M xr_37 (by decide) (pcJ := 38) (stJ := [.int (nI k), .int (nI s), .ref 346]) rfl ?_
          refine j_W.iastK xr_M xr_38 (n := s) (k' := [(1, .inl (8, [.ref 2, .int ln, .int (nI e), .int (nI (tkN (cX l) e p)), .int (tkK (cX l) e p), .int (nI (tkQ (cX l) e p)), .long (tkW l e p wo), .int (tkD l e p nu)])), (2, .inr (.inl (1, l))), (3, .inl (4, [.ref 1, .ref 343, .int fa, .int pa])), (343, .inl (2, [.int (nI ns), .ref 344, .ref 345, .ref 346, .ref 347, .int (nI nt), .ref 348, .ref 349, .ref 350, .ref 351, .ref 352, .ref 353, .ref 354, .int ce, .ref 355, .ref 356, .ref 357, .ref 358])), (346, .inr (.inl (0, (tr.set s (nI k))))), (347, .inr (.inl (0, le)))]) K rfl (by omega) (by omega) rfl (fun h K => ?_)
          refine j_W.one xr_M xr_39 (by decide) (pcJ := 40) (stJ := [.int 1]) rfl ?_
          refine j_W.ret xr_M xr_40 rfl rfl ⟨rfl, K⟩

/-! the class's scanner: written by wip/jk/gen_scan.py -/
set_option maxRecDepth 100000 in
theorem sw_M : j_meth jP 109 = some (yX8_readWord, cX8_readWord, 1, none, 0, false, 8) := rfl
set_option maxRecDepth 100000 in
theorem sw_0 : j_code jP 109 0 = some (.aload_n 0) := rfl
set_option maxRecDepth 100000 in
theorem sw_1 : j_code jP 109 1 = some (.lconst 0) := rfl
set_option maxRecDepth 100000 in
theorem sw_2 : j_code jP 109 2 = some (.putfield 47) := rfl
set_option maxRecDepth 100000 in
theorem sw_5 : j_code jP 109 5 = some (.aload_n 0) := rfl
set_option maxRecDepth 100000 in
theorem sw_6 : j_code jP 109 6 = some (.getfield 32) := rfl
set_option maxRecDepth 100000 in
theorem sw_9 : j_code jP 109 9 = some (.aload_n 0) := rfl
set_option maxRecDepth 100000 in
theorem sw_10 : j_code jP 109 10 = some (.getfield 29) := rfl
set_option maxRecDepth 100000 in
theorem sw_13 : j_code jP 109 13 = some (.if_icmp .ge 66) := rfl
set_option maxRecDepth 100000 in
theorem sw_16 : j_code jP 109 16 = some (.aload_n 0) := rfl
set_option maxRecDepth 100000 in
theorem sw_17 : j_code jP 109 17 = some (.getfield 9) := rfl
set_option maxRecDepth 100000 in
theorem sw_20 : j_code jP 109 20 = some (.aload_n 0) := rfl
set_option maxRecDepth 100000 in
theorem sw_21 : j_code jP 109 21 = some (.getfield 32) := rfl
set_option maxRecDepth 100000 in
theorem sw_24 : j_code jP 109 24 = some (.baload) := rfl
set_option maxRecDepth 100000 in
theorem sw_25 : j_code jP 109 25 = some (.bipush 97) := rfl
set_option maxRecDepth 100000 in
theorem sw_27 : j_code jP 109 27 = some (.if_icmp .lt 52) := rfl
set_option maxRecDepth 100000 in
theorem sw_30 : j_code jP 109 30 = some (.aload_n 0) := rfl
set_option maxRecDepth 100000 in
theorem sw_31 : j_code jP 109 31 = some (.getfield 9) := rfl
set_option maxRecDepth 100000 in
theorem sw_34 : j_code jP 109 34 = some (.aload_n 0) := rfl
set_option maxRecDepth 100000 in
theorem sw_35 : j_code jP 109 35 = some (.getfield 32) := rfl
set_option maxRecDepth 100000 in
theorem sw_38 : j_code jP 109 38 = some (.baload) := rfl
set_option maxRecDepth 100000 in
theorem sw_39 : j_code jP 109 39 = some (.bipush 122) := rfl
set_option maxRecDepth 100000 in
theorem sw_41 : j_code jP 109 41 = some (.if_icmp .gt 38) := rfl
set_option maxRecDepth 100000 in
theorem sw_44 : j_code jP 109 44 = some (.aload_n 0) := rfl
set_option maxRecDepth 100000 in
theorem sw_45 : j_code jP 109 45 = some (.aload_n 0) := rfl
set_option maxRecDepth 100000 in
theorem sw_46 : j_code jP 109 46 = some (.getfield 47) := rfl
set_option maxRecDepth 100000 in
theorem sw_49 : j_code jP 109 49 = some (.bipush 8) := rfl
set_option maxRecDepth 100000 in
theorem sw_51 : j_code jP 109 51 = some (.lshl) := rfl
set_option maxRecDepth 100000 in
theorem sw_52 : j_code jP 109 52 = some (.aload_n 0) := rfl
set_option maxRecDepth 100000 in
theorem sw_53 : j_code jP 109 53 = some (.getfield 9) := rfl
set_option maxRecDepth 100000 in
theorem sw_56 : j_code jP 109 56 = some (.aload_n 0) := rfl
set_option maxRecDepth 100000 in
theorem sw_57 : j_code jP 109 57 = some (.getfield 32) := rfl
set_option maxRecDepth 100000 in
theorem sw_60 : j_code jP 109 60 = some (.baload) := rfl
set_option maxRecDepth 100000 in
theorem sw_61 : j_code jP 109 61 = some (.i2l) := rfl
set_option maxRecDepth 100000 in
theorem sw_62 : j_code jP 109 62 = some (.lor) := rfl
set_option maxRecDepth 100000 in
theorem sw_63 : j_code jP 109 63 = some (.putfield 47) := rfl
set_option maxRecDepth 100000 in
theorem sw_66 : j_code jP 109 66 = some (.aload_n 0) := rfl
set_option maxRecDepth 100000 in
theorem sw_67 : j_code jP 109 67 = some (.dup) := rfl
set_option maxRecDepth 100000 in
theorem sw_68 : j_code jP 109 68 = some (.getfield 32) := rfl
set_option maxRecDepth 100000 in
theorem sw_71 : j_code jP 109 71 = some (.iconst 1) := rfl
set_option maxRecDepth 100000 in
theorem sw_72 : j_code jP 109 72 = some (.iadd) := rfl
set_option maxRecDepth 100000 in
theorem sw_73 : j_code jP 109 73 = some (.putfield 32) := rfl
set_option maxRecDepth 100000 in
theorem sw_76 : j_code jP 109 76 = some (.goto (-71)) := rfl
set_option maxRecDepth 100000 in
theorem sw_79 : j_code jP 109 79 = some (.aload_n 0) := rfl
set_option maxRecDepth 100000 in
theorem sw_80 : j_code jP 109 80 = some (.aload_n 0) := rfl
set_option maxRecDepth 100000 in
theorem sw_81 : j_code jP 109 81 = some (.getfield 32) := rfl
set_option maxRecDepth 100000 in
theorem sw_84 : j_code jP 109 84 = some (.aload_n 0) := rfl
set_option maxRecDepth 100000 in
theorem sw_85 : j_code jP 109 85 = some (.getfield 35) := rfl
set_option maxRecDepth 100000 in
theorem sw_88 : j_code jP 109 88 = some (.isub) := rfl
set_option maxRecDepth 100000 in
theorem sw_89 : j_code jP 109 89 = some (.bipush 8) := rfl
set_option maxRecDepth 100000 in
theorem sw_91 : j_code jP 109 91 = some (.if_icmp .gt 7) := rfl
set_option maxRecDepth 100000 in
theorem sw_94 : j_code jP 109 94 = some (.iconst 1) := rfl
set_option maxRecDepth 100000 in
theorem sw_95 : j_code jP 109 95 = some (.goto 4) := rfl
set_option maxRecDepth 100000 in
theorem sw_98 : j_code jP 109 98 = some (.iconst 4) := rfl
set_option maxRecDepth 100000 in
theorem sw_99 : j_code jP 109 99 = some (.putfield 38) := rfl
set_option maxRecDepth 100000 in
theorem sw_102 : j_code jP 109 102 = some (.return_) := rfl
theorem sw_end {ln kd nu : Int32} {wo : Int64} {e : Nat} {l : List Int32} {d p0 q : Nat} {h h0 : J_H} (h1 : p0 ≤ q) (h2 : q ≤ e) (he : e ≤ 700) (K : KN h [(1, .inl (8, [.ref 2, .int ln, .int (nI e), .int (nI q), .int kd, .int (nI p0), .long wo, .int nu])), (2, .inr (.inl (1, l)))] h0) : j_W jP d 109 79 [(0, .ref 1)] [] h (fun rv h' => rv = none ∧ KN h' [(1, .inl (8, [.ref 2, .int ln, .int (nI e), .int (nI q), .int (if q - p0 ≤ 8 then 1 else 4), .int (nI p0), .long wo, .int nu])), (2, .inr (.inl (1, l)))] h0) := by
  have e1 : (nI q - nI p0).toInt = ((q - p0 : Nat) : Int) := sk_sub h1 (by omega)
  refine j_W.one sw_M sw_79 (by decide) (pcJ := 80) (stJ := [.ref 1]) rfl ?_
  refine j_W.one sw_M sw_80 (by decide) (pcJ := 81) (stJ := [.ref 1, .ref 1]) rfl ?_
  refine j_W.getK sw_M sw_81 (ci := 8) (j := 3) rfl K rfl rfl ?_
  refine j_W.one sw_M sw_84 (by decide) (pcJ := 85) (stJ := [.ref 1, .int (nI q), .ref 1]) rfl ?_
  refine j_W.getK sw_M sw_85 (ci := 8) (j := 5) rfl K rfl rfl ?_
  refine j_W.one sw_M sw_88 (by decide) (pcJ := 89) (stJ := [.int ((nI q) - (nI p0)), .ref 1]) rfl ?_
  refine j_W.one sw_M sw_89 (by decide) (pcJ := 91) (stJ := [.int 8, .int ((nI q) - (nI p0)), .ref 1]) rfl ?_
  refine j_W.icmp sw_M sw_91 (t := 98) rfl (fun c => ?_) (fun c => ?_)
  · rw [jk_gt] at c; have c := of_decide_eq_true c; rw [e1, show (8 : Int32).toInt = 8 from rfl] at c; have c : 8 < q - p0 := by omega
    refine j_W.one sw_M sw_98 (by decide) (pcJ := 99) (stJ := [.int 4, .ref 1]) rfl ?_
    refine j_W.putK sw_M sw_99 (ci := 8) (j := 4) (k' := [(1, .inl (8, [.ref 2, .int ln, .int (nI e), .int (nI q), .int 4, .int (nI p0), .long wo, .int nu])), (2, .inr (.inl (1, l)))]) rfl K rfl (Nat.le_of_ble_eq_true rfl) rfl (Or.inl rfl) rfl rfl (fun h K => ?_)
    refine j_W.ret sw_M sw_102 rfl rfl ⟨rfl, ?_⟩
    rw [if_neg (by omega)]; exact K
  · rw [jk_gt] at c; have c := of_decide_eq_false c; rw [e1, show (8 : Int32).toInt = 8 from rfl] at c; have c : ¬ 8 < q - p0 := by omega
    refine j_W.one sw_M sw_94 (by decide) (pcJ := 95) (stJ := [.int 1, .ref 1]) rfl ?_
    refine j_W.gto sw_M sw_95 (t := 99) rfl ?_
    refine j_W.putK sw_M sw_99 (ci := 8) (j := 4) (k' := [(1, .inl (8, [.ref 2, .int ln, .int (nI e), .int (nI q), .int 1, .int (nI p0), .long wo, .int nu])), (2, .inr (.inl (1, l)))]) rfl K rfl (Nat.le_of_ble_eq_true rfl) rfl (Or.inl rfl) rfl rfl (fun h K => ?_)
    refine j_W.ret sw_M sw_102 rfl rfl ⟨rfl, ?_⟩
    rw [if_pos (by omega)]; exact K
theorem sw_loop {ln kd nu : Int32} {e : Nat} {l : List Int32} {d p0 : Nat} {h0 : J_H} (hl : l.length = 700) (he : e ≤ 700) : ∀ (f p : Nat) (h : J_H), p + f = e → p0 ≤ p → KN h [(1, .inl (8, [.ref 2, .int ln, .int (nI e), .int (nI p), .int kd, .int (nI p0), .long (eX l p0 (p - p0)), .int nu])), (2, .inr (.inl (1, l)))] h0 → j_W jP d 109 5 [(0, .ref 1)] [] h (fun rv h' => rv = none ∧ KN h' [(1, .inl (8, [.ref 2, .int ln, .int (nI e), .int (nI (sR sL (cX l) f p)), .int (if sR sL (cX l) f p - p0 ≤ 8 then 1 else 4), .int (nI p0), .long (eX l p0 (sR sL (cX l) f p - p0)), .int nu])), (2, .inr (.inl (1, l)))] h0) := by
  intro f
  induction f with
  | zero =>
    intro p h hf hp K
    refine j_W.one sw_M sw_5 (by decide) (pcJ := 6) (stJ := [.ref 1]) rfl ?_
    refine j_W.getK sw_M sw_6 (ci := 8) (j := 3) rfl K rfl rfl ?_
    refine j_W.one sw_M sw_9 (by decide) (pcJ := 10) (stJ := [.ref 1, .int (nI p)]) rfl ?_
    refine j_W.getK sw_M sw_10 (ci := 8) (j := 2) rfl K rfl rfl ?_
    refine j_W.icmp sw_M sw_13 (t := 79) rfl (fun c => ?_) (fun c => ?_)
    · rw [show sR sL (cX l) 0 p = p from rfl]
      exact sw_end hp (by omega) he K
    · exfalso; rw [jk_ge] at c; have c := of_decide_eq_false c; rw [nI_toInt (by omega), nI_toInt (by omega)] at c; omega
  | succ f ih =>
    intro p h hf hp K
    refine j_W.one sw_M sw_5 (by decide) (pcJ := 6) (stJ := [.ref 1]) rfl ?_
    refine j_W.getK sw_M sw_6 (ci := 8) (j := 3) rfl K rfl rfl ?_
    refine j_W.one sw_M sw_9 (by decide) (pcJ := 10) (stJ := [.ref 1, .int (nI p)]) rfl ?_
    refine j_W.getK sw_M sw_10 (ci := 8) (j := 2) rfl K rfl rfl ?_
    refine j_W.icmp sw_M sw_13 (t := 79) rfl (fun c => ?_) (fun c => ?_)
    · exfalso; rw [jk_ge] at c; have c := of_decide_eq_true c; rw [nI_toInt (by omega), nI_toInt (by omega)] at c; omega
    · refine j_W.one sw_M sw_16 (by decide) (pcJ := 17) (stJ := [.ref 1]) rfl ?_
      refine j_W.getK sw_M sw_17 (ci := 8) (j := 0) rfl K rfl rfl ?_
      refine j_W.one sw_M sw_20 (by decide) (pcJ := 21) (stJ := [.ref 1, .ref 2]) rfl ?_
      refine j_W.getK sw_M sw_21 (ci := 8) (j := 3) rfl K rfl rfl ?_
      refine j_W.baldK sw_M sw_24 K rfl (n := p) (by omega) (by omega) ?_
      refine j_W.one sw_M sw_25 (by decide) (pcJ := 27) (stJ := [.int 97, .int (l.getD p 0)]) rfl ?_
      refine j_W.icmp sw_M sw_27 (t := 79) rfl (fun c => ?_) (fun c => ?_)
      · have c0 : sL (cX l p) = false := sL_lo c
        have e0 : sR sL (cX l) (f + 1) p = p := sR_f c0
        rw [e0]
        exact sw_end hp (by omega) he K
      · have c1 := c
        refine j_W.one sw_M sw_30 (by decide) (pcJ := 31) (stJ := [.ref 1]) rfl ?_
        refine j_W.getK sw_M sw_31 (ci := 8) (j := 0) rfl K rfl rfl ?_
        refine j_W.one sw_M sw_34 (by decide) (pcJ := 35) (stJ := [.ref 1, .ref 2]) rfl ?_
        refine j_W.getK sw_M sw_35 (ci := 8) (j := 3) rfl K rfl rfl ?_
        refine j_W.baldK sw_M sw_38 K rfl (n := p) (by omega) (by omega) ?_
        refine j_W.one sw_M sw_39 (by decide) (pcJ := 41) (stJ := [.int 122, .int (l.getD p 0)]) rfl ?_
        refine j_W.icmp sw_M sw_41 (t := 79) rfl (fun c => ?_) (fun c => ?_)
        · have c0 : sL (cX l p) = false := sL_hi c
          have e0 : sR sL (cX l) (f + 1) p = p := sR_f c0
          rw [e0]
          exact sw_end hp (by omega) he K
        · have c0 : sL (cX l p) = true := sL_in c1 c
          have e0 : sR sL (cX l) (f + 1) p = sR sL (cX l) f (p + 1) := sR_t c0
          refine j_W.one sw_M sw_44 (by decide) (pcJ := 45) (stJ := [.ref 1]) rfl ?_
          refine j_W.one sw_M sw_45 (by decide) (pcJ := 46) (stJ := [.ref 1, .ref 1]) rfl ?_
          refine j_W.getK sw_M sw_46 (ci := 8) (j := 6) rfl K rfl rfl ?_
          refine j_W.one sw_M sw_49 (by decide) (pcJ := 51) (stJ := [.int 8, .long (eX l p0 (p - p0)), .ref 1]) rfl ?_
          refine j_W.one sw_M sw_51 (by decide) (pcJ := 52) (stJ := [.long ((eX l p0 (p - p0)) <<< ((8 : Int32).toInt64 &&& 63)), .ref 1]) rfl ?_
          refine j_W.one sw_M sw_52 (by decide) (pcJ := 53) (stJ := [.ref 1, .long ((eX l p0 (p - p0)) <<< ((8 : Int32).toInt64 &&& 63)), .ref 1]) rfl ?_
          refine j_W.getK sw_M sw_53 (ci := 8) (j := 0) rfl K rfl rfl ?_
          refine j_W.one sw_M sw_56 (by decide) (pcJ := 57) (stJ := [.ref 1, .ref 2, .long ((eX l p0 (p - p0)) <<< ((8 : Int32).toInt64 &&& 63)), .ref 1]) rfl ?_
          refine j_W.getK sw_M sw_57 (ci := 8) (j := 3) rfl K rfl rfl ?_
          refine j_W.baldK sw_M sw_60 K rfl (n := p) (by omega) (by omega) ?_
          refine j_W.one sw_M sw_61 (by decide) (pcJ := 62) (stJ := [.long ((l.getD p 0).toInt64), .long ((eX l p0 (p - p0)) <<< ((8 : Int32).toInt64 &&& 63)), .ref 1]) rfl ?_
          refine j_W.one sw_M sw_62 (by decide) (pcJ := 63) (stJ := [.long (((eX l p0 (p - p0)) <<< ((8 : Int32).toInt64 &&& 63)) ||| ((l.getD p 0).toInt64)), .ref 1]) rfl ?_
          refine j_W.putK sw_M sw_63 (ci := 8) (j := 6) (k' := [(1, .inl (8, [.ref 2, .int ln, .int (nI e), .int (nI p), .int kd, .int (nI p0), .long (((eX l p0 (p - p0)) <<< ((8 : Int32).toInt64 &&& 63)) ||| ((l.getD p 0).toInt64)), .int nu])), (2, .inr (.inl (1, l)))]) rfl K rfl (Nat.le_of_ble_eq_true rfl) rfl (Or.inl rfl) rfl rfl (fun h K => ?_)
          refine j_W.one sw_M sw_66 (by decide) (pcJ := 67) (stJ := [.ref 1]) rfl ?_
          refine j_W.one sw_M sw_67 (by decide) (pcJ := 68) (stJ := [.ref 1, .ref 1]) rfl ?_
          refine j_W.getK sw_M sw_68 (ci := 8) (j := 3) rfl K rfl rfl ?_
          refine j_W.one sw_M sw_71 (by decide) (pcJ := 72) (stJ := [.int 1, .int (nI p), .ref 1]) rfl ?_
          refine j_W.one sw_M sw_72 (by decide) (pcJ := 73) (stJ := [.int ((nI p) + 1), .ref 1]) rfl ?_
          refine j_W.putK sw_M sw_73 (ci := 8) (j := 3) (k' := [(1, .inl (8, [.ref 2, .int ln, .int (nI e), .int ((nI p) + 1), .int kd, .int (nI p0), .long (((eX l p0 (p - p0)) <<< ((8 : Int32).toInt64 &&& 63)) ||| ((l.getD p 0).toInt64)), .int nu])), (2, .inr (.inl (1, l)))]) rfl K rfl (Nat.le_of_ble_eq_true rfl) rfl (Or.inl rfl) rfl rfl (fun h K => ?_)
          refine j_W.gto sw_M sw_76 (t := 5) rfl ?_
          rw [e0]
          refine ih (p + 1) h (by omega) (by omega) ?_
          rw [show p + 1 - p0 = (p - p0) + 1 by omega]
          have e2 : eX l p0 ((p - p0) + 1) = _ := rfl
          unfold eX
          rw [show p0 + (p - p0) = p by omega, nI_succ]
          exact K
set_option maxRecDepth 100000 in
theorem sn_M : j_meth jP 110 = some (yX8_readNumber, cX8_readNumber, 1, none, 0, false, 8) := rfl
set_option maxRecDepth 100000 in
theorem sn_0 : j_code jP 110 0 = some (.aload_n 0) := rfl
set_option maxRecDepth 100000 in
theorem sn_1 : j_code jP 110 1 = some (.iconst 0) := rfl
set_option maxRecDepth 100000 in
theorem sn_2 : j_code jP 110 2 = some (.putfield 51) := rfl
set_option maxRecDepth 100000 in
theorem sn_5 : j_code jP 110 5 = some (.aload_n 0) := rfl
set_option maxRecDepth 100000 in
theorem sn_6 : j_code jP 110 6 = some (.getfield 32) := rfl
set_option maxRecDepth 100000 in
theorem sn_9 : j_code jP 110 9 = some (.aload_n 0) := rfl
set_option maxRecDepth 100000 in
theorem sn_10 : j_code jP 110 10 = some (.getfield 29) := rfl
set_option maxRecDepth 100000 in
theorem sn_13 : j_code jP 110 13 = some (.if_icmp .ge 68) := rfl
set_option maxRecDepth 100000 in
theorem sn_16 : j_code jP 110 16 = some (.aload_n 0) := rfl
set_option maxRecDepth 100000 in
theorem sn_17 : j_code jP 110 17 = some (.getfield 9) := rfl
set_option maxRecDepth 100000 in
theorem sn_20 : j_code jP 110 20 = some (.aload_n 0) := rfl
set_option maxRecDepth 100000 in
theorem sn_21 : j_code jP 110 21 = some (.getfield 32) := rfl
set_option maxRecDepth 100000 in
theorem sn_24 : j_code jP 110 24 = some (.baload) := rfl
set_option maxRecDepth 100000 in
theorem sn_25 : j_code jP 110 25 = some (.bipush 48) := rfl
set_option maxRecDepth 100000 in
theorem sn_27 : j_code jP 110 27 = some (.if_icmp .lt 54) := rfl
set_option maxRecDepth 100000 in
theorem sn_30 : j_code jP 110 30 = some (.aload_n 0) := rfl
set_option maxRecDepth 100000 in
theorem sn_31 : j_code jP 110 31 = some (.getfield 9) := rfl
set_option maxRecDepth 100000 in
theorem sn_34 : j_code jP 110 34 = some (.aload_n 0) := rfl
set_option maxRecDepth 100000 in
theorem sn_35 : j_code jP 110 35 = some (.getfield 32) := rfl
set_option maxRecDepth 100000 in
theorem sn_38 : j_code jP 110 38 = some (.baload) := rfl
set_option maxRecDepth 100000 in
theorem sn_39 : j_code jP 110 39 = some (.bipush 57) := rfl
set_option maxRecDepth 100000 in
theorem sn_41 : j_code jP 110 41 = some (.if_icmp .gt 40) := rfl
set_option maxRecDepth 100000 in
theorem sn_44 : j_code jP 110 44 = some (.aload_n 0) := rfl
set_option maxRecDepth 100000 in
theorem sn_45 : j_code jP 110 45 = some (.bipush 10) := rfl
set_option maxRecDepth 100000 in
theorem sn_47 : j_code jP 110 47 = some (.aload_n 0) := rfl
set_option maxRecDepth 100000 in
theorem sn_48 : j_code jP 110 48 = some (.getfield 51) := rfl
set_option maxRecDepth 100000 in
theorem sn_51 : j_code jP 110 51 = some (.imul) := rfl
set_option maxRecDepth 100000 in
theorem sn_52 : j_code jP 110 52 = some (.aload_n 0) := rfl
set_option maxRecDepth 100000 in
theorem sn_53 : j_code jP 110 53 = some (.getfield 9) := rfl
set_option maxRecDepth 100000 in
theorem sn_56 : j_code jP 110 56 = some (.aload_n 0) := rfl
set_option maxRecDepth 100000 in
theorem sn_57 : j_code jP 110 57 = some (.getfield 32) := rfl
set_option maxRecDepth 100000 in
theorem sn_60 : j_code jP 110 60 = some (.baload) := rfl
set_option maxRecDepth 100000 in
theorem sn_61 : j_code jP 110 61 = some (.iadd) := rfl
set_option maxRecDepth 100000 in
theorem sn_62 : j_code jP 110 62 = some (.bipush 48) := rfl
set_option maxRecDepth 100000 in
theorem sn_64 : j_code jP 110 64 = some (.isub) := rfl
set_option maxRecDepth 100000 in
theorem sn_65 : j_code jP 110 65 = some (.putfield 51) := rfl
set_option maxRecDepth 100000 in
theorem sn_68 : j_code jP 110 68 = some (.aload_n 0) := rfl
set_option maxRecDepth 100000 in
theorem sn_69 : j_code jP 110 69 = some (.dup) := rfl
set_option maxRecDepth 100000 in
theorem sn_70 : j_code jP 110 70 = some (.getfield 32) := rfl
set_option maxRecDepth 100000 in
theorem sn_73 : j_code jP 110 73 = some (.iconst 1) := rfl
set_option maxRecDepth 100000 in
theorem sn_74 : j_code jP 110 74 = some (.iadd) := rfl
set_option maxRecDepth 100000 in
theorem sn_75 : j_code jP 110 75 = some (.putfield 32) := rfl
set_option maxRecDepth 100000 in
theorem sn_78 : j_code jP 110 78 = some (.goto (-73)) := rfl
set_option maxRecDepth 100000 in
theorem sn_81 : j_code jP 110 81 = some (.aload_n 0) := rfl
set_option maxRecDepth 100000 in
theorem sn_82 : j_code jP 110 82 = some (.aload_n 0) := rfl
set_option maxRecDepth 100000 in
theorem sn_83 : j_code jP 110 83 = some (.getfield 32) := rfl
set_option maxRecDepth 100000 in
theorem sn_86 : j_code jP 110 86 = some (.aload_n 0) := rfl
set_option maxRecDepth 100000 in
theorem sn_87 : j_code jP 110 87 = some (.getfield 35) := rfl
set_option maxRecDepth 100000 in
theorem sn_90 : j_code jP 110 90 = some (.isub) := rfl
set_option maxRecDepth 100000 in
theorem sn_91 : j_code jP 110 91 = some (.iconst 3) := rfl
set_option maxRecDepth 100000 in
theorem sn_92 : j_code jP 110 92 = some (.if_icmp .gt 7) := rfl
set_option maxRecDepth 100000 in
theorem sn_95 : j_code jP 110 95 = some (.iconst 2) := rfl
set_option maxRecDepth 100000 in
theorem sn_96 : j_code jP 110 96 = some (.goto 4) := rfl
set_option maxRecDepth 100000 in
theorem sn_99 : j_code jP 110 99 = some (.iconst 4) := rfl
set_option maxRecDepth 100000 in
theorem sn_100 : j_code jP 110 100 = some (.putfield 38) := rfl
set_option maxRecDepth 100000 in
theorem sn_103 : j_code jP 110 103 = some (.return_) := rfl
theorem sn_end {ln kd nu : Int32} {wo : Int64} {e : Nat} {l : List Int32} {d p0 q : Nat} {h h0 : J_H} (h1 : p0 ≤ q) (h2 : q ≤ e) (he : e ≤ 700) (K : KN h [(1, .inl (8, [.ref 2, .int ln, .int (nI e), .int (nI q), .int kd, .int (nI p0), .long wo, .int nu])), (2, .inr (.inl (1, l)))] h0) : j_W jP d 110 81 [(0, .ref 1)] [] h (fun rv h' => rv = none ∧ KN h' [(1, .inl (8, [.ref 2, .int ln, .int (nI e), .int (nI q), .int (if q - p0 ≤ 3 then 2 else 4), .int (nI p0), .long wo, .int nu])), (2, .inr (.inl (1, l)))] h0) := by
  have e1 : (nI q - nI p0).toInt = ((q - p0 : Nat) : Int) := sk_sub h1 (by omega)
  refine j_W.one sn_M sn_81 (by decide) (pcJ := 82) (stJ := [.ref 1]) rfl ?_
  refine j_W.one sn_M sn_82 (by decide) (pcJ := 83) (stJ := [.ref 1, .ref 1]) rfl ?_
  refine j_W.getK sn_M sn_83 (ci := 8) (j := 3) rfl K rfl rfl ?_
  refine j_W.one sn_M sn_86 (by decide) (pcJ := 87) (stJ := [.ref 1, .int (nI q), .ref 1]) rfl ?_
  refine j_W.getK sn_M sn_87 (ci := 8) (j := 5) rfl K rfl rfl ?_
  refine j_W.one sn_M sn_90 (by decide) (pcJ := 91) (stJ := [.int ((nI q) - (nI p0)), .ref 1]) rfl ?_
  refine j_W.one sn_M sn_91 (by decide) (pcJ := 92) (stJ := [.int 3, .int ((nI q) - (nI p0)), .ref 1]) rfl ?_
  refine j_W.icmp sn_M sn_92 (t := 99) rfl (fun c => ?_) (fun c => ?_)
  · rw [jk_gt] at c; have c := of_decide_eq_true c; rw [e1, show (3 : Int32).toInt = 3 from rfl] at c; have c : 3 < q - p0 := by omega
    refine j_W.one sn_M sn_99 (by decide) (pcJ := 100) (stJ := [.int 4, .ref 1]) rfl ?_
    refine j_W.putK sn_M sn_100 (ci := 8) (j := 4) (k' := [(1, .inl (8, [.ref 2, .int ln, .int (nI e), .int (nI q), .int 4, .int (nI p0), .long wo, .int nu])), (2, .inr (.inl (1, l)))]) rfl K rfl (Nat.le_of_ble_eq_true rfl) rfl (Or.inl rfl) rfl rfl (fun h K => ?_)
    refine j_W.ret sn_M sn_103 rfl rfl ⟨rfl, ?_⟩
    rw [if_neg (by omega)]; exact K
  · rw [jk_gt] at c; have c := of_decide_eq_false c; rw [e1, show (3 : Int32).toInt = 3 from rfl] at c; have c : ¬ 3 < q - p0 := by omega
    refine j_W.one sn_M sn_95 (by decide) (pcJ := 96) (stJ := [.int 2, .ref 1]) rfl ?_
    refine j_W.gto sn_M sn_96 (t := 100) rfl ?_
    refine j_W.putK sn_M sn_100 (ci := 8) (j := 4) (k' := [(1, .inl (8, [.ref 2, .int ln, .int (nI e), .int (nI q), .int 2, .int (nI p0), .long wo, .int nu])), (2, .inr (.inl (1, l)))]) rfl K rfl (Nat.le_of_ble_eq_true rfl) rfl (Or.inl rfl) rfl rfl (fun h K => ?_)
    refine j_W.ret sn_M sn_103 rfl rfl ⟨rfl, ?_⟩
    rw [if_pos (by omega)]; exact K
theorem sn_loop {ln kd : Int32} {wo : Int64} {e : Nat} {l : List Int32} {d p0 : Nat} {h0 : J_H} (hl : l.length = 700) (he : e ≤ 700) : ∀ (f p : Nat) (h : J_H), p + f = e → p0 ≤ p → KN h [(1, .inl (8, [.ref 2, .int ln, .int (nI e), .int (nI p), .int kd, .int (nI p0), .long wo, .int (dX l p0 (p - p0))])), (2, .inr (.inl (1, l)))] h0 → j_W jP d 110 5 [(0, .ref 1)] [] h (fun rv h' => rv = none ∧ KN h' [(1, .inl (8, [.ref 2, .int ln, .int (nI e), .int (nI (sR sD (cX l) f p)), .int (if sR sD (cX l) f p - p0 ≤ 3 then 2 else 4), .int (nI p0), .long wo, .int (dX l p0 (sR sD (cX l) f p - p0))])), (2, .inr (.inl (1, l)))] h0) := by
  intro f
  induction f with
  | zero =>
    intro p h hf hp K
    refine j_W.one sn_M sn_5 (by decide) (pcJ := 6) (stJ := [.ref 1]) rfl ?_
    refine j_W.getK sn_M sn_6 (ci := 8) (j := 3) rfl K rfl rfl ?_
    refine j_W.one sn_M sn_9 (by decide) (pcJ := 10) (stJ := [.ref 1, .int (nI p)]) rfl ?_
    refine j_W.getK sn_M sn_10 (ci := 8) (j := 2) rfl K rfl rfl ?_
    refine j_W.icmp sn_M sn_13 (t := 81) rfl (fun c => ?_) (fun c => ?_)
    · rw [show sR sD (cX l) 0 p = p from rfl]
      exact sn_end hp (by omega) he K
    · exfalso; rw [jk_ge] at c; have c := of_decide_eq_false c; rw [nI_toInt (by omega), nI_toInt (by omega)] at c; omega
  | succ f ih =>
    intro p h hf hp K
    refine j_W.one sn_M sn_5 (by decide) (pcJ := 6) (stJ := [.ref 1]) rfl ?_
    refine j_W.getK sn_M sn_6 (ci := 8) (j := 3) rfl K rfl rfl ?_
    refine j_W.one sn_M sn_9 (by decide) (pcJ := 10) (stJ := [.ref 1, .int (nI p)]) rfl ?_
    refine j_W.getK sn_M sn_10 (ci := 8) (j := 2) rfl K rfl rfl ?_
    refine j_W.icmp sn_M sn_13 (t := 81) rfl (fun c => ?_) (fun c => ?_)
    · exfalso; rw [jk_ge] at c; have c := of_decide_eq_true c; rw [nI_toInt (by omega), nI_toInt (by omega)] at c; omega
    · refine j_W.one sn_M sn_16 (by decide) (pcJ := 17) (stJ := [.ref 1]) rfl ?_
      refine j_W.getK sn_M sn_17 (ci := 8) (j := 0) rfl K rfl rfl ?_
      refine j_W.one sn_M sn_20 (by decide) (pcJ := 21) (stJ := [.ref 1, .ref 2]) rfl ?_
      refine j_W.getK sn_M sn_21 (ci := 8) (j := 3) rfl K rfl rfl ?_
      refine j_W.baldK sn_M sn_24 K rfl (n := p) (by omega) (by omega) ?_
      refine j_W.one sn_M sn_25 (by decide) (pcJ := 27) (stJ := [.int 48, .int (l.getD p 0)]) rfl ?_
      refine j_W.icmp sn_M sn_27 (t := 81) rfl (fun c => ?_) (fun c => ?_)
      · have c0 : sD (cX l p) = false := sD_lo c
        have e0 : sR sD (cX l) (f + 1) p = p := sR_f c0
        rw [e0]
        exact sn_end hp (by omega) he K
      · have c1 := c
        refine j_W.one sn_M sn_30 (by decide) (pcJ := 31) (stJ := [.ref 1]) rfl ?_
        refine j_W.getK sn_M sn_31 (ci := 8) (j := 0) rfl K rfl rfl ?_
        refine j_W.one sn_M sn_34 (by decide) (pcJ := 35) (stJ := [.ref 1, .ref 2]) rfl ?_
        refine j_W.getK sn_M sn_35 (ci := 8) (j := 3) rfl K rfl rfl ?_
        refine j_W.baldK sn_M sn_38 K rfl (n := p) (by omega) (by omega) ?_
        refine j_W.one sn_M sn_39 (by decide) (pcJ := 41) (stJ := [.int 57, .int (l.getD p 0)]) rfl ?_
        refine j_W.icmp sn_M sn_41 (t := 81) rfl (fun c => ?_) (fun c => ?_)
        · have c0 : sD (cX l p) = false := sD_hi c
          have e0 : sR sD (cX l) (f + 1) p = p := sR_f c0
          rw [e0]
          exact sn_end hp (by omega) he K
        · have c0 : sD (cX l p) = true := sD_in c1 c
          have e0 : sR sD (cX l) (f + 1) p = sR sD (cX l) f (p + 1) := sR_t c0
          refine j_W.one sn_M sn_44 (by decide) (pcJ := 45) (stJ := [.ref 1]) rfl ?_
          refine j_W.one sn_M sn_45 (by decide) (pcJ := 47) (stJ := [.int 10, .ref 1]) rfl ?_
          refine j_W.one sn_M sn_47 (by decide) (pcJ := 48) (stJ := [.ref 1, .int 10, .ref 1]) rfl ?_
          refine j_W.getK sn_M sn_48 (ci := 8) (j := 7) rfl K rfl rfl ?_
          refine j_W.one sn_M sn_51 (by decide) (pcJ := 52) (stJ := [.int (10 * (dX l p0 (p - p0))), .ref 1]) rfl ?_
          refine j_W.one sn_M sn_52 (by decide) (pcJ := 53) (stJ := [.ref 1, .int (10 * (dX l p0 (p - p0))), .ref 1]) rfl ?_
          refine j_W.getK sn_M sn_53 (ci := 8) (j := 0) rfl K rfl rfl ?_
          refine j_W.one sn_M sn_56 (by decide) (pcJ := 57) (stJ := [.ref 1, .ref 2, .int (10 * (dX l p0 (p - p0))), .ref 1]) rfl ?_
          refine j_W.getK sn_M sn_57 (ci := 8) (j := 3) rfl K rfl rfl ?_
          refine j_W.baldK sn_M sn_60 K rfl (n := p) (by omega) (by omega) ?_
          refine j_W.one sn_M sn_61 (by decide) (pcJ := 62) (stJ := [.int ((10 * (dX l p0 (p - p0))) + (l.getD p 0)), .ref 1]) rfl ?_
          refine j_W.one sn_M sn_62 (by decide) (pcJ := 64) (stJ := [.int 48, .int ((10 * (dX l p0 (p - p0))) + (l.getD p 0)), .ref 1]) rfl ?_
          refine j_W.one sn_M sn_64 (by decide) (pcJ := 65) (stJ := [.int (((10 * (dX l p0 (p - p0))) + (l.getD p 0)) - 48), .ref 1]) rfl ?_
          refine j_W.putK sn_M sn_65 (ci := 8) (j := 7) (k' := [(1, .inl (8, [.ref 2, .int ln, .int (nI e), .int (nI p), .int kd, .int (nI p0), .long wo, .int (((10 * (dX l p0 (p - p0))) + (l.getD p 0)) - 48)])), (2, .inr (.inl (1, l)))]) rfl K rfl (Nat.le_of_ble_eq_true rfl) rfl (Or.inl rfl) rfl rfl (fun h K => ?_)
          refine j_W.one sn_M sn_68 (by decide) (pcJ := 69) (stJ := [.ref 1]) rfl ?_
          refine j_W.one sn_M sn_69 (by decide) (pcJ := 70) (stJ := [.ref 1, .ref 1]) rfl ?_
          refine j_W.getK sn_M sn_70 (ci := 8) (j := 3) rfl K rfl rfl ?_
          refine j_W.one sn_M sn_73 (by decide) (pcJ := 74) (stJ := [.int 1, .int (nI p), .ref 1]) rfl ?_
          refine j_W.one sn_M sn_74 (by decide) (pcJ := 75) (stJ := [.int ((nI p) + 1), .ref 1]) rfl ?_
          refine j_W.putK sn_M sn_75 (ci := 8) (j := 3) (k' := [(1, .inl (8, [.ref 2, .int ln, .int (nI e), .int ((nI p) + 1), .int kd, .int (nI p0), .long wo, .int (((10 * (dX l p0 (p - p0))) + (l.getD p 0)) - 48)])), (2, .inr (.inl (1, l)))]) rfl K rfl (Nat.le_of_ble_eq_true rfl) rfl (Or.inl rfl) rfl rfl (fun h K => ?_)
          refine j_W.gto sn_M sn_78 (t := 5) rfl ?_
          rw [e0]
          refine ih (p + 1) h (by omega) (by omega) ?_
          rw [show p + 1 - p0 = (p - p0) + 1 by omega]
          have e2 : dX l p0 ((p - p0) + 1) = _ := rfl
          unfold dX
          rw [show p0 + (p - p0) = p by omega, nI_succ]
          exact K
theorem sw_ok {ln kd nu : Int32} {wo : Int64} {e : Nat} {l : List Int32} {d p : Nat} {h h0 : J_H} (hl : l.length = 700) (he : e ≤ 700) (hp : p ≤ e) (K : KN h [(1, .inl (8, [.ref 2, .int ln, .int (nI e), .int (nI p), .int kd, .int (nI p), .long wo, .int nu])), (2, .inr (.inl (1, l)))] h0) : j_W jP d 109 0 (lv_args 0 [.ref 1]) [] h (fun rv h' => rv = none ∧ KN h' [(1, .inl (8, [.ref 2, .int ln, .int (nI e), .int (nI (sR sL (cX l) (e - p) p)), .int (if sR sL (cX l) (e - p) p - p ≤ 8 then 1 else 4), .int (nI p), .long (eX l p (sR sL (cX l) (e - p) p - p)), .int nu])), (2, .inr (.inl (1, l)))] h0) := by
  show j_W jP d 109 0 [(0, .ref 1)] [] h _
  refine j_W.one sw_M sw_0 (by decide) (pcJ := 1) (stJ := [.ref 1]) rfl ?_
  refine j_W.one sw_M sw_1 (by decide) (pcJ := 2) (stJ := [.long 0, .ref 1]) rfl ?_
  refine j_W.putK sw_M sw_2 (ci := 8) (j := 6) (k' := [(1, .inl (8, [.ref 2, .int ln, .int (nI e), .int (nI p), .int kd, .int (nI p), .long 0, .int nu])), (2, .inr (.inl (1, l)))]) rfl K rfl (Nat.le_of_ble_eq_true rfl) rfl (Or.inl rfl) rfl rfl (fun h K => ?_)
  exact sw_loop hl he (e - p) p h (by omega) (Nat.le_refl _) (by rw [Nat.sub_self]; exact K)
theorem sn_ok {ln kd nu : Int32} {wo : Int64} {e : Nat} {l : List Int32} {d p : Nat} {h h0 : J_H} (hl : l.length = 700) (he : e ≤ 700) (hp : p ≤ e) (K : KN h [(1, .inl (8, [.ref 2, .int ln, .int (nI e), .int (nI p), .int kd, .int (nI p), .long wo, .int nu])), (2, .inr (.inl (1, l)))] h0) : j_W jP d 110 0 (lv_args 0 [.ref 1]) [] h (fun rv h' => rv = none ∧ KN h' [(1, .inl (8, [.ref 2, .int ln, .int (nI e), .int (nI (sR sD (cX l) (e - p) p)), .int (if sR sD (cX l) (e - p) p - p ≤ 3 then 2 else 4), .int (nI p), .long wo, .int (dX l p (sR sD (cX l) (e - p) p - p))])), (2, .inr (.inl (1, l)))] h0) := by
  show j_W jP d 110 0 [(0, .ref 1)] [] h _
  refine j_W.one sn_M sn_0 (by decide) (pcJ := 1) (stJ := [.ref 1]) rfl ?_
  refine j_W.one sn_M sn_1 (by decide) (pcJ := 2) (stJ := [.int 0, .ref 1]) rfl ?_
  refine j_W.putK sn_M sn_2 (ci := 8) (j := 7) (k' := [(1, .inl (8, [.ref 2, .int ln, .int (nI e), .int (nI p), .int kd, .int (nI p), .long wo, .int 0])), (2, .inr (.inl (1, l)))]) rfl K rfl (Nat.le_of_ble_eq_true rfl) rfl (Or.inl rfl) rfl rfl (fun h K => ?_)
  exact sn_loop hl he (e - p) p h (by omega) (Nat.le_refl _) (by rw [Nat.sub_self]; exact K)
set_option maxRecDepth 100000 in
theorem sa_M : j_meth jP 107 = some (yX8_advance, cX8_advance, 2, none, 0, false, 8) := rfl
set_option maxRecDepth 100000 in
theorem sa_0 : j_code jP 107 0 = some (.aload_n 0) := rfl
set_option maxRecDepth 100000 in
theorem sa_1 : j_code jP 107 1 = some (.getfield 32) := rfl
set_option maxRecDepth 100000 in
theorem sa_4 : j_code jP 107 4 = some (.aload_n 0) := rfl
set_option maxRecDepth 100000 in
theorem sa_5 : j_code jP 107 5 = some (.getfield 29) := rfl
set_option maxRecDepth 100000 in
theorem sa_8 : j_code jP 107 8 = some (.if_icmp .ge 44) := rfl
set_option maxRecDepth 100000 in
theorem sa_11 : j_code jP 107 11 = some (.aload_n 0) := rfl
set_option maxRecDepth 100000 in
theorem sa_12 : j_code jP 107 12 = some (.getfield 9) := rfl
set_option maxRecDepth 100000 in
theorem sa_15 : j_code jP 107 15 = some (.aload_n 0) := rfl
set_option maxRecDepth 100000 in
theorem sa_16 : j_code jP 107 16 = some (.getfield 32) := rfl
set_option maxRecDepth 100000 in
theorem sa_19 : j_code jP 107 19 = some (.baload) := rfl
set_option maxRecDepth 100000 in
theorem sa_20 : j_code jP 107 20 = some (.bipush 10) := rfl
set_option maxRecDepth 100000 in
theorem sa_22 : j_code jP 107 22 = some (.if_icmp .eq 17) := rfl
set_option maxRecDepth 100000 in
theorem sa_25 : j_code jP 107 25 = some (.aload_n 0) := rfl
set_option maxRecDepth 100000 in
theorem sa_26 : j_code jP 107 26 = some (.getfield 9) := rfl
set_option maxRecDepth 100000 in
theorem sa_29 : j_code jP 107 29 = some (.aload_n 0) := rfl
set_option maxRecDepth 100000 in
theorem sa_30 : j_code jP 107 30 = some (.getfield 32) := rfl
set_option maxRecDepth 100000 in
theorem sa_33 : j_code jP 107 33 = some (.baload) := rfl
set_option maxRecDepth 100000 in
theorem sa_34 : j_code jP 107 34 = some (.bipush 32) := rfl
set_option maxRecDepth 100000 in
theorem sa_36 : j_code jP 107 36 = some (.if_icmp .ne 16) := rfl
set_option maxRecDepth 100000 in
theorem sa_39 : j_code jP 107 39 = some (.aload_n 0) := rfl
set_option maxRecDepth 100000 in
theorem sa_40 : j_code jP 107 40 = some (.dup) := rfl
set_option maxRecDepth 100000 in
theorem sa_41 : j_code jP 107 41 = some (.getfield 32) := rfl
set_option maxRecDepth 100000 in
theorem sa_44 : j_code jP 107 44 = some (.iconst 1) := rfl
set_option maxRecDepth 100000 in
theorem sa_45 : j_code jP 107 45 = some (.iadd) := rfl
set_option maxRecDepth 100000 in
theorem sa_46 : j_code jP 107 46 = some (.putfield 32) := rfl
set_option maxRecDepth 100000 in
theorem sa_49 : j_code jP 107 49 = some (.goto (-49)) := rfl
set_option maxRecDepth 100000 in
theorem sa_52 : j_code jP 107 52 = some (.aload_n 0) := rfl
set_option maxRecDepth 100000 in
theorem sa_53 : j_code jP 107 53 = some (.aload_n 0) := rfl
set_option maxRecDepth 100000 in
theorem sa_54 : j_code jP 107 54 = some (.getfield 32) := rfl
set_option maxRecDepth 100000 in
theorem sa_57 : j_code jP 107 57 = some (.putfield 35) := rfl
set_option maxRecDepth 100000 in
theorem sa_60 : j_code jP 107 60 = some (.aload_n 0) := rfl
set_option maxRecDepth 100000 in
theorem sa_61 : j_code jP 107 61 = some (.getfield 32) := rfl
set_option maxRecDepth 100000 in
theorem sa_64 : j_code jP 107 64 = some (.aload_n 0) := rfl
set_option maxRecDepth 100000 in
theorem sa_65 : j_code jP 107 65 = some (.getfield 29) := rfl
set_option maxRecDepth 100000 in
theorem sa_68 : j_code jP 107 68 = some (.if_icmp .lt 9) := rfl
set_option maxRecDepth 100000 in
theorem sa_71 : j_code jP 107 71 = some (.aload_n 0) := rfl
set_option maxRecDepth 100000 in
theorem sa_72 : j_code jP 107 72 = some (.iconst 0) := rfl
set_option maxRecDepth 100000 in
theorem sa_73 : j_code jP 107 73 = some (.putfield 38) := rfl
set_option maxRecDepth 100000 in
theorem sa_76 : j_code jP 107 76 = some (.return_) := rfl
set_option maxRecDepth 100000 in
theorem sa_77 : j_code jP 107 77 = some (.aload_n 0) := rfl
set_option maxRecDepth 100000 in
theorem sa_78 : j_code jP 107 78 = some (.getfield 9) := rfl
set_option maxRecDepth 100000 in
theorem sa_81 : j_code jP 107 81 = some (.aload_n 0) := rfl
set_option maxRecDepth 100000 in
theorem sa_82 : j_code jP 107 82 = some (.getfield 32) := rfl
set_option maxRecDepth 100000 in
theorem sa_85 : j_code jP 107 85 = some (.baload) := rfl
set_option maxRecDepth 100000 in
theorem sa_86 : j_code jP 107 86 = some (.istore_n 1) := rfl
set_option maxRecDepth 100000 in
theorem sa_87 : j_code jP 107 87 = some (.iload_n 1) := rfl
set_option maxRecDepth 100000 in
theorem sa_88 : j_code jP 107 88 = some (.bipush 97) := rfl
set_option maxRecDepth 100000 in
theorem sa_90 : j_code jP 107 90 = some (.if_icmp .lt 16) := rfl
set_option maxRecDepth 100000 in
theorem sa_93 : j_code jP 107 93 = some (.iload_n 1) := rfl
set_option maxRecDepth 100000 in
theorem sa_94 : j_code jP 107 94 = some (.bipush 122) := rfl
set_option maxRecDepth 100000 in
theorem sa_96 : j_code jP 107 96 = some (.if_icmp .gt 10) := rfl
set_option maxRecDepth 100000 in
theorem sa_99 : j_code jP 107 99 = some (.aload_n 0) := rfl
set_option maxRecDepth 100000 in
theorem sa_100 : j_code jP 107 100 = some (.invokevirtual 41) := rfl
set_option maxRecDepth 100000 in
theorem sa_103 : j_code jP 107 103 = some (.goto 47) := rfl
set_option maxRecDepth 100000 in
theorem sa_106 : j_code jP 107 106 = some (.iload_n 1) := rfl
set_option maxRecDepth 100000 in
theorem sa_107 : j_code jP 107 107 = some (.bipush 48) := rfl
set_option maxRecDepth 100000 in
theorem sa_109 : j_code jP 107 109 = some (.if_icmp .lt 16) := rfl
set_option maxRecDepth 100000 in
theorem sa_112 : j_code jP 107 112 = some (.iload_n 1) := rfl
set_option maxRecDepth 100000 in
theorem sa_113 : j_code jP 107 113 = some (.bipush 57) := rfl
set_option maxRecDepth 100000 in
theorem sa_115 : j_code jP 107 115 = some (.if_icmp .gt 10) := rfl
set_option maxRecDepth 100000 in
theorem sa_118 : j_code jP 107 118 = some (.aload_n 0) := rfl
set_option maxRecDepth 100000 in
theorem sa_119 : j_code jP 107 119 = some (.invokevirtual 44) := rfl
set_option maxRecDepth 100000 in
theorem sa_122 : j_code jP 107 122 = some (.goto 28) := rfl
set_option maxRecDepth 100000 in
theorem sa_125 : j_code jP 107 125 = some (.aload_n 0) := rfl
set_option maxRecDepth 100000 in
theorem sa_126 : j_code jP 107 126 = some (.iload_n 1) := rfl
set_option maxRecDepth 100000 in
theorem sa_127 : j_code jP 107 127 = some (.bipush 59) := rfl
set_option maxRecDepth 100000 in
theorem sa_129 : j_code jP 107 129 = some (.if_icmp .ne 7) := rfl
set_option maxRecDepth 100000 in
theorem sa_132 : j_code jP 107 132 = some (.iconst 3) := rfl
set_option maxRecDepth 100000 in
theorem sa_133 : j_code jP 107 133 = some (.goto 4) := rfl
set_option maxRecDepth 100000 in
theorem sa_136 : j_code jP 107 136 = some (.iconst 4) := rfl
set_option maxRecDepth 100000 in
theorem sa_137 : j_code jP 107 137 = some (.putfield 38) := rfl
set_option maxRecDepth 100000 in
theorem sa_140 : j_code jP 107 140 = some (.aload_n 0) := rfl
set_option maxRecDepth 100000 in
theorem sa_141 : j_code jP 107 141 = some (.dup) := rfl
set_option maxRecDepth 100000 in
theorem sa_142 : j_code jP 107 142 = some (.getfield 32) := rfl
set_option maxRecDepth 100000 in
theorem sa_145 : j_code jP 107 145 = some (.iconst 1) := rfl
set_option maxRecDepth 100000 in
theorem sa_146 : j_code jP 107 146 = some (.iadd) := rfl
set_option maxRecDepth 100000 in
theorem sa_147 : j_code jP 107 147 = some (.putfield 32) := rfl
set_option maxRecDepth 100000 in
theorem sa_150 : j_code jP 107 150 = some (.return_) := rfl
theorem sa_x125 {ln kd nu : Int32} {wo : Int64} {e : Nat} {l : List Int32} {d p q : Nat} {h h0 : J_H} (hl : l.length = 700) (he : e ≤ 700) (hq : tkQ (cX l) e p = q) (hp : q < e) (f0 : (l.getD q 0).toInt = cX l q) (hL : sL (cX l q) = false) (hD : sD (cX l q) = false) (K : KN h [(1, .inl (8, [.ref 2, .int ln, .int (nI e), .int (nI q), .int kd, .int (nI q), .long wo, .int nu])), (2, .inr (.inl (1, l)))] h0) : j_W jP (d + 1) 107 125 [(1, .int (l.getD q 0)), (0, .ref 1)] [] h (fun rv h' => rv = none ∧ KN h' [(1, .inl (8, [.ref 2, .int ln, .int (nI e), .int (nI (tkN (cX l) e p)), .int (tkK (cX l) e p), .int (nI (tkQ (cX l) e p)), .long (tkW l e p wo), .int (tkD l e p nu)])), (2, .inr (.inl (1, l)))] h0) := by
  refine j_W.one sa_M sa_125 (by decide) (pcJ := 126) (stJ := [.ref 1]) rfl ?_
  refine j_W.one sa_M sa_126 (by decide) (pcJ := 127) (stJ := [.int (l.getD q 0), .ref 1]) rfl ?_
  refine j_W.one sa_M sa_127 (by decide) (pcJ := 129) (stJ := [.int 59, .int (l.getD q 0), .ref 1]) rfl ?_
  refine j_W.icmp sa_M sa_129 (t := 136) rfl (fun c => ?_) (fun c => ?_)
  · rw [jk_ne] at c
    refine j_W.one sa_M sa_136 (by decide) (pcJ := 137) (stJ := [.int 4, .ref 1]) rfl ?_
    refine j_W.putK sa_M sa_137 (ci := 8) (j := 4) (k' := [(1, .inl (8, [.ref 2, .int ln, .int (nI e), .int (nI q), .int 4, .int (nI q), .long wo, .int nu])), (2, .inr (.inl (1, l)))]) rfl K rfl (Nat.le_of_ble_eq_true rfl) rfl (Or.inl rfl) rfl rfl (fun h K => ?_)
    refine j_W.one sa_M sa_140 (by decide) (pcJ := 141) (stJ := [.ref 1]) rfl ?_
    refine j_W.one sa_M sa_141 (by decide) (pcJ := 142) (stJ := [.ref 1, .ref 1]) rfl ?_
    refine j_W.getK sa_M sa_142 (ci := 8) (j := 3) rfl K rfl rfl ?_
    refine j_W.one sa_M sa_145 (by decide) (pcJ := 146) (stJ := [.int 1, .int (nI q), .ref 1]) rfl ?_
    refine j_W.one sa_M sa_146 (by decide) (pcJ := 147) (stJ := [.int ((nI q) + 1), .ref 1]) rfl ?_
    refine j_W.putK sa_M sa_147 (ci := 8) (j := 3) (k' := [(1, .inl (8, [.ref 2, .int ln, .int (nI e), .int ((nI q) + 1), .int 4, .int (nI q), .long wo, .int nu])), (2, .inr (.inl (1, l)))]) rfl K rfl (Nat.le_of_ble_eq_true rfl) rfl (Or.inl rfl) rfl rfl (fun h K => ?_)
    refine j_W.ret sa_M sa_150 rfl rfl ⟨rfl, ?_⟩
    obtain ⟨k1, k2, k3, k4⟩ := (tk_oth (wo := wo) (nu := nu) hq hp hL hD)
    rw [k1, k2, k3, k4, hq]
    rw [if_neg (show ¬ cX l q = 59 from by rw [← f0]; simpa using c), nI_succ]; exact K
  · rw [jk_ne] at c
    refine j_W.one sa_M sa_132 (by decide) (pcJ := 133) (stJ := [.int 3, .ref 1]) rfl ?_
    refine j_W.gto sa_M sa_133 (t := 137) rfl ?_
    refine j_W.putK sa_M sa_137 (ci := 8) (j := 4) (k' := [(1, .inl (8, [.ref 2, .int ln, .int (nI e), .int (nI q), .int 3, .int (nI q), .long wo, .int nu])), (2, .inr (.inl (1, l)))]) rfl K rfl (Nat.le_of_ble_eq_true rfl) rfl (Or.inl rfl) rfl rfl (fun h K => ?_)
    refine j_W.one sa_M sa_140 (by decide) (pcJ := 141) (stJ := [.ref 1]) rfl ?_
    refine j_W.one sa_M sa_141 (by decide) (pcJ := 142) (stJ := [.ref 1, .ref 1]) rfl ?_
    refine j_W.getK sa_M sa_142 (ci := 8) (j := 3) rfl K rfl rfl ?_
    refine j_W.one sa_M sa_145 (by decide) (pcJ := 146) (stJ := [.int 1, .int (nI q), .ref 1]) rfl ?_
    refine j_W.one sa_M sa_146 (by decide) (pcJ := 147) (stJ := [.int ((nI q) + 1), .ref 1]) rfl ?_
    refine j_W.putK sa_M sa_147 (ci := 8) (j := 3) (k' := [(1, .inl (8, [.ref 2, .int ln, .int (nI e), .int ((nI q) + 1), .int 3, .int (nI q), .long wo, .int nu])), (2, .inr (.inl (1, l)))]) rfl K rfl (Nat.le_of_ble_eq_true rfl) rfl (Or.inl rfl) rfl rfl (fun h K => ?_)
    refine j_W.ret sa_M sa_150 rfl rfl ⟨rfl, ?_⟩
    obtain ⟨k1, k2, k3, k4⟩ := (tk_oth (wo := wo) (nu := nu) hq hp hL hD)
    rw [k1, k2, k3, k4, hq]
    rw [if_pos (show cX l q = 59 from by rw [← f0]; simpa using c), nI_succ]; exact K
theorem sa_x106 {ln kd nu : Int32} {wo : Int64} {e : Nat} {l : List Int32} {d p q : Nat} {h h0 : J_H} (hl : l.length = 700) (he : e ≤ 700) (hq : tkQ (cX l) e p = q) (hp : q < e) (f0 : (l.getD q 0).toInt = cX l q) (hL : sL (cX l q) = false) (K : KN h [(1, .inl (8, [.ref 2, .int ln, .int (nI e), .int (nI q), .int kd, .int (nI q), .long wo, .int nu])), (2, .inr (.inl (1, l)))] h0) : j_W jP (d + 1) 107 106 [(1, .int (l.getD q 0)), (0, .ref 1)] [] h (fun rv h' => rv = none ∧ KN h' [(1, .inl (8, [.ref 2, .int ln, .int (nI e), .int (nI (tkN (cX l) e p)), .int (tkK (cX l) e p), .int (nI (tkQ (cX l) e p)), .long (tkW l e p wo), .int (tkD l e p nu)])), (2, .inr (.inl (1, l)))] h0) := by
  refine j_W.one sa_M sa_106 (by decide) (pcJ := 107) (stJ := [.int (l.getD q 0)]) rfl ?_
  refine j_W.one sa_M sa_107 (by decide) (pcJ := 109) (stJ := [.int 48, .int (l.getD q 0)]) rfl ?_
  refine j_W.icmp sa_M sa_109 (t := 125) rfl (fun c => ?_) (fun c => ?_)
  · exact sa_x125 hl he hq hp f0 hL (f0 ▸ sD_lo c) K
  · have c1 := c
    refine j_W.one sa_M sa_112 (by decide) (pcJ := 113) (stJ := [.int (l.getD q 0)]) rfl ?_
    refine j_W.one sa_M sa_113 (by decide) (pcJ := 115) (stJ := [.int 57, .int (l.getD q 0)]) rfl ?_
    refine j_W.icmp sa_M sa_115 (t := 125) rfl (fun c => ?_) (fun c => ?_)
    · exact sa_x125 hl he hq hp f0 hL (f0 ▸ sD_hi c) K
    · refine j_W.one sa_M sa_118 (by decide) (pcJ := 119) (stJ := [.ref 1]) rfl ?_
      refine j_W.call sa_M sa_119 rfl (md := 3) (mj := 110) rfl (by decide) sn_M (As := [.ref 1]) (rest := []) (jk_spl3 (K.at rfl) rfl rfl rfl (Nat.zero_le _) (Nat.le_of_ble_eq_true rfl)) (sn_ok hl he (by omega) K) ?_
      rintro r h ⟨rfl, K⟩
      show j_W jP (d + 1) 107 122 [(1, .int (l.getD q 0)), (0, .ref 1)] [] h _
      refine j_W.gto sa_M sa_122 (t := 150) rfl ?_
      refine j_W.ret sa_M sa_150 rfl rfl ⟨rfl, ?_⟩
      obtain ⟨k1, k2, k3, k4⟩ := (tk_dig (wo := wo) (nu := nu) hq hp hL (f0 ▸ sD_in c1 c))
      rw [k1, k2, k3, k4, hq]
      exact K
theorem sa_x52 {ln kd pl nu : Int32} {wo : Int64} {e : Nat} {l : List Int32} {d p q : Nat} {h h0 : J_H} (hl : l.length = 700) (he : e ≤ 700) (hq : tkQ (cX l) e p = q) (hqe : q ≤ e) (K : KN h [(1, .inl (8, [.ref 2, .int ln, .int (nI e), .int (nI q), .int kd, .int pl, .long wo, .int nu])), (2, .inr (.inl (1, l)))] h0) : j_W jP (d + 1) 107 52 [(0, .ref 1)] [] h (fun rv h' => rv = none ∧ KN h' [(1, .inl (8, [.ref 2, .int ln, .int (nI e), .int (nI (tkN (cX l) e p)), .int (tkK (cX l) e p), .int (nI (tkQ (cX l) e p)), .long (tkW l e p wo), .int (tkD l e p nu)])), (2, .inr (.inl (1, l)))] h0) := by
  refine j_W.one sa_M sa_52 (by decide) (pcJ := 53) (stJ := [.ref 1]) rfl ?_
  refine j_W.one sa_M sa_53 (by decide) (pcJ := 54) (stJ := [.ref 1, .ref 1]) rfl ?_
  refine j_W.getK sa_M sa_54 (ci := 8) (j := 3) rfl K rfl rfl ?_
  refine j_W.putK sa_M sa_57 (ci := 8) (j := 5) (k' := [(1, .inl (8, [.ref 2, .int ln, .int (nI e), .int (nI q), .int kd, .int (nI q), .long wo, .int nu])), (2, .inr (.inl (1, l)))]) rfl K rfl (Nat.le_of_ble_eq_true rfl) rfl (Or.inl rfl) rfl rfl (fun h K => ?_)
  refine j_W.one sa_M sa_60 (by decide) (pcJ := 61) (stJ := [.ref 1]) rfl ?_
  refine j_W.getK sa_M sa_61 (ci := 8) (j := 3) rfl K rfl rfl ?_
  refine j_W.one sa_M sa_64 (by decide) (pcJ := 65) (stJ := [.ref 1, .int (nI q)]) rfl ?_
  refine j_W.getK sa_M sa_65 (ci := 8) (j := 2) rfl K rfl rfl ?_
  refine j_W.icmp sa_M sa_68 (t := 77) rfl (fun c => ?_) (fun c => ?_)
  · rw [sk_lt] at c; have c := of_decide_eq_true c; rw [nI_toInt (by omega), nI_toInt (by omega)] at c; have hp : q < e := by omega
    have f0 : (l.getD q 0).toInt = cX l q := rfl
    clear c
    refine j_W.one sa_M sa_77 (by decide) (pcJ := 78) (stJ := [.ref 1]) rfl ?_
    refine j_W.getK sa_M sa_78 (ci := 8) (j := 0) rfl K rfl rfl ?_
    refine j_W.one sa_M sa_81 (by decide) (pcJ := 82) (stJ := [.ref 1, .ref 2]) rfl ?_
    refine j_W.getK sa_M sa_82 (ci := 8) (j := 3) rfl K rfl rfl ?_
    refine j_W.baldK sa_M sa_85 K rfl (n := q) (by omega) (by omega) ?_
    refine j_W.one sa_M sa_86 (by decide) (pcJ := 87) (lv' := [(1, .int (l.getD q 0)), (0, .ref 1)]) (stJ := []) rfl ?_
    refine j_W.one sa_M sa_87 (by decide) (pcJ := 88) (stJ := [.int (l.getD q 0)]) rfl ?_
    refine j_W.one sa_M sa_88 (by decide) (pcJ := 90) (stJ := [.int 97, .int (l.getD q 0)]) rfl ?_
    refine j_W.icmp sa_M sa_90 (t := 106) rfl (fun c => ?_) (fun c => ?_)
    · exact sa_x106 hl he hq hp f0 (f0 ▸ sL_lo c) K
    · have c1 := c
      refine j_W.one sa_M sa_93 (by decide) (pcJ := 94) (stJ := [.int (l.getD q 0)]) rfl ?_
      refine j_W.one sa_M sa_94 (by decide) (pcJ := 96) (stJ := [.int 122, .int (l.getD q 0)]) rfl ?_
      refine j_W.icmp sa_M sa_96 (t := 106) rfl (fun c => ?_) (fun c => ?_)
      · exact sa_x106 hl he hq hp f0 (f0 ▸ sL_hi c) K
      · refine j_W.one sa_M sa_99 (by decide) (pcJ := 100) (stJ := [.ref 1]) rfl ?_
        refine j_W.call sa_M sa_100 rfl (md := 3) (mj := 109) rfl (by decide) sw_M (As := [.ref 1]) (rest := []) (jk_spl3 (K.at rfl) rfl rfl rfl (Nat.zero_le _) (Nat.le_of_ble_eq_true rfl)) (sw_ok hl he (by omega) K) ?_
        rintro r h ⟨rfl, K⟩
        show j_W jP (d + 1) 107 103 [(1, .int (l.getD q 0)), (0, .ref 1)] [] h _
        refine j_W.gto sa_M sa_103 (t := 150) rfl ?_
        refine j_W.ret sa_M sa_150 rfl rfl ⟨rfl, ?_⟩
        obtain ⟨k1, k2, k3, k4⟩ := (tk_let (wo := wo) (nu := nu) hq hp (f0 ▸ sL_in c1 c))
        rw [k1, k2, k3, k4, hq]
        exact K
  · rw [sk_lt] at c; have c := of_decide_eq_false c; rw [nI_toInt (by omega), nI_toInt (by omega)] at c; have hp : e ≤ q := by omega
    refine j_W.one sa_M sa_71 (by decide) (pcJ := 72) (stJ := [.ref 1]) rfl ?_
    refine j_W.one sa_M sa_72 (by decide) (pcJ := 73) (stJ := [.int 0, .ref 1]) rfl ?_
    refine j_W.putK sa_M sa_73 (ci := 8) (j := 4) (k' := [(1, .inl (8, [.ref 2, .int ln, .int (nI e), .int (nI q), .int 0, .int (nI q), .long wo, .int nu])), (2, .inr (.inl (1, l)))]) rfl K rfl (Nat.le_of_ble_eq_true rfl) rfl (Or.inl rfl) rfl rfl (fun h K => ?_)
    refine j_W.ret sa_M sa_76 rfl rfl ⟨rfl, ?_⟩
    obtain ⟨k1, k2, k3, k4⟩ := (tk_end (wo := wo) (nu := nu) hq hp)
    rw [k1, k2, k3, k4, hq]
    exact K
theorem sa_ws {ln kd pl nu : Int32} {wo : Int64} {e : Nat} {l : List Int32} {d : Nat} {h0 : J_H} {Q : Option Value → J_H → Prop} (hl : l.length = 700) (he : e ≤ 700) : ∀ (f p : Nat) (h : J_H), p + f = e → KN h [(1, .inl (8, [.ref 2, .int ln, .int (nI e), .int (nI p), .int kd, .int pl, .long wo, .int nu])), (2, .inr (.inl (1, l)))] h0 → (∀ h, KN h [(1, .inl (8, [.ref 2, .int ln, .int (nI e), .int (nI (sR sW (cX l) f p)), .int kd, .int pl, .long wo, .int nu])), (2, .inr (.inl (1, l)))] h0 → j_W jP d 107 52 [(0, .ref 1)] [] h Q) → j_W jP d 107 0 [(0, .ref 1)] [] h Q := by
  intro f
  induction f with
  | zero =>
    intro p h hf K k
    refine j_W.one sa_M sa_0 (by decide) (pcJ := 1) (stJ := [.ref 1]) rfl ?_
    refine j_W.getK sa_M sa_1 (ci := 8) (j := 3) rfl K rfl rfl ?_
    refine j_W.one sa_M sa_4 (by decide) (pcJ := 5) (stJ := [.ref 1, .int (nI p)]) rfl ?_
    refine j_W.getK sa_M sa_5 (ci := 8) (j := 2) rfl K rfl rfl ?_
    refine j_W.icmp sa_M sa_8 (t := 52) rfl (fun c => ?_) (fun c => ?_)
    · exact k h K
    · exfalso; rw [jk_ge] at c; have c := of_decide_eq_false c; rw [nI_toInt (by omega), nI_toInt (by omega)] at c; omega
  | succ f ih =>
    intro p h hf K k
    refine j_W.one sa_M sa_0 (by decide) (pcJ := 1) (stJ := [.ref 1]) rfl ?_
    refine j_W.getK sa_M sa_1 (ci := 8) (j := 3) rfl K rfl rfl ?_
    refine j_W.one sa_M sa_4 (by decide) (pcJ := 5) (stJ := [.ref 1, .int (nI p)]) rfl ?_
    refine j_W.getK sa_M sa_5 (ci := 8) (j := 2) rfl K rfl rfl ?_
    refine j_W.icmp sa_M sa_8 (t := 52) rfl (fun c => ?_) (fun c => ?_)
    · exfalso; rw [jk_ge] at c; have c := of_decide_eq_true c; rw [nI_toInt (by omega), nI_toInt (by omega)] at c; omega
    · refine j_W.one sa_M sa_11 (by decide) (pcJ := 12) (stJ := [.ref 1]) rfl ?_
      refine j_W.getK sa_M sa_12 (ci := 8) (j := 0) rfl K rfl rfl ?_
      refine j_W.one sa_M sa_15 (by decide) (pcJ := 16) (stJ := [.ref 1, .ref 2]) rfl ?_
      refine j_W.getK sa_M sa_16 (ci := 8) (j := 3) rfl K rfl rfl ?_
      refine j_W.baldK sa_M sa_19 K rfl (n := p) (by omega) (by omega) ?_
      refine j_W.one sa_M sa_20 (by decide) (pcJ := 22) (stJ := [.int 10, .int (l.getD p 0)]) rfl ?_
      refine j_W.icmp sa_M sa_22 (t := 39) rfl (fun c => ?_) (fun c => ?_)
      · have c0 : sW (cX l p) = true := sW_a c
        refine j_W.one sa_M sa_39 (by decide) (pcJ := 40) (stJ := [.ref 1]) rfl ?_
        refine j_W.one sa_M sa_40 (by decide) (pcJ := 41) (stJ := [.ref 1, .ref 1]) rfl ?_
        refine j_W.getK sa_M sa_41 (ci := 8) (j := 3) rfl K rfl rfl ?_
        refine j_W.one sa_M sa_44 (by decide) (pcJ := 45) (stJ := [.int 1, .int (nI p), .ref 1]) rfl ?_
        refine j_W.one sa_M sa_45 (by decide) (pcJ := 46) (stJ := [.int ((nI p) + 1), .ref 1]) rfl ?_
        refine j_W.putK sa_M sa_46 (ci := 8) (j := 3) (k' := [(1, .inl (8, [.ref 2, .int ln, .int (nI e), .int ((nI p) + 1), .int kd, .int pl, .long wo, .int nu])), (2, .inr (.inl (1, l)))]) rfl K rfl (Nat.le_of_ble_eq_true rfl) rfl (Or.inl rfl) rfl rfl (fun h K => ?_)
        refine j_W.gto sa_M sa_49 (t := 0) rfl ?_
        rw [sR_t c0] at k
        refine ih (p + 1) h (by omega) ?_ k
        rw [nI_succ]; exact K
      · have c1 := c
        refine j_W.one sa_M sa_25 (by decide) (pcJ := 26) (stJ := [.ref 1]) rfl ?_
        refine j_W.getK sa_M sa_26 (ci := 8) (j := 0) rfl K rfl rfl ?_
        refine j_W.one sa_M sa_29 (by decide) (pcJ := 30) (stJ := [.ref 1, .ref 2]) rfl ?_
        refine j_W.getK sa_M sa_30 (ci := 8) (j := 3) rfl K rfl rfl ?_
        refine j_W.baldK sa_M sa_33 K rfl (n := p) (by omega) (by omega) ?_
        refine j_W.one sa_M sa_34 (by decide) (pcJ := 36) (stJ := [.int 32, .int (l.getD p 0)]) rfl ?_
        refine j_W.icmp sa_M sa_36 (t := 52) rfl (fun c => ?_) (fun c => ?_)
        · rw [sR_f (sW_n c1 c)] at k
          exact k h K
        · have c0 : sW (cX l p) = true := sW_b c
          refine j_W.one sa_M sa_39 (by decide) (pcJ := 40) (stJ := [.ref 1]) rfl ?_
          refine j_W.one sa_M sa_40 (by decide) (pcJ := 41) (stJ := [.ref 1, .ref 1]) rfl ?_
          refine j_W.getK sa_M sa_41 (ci := 8) (j := 3) rfl K rfl rfl ?_
          refine j_W.one sa_M sa_44 (by decide) (pcJ := 45) (stJ := [.int 1, .int (nI p), .ref 1]) rfl ?_
          refine j_W.one sa_M sa_45 (by decide) (pcJ := 46) (stJ := [.int ((nI p) + 1), .ref 1]) rfl ?_
          refine j_W.putK sa_M sa_46 (ci := 8) (j := 3) (k' := [(1, .inl (8, [.ref 2, .int ln, .int (nI e), .int ((nI p) + 1), .int kd, .int pl, .long wo, .int nu])), (2, .inr (.inl (1, l)))]) rfl K rfl (Nat.le_of_ble_eq_true rfl) rfl (Or.inl rfl) rfl rfl (fun h K => ?_)
          refine j_W.gto sa_M sa_49 (t := 0) rfl ?_
          rw [sR_t c0] at k
          refine ih (p + 1) h (by omega) ?_ k
          rw [nI_succ]; exact K
theorem sa_ok {ln kd pl nu : Int32} {wo : Int64} {e : Nat} {l : List Int32} {d p : Nat} {h h0 : J_H} (hl : l.length = 700) (he : e ≤ 700) (hp : p ≤ e) (K : KN h [(1, .inl (8, [.ref 2, .int ln, .int (nI e), .int (nI p), .int kd, .int pl, .long wo, .int nu])), (2, .inr (.inl (1, l)))] h0) : j_W jP (d + 1) 107 0 (lv_args 0 [.ref 1]) [] h (fun rv h' => rv = none ∧ KN h' [(1, .inl (8, [.ref 2, .int ln, .int (nI e), .int (nI (tkN (cX l) e p)), .int (tkK (cX l) e p), .int (nI (tkQ (cX l) e p)), .long (tkW l e p wo), .int (tkD l e p nu)])), (2, .inr (.inl (1, l)))] h0) := sa_ws hl he (e - p) p h (by omega) K (fun h K => sa_x52 hl he rfl (tkQ_ge hp).2 K)

/-! the class's acts (state 4, layout 327), by wip/px/gen_y2.py -/
set_option maxRecDepth 100000 in
theorem xa77_M : j_meth jP 150 = some (yX9_hold, cX9_hold, 3, (some .int), 2, false, 9) := rfl
set_option maxRecDepth 100000 in
theorem xa77_0 : j_code jP 150 0 = some (.iload_n 2) := rfl
set_option maxRecDepth 100000 in
theorem xa77_1 : j_code jP 150 1 = some (.iconst 1) := rfl
set_option maxRecDepth 100000 in
theorem xa77_2 : j_code jP 150 2 = some (.bipush 99) := rfl
set_option maxRecDepth 100000 in
theorem xa77_4 : j_code jP 150 4 = some (.invokestatic 138) := rfl
set_option maxRecDepth 100000 in
theorem xa77_7 : j_code jP 150 7 = some (.ifCond .ne 9) := rfl
set_option maxRecDepth 100000 in
theorem xa77_10 : j_code jP 150 10 = some (.aload_n 0) := rfl
set_option maxRecDepth 100000 in
theorem xa77_11 : j_code jP 150 11 = some (.iconst 1) := rfl
set_option maxRecDepth 100000 in
theorem xa77_12 : j_code jP 150 12 = some (.invokevirtual 84) := rfl
set_option maxRecDepth 100000 in
theorem xa77_15 : j_code jP 150 15 = some (.ireturn) := rfl
set_option maxRecDepth 100000 in
theorem xa77_16 : j_code jP 150 16 = some (.aload_n 0) := rfl
set_option maxRecDepth 100000 in
theorem xa77_17 : j_code jP 150 17 = some (.iload_n 1) := rfl
set_option maxRecDepth 100000 in
theorem xa77_18 : j_code jP 150 18 = some (.invokevirtual 184) := rfl
set_option maxRecDepth 100000 in
theorem xa77_21 : j_code jP 150 21 = some (.ifCond .ne 9) := rfl
set_option maxRecDepth 100000 in
theorem xa77_24 : j_code jP 150 24 = some (.aload_n 0) := rfl
set_option maxRecDepth 100000 in
theorem xa77_25 : j_code jP 150 25 = some (.iconst 2) := rfl
set_option maxRecDepth 100000 in
theorem xa77_26 : j_code jP 150 26 = some (.invokevirtual 84) := rfl
set_option maxRecDepth 100000 in
theorem xa77_29 : j_code jP 150 29 = some (.ireturn) := rfl
set_option maxRecDepth 100000 in
theorem xa77_30 : j_code jP 150 30 = some (.aload_n 0) := rfl
set_option maxRecDepth 100000 in
theorem xa77_31 : j_code jP 150 31 = some (.getfield 30) := rfl
set_option maxRecDepth 100000 in
theorem xa77_34 : j_code jP 150 34 = some (.getfield 205) := rfl
set_option maxRecDepth 100000 in
theorem xa77_37 : j_code jP 150 37 = some (.iload_n 1) := rfl
set_option maxRecDepth 100000 in
theorem xa77_38 : j_code jP 150 38 = some (.iaload) := rfl
set_option maxRecDepth 100000 in
theorem xa77_39 : j_code jP 150 39 = some (.iconst 3) := rfl
set_option maxRecDepth 100000 in
theorem xa77_40 : j_code jP 150 40 = some (.if_icmp .ne 9) := rfl
set_option maxRecDepth 100000 in
theorem xa77_43 : j_code jP 150 43 = some (.aload_n 0) := rfl
set_option maxRecDepth 100000 in
theorem xa77_44 : j_code jP 150 44 = some (.iconst 4) := rfl
set_option maxRecDepth 100000 in
theorem xa77_45 : j_code jP 150 45 = some (.invokevirtual 84) := rfl
set_option maxRecDepth 100000 in
theorem xa77_48 : j_code jP 150 48 = some (.ireturn) := rfl
set_option maxRecDepth 100000 in
theorem xa77_49 : j_code jP 150 49 = some (.aload_n 0) := rfl
set_option maxRecDepth 100000 in
theorem xa77_50 : j_code jP 150 50 = some (.getfield 37) := rfl
set_option maxRecDepth 100000 in
theorem xa77_53 : j_code jP 150 53 = some (.aload_n 0) := rfl
set_option maxRecDepth 100000 in
theorem xa77_54 : j_code jP 150 54 = some (.getfield 30) := rfl
set_option maxRecDepth 100000 in
theorem xa77_57 : j_code jP 150 57 = some (.invokevirtual 357) := rfl
set_option maxRecDepth 100000 in
theorem xa77_60 : j_code jP 150 60 = some (.aload_n 0) := rfl
set_option maxRecDepth 100000 in
theorem xa77_61 : j_code jP 150 61 = some (.getfield 30) := rfl
set_option maxRecDepth 100000 in
theorem xa77_64 : j_code jP 150 64 = some (.getfield 365) := rfl
set_option maxRecDepth 100000 in
theorem xa77_67 : j_code jP 150 67 = some (.iload_n 1) := rfl
set_option maxRecDepth 100000 in
theorem xa77_68 : j_code jP 150 68 = some (.aload_n 0) := rfl
set_option maxRecDepth 100000 in
theorem xa77_69 : j_code jP 150 69 = some (.getfield 30) := rfl
set_option maxRecDepth 100000 in
theorem xa77_72 : j_code jP 150 72 = some (.getfield 116) := rfl
set_option maxRecDepth 100000 in
theorem xa77_75 : j_code jP 150 75 = some (.iload_n 2) := rfl
set_option maxRecDepth 100000 in
theorem xa77_76 : j_code jP 150 76 = some (.iadd) := rfl
set_option maxRecDepth 100000 in
theorem xa77_77 : j_code jP 150 77 = some (.iastore) := rfl
set_option maxRecDepth 100000 in
theorem xa77_78 : j_code jP 150 78 = some (.aload_n 0) := rfl
set_option maxRecDepth 100000 in
theorem xa77_79 : j_code jP 150 79 = some (.aload_n 0) := rfl
set_option maxRecDepth 100000 in
theorem xa77_80 : j_code jP 150 80 = some (.getfield 30) := rfl
set_option maxRecDepth 100000 in
theorem xa77_83 : j_code jP 150 83 = some (.getfield 365) := rfl
set_option maxRecDepth 100000 in
theorem xa77_86 : j_code jP 150 86 = some (.iload_n 1) := rfl
set_option maxRecDepth 100000 in
theorem xa77_87 : j_code jP 150 87 = some (.iaload) := rfl
set_option maxRecDepth 100000 in
theorem xa77_88 : j_code jP 150 88 = some (.invokevirtual 104) := rfl
set_option maxRecDepth 100000 in
theorem xa77_91 : j_code jP 150 91 = some (.ireturn) := rfl
def xa77_C (mi : Int32) (shu : Int32) (bus : Int32) (lks : Int32) (ph : List Int32) (he : List Int32) (ns : Int32) (nt : Int32) (cel : Int32) (sst : Int32) (acne : Int32) (acco : Int32) : jk_K := [(0, .inl (9, [.ref 1, .ref 3, .ref 4, .ref 29, .ref 281, .ref 325, .ref 327, .ref 343, .int sst])), (4, .inl (7, [.ref 327, .int mi, .int shu, .int bus, .ref 5, .ref 6, .ref 7, .ref 8, .ref 9, .ref 10, .ref 11, .ref 12, .ref 13, .ref 14, .ref 15, .int lks, .ref 16, .ref 17, .ref 20])), (7, .inr (.inl (0, ph))), (11, .inr (.inl (0, he))), (29, .inl (0, [.ref 30, .int acne, .int acco])), (327, .inl (2, [.int ns, .ref 328, .ref 329, .ref 330, .ref 331, .int nt, .ref 332, .ref 333, .ref 334, .ref 335, .ref 336, .ref 337, .ref 338, .int cel, .ref 339, .ref 340, .ref 341, .ref 342]))]
def xa77_D (mi : Int32) (shu : Int32) (bus : Int32) (lks : Int32) (ph : List Int32) (he : List Int32) (ns : Int32) (nt : Int32) (cel : Int32) (sst : Int32) (acne : Int32) (acco : Int32) : jk_K := [(0, .inl (9, [.ref 1, .ref 3, .ref 4, .ref 29, .ref 281, .ref 325, .ref 327, .ref 343, .int sst])), (4, .inl (7, [.ref 327, .int mi, .int shu, .int bus, .ref 5, .ref 6, .ref 7, .ref 8, .ref 9, .ref 10, .ref 11, .ref 12, .ref 13, .ref 14, .ref 15, .int lks, .ref 16, .ref 17, .ref 20])), (7, .inr (.inl (0, ph))), (11, .inr (.inl (0, he))), (327, .inl (2, [.int ns, .ref 328, .ref 329, .ref 330, .ref 331, .int nt, .ref 332, .ref 333, .ref 334, .ref 335, .ref 336, .ref 337, .ref 338, .int cel, .ref 339, .ref 340, .ref 341, .ref 342]))]
def x_ahold (mi : Int32) (ph : List Int32) (he : List Int32) (nt : Int32) (sst : Int32) (x1 : Int32) (x2 : Int32) : Int32 × Int32 × List Int32 × Int32 := (if (x_isWithin x2 1 99) = 0 then let z4 := (x_qrefuse sst 1); ((z4.1), 0, he, (z4.2)) else (if (x_isTrain nt x1) = 0 then let z3 := (x_qrefuse sst 2); ((z3.1), 0, he, (z3.2)) else (if (gA ph x1) = 3 then let z2 := (x_qrefuse sst 4); ((z2.1), 0, he, (z2.2)) else let he1 := (sA he x1 (mi + x2)); let z1 := (x_qanswer sst (gA he1 x1)); ((z1.1), 1, he1, (z1.2)))))
set_option maxRecDepth 1000000 in
theorem xa77_ok {mi : Int32} {shu : Int32} {bus : Int32} {lks : Int32} {ph : List Int32} {he : List Int32} {ns : Int32} {nt : Int32} {cel : Int32} {sst : Int32} {acne : Int32} {acco : Int32} {x1 x2 : Int32} {d : Nat} {h h0 : J_H} {RM : J_H → J_H → Prop} (hR : ∀ d h1, KN h1 (xa77_C mi shu bus lks ph he ns nt cel sst acne acco) h0 → j_V jP d 2 0 (lv_args 0 [.ref 29, .ref 4]) [] h1 (fun rv h' => rv = none ∧ RM h1 h')) (hK : ∀ h1 h2, KN h1 (xa77_C mi shu bus lks ph he ns nt cel sst acne acco) h0 → RM h1 h2 → KN h2 (xa77_D mi shu bus lks ph he ns nt cel sst acne acco) h2) (K : KN h [(0, .inl (9, [.ref 1, .ref 3, .ref 4, .ref 29, .ref 281, .ref 325, .ref 327, .ref 343, .int sst])), (4, .inl (7, [.ref 327, .int mi, .int shu, .int bus, .ref 5, .ref 6, .ref 7, .ref 8, .ref 9, .ref 10, .ref 11, .ref 12, .ref 13, .ref 14, .ref 15, .int lks, .ref 16, .ref 17, .ref 20])), (7, .inr (.inl (0, ph))), (11, .inr (.inl (0, he))), (29, .inl (0, [.ref 30, .int acne, .int acco])), (327, .inl (2, [.int ns, .ref 328, .ref 329, .ref 330, .ref 331, .int nt, .ref 332, .ref 333, .ref 334, .ref 335, .ref 336, .ref 337, .ref 338, .int cel, .ref 339, .ref 340, .ref 341, .ref 342]))] h0) : j_V jP d 150 0 (lv_args 0 [.ref 0, .int x1, .int x2]) [] h (fun rv h' => rv = some (.int (x_ahold mi ph he nt sst x1 x2).1) ∧ (((x_ahold mi ph he nt sst x1 x2).2.1 = 0 ∧ KN h' [(0, .inl (9, [.ref 1, .ref 3, .ref 4, .ref 29, .ref 281, .ref 325, .ref 327, .ref 343, .int (x_ahold mi ph he nt sst x1 x2).2.2.2])), (4, .inl (7, [.ref 327, .int mi, .int shu, .int bus, .ref 5, .ref 6, .ref 7, .ref 8, .ref 9, .ref 10, .ref 11, .ref 12, .ref 13, .ref 14, .ref 15, .int lks, .ref 16, .ref 17, .ref 20])), (7, .inr (.inl (0, ph))), (11, .inr (.inl (0, (x_ahold mi ph he nt sst x1 x2).2.2.1))), (29, .inl (0, [.ref 30, .int acne, .int acco])), (327, .inl (2, [.int ns, .ref 328, .ref 329, .ref 330, .ref 331, .int nt, .ref 332, .ref 333, .ref 334, .ref 335, .ref 336, .ref 337, .ref 338, .int cel, .ref 339, .ref 340, .ref 341, .ref 342]))] h0) ∨ ((x_ahold mi ph he nt sst x1 x2).2.1 = 1 ∧ ∃ h1 h2, KN h1 (xa77_C mi shu bus lks ph he ns nt cel sst acne acco) h0 ∧ RM h1 h2 ∧ KN h' [(0, .inl (9, [.ref 1, .ref 3, .ref 4, .ref 29, .ref 281, .ref 325, .ref 327, .ref 343, .int (x_ahold mi ph he nt sst x1 x2).2.2.2])), (4, .inl (7, [.ref 327, .int mi, .int shu, .int bus, .ref 5, .ref 6, .ref 7, .ref 8, .ref 9, .ref 10, .ref 11, .ref 12, .ref 13, .ref 14, .ref 15, .int lks, .ref 16, .ref 17, .ref 20])), (7, .inr (.inl (0, ph))), (11, .inr (.inl (0, (x_ahold mi ph he nt sst x1 x2).2.2.1))), (327, .inl (2, [.int ns, .ref 328, .ref 329, .ref 330, .ref 331, .int nt, .ref 332, .ref 333, .ref 334, .ref 335, .ref 336, .ref 337, .ref 338, .int cel, .ref 339, .ref 340, .ref 341, .ref 342]))] h2))) := by
  show j_V jP d 150 0 [(0, .ref 0), (1, .int x1), (2, .int x2)] [] h _
  obtain ⟨lv, elv, L⟩ : ∃ lv, lv = [(0, .ref 0), (1, .int x1), (2, .int x2)] ∧ LK lv [(0, .ref 0), (1, .int x1), (2, .int x2)] := ⟨_, rfl, LK.rf⟩
  rw [← elv]
  clear elv
  refine j_V.ldL xa77_M xa77_0 rfl (i := 2) (kd := 0) (v := .int x2) (pcJ := 1) rfl L rfl rfl rfl ?_
  refine j_V.one xa77_M xa77_1 (by decide) (pcJ := 2) (stJ := [.int 1, .int x2]) rfl ?_
  refine j_V.one xa77_M xa77_2 (by decide) (pcJ := 4) (stJ := [.int 99, .int 1, .int x2]) rfl ?_
  refine j_V.cl xa77_M xa77_4 rfl (md := 2) (mj := 162) rfl (by decide) xawisWi_M (As := [.int x2, .int 1, .int 99]) (rest := []) (jk_spl2 rfl rfl (Nat.le_of_ble_eq_true rfl) (Nat.le_of_ble_eq_true rfl)) (fun d => xawisWi_ok (K.fi [] rfl rfl)) ?_
  rintro r hz ⟨rfl, ez⟩
  rw [ez]
  clear ez
  show j_V jP _ 150 7 lv [.int (x_isWithin x2 1 99)] h _
  refine j_V.ifc xa77_M xa77_7 (t := 16) rfl (fun c7_0 => ?_) (fun c7_0 => ?_)
  · replace c7_0 : ¬ ((x_isWithin x2 1 99) = 0) := jd_ne c7_0
    refine j_V.ldL xa77_M xa77_16 rfl (i := 0) (kd := 2) (v := .ref 0) (pcJ := 17) rfl L rfl rfl rfl ?_
    refine j_V.ldL xa77_M xa77_17 rfl (i := 1) (kd := 0) (v := .int x1) (pcJ := 18) rfl L rfl rfl rfl ?_
    refine j_V.cl xa77_M xa77_18 rfl (md := 3) (mj := 165) rfl (by decide) xa47_M (As := [.ref 0, .int x1]) (rest := []) (jk_spl3 (K.at rfl) rfl rfl rfl (Nat.le_of_ble_eq_true rfl) (Nat.le_of_ble_eq_true rfl)) (fun d => xa47_ok (K.fi [0, 327] rfl rfl)) ?_
    rintro r hz ⟨rfl, ez⟩
    rw [ez]
    clear ez
    show j_V jP _ 150 21 lv [.int (x_isTrain nt x1)] h _
    refine j_V.ifc xa77_M xa77_21 (t := 30) rfl (fun c21_1 => ?_) (fun c21_1 => ?_)
    · replace c21_1 : ¬ ((x_isTrain nt x1) = 0) := jd_ne c21_1
      refine j_V.ldL xa77_M xa77_30 rfl (i := 0) (kd := 2) (v := .ref 0) (pcJ := 31) rfl L rfl rfl rfl ?_
      refine j_V.getK xa77_M xa77_31 (ci := 9) (j := 2) rfl K rfl rfl ?_
      refine j_V.getK xa77_M xa77_34 (ci := 7) (j := 6) rfl K rfl rfl ?_
      refine j_V.ldL xa77_M xa77_37 rfl (i := 1) (kd := 0) (v := .int x1) (pcJ := 38) rfl L rfl rfl rfl ?_
      refine j_V.iaA xa77_M xa77_38 K rfl ?_
      refine j_V.one xa77_M xa77_39 (by decide) (pcJ := 40) (stJ := [.int 3, .int (gA ph x1)]) rfl ?_
      refine j_V.icmp xa77_M xa77_40 (t := 49) rfl (fun c40_2 => ?_) (fun c40_2 => ?_)
      · replace c40_2 : ¬ ((gA ph x1) = 3) := jd_ne c40_2
        refine j_V.ldL xa77_M xa77_49 rfl (i := 0) (kd := 2) (v := .ref 0) (pcJ := 50) rfl L rfl rfl rfl ?_
        refine j_V.getK xa77_M xa77_50 (ci := 9) (j := 3) rfl K rfl rfl ?_
        refine j_V.ldL xa77_M xa77_53 rfl (i := 0) (kd := 2) (v := .ref 0) (pcJ := 54) rfl L rfl rfl rfl ?_
        refine j_V.getK xa77_M xa77_54 (ci := 9) (j := 2) rfl K rfl rfl ?_
        refine j_V.cl xa77_M xa77_57 rfl (md := 3) (mj := 2) rfl (by decide) yr0m_M (As := [.ref 29, .ref 4]) (rest := []) (jk_spl3 (K.at rfl) rfl rfl rfl (Nat.le_of_ble_eq_true rfl) (Nat.le_of_ble_eq_true rfl)) (fun d => hR d _ K) ?_
        rintro r h9 ⟨rfl, R9⟩
        have K1 := K
        obtain ⟨hb, ehb⟩ : ∃ z, z = h9 := ⟨_, rfl⟩
        have K : KN h9 [(0, .inl (9, [.ref 1, .ref 3, .ref 4, .ref 29, .ref 281, .ref 325, .ref 327, .ref 343, .int sst])), (4, .inl (7, [.ref 327, .int mi, .int shu, .int bus, .ref 5, .ref 6, .ref 7, .ref 8, .ref 9, .ref 10, .ref 11, .ref 12, .ref 13, .ref 14, .ref 15, .int lks, .ref 16, .ref 17, .ref 20])), (7, .inr (.inl (0, ph))), (11, .inr (.inl (0, he))), (327, .inl (2, [.int ns, .ref 328, .ref 329, .ref 330, .ref 331, .int nt, .ref 332, .ref 333, .ref 334, .ref 335, .ref 336, .ref 337, .ref 338, .int cel, .ref 339, .ref 340, .ref 341, .ref 342]))] hb := by rw [ehb]; exact hK _ _ K1 R9
        rw [← ehb] at R9
        clear ehb
        show j_V jP _ 150 60 lv [] h9 _
        refine j_V.ldL xa77_M xa77_60 rfl (i := 0) (kd := 2) (v := .ref 0) (pcJ := 61) rfl L rfl rfl rfl ?_
        refine j_V.getK xa77_M xa77_61 (ci := 9) (j := 2) rfl K rfl rfl ?_
        refine j_V.getK xa77_M xa77_64 (ci := 7) (j := 10) rfl K rfl rfl ?_
        refine j_V.ldL xa77_M xa77_67 rfl (i := 1) (kd := 0) (v := .int x1) (pcJ := 68) rfl L rfl rfl rfl ?_
        refine j_V.ldL xa77_M xa77_68 rfl (i := 0) (kd := 2) (v := .ref 0) (pcJ := 69) rfl L rfl rfl rfl ?_
        refine j_V.getK xa77_M xa77_69 (ci := 9) (j := 2) rfl K rfl rfl ?_
        refine j_V.getK xa77_M xa77_72 (ci := 7) (j := 1) rfl K rfl rfl ?_
        refine j_V.ldL xa77_M xa77_75 rfl (i := 2) (kd := 0) (v := .int x2) (pcJ := 76) rfl L rfl rfl rfl ?_
        refine j_V.one xa77_M xa77_76 (by decide) (pcJ := 77) (stJ := [.int (mi + x2), .int x1, .ref 11]) rfl ?_
        refine j_V.isA xa77_M xa77_77 (k' := [(0, .inl (9, [.ref 1, .ref 3, .ref 4, .ref 29, .ref 281, .ref 325, .ref 327, .ref 343, .int sst])), (4, .inl (7, [.ref 327, .int mi, .int shu, .int bus, .ref 5, .ref 6, .ref 7, .ref 8, .ref 9, .ref 10, .ref 11, .ref 12, .ref 13, .ref 14, .ref 15, .int lks, .ref 16, .ref 17, .ref 20])), (7, .inr (.inl (0, ph))), (11, .inr (.inl (0, (sA he x1 (mi + x2))))), (327, .inl (2, [.int ns, .ref 328, .ref 329, .ref 330, .ref 331, .int nt, .ref 332, .ref 333, .ref 334, .ref 335, .ref 336, .ref 337, .ref 338, .int cel, .ref 339, .ref 340, .ref 341, .ref 342]))]) K rfl rfl (fun h K => ?_)
        obtain ⟨he1, ehe1⟩ : ∃ z, z = (sA he x1 (mi + x2)) := ⟨_, rfl⟩
        rw [← ehe1] at K
        refine j_V.ldL xa77_M xa77_78 rfl (i := 0) (kd := 2) (v := .ref 0) (pcJ := 79) rfl L rfl rfl rfl ?_
        refine j_V.ldL xa77_M xa77_79 rfl (i := 0) (kd := 2) (v := .ref 0) (pcJ := 80) rfl L rfl rfl rfl ?_
        refine j_V.getK xa77_M xa77_80 (ci := 9) (j := 2) rfl K rfl rfl ?_
        refine j_V.getK xa77_M xa77_83 (ci := 7) (j := 10) rfl K rfl rfl ?_
        refine j_V.ldL xa77_M xa77_86 rfl (i := 1) (kd := 0) (v := .int x1) (pcJ := 87) rfl L rfl rfl rfl ?_
        refine j_V.iaA xa77_M xa77_87 K rfl ?_
        refine j_V.cl xa77_M xa77_88 rfl (md := 3) (mj := 159) rfl (by decide) xa49_M (As := [.ref 0, .int (gA he1 x1)]) (rest := []) (jk_spl3 (K.at rfl) rfl rfl rfl (Nat.le_of_ble_eq_true rfl) (Nat.le_of_ble_eq_true rfl)) (fun d => xa49_ok (K.fi [0] rfl rfl)) ?_
        rintro r h9 ⟨rfl, K9⟩
        generalize ez1 : (x_qanswer sst (gA he1 x1)) = z1 at K9 ⊢
        have K : KN h9 [(0, .inl (9, [.ref 1, .ref 3, .ref 4, .ref 29, .ref 281, .ref 325, .ref 327, .ref 343, .int (z1.2)])), (4, .inl (7, [.ref 327, .int mi, .int shu, .int bus, .ref 5, .ref 6, .ref 7, .ref 8, .ref 9, .ref 10, .ref 11, .ref 12, .ref 13, .ref 14, .ref 15, .int lks, .ref 16, .ref 17, .ref 20])), (7, .inr (.inl (0, ph))), (11, .inr (.inl (0, he1))), (327, .inl (2, [.int ns, .ref 328, .ref 329, .ref 330, .ref 331, .int nt, .ref 332, .ref 333, .ref 334, .ref 335, .ref 336, .ref 337, .ref 338, .int cel, .ref 339, .ref 340, .ref 341, .ref 342]))] hb := K.mg K9 rfl rfl
        clear K9
        show j_V jP _ 150 91 lv [.int (z1.1)] h9 _
        subst ez1
        subst ehe1
        refine j_V.ri xa77_M xa77_91 ?_
        rw [show (x_ahold mi ph he nt sst x1 x2) = _ from ((if_neg c7_0).trans ((if_neg c21_1).trans ((if_neg c40_2).trans (rfl))))]
        exact ⟨rfl, Or.inr ⟨rfl, _, _, K1, R9, K⟩⟩
      · replace c40_2 : (gA ph x1) = 3 := jd_nen c40_2
        refine j_V.ldL xa77_M xa77_43 rfl (i := 0) (kd := 2) (v := .ref 0) (pcJ := 44) rfl L rfl rfl rfl ?_
        refine j_V.one xa77_M xa77_44 (by decide) (pcJ := 45) (stJ := [.int 4, .ref 0]) rfl ?_
        refine j_V.cl xa77_M xa77_45 rfl (md := 3) (mj := 161) rfl (by decide) xa50_M (As := [.ref 0, .int 4]) (rest := []) (jk_spl3 (K.at rfl) rfl rfl rfl (Nat.le_of_ble_eq_true rfl) (Nat.le_of_ble_eq_true rfl)) (fun d => xa50_ok (K.fi [0] rfl rfl)) ?_
        rintro r h9 ⟨rfl, K9⟩
        generalize ez2 : (x_qrefuse sst 4) = z2 at K9 ⊢
        have K : KN h9 [(0, .inl (9, [.ref 1, .ref 3, .ref 4, .ref 29, .ref 281, .ref 325, .ref 327, .ref 343, .int (z2.2)])), (4, .inl (7, [.ref 327, .int mi, .int shu, .int bus, .ref 5, .ref 6, .ref 7, .ref 8, .ref 9, .ref 10, .ref 11, .ref 12, .ref 13, .ref 14, .ref 15, .int lks, .ref 16, .ref 17, .ref 20])), (7, .inr (.inl (0, ph))), (11, .inr (.inl (0, he))), (29, .inl (0, [.ref 30, .int acne, .int acco])), (327, .inl (2, [.int ns, .ref 328, .ref 329, .ref 330, .ref 331, .int nt, .ref 332, .ref 333, .ref 334, .ref 335, .ref 336, .ref 337, .ref 338, .int cel, .ref 339, .ref 340, .ref 341, .ref 342]))] h0 := K.mg K9 rfl rfl
        clear K9
        show j_V jP _ 150 48 lv [.int (z2.1)] h9 _
        subst ez2
        refine j_V.ri xa77_M xa77_48 ?_
        rw [show (x_ahold mi ph he nt sst x1 x2) = _ from ((if_neg c7_0).trans ((if_neg c21_1).trans ((if_pos c40_2).trans (rfl))))]
        exact ⟨rfl, Or.inl ⟨rfl, K⟩⟩
    · replace c21_1 : (x_isTrain nt x1) = 0 := jd_nen c21_1
      refine j_V.ldL xa77_M xa77_24 rfl (i := 0) (kd := 2) (v := .ref 0) (pcJ := 25) rfl L rfl rfl rfl ?_
      refine j_V.one xa77_M xa77_25 (by decide) (pcJ := 26) (stJ := [.int 2, .ref 0]) rfl ?_
      refine j_V.cl xa77_M xa77_26 rfl (md := 3) (mj := 161) rfl (by decide) xa50_M (As := [.ref 0, .int 2]) (rest := []) (jk_spl3 (K.at rfl) rfl rfl rfl (Nat.le_of_ble_eq_true rfl) (Nat.le_of_ble_eq_true rfl)) (fun d => xa50_ok (K.fi [0] rfl rfl)) ?_
      rintro r h9 ⟨rfl, K9⟩
      generalize ez3 : (x_qrefuse sst 2) = z3 at K9 ⊢
      have K : KN h9 [(0, .inl (9, [.ref 1, .ref 3, .ref 4, .ref 29, .ref 281, .ref 325, .ref 327, .ref 343, .int (z3.2)])), (4, .inl (7, [.ref 327, .int mi, .int shu, .int bus, .ref 5, .ref 6, .ref 7, .ref 8, .ref 9, .ref 10, .ref 11, .ref 12, .ref 13, .ref 14, .ref 15, .int lks, .ref 16, .ref 17, .ref 20])), (7, .inr (.inl (0, ph))), (11, .inr (.inl (0, he))), (29, .inl (0, [.ref 30, .int acne, .int acco])), (327, .inl (2, [.int ns, .ref 328, .ref 329, .ref 330, .ref 331, .int nt, .ref 332, .ref 333, .ref 334, .ref 335, .ref 336, .ref 337, .ref 338, .int cel, .ref 339, .ref 340, .ref 341, .ref 342]))] h0 := K.mg K9 rfl rfl
      clear K9
      show j_V jP _ 150 29 lv [.int (z3.1)] h9 _
      subst ez3
      refine j_V.ri xa77_M xa77_29 ?_
      rw [show (x_ahold mi ph he nt sst x1 x2) = _ from ((if_neg c7_0).trans ((if_pos c21_1).trans (rfl)))]
      exact ⟨rfl, Or.inl ⟨rfl, K⟩⟩
  · replace c7_0 : (x_isWithin x2 1 99) = 0 := jd_nen c7_0
    refine j_V.ldL xa77_M xa77_10 rfl (i := 0) (kd := 2) (v := .ref 0) (pcJ := 11) rfl L rfl rfl rfl ?_
    refine j_V.one xa77_M xa77_11 (by decide) (pcJ := 12) (stJ := [.int 1, .ref 0]) rfl ?_
    refine j_V.cl xa77_M xa77_12 rfl (md := 3) (mj := 161) rfl (by decide) xa50_M (As := [.ref 0, .int 1]) (rest := []) (jk_spl3 (K.at rfl) rfl rfl rfl (Nat.le_of_ble_eq_true rfl) (Nat.le_of_ble_eq_true rfl)) (fun d => xa50_ok (K.fi [0] rfl rfl)) ?_
    rintro r h9 ⟨rfl, K9⟩
    generalize ez4 : (x_qrefuse sst 1) = z4 at K9 ⊢
    have K : KN h9 [(0, .inl (9, [.ref 1, .ref 3, .ref 4, .ref 29, .ref 281, .ref 325, .ref 327, .ref 343, .int (z4.2)])), (4, .inl (7, [.ref 327, .int mi, .int shu, .int bus, .ref 5, .ref 6, .ref 7, .ref 8, .ref 9, .ref 10, .ref 11, .ref 12, .ref 13, .ref 14, .ref 15, .int lks, .ref 16, .ref 17, .ref 20])), (7, .inr (.inl (0, ph))), (11, .inr (.inl (0, he))), (29, .inl (0, [.ref 30, .int acne, .int acco])), (327, .inl (2, [.int ns, .ref 328, .ref 329, .ref 330, .ref 331, .int nt, .ref 332, .ref 333, .ref 334, .ref 335, .ref 336, .ref 337, .ref 338, .int cel, .ref 339, .ref 340, .ref 341, .ref 342]))] h0 := K.mg K9 rfl rfl
    clear K9
    show j_V jP _ 150 15 lv [.int (z4.1)] h9 _
    subst ez4
    refine j_V.ri xa77_M xa77_15 ?_
    rw [show (x_ahold mi ph he nt sst x1 x2) = _ from ((if_pos c7_0).trans (rfl))]
    exact ⟨rfl, Or.inl ⟨rfl, K⟩⟩
set_option maxRecDepth 100000 in
theorem xa78_M : j_meth jP 151 = some (yX9_shut, cX9_shut, 6, (some .int), 3, false, 9) := rfl
set_option maxRecDepth 100000 in
theorem xa78_0 : j_code jP 151 0 = some (.aload_n 0) := rfl
set_option maxRecDepth 100000 in
theorem xa78_1 : j_code jP 151 1 = some (.iload_n 1) := rfl
set_option maxRecDepth 100000 in
theorem xa78_2 : j_code jP 151 2 = some (.iload_n 2) := rfl
set_option maxRecDepth 100000 in
theorem xa78_3 : j_code jP 151 3 = some (.invokevirtual 169) := rfl
set_option maxRecDepth 100000 in
theorem xa78_6 : j_code jP 151 6 = some (.ifCond .ne 9) := rfl
set_option maxRecDepth 100000 in
theorem xa78_9 : j_code jP 151 9 = some (.aload_n 0) := rfl
set_option maxRecDepth 100000 in
theorem xa78_10 : j_code jP 151 10 = some (.iconst 2) := rfl
set_option maxRecDepth 100000 in
theorem xa78_11 : j_code jP 151 11 = some (.invokevirtual 84) := rfl
set_option maxRecDepth 100000 in
theorem xa78_14 : j_code jP 151 14 = some (.ireturn) := rfl
set_option maxRecDepth 100000 in
theorem xa78_15 : j_code jP 151 15 = some (.iconst 1) := rfl
set_option maxRecDepth 100000 in
theorem xa78_16 : j_code jP 151 16 = some (.iload_n 1) := rfl
set_option maxRecDepth 100000 in
theorem xa78_17 : j_code jP 151 17 = some (.iconst 3) := rfl
set_option maxRecDepth 100000 in
theorem xa78_18 : j_code jP 151 18 = some (.imul) := rfl
set_option maxRecDepth 100000 in
theorem xa78_19 : j_code jP 151 19 = some (.iload_n 2) := rfl
set_option maxRecDepth 100000 in
theorem xa78_20 : j_code jP 151 20 = some (.iadd) := rfl
set_option maxRecDepth 100000 in
theorem xa78_21 : j_code jP 151 21 = some (.ishl) := rfl
set_option maxRecDepth 100000 in
theorem xa78_22 : j_code jP 151 22 = some (.istore 4) := rfl
set_option maxRecDepth 100000 in
theorem xa78_24 : j_code jP 151 24 = some (.aload_n 0) := rfl
set_option maxRecDepth 100000 in
theorem xa78_25 : j_code jP 151 25 = some (.getfield 30) := rfl
set_option maxRecDepth 100000 in
theorem xa78_28 : j_code jP 151 28 = some (.getfield 181) := rfl
set_option maxRecDepth 100000 in
theorem xa78_31 : j_code jP 151 31 = some (.iload 4) := rfl
set_option maxRecDepth 100000 in
theorem xa78_33 : j_code jP 151 33 = some (.iand) := rfl
set_option maxRecDepth 100000 in
theorem xa78_34 : j_code jP 151 34 = some (.ifCond .eq 7) := rfl
set_option maxRecDepth 100000 in
theorem xa78_37 : j_code jP 151 37 = some (.iconst 1) := rfl
set_option maxRecDepth 100000 in
theorem xa78_38 : j_code jP 151 38 = some (.goto 4) := rfl
set_option maxRecDepth 100000 in
theorem xa78_41 : j_code jP 151 41 = some (.iconst 0) := rfl
set_option maxRecDepth 100000 in
theorem xa78_42 : j_code jP 151 42 = some (.istore 5) := rfl
set_option maxRecDepth 100000 in
theorem xa78_44 : j_code jP 151 44 = some (.iload 5) := rfl
set_option maxRecDepth 100000 in
theorem xa78_46 : j_code jP 151 46 = some (.iload_n 3) := rfl
set_option maxRecDepth 100000 in
theorem xa78_47 : j_code jP 151 47 = some (.if_icmp .ne 9) := rfl
set_option maxRecDepth 100000 in
theorem xa78_50 : j_code jP 151 50 = some (.aload_n 0) := rfl
set_option maxRecDepth 100000 in
theorem xa78_51 : j_code jP 151 51 = some (.iconst 4) := rfl
set_option maxRecDepth 100000 in
theorem xa78_52 : j_code jP 151 52 = some (.invokevirtual 84) := rfl
set_option maxRecDepth 100000 in
theorem xa78_55 : j_code jP 151 55 = some (.ireturn) := rfl
set_option maxRecDepth 100000 in
theorem xa78_56 : j_code jP 151 56 = some (.aload_n 0) := rfl
set_option maxRecDepth 100000 in
theorem xa78_57 : j_code jP 151 57 = some (.getfield 37) := rfl
set_option maxRecDepth 100000 in
theorem xa78_60 : j_code jP 151 60 = some (.aload_n 0) := rfl
set_option maxRecDepth 100000 in
theorem xa78_61 : j_code jP 151 61 = some (.getfield 30) := rfl
set_option maxRecDepth 100000 in
theorem xa78_64 : j_code jP 151 64 = some (.invokevirtual 357) := rfl
set_option maxRecDepth 100000 in
theorem xa78_67 : j_code jP 151 67 = some (.aload_n 0) := rfl
set_option maxRecDepth 100000 in
theorem xa78_68 : j_code jP 151 68 = some (.getfield 30) := rfl
set_option maxRecDepth 100000 in
theorem xa78_71 : j_code jP 151 71 = some (.dup) := rfl
set_option maxRecDepth 100000 in
theorem xa78_72 : j_code jP 151 72 = some (.getfield 181) := rfl
set_option maxRecDepth 100000 in
theorem xa78_75 : j_code jP 151 75 = some (.iload 4) := rfl
set_option maxRecDepth 100000 in
theorem xa78_77 : j_code jP 151 77 = some (.ixor) := rfl
set_option maxRecDepth 100000 in
theorem xa78_78 : j_code jP 151 78 = some (.putfield 181) := rfl
set_option maxRecDepth 100000 in
theorem xa78_81 : j_code jP 151 81 = some (.aload_n 0) := rfl
set_option maxRecDepth 100000 in
theorem xa78_82 : j_code jP 151 82 = some (.aload_n 0) := rfl
set_option maxRecDepth 100000 in
theorem xa78_83 : j_code jP 151 83 = some (.getfield 30) := rfl
set_option maxRecDepth 100000 in
theorem xa78_86 : j_code jP 151 86 = some (.invokevirtual 152) := rfl
set_option maxRecDepth 100000 in
theorem xa78_89 : j_code jP 151 89 = some (.invokestatic 158) := rfl
set_option maxRecDepth 100000 in
theorem xa78_92 : j_code jP 151 92 = some (.invokevirtual 104) := rfl
set_option maxRecDepth 100000 in
theorem xa78_95 : j_code jP 151 95 = some (.ireturn) := rfl
def xa78_C (mi : Int32) (shu : Int32) (bus : Int32) (lks : Int32) (ns : Int32) (nt : Int32) (cel : Int32) (tra : List Int32) (sst : Int32) (acne : Int32) (acco : Int32) : jk_K := [(0, .inl (9, [.ref 1, .ref 3, .ref 4, .ref 29, .ref 281, .ref 325, .ref 327, .ref 343, .int sst])), (4, .inl (7, [.ref 327, .int mi, .int shu, .int bus, .ref 5, .ref 6, .ref 7, .ref 8, .ref 9, .ref 10, .ref 11, .ref 12, .ref 13, .ref 14, .ref 15, .int lks, .ref 16, .ref 17, .ref 20])), (29, .inl (0, [.ref 30, .int acne, .int acco])), (327, .inl (2, [.int ns, .ref 328, .ref 329, .ref 330, .ref 331, .int nt, .ref 332, .ref 333, .ref 334, .ref 335, .ref 336, .ref 337, .ref 338, .int cel, .ref 339, .ref 340, .ref 341, .ref 342])), (330, .inr (.inl (0, tra)))]
def xa78_D (mi : Int32) (shu : Int32) (bus : Int32) (lks : Int32) (ns : Int32) (nt : Int32) (cel : Int32) (tra : List Int32) (sst : Int32) (acne : Int32) (acco : Int32) : jk_K := [(0, .inl (9, [.ref 1, .ref 3, .ref 4, .ref 29, .ref 281, .ref 325, .ref 327, .ref 343, .int sst])), (4, .inl (7, [.ref 327, .int mi, .int shu, .int bus, .ref 5, .ref 6, .ref 7, .ref 8, .ref 9, .ref 10, .ref 11, .ref 12, .ref 13, .ref 14, .ref 15, .int lks, .ref 16, .ref 17, .ref 20])), (327, .inl (2, [.int ns, .ref 328, .ref 329, .ref 330, .ref 331, .int nt, .ref 332, .ref 333, .ref 334, .ref 335, .ref 336, .ref 337, .ref 338, .int cel, .ref 339, .ref 340, .ref 341, .ref 342])), (330, .inr (.inl (0, tra)))]
def x_ashut (shu : Int32) (bus : Int32) (ns : Int32) (cel : Int32) (tra : List Int32) (sst : Int32) (x1 : Int32) (x2 : Int32) (x3 : Int32) : Int32 × Int32 × Int32 × Int32 := (if (x_isTrack ns tra x1 x2) = 0 then let z3 := (x_qrefuse sst 2); ((z3.1), 0, shu, (z3.2)) else (if ((if (shu &&& (1 <<< (((x1 * 3) + x2) &&& 31))) = 0 then 0 else 1) : Int32) = x3 then let z2 := (x_qrefuse sst 4); ((z2.1), 0, shu, (z2.2)) else let shu1 := (shu ^^^ (1 <<< (((x1 * 3) + x2) &&& 31))); let z1 := (x_qanswer sst (x_bitCount (x_freeCells shu1 bus cel))); ((z1.1), 1, shu1, (z1.2))))
set_option maxRecDepth 1000000 in
theorem xa78_ok {mi : Int32} {shu : Int32} {bus : Int32} {lks : Int32} {ns : Int32} {nt : Int32} {cel : Int32} {tra : List Int32} {sst : Int32} {acne : Int32} {acco : Int32} {x1 x2 x3 : Int32} {d : Nat} {h h0 : J_H} {RM : J_H → J_H → Prop} (hR : ∀ d h1, KN h1 (xa78_C mi shu bus lks ns nt cel tra sst acne acco) h0 → j_V jP d 2 0 (lv_args 0 [.ref 29, .ref 4]) [] h1 (fun rv h' => rv = none ∧ RM h1 h')) (hK : ∀ h1 h2, KN h1 (xa78_C mi shu bus lks ns nt cel tra sst acne acco) h0 → RM h1 h2 → KN h2 (xa78_D mi shu bus lks ns nt cel tra sst acne acco) h2) (K : KN h [(0, .inl (9, [.ref 1, .ref 3, .ref 4, .ref 29, .ref 281, .ref 325, .ref 327, .ref 343, .int sst])), (4, .inl (7, [.ref 327, .int mi, .int shu, .int bus, .ref 5, .ref 6, .ref 7, .ref 8, .ref 9, .ref 10, .ref 11, .ref 12, .ref 13, .ref 14, .ref 15, .int lks, .ref 16, .ref 17, .ref 20])), (29, .inl (0, [.ref 30, .int acne, .int acco])), (327, .inl (2, [.int ns, .ref 328, .ref 329, .ref 330, .ref 331, .int nt, .ref 332, .ref 333, .ref 334, .ref 335, .ref 336, .ref 337, .ref 338, .int cel, .ref 339, .ref 340, .ref 341, .ref 342])), (330, .inr (.inl (0, tra)))] h0) : j_V jP d 151 0 (lv_args 0 [.ref 0, .int x1, .int x2, .int x3]) [] h (fun rv h' => rv = some (.int (x_ashut shu bus ns cel tra sst x1 x2 x3).1) ∧ (((x_ashut shu bus ns cel tra sst x1 x2 x3).2.1 = 0 ∧ KN h' [(0, .inl (9, [.ref 1, .ref 3, .ref 4, .ref 29, .ref 281, .ref 325, .ref 327, .ref 343, .int (x_ashut shu bus ns cel tra sst x1 x2 x3).2.2.2])), (4, .inl (7, [.ref 327, .int mi, .int (x_ashut shu bus ns cel tra sst x1 x2 x3).2.2.1, .int bus, .ref 5, .ref 6, .ref 7, .ref 8, .ref 9, .ref 10, .ref 11, .ref 12, .ref 13, .ref 14, .ref 15, .int lks, .ref 16, .ref 17, .ref 20])), (29, .inl (0, [.ref 30, .int acne, .int acco])), (327, .inl (2, [.int ns, .ref 328, .ref 329, .ref 330, .ref 331, .int nt, .ref 332, .ref 333, .ref 334, .ref 335, .ref 336, .ref 337, .ref 338, .int cel, .ref 339, .ref 340, .ref 341, .ref 342])), (330, .inr (.inl (0, tra)))] h0) ∨ ((x_ashut shu bus ns cel tra sst x1 x2 x3).2.1 = 1 ∧ ∃ h1 h2, KN h1 (xa78_C mi shu bus lks ns nt cel tra sst acne acco) h0 ∧ RM h1 h2 ∧ KN h' [(0, .inl (9, [.ref 1, .ref 3, .ref 4, .ref 29, .ref 281, .ref 325, .ref 327, .ref 343, .int (x_ashut shu bus ns cel tra sst x1 x2 x3).2.2.2])), (4, .inl (7, [.ref 327, .int mi, .int (x_ashut shu bus ns cel tra sst x1 x2 x3).2.2.1, .int bus, .ref 5, .ref 6, .ref 7, .ref 8, .ref 9, .ref 10, .ref 11, .ref 12, .ref 13, .ref 14, .ref 15, .int lks, .ref 16, .ref 17, .ref 20])), (327, .inl (2, [.int ns, .ref 328, .ref 329, .ref 330, .ref 331, .int nt, .ref 332, .ref 333, .ref 334, .ref 335, .ref 336, .ref 337, .ref 338, .int cel, .ref 339, .ref 340, .ref 341, .ref 342])), (330, .inr (.inl (0, tra)))] h2))) := by
  show j_V jP d 151 0 [(0, .ref 0), (1, .int x1), (2, .int x2), (3, .int x3)] [] h _
  obtain ⟨lv, elv, L⟩ : ∃ lv, lv = [(0, .ref 0), (1, .int x1), (2, .int x2), (3, .int x3)] ∧ LK lv [(0, .ref 0), (1, .int x1), (2, .int x2), (3, .int x3)] := ⟨_, rfl, LK.rf⟩
  rw [← elv]
  clear elv
  refine j_V.ldL xa78_M xa78_0 rfl (i := 0) (kd := 2) (v := .ref 0) (pcJ := 1) rfl L rfl rfl rfl ?_
  refine j_V.ldL xa78_M xa78_1 rfl (i := 1) (kd := 0) (v := .int x1) (pcJ := 2) rfl L rfl rfl rfl ?_
  refine j_V.ldL xa78_M xa78_2 rfl (i := 2) (kd := 0) (v := .int x2) (pcJ := 3) rfl L rfl rfl rfl ?_
  refine j_V.cl xa78_M xa78_3 rfl (md := 3) (mj := 164) rfl (by decide) xa46_M (As := [.ref 0, .int x1, .int x2]) (rest := []) (jk_spl3 (K.at rfl) rfl rfl rfl (Nat.le_of_ble_eq_true rfl) (Nat.le_of_ble_eq_true rfl)) (fun d => xa46_ok (K.fi [0, 327, 330] rfl rfl)) ?_
  rintro r hz ⟨rfl, ez⟩
  rw [ez]
  clear ez
  show j_V jP _ 151 6 lv [.int (x_isTrack ns tra x1 x2)] h _
  refine j_V.ifc xa78_M xa78_6 (t := 15) rfl (fun c6_0 => ?_) (fun c6_0 => ?_)
  · replace c6_0 : ¬ ((x_isTrack ns tra x1 x2) = 0) := jd_ne c6_0
    refine j_V.one xa78_M xa78_15 (by decide) (pcJ := 16) (stJ := [.int 1]) rfl ?_
    refine j_V.ldL xa78_M xa78_16 rfl (i := 1) (kd := 0) (v := .int x1) (pcJ := 17) rfl L rfl rfl rfl ?_
    refine j_V.one xa78_M xa78_17 (by decide) (pcJ := 18) (stJ := [.int 3, .int x1, .int 1]) rfl ?_
    refine j_V.one xa78_M xa78_18 (by decide) (pcJ := 19) (stJ := [.int (x1 * 3), .int 1]) rfl ?_
    refine j_V.ldL xa78_M xa78_19 rfl (i := 2) (kd := 0) (v := .int x2) (pcJ := 20) rfl L rfl rfl rfl ?_
    refine j_V.one xa78_M xa78_20 (by decide) (pcJ := 21) (stJ := [.int ((x1 * 3) + x2), .int 1]) rfl ?_
    refine j_V.one xa78_M xa78_21 (by decide) (pcJ := 22) (stJ := [.int (1 <<< (((x1 * 3) + x2) &&& 31))]) rfl ?_
    refine j_V.stL xa78_M xa78_22 rfl (i := 4) (kd := 0) (kl' := [(0, .ref 0), (1, .int x1), (2, .int x2), (3, .int x3), (4, .int (1 <<< (((x1 * 3) + x2) &&& 31)))]) (pcJ := 24) rfl L rfl (by decide) rfl rfl rfl (fun lv L => ?_)
    refine j_V.ldL xa78_M xa78_24 rfl (i := 0) (kd := 2) (v := .ref 0) (pcJ := 25) rfl L rfl rfl rfl ?_
    refine j_V.getK xa78_M xa78_25 (ci := 9) (j := 2) rfl K rfl rfl ?_
    refine j_V.getK xa78_M xa78_28 (ci := 7) (j := 2) rfl K rfl rfl ?_
    refine j_V.ldL xa78_M xa78_31 rfl (i := 4) (kd := 0) (v := .int (1 <<< (((x1 * 3) + x2) &&& 31))) (pcJ := 33) rfl L rfl rfl rfl ?_
    refine j_V.one xa78_M xa78_33 (by decide) (pcJ := 34) (stJ := [.int (shu &&& (1 <<< (((x1 * 3) + x2) &&& 31)))]) rfl ?_
    refine j_V.cut (b := 42) (stJ := [.int ((if (shu &&& (1 <<< (((x1 * 3) + x2) &&& 31))) = 0 then 0 else 1) : Int32)]) (fun v => [(0, .ref 0), (1, .int x1), (2, .int x2), (3, .int x3), (4, .int (1 <<< (((x1 * 3) + x2) &&& 31)))]) ((if (shu &&& (1 <<< (((x1 * 3) + x2) &&& 31))) = 0 then 0 else 1) : Int32) (fun Q kk => ?_) (fun lv L => ?_)
    · refine j_V.ifc xa78_M xa78_34 (t := 41) rfl (fun c34_0 => ?_) (fun c34_0 => ?_)
      · replace c34_0 : (shu &&& (1 <<< (((x1 * 3) + x2) &&& 31))) = 0 := jd_eq c34_0
        refine j_V.one xa78_M xa78_41 (by decide) (pcJ := 42) (stJ := [.int 0]) rfl ?_
        exact Eq.subst (motive := fun z => j_V jP _ 151 42 _ (.int z :: []) h Q) (show ((if (shu &&& (1 <<< (((x1 * 3) + x2) &&& 31))) = 0 then 0 else 1) : Int32) = 0 from (if_pos c34_0).trans (rfl)) (kk _ L)
      · replace c34_0 : ¬ ((shu &&& (1 <<< (((x1 * 3) + x2) &&& 31))) = 0) := jd_eqn c34_0
        refine j_V.one xa78_M xa78_37 (by decide) (pcJ := 38) (stJ := [.int 1]) rfl ?_
        refine j_V.gto xa78_M xa78_38 (t := 42) rfl ?_
        exact Eq.subst (motive := fun z => j_V jP _ 151 42 _ (.int z :: []) h Q) (show ((if (shu &&& (1 <<< (((x1 * 3) + x2) &&& 31))) = 0 then 0 else 1) : Int32) = 1 from (if_neg c34_0).trans (rfl)) (kk _ L)
    refine j_V.stL xa78_M xa78_42 rfl (i := 5) (kd := 0) (kl' := [(0, .ref 0), (1, .int x1), (2, .int x2), (3, .int x3), (4, .int (1 <<< (((x1 * 3) + x2) &&& 31))), (5, .int ((if (shu &&& (1 <<< (((x1 * 3) + x2) &&& 31))) = 0 then 0 else 1) : Int32))]) (pcJ := 44) rfl L rfl (by decide) rfl rfl rfl (fun lv L => ?_)
    refine j_V.ldL xa78_M xa78_44 rfl (i := 5) (kd := 0) (v := .int ((if (shu &&& (1 <<< (((x1 * 3) + x2) &&& 31))) = 0 then 0 else 1) : Int32)) (pcJ := 46) rfl L rfl rfl rfl ?_
    refine j_V.ldL xa78_M xa78_46 rfl (i := 3) (kd := 0) (v := .int x3) (pcJ := 47) rfl L rfl rfl rfl ?_
    refine j_V.icmp xa78_M xa78_47 (t := 56) rfl (fun c47_1 => ?_) (fun c47_1 => ?_)
    · replace c47_1 : ¬ (((if (shu &&& (1 <<< (((x1 * 3) + x2) &&& 31))) = 0 then 0 else 1) : Int32) = x3) := jd_ne c47_1
      refine j_V.ldL xa78_M xa78_56 rfl (i := 0) (kd := 2) (v := .ref 0) (pcJ := 57) rfl L rfl rfl rfl ?_
      refine j_V.getK xa78_M xa78_57 (ci := 9) (j := 3) rfl K rfl rfl ?_
      refine j_V.ldL xa78_M xa78_60 rfl (i := 0) (kd := 2) (v := .ref 0) (pcJ := 61) rfl L rfl rfl rfl ?_
      refine j_V.getK xa78_M xa78_61 (ci := 9) (j := 2) rfl K rfl rfl ?_
      refine j_V.cl xa78_M xa78_64 rfl (md := 3) (mj := 2) rfl (by decide) yr0m_M (As := [.ref 29, .ref 4]) (rest := []) (jk_spl3 (K.at rfl) rfl rfl rfl (Nat.le_of_ble_eq_true rfl) (Nat.le_of_ble_eq_true rfl)) (fun d => hR d _ K) ?_
      rintro r h9 ⟨rfl, R9⟩
      have K1 := K
      obtain ⟨hb, ehb⟩ : ∃ z, z = h9 := ⟨_, rfl⟩
      have K : KN h9 [(0, .inl (9, [.ref 1, .ref 3, .ref 4, .ref 29, .ref 281, .ref 325, .ref 327, .ref 343, .int sst])), (4, .inl (7, [.ref 327, .int mi, .int shu, .int bus, .ref 5, .ref 6, .ref 7, .ref 8, .ref 9, .ref 10, .ref 11, .ref 12, .ref 13, .ref 14, .ref 15, .int lks, .ref 16, .ref 17, .ref 20])), (327, .inl (2, [.int ns, .ref 328, .ref 329, .ref 330, .ref 331, .int nt, .ref 332, .ref 333, .ref 334, .ref 335, .ref 336, .ref 337, .ref 338, .int cel, .ref 339, .ref 340, .ref 341, .ref 342])), (330, .inr (.inl (0, tra)))] hb := by rw [ehb]; exact hK _ _ K1 R9
      rw [← ehb] at R9
      clear ehb
      show j_V jP _ 151 67 lv [] h9 _
      refine j_V.ldL xa78_M xa78_67 rfl (i := 0) (kd := 2) (v := .ref 0) (pcJ := 68) rfl L rfl rfl rfl ?_
      refine j_V.getK xa78_M xa78_68 (ci := 9) (j := 2) rfl K rfl rfl ?_
      refine j_V.one xa78_M xa78_71 (by decide) (pcJ := 72) (stJ := [.ref 4, .ref 4]) rfl ?_
      refine j_V.getK xa78_M xa78_72 (ci := 7) (j := 2) rfl K rfl rfl ?_
      refine j_V.ldL xa78_M xa78_75 rfl (i := 4) (kd := 0) (v := .int (1 <<< (((x1 * 3) + x2) &&& 31))) (pcJ := 77) rfl L rfl rfl rfl ?_
      refine j_V.one xa78_M xa78_77 (by decide) (pcJ := 78) (stJ := [.int (shu ^^^ (1 <<< (((x1 * 3) + x2) &&& 31))), .ref 4]) rfl ?_
      refine j_V.putK xa78_M xa78_78 (ci := 7) (j := 2) (k' := [(0, .inl (9, [.ref 1, .ref 3, .ref 4, .ref 29, .ref 281, .ref 325, .ref 327, .ref 343, .int sst])), (4, .inl (7, [.ref 327, .int mi, .int (shu ^^^ (1 <<< (((x1 * 3) + x2) &&& 31))), .int bus, .ref 5, .ref 6, .ref 7, .ref 8, .ref 9, .ref 10, .ref 11, .ref 12, .ref 13, .ref 14, .ref 15, .int lks, .ref 16, .ref 17, .ref 20])), (327, .inl (2, [.int ns, .ref 328, .ref 329, .ref 330, .ref 331, .int nt, .ref 332, .ref 333, .ref 334, .ref 335, .ref 336, .ref 337, .ref 338, .int cel, .ref 339, .ref 340, .ref 341, .ref 342])), (330, .inr (.inl (0, tra)))]) rfl K rfl (Nat.le_of_ble_eq_true rfl) rfl (Or.inl rfl) rfl rfl (fun h K => ?_)
      obtain ⟨shu1, eshu1⟩ : ∃ z, z = (shu ^^^ (1 <<< (((x1 * 3) + x2) &&& 31))) := ⟨_, rfl⟩
      rw [← eshu1] at K
      refine j_V.ldL xa78_M xa78_81 rfl (i := 0) (kd := 2) (v := .ref 0) (pcJ := 82) rfl L rfl rfl rfl ?_
      refine j_V.ldL xa78_M xa78_82 rfl (i := 0) (kd := 2) (v := .ref 0) (pcJ := 83) rfl L rfl rfl rfl ?_
      refine j_V.getK xa78_M xa78_83 (ci := 9) (j := 2) rfl K rfl rfl ?_
      refine j_V.cl xa78_M xa78_86 rfl (md := 3) (mj := 67) rfl (by decide) xa08_M (As := [.ref 4]) (rest := [.ref 0]) (jk_spl3 (K.at rfl) rfl rfl rfl (Nat.le_of_ble_eq_true rfl) (Nat.le_of_ble_eq_true rfl)) (fun d => xa08_ok (K.fi [4, 327] rfl rfl)) ?_
      rintro r hz ⟨rfl, ez⟩
      rw [ez]
      clear ez
      show j_V jP _ 151 89 lv [.int (x_freeCells shu1 bus cel), .ref 0] h _
      refine j_V.cl xa78_M xa78_89 rfl (md := 2) (mj := 298) rfl (by decide) xabc_M (As := [.int (x_freeCells shu1 bus cel)]) (rest := [.ref 0]) (jk_spl2 rfl rfl (Nat.le_of_ble_eq_true rfl) (Nat.le_of_ble_eq_true rfl)) (fun d => xabc_ok (K.fi [] rfl rfl)) ?_
      rintro r hz ⟨rfl, ez⟩
      rw [ez]
      clear ez
      show j_V jP _ 151 92 lv [.int (x_bitCount (x_freeCells shu1 bus cel)), .ref 0] h _
      refine j_V.cl xa78_M xa78_92 rfl (md := 3) (mj := 159) rfl (by decide) xa49_M (As := [.ref 0, .int (x_bitCount (x_freeCells shu1 bus cel))]) (rest := []) (jk_spl3 (K.at rfl) rfl rfl rfl (Nat.le_of_ble_eq_true rfl) (Nat.le_of_ble_eq_true rfl)) (fun d => xa49_ok (K.fi [0] rfl rfl)) ?_
      rintro r h9 ⟨rfl, K9⟩
      generalize ez1 : (x_qanswer sst (x_bitCount (x_freeCells shu1 bus cel))) = z1 at K9 ⊢
      have K : KN h9 [(0, .inl (9, [.ref 1, .ref 3, .ref 4, .ref 29, .ref 281, .ref 325, .ref 327, .ref 343, .int (z1.2)])), (4, .inl (7, [.ref 327, .int mi, .int shu1, .int bus, .ref 5, .ref 6, .ref 7, .ref 8, .ref 9, .ref 10, .ref 11, .ref 12, .ref 13, .ref 14, .ref 15, .int lks, .ref 16, .ref 17, .ref 20])), (327, .inl (2, [.int ns, .ref 328, .ref 329, .ref 330, .ref 331, .int nt, .ref 332, .ref 333, .ref 334, .ref 335, .ref 336, .ref 337, .ref 338, .int cel, .ref 339, .ref 340, .ref 341, .ref 342])), (330, .inr (.inl (0, tra)))] hb := K.mg K9 rfl rfl
      clear K9
      show j_V jP _ 151 95 lv [.int (z1.1)] h9 _
      subst ez1
      subst eshu1
      refine j_V.ri xa78_M xa78_95 ?_
      rw [show (x_ashut shu bus ns cel tra sst x1 x2 x3) = _ from ((if_neg c6_0).trans ((if_neg c47_1).trans (rfl)))]
      exact ⟨rfl, Or.inr ⟨rfl, _, _, K1, R9, K⟩⟩
    · replace c47_1 : ((if (shu &&& (1 <<< (((x1 * 3) + x2) &&& 31))) = 0 then 0 else 1) : Int32) = x3 := jd_nen c47_1
      refine j_V.ldL xa78_M xa78_50 rfl (i := 0) (kd := 2) (v := .ref 0) (pcJ := 51) rfl L rfl rfl rfl ?_
      refine j_V.one xa78_M xa78_51 (by decide) (pcJ := 52) (stJ := [.int 4, .ref 0]) rfl ?_
      refine j_V.cl xa78_M xa78_52 rfl (md := 3) (mj := 161) rfl (by decide) xa50_M (As := [.ref 0, .int 4]) (rest := []) (jk_spl3 (K.at rfl) rfl rfl rfl (Nat.le_of_ble_eq_true rfl) (Nat.le_of_ble_eq_true rfl)) (fun d => xa50_ok (K.fi [0] rfl rfl)) ?_
      rintro r h9 ⟨rfl, K9⟩
      generalize ez2 : (x_qrefuse sst 4) = z2 at K9 ⊢
      have K : KN h9 [(0, .inl (9, [.ref 1, .ref 3, .ref 4, .ref 29, .ref 281, .ref 325, .ref 327, .ref 343, .int (z2.2)])), (4, .inl (7, [.ref 327, .int mi, .int shu, .int bus, .ref 5, .ref 6, .ref 7, .ref 8, .ref 9, .ref 10, .ref 11, .ref 12, .ref 13, .ref 14, .ref 15, .int lks, .ref 16, .ref 17, .ref 20])), (29, .inl (0, [.ref 30, .int acne, .int acco])), (327, .inl (2, [.int ns, .ref 328, .ref 329, .ref 330, .ref 331, .int nt, .ref 332, .ref 333, .ref 334, .ref 335, .ref 336, .ref 337, .ref 338, .int cel, .ref 339, .ref 340, .ref 341, .ref 342])), (330, .inr (.inl (0, tra)))] h0 := K.mg K9 rfl rfl
      clear K9
      show j_V jP _ 151 55 lv [.int (z2.1)] h9 _
      subst ez2
      refine j_V.ri xa78_M xa78_55 ?_
      rw [show (x_ashut shu bus ns cel tra sst x1 x2 x3) = _ from ((if_neg c6_0).trans ((if_pos c47_1).trans (rfl)))]
      exact ⟨rfl, Or.inl ⟨rfl, K⟩⟩
  · replace c6_0 : (x_isTrack ns tra x1 x2) = 0 := jd_nen c6_0
    refine j_V.ldL xa78_M xa78_9 rfl (i := 0) (kd := 2) (v := .ref 0) (pcJ := 10) rfl L rfl rfl rfl ?_
    refine j_V.one xa78_M xa78_10 (by decide) (pcJ := 11) (stJ := [.int 2, .ref 0]) rfl ?_
    refine j_V.cl xa78_M xa78_11 rfl (md := 3) (mj := 161) rfl (by decide) xa50_M (As := [.ref 0, .int 2]) (rest := []) (jk_spl3 (K.at rfl) rfl rfl rfl (Nat.le_of_ble_eq_true rfl) (Nat.le_of_ble_eq_true rfl)) (fun d => xa50_ok (K.fi [0] rfl rfl)) ?_
    rintro r h9 ⟨rfl, K9⟩
    generalize ez3 : (x_qrefuse sst 2) = z3 at K9 ⊢
    have K : KN h9 [(0, .inl (9, [.ref 1, .ref 3, .ref 4, .ref 29, .ref 281, .ref 325, .ref 327, .ref 343, .int (z3.2)])), (4, .inl (7, [.ref 327, .int mi, .int shu, .int bus, .ref 5, .ref 6, .ref 7, .ref 8, .ref 9, .ref 10, .ref 11, .ref 12, .ref 13, .ref 14, .ref 15, .int lks, .ref 16, .ref 17, .ref 20])), (29, .inl (0, [.ref 30, .int acne, .int acco])), (327, .inl (2, [.int ns, .ref 328, .ref 329, .ref 330, .ref 331, .int nt, .ref 332, .ref 333, .ref 334, .ref 335, .ref 336, .ref 337, .ref 338, .int cel, .ref 339, .ref 340, .ref 341, .ref 342])), (330, .inr (.inl (0, tra)))] h0 := K.mg K9 rfl rfl
    clear K9
    show j_V jP _ 151 14 lv [.int (z3.1)] h9 _
    subst ez3
    refine j_V.ri xa78_M xa78_14 ?_
    rw [show (x_ashut shu bus ns cel tra sst x1 x2 x3) = _ from ((if_pos c6_0).trans (rfl))]
    exact ⟨rfl, Or.inl ⟨rfl, K⟩⟩
set_option maxRecDepth 100000 in
theorem xa79_M : j_meth jP 153 = some (yX9_start, cX9_start, 4, (some .int), 2, false, 9) := rfl
set_option maxRecDepth 100000 in
theorem xa79_0 : j_code jP 153 0 = some (.iload_n 2) := rfl
set_option maxRecDepth 100000 in
theorem xa79_1 : j_code jP 153 1 = some (.iconst 0) := rfl
set_option maxRecDepth 100000 in
theorem xa79_2 : j_code jP 153 2 = some (.sipush 199) := rfl
set_option maxRecDepth 100000 in
theorem xa79_5 : j_code jP 153 5 = some (.invokestatic 138) := rfl
set_option maxRecDepth 100000 in
theorem xa79_8 : j_code jP 153 8 = some (.ifCond .ne 9) := rfl
set_option maxRecDepth 100000 in
theorem xa79_11 : j_code jP 153 11 = some (.aload_n 0) := rfl
set_option maxRecDepth 100000 in
theorem xa79_12 : j_code jP 153 12 = some (.iconst 1) := rfl
set_option maxRecDepth 100000 in
theorem xa79_13 : j_code jP 153 13 = some (.invokevirtual 84) := rfl
set_option maxRecDepth 100000 in
theorem xa79_16 : j_code jP 153 16 = some (.ireturn) := rfl
set_option maxRecDepth 100000 in
theorem xa79_17 : j_code jP 153 17 = some (.aload_n 0) := rfl
set_option maxRecDepth 100000 in
theorem xa79_18 : j_code jP 153 18 = some (.iload_n 1) := rfl
set_option maxRecDepth 100000 in
theorem xa79_19 : j_code jP 153 19 = some (.invokevirtual 184) := rfl
set_option maxRecDepth 100000 in
theorem xa79_22 : j_code jP 153 22 = some (.ifCond .ne 9) := rfl
set_option maxRecDepth 100000 in
theorem xa79_25 : j_code jP 153 25 = some (.aload_n 0) := rfl
set_option maxRecDepth 100000 in
theorem xa79_26 : j_code jP 153 26 = some (.iconst 2) := rfl
set_option maxRecDepth 100000 in
theorem xa79_27 : j_code jP 153 27 = some (.invokevirtual 84) := rfl
set_option maxRecDepth 100000 in
theorem xa79_30 : j_code jP 153 30 = some (.ireturn) := rfl
set_option maxRecDepth 100000 in
theorem xa79_31 : j_code jP 153 31 = some (.aload_n 0) := rfl
set_option maxRecDepth 100000 in
theorem xa79_32 : j_code jP 153 32 = some (.getfield 30) := rfl
set_option maxRecDepth 100000 in
theorem xa79_35 : j_code jP 153 35 = some (.getfield 196) := rfl
set_option maxRecDepth 100000 in
theorem xa79_38 : j_code jP 153 38 = some (.iload_n 1) := rfl
set_option maxRecDepth 100000 in
theorem xa79_39 : j_code jP 153 39 = some (.iaload) := rfl
set_option maxRecDepth 100000 in
theorem xa79_40 : j_code jP 153 40 = some (.istore_n 3) := rfl
set_option maxRecDepth 100000 in
theorem xa79_41 : j_code jP 153 41 = some (.iload_n 3) := rfl
set_option maxRecDepth 100000 in
theorem xa79_42 : j_code jP 153 42 = some (.iload_n 2) := rfl
set_option maxRecDepth 100000 in
theorem xa79_43 : j_code jP 153 43 = some (.if_icmp .ne 9) := rfl
set_option maxRecDepth 100000 in
theorem xa79_46 : j_code jP 153 46 = some (.aload_n 0) := rfl
set_option maxRecDepth 100000 in
theorem xa79_47 : j_code jP 153 47 = some (.iconst 4) := rfl
set_option maxRecDepth 100000 in
theorem xa79_48 : j_code jP 153 48 = some (.invokevirtual 84) := rfl
set_option maxRecDepth 100000 in
theorem xa79_51 : j_code jP 153 51 = some (.ireturn) := rfl
set_option maxRecDepth 100000 in
theorem xa79_52 : j_code jP 153 52 = some (.aload_n 0) := rfl
set_option maxRecDepth 100000 in
theorem xa79_53 : j_code jP 153 53 = some (.getfield 30) := rfl
set_option maxRecDepth 100000 in
theorem xa79_56 : j_code jP 153 56 = some (.getfield 205) := rfl
set_option maxRecDepth 100000 in
theorem xa79_59 : j_code jP 153 59 = some (.iload_n 1) := rfl
set_option maxRecDepth 100000 in
theorem xa79_60 : j_code jP 153 60 = some (.iaload) := rfl
set_option maxRecDepth 100000 in
theorem xa79_61 : j_code jP 153 61 = some (.ifCond .eq 9) := rfl
set_option maxRecDepth 100000 in
theorem xa79_64 : j_code jP 153 64 = some (.aload_n 0) := rfl
set_option maxRecDepth 100000 in
theorem xa79_65 : j_code jP 153 65 = some (.iconst 5) := rfl
set_option maxRecDepth 100000 in
theorem xa79_66 : j_code jP 153 66 = some (.invokevirtual 84) := rfl
set_option maxRecDepth 100000 in
theorem xa79_69 : j_code jP 153 69 = some (.ireturn) := rfl
set_option maxRecDepth 100000 in
theorem xa79_70 : j_code jP 153 70 = some (.aload_n 0) := rfl
set_option maxRecDepth 100000 in
theorem xa79_71 : j_code jP 153 71 = some (.getfield 37) := rfl
set_option maxRecDepth 100000 in
theorem xa79_74 : j_code jP 153 74 = some (.aload_n 0) := rfl
set_option maxRecDepth 100000 in
theorem xa79_75 : j_code jP 153 75 = some (.getfield 30) := rfl
set_option maxRecDepth 100000 in
theorem xa79_78 : j_code jP 153 78 = some (.invokevirtual 357) := rfl
set_option maxRecDepth 100000 in
theorem xa79_81 : j_code jP 153 81 = some (.aload_n 0) := rfl
set_option maxRecDepth 100000 in
theorem xa79_82 : j_code jP 153 82 = some (.getfield 30) := rfl
set_option maxRecDepth 100000 in
theorem xa79_85 : j_code jP 153 85 = some (.getfield 196) := rfl
set_option maxRecDepth 100000 in
theorem xa79_88 : j_code jP 153 88 = some (.iload_n 1) := rfl
set_option maxRecDepth 100000 in
theorem xa79_89 : j_code jP 153 89 = some (.iload_n 2) := rfl
set_option maxRecDepth 100000 in
theorem xa79_90 : j_code jP 153 90 = some (.iastore) := rfl
set_option maxRecDepth 100000 in
theorem xa79_91 : j_code jP 153 91 = some (.aload_n 0) := rfl
set_option maxRecDepth 100000 in
theorem xa79_92 : j_code jP 153 92 = some (.iload_n 3) := rfl
set_option maxRecDepth 100000 in
theorem xa79_93 : j_code jP 153 93 = some (.invokevirtual 104) := rfl
set_option maxRecDepth 100000 in
theorem xa79_96 : j_code jP 153 96 = some (.ireturn) := rfl
def xa79_C (mi : Int32) (shu : Int32) (bus : Int32) (lks : Int32) (sta : List Int32) (ph : List Int32) (ns : Int32) (nt : Int32) (cel : Int32) (sst : Int32) (acne : Int32) (acco : Int32) : jk_K := [(0, .inl (9, [.ref 1, .ref 3, .ref 4, .ref 29, .ref 281, .ref 325, .ref 327, .ref 343, .int sst])), (4, .inl (7, [.ref 327, .int mi, .int shu, .int bus, .ref 5, .ref 6, .ref 7, .ref 8, .ref 9, .ref 10, .ref 11, .ref 12, .ref 13, .ref 14, .ref 15, .int lks, .ref 16, .ref 17, .ref 20])), (6, .inr (.inl (0, sta))), (7, .inr (.inl (0, ph))), (29, .inl (0, [.ref 30, .int acne, .int acco])), (327, .inl (2, [.int ns, .ref 328, .ref 329, .ref 330, .ref 331, .int nt, .ref 332, .ref 333, .ref 334, .ref 335, .ref 336, .ref 337, .ref 338, .int cel, .ref 339, .ref 340, .ref 341, .ref 342]))]
def xa79_D (mi : Int32) (shu : Int32) (bus : Int32) (lks : Int32) (sta : List Int32) (ph : List Int32) (ns : Int32) (nt : Int32) (cel : Int32) (sst : Int32) (acne : Int32) (acco : Int32) : jk_K := [(0, .inl (9, [.ref 1, .ref 3, .ref 4, .ref 29, .ref 281, .ref 325, .ref 327, .ref 343, .int sst])), (4, .inl (7, [.ref 327, .int mi, .int shu, .int bus, .ref 5, .ref 6, .ref 7, .ref 8, .ref 9, .ref 10, .ref 11, .ref 12, .ref 13, .ref 14, .ref 15, .int lks, .ref 16, .ref 17, .ref 20])), (6, .inr (.inl (0, sta))), (7, .inr (.inl (0, ph))), (327, .inl (2, [.int ns, .ref 328, .ref 329, .ref 330, .ref 331, .int nt, .ref 332, .ref 333, .ref 334, .ref 335, .ref 336, .ref 337, .ref 338, .int cel, .ref 339, .ref 340, .ref 341, .ref 342]))]
def x_astart (sta : List Int32) (ph : List Int32) (nt : Int32) (sst : Int32) (x1 : Int32) (x2 : Int32) : Int32 × Int32 × List Int32 × Int32 := (if (x_isWithin x2 0 199) = 0 then let z5 := (x_qrefuse sst 1); ((z5.1), 0, sta, (z5.2)) else (if (x_isTrain nt x1) = 0 then let z4 := (x_qrefuse sst 2); ((z4.1), 0, sta, (z4.2)) else (if (gA sta x1) = x2 then let z3 := (x_qrefuse sst 4); ((z3.1), 0, sta, (z3.2)) else (if (gA ph x1) = 0 then let sta1 := (sA sta x1 x2); let z1 := (x_qanswer sst (gA sta x1)); ((z1.1), 1, sta1, (z1.2)) else let z2 := (x_qrefuse sst 5); ((z2.1), 0, sta, (z2.2))))))
set_option maxRecDepth 1000000 in
theorem xa79_ok {mi : Int32} {shu : Int32} {bus : Int32} {lks : Int32} {sta : List Int32} {ph : List Int32} {ns : Int32} {nt : Int32} {cel : Int32} {sst : Int32} {acne : Int32} {acco : Int32} {x1 x2 : Int32} {d : Nat} {h h0 : J_H} {RM : J_H → J_H → Prop} (hR : ∀ d h1, KN h1 (xa79_C mi shu bus lks sta ph ns nt cel sst acne acco) h0 → j_V jP d 2 0 (lv_args 0 [.ref 29, .ref 4]) [] h1 (fun rv h' => rv = none ∧ RM h1 h')) (hK : ∀ h1 h2, KN h1 (xa79_C mi shu bus lks sta ph ns nt cel sst acne acco) h0 → RM h1 h2 → KN h2 (xa79_D mi shu bus lks sta ph ns nt cel sst acne acco) h2) (K : KN h [(0, .inl (9, [.ref 1, .ref 3, .ref 4, .ref 29, .ref 281, .ref 325, .ref 327, .ref 343, .int sst])), (4, .inl (7, [.ref 327, .int mi, .int shu, .int bus, .ref 5, .ref 6, .ref 7, .ref 8, .ref 9, .ref 10, .ref 11, .ref 12, .ref 13, .ref 14, .ref 15, .int lks, .ref 16, .ref 17, .ref 20])), (6, .inr (.inl (0, sta))), (7, .inr (.inl (0, ph))), (29, .inl (0, [.ref 30, .int acne, .int acco])), (327, .inl (2, [.int ns, .ref 328, .ref 329, .ref 330, .ref 331, .int nt, .ref 332, .ref 333, .ref 334, .ref 335, .ref 336, .ref 337, .ref 338, .int cel, .ref 339, .ref 340, .ref 341, .ref 342]))] h0) : j_V jP d 153 0 (lv_args 0 [.ref 0, .int x1, .int x2]) [] h (fun rv h' => rv = some (.int (x_astart sta ph nt sst x1 x2).1) ∧ (((x_astart sta ph nt sst x1 x2).2.1 = 0 ∧ KN h' [(0, .inl (9, [.ref 1, .ref 3, .ref 4, .ref 29, .ref 281, .ref 325, .ref 327, .ref 343, .int (x_astart sta ph nt sst x1 x2).2.2.2])), (4, .inl (7, [.ref 327, .int mi, .int shu, .int bus, .ref 5, .ref 6, .ref 7, .ref 8, .ref 9, .ref 10, .ref 11, .ref 12, .ref 13, .ref 14, .ref 15, .int lks, .ref 16, .ref 17, .ref 20])), (6, .inr (.inl (0, (x_astart sta ph nt sst x1 x2).2.2.1))), (7, .inr (.inl (0, ph))), (29, .inl (0, [.ref 30, .int acne, .int acco])), (327, .inl (2, [.int ns, .ref 328, .ref 329, .ref 330, .ref 331, .int nt, .ref 332, .ref 333, .ref 334, .ref 335, .ref 336, .ref 337, .ref 338, .int cel, .ref 339, .ref 340, .ref 341, .ref 342]))] h0) ∨ ((x_astart sta ph nt sst x1 x2).2.1 = 1 ∧ ∃ h1 h2, KN h1 (xa79_C mi shu bus lks sta ph ns nt cel sst acne acco) h0 ∧ RM h1 h2 ∧ KN h' [(0, .inl (9, [.ref 1, .ref 3, .ref 4, .ref 29, .ref 281, .ref 325, .ref 327, .ref 343, .int (x_astart sta ph nt sst x1 x2).2.2.2])), (4, .inl (7, [.ref 327, .int mi, .int shu, .int bus, .ref 5, .ref 6, .ref 7, .ref 8, .ref 9, .ref 10, .ref 11, .ref 12, .ref 13, .ref 14, .ref 15, .int lks, .ref 16, .ref 17, .ref 20])), (6, .inr (.inl (0, (x_astart sta ph nt sst x1 x2).2.2.1))), (7, .inr (.inl (0, ph))), (327, .inl (2, [.int ns, .ref 328, .ref 329, .ref 330, .ref 331, .int nt, .ref 332, .ref 333, .ref 334, .ref 335, .ref 336, .ref 337, .ref 338, .int cel, .ref 339, .ref 340, .ref 341, .ref 342]))] h2))) := by
  show j_V jP d 153 0 [(0, .ref 0), (1, .int x1), (2, .int x2)] [] h _
  obtain ⟨lv, elv, L⟩ : ∃ lv, lv = [(0, .ref 0), (1, .int x1), (2, .int x2)] ∧ LK lv [(0, .ref 0), (1, .int x1), (2, .int x2)] := ⟨_, rfl, LK.rf⟩
  rw [← elv]
  clear elv
  refine j_V.ldL xa79_M xa79_0 rfl (i := 2) (kd := 0) (v := .int x2) (pcJ := 1) rfl L rfl rfl rfl ?_
  refine j_V.one xa79_M xa79_1 (by decide) (pcJ := 2) (stJ := [.int 0, .int x2]) rfl ?_
  refine j_V.one xa79_M xa79_2 (by decide) (pcJ := 5) (stJ := [.int 199, .int 0, .int x2]) rfl ?_
  refine j_V.cl xa79_M xa79_5 rfl (md := 2) (mj := 162) rfl (by decide) xawisWi_M (As := [.int x2, .int 0, .int 199]) (rest := []) (jk_spl2 rfl rfl (Nat.le_of_ble_eq_true rfl) (Nat.le_of_ble_eq_true rfl)) (fun d => xawisWi_ok (K.fi [] rfl rfl)) ?_
  rintro r hz ⟨rfl, ez⟩
  rw [ez]
  clear ez
  show j_V jP _ 153 8 lv [.int (x_isWithin x2 0 199)] h _
  refine j_V.ifc xa79_M xa79_8 (t := 17) rfl (fun c8_0 => ?_) (fun c8_0 => ?_)
  · replace c8_0 : ¬ ((x_isWithin x2 0 199) = 0) := jd_ne c8_0
    refine j_V.ldL xa79_M xa79_17 rfl (i := 0) (kd := 2) (v := .ref 0) (pcJ := 18) rfl L rfl rfl rfl ?_
    refine j_V.ldL xa79_M xa79_18 rfl (i := 1) (kd := 0) (v := .int x1) (pcJ := 19) rfl L rfl rfl rfl ?_
    refine j_V.cl xa79_M xa79_19 rfl (md := 3) (mj := 165) rfl (by decide) xa47_M (As := [.ref 0, .int x1]) (rest := []) (jk_spl3 (K.at rfl) rfl rfl rfl (Nat.le_of_ble_eq_true rfl) (Nat.le_of_ble_eq_true rfl)) (fun d => xa47_ok (K.fi [0, 327] rfl rfl)) ?_
    rintro r hz ⟨rfl, ez⟩
    rw [ez]
    clear ez
    show j_V jP _ 153 22 lv [.int (x_isTrain nt x1)] h _
    refine j_V.ifc xa79_M xa79_22 (t := 31) rfl (fun c22_1 => ?_) (fun c22_1 => ?_)
    · replace c22_1 : ¬ ((x_isTrain nt x1) = 0) := jd_ne c22_1
      refine j_V.ldL xa79_M xa79_31 rfl (i := 0) (kd := 2) (v := .ref 0) (pcJ := 32) rfl L rfl rfl rfl ?_
      refine j_V.getK xa79_M xa79_32 (ci := 9) (j := 2) rfl K rfl rfl ?_
      refine j_V.getK xa79_M xa79_35 (ci := 7) (j := 5) rfl K rfl rfl ?_
      refine j_V.ldL xa79_M xa79_38 rfl (i := 1) (kd := 0) (v := .int x1) (pcJ := 39) rfl L rfl rfl rfl ?_
      refine j_V.iaA xa79_M xa79_39 K rfl ?_
      refine j_V.stL xa79_M xa79_40 rfl (i := 3) (kd := 0) (kl' := [(0, .ref 0), (1, .int x1), (2, .int x2), (3, .int (gA sta x1))]) (pcJ := 41) rfl L rfl (by decide) rfl rfl rfl (fun lv L => ?_)
      refine j_V.ldL xa79_M xa79_41 rfl (i := 3) (kd := 0) (v := .int (gA sta x1)) (pcJ := 42) rfl L rfl rfl rfl ?_
      refine j_V.ldL xa79_M xa79_42 rfl (i := 2) (kd := 0) (v := .int x2) (pcJ := 43) rfl L rfl rfl rfl ?_
      refine j_V.icmp xa79_M xa79_43 (t := 52) rfl (fun c43_2 => ?_) (fun c43_2 => ?_)
      · replace c43_2 : ¬ ((gA sta x1) = x2) := jd_ne c43_2
        refine j_V.ldL xa79_M xa79_52 rfl (i := 0) (kd := 2) (v := .ref 0) (pcJ := 53) rfl L rfl rfl rfl ?_
        refine j_V.getK xa79_M xa79_53 (ci := 9) (j := 2) rfl K rfl rfl ?_
        refine j_V.getK xa79_M xa79_56 (ci := 7) (j := 6) rfl K rfl rfl ?_
        refine j_V.ldL xa79_M xa79_59 rfl (i := 1) (kd := 0) (v := .int x1) (pcJ := 60) rfl L rfl rfl rfl ?_
        refine j_V.iaA xa79_M xa79_60 K rfl ?_
        refine j_V.ifc xa79_M xa79_61 (t := 70) rfl (fun c61_3 => ?_) (fun c61_3 => ?_)
        · replace c61_3 : (gA ph x1) = 0 := jd_eq c61_3
          refine j_V.ldL xa79_M xa79_70 rfl (i := 0) (kd := 2) (v := .ref 0) (pcJ := 71) rfl L rfl rfl rfl ?_
          refine j_V.getK xa79_M xa79_71 (ci := 9) (j := 3) rfl K rfl rfl ?_
          refine j_V.ldL xa79_M xa79_74 rfl (i := 0) (kd := 2) (v := .ref 0) (pcJ := 75) rfl L rfl rfl rfl ?_
          refine j_V.getK xa79_M xa79_75 (ci := 9) (j := 2) rfl K rfl rfl ?_
          refine j_V.cl xa79_M xa79_78 rfl (md := 3) (mj := 2) rfl (by decide) yr0m_M (As := [.ref 29, .ref 4]) (rest := []) (jk_spl3 (K.at rfl) rfl rfl rfl (Nat.le_of_ble_eq_true rfl) (Nat.le_of_ble_eq_true rfl)) (fun d => hR d _ K) ?_
          rintro r h9 ⟨rfl, R9⟩
          have K1 := K
          obtain ⟨hb, ehb⟩ : ∃ z, z = h9 := ⟨_, rfl⟩
          have K : KN h9 [(0, .inl (9, [.ref 1, .ref 3, .ref 4, .ref 29, .ref 281, .ref 325, .ref 327, .ref 343, .int sst])), (4, .inl (7, [.ref 327, .int mi, .int shu, .int bus, .ref 5, .ref 6, .ref 7, .ref 8, .ref 9, .ref 10, .ref 11, .ref 12, .ref 13, .ref 14, .ref 15, .int lks, .ref 16, .ref 17, .ref 20])), (6, .inr (.inl (0, sta))), (7, .inr (.inl (0, ph))), (327, .inl (2, [.int ns, .ref 328, .ref 329, .ref 330, .ref 331, .int nt, .ref 332, .ref 333, .ref 334, .ref 335, .ref 336, .ref 337, .ref 338, .int cel, .ref 339, .ref 340, .ref 341, .ref 342]))] hb := by rw [ehb]; exact hK _ _ K1 R9
          rw [← ehb] at R9
          clear ehb
          show j_V jP _ 153 81 lv [] h9 _
          refine j_V.ldL xa79_M xa79_81 rfl (i := 0) (kd := 2) (v := .ref 0) (pcJ := 82) rfl L rfl rfl rfl ?_
          refine j_V.getK xa79_M xa79_82 (ci := 9) (j := 2) rfl K rfl rfl ?_
          refine j_V.getK xa79_M xa79_85 (ci := 7) (j := 5) rfl K rfl rfl ?_
          refine j_V.ldL xa79_M xa79_88 rfl (i := 1) (kd := 0) (v := .int x1) (pcJ := 89) rfl L rfl rfl rfl ?_
          refine j_V.ldL xa79_M xa79_89 rfl (i := 2) (kd := 0) (v := .int x2) (pcJ := 90) rfl L rfl rfl rfl ?_
          refine j_V.isA xa79_M xa79_90 (k' := [(0, .inl (9, [.ref 1, .ref 3, .ref 4, .ref 29, .ref 281, .ref 325, .ref 327, .ref 343, .int sst])), (4, .inl (7, [.ref 327, .int mi, .int shu, .int bus, .ref 5, .ref 6, .ref 7, .ref 8, .ref 9, .ref 10, .ref 11, .ref 12, .ref 13, .ref 14, .ref 15, .int lks, .ref 16, .ref 17, .ref 20])), (6, .inr (.inl (0, (sA sta x1 x2)))), (7, .inr (.inl (0, ph))), (327, .inl (2, [.int ns, .ref 328, .ref 329, .ref 330, .ref 331, .int nt, .ref 332, .ref 333, .ref 334, .ref 335, .ref 336, .ref 337, .ref 338, .int cel, .ref 339, .ref 340, .ref 341, .ref 342]))]) K rfl rfl (fun h K => ?_)
          obtain ⟨sta1, esta1⟩ : ∃ z, z = (sA sta x1 x2) := ⟨_, rfl⟩
          rw [← esta1] at K
          refine j_V.ldL xa79_M xa79_91 rfl (i := 0) (kd := 2) (v := .ref 0) (pcJ := 92) rfl L rfl rfl rfl ?_
          refine j_V.ldL xa79_M xa79_92 rfl (i := 3) (kd := 0) (v := .int (gA sta x1)) (pcJ := 93) rfl L rfl rfl rfl ?_
          refine j_V.cl xa79_M xa79_93 rfl (md := 3) (mj := 159) rfl (by decide) xa49_M (As := [.ref 0, .int (gA sta x1)]) (rest := []) (jk_spl3 (K.at rfl) rfl rfl rfl (Nat.le_of_ble_eq_true rfl) (Nat.le_of_ble_eq_true rfl)) (fun d => xa49_ok (K.fi [0] rfl rfl)) ?_
          rintro r h9 ⟨rfl, K9⟩
          generalize ez1 : (x_qanswer sst (gA sta x1)) = z1 at K9 ⊢
          have K : KN h9 [(0, .inl (9, [.ref 1, .ref 3, .ref 4, .ref 29, .ref 281, .ref 325, .ref 327, .ref 343, .int (z1.2)])), (4, .inl (7, [.ref 327, .int mi, .int shu, .int bus, .ref 5, .ref 6, .ref 7, .ref 8, .ref 9, .ref 10, .ref 11, .ref 12, .ref 13, .ref 14, .ref 15, .int lks, .ref 16, .ref 17, .ref 20])), (6, .inr (.inl (0, sta1))), (7, .inr (.inl (0, ph))), (327, .inl (2, [.int ns, .ref 328, .ref 329, .ref 330, .ref 331, .int nt, .ref 332, .ref 333, .ref 334, .ref 335, .ref 336, .ref 337, .ref 338, .int cel, .ref 339, .ref 340, .ref 341, .ref 342]))] hb := K.mg K9 rfl rfl
          clear K9
          show j_V jP _ 153 96 lv [.int (z1.1)] h9 _
          subst ez1
          subst esta1
          refine j_V.ri xa79_M xa79_96 ?_
          rw [show (x_astart sta ph nt sst x1 x2) = _ from ((if_neg c8_0).trans ((if_neg c22_1).trans ((if_neg c43_2).trans ((if_pos c61_3).trans (rfl)))))]
          exact ⟨rfl, Or.inr ⟨rfl, _, _, K1, R9, K⟩⟩
        · replace c61_3 : ¬ ((gA ph x1) = 0) := jd_eqn c61_3
          refine j_V.ldL xa79_M xa79_64 rfl (i := 0) (kd := 2) (v := .ref 0) (pcJ := 65) rfl L rfl rfl rfl ?_
          refine j_V.one xa79_M xa79_65 (by decide) (pcJ := 66) (stJ := [.int 5, .ref 0]) rfl ?_
          refine j_V.cl xa79_M xa79_66 rfl (md := 3) (mj := 161) rfl (by decide) xa50_M (As := [.ref 0, .int 5]) (rest := []) (jk_spl3 (K.at rfl) rfl rfl rfl (Nat.le_of_ble_eq_true rfl) (Nat.le_of_ble_eq_true rfl)) (fun d => xa50_ok (K.fi [0] rfl rfl)) ?_
          rintro r h9 ⟨rfl, K9⟩
          generalize ez2 : (x_qrefuse sst 5) = z2 at K9 ⊢
          have K : KN h9 [(0, .inl (9, [.ref 1, .ref 3, .ref 4, .ref 29, .ref 281, .ref 325, .ref 327, .ref 343, .int (z2.2)])), (4, .inl (7, [.ref 327, .int mi, .int shu, .int bus, .ref 5, .ref 6, .ref 7, .ref 8, .ref 9, .ref 10, .ref 11, .ref 12, .ref 13, .ref 14, .ref 15, .int lks, .ref 16, .ref 17, .ref 20])), (6, .inr (.inl (0, sta))), (7, .inr (.inl (0, ph))), (29, .inl (0, [.ref 30, .int acne, .int acco])), (327, .inl (2, [.int ns, .ref 328, .ref 329, .ref 330, .ref 331, .int nt, .ref 332, .ref 333, .ref 334, .ref 335, .ref 336, .ref 337, .ref 338, .int cel, .ref 339, .ref 340, .ref 341, .ref 342]))] h0 := K.mg K9 rfl rfl
          clear K9
          show j_V jP _ 153 69 lv [.int (z2.1)] h9 _
          subst ez2
          refine j_V.ri xa79_M xa79_69 ?_
          rw [show (x_astart sta ph nt sst x1 x2) = _ from ((if_neg c8_0).trans ((if_neg c22_1).trans ((if_neg c43_2).trans ((if_neg c61_3).trans (rfl)))))]
          exact ⟨rfl, Or.inl ⟨rfl, K⟩⟩
      · replace c43_2 : (gA sta x1) = x2 := jd_nen c43_2
        refine j_V.ldL xa79_M xa79_46 rfl (i := 0) (kd := 2) (v := .ref 0) (pcJ := 47) rfl L rfl rfl rfl ?_
        refine j_V.one xa79_M xa79_47 (by decide) (pcJ := 48) (stJ := [.int 4, .ref 0]) rfl ?_
        refine j_V.cl xa79_M xa79_48 rfl (md := 3) (mj := 161) rfl (by decide) xa50_M (As := [.ref 0, .int 4]) (rest := []) (jk_spl3 (K.at rfl) rfl rfl rfl (Nat.le_of_ble_eq_true rfl) (Nat.le_of_ble_eq_true rfl)) (fun d => xa50_ok (K.fi [0] rfl rfl)) ?_
        rintro r h9 ⟨rfl, K9⟩
        generalize ez3 : (x_qrefuse sst 4) = z3 at K9 ⊢
        have K : KN h9 [(0, .inl (9, [.ref 1, .ref 3, .ref 4, .ref 29, .ref 281, .ref 325, .ref 327, .ref 343, .int (z3.2)])), (4, .inl (7, [.ref 327, .int mi, .int shu, .int bus, .ref 5, .ref 6, .ref 7, .ref 8, .ref 9, .ref 10, .ref 11, .ref 12, .ref 13, .ref 14, .ref 15, .int lks, .ref 16, .ref 17, .ref 20])), (6, .inr (.inl (0, sta))), (7, .inr (.inl (0, ph))), (29, .inl (0, [.ref 30, .int acne, .int acco])), (327, .inl (2, [.int ns, .ref 328, .ref 329, .ref 330, .ref 331, .int nt, .ref 332, .ref 333, .ref 334, .ref 335, .ref 336, .ref 337, .ref 338, .int cel, .ref 339, .ref 340, .ref 341, .ref 342]))] h0 := K.mg K9 rfl rfl
        clear K9
        show j_V jP _ 153 51 lv [.int (z3.1)] h9 _
        subst ez3
        refine j_V.ri xa79_M xa79_51 ?_
        rw [show (x_astart sta ph nt sst x1 x2) = _ from ((if_neg c8_0).trans ((if_neg c22_1).trans ((if_pos c43_2).trans (rfl))))]
        exact ⟨rfl, Or.inl ⟨rfl, K⟩⟩
    · replace c22_1 : (x_isTrain nt x1) = 0 := jd_nen c22_1
      refine j_V.ldL xa79_M xa79_25 rfl (i := 0) (kd := 2) (v := .ref 0) (pcJ := 26) rfl L rfl rfl rfl ?_
      refine j_V.one xa79_M xa79_26 (by decide) (pcJ := 27) (stJ := [.int 2, .ref 0]) rfl ?_
      refine j_V.cl xa79_M xa79_27 rfl (md := 3) (mj := 161) rfl (by decide) xa50_M (As := [.ref 0, .int 2]) (rest := []) (jk_spl3 (K.at rfl) rfl rfl rfl (Nat.le_of_ble_eq_true rfl) (Nat.le_of_ble_eq_true rfl)) (fun d => xa50_ok (K.fi [0] rfl rfl)) ?_
      rintro r h9 ⟨rfl, K9⟩
      generalize ez4 : (x_qrefuse sst 2) = z4 at K9 ⊢
      have K : KN h9 [(0, .inl (9, [.ref 1, .ref 3, .ref 4, .ref 29, .ref 281, .ref 325, .ref 327, .ref 343, .int (z4.2)])), (4, .inl (7, [.ref 327, .int mi, .int shu, .int bus, .ref 5, .ref 6, .ref 7, .ref 8, .ref 9, .ref 10, .ref 11, .ref 12, .ref 13, .ref 14, .ref 15, .int lks, .ref 16, .ref 17, .ref 20])), (6, .inr (.inl (0, sta))), (7, .inr (.inl (0, ph))), (29, .inl (0, [.ref 30, .int acne, .int acco])), (327, .inl (2, [.int ns, .ref 328, .ref 329, .ref 330, .ref 331, .int nt, .ref 332, .ref 333, .ref 334, .ref 335, .ref 336, .ref 337, .ref 338, .int cel, .ref 339, .ref 340, .ref 341, .ref 342]))] h0 := K.mg K9 rfl rfl
      clear K9
      show j_V jP _ 153 30 lv [.int (z4.1)] h9 _
      subst ez4
      refine j_V.ri xa79_M xa79_30 ?_
      rw [show (x_astart sta ph nt sst x1 x2) = _ from ((if_neg c8_0).trans ((if_pos c22_1).trans (rfl)))]
      exact ⟨rfl, Or.inl ⟨rfl, K⟩⟩
  · replace c8_0 : (x_isWithin x2 0 199) = 0 := jd_nen c8_0
    refine j_V.ldL xa79_M xa79_11 rfl (i := 0) (kd := 2) (v := .ref 0) (pcJ := 12) rfl L rfl rfl rfl ?_
    refine j_V.one xa79_M xa79_12 (by decide) (pcJ := 13) (stJ := [.int 1, .ref 0]) rfl ?_
    refine j_V.cl xa79_M xa79_13 rfl (md := 3) (mj := 161) rfl (by decide) xa50_M (As := [.ref 0, .int 1]) (rest := []) (jk_spl3 (K.at rfl) rfl rfl rfl (Nat.le_of_ble_eq_true rfl) (Nat.le_of_ble_eq_true rfl)) (fun d => xa50_ok (K.fi [0] rfl rfl)) ?_
    rintro r h9 ⟨rfl, K9⟩
    generalize ez5 : (x_qrefuse sst 1) = z5 at K9 ⊢
    have K : KN h9 [(0, .inl (9, [.ref 1, .ref 3, .ref 4, .ref 29, .ref 281, .ref 325, .ref 327, .ref 343, .int (z5.2)])), (4, .inl (7, [.ref 327, .int mi, .int shu, .int bus, .ref 5, .ref 6, .ref 7, .ref 8, .ref 9, .ref 10, .ref 11, .ref 12, .ref 13, .ref 14, .ref 15, .int lks, .ref 16, .ref 17, .ref 20])), (6, .inr (.inl (0, sta))), (7, .inr (.inl (0, ph))), (29, .inl (0, [.ref 30, .int acne, .int acco])), (327, .inl (2, [.int ns, .ref 328, .ref 329, .ref 330, .ref 331, .int nt, .ref 332, .ref 333, .ref 334, .ref 335, .ref 336, .ref 337, .ref 338, .int cel, .ref 339, .ref 340, .ref 341, .ref 342]))] h0 := K.mg K9 rfl rfl
    clear K9
    show j_V jP _ 153 16 lv [.int (z5.1)] h9 _
    subst ez5
    refine j_V.ri xa79_M xa79_16 ?_
    rw [show (x_astart sta ph nt sst x1 x2) = _ from ((if_pos c8_0).trans (rfl))]
    exact ⟨rfl, Or.inl ⟨rfl, K⟩⟩
set_option maxRecDepth 100000 in
theorem xa80_M : j_meth jP 154 = some (yX9_stall, cX9_stall, 3, (some .int), 2, false, 9) := rfl
set_option maxRecDepth 100000 in
theorem xa80_0 : j_code jP 154 0 = some (.iload_n 2) := rfl
set_option maxRecDepth 100000 in
theorem xa80_1 : j_code jP 154 1 = some (.iconst 1) := rfl
set_option maxRecDepth 100000 in
theorem xa80_2 : j_code jP 154 2 = some (.bipush 99) := rfl
set_option maxRecDepth 100000 in
theorem xa80_4 : j_code jP 154 4 = some (.invokestatic 138) := rfl
set_option maxRecDepth 100000 in
theorem xa80_7 : j_code jP 154 7 = some (.ifCond .ne 9) := rfl
set_option maxRecDepth 100000 in
theorem xa80_10 : j_code jP 154 10 = some (.aload_n 0) := rfl
set_option maxRecDepth 100000 in
theorem xa80_11 : j_code jP 154 11 = some (.iconst 1) := rfl
set_option maxRecDepth 100000 in
theorem xa80_12 : j_code jP 154 12 = some (.invokevirtual 84) := rfl
set_option maxRecDepth 100000 in
theorem xa80_15 : j_code jP 154 15 = some (.ireturn) := rfl
set_option maxRecDepth 100000 in
theorem xa80_16 : j_code jP 154 16 = some (.aload_n 0) := rfl
set_option maxRecDepth 100000 in
theorem xa80_17 : j_code jP 154 17 = some (.iload_n 1) := rfl
set_option maxRecDepth 100000 in
theorem xa80_18 : j_code jP 154 18 = some (.invokevirtual 184) := rfl
set_option maxRecDepth 100000 in
theorem xa80_21 : j_code jP 154 21 = some (.ifCond .ne 9) := rfl
set_option maxRecDepth 100000 in
theorem xa80_24 : j_code jP 154 24 = some (.aload_n 0) := rfl
set_option maxRecDepth 100000 in
theorem xa80_25 : j_code jP 154 25 = some (.iconst 2) := rfl
set_option maxRecDepth 100000 in
theorem xa80_26 : j_code jP 154 26 = some (.invokevirtual 84) := rfl
set_option maxRecDepth 100000 in
theorem xa80_29 : j_code jP 154 29 = some (.ireturn) := rfl
set_option maxRecDepth 100000 in
theorem xa80_30 : j_code jP 154 30 = some (.aload_n 0) := rfl
set_option maxRecDepth 100000 in
theorem xa80_31 : j_code jP 154 31 = some (.getfield 30) := rfl
set_option maxRecDepth 100000 in
theorem xa80_34 : j_code jP 154 34 = some (.getfield 205) := rfl
set_option maxRecDepth 100000 in
theorem xa80_37 : j_code jP 154 37 = some (.iload_n 1) := rfl
set_option maxRecDepth 100000 in
theorem xa80_38 : j_code jP 154 38 = some (.iaload) := rfl
set_option maxRecDepth 100000 in
theorem xa80_39 : j_code jP 154 39 = some (.iconst 2) := rfl
set_option maxRecDepth 100000 in
theorem xa80_40 : j_code jP 154 40 = some (.if_icmp .eq 9) := rfl
set_option maxRecDepth 100000 in
theorem xa80_43 : j_code jP 154 43 = some (.aload_n 0) := rfl
set_option maxRecDepth 100000 in
theorem xa80_44 : j_code jP 154 44 = some (.iconst 5) := rfl
set_option maxRecDepth 100000 in
theorem xa80_45 : j_code jP 154 45 = some (.invokevirtual 84) := rfl
set_option maxRecDepth 100000 in
theorem xa80_48 : j_code jP 154 48 = some (.ireturn) := rfl
set_option maxRecDepth 100000 in
theorem xa80_49 : j_code jP 154 49 = some (.aload_n 0) := rfl
set_option maxRecDepth 100000 in
theorem xa80_50 : j_code jP 154 50 = some (.getfield 37) := rfl
set_option maxRecDepth 100000 in
theorem xa80_53 : j_code jP 154 53 = some (.aload_n 0) := rfl
set_option maxRecDepth 100000 in
theorem xa80_54 : j_code jP 154 54 = some (.getfield 30) := rfl
set_option maxRecDepth 100000 in
theorem xa80_57 : j_code jP 154 57 = some (.invokevirtual 357) := rfl
set_option maxRecDepth 100000 in
theorem xa80_60 : j_code jP 154 60 = some (.aload_n 0) := rfl
set_option maxRecDepth 100000 in
theorem xa80_61 : j_code jP 154 61 = some (.getfield 30) := rfl
set_option maxRecDepth 100000 in
theorem xa80_64 : j_code jP 154 64 = some (.getfield 384) := rfl
set_option maxRecDepth 100000 in
theorem xa80_67 : j_code jP 154 67 = some (.iload_n 1) := rfl
set_option maxRecDepth 100000 in
theorem xa80_68 : j_code jP 154 68 = some (.dup2) := rfl
set_option maxRecDepth 100000 in
theorem xa80_69 : j_code jP 154 69 = some (.iaload) := rfl
set_option maxRecDepth 100000 in
theorem xa80_70 : j_code jP 154 70 = some (.iload_n 2) := rfl
set_option maxRecDepth 100000 in
theorem xa80_71 : j_code jP 154 71 = some (.iadd) := rfl
set_option maxRecDepth 100000 in
theorem xa80_72 : j_code jP 154 72 = some (.iastore) := rfl
set_option maxRecDepth 100000 in
theorem xa80_73 : j_code jP 154 73 = some (.aload_n 0) := rfl
set_option maxRecDepth 100000 in
theorem xa80_74 : j_code jP 154 74 = some (.aload_n 0) := rfl
set_option maxRecDepth 100000 in
theorem xa80_75 : j_code jP 154 75 = some (.getfield 30) := rfl
set_option maxRecDepth 100000 in
theorem xa80_78 : j_code jP 154 78 = some (.getfield 384) := rfl
set_option maxRecDepth 100000 in
theorem xa80_81 : j_code jP 154 81 = some (.iload_n 1) := rfl
set_option maxRecDepth 100000 in
theorem xa80_82 : j_code jP 154 82 = some (.iaload) := rfl
set_option maxRecDepth 100000 in
theorem xa80_83 : j_code jP 154 83 = some (.invokevirtual 104) := rfl
set_option maxRecDepth 100000 in
theorem xa80_86 : j_code jP 154 86 = some (.ireturn) := rfl
def xa80_C (mi : Int32) (shu : Int32) (bus : Int32) (lks : Int32) (ph : List Int32) (du : List Int32) (ns : Int32) (nt : Int32) (cel : Int32) (sst : Int32) (acne : Int32) (acco : Int32) : jk_K := [(0, .inl (9, [.ref 1, .ref 3, .ref 4, .ref 29, .ref 281, .ref 325, .ref 327, .ref 343, .int sst])), (4, .inl (7, [.ref 327, .int mi, .int shu, .int bus, .ref 5, .ref 6, .ref 7, .ref 8, .ref 9, .ref 10, .ref 11, .ref 12, .ref 13, .ref 14, .ref 15, .int lks, .ref 16, .ref 17, .ref 20])), (7, .inr (.inl (0, ph))), (10, .inr (.inl (0, du))), (29, .inl (0, [.ref 30, .int acne, .int acco])), (327, .inl (2, [.int ns, .ref 328, .ref 329, .ref 330, .ref 331, .int nt, .ref 332, .ref 333, .ref 334, .ref 335, .ref 336, .ref 337, .ref 338, .int cel, .ref 339, .ref 340, .ref 341, .ref 342]))]
def xa80_D (mi : Int32) (shu : Int32) (bus : Int32) (lks : Int32) (ph : List Int32) (du : List Int32) (ns : Int32) (nt : Int32) (cel : Int32) (sst : Int32) (acne : Int32) (acco : Int32) : jk_K := [(0, .inl (9, [.ref 1, .ref 3, .ref 4, .ref 29, .ref 281, .ref 325, .ref 327, .ref 343, .int sst])), (4, .inl (7, [.ref 327, .int mi, .int shu, .int bus, .ref 5, .ref 6, .ref 7, .ref 8, .ref 9, .ref 10, .ref 11, .ref 12, .ref 13, .ref 14, .ref 15, .int lks, .ref 16, .ref 17, .ref 20])), (7, .inr (.inl (0, ph))), (10, .inr (.inl (0, du))), (327, .inl (2, [.int ns, .ref 328, .ref 329, .ref 330, .ref 331, .int nt, .ref 332, .ref 333, .ref 334, .ref 335, .ref 336, .ref 337, .ref 338, .int cel, .ref 339, .ref 340, .ref 341, .ref 342]))]
def x_astall (ph : List Int32) (du : List Int32) (nt : Int32) (sst : Int32) (x1 : Int32) (x2 : Int32) : Int32 × Int32 × List Int32 × Int32 := (if (x_isWithin x2 1 99) = 0 then let z4 := (x_qrefuse sst 1); ((z4.1), 0, du, (z4.2)) else (if (x_isTrain nt x1) = 0 then let z3 := (x_qrefuse sst 2); ((z3.1), 0, du, (z3.2)) else (if (gA ph x1) = 2 then let du1 := (sA du x1 ((gA du x1) + x2)); let z1 := (x_qanswer sst (gA du1 x1)); ((z1.1), 1, du1, (z1.2)) else let z2 := (x_qrefuse sst 5); ((z2.1), 0, du, (z2.2)))))
set_option maxRecDepth 1000000 in
theorem xa80_ok {mi : Int32} {shu : Int32} {bus : Int32} {lks : Int32} {ph : List Int32} {du : List Int32} {ns : Int32} {nt : Int32} {cel : Int32} {sst : Int32} {acne : Int32} {acco : Int32} {x1 x2 : Int32} {d : Nat} {h h0 : J_H} {RM : J_H → J_H → Prop} (hR : ∀ d h1, KN h1 (xa80_C mi shu bus lks ph du ns nt cel sst acne acco) h0 → j_V jP d 2 0 (lv_args 0 [.ref 29, .ref 4]) [] h1 (fun rv h' => rv = none ∧ RM h1 h')) (hK : ∀ h1 h2, KN h1 (xa80_C mi shu bus lks ph du ns nt cel sst acne acco) h0 → RM h1 h2 → KN h2 (xa80_D mi shu bus lks ph du ns nt cel sst acne acco) h2) (K : KN h [(0, .inl (9, [.ref 1, .ref 3, .ref 4, .ref 29, .ref 281, .ref 325, .ref 327, .ref 343, .int sst])), (4, .inl (7, [.ref 327, .int mi, .int shu, .int bus, .ref 5, .ref 6, .ref 7, .ref 8, .ref 9, .ref 10, .ref 11, .ref 12, .ref 13, .ref 14, .ref 15, .int lks, .ref 16, .ref 17, .ref 20])), (7, .inr (.inl (0, ph))), (10, .inr (.inl (0, du))), (29, .inl (0, [.ref 30, .int acne, .int acco])), (327, .inl (2, [.int ns, .ref 328, .ref 329, .ref 330, .ref 331, .int nt, .ref 332, .ref 333, .ref 334, .ref 335, .ref 336, .ref 337, .ref 338, .int cel, .ref 339, .ref 340, .ref 341, .ref 342]))] h0) : j_V jP d 154 0 (lv_args 0 [.ref 0, .int x1, .int x2]) [] h (fun rv h' => rv = some (.int (x_astall ph du nt sst x1 x2).1) ∧ (((x_astall ph du nt sst x1 x2).2.1 = 0 ∧ KN h' [(0, .inl (9, [.ref 1, .ref 3, .ref 4, .ref 29, .ref 281, .ref 325, .ref 327, .ref 343, .int (x_astall ph du nt sst x1 x2).2.2.2])), (4, .inl (7, [.ref 327, .int mi, .int shu, .int bus, .ref 5, .ref 6, .ref 7, .ref 8, .ref 9, .ref 10, .ref 11, .ref 12, .ref 13, .ref 14, .ref 15, .int lks, .ref 16, .ref 17, .ref 20])), (7, .inr (.inl (0, ph))), (10, .inr (.inl (0, (x_astall ph du nt sst x1 x2).2.2.1))), (29, .inl (0, [.ref 30, .int acne, .int acco])), (327, .inl (2, [.int ns, .ref 328, .ref 329, .ref 330, .ref 331, .int nt, .ref 332, .ref 333, .ref 334, .ref 335, .ref 336, .ref 337, .ref 338, .int cel, .ref 339, .ref 340, .ref 341, .ref 342]))] h0) ∨ ((x_astall ph du nt sst x1 x2).2.1 = 1 ∧ ∃ h1 h2, KN h1 (xa80_C mi shu bus lks ph du ns nt cel sst acne acco) h0 ∧ RM h1 h2 ∧ KN h' [(0, .inl (9, [.ref 1, .ref 3, .ref 4, .ref 29, .ref 281, .ref 325, .ref 327, .ref 343, .int (x_astall ph du nt sst x1 x2).2.2.2])), (4, .inl (7, [.ref 327, .int mi, .int shu, .int bus, .ref 5, .ref 6, .ref 7, .ref 8, .ref 9, .ref 10, .ref 11, .ref 12, .ref 13, .ref 14, .ref 15, .int lks, .ref 16, .ref 17, .ref 20])), (7, .inr (.inl (0, ph))), (10, .inr (.inl (0, (x_astall ph du nt sst x1 x2).2.2.1))), (327, .inl (2, [.int ns, .ref 328, .ref 329, .ref 330, .ref 331, .int nt, .ref 332, .ref 333, .ref 334, .ref 335, .ref 336, .ref 337, .ref 338, .int cel, .ref 339, .ref 340, .ref 341, .ref 342]))] h2))) := by
  show j_V jP d 154 0 [(0, .ref 0), (1, .int x1), (2, .int x2)] [] h _
  obtain ⟨lv, elv, L⟩ : ∃ lv, lv = [(0, .ref 0), (1, .int x1), (2, .int x2)] ∧ LK lv [(0, .ref 0), (1, .int x1), (2, .int x2)] := ⟨_, rfl, LK.rf⟩
  rw [← elv]
  clear elv
  refine j_V.ldL xa80_M xa80_0 rfl (i := 2) (kd := 0) (v := .int x2) (pcJ := 1) rfl L rfl rfl rfl ?_
  refine j_V.one xa80_M xa80_1 (by decide) (pcJ := 2) (stJ := [.int 1, .int x2]) rfl ?_
  refine j_V.one xa80_M xa80_2 (by decide) (pcJ := 4) (stJ := [.int 99, .int 1, .int x2]) rfl ?_
  refine j_V.cl xa80_M xa80_4 rfl (md := 2) (mj := 162) rfl (by decide) xawisWi_M (As := [.int x2, .int 1, .int 99]) (rest := []) (jk_spl2 rfl rfl (Nat.le_of_ble_eq_true rfl) (Nat.le_of_ble_eq_true rfl)) (fun d => xawisWi_ok (K.fi [] rfl rfl)) ?_
  rintro r hz ⟨rfl, ez⟩
  rw [ez]
  clear ez
  show j_V jP _ 154 7 lv [.int (x_isWithin x2 1 99)] h _
  refine j_V.ifc xa80_M xa80_7 (t := 16) rfl (fun c7_0 => ?_) (fun c7_0 => ?_)
  · replace c7_0 : ¬ ((x_isWithin x2 1 99) = 0) := jd_ne c7_0
    refine j_V.ldL xa80_M xa80_16 rfl (i := 0) (kd := 2) (v := .ref 0) (pcJ := 17) rfl L rfl rfl rfl ?_
    refine j_V.ldL xa80_M xa80_17 rfl (i := 1) (kd := 0) (v := .int x1) (pcJ := 18) rfl L rfl rfl rfl ?_
    refine j_V.cl xa80_M xa80_18 rfl (md := 3) (mj := 165) rfl (by decide) xa47_M (As := [.ref 0, .int x1]) (rest := []) (jk_spl3 (K.at rfl) rfl rfl rfl (Nat.le_of_ble_eq_true rfl) (Nat.le_of_ble_eq_true rfl)) (fun d => xa47_ok (K.fi [0, 327] rfl rfl)) ?_
    rintro r hz ⟨rfl, ez⟩
    rw [ez]
    clear ez
    show j_V jP _ 154 21 lv [.int (x_isTrain nt x1)] h _
    refine j_V.ifc xa80_M xa80_21 (t := 30) rfl (fun c21_1 => ?_) (fun c21_1 => ?_)
    · replace c21_1 : ¬ ((x_isTrain nt x1) = 0) := jd_ne c21_1
      refine j_V.ldL xa80_M xa80_30 rfl (i := 0) (kd := 2) (v := .ref 0) (pcJ := 31) rfl L rfl rfl rfl ?_
      refine j_V.getK xa80_M xa80_31 (ci := 9) (j := 2) rfl K rfl rfl ?_
      refine j_V.getK xa80_M xa80_34 (ci := 7) (j := 6) rfl K rfl rfl ?_
      refine j_V.ldL xa80_M xa80_37 rfl (i := 1) (kd := 0) (v := .int x1) (pcJ := 38) rfl L rfl rfl rfl ?_
      refine j_V.iaA xa80_M xa80_38 K rfl ?_
      refine j_V.one xa80_M xa80_39 (by decide) (pcJ := 40) (stJ := [.int 2, .int (gA ph x1)]) rfl ?_
      refine j_V.icmp xa80_M xa80_40 (t := 49) rfl (fun c40_2 => ?_) (fun c40_2 => ?_)
      · replace c40_2 : (gA ph x1) = 2 := jd_eq c40_2
        refine j_V.ldL xa80_M xa80_49 rfl (i := 0) (kd := 2) (v := .ref 0) (pcJ := 50) rfl L rfl rfl rfl ?_
        refine j_V.getK xa80_M xa80_50 (ci := 9) (j := 3) rfl K rfl rfl ?_
        refine j_V.ldL xa80_M xa80_53 rfl (i := 0) (kd := 2) (v := .ref 0) (pcJ := 54) rfl L rfl rfl rfl ?_
        refine j_V.getK xa80_M xa80_54 (ci := 9) (j := 2) rfl K rfl rfl ?_
        refine j_V.cl xa80_M xa80_57 rfl (md := 3) (mj := 2) rfl (by decide) yr0m_M (As := [.ref 29, .ref 4]) (rest := []) (jk_spl3 (K.at rfl) rfl rfl rfl (Nat.le_of_ble_eq_true rfl) (Nat.le_of_ble_eq_true rfl)) (fun d => hR d _ K) ?_
        rintro r h9 ⟨rfl, R9⟩
        have K1 := K
        obtain ⟨hb, ehb⟩ : ∃ z, z = h9 := ⟨_, rfl⟩
        have K : KN h9 [(0, .inl (9, [.ref 1, .ref 3, .ref 4, .ref 29, .ref 281, .ref 325, .ref 327, .ref 343, .int sst])), (4, .inl (7, [.ref 327, .int mi, .int shu, .int bus, .ref 5, .ref 6, .ref 7, .ref 8, .ref 9, .ref 10, .ref 11, .ref 12, .ref 13, .ref 14, .ref 15, .int lks, .ref 16, .ref 17, .ref 20])), (7, .inr (.inl (0, ph))), (10, .inr (.inl (0, du))), (327, .inl (2, [.int ns, .ref 328, .ref 329, .ref 330, .ref 331, .int nt, .ref 332, .ref 333, .ref 334, .ref 335, .ref 336, .ref 337, .ref 338, .int cel, .ref 339, .ref 340, .ref 341, .ref 342]))] hb := by rw [ehb]; exact hK _ _ K1 R9
        rw [← ehb] at R9
        clear ehb
        show j_V jP _ 154 60 lv [] h9 _
        refine j_V.ldL xa80_M xa80_60 rfl (i := 0) (kd := 2) (v := .ref 0) (pcJ := 61) rfl L rfl rfl rfl ?_
        refine j_V.getK xa80_M xa80_61 (ci := 9) (j := 2) rfl K rfl rfl ?_
        refine j_V.getK xa80_M xa80_64 (ci := 7) (j := 9) rfl K rfl rfl ?_
        refine j_V.ldL xa80_M xa80_67 rfl (i := 1) (kd := 0) (v := .int x1) (pcJ := 68) rfl L rfl rfl rfl ?_
        refine j_V.one xa80_M xa80_68 (by decide) (pcJ := 69) (stJ := [.int x1, .ref 10, .int x1, .ref 10]) rfl ?_
        refine j_V.iaA xa80_M xa80_69 K rfl ?_
        refine j_V.ldL xa80_M xa80_70 rfl (i := 2) (kd := 0) (v := .int x2) (pcJ := 71) rfl L rfl rfl rfl ?_
        refine j_V.one xa80_M xa80_71 (by decide) (pcJ := 72) (stJ := [.int ((gA du x1) + x2), .int x1, .ref 10]) rfl ?_
        refine j_V.isA xa80_M xa80_72 (k' := [(0, .inl (9, [.ref 1, .ref 3, .ref 4, .ref 29, .ref 281, .ref 325, .ref 327, .ref 343, .int sst])), (4, .inl (7, [.ref 327, .int mi, .int shu, .int bus, .ref 5, .ref 6, .ref 7, .ref 8, .ref 9, .ref 10, .ref 11, .ref 12, .ref 13, .ref 14, .ref 15, .int lks, .ref 16, .ref 17, .ref 20])), (7, .inr (.inl (0, ph))), (10, .inr (.inl (0, (sA du x1 ((gA du x1) + x2))))), (327, .inl (2, [.int ns, .ref 328, .ref 329, .ref 330, .ref 331, .int nt, .ref 332, .ref 333, .ref 334, .ref 335, .ref 336, .ref 337, .ref 338, .int cel, .ref 339, .ref 340, .ref 341, .ref 342]))]) K rfl rfl (fun h K => ?_)
        obtain ⟨du1, edu1⟩ : ∃ z, z = (sA du x1 ((gA du x1) + x2)) := ⟨_, rfl⟩
        rw [← edu1] at K
        refine j_V.ldL xa80_M xa80_73 rfl (i := 0) (kd := 2) (v := .ref 0) (pcJ := 74) rfl L rfl rfl rfl ?_
        refine j_V.ldL xa80_M xa80_74 rfl (i := 0) (kd := 2) (v := .ref 0) (pcJ := 75) rfl L rfl rfl rfl ?_
        refine j_V.getK xa80_M xa80_75 (ci := 9) (j := 2) rfl K rfl rfl ?_
        refine j_V.getK xa80_M xa80_78 (ci := 7) (j := 9) rfl K rfl rfl ?_
        refine j_V.ldL xa80_M xa80_81 rfl (i := 1) (kd := 0) (v := .int x1) (pcJ := 82) rfl L rfl rfl rfl ?_
        refine j_V.iaA xa80_M xa80_82 K rfl ?_
        refine j_V.cl xa80_M xa80_83 rfl (md := 3) (mj := 159) rfl (by decide) xa49_M (As := [.ref 0, .int (gA du1 x1)]) (rest := []) (jk_spl3 (K.at rfl) rfl rfl rfl (Nat.le_of_ble_eq_true rfl) (Nat.le_of_ble_eq_true rfl)) (fun d => xa49_ok (K.fi [0] rfl rfl)) ?_
        rintro r h9 ⟨rfl, K9⟩
        generalize ez1 : (x_qanswer sst (gA du1 x1)) = z1 at K9 ⊢
        have K : KN h9 [(0, .inl (9, [.ref 1, .ref 3, .ref 4, .ref 29, .ref 281, .ref 325, .ref 327, .ref 343, .int (z1.2)])), (4, .inl (7, [.ref 327, .int mi, .int shu, .int bus, .ref 5, .ref 6, .ref 7, .ref 8, .ref 9, .ref 10, .ref 11, .ref 12, .ref 13, .ref 14, .ref 15, .int lks, .ref 16, .ref 17, .ref 20])), (7, .inr (.inl (0, ph))), (10, .inr (.inl (0, du1))), (327, .inl (2, [.int ns, .ref 328, .ref 329, .ref 330, .ref 331, .int nt, .ref 332, .ref 333, .ref 334, .ref 335, .ref 336, .ref 337, .ref 338, .int cel, .ref 339, .ref 340, .ref 341, .ref 342]))] hb := K.mg K9 rfl rfl
        clear K9
        show j_V jP _ 154 86 lv [.int (z1.1)] h9 _
        subst ez1
        subst edu1
        refine j_V.ri xa80_M xa80_86 ?_
        rw [show (x_astall ph du nt sst x1 x2) = _ from ((if_neg c7_0).trans ((if_neg c21_1).trans ((if_pos c40_2).trans (rfl))))]
        exact ⟨rfl, Or.inr ⟨rfl, _, _, K1, R9, K⟩⟩
      · replace c40_2 : ¬ ((gA ph x1) = 2) := jd_eqn c40_2
        refine j_V.ldL xa80_M xa80_43 rfl (i := 0) (kd := 2) (v := .ref 0) (pcJ := 44) rfl L rfl rfl rfl ?_
        refine j_V.one xa80_M xa80_44 (by decide) (pcJ := 45) (stJ := [.int 5, .ref 0]) rfl ?_
        refine j_V.cl xa80_M xa80_45 rfl (md := 3) (mj := 161) rfl (by decide) xa50_M (As := [.ref 0, .int 5]) (rest := []) (jk_spl3 (K.at rfl) rfl rfl rfl (Nat.le_of_ble_eq_true rfl) (Nat.le_of_ble_eq_true rfl)) (fun d => xa50_ok (K.fi [0] rfl rfl)) ?_
        rintro r h9 ⟨rfl, K9⟩
        generalize ez2 : (x_qrefuse sst 5) = z2 at K9 ⊢
        have K : KN h9 [(0, .inl (9, [.ref 1, .ref 3, .ref 4, .ref 29, .ref 281, .ref 325, .ref 327, .ref 343, .int (z2.2)])), (4, .inl (7, [.ref 327, .int mi, .int shu, .int bus, .ref 5, .ref 6, .ref 7, .ref 8, .ref 9, .ref 10, .ref 11, .ref 12, .ref 13, .ref 14, .ref 15, .int lks, .ref 16, .ref 17, .ref 20])), (7, .inr (.inl (0, ph))), (10, .inr (.inl (0, du))), (29, .inl (0, [.ref 30, .int acne, .int acco])), (327, .inl (2, [.int ns, .ref 328, .ref 329, .ref 330, .ref 331, .int nt, .ref 332, .ref 333, .ref 334, .ref 335, .ref 336, .ref 337, .ref 338, .int cel, .ref 339, .ref 340, .ref 341, .ref 342]))] h0 := K.mg K9 rfl rfl
        clear K9
        show j_V jP _ 154 48 lv [.int (z2.1)] h9 _
        subst ez2
        refine j_V.ri xa80_M xa80_48 ?_
        rw [show (x_astall ph du nt sst x1 x2) = _ from ((if_neg c7_0).trans ((if_neg c21_1).trans ((if_neg c40_2).trans (rfl))))]
        exact ⟨rfl, Or.inl ⟨rfl, K⟩⟩
    · replace c21_1 : (x_isTrain nt x1) = 0 := jd_nen c21_1
      refine j_V.ldL xa80_M xa80_24 rfl (i := 0) (kd := 2) (v := .ref 0) (pcJ := 25) rfl L rfl rfl rfl ?_
      refine j_V.one xa80_M xa80_25 (by decide) (pcJ := 26) (stJ := [.int 2, .ref 0]) rfl ?_
      refine j_V.cl xa80_M xa80_26 rfl (md := 3) (mj := 161) rfl (by decide) xa50_M (As := [.ref 0, .int 2]) (rest := []) (jk_spl3 (K.at rfl) rfl rfl rfl (Nat.le_of_ble_eq_true rfl) (Nat.le_of_ble_eq_true rfl)) (fun d => xa50_ok (K.fi [0] rfl rfl)) ?_
      rintro r h9 ⟨rfl, K9⟩
      generalize ez3 : (x_qrefuse sst 2) = z3 at K9 ⊢
      have K : KN h9 [(0, .inl (9, [.ref 1, .ref 3, .ref 4, .ref 29, .ref 281, .ref 325, .ref 327, .ref 343, .int (z3.2)])), (4, .inl (7, [.ref 327, .int mi, .int shu, .int bus, .ref 5, .ref 6, .ref 7, .ref 8, .ref 9, .ref 10, .ref 11, .ref 12, .ref 13, .ref 14, .ref 15, .int lks, .ref 16, .ref 17, .ref 20])), (7, .inr (.inl (0, ph))), (10, .inr (.inl (0, du))), (29, .inl (0, [.ref 30, .int acne, .int acco])), (327, .inl (2, [.int ns, .ref 328, .ref 329, .ref 330, .ref 331, .int nt, .ref 332, .ref 333, .ref 334, .ref 335, .ref 336, .ref 337, .ref 338, .int cel, .ref 339, .ref 340, .ref 341, .ref 342]))] h0 := K.mg K9 rfl rfl
      clear K9
      show j_V jP _ 154 29 lv [.int (z3.1)] h9 _
      subst ez3
      refine j_V.ri xa80_M xa80_29 ?_
      rw [show (x_astall ph du nt sst x1 x2) = _ from ((if_neg c7_0).trans ((if_pos c21_1).trans (rfl)))]
      exact ⟨rfl, Or.inl ⟨rfl, K⟩⟩
  · replace c7_0 : (x_isWithin x2 1 99) = 0 := jd_nen c7_0
    refine j_V.ldL xa80_M xa80_10 rfl (i := 0) (kd := 2) (v := .ref 0) (pcJ := 11) rfl L rfl rfl rfl ?_
    refine j_V.one xa80_M xa80_11 (by decide) (pcJ := 12) (stJ := [.int 1, .ref 0]) rfl ?_
    refine j_V.cl xa80_M xa80_12 rfl (md := 3) (mj := 161) rfl (by decide) xa50_M (As := [.ref 0, .int 1]) (rest := []) (jk_spl3 (K.at rfl) rfl rfl rfl (Nat.le_of_ble_eq_true rfl) (Nat.le_of_ble_eq_true rfl)) (fun d => xa50_ok (K.fi [0] rfl rfl)) ?_
    rintro r h9 ⟨rfl, K9⟩
    generalize ez4 : (x_qrefuse sst 1) = z4 at K9 ⊢
    have K : KN h9 [(0, .inl (9, [.ref 1, .ref 3, .ref 4, .ref 29, .ref 281, .ref 325, .ref 327, .ref 343, .int (z4.2)])), (4, .inl (7, [.ref 327, .int mi, .int shu, .int bus, .ref 5, .ref 6, .ref 7, .ref 8, .ref 9, .ref 10, .ref 11, .ref 12, .ref 13, .ref 14, .ref 15, .int lks, .ref 16, .ref 17, .ref 20])), (7, .inr (.inl (0, ph))), (10, .inr (.inl (0, du))), (29, .inl (0, [.ref 30, .int acne, .int acco])), (327, .inl (2, [.int ns, .ref 328, .ref 329, .ref 330, .ref 331, .int nt, .ref 332, .ref 333, .ref 334, .ref 335, .ref 336, .ref 337, .ref 338, .int cel, .ref 339, .ref 340, .ref 341, .ref 342]))] h0 := K.mg K9 rfl rfl
    clear K9
    show j_V jP _ 154 15 lv [.int (z4.1)] h9 _
    subst ez4
    refine j_V.ri xa80_M xa80_15 ?_
    rw [show (x_astall ph du nt sst x1 x2) = _ from ((if_pos c7_0).trans (rfl))]
    exact ⟨rfl, Or.inl ⟨rfl, K⟩⟩
set_option maxRecDepth 100000 in
theorem xa81_M : j_meth jP 155 = some (yX9_link, cX9_link, 4, (some .int), 3, false, 9) := rfl
set_option maxRecDepth 100000 in
theorem xa81_0 : j_code jP 155 0 = some (.aload_n 0) := rfl
set_option maxRecDepth 100000 in
theorem xa81_1 : j_code jP 155 1 = some (.iload_n 1) := rfl
set_option maxRecDepth 100000 in
theorem xa81_2 : j_code jP 155 2 = some (.invokevirtual 184) := rfl
set_option maxRecDepth 100000 in
theorem xa81_5 : j_code jP 155 5 = some (.ifCond .eq 19) := rfl
set_option maxRecDepth 100000 in
theorem xa81_8 : j_code jP 155 8 = some (.aload_n 0) := rfl
set_option maxRecDepth 100000 in
theorem xa81_9 : j_code jP 155 9 = some (.iload_n 2) := rfl
set_option maxRecDepth 100000 in
theorem xa81_10 : j_code jP 155 10 = some (.invokevirtual 142) := rfl
set_option maxRecDepth 100000 in
theorem xa81_13 : j_code jP 155 13 = some (.ifCond .eq 11) := rfl
set_option maxRecDepth 100000 in
theorem xa81_16 : j_code jP 155 16 = some (.aload_n 0) := rfl
set_option maxRecDepth 100000 in
theorem xa81_17 : j_code jP 155 17 = some (.iload_n 3) := rfl
set_option maxRecDepth 100000 in
theorem xa81_18 : j_code jP 155 18 = some (.invokevirtual 184) := rfl
set_option maxRecDepth 100000 in
theorem xa81_21 : j_code jP 155 21 = some (.ifCond .ne 9) := rfl
set_option maxRecDepth 100000 in
theorem xa81_24 : j_code jP 155 24 = some (.aload_n 0) := rfl
set_option maxRecDepth 100000 in
theorem xa81_25 : j_code jP 155 25 = some (.iconst 2) := rfl
set_option maxRecDepth 100000 in
theorem xa81_26 : j_code jP 155 26 = some (.invokevirtual 84) := rfl
set_option maxRecDepth 100000 in
theorem xa81_29 : j_code jP 155 29 = some (.ireturn) := rfl
set_option maxRecDepth 100000 in
theorem xa81_30 : j_code jP 155 30 = some (.iload_n 1) := rfl
set_option maxRecDepth 100000 in
theorem xa81_31 : j_code jP 155 31 = some (.iload_n 3) := rfl
set_option maxRecDepth 100000 in
theorem xa81_32 : j_code jP 155 32 = some (.if_icmp .eq 16) := rfl
set_option maxRecDepth 100000 in
theorem xa81_35 : j_code jP 155 35 = some (.aload_n 0) := rfl
set_option maxRecDepth 100000 in
theorem xa81_36 : j_code jP 155 36 = some (.getfield 30) := rfl
set_option maxRecDepth 100000 in
theorem xa81_39 : j_code jP 155 39 = some (.iload_n 1) := rfl
set_option maxRecDepth 100000 in
theorem xa81_40 : j_code jP 155 40 = some (.iload_n 2) := rfl
set_option maxRecDepth 100000 in
theorem xa81_41 : j_code jP 155 41 = some (.iload_n 3) := rfl
set_option maxRecDepth 100000 in
theorem xa81_42 : j_code jP 155 42 = some (.invokevirtual 387) := rfl
set_option maxRecDepth 100000 in
theorem xa81_45 : j_code jP 155 45 = some (.ifCond .eq 9) := rfl
set_option maxRecDepth 100000 in
theorem xa81_48 : j_code jP 155 48 = some (.aload_n 0) := rfl
set_option maxRecDepth 100000 in
theorem xa81_49 : j_code jP 155 49 = some (.iconst 4) := rfl
set_option maxRecDepth 100000 in
theorem xa81_50 : j_code jP 155 50 = some (.invokevirtual 84) := rfl
set_option maxRecDepth 100000 in
theorem xa81_53 : j_code jP 155 53 = some (.ireturn) := rfl
set_option maxRecDepth 100000 in
theorem xa81_54 : j_code jP 155 54 = some (.aload_n 0) := rfl
set_option maxRecDepth 100000 in
theorem xa81_55 : j_code jP 155 55 = some (.getfield 30) := rfl
set_option maxRecDepth 100000 in
theorem xa81_58 : j_code jP 155 58 = some (.getfield 250) := rfl
set_option maxRecDepth 100000 in
theorem xa81_61 : j_code jP 155 61 = some (.iconst 4) := rfl
set_option maxRecDepth 100000 in
theorem xa81_62 : j_code jP 155 62 = some (.if_icmp .lt 9) := rfl
set_option maxRecDepth 100000 in
theorem xa81_65 : j_code jP 155 65 = some (.aload_n 0) := rfl
set_option maxRecDepth 100000 in
theorem xa81_66 : j_code jP 155 66 = some (.iconst 3) := rfl
set_option maxRecDepth 100000 in
theorem xa81_67 : j_code jP 155 67 = some (.invokevirtual 84) := rfl
set_option maxRecDepth 100000 in
theorem xa81_70 : j_code jP 155 70 = some (.ireturn) := rfl
set_option maxRecDepth 100000 in
theorem xa81_71 : j_code jP 155 71 = some (.aload_n 0) := rfl
set_option maxRecDepth 100000 in
theorem xa81_72 : j_code jP 155 72 = some (.getfield 37) := rfl
set_option maxRecDepth 100000 in
theorem xa81_75 : j_code jP 155 75 = some (.aload_n 0) := rfl
set_option maxRecDepth 100000 in
theorem xa81_76 : j_code jP 155 76 = some (.getfield 30) := rfl
set_option maxRecDepth 100000 in
theorem xa81_79 : j_code jP 155 79 = some (.invokevirtual 357) := rfl
set_option maxRecDepth 100000 in
theorem xa81_82 : j_code jP 155 82 = some (.aload_n 0) := rfl
set_option maxRecDepth 100000 in
theorem xa81_83 : j_code jP 155 83 = some (.getfield 30) := rfl
set_option maxRecDepth 100000 in
theorem xa81_86 : j_code jP 155 86 = some (.iload_n 1) := rfl
set_option maxRecDepth 100000 in
theorem xa81_87 : j_code jP 155 87 = some (.iload_n 2) := rfl
set_option maxRecDepth 100000 in
theorem xa81_88 : j_code jP 155 88 = some (.iload_n 3) := rfl
set_option maxRecDepth 100000 in
theorem xa81_89 : j_code jP 155 89 = some (.invokevirtual 390) := rfl
set_option maxRecDepth 100000 in
theorem xa81_92 : j_code jP 155 92 = some (.aload_n 0) := rfl
set_option maxRecDepth 100000 in
theorem xa81_93 : j_code jP 155 93 = some (.aload_n 0) := rfl
set_option maxRecDepth 100000 in
theorem xa81_94 : j_code jP 155 94 = some (.getfield 30) := rfl
set_option maxRecDepth 100000 in
theorem xa81_97 : j_code jP 155 97 = some (.getfield 250) := rfl
set_option maxRecDepth 100000 in
theorem xa81_100 : j_code jP 155 100 = some (.iconst 1) := rfl
set_option maxRecDepth 100000 in
theorem xa81_101 : j_code jP 155 101 = some (.isub) := rfl
set_option maxRecDepth 100000 in
theorem xa81_102 : j_code jP 155 102 = some (.invokevirtual 104) := rfl
set_option maxRecDepth 100000 in
theorem xa81_105 : j_code jP 155 105 = some (.ireturn) := rfl
def xa81_C (mi : Int32) (shu : Int32) (bus : Int32) (lks : Int32) (lkd : List Int32) (ns : Int32) (nt : Int32) (cel : Int32) (sst : Int32) (acne : Int32) (acco : Int32) : jk_K := [(0, .inl (9, [.ref 1, .ref 3, .ref 4, .ref 29, .ref 281, .ref 325, .ref 327, .ref 343, .int sst])), (4, .inl (7, [.ref 327, .int mi, .int shu, .int bus, .ref 5, .ref 6, .ref 7, .ref 8, .ref 9, .ref 10, .ref 11, .ref 12, .ref 13, .ref 14, .ref 15, .int lks, .ref 16, .ref 17, .ref 20])), (16, .inr (.inl (0, lkd))), (29, .inl (0, [.ref 30, .int acne, .int acco])), (327, .inl (2, [.int ns, .ref 328, .ref 329, .ref 330, .ref 331, .int nt, .ref 332, .ref 333, .ref 334, .ref 335, .ref 336, .ref 337, .ref 338, .int cel, .ref 339, .ref 340, .ref 341, .ref 342]))]
def xa81_D (mi : Int32) (shu : Int32) (bus : Int32) (lks : Int32) (lkd : List Int32) (ns : Int32) (nt : Int32) (cel : Int32) (sst : Int32) (acne : Int32) (acco : Int32) : jk_K := [(0, .inl (9, [.ref 1, .ref 3, .ref 4, .ref 29, .ref 281, .ref 325, .ref 327, .ref 343, .int sst])), (4, .inl (7, [.ref 327, .int mi, .int shu, .int bus, .ref 5, .ref 6, .ref 7, .ref 8, .ref 9, .ref 10, .ref 11, .ref 12, .ref 13, .ref 14, .ref 15, .int lks, .ref 16, .ref 17, .ref 20])), (16, .inr (.inl (0, lkd))), (327, .inl (2, [.int ns, .ref 328, .ref 329, .ref 330, .ref 331, .int nt, .ref 332, .ref 333, .ref 334, .ref 335, .ref 336, .ref 337, .ref 338, .int cel, .ref 339, .ref 340, .ref 341, .ref 342]))]
def x_alink (lks : Int32) (lkd : List Int32) (ns : Int32) (nt : Int32) (sst : Int32) (x1 : Int32) (x2 : Int32) (x3 : Int32) : Int32 × Int32 × Int32 × List Int32 × Int32 := (if (x_isTrain nt x1) = 0 then let z1 := (x_qrefuse sst 2); ((z1.1), 0, lks, lkd, (z1.2)) else (if (x_isStation ns x2) = 0 then let z2 := (x_qrefuse sst 2); ((z2.1), 0, lks, lkd, (z2.2)) else (if (x_isTrain nt x3) = 0 then let z8 := (x_qrefuse sst 2); ((z8.1), 0, lks, lkd, (z8.2)) else (if x1 = x3 then let z3 := (x_qrefuse sst 4); ((z3.1), 0, lks, lkd, (z3.2)) else (if (x_hasLink lks lkd x1 x2 x3) = 0 then (if lks < 4 then let z4 := (x_addLink lks lkd x1 x2 x3); let z5 := (x_qanswer sst ((z4.1) - 1)); ((z5.1), 1, (z4.1), (z4.2), (z5.2)) else let z6 := (x_qrefuse sst 3); ((z6.1), 0, lks, lkd, (z6.2))) else let z7 := (x_qrefuse sst 4); ((z7.1), 0, lks, lkd, (z7.2)))))))
set_option maxRecDepth 1000000 in
theorem xa81_ok {mi : Int32} {shu : Int32} {bus : Int32} {lks : Int32} {lkd : List Int32} {ns : Int32} {nt : Int32} {cel : Int32} {sst : Int32} {acne : Int32} {acco : Int32} {x1 x2 x3 : Int32} {d : Nat} {h h0 : J_H} {RM : J_H → J_H → Prop} (hR : ∀ d h1, KN h1 (xa81_C mi shu bus lks lkd ns nt cel sst acne acco) h0 → j_V jP d 2 0 (lv_args 0 [.ref 29, .ref 4]) [] h1 (fun rv h' => rv = none ∧ RM h1 h')) (hK : ∀ h1 h2, KN h1 (xa81_C mi shu bus lks lkd ns nt cel sst acne acco) h0 → RM h1 h2 → KN h2 (xa81_D mi shu bus lks lkd ns nt cel sst acne acco) h2) (K : KN h [(0, .inl (9, [.ref 1, .ref 3, .ref 4, .ref 29, .ref 281, .ref 325, .ref 327, .ref 343, .int sst])), (4, .inl (7, [.ref 327, .int mi, .int shu, .int bus, .ref 5, .ref 6, .ref 7, .ref 8, .ref 9, .ref 10, .ref 11, .ref 12, .ref 13, .ref 14, .ref 15, .int lks, .ref 16, .ref 17, .ref 20])), (16, .inr (.inl (0, lkd))), (29, .inl (0, [.ref 30, .int acne, .int acco])), (327, .inl (2, [.int ns, .ref 328, .ref 329, .ref 330, .ref 331, .int nt, .ref 332, .ref 333, .ref 334, .ref 335, .ref 336, .ref 337, .ref 338, .int cel, .ref 339, .ref 340, .ref 341, .ref 342]))] h0) : j_V jP d 155 0 (lv_args 0 [.ref 0, .int x1, .int x2, .int x3]) [] h (fun rv h' => rv = some (.int (x_alink lks lkd ns nt sst x1 x2 x3).1) ∧ (((x_alink lks lkd ns nt sst x1 x2 x3).2.1 = 0 ∧ KN h' [(0, .inl (9, [.ref 1, .ref 3, .ref 4, .ref 29, .ref 281, .ref 325, .ref 327, .ref 343, .int (x_alink lks lkd ns nt sst x1 x2 x3).2.2.2.2])), (4, .inl (7, [.ref 327, .int mi, .int shu, .int bus, .ref 5, .ref 6, .ref 7, .ref 8, .ref 9, .ref 10, .ref 11, .ref 12, .ref 13, .ref 14, .ref 15, .int (x_alink lks lkd ns nt sst x1 x2 x3).2.2.1, .ref 16, .ref 17, .ref 20])), (16, .inr (.inl (0, (x_alink lks lkd ns nt sst x1 x2 x3).2.2.2.1))), (29, .inl (0, [.ref 30, .int acne, .int acco])), (327, .inl (2, [.int ns, .ref 328, .ref 329, .ref 330, .ref 331, .int nt, .ref 332, .ref 333, .ref 334, .ref 335, .ref 336, .ref 337, .ref 338, .int cel, .ref 339, .ref 340, .ref 341, .ref 342]))] h0) ∨ ((x_alink lks lkd ns nt sst x1 x2 x3).2.1 = 1 ∧ ∃ h1 h2, KN h1 (xa81_C mi shu bus lks lkd ns nt cel sst acne acco) h0 ∧ RM h1 h2 ∧ KN h' [(0, .inl (9, [.ref 1, .ref 3, .ref 4, .ref 29, .ref 281, .ref 325, .ref 327, .ref 343, .int (x_alink lks lkd ns nt sst x1 x2 x3).2.2.2.2])), (4, .inl (7, [.ref 327, .int mi, .int shu, .int bus, .ref 5, .ref 6, .ref 7, .ref 8, .ref 9, .ref 10, .ref 11, .ref 12, .ref 13, .ref 14, .ref 15, .int (x_alink lks lkd ns nt sst x1 x2 x3).2.2.1, .ref 16, .ref 17, .ref 20])), (16, .inr (.inl (0, (x_alink lks lkd ns nt sst x1 x2 x3).2.2.2.1))), (327, .inl (2, [.int ns, .ref 328, .ref 329, .ref 330, .ref 331, .int nt, .ref 332, .ref 333, .ref 334, .ref 335, .ref 336, .ref 337, .ref 338, .int cel, .ref 339, .ref 340, .ref 341, .ref 342]))] h2))) := by
  show j_V jP d 155 0 [(0, .ref 0), (1, .int x1), (2, .int x2), (3, .int x3)] [] h _
  obtain ⟨lv, elv, L⟩ : ∃ lv, lv = [(0, .ref 0), (1, .int x1), (2, .int x2), (3, .int x3)] ∧ LK lv [(0, .ref 0), (1, .int x1), (2, .int x2), (3, .int x3)] := ⟨_, rfl, LK.rf⟩
  rw [← elv]
  clear elv
  refine j_V.ldL xa81_M xa81_0 rfl (i := 0) (kd := 2) (v := .ref 0) (pcJ := 1) rfl L rfl rfl rfl ?_
  refine j_V.ldL xa81_M xa81_1 rfl (i := 1) (kd := 0) (v := .int x1) (pcJ := 2) rfl L rfl rfl rfl ?_
  refine j_V.cl xa81_M xa81_2 rfl (md := 3) (mj := 165) rfl (by decide) xa47_M (As := [.ref 0, .int x1]) (rest := []) (jk_spl3 (K.at rfl) rfl rfl rfl (Nat.le_of_ble_eq_true rfl) (Nat.le_of_ble_eq_true rfl)) (fun d => xa47_ok (K.fi [0, 327] rfl rfl)) ?_
  rintro r hz ⟨rfl, ez⟩
  rw [ez]
  clear ez
  show j_V jP _ 155 5 lv [.int (x_isTrain nt x1)] h _
  refine j_V.ifc xa81_M xa81_5 (t := 24) rfl (fun c5_0 => ?_) (fun c5_0 => ?_)
  · replace c5_0 : (x_isTrain nt x1) = 0 := jd_eq c5_0
    refine j_V.ldL xa81_M xa81_24 rfl (i := 0) (kd := 2) (v := .ref 0) (pcJ := 25) rfl L rfl rfl rfl ?_
    refine j_V.one xa81_M xa81_25 (by decide) (pcJ := 26) (stJ := [.int 2, .ref 0]) rfl ?_
    refine j_V.cl xa81_M xa81_26 rfl (md := 3) (mj := 161) rfl (by decide) xa50_M (As := [.ref 0, .int 2]) (rest := []) (jk_spl3 (K.at rfl) rfl rfl rfl (Nat.le_of_ble_eq_true rfl) (Nat.le_of_ble_eq_true rfl)) (fun d => xa50_ok (K.fi [0] rfl rfl)) ?_
    rintro r h9 ⟨rfl, K9⟩
    generalize ez1 : (x_qrefuse sst 2) = z1 at K9 ⊢
    have K : KN h9 [(0, .inl (9, [.ref 1, .ref 3, .ref 4, .ref 29, .ref 281, .ref 325, .ref 327, .ref 343, .int (z1.2)])), (4, .inl (7, [.ref 327, .int mi, .int shu, .int bus, .ref 5, .ref 6, .ref 7, .ref 8, .ref 9, .ref 10, .ref 11, .ref 12, .ref 13, .ref 14, .ref 15, .int lks, .ref 16, .ref 17, .ref 20])), (16, .inr (.inl (0, lkd))), (29, .inl (0, [.ref 30, .int acne, .int acco])), (327, .inl (2, [.int ns, .ref 328, .ref 329, .ref 330, .ref 331, .int nt, .ref 332, .ref 333, .ref 334, .ref 335, .ref 336, .ref 337, .ref 338, .int cel, .ref 339, .ref 340, .ref 341, .ref 342]))] h0 := K.mg K9 rfl rfl
    clear K9
    show j_V jP _ 155 29 lv [.int (z1.1)] h9 _
    subst ez1
    refine j_V.ri xa81_M xa81_29 ?_
    rw [show (x_alink lks lkd ns nt sst x1 x2 x3) = _ from ((if_pos c5_0).trans (rfl))]
    exact ⟨rfl, Or.inl ⟨rfl, K⟩⟩
  · replace c5_0 : ¬ ((x_isTrain nt x1) = 0) := jd_eqn c5_0
    refine j_V.ldL xa81_M xa81_8 rfl (i := 0) (kd := 2) (v := .ref 0) (pcJ := 9) rfl L rfl rfl rfl ?_
    refine j_V.ldL xa81_M xa81_9 rfl (i := 2) (kd := 0) (v := .int x2) (pcJ := 10) rfl L rfl rfl rfl ?_
    refine j_V.cl xa81_M xa81_10 rfl (md := 3) (mj := 163) rfl (by decide) xa45_M (As := [.ref 0, .int x2]) (rest := []) (jk_spl3 (K.at rfl) rfl rfl rfl (Nat.le_of_ble_eq_true rfl) (Nat.le_of_ble_eq_true rfl)) (fun d => xa45_ok (K.fi [0, 327] rfl rfl)) ?_
    rintro r hz ⟨rfl, ez⟩
    rw [ez]
    clear ez
    show j_V jP _ 155 13 lv [.int (x_isStation ns x2)] h _
    refine j_V.ifc xa81_M xa81_13 (t := 24) rfl (fun c13_1 => ?_) (fun c13_1 => ?_)
    · replace c13_1 : (x_isStation ns x2) = 0 := jd_eq c13_1
      refine j_V.ldL xa81_M xa81_24 rfl (i := 0) (kd := 2) (v := .ref 0) (pcJ := 25) rfl L rfl rfl rfl ?_
      refine j_V.one xa81_M xa81_25 (by decide) (pcJ := 26) (stJ := [.int 2, .ref 0]) rfl ?_
      refine j_V.cl xa81_M xa81_26 rfl (md := 3) (mj := 161) rfl (by decide) xa50_M (As := [.ref 0, .int 2]) (rest := []) (jk_spl3 (K.at rfl) rfl rfl rfl (Nat.le_of_ble_eq_true rfl) (Nat.le_of_ble_eq_true rfl)) (fun d => xa50_ok (K.fi [0] rfl rfl)) ?_
      rintro r h9 ⟨rfl, K9⟩
      generalize ez2 : (x_qrefuse sst 2) = z2 at K9 ⊢
      have K : KN h9 [(0, .inl (9, [.ref 1, .ref 3, .ref 4, .ref 29, .ref 281, .ref 325, .ref 327, .ref 343, .int (z2.2)])), (4, .inl (7, [.ref 327, .int mi, .int shu, .int bus, .ref 5, .ref 6, .ref 7, .ref 8, .ref 9, .ref 10, .ref 11, .ref 12, .ref 13, .ref 14, .ref 15, .int lks, .ref 16, .ref 17, .ref 20])), (16, .inr (.inl (0, lkd))), (29, .inl (0, [.ref 30, .int acne, .int acco])), (327, .inl (2, [.int ns, .ref 328, .ref 329, .ref 330, .ref 331, .int nt, .ref 332, .ref 333, .ref 334, .ref 335, .ref 336, .ref 337, .ref 338, .int cel, .ref 339, .ref 340, .ref 341, .ref 342]))] h0 := K.mg K9 rfl rfl
      clear K9
      show j_V jP _ 155 29 lv [.int (z2.1)] h9 _
      subst ez2
      refine j_V.ri xa81_M xa81_29 ?_
      rw [show (x_alink lks lkd ns nt sst x1 x2 x3) = _ from ((if_neg c5_0).trans ((if_pos c13_1).trans (rfl)))]
      exact ⟨rfl, Or.inl ⟨rfl, K⟩⟩
    · replace c13_1 : ¬ ((x_isStation ns x2) = 0) := jd_eqn c13_1
      refine j_V.ldL xa81_M xa81_16 rfl (i := 0) (kd := 2) (v := .ref 0) (pcJ := 17) rfl L rfl rfl rfl ?_
      refine j_V.ldL xa81_M xa81_17 rfl (i := 3) (kd := 0) (v := .int x3) (pcJ := 18) rfl L rfl rfl rfl ?_
      refine j_V.cl xa81_M xa81_18 rfl (md := 3) (mj := 165) rfl (by decide) xa47_M (As := [.ref 0, .int x3]) (rest := []) (jk_spl3 (K.at rfl) rfl rfl rfl (Nat.le_of_ble_eq_true rfl) (Nat.le_of_ble_eq_true rfl)) (fun d => xa47_ok (K.fi [0, 327] rfl rfl)) ?_
      rintro r hz ⟨rfl, ez⟩
      rw [ez]
      clear ez
      show j_V jP _ 155 21 lv [.int (x_isTrain nt x3)] h _
      refine j_V.ifc xa81_M xa81_21 (t := 30) rfl (fun c21_2 => ?_) (fun c21_2 => ?_)
      · replace c21_2 : ¬ ((x_isTrain nt x3) = 0) := jd_ne c21_2
        refine j_V.ldL xa81_M xa81_30 rfl (i := 1) (kd := 0) (v := .int x1) (pcJ := 31) rfl L rfl rfl rfl ?_
        refine j_V.ldL xa81_M xa81_31 rfl (i := 3) (kd := 0) (v := .int x3) (pcJ := 32) rfl L rfl rfl rfl ?_
        refine j_V.icmp xa81_M xa81_32 (t := 48) rfl (fun c32_3 => ?_) (fun c32_3 => ?_)
        · replace c32_3 : x1 = x3 := jd_eq c32_3
          refine j_V.ldL xa81_M xa81_48 rfl (i := 0) (kd := 2) (v := .ref 0) (pcJ := 49) rfl L rfl rfl rfl ?_
          refine j_V.one xa81_M xa81_49 (by decide) (pcJ := 50) (stJ := [.int 4, .ref 0]) rfl ?_
          refine j_V.cl xa81_M xa81_50 rfl (md := 3) (mj := 161) rfl (by decide) xa50_M (As := [.ref 0, .int 4]) (rest := []) (jk_spl3 (K.at rfl) rfl rfl rfl (Nat.le_of_ble_eq_true rfl) (Nat.le_of_ble_eq_true rfl)) (fun d => xa50_ok (K.fi [0] rfl rfl)) ?_
          rintro r h9 ⟨rfl, K9⟩
          generalize ez3 : (x_qrefuse sst 4) = z3 at K9 ⊢
          have K : KN h9 [(0, .inl (9, [.ref 1, .ref 3, .ref 4, .ref 29, .ref 281, .ref 325, .ref 327, .ref 343, .int (z3.2)])), (4, .inl (7, [.ref 327, .int mi, .int shu, .int bus, .ref 5, .ref 6, .ref 7, .ref 8, .ref 9, .ref 10, .ref 11, .ref 12, .ref 13, .ref 14, .ref 15, .int lks, .ref 16, .ref 17, .ref 20])), (16, .inr (.inl (0, lkd))), (29, .inl (0, [.ref 30, .int acne, .int acco])), (327, .inl (2, [.int ns, .ref 328, .ref 329, .ref 330, .ref 331, .int nt, .ref 332, .ref 333, .ref 334, .ref 335, .ref 336, .ref 337, .ref 338, .int cel, .ref 339, .ref 340, .ref 341, .ref 342]))] h0 := K.mg K9 rfl rfl
          clear K9
          show j_V jP _ 155 53 lv [.int (z3.1)] h9 _
          subst ez3
          refine j_V.ri xa81_M xa81_53 ?_
          rw [show (x_alink lks lkd ns nt sst x1 x2 x3) = _ from ((if_neg c5_0).trans ((if_neg c13_1).trans ((if_neg c21_2).trans ((if_pos c32_3).trans (rfl)))))]
          exact ⟨rfl, Or.inl ⟨rfl, K⟩⟩
        · replace c32_3 : ¬ (x1 = x3) := jd_eqn c32_3
          refine j_V.ldL xa81_M xa81_35 rfl (i := 0) (kd := 2) (v := .ref 0) (pcJ := 36) rfl L rfl rfl rfl ?_
          refine j_V.getK xa81_M xa81_36 (ci := 9) (j := 2) rfl K rfl rfl ?_
          refine j_V.ldL xa81_M xa81_39 rfl (i := 1) (kd := 0) (v := .int x1) (pcJ := 40) rfl L rfl rfl rfl ?_
          refine j_V.ldL xa81_M xa81_40 rfl (i := 2) (kd := 0) (v := .int x2) (pcJ := 41) rfl L rfl rfl rfl ?_
          refine j_V.ldL xa81_M xa81_41 rfl (i := 3) (kd := 0) (v := .int x3) (pcJ := 42) rfl L rfl rfl rfl ?_
          refine j_V.cl xa81_M xa81_42 rfl (md := 3) (mj := 87) rfl (by decide) xa23_M (As := [.ref 4, .int x1, .int x2, .int x3]) (rest := []) (jk_spl3 (K.at rfl) rfl rfl rfl (Nat.le_of_ble_eq_true rfl) (Nat.le_of_ble_eq_true rfl)) (fun d => xa23_ok (K.fi [4, 16] rfl rfl)) ?_
          rintro r hz ⟨rfl, ez⟩
          rw [ez]
          clear ez
          show j_V jP _ 155 45 lv [.int (x_hasLink lks lkd x1 x2 x3)] h _
          refine j_V.ifc xa81_M xa81_45 (t := 54) rfl (fun c45_4 => ?_) (fun c45_4 => ?_)
          · replace c45_4 : (x_hasLink lks lkd x1 x2 x3) = 0 := jd_eq c45_4
            refine j_V.ldL xa81_M xa81_54 rfl (i := 0) (kd := 2) (v := .ref 0) (pcJ := 55) rfl L rfl rfl rfl ?_
            refine j_V.getK xa81_M xa81_55 (ci := 9) (j := 2) rfl K rfl rfl ?_
            refine j_V.getK xa81_M xa81_58 (ci := 7) (j := 15) rfl K rfl rfl ?_
            refine j_V.one xa81_M xa81_61 (by decide) (pcJ := 62) (stJ := [.int 4, .int lks]) rfl ?_
            refine j_V.icmp xa81_M xa81_62 (t := 71) rfl (fun c62_5 => ?_) (fun c62_5 => ?_)
            · replace c62_5 : lks < 4 := jd_lt c62_5
              refine j_V.ldL xa81_M xa81_71 rfl (i := 0) (kd := 2) (v := .ref 0) (pcJ := 72) rfl L rfl rfl rfl ?_
              refine j_V.getK xa81_M xa81_72 (ci := 9) (j := 3) rfl K rfl rfl ?_
              refine j_V.ldL xa81_M xa81_75 rfl (i := 0) (kd := 2) (v := .ref 0) (pcJ := 76) rfl L rfl rfl rfl ?_
              refine j_V.getK xa81_M xa81_76 (ci := 9) (j := 2) rfl K rfl rfl ?_
              refine j_V.cl xa81_M xa81_79 rfl (md := 3) (mj := 2) rfl (by decide) yr0m_M (As := [.ref 29, .ref 4]) (rest := []) (jk_spl3 (K.at rfl) rfl rfl rfl (Nat.le_of_ble_eq_true rfl) (Nat.le_of_ble_eq_true rfl)) (fun d => hR d _ K) ?_
              rintro r h9 ⟨rfl, R9⟩
              have K1 := K
              obtain ⟨hb, ehb⟩ : ∃ z, z = h9 := ⟨_, rfl⟩
              have K : KN h9 [(0, .inl (9, [.ref 1, .ref 3, .ref 4, .ref 29, .ref 281, .ref 325, .ref 327, .ref 343, .int sst])), (4, .inl (7, [.ref 327, .int mi, .int shu, .int bus, .ref 5, .ref 6, .ref 7, .ref 8, .ref 9, .ref 10, .ref 11, .ref 12, .ref 13, .ref 14, .ref 15, .int lks, .ref 16, .ref 17, .ref 20])), (16, .inr (.inl (0, lkd))), (327, .inl (2, [.int ns, .ref 328, .ref 329, .ref 330, .ref 331, .int nt, .ref 332, .ref 333, .ref 334, .ref 335, .ref 336, .ref 337, .ref 338, .int cel, .ref 339, .ref 340, .ref 341, .ref 342]))] hb := by rw [ehb]; exact hK _ _ K1 R9
              rw [← ehb] at R9
              clear ehb
              show j_V jP _ 155 82 lv [] h9 _
              refine j_V.ldL xa81_M xa81_82 rfl (i := 0) (kd := 2) (v := .ref 0) (pcJ := 83) rfl L rfl rfl rfl ?_
              refine j_V.getK xa81_M xa81_83 (ci := 9) (j := 2) rfl K rfl rfl ?_
              refine j_V.ldL xa81_M xa81_86 rfl (i := 1) (kd := 0) (v := .int x1) (pcJ := 87) rfl L rfl rfl rfl ?_
              refine j_V.ldL xa81_M xa81_87 rfl (i := 2) (kd := 0) (v := .int x2) (pcJ := 88) rfl L rfl rfl rfl ?_
              refine j_V.ldL xa81_M xa81_88 rfl (i := 3) (kd := 0) (v := .int x3) (pcJ := 89) rfl L rfl rfl rfl ?_
              refine j_V.cl xa81_M xa81_89 rfl (md := 3) (mj := 90) rfl (by decide) xa35_M (As := [.ref 4, .int x1, .int x2, .int x3]) (rest := []) (jk_spl3 (K.at rfl) rfl rfl rfl (Nat.le_of_ble_eq_true rfl) (Nat.le_of_ble_eq_true rfl)) (fun d => xa35_ok (K.fi [4, 16] rfl rfl)) ?_
              rintro r h9 ⟨rfl, K9⟩
              generalize ez4 : (x_addLink lks lkd x1 x2 x3) = z4 at K9 ⊢
              have K : KN h9 [(0, .inl (9, [.ref 1, .ref 3, .ref 4, .ref 29, .ref 281, .ref 325, .ref 327, .ref 343, .int sst])), (4, .inl (7, [.ref 327, .int mi, .int shu, .int bus, .ref 5, .ref 6, .ref 7, .ref 8, .ref 9, .ref 10, .ref 11, .ref 12, .ref 13, .ref 14, .ref 15, .int (z4.1), .ref 16, .ref 17, .ref 20])), (16, .inr (.inl (0, (z4.2)))), (327, .inl (2, [.int ns, .ref 328, .ref 329, .ref 330, .ref 331, .int nt, .ref 332, .ref 333, .ref 334, .ref 335, .ref 336, .ref 337, .ref 338, .int cel, .ref 339, .ref 340, .ref 341, .ref 342]))] hb := K.mg K9 rfl rfl
              clear K9
              show j_V jP _ 155 92 lv [] h9 _
              refine j_V.ldL xa81_M xa81_92 rfl (i := 0) (kd := 2) (v := .ref 0) (pcJ := 93) rfl L rfl rfl rfl ?_
              refine j_V.ldL xa81_M xa81_93 rfl (i := 0) (kd := 2) (v := .ref 0) (pcJ := 94) rfl L rfl rfl rfl ?_
              refine j_V.getK xa81_M xa81_94 (ci := 9) (j := 2) rfl K rfl rfl ?_
              refine j_V.getK xa81_M xa81_97 (ci := 7) (j := 15) rfl K rfl rfl ?_
              refine j_V.one xa81_M xa81_100 (by decide) (pcJ := 101) (stJ := [.int 1, .int (z4.1), .ref 0]) rfl ?_
              refine j_V.one xa81_M xa81_101 (by decide) (pcJ := 102) (stJ := [.int ((z4.1) - 1), .ref 0]) rfl ?_
              refine j_V.cl xa81_M xa81_102 rfl (md := 3) (mj := 159) rfl (by decide) xa49_M (As := [.ref 0, .int ((z4.1) - 1)]) (rest := []) (jk_spl3 (K.at rfl) rfl rfl rfl (Nat.le_of_ble_eq_true rfl) (Nat.le_of_ble_eq_true rfl)) (fun d => xa49_ok (K.fi [0] rfl rfl)) ?_
              rintro r h9 ⟨rfl, K9⟩
              generalize ez5 : (x_qanswer sst ((z4.1) - 1)) = z5 at K9 ⊢
              have K : KN h9 [(0, .inl (9, [.ref 1, .ref 3, .ref 4, .ref 29, .ref 281, .ref 325, .ref 327, .ref 343, .int (z5.2)])), (4, .inl (7, [.ref 327, .int mi, .int shu, .int bus, .ref 5, .ref 6, .ref 7, .ref 8, .ref 9, .ref 10, .ref 11, .ref 12, .ref 13, .ref 14, .ref 15, .int (z4.1), .ref 16, .ref 17, .ref 20])), (16, .inr (.inl (0, (z4.2)))), (327, .inl (2, [.int ns, .ref 328, .ref 329, .ref 330, .ref 331, .int nt, .ref 332, .ref 333, .ref 334, .ref 335, .ref 336, .ref 337, .ref 338, .int cel, .ref 339, .ref 340, .ref 341, .ref 342]))] hb := K.mg K9 rfl rfl
              clear K9
              show j_V jP _ 155 105 lv [.int (z5.1)] h9 _
              subst ez5
              subst ez4
              refine j_V.ri xa81_M xa81_105 ?_
              rw [show (x_alink lks lkd ns nt sst x1 x2 x3) = _ from ((if_neg c5_0).trans ((if_neg c13_1).trans ((if_neg c21_2).trans ((if_neg c32_3).trans ((if_pos c45_4).trans ((if_pos c62_5).trans (rfl)))))))]
              exact ⟨rfl, Or.inr ⟨rfl, _, _, K1, R9, K⟩⟩
            · replace c62_5 : ¬ (lks < 4) := jd_ltn c62_5
              refine j_V.ldL xa81_M xa81_65 rfl (i := 0) (kd := 2) (v := .ref 0) (pcJ := 66) rfl L rfl rfl rfl ?_
              refine j_V.one xa81_M xa81_66 (by decide) (pcJ := 67) (stJ := [.int 3, .ref 0]) rfl ?_
              refine j_V.cl xa81_M xa81_67 rfl (md := 3) (mj := 161) rfl (by decide) xa50_M (As := [.ref 0, .int 3]) (rest := []) (jk_spl3 (K.at rfl) rfl rfl rfl (Nat.le_of_ble_eq_true rfl) (Nat.le_of_ble_eq_true rfl)) (fun d => xa50_ok (K.fi [0] rfl rfl)) ?_
              rintro r h9 ⟨rfl, K9⟩
              generalize ez6 : (x_qrefuse sst 3) = z6 at K9 ⊢
              have K : KN h9 [(0, .inl (9, [.ref 1, .ref 3, .ref 4, .ref 29, .ref 281, .ref 325, .ref 327, .ref 343, .int (z6.2)])), (4, .inl (7, [.ref 327, .int mi, .int shu, .int bus, .ref 5, .ref 6, .ref 7, .ref 8, .ref 9, .ref 10, .ref 11, .ref 12, .ref 13, .ref 14, .ref 15, .int lks, .ref 16, .ref 17, .ref 20])), (16, .inr (.inl (0, lkd))), (29, .inl (0, [.ref 30, .int acne, .int acco])), (327, .inl (2, [.int ns, .ref 328, .ref 329, .ref 330, .ref 331, .int nt, .ref 332, .ref 333, .ref 334, .ref 335, .ref 336, .ref 337, .ref 338, .int cel, .ref 339, .ref 340, .ref 341, .ref 342]))] h0 := K.mg K9 rfl rfl
              clear K9
              show j_V jP _ 155 70 lv [.int (z6.1)] h9 _
              subst ez6
              refine j_V.ri xa81_M xa81_70 ?_
              rw [show (x_alink lks lkd ns nt sst x1 x2 x3) = _ from ((if_neg c5_0).trans ((if_neg c13_1).trans ((if_neg c21_2).trans ((if_neg c32_3).trans ((if_pos c45_4).trans ((if_neg c62_5).trans (rfl)))))))]
              exact ⟨rfl, Or.inl ⟨rfl, K⟩⟩
          · replace c45_4 : ¬ ((x_hasLink lks lkd x1 x2 x3) = 0) := jd_eqn c45_4
            refine j_V.ldL xa81_M xa81_48 rfl (i := 0) (kd := 2) (v := .ref 0) (pcJ := 49) rfl L rfl rfl rfl ?_
            refine j_V.one xa81_M xa81_49 (by decide) (pcJ := 50) (stJ := [.int 4, .ref 0]) rfl ?_
            refine j_V.cl xa81_M xa81_50 rfl (md := 3) (mj := 161) rfl (by decide) xa50_M (As := [.ref 0, .int 4]) (rest := []) (jk_spl3 (K.at rfl) rfl rfl rfl (Nat.le_of_ble_eq_true rfl) (Nat.le_of_ble_eq_true rfl)) (fun d => xa50_ok (K.fi [0] rfl rfl)) ?_
            rintro r h9 ⟨rfl, K9⟩
            generalize ez7 : (x_qrefuse sst 4) = z7 at K9 ⊢
            have K : KN h9 [(0, .inl (9, [.ref 1, .ref 3, .ref 4, .ref 29, .ref 281, .ref 325, .ref 327, .ref 343, .int (z7.2)])), (4, .inl (7, [.ref 327, .int mi, .int shu, .int bus, .ref 5, .ref 6, .ref 7, .ref 8, .ref 9, .ref 10, .ref 11, .ref 12, .ref 13, .ref 14, .ref 15, .int lks, .ref 16, .ref 17, .ref 20])), (16, .inr (.inl (0, lkd))), (29, .inl (0, [.ref 30, .int acne, .int acco])), (327, .inl (2, [.int ns, .ref 328, .ref 329, .ref 330, .ref 331, .int nt, .ref 332, .ref 333, .ref 334, .ref 335, .ref 336, .ref 337, .ref 338, .int cel, .ref 339, .ref 340, .ref 341, .ref 342]))] h0 := K.mg K9 rfl rfl
            clear K9
            show j_V jP _ 155 53 lv [.int (z7.1)] h9 _
            subst ez7
            refine j_V.ri xa81_M xa81_53 ?_
            rw [show (x_alink lks lkd ns nt sst x1 x2 x3) = _ from ((if_neg c5_0).trans ((if_neg c13_1).trans ((if_neg c21_2).trans ((if_neg c32_3).trans ((if_neg c45_4).trans (rfl))))))]
            exact ⟨rfl, Or.inl ⟨rfl, K⟩⟩
      · replace c21_2 : (x_isTrain nt x3) = 0 := jd_nen c21_2
        refine j_V.ldL xa81_M xa81_24 rfl (i := 0) (kd := 2) (v := .ref 0) (pcJ := 25) rfl L rfl rfl rfl ?_
        refine j_V.one xa81_M xa81_25 (by decide) (pcJ := 26) (stJ := [.int 2, .ref 0]) rfl ?_
        refine j_V.cl xa81_M xa81_26 rfl (md := 3) (mj := 161) rfl (by decide) xa50_M (As := [.ref 0, .int 2]) (rest := []) (jk_spl3 (K.at rfl) rfl rfl rfl (Nat.le_of_ble_eq_true rfl) (Nat.le_of_ble_eq_true rfl)) (fun d => xa50_ok (K.fi [0] rfl rfl)) ?_
        rintro r h9 ⟨rfl, K9⟩
        generalize ez8 : (x_qrefuse sst 2) = z8 at K9 ⊢
        have K : KN h9 [(0, .inl (9, [.ref 1, .ref 3, .ref 4, .ref 29, .ref 281, .ref 325, .ref 327, .ref 343, .int (z8.2)])), (4, .inl (7, [.ref 327, .int mi, .int shu, .int bus, .ref 5, .ref 6, .ref 7, .ref 8, .ref 9, .ref 10, .ref 11, .ref 12, .ref 13, .ref 14, .ref 15, .int lks, .ref 16, .ref 17, .ref 20])), (16, .inr (.inl (0, lkd))), (29, .inl (0, [.ref 30, .int acne, .int acco])), (327, .inl (2, [.int ns, .ref 328, .ref 329, .ref 330, .ref 331, .int nt, .ref 332, .ref 333, .ref 334, .ref 335, .ref 336, .ref 337, .ref 338, .int cel, .ref 339, .ref 340, .ref 341, .ref 342]))] h0 := K.mg K9 rfl rfl
        clear K9
        show j_V jP _ 155 29 lv [.int (z8.1)] h9 _
        subst ez8
        refine j_V.ri xa81_M xa81_29 ?_
        rw [show (x_alink lks lkd ns nt sst x1 x2 x3) = _ from ((if_neg c5_0).trans ((if_neg c13_1).trans ((if_pos c21_2).trans (rfl))))]
        exact ⟨rfl, Or.inl ⟨rfl, K⟩⟩
set_option maxRecDepth 100000 in
theorem xa82_M : j_meth jP 156 = some (yX9_cut, cX9_cut, 2, (some .int), 1, false, 9) := rfl
set_option maxRecDepth 100000 in
theorem xa82_0 : j_code jP 156 0 = some (.iload_n 1) := rfl
set_option maxRecDepth 100000 in
theorem xa82_1 : j_code jP 156 1 = some (.ifCond .ge 9) := rfl
set_option maxRecDepth 100000 in
theorem xa82_4 : j_code jP 156 4 = some (.aload_n 0) := rfl
set_option maxRecDepth 100000 in
theorem xa82_5 : j_code jP 156 5 = some (.iconst 1) := rfl
set_option maxRecDepth 100000 in
theorem xa82_6 : j_code jP 156 6 = some (.invokevirtual 84) := rfl
set_option maxRecDepth 100000 in
theorem xa82_9 : j_code jP 156 9 = some (.ireturn) := rfl
set_option maxRecDepth 100000 in
theorem xa82_10 : j_code jP 156 10 = some (.iload_n 1) := rfl
set_option maxRecDepth 100000 in
theorem xa82_11 : j_code jP 156 11 = some (.aload_n 0) := rfl
set_option maxRecDepth 100000 in
theorem xa82_12 : j_code jP 156 12 = some (.getfield 30) := rfl
set_option maxRecDepth 100000 in
theorem xa82_15 : j_code jP 156 15 = some (.getfield 250) := rfl
set_option maxRecDepth 100000 in
theorem xa82_18 : j_code jP 156 18 = some (.if_icmp .lt 9) := rfl
set_option maxRecDepth 100000 in
theorem xa82_21 : j_code jP 156 21 = some (.aload_n 0) := rfl
set_option maxRecDepth 100000 in
theorem xa82_22 : j_code jP 156 22 = some (.iconst 5) := rfl
set_option maxRecDepth 100000 in
theorem xa82_23 : j_code jP 156 23 = some (.invokevirtual 84) := rfl
set_option maxRecDepth 100000 in
theorem xa82_26 : j_code jP 156 26 = some (.ireturn) := rfl
set_option maxRecDepth 100000 in
theorem xa82_27 : j_code jP 156 27 = some (.aload_n 0) := rfl
set_option maxRecDepth 100000 in
theorem xa82_28 : j_code jP 156 28 = some (.getfield 37) := rfl
set_option maxRecDepth 100000 in
theorem xa82_31 : j_code jP 156 31 = some (.aload_n 0) := rfl
set_option maxRecDepth 100000 in
theorem xa82_32 : j_code jP 156 32 = some (.getfield 30) := rfl
set_option maxRecDepth 100000 in
theorem xa82_35 : j_code jP 156 35 = some (.invokevirtual 357) := rfl
set_option maxRecDepth 100000 in
theorem xa82_38 : j_code jP 156 38 = some (.aload_n 0) := rfl
set_option maxRecDepth 100000 in
theorem xa82_39 : j_code jP 156 39 = some (.getfield 30) := rfl
set_option maxRecDepth 100000 in
theorem xa82_42 : j_code jP 156 42 = some (.iload_n 1) := rfl
set_option maxRecDepth 100000 in
theorem xa82_43 : j_code jP 156 43 = some (.invokevirtual 394) := rfl
set_option maxRecDepth 100000 in
theorem xa82_46 : j_code jP 156 46 = some (.aload_n 0) := rfl
set_option maxRecDepth 100000 in
theorem xa82_47 : j_code jP 156 47 = some (.aload_n 0) := rfl
set_option maxRecDepth 100000 in
theorem xa82_48 : j_code jP 156 48 = some (.getfield 30) := rfl
set_option maxRecDepth 100000 in
theorem xa82_51 : j_code jP 156 51 = some (.getfield 250) := rfl
set_option maxRecDepth 100000 in
theorem xa82_54 : j_code jP 156 54 = some (.invokevirtual 104) := rfl
set_option maxRecDepth 100000 in
theorem xa82_57 : j_code jP 156 57 = some (.ireturn) := rfl
def xa82_C (mi : Int32) (shu : Int32) (bus : Int32) (lks : Int32) (lkd : List Int32) (sst : Int32) (acne : Int32) (acco : Int32) : jk_K := [(0, .inl (9, [.ref 1, .ref 3, .ref 4, .ref 29, .ref 281, .ref 325, .ref 327, .ref 343, .int sst])), (4, .inl (7, [.ref 327, .int mi, .int shu, .int bus, .ref 5, .ref 6, .ref 7, .ref 8, .ref 9, .ref 10, .ref 11, .ref 12, .ref 13, .ref 14, .ref 15, .int lks, .ref 16, .ref 17, .ref 20])), (16, .inr (.inl (0, lkd))), (29, .inl (0, [.ref 30, .int acne, .int acco]))]
def xa82_D (mi : Int32) (shu : Int32) (bus : Int32) (lks : Int32) (lkd : List Int32) (sst : Int32) (acne : Int32) (acco : Int32) : jk_K := [(0, .inl (9, [.ref 1, .ref 3, .ref 4, .ref 29, .ref 281, .ref 325, .ref 327, .ref 343, .int sst])), (4, .inl (7, [.ref 327, .int mi, .int shu, .int bus, .ref 5, .ref 6, .ref 7, .ref 8, .ref 9, .ref 10, .ref 11, .ref 12, .ref 13, .ref 14, .ref 15, .int lks, .ref 16, .ref 17, .ref 20])), (16, .inr (.inl (0, lkd)))]
def x_acut (lks : Int32) (lkd : List Int32) (sst : Int32) (x1 : Int32) : Int32 × Int32 × Int32 × List Int32 × Int32 := (if x1 < 0 then let z4 := (x_qrefuse sst 1); ((z4.1), 0, lks, lkd, (z4.2)) else (if x1 < lks then let z1 := (x_removeLink lks lkd x1); let z2 := (x_qanswer sst (z1.1)); ((z2.1), 1, (z1.1), (z1.2), (z2.2)) else let z3 := (x_qrefuse sst 5); ((z3.1), 0, lks, lkd, (z3.2))))
set_option maxRecDepth 1000000 in
theorem xa82_ok {mi : Int32} {shu : Int32} {bus : Int32} {lks : Int32} {lkd : List Int32} {sst : Int32} {acne : Int32} {acco : Int32} {x1 : Int32} {d : Nat} {h h0 : J_H} {RM : J_H → J_H → Prop} (hR : ∀ d h1, KN h1 (xa82_C mi shu bus lks lkd sst acne acco) h0 → j_V jP d 2 0 (lv_args 0 [.ref 29, .ref 4]) [] h1 (fun rv h' => rv = none ∧ RM h1 h')) (hK : ∀ h1 h2, KN h1 (xa82_C mi shu bus lks lkd sst acne acco) h0 → RM h1 h2 → KN h2 (xa82_D mi shu bus lks lkd sst acne acco) h2) (K : KN h [(0, .inl (9, [.ref 1, .ref 3, .ref 4, .ref 29, .ref 281, .ref 325, .ref 327, .ref 343, .int sst])), (4, .inl (7, [.ref 327, .int mi, .int shu, .int bus, .ref 5, .ref 6, .ref 7, .ref 8, .ref 9, .ref 10, .ref 11, .ref 12, .ref 13, .ref 14, .ref 15, .int lks, .ref 16, .ref 17, .ref 20])), (16, .inr (.inl (0, lkd))), (29, .inl (0, [.ref 30, .int acne, .int acco]))] h0) : j_V jP d 156 0 (lv_args 0 [.ref 0, .int x1]) [] h (fun rv h' => rv = some (.int (x_acut lks lkd sst x1).1) ∧ (((x_acut lks lkd sst x1).2.1 = 0 ∧ KN h' [(0, .inl (9, [.ref 1, .ref 3, .ref 4, .ref 29, .ref 281, .ref 325, .ref 327, .ref 343, .int (x_acut lks lkd sst x1).2.2.2.2])), (4, .inl (7, [.ref 327, .int mi, .int shu, .int bus, .ref 5, .ref 6, .ref 7, .ref 8, .ref 9, .ref 10, .ref 11, .ref 12, .ref 13, .ref 14, .ref 15, .int (x_acut lks lkd sst x1).2.2.1, .ref 16, .ref 17, .ref 20])), (16, .inr (.inl (0, (x_acut lks lkd sst x1).2.2.2.1))), (29, .inl (0, [.ref 30, .int acne, .int acco]))] h0) ∨ ((x_acut lks lkd sst x1).2.1 = 1 ∧ ∃ h1 h2, KN h1 (xa82_C mi shu bus lks lkd sst acne acco) h0 ∧ RM h1 h2 ∧ KN h' [(0, .inl (9, [.ref 1, .ref 3, .ref 4, .ref 29, .ref 281, .ref 325, .ref 327, .ref 343, .int (x_acut lks lkd sst x1).2.2.2.2])), (4, .inl (7, [.ref 327, .int mi, .int shu, .int bus, .ref 5, .ref 6, .ref 7, .ref 8, .ref 9, .ref 10, .ref 11, .ref 12, .ref 13, .ref 14, .ref 15, .int (x_acut lks lkd sst x1).2.2.1, .ref 16, .ref 17, .ref 20])), (16, .inr (.inl (0, (x_acut lks lkd sst x1).2.2.2.1)))] h2))) := by
  show j_V jP d 156 0 [(0, .ref 0), (1, .int x1)] [] h _
  obtain ⟨lv, elv, L⟩ : ∃ lv, lv = [(0, .ref 0), (1, .int x1)] ∧ LK lv [(0, .ref 0), (1, .int x1)] := ⟨_, rfl, LK.rf⟩
  rw [← elv]
  clear elv
  refine j_V.ldL xa82_M xa82_0 rfl (i := 1) (kd := 0) (v := .int x1) (pcJ := 1) rfl L rfl rfl rfl ?_
  refine j_V.ifc xa82_M xa82_1 (t := 10) rfl (fun c1_0 => ?_) (fun c1_0 => ?_)
  · replace c1_0 : ¬ (x1 < 0) := jd_ge c1_0
    refine j_V.ldL xa82_M xa82_10 rfl (i := 1) (kd := 0) (v := .int x1) (pcJ := 11) rfl L rfl rfl rfl ?_
    refine j_V.ldL xa82_M xa82_11 rfl (i := 0) (kd := 2) (v := .ref 0) (pcJ := 12) rfl L rfl rfl rfl ?_
    refine j_V.getK xa82_M xa82_12 (ci := 9) (j := 2) rfl K rfl rfl ?_
    refine j_V.getK xa82_M xa82_15 (ci := 7) (j := 15) rfl K rfl rfl ?_
    refine j_V.icmp xa82_M xa82_18 (t := 27) rfl (fun c18_1 => ?_) (fun c18_1 => ?_)
    · replace c18_1 : x1 < lks := jd_lt c18_1
      refine j_V.ldL xa82_M xa82_27 rfl (i := 0) (kd := 2) (v := .ref 0) (pcJ := 28) rfl L rfl rfl rfl ?_
      refine j_V.getK xa82_M xa82_28 (ci := 9) (j := 3) rfl K rfl rfl ?_
      refine j_V.ldL xa82_M xa82_31 rfl (i := 0) (kd := 2) (v := .ref 0) (pcJ := 32) rfl L rfl rfl rfl ?_
      refine j_V.getK xa82_M xa82_32 (ci := 9) (j := 2) rfl K rfl rfl ?_
      refine j_V.cl xa82_M xa82_35 rfl (md := 3) (mj := 2) rfl (by decide) yr0m_M (As := [.ref 29, .ref 4]) (rest := []) (jk_spl3 (K.at rfl) rfl rfl rfl (Nat.le_of_ble_eq_true rfl) (Nat.le_of_ble_eq_true rfl)) (fun d => hR d _ K) ?_
      rintro r h9 ⟨rfl, R9⟩
      have K1 := K
      obtain ⟨hb, ehb⟩ : ∃ z, z = h9 := ⟨_, rfl⟩
      have K : KN h9 [(0, .inl (9, [.ref 1, .ref 3, .ref 4, .ref 29, .ref 281, .ref 325, .ref 327, .ref 343, .int sst])), (4, .inl (7, [.ref 327, .int mi, .int shu, .int bus, .ref 5, .ref 6, .ref 7, .ref 8, .ref 9, .ref 10, .ref 11, .ref 12, .ref 13, .ref 14, .ref 15, .int lks, .ref 16, .ref 17, .ref 20])), (16, .inr (.inl (0, lkd)))] hb := by rw [ehb]; exact hK _ _ K1 R9
      rw [← ehb] at R9
      clear ehb
      show j_V jP _ 156 38 lv [] h9 _
      refine j_V.ldL xa82_M xa82_38 rfl (i := 0) (kd := 2) (v := .ref 0) (pcJ := 39) rfl L rfl rfl rfl ?_
      refine j_V.getK xa82_M xa82_39 (ci := 9) (j := 2) rfl K rfl rfl ?_
      refine j_V.ldL xa82_M xa82_42 rfl (i := 1) (kd := 0) (v := .int x1) (pcJ := 43) rfl L rfl rfl rfl ?_
      refine j_V.cl xa82_M xa82_43 rfl (md := 3) (mj := 91) rfl (by decide) xa73_M (As := [.ref 4, .int x1]) (rest := []) (jk_spl3 (K.at rfl) rfl rfl rfl (Nat.le_of_ble_eq_true rfl) (Nat.le_of_ble_eq_true rfl)) (fun d => xa73_ok (K.fi [4, 16] rfl rfl)) ?_
      rintro r h9 ⟨rfl, K9⟩
      generalize ez1 : (x_removeLink lks lkd x1) = z1 at K9 ⊢
      have K : KN h9 [(0, .inl (9, [.ref 1, .ref 3, .ref 4, .ref 29, .ref 281, .ref 325, .ref 327, .ref 343, .int sst])), (4, .inl (7, [.ref 327, .int mi, .int shu, .int bus, .ref 5, .ref 6, .ref 7, .ref 8, .ref 9, .ref 10, .ref 11, .ref 12, .ref 13, .ref 14, .ref 15, .int (z1.1), .ref 16, .ref 17, .ref 20])), (16, .inr (.inl (0, (z1.2))))] hb := K.mg K9 rfl rfl
      clear K9
      show j_V jP _ 156 46 lv [] h9 _
      refine j_V.ldL xa82_M xa82_46 rfl (i := 0) (kd := 2) (v := .ref 0) (pcJ := 47) rfl L rfl rfl rfl ?_
      refine j_V.ldL xa82_M xa82_47 rfl (i := 0) (kd := 2) (v := .ref 0) (pcJ := 48) rfl L rfl rfl rfl ?_
      refine j_V.getK xa82_M xa82_48 (ci := 9) (j := 2) rfl K rfl rfl ?_
      refine j_V.getK xa82_M xa82_51 (ci := 7) (j := 15) rfl K rfl rfl ?_
      refine j_V.cl xa82_M xa82_54 rfl (md := 3) (mj := 159) rfl (by decide) xa49_M (As := [.ref 0, .int (z1.1)]) (rest := []) (jk_spl3 (K.at rfl) rfl rfl rfl (Nat.le_of_ble_eq_true rfl) (Nat.le_of_ble_eq_true rfl)) (fun d => xa49_ok (K.fi [0] rfl rfl)) ?_
      rintro r h9 ⟨rfl, K9⟩
      generalize ez2 : (x_qanswer sst (z1.1)) = z2 at K9 ⊢
      have K : KN h9 [(0, .inl (9, [.ref 1, .ref 3, .ref 4, .ref 29, .ref 281, .ref 325, .ref 327, .ref 343, .int (z2.2)])), (4, .inl (7, [.ref 327, .int mi, .int shu, .int bus, .ref 5, .ref 6, .ref 7, .ref 8, .ref 9, .ref 10, .ref 11, .ref 12, .ref 13, .ref 14, .ref 15, .int (z1.1), .ref 16, .ref 17, .ref 20])), (16, .inr (.inl (0, (z1.2))))] hb := K.mg K9 rfl rfl
      clear K9
      show j_V jP _ 156 57 lv [.int (z2.1)] h9 _
      subst ez2
      subst ez1
      refine j_V.ri xa82_M xa82_57 ?_
      rw [show (x_acut lks lkd sst x1) = _ from ((if_neg c1_0).trans ((if_pos c18_1).trans (rfl)))]
      exact ⟨rfl, Or.inr ⟨rfl, _, _, K1, R9, K⟩⟩
    · replace c18_1 : ¬ (x1 < lks) := jd_ltn c18_1
      refine j_V.ldL xa82_M xa82_21 rfl (i := 0) (kd := 2) (v := .ref 0) (pcJ := 22) rfl L rfl rfl rfl ?_
      refine j_V.one xa82_M xa82_22 (by decide) (pcJ := 23) (stJ := [.int 5, .ref 0]) rfl ?_
      refine j_V.cl xa82_M xa82_23 rfl (md := 3) (mj := 161) rfl (by decide) xa50_M (As := [.ref 0, .int 5]) (rest := []) (jk_spl3 (K.at rfl) rfl rfl rfl (Nat.le_of_ble_eq_true rfl) (Nat.le_of_ble_eq_true rfl)) (fun d => xa50_ok (K.fi [0] rfl rfl)) ?_
      rintro r h9 ⟨rfl, K9⟩
      generalize ez3 : (x_qrefuse sst 5) = z3 at K9 ⊢
      have K : KN h9 [(0, .inl (9, [.ref 1, .ref 3, .ref 4, .ref 29, .ref 281, .ref 325, .ref 327, .ref 343, .int (z3.2)])), (4, .inl (7, [.ref 327, .int mi, .int shu, .int bus, .ref 5, .ref 6, .ref 7, .ref 8, .ref 9, .ref 10, .ref 11, .ref 12, .ref 13, .ref 14, .ref 15, .int lks, .ref 16, .ref 17, .ref 20])), (16, .inr (.inl (0, lkd))), (29, .inl (0, [.ref 30, .int acne, .int acco]))] h0 := K.mg K9 rfl rfl
      clear K9
      show j_V jP _ 156 26 lv [.int (z3.1)] h9 _
      subst ez3
      refine j_V.ri xa82_M xa82_26 ?_
      rw [show (x_acut lks lkd sst x1) = _ from ((if_neg c1_0).trans ((if_neg c18_1).trans (rfl)))]
      exact ⟨rfl, Or.inl ⟨rfl, K⟩⟩
  · replace c1_0 : x1 < 0 := jd_gen c1_0
    refine j_V.ldL xa82_M xa82_4 rfl (i := 0) (kd := 2) (v := .ref 0) (pcJ := 5) rfl L rfl rfl rfl ?_
    refine j_V.one xa82_M xa82_5 (by decide) (pcJ := 6) (stJ := [.int 1, .ref 0]) rfl ?_
    refine j_V.cl xa82_M xa82_6 rfl (md := 3) (mj := 161) rfl (by decide) xa50_M (As := [.ref 0, .int 1]) (rest := []) (jk_spl3 (K.at rfl) rfl rfl rfl (Nat.le_of_ble_eq_true rfl) (Nat.le_of_ble_eq_true rfl)) (fun d => xa50_ok (K.fi [0] rfl rfl)) ?_
    rintro r h9 ⟨rfl, K9⟩
    generalize ez4 : (x_qrefuse sst 1) = z4 at K9 ⊢
    have K : KN h9 [(0, .inl (9, [.ref 1, .ref 3, .ref 4, .ref 29, .ref 281, .ref 325, .ref 327, .ref 343, .int (z4.2)])), (4, .inl (7, [.ref 327, .int mi, .int shu, .int bus, .ref 5, .ref 6, .ref 7, .ref 8, .ref 9, .ref 10, .ref 11, .ref 12, .ref 13, .ref 14, .ref 15, .int lks, .ref 16, .ref 17, .ref 20])), (16, .inr (.inl (0, lkd))), (29, .inl (0, [.ref 30, .int acne, .int acco]))] h0 := K.mg K9 rfl rfl
    clear K9
    show j_V jP _ 156 9 lv [.int (z4.1)] h9 _
    subst ez4
    refine j_V.ri xa82_M xa82_9 ?_
    rw [show (x_acut lks lkd sst x1) = _ from ((if_pos c1_0).trans (rfl))]
    exact ⟨rfl, Or.inl ⟨rfl, K⟩⟩

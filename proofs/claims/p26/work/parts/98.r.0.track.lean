/-! the class's track (state 4, layout 327), by wip/px/gen_x5.py -/
def lsw_n (k : Int) : List (Int × Int) → Prop
  | [] => True
  | p :: ps => k ≠ p.1 ∧ lsw_n k ps
theorem lsw_d {dflt k : Int} : ∀ {ps : List (Int × Int)}, lsw_n k ps → Op.lookupswitch.offset ps dflt k = dflt
  | [], _ => by simp [Op.lookupswitch.offset]
  | p :: ps, h => by
    have ih := lsw_d (dflt := dflt) (k := k) (ps := ps) h.2
    simp only [Op.lookupswitch.offset] at ih ⊢
    simp [h.1, Ne.symm h.1, ih]
theorem j_V.lsw {P : j_P} {d mi pc : Nat} {lv : J_L} {st : List Value} {h : J_H} {Q : Option Value → J_H → Prop} {M : j_M} {dflt : Int} {ps : Array (Int × Int)} {x : Int32} (hM : j_meth P mi = some M) (hc : j_code P mi pc = some (.lookupswitch dflt ps)) (kk : ∀ t, j_tgt pc (Op.lookupswitch.offset ps.toList dflt x.toInt) = some t → j_V P d mi t lv st h Q) : j_V P d mi pc lv (.int x :: st) h Q := by
  refine j_V.any hM hc ⟨fun z => (by cases z), fun z => (by cases z)⟩ fun pcJ lv' stJ h' ho => ?_
  simp only [j_one, j_kd, j_br] at ho
  split at ho
  · cases ht : j_tgt pc (Op.lookupswitch.offset ps.toList dflt x.toInt) with
    | none => rw [ht] at ho; cases ho
    | some t => rw [ht] at ho; cases ho; exact kk _ ht
  · cases ho
set_option maxRecDepth 100000 in
theorem xa72_M : j_meth jP 118 = some (yX9_track, cX9_track, 5, (some .int), 3, false, 9) := rfl
set_option maxRecDepth 100000 in
theorem xa72_0 : j_code jP 118 0 = some (.iload_n 3) := rfl
set_option maxRecDepth 100000 in
theorem xa72_1 : j_code jP 118 1 = some (.iconst 0) := rfl
set_option maxRecDepth 100000 in
theorem xa72_2 : j_code jP 118 2 = some (.iconst 2) := rfl
set_option maxRecDepth 100000 in
theorem xa72_3 : j_code jP 118 3 = some (.invokestatic 138) := rfl
set_option maxRecDepth 100000 in
theorem xa72_6 : j_code jP 118 6 = some (.ifCond .ne 9) := rfl
set_option maxRecDepth 100000 in
theorem xa72_9 : j_code jP 118 9 = some (.aload_n 0) := rfl
set_option maxRecDepth 100000 in
theorem xa72_10 : j_code jP 118 10 = some (.iconst 1) := rfl
set_option maxRecDepth 100000 in
theorem xa72_11 : j_code jP 118 11 = some (.invokevirtual 84) := rfl
set_option maxRecDepth 100000 in
theorem xa72_14 : j_code jP 118 14 = some (.ireturn) := rfl
set_option maxRecDepth 100000 in
theorem xa72_15 : j_code jP 118 15 = some (.aload_n 0) := rfl
set_option maxRecDepth 100000 in
theorem xa72_16 : j_code jP 118 16 = some (.iload_n 1) := rfl
set_option maxRecDepth 100000 in
theorem xa72_17 : j_code jP 118 17 = some (.iload_n 2) := rfl
set_option maxRecDepth 100000 in
theorem xa72_18 : j_code jP 118 18 = some (.invokevirtual 169) := rfl
set_option maxRecDepth 100000 in
theorem xa72_21 : j_code jP 118 21 = some (.ifCond .ne 9) := rfl
set_option maxRecDepth 100000 in
theorem xa72_24 : j_code jP 118 24 = some (.aload_n 0) := rfl
set_option maxRecDepth 100000 in
theorem xa72_25 : j_code jP 118 25 = some (.iconst 2) := rfl
set_option maxRecDepth 100000 in
theorem xa72_26 : j_code jP 118 26 = some (.invokevirtual 84) := rfl
set_option maxRecDepth 100000 in
theorem xa72_29 : j_code jP 118 29 = some (.ireturn) := rfl
set_option maxRecDepth 100000 in
theorem xa72_30 : j_code jP 118 30 = some (.iload_n 1) := rfl
set_option maxRecDepth 100000 in
theorem xa72_31 : j_code jP 118 31 = some (.iconst 3) := rfl
set_option maxRecDepth 100000 in
theorem xa72_32 : j_code jP 118 32 = some (.imul) := rfl
set_option maxRecDepth 100000 in
theorem xa72_33 : j_code jP 118 33 = some (.iload_n 2) := rfl
set_option maxRecDepth 100000 in
theorem xa72_34 : j_code jP 118 34 = some (.iadd) := rfl
set_option maxRecDepth 100000 in
theorem xa72_35 : j_code jP 118 35 = some (.istore 4) := rfl
set_option maxRecDepth 100000 in
theorem xa72_37 : j_code jP 118 37 = some (.iload_n 3) := rfl
set_option maxRecDepth 100000 in
theorem xa72_38 : j_code jP 118 38 = some (.lookupswitch 55 #[(0, 26), (1, 41)]) := rfl
set_option maxRecDepth 100000 in
theorem xa72_64 : j_code jP 118 64 = some (.aload_n 0) := rfl
set_option maxRecDepth 100000 in
theorem xa72_65 : j_code jP 118 65 = some (.aload_n 0) := rfl
set_option maxRecDepth 100000 in
theorem xa72_66 : j_code jP 118 66 = some (.getfield 58) := rfl
set_option maxRecDepth 100000 in
theorem xa72_69 : j_code jP 118 69 = some (.getfield 173) := rfl
set_option maxRecDepth 100000 in
theorem xa72_72 : j_code jP 118 72 = some (.iload 4) := rfl
set_option maxRecDepth 100000 in
theorem xa72_74 : j_code jP 118 74 = some (.iaload) := rfl
set_option maxRecDepth 100000 in
theorem xa72_75 : j_code jP 118 75 = some (.invokevirtual 104) := rfl
set_option maxRecDepth 100000 in
theorem xa72_78 : j_code jP 118 78 = some (.ireturn) := rfl
set_option maxRecDepth 100000 in
theorem xa72_79 : j_code jP 118 79 = some (.aload_n 0) := rfl
set_option maxRecDepth 100000 in
theorem xa72_80 : j_code jP 118 80 = some (.aload_n 0) := rfl
set_option maxRecDepth 100000 in
theorem xa72_81 : j_code jP 118 81 = some (.getfield 30) := rfl
set_option maxRecDepth 100000 in
theorem xa72_84 : j_code jP 118 84 = some (.iload 4) := rfl
set_option maxRecDepth 100000 in
theorem xa72_86 : j_code jP 118 86 = some (.invokevirtual 175) := rfl
set_option maxRecDepth 100000 in
theorem xa72_89 : j_code jP 118 89 = some (.invokevirtual 178) := rfl
set_option maxRecDepth 100000 in
theorem xa72_92 : j_code jP 118 92 = some (.ireturn) := rfl
set_option maxRecDepth 100000 in
theorem xa72_93 : j_code jP 118 93 = some (.aload_n 0) := rfl
set_option maxRecDepth 100000 in
theorem xa72_94 : j_code jP 118 94 = some (.aload_n 0) := rfl
set_option maxRecDepth 100000 in
theorem xa72_95 : j_code jP 118 95 = some (.getfield 30) := rfl
set_option maxRecDepth 100000 in
theorem xa72_98 : j_code jP 118 98 = some (.getfield 181) := rfl
set_option maxRecDepth 100000 in
theorem xa72_101 : j_code jP 118 101 = some (.iload 4) := rfl
set_option maxRecDepth 100000 in
theorem xa72_103 : j_code jP 118 103 = some (.ishr) := rfl
set_option maxRecDepth 100000 in
theorem xa72_104 : j_code jP 118 104 = some (.iconst 1) := rfl
set_option maxRecDepth 100000 in
theorem xa72_105 : j_code jP 118 105 = some (.iand) := rfl
set_option maxRecDepth 100000 in
theorem xa72_106 : j_code jP 118 106 = some (.invokevirtual 104) := rfl
set_option maxRecDepth 100000 in
theorem xa72_109 : j_code jP 118 109 = some (.ireturn) := rfl
def x_qtrack (shu : Int32) (ce : List Int32) (ns : Int32) (nt : Int32) (tra : List Int32) (len : List Int32) (sst : Int32) (x1 : Int32) (x2 : Int32) (x3 : Int32) : Int32 × Int32 := (if (x_isWithin x3 0 2) = 0 then let z5 := (x_qrefuse sst 1); ((z5.1), (z5.2)) else (if (x_isTrack ns tra x1 x2) = 0 then let z4 := (x_qrefuse sst 2); ((z4.1), (z4.2)) else (if x3 = 0 then let z1 := (x_qanswer sst (gA len ((x1 * 3) + x2))); ((z1.1), (z1.2)) else (if x3 = 1 then let z2 := (x_qanswerIfAny sst (x_trainWith ce nt ((x1 * 3) + x2))); ((z2.1), (z2.2)) else let z3 := (x_qanswer sst ((shu >>> (((x1 * 3) + x2) &&& 31)) &&& 1)); ((z3.1), (z3.2))))))
set_option maxRecDepth 1000000 in
theorem xa72_ok {mi : Int32} {shu : Int32} {bus : Int32} {lks : Int32} {ce : List Int32} {ns : Int32} {nt : Int32} {cel : Int32} {tra : List Int32} {len : List Int32} {sst : Int32} {x1 x2 x3 : Int32} {d : Nat} {h h0 : J_H} (K : KN h [(0, .inl (9, [.ref 1, .ref 3, .ref 4, .ref 29, .ref 281, .ref 325, .ref 327, .ref 343, .int sst])), (4, .inl (7, [.ref 327, .int mi, .int shu, .int bus, .ref 5, .ref 6, .ref 7, .ref 8, .ref 9, .ref 10, .ref 11, .ref 12, .ref 13, .ref 14, .ref 15, .int lks, .ref 16, .ref 17, .ref 20])), (9, .inr (.inl (0, ce))), (327, .inl (2, [.int ns, .ref 328, .ref 329, .ref 330, .ref 331, .int nt, .ref 332, .ref 333, .ref 334, .ref 335, .ref 336, .ref 337, .ref 338, .int cel, .ref 339, .ref 340, .ref 341, .ref 342])), (330, .inr (.inl (0, tra))), (331, .inr (.inl (0, len)))] h0) : j_V jP d 118 0 (lv_args 0 [.ref 0, .int x1, .int x2, .int x3]) [] h (fun rv h' => rv = some (.int (x_qtrack shu ce ns nt tra len sst x1 x2 x3).1) ∧ KN h' [(0, .inl (9, [.ref 1, .ref 3, .ref 4, .ref 29, .ref 281, .ref 325, .ref 327, .ref 343, .int (x_qtrack shu ce ns nt tra len sst x1 x2 x3).2])), (4, .inl (7, [.ref 327, .int mi, .int shu, .int bus, .ref 5, .ref 6, .ref 7, .ref 8, .ref 9, .ref 10, .ref 11, .ref 12, .ref 13, .ref 14, .ref 15, .int lks, .ref 16, .ref 17, .ref 20])), (9, .inr (.inl (0, ce))), (327, .inl (2, [.int ns, .ref 328, .ref 329, .ref 330, .ref 331, .int nt, .ref 332, .ref 333, .ref 334, .ref 335, .ref 336, .ref 337, .ref 338, .int cel, .ref 339, .ref 340, .ref 341, .ref 342])), (330, .inr (.inl (0, tra))), (331, .inr (.inl (0, len)))] h0) := by
  show j_V jP d 118 0 [(0, .ref 0), (1, .int x1), (2, .int x2), (3, .int x3)] [] h _
  obtain ⟨lv, elv, L⟩ : ∃ lv, lv = [(0, .ref 0), (1, .int x1), (2, .int x2), (3, .int x3)] ∧ LK lv [(0, .ref 0), (1, .int x1), (2, .int x2), (3, .int x3)] := ⟨_, rfl, LK.rf⟩
  rw [← elv]
  clear elv
  refine j_V.ldL xa72_M xa72_0 rfl (i := 3) (kd := 0) (v := .int x3) (pcJ := 1) rfl L rfl rfl rfl ?_
  refine j_V.one xa72_M xa72_1 (by decide) (pcJ := 2) (stJ := [.int 0, .int x3]) rfl ?_
  refine j_V.one xa72_M xa72_2 (by decide) (pcJ := 3) (stJ := [.int 2, .int 0, .int x3]) rfl ?_
  refine j_V.cl xa72_M xa72_3 rfl (md := 2) (mj := 162) rfl (by decide) xawisWi_M (As := [.int x3, .int 0, .int 2]) (rest := []) (jk_spl2 rfl rfl (Nat.le_of_ble_eq_true rfl) (Nat.le_of_ble_eq_true rfl)) (fun d => xawisWi_ok (K.fi [] rfl rfl)) ?_
  rintro r hz ⟨rfl, ez⟩
  rw [ez]
  clear ez
  show j_V jP _ 118 6 lv [.int (x_isWithin x3 0 2)] h _
  refine j_V.ifc xa72_M xa72_6 (t := 15) rfl (fun c6_0 => ?_) (fun c6_0 => ?_)
  · replace c6_0 : ¬ ((x_isWithin x3 0 2) = 0) := jd_ne c6_0
    refine j_V.ldL xa72_M xa72_15 rfl (i := 0) (kd := 2) (v := .ref 0) (pcJ := 16) rfl L rfl rfl rfl ?_
    refine j_V.ldL xa72_M xa72_16 rfl (i := 1) (kd := 0) (v := .int x1) (pcJ := 17) rfl L rfl rfl rfl ?_
    refine j_V.ldL xa72_M xa72_17 rfl (i := 2) (kd := 0) (v := .int x2) (pcJ := 18) rfl L rfl rfl rfl ?_
    refine j_V.cl xa72_M xa72_18 rfl (md := 3) (mj := 164) rfl (by decide) xa46_M (As := [.ref 0, .int x1, .int x2]) (rest := []) (jk_spl3 (K.at rfl) rfl rfl rfl (Nat.le_of_ble_eq_true rfl) (Nat.le_of_ble_eq_true rfl)) (fun d => xa46_ok (K.fi [0, 327, 330] rfl rfl)) ?_
    rintro r hz ⟨rfl, ez⟩
    rw [ez]
    clear ez
    show j_V jP _ 118 21 lv [.int (x_isTrack ns tra x1 x2)] h _
    refine j_V.ifc xa72_M xa72_21 (t := 30) rfl (fun c21_1 => ?_) (fun c21_1 => ?_)
    · replace c21_1 : ¬ ((x_isTrack ns tra x1 x2) = 0) := jd_ne c21_1
      refine j_V.ldL xa72_M xa72_30 rfl (i := 1) (kd := 0) (v := .int x1) (pcJ := 31) rfl L rfl rfl rfl ?_
      refine j_V.one xa72_M xa72_31 (by decide) (pcJ := 32) (stJ := [.int 3, .int x1]) rfl ?_
      refine j_V.one xa72_M xa72_32 (by decide) (pcJ := 33) (stJ := [.int (x1 * 3)]) rfl ?_
      refine j_V.ldL xa72_M xa72_33 rfl (i := 2) (kd := 0) (v := .int x2) (pcJ := 34) rfl L rfl rfl rfl ?_
      refine j_V.one xa72_M xa72_34 (by decide) (pcJ := 35) (stJ := [.int ((x1 * 3) + x2)]) rfl ?_
      refine j_V.stL xa72_M xa72_35 rfl (i := 4) (kd := 0) (kl' := [(0, .ref 0), (1, .int x1), (2, .int x2), (3, .int x3), (4, .int ((x1 * 3) + x2))]) (pcJ := 37) rfl L rfl (by decide) rfl rfl rfl (fun lv L => ?_)
      refine j_V.ldL xa72_M xa72_37 rfl (i := 3) (kd := 0) (v := .int x3) (pcJ := 38) rfl L rfl rfl rfl ?_
      refine j_V.lsw xa72_M xa72_38 (fun t ht => ?_)
      by_cases s38_0 : x3 = 0
      · obtain rfl : 64 = t := by rw [s38_0] at ht; exact Option.some.inj (show some 64 = some t from ht)
        refine j_V.ldL xa72_M xa72_64 rfl (i := 0) (kd := 2) (v := .ref 0) (pcJ := 65) rfl L rfl rfl rfl ?_
        refine j_V.ldL xa72_M xa72_65 rfl (i := 0) (kd := 2) (v := .ref 0) (pcJ := 66) rfl L rfl rfl rfl ?_
        refine j_V.getK xa72_M xa72_66 (ci := 9) (j := 6) rfl K rfl rfl ?_
        refine j_V.getK xa72_M xa72_69 (ci := 2) (j := 4) rfl K rfl rfl ?_
        refine j_V.ldL xa72_M xa72_72 rfl (i := 4) (kd := 0) (v := .int ((x1 * 3) + x2)) (pcJ := 74) rfl L rfl rfl rfl ?_
        refine j_V.iaA xa72_M xa72_74 K rfl ?_
        refine j_V.cl xa72_M xa72_75 rfl (md := 3) (mj := 159) rfl (by decide) xa49_M (As := [.ref 0, .int (gA len ((x1 * 3) + x2))]) (rest := []) (jk_spl3 (K.at rfl) rfl rfl rfl (Nat.le_of_ble_eq_true rfl) (Nat.le_of_ble_eq_true rfl)) (fun d => xa49_ok (K.fi [0] rfl rfl)) ?_
        rintro r h9 ⟨rfl, K9⟩
        generalize ez1 : (x_qanswer sst (gA len ((x1 * 3) + x2))) = z1 at K9 ⊢
        have K : KN h9 [(0, .inl (9, [.ref 1, .ref 3, .ref 4, .ref 29, .ref 281, .ref 325, .ref 327, .ref 343, .int (z1.2)])), (4, .inl (7, [.ref 327, .int mi, .int shu, .int bus, .ref 5, .ref 6, .ref 7, .ref 8, .ref 9, .ref 10, .ref 11, .ref 12, .ref 13, .ref 14, .ref 15, .int lks, .ref 16, .ref 17, .ref 20])), (9, .inr (.inl (0, ce))), (327, .inl (2, [.int ns, .ref 328, .ref 329, .ref 330, .ref 331, .int nt, .ref 332, .ref 333, .ref 334, .ref 335, .ref 336, .ref 337, .ref 338, .int cel, .ref 339, .ref 340, .ref 341, .ref 342])), (330, .inr (.inl (0, tra))), (331, .inr (.inl (0, len)))] h0 := K.mg K9 rfl rfl
        clear K9
        show j_V jP _ 118 78 lv [.int (z1.1)] h9 _
        subst ez1
        refine j_V.ri xa72_M xa72_78 ?_
        rw [show (x_qtrack shu ce ns nt tra len sst x1 x2 x3) = _ from ((if_neg c6_0).trans ((if_neg c21_1).trans ((if_pos s38_0).trans (rfl))))]
        exact ⟨rfl, K⟩
      by_cases s38_1 : x3 = 1
      · obtain rfl : 79 = t := by rw [s38_1] at ht; exact Option.some.inj (show some 79 = some t from ht)
        refine j_V.ldL xa72_M xa72_79 rfl (i := 0) (kd := 2) (v := .ref 0) (pcJ := 80) rfl L rfl rfl rfl ?_
        refine j_V.ldL xa72_M xa72_80 rfl (i := 0) (kd := 2) (v := .ref 0) (pcJ := 81) rfl L rfl rfl rfl ?_
        refine j_V.getK xa72_M xa72_81 (ci := 9) (j := 2) rfl K rfl rfl ?_
        refine j_V.ldL xa72_M xa72_84 rfl (i := 4) (kd := 0) (v := .int ((x1 * 3) + x2)) (pcJ := 86) rfl L rfl rfl rfl ?_
        refine j_V.cl xa72_M xa72_86 rfl (md := 3) (mj := 69) rfl (by decide) xa10_M (As := [.ref 4, .int ((x1 * 3) + x2)]) (rest := [.ref 0]) (jk_spl3 (K.at rfl) rfl rfl rfl (Nat.le_of_ble_eq_true rfl) (Nat.le_of_ble_eq_true rfl)) (fun d => xa10_ok (K.fi [4, 9, 327] rfl rfl)) ?_
        rintro r hz ⟨rfl, ez⟩
        rw [ez]
        clear ez
        show j_V jP _ 118 89 lv [.int (x_trainWith ce nt ((x1 * 3) + x2)), .ref 0] h _
        refine j_V.cl xa72_M xa72_89 rfl (md := 3) (mj := 160) rfl (by decide) xa51_M (As := [.ref 0, .int (x_trainWith ce nt ((x1 * 3) + x2))]) (rest := []) (jk_spl3 (K.at rfl) rfl rfl rfl (Nat.le_of_ble_eq_true rfl) (Nat.le_of_ble_eq_true rfl)) (fun d => xa51_ok (K.fi [0] rfl rfl)) ?_
        rintro r h9 ⟨rfl, K9⟩
        generalize ez2 : (x_qanswerIfAny sst (x_trainWith ce nt ((x1 * 3) + x2))) = z2 at K9 ⊢
        have K : KN h9 [(0, .inl (9, [.ref 1, .ref 3, .ref 4, .ref 29, .ref 281, .ref 325, .ref 327, .ref 343, .int (z2.2)])), (4, .inl (7, [.ref 327, .int mi, .int shu, .int bus, .ref 5, .ref 6, .ref 7, .ref 8, .ref 9, .ref 10, .ref 11, .ref 12, .ref 13, .ref 14, .ref 15, .int lks, .ref 16, .ref 17, .ref 20])), (9, .inr (.inl (0, ce))), (327, .inl (2, [.int ns, .ref 328, .ref 329, .ref 330, .ref 331, .int nt, .ref 332, .ref 333, .ref 334, .ref 335, .ref 336, .ref 337, .ref 338, .int cel, .ref 339, .ref 340, .ref 341, .ref 342])), (330, .inr (.inl (0, tra))), (331, .inr (.inl (0, len)))] h0 := K.mg K9 rfl rfl
        clear K9
        show j_V jP _ 118 92 lv [.int (z2.1)] h9 _
        subst ez2
        refine j_V.ri xa72_M xa72_92 ?_
        rw [show (x_qtrack shu ce ns nt tra len sst x1 x2 x3) = _ from ((if_neg c6_0).trans ((if_neg c21_1).trans ((if_neg s38_0).trans ((if_pos s38_1).trans (rfl)))))]
        exact ⟨rfl, K⟩
      obtain rfl : 93 = t := by rw [lsw_d (ps := [(0, 26), (1, 41)]) (by exact ⟨(fun z => s38_0 (Int32.toInt_inj.mp (by rw [z]; rfl))), (fun z => s38_1 (Int32.toInt_inj.mp (by rw [z]; rfl))), trivial⟩)] at ht; exact Option.some.inj (show some 93 = some t from ht)
      refine j_V.ldL xa72_M xa72_93 rfl (i := 0) (kd := 2) (v := .ref 0) (pcJ := 94) rfl L rfl rfl rfl ?_
      refine j_V.ldL xa72_M xa72_94 rfl (i := 0) (kd := 2) (v := .ref 0) (pcJ := 95) rfl L rfl rfl rfl ?_
      refine j_V.getK xa72_M xa72_95 (ci := 9) (j := 2) rfl K rfl rfl ?_
      refine j_V.getK xa72_M xa72_98 (ci := 7) (j := 2) rfl K rfl rfl ?_
      refine j_V.ldL xa72_M xa72_101 rfl (i := 4) (kd := 0) (v := .int ((x1 * 3) + x2)) (pcJ := 103) rfl L rfl rfl rfl ?_
      refine j_V.one xa72_M xa72_103 (by decide) (pcJ := 104) (stJ := [.int (shu >>> (((x1 * 3) + x2) &&& 31)), .ref 0]) rfl ?_
      refine j_V.one xa72_M xa72_104 (by decide) (pcJ := 105) (stJ := [.int 1, .int (shu >>> (((x1 * 3) + x2) &&& 31)), .ref 0]) rfl ?_
      refine j_V.one xa72_M xa72_105 (by decide) (pcJ := 106) (stJ := [.int ((shu >>> (((x1 * 3) + x2) &&& 31)) &&& 1), .ref 0]) rfl ?_
      refine j_V.cl xa72_M xa72_106 rfl (md := 3) (mj := 159) rfl (by decide) xa49_M (As := [.ref 0, .int ((shu >>> (((x1 * 3) + x2) &&& 31)) &&& 1)]) (rest := []) (jk_spl3 (K.at rfl) rfl rfl rfl (Nat.le_of_ble_eq_true rfl) (Nat.le_of_ble_eq_true rfl)) (fun d => xa49_ok (K.fi [0] rfl rfl)) ?_
      rintro r h9 ⟨rfl, K9⟩
      generalize ez3 : (x_qanswer sst ((shu >>> (((x1 * 3) + x2) &&& 31)) &&& 1)) = z3 at K9 ⊢
      have K : KN h9 [(0, .inl (9, [.ref 1, .ref 3, .ref 4, .ref 29, .ref 281, .ref 325, .ref 327, .ref 343, .int (z3.2)])), (4, .inl (7, [.ref 327, .int mi, .int shu, .int bus, .ref 5, .ref 6, .ref 7, .ref 8, .ref 9, .ref 10, .ref 11, .ref 12, .ref 13, .ref 14, .ref 15, .int lks, .ref 16, .ref 17, .ref 20])), (9, .inr (.inl (0, ce))), (327, .inl (2, [.int ns, .ref 328, .ref 329, .ref 330, .ref 331, .int nt, .ref 332, .ref 333, .ref 334, .ref 335, .ref 336, .ref 337, .ref 338, .int cel, .ref 339, .ref 340, .ref 341, .ref 342])), (330, .inr (.inl (0, tra))), (331, .inr (.inl (0, len)))] h0 := K.mg K9 rfl rfl
      clear K9
      show j_V jP _ 118 109 lv [.int (z3.1)] h9 _
      subst ez3
      refine j_V.ri xa72_M xa72_109 ?_
      rw [show (x_qtrack shu ce ns nt tra len sst x1 x2 x3) = _ from ((if_neg c6_0).trans ((if_neg c21_1).trans ((if_neg s38_0).trans ((if_neg s38_1).trans (rfl)))))]
      exact ⟨rfl, K⟩
    · replace c21_1 : (x_isTrack ns tra x1 x2) = 0 := jd_nen c21_1
      refine j_V.ldL xa72_M xa72_24 rfl (i := 0) (kd := 2) (v := .ref 0) (pcJ := 25) rfl L rfl rfl rfl ?_
      refine j_V.one xa72_M xa72_25 (by decide) (pcJ := 26) (stJ := [.int 2, .ref 0]) rfl ?_
      refine j_V.cl xa72_M xa72_26 rfl (md := 3) (mj := 161) rfl (by decide) xa50_M (As := [.ref 0, .int 2]) (rest := []) (jk_spl3 (K.at rfl) rfl rfl rfl (Nat.le_of_ble_eq_true rfl) (Nat.le_of_ble_eq_true rfl)) (fun d => xa50_ok (K.fi [0] rfl rfl)) ?_
      rintro r h9 ⟨rfl, K9⟩
      generalize ez4 : (x_qrefuse sst 2) = z4 at K9 ⊢
      have K : KN h9 [(0, .inl (9, [.ref 1, .ref 3, .ref 4, .ref 29, .ref 281, .ref 325, .ref 327, .ref 343, .int (z4.2)])), (4, .inl (7, [.ref 327, .int mi, .int shu, .int bus, .ref 5, .ref 6, .ref 7, .ref 8, .ref 9, .ref 10, .ref 11, .ref 12, .ref 13, .ref 14, .ref 15, .int lks, .ref 16, .ref 17, .ref 20])), (9, .inr (.inl (0, ce))), (327, .inl (2, [.int ns, .ref 328, .ref 329, .ref 330, .ref 331, .int nt, .ref 332, .ref 333, .ref 334, .ref 335, .ref 336, .ref 337, .ref 338, .int cel, .ref 339, .ref 340, .ref 341, .ref 342])), (330, .inr (.inl (0, tra))), (331, .inr (.inl (0, len)))] h0 := K.mg K9 rfl rfl
      clear K9
      show j_V jP _ 118 29 lv [.int (z4.1)] h9 _
      subst ez4
      refine j_V.ri xa72_M xa72_29 ?_
      rw [show (x_qtrack shu ce ns nt tra len sst x1 x2 x3) = _ from ((if_neg c6_0).trans ((if_pos c21_1).trans (rfl)))]
      exact ⟨rfl, K⟩
  · replace c6_0 : (x_isWithin x3 0 2) = 0 := jd_nen c6_0
    refine j_V.ldL xa72_M xa72_9 rfl (i := 0) (kd := 2) (v := .ref 0) (pcJ := 10) rfl L rfl rfl rfl ?_
    refine j_V.one xa72_M xa72_10 (by decide) (pcJ := 11) (stJ := [.int 1, .ref 0]) rfl ?_
    refine j_V.cl xa72_M xa72_11 rfl (md := 3) (mj := 161) rfl (by decide) xa50_M (As := [.ref 0, .int 1]) (rest := []) (jk_spl3 (K.at rfl) rfl rfl rfl (Nat.le_of_ble_eq_true rfl) (Nat.le_of_ble_eq_true rfl)) (fun d => xa50_ok (K.fi [0] rfl rfl)) ?_
    rintro r h9 ⟨rfl, K9⟩
    generalize ez5 : (x_qrefuse sst 1) = z5 at K9 ⊢
    have K : KN h9 [(0, .inl (9, [.ref 1, .ref 3, .ref 4, .ref 29, .ref 281, .ref 325, .ref 327, .ref 343, .int (z5.2)])), (4, .inl (7, [.ref 327, .int mi, .int shu, .int bus, .ref 5, .ref 6, .ref 7, .ref 8, .ref 9, .ref 10, .ref 11, .ref 12, .ref 13, .ref 14, .ref 15, .int lks, .ref 16, .ref 17, .ref 20])), (9, .inr (.inl (0, ce))), (327, .inl (2, [.int ns, .ref 328, .ref 329, .ref 330, .ref 331, .int nt, .ref 332, .ref 333, .ref 334, .ref 335, .ref 336, .ref 337, .ref 338, .int cel, .ref 339, .ref 340, .ref 341, .ref 342])), (330, .inr (.inl (0, tra))), (331, .inr (.inl (0, len)))] h0 := K.mg K9 rfl rfl
    clear K9
    show j_V jP _ 118 14 lv [.int (z5.1)] h9 _
    subst ez5
    refine j_V.ri xa72_M xa72_14 ?_
    rw [show (x_qtrack shu ce ns nt tra len sst x1 x2 x3) = _ from ((if_pos c6_0).trans (rfl))]
    exact ⟨rfl, K⟩
set_option maxRecDepth 100000 in
theorem xa73_M : j_meth jP 91 = some (yX7_removeLink, cX7_removeLink, 3, none, 1, false, 7) := rfl
set_option maxRecDepth 100000 in
theorem xa73_0 : j_code jP 91 0 = some (.iconst 3) := rfl
set_option maxRecDepth 100000 in
theorem xa73_1 : j_code jP 91 1 = some (.iload_n 1) := rfl
set_option maxRecDepth 100000 in
theorem xa73_2 : j_code jP 91 2 = some (.imul) := rfl
set_option maxRecDepth 100000 in
theorem xa73_3 : j_code jP 91 3 = some (.istore_n 2) := rfl
set_option maxRecDepth 100000 in
theorem xa73_4 : j_code jP 91 4 = some (.iload_n 2) := rfl
set_option maxRecDepth 100000 in
theorem xa73_5 : j_code jP 91 5 = some (.iconst 3) := rfl
set_option maxRecDepth 100000 in
theorem xa73_6 : j_code jP 91 6 = some (.aload_n 0) := rfl
set_option maxRecDepth 100000 in
theorem xa73_7 : j_code jP 91 7 = some (.getfield 78) := rfl
set_option maxRecDepth 100000 in
theorem xa73_10 : j_code jP 91 10 = some (.iconst 1) := rfl
set_option maxRecDepth 100000 in
theorem xa73_11 : j_code jP 91 11 = some (.isub) := rfl
set_option maxRecDepth 100000 in
theorem xa73_12 : j_code jP 91 12 = some (.imul) := rfl
set_option maxRecDepth 100000 in
theorem xa73_13 : j_code jP 91 13 = some (.if_icmp .ge 23) := rfl
set_option maxRecDepth 100000 in
theorem xa73_16 : j_code jP 91 16 = some (.aload_n 0) := rfl
set_option maxRecDepth 100000 in
theorem xa73_17 : j_code jP 91 17 = some (.getfield 45) := rfl
set_option maxRecDepth 100000 in
theorem xa73_20 : j_code jP 91 20 = some (.iload_n 2) := rfl
set_option maxRecDepth 100000 in
theorem xa73_21 : j_code jP 91 21 = some (.aload_n 0) := rfl
set_option maxRecDepth 100000 in
theorem xa73_22 : j_code jP 91 22 = some (.getfield 45) := rfl
set_option maxRecDepth 100000 in
theorem xa73_25 : j_code jP 91 25 = some (.iload_n 2) := rfl
set_option maxRecDepth 100000 in
theorem xa73_26 : j_code jP 91 26 = some (.iconst 3) := rfl
set_option maxRecDepth 100000 in
theorem xa73_27 : j_code jP 91 27 = some (.iadd) := rfl
set_option maxRecDepth 100000 in
theorem xa73_28 : j_code jP 91 28 = some (.iaload) := rfl
set_option maxRecDepth 100000 in
theorem xa73_29 : j_code jP 91 29 = some (.iastore) := rfl
set_option maxRecDepth 100000 in
theorem xa73_30 : j_code jP 91 30 = some (.iinc 2 1) := rfl
set_option maxRecDepth 100000 in
theorem xa73_33 : j_code jP 91 33 = some (.goto (-29)) := rfl
set_option maxRecDepth 100000 in
theorem xa73_36 : j_code jP 91 36 = some (.aload_n 0) := rfl
set_option maxRecDepth 100000 in
theorem xa73_37 : j_code jP 91 37 = some (.dup) := rfl
set_option maxRecDepth 100000 in
theorem xa73_38 : j_code jP 91 38 = some (.getfield 78) := rfl
set_option maxRecDepth 100000 in
theorem xa73_41 : j_code jP 91 41 = some (.iconst 1) := rfl
set_option maxRecDepth 100000 in
theorem xa73_42 : j_code jP 91 42 = some (.isub) := rfl
set_option maxRecDepth 100000 in
theorem xa73_43 : j_code jP 91 43 = some (.putfield 78) := rfl
set_option maxRecDepth 100000 in
theorem xa73_46 : j_code jP 91 46 = some (.return_) := rfl
def x_removeLink_l4  (v1 : Int32) : Nat → Int32 → Int32 → List Int32 → Int32 × List Int32
  | 0, v2, lks, lkd => let lks1 := (lks - 1); (lks1, lkd)
  | f + 1, v2, lks, lkd => let lkd1 := (sA lkd v2 (gA lkd (v2 + 3))); (x_removeLink_l4 v1 f (v2 + 1) lks lkd1)
set_option maxRecDepth 1000000 in
theorem xa73_ok_l4 {mi : Int32} {shu : Int32} {bus : Int32} {v1 : Int32} {d : Nat} {h0 : J_H} : ∀ (f : Nat) (v2 : Int32) (lks : Int32) (lkd : List Int32) {lv : J_L} {h : J_H}, lpN (3 * (lks - 1)) v2 = f → LK lv [(0, .ref 4), (1, .int v1), (2, .int v2)] → KN h [(4, .inl (7, [.ref 327, .int mi, .int shu, .int bus, .ref 5, .ref 6, .ref 7, .ref 8, .ref 9, .ref 10, .ref 11, .ref 12, .ref 13, .ref 14, .ref 15, .int lks, .ref 16, .ref 17, .ref 20])), (16, .inr (.inl (0, lkd)))] h0 → j_V jP d 91 4 lv [] h (fun rv h' => rv = none ∧ KN h' [(4, .inl (7, [.ref 327, .int mi, .int shu, .int bus, .ref 5, .ref 6, .ref 7, .ref 8, .ref 9, .ref 10, .ref 11, .ref 12, .ref 13, .ref 14, .ref 15, .int (x_removeLink_l4 v1 f v2 lks lkd).1, .ref 16, .ref 17, .ref 20])), (16, .inr (.inl (0, (x_removeLink_l4 v1 f v2 lks lkd).2)))] h0) := by
  intro f
  induction f with
  | zero =>
    intro v2 lks lkd lv h e L K
    refine j_V.ldL xa73_M xa73_4 rfl (i := 2) (kd := 0) (v := .int v2) (pcJ := 5) rfl L rfl rfl rfl ?_
    refine j_V.one xa73_M xa73_5 (by decide) (pcJ := 6) (stJ := [.int 3, .int v2]) rfl ?_
    refine j_V.ldL xa73_M xa73_6 rfl (i := 0) (kd := 2) (v := .ref 4) (pcJ := 7) rfl L rfl rfl rfl ?_
    refine j_V.getK xa73_M xa73_7 (ci := 7) (j := 15) rfl K rfl rfl ?_
    refine j_V.one xa73_M xa73_10 (by decide) (pcJ := 11) (stJ := [.int 1, .int lks, .int 3, .int v2]) rfl ?_
    refine j_V.one xa73_M xa73_11 (by decide) (pcJ := 12) (stJ := [.int (lks - 1), .int 3, .int v2]) rfl ?_
    refine j_V.one xa73_M xa73_12 (by decide) (pcJ := 13) (stJ := [.int (3 * (lks - 1)), .int v2]) rfl ?_
    refine j_V.icmp xa73_M xa73_13 (t := 36) rfl (fun c13_0 => ?_) (fun c13_0 => ?_)
    · replace c13_0 : ¬ (v2 < (3 * (lks - 1))) := jd_ge c13_0
      refine j_V.ldL xa73_M xa73_36 rfl (i := 0) (kd := 2) (v := .ref 4) (pcJ := 37) rfl L rfl rfl rfl ?_
      refine j_V.one xa73_M xa73_37 (by decide) (pcJ := 38) (stJ := [.ref 4, .ref 4]) rfl ?_
      refine j_V.getK xa73_M xa73_38 (ci := 7) (j := 15) rfl K rfl rfl ?_
      refine j_V.one xa73_M xa73_41 (by decide) (pcJ := 42) (stJ := [.int 1, .int lks, .ref 4]) rfl ?_
      refine j_V.one xa73_M xa73_42 (by decide) (pcJ := 43) (stJ := [.int (lks - 1), .ref 4]) rfl ?_
      refine j_V.putK xa73_M xa73_43 (ci := 7) (j := 15) (k' := [(4, .inl (7, [.ref 327, .int mi, .int shu, .int bus, .ref 5, .ref 6, .ref 7, .ref 8, .ref 9, .ref 10, .ref 11, .ref 12, .ref 13, .ref 14, .ref 15, .int (lks - 1), .ref 16, .ref 17, .ref 20])), (16, .inr (.inl (0, lkd)))]) rfl K rfl (Nat.le_of_ble_eq_true rfl) rfl (Or.inl rfl) rfl rfl (fun h K => ?_)
      obtain ⟨lks1, elks1⟩ : ∃ z, z = (lks - 1) := ⟨_, rfl⟩
      rw [← elks1] at K
      subst elks1
      refine j_V.ret xa73_M xa73_46 rfl rfl ?_
      rw [show (x_removeLink_l4 v1 0 v2 lks lkd) = _ from (rfl)]
      exact ⟨rfl, K⟩
    · replace c13_0 : v2 < (3 * (lks - 1)) := jd_gen c13_0
      exact absurd c13_0 (lpN_z e)
  | succ f ih =>
    intro v2 lks lkd lv h e L K
    refine j_V.ldL xa73_M xa73_4 rfl (i := 2) (kd := 0) (v := .int v2) (pcJ := 5) rfl L rfl rfl rfl ?_
    refine j_V.one xa73_M xa73_5 (by decide) (pcJ := 6) (stJ := [.int 3, .int v2]) rfl ?_
    refine j_V.ldL xa73_M xa73_6 rfl (i := 0) (kd := 2) (v := .ref 4) (pcJ := 7) rfl L rfl rfl rfl ?_
    refine j_V.getK xa73_M xa73_7 (ci := 7) (j := 15) rfl K rfl rfl ?_
    refine j_V.one xa73_M xa73_10 (by decide) (pcJ := 11) (stJ := [.int 1, .int lks, .int 3, .int v2]) rfl ?_
    refine j_V.one xa73_M xa73_11 (by decide) (pcJ := 12) (stJ := [.int (lks - 1), .int 3, .int v2]) rfl ?_
    refine j_V.one xa73_M xa73_12 (by decide) (pcJ := 13) (stJ := [.int (3 * (lks - 1)), .int v2]) rfl ?_
    refine j_V.icmp xa73_M xa73_13 (t := 36) rfl (fun c13_0 => ?_) (fun c13_0 => ?_)
    · replace c13_0 : ¬ (v2 < (3 * (lks - 1))) := jd_ge c13_0
      exact absurd (lpN_s e) c13_0
    · replace c13_0 : v2 < (3 * (lks - 1)) := jd_gen c13_0
      refine j_V.ldL xa73_M xa73_16 rfl (i := 0) (kd := 2) (v := .ref 4) (pcJ := 17) rfl L rfl rfl rfl ?_
      refine j_V.getK xa73_M xa73_17 (ci := 7) (j := 16) rfl K rfl rfl ?_
      refine j_V.ldL xa73_M xa73_20 rfl (i := 2) (kd := 0) (v := .int v2) (pcJ := 21) rfl L rfl rfl rfl ?_
      refine j_V.ldL xa73_M xa73_21 rfl (i := 0) (kd := 2) (v := .ref 4) (pcJ := 22) rfl L rfl rfl rfl ?_
      refine j_V.getK xa73_M xa73_22 (ci := 7) (j := 16) rfl K rfl rfl ?_
      refine j_V.ldL xa73_M xa73_25 rfl (i := 2) (kd := 0) (v := .int v2) (pcJ := 26) rfl L rfl rfl rfl ?_
      refine j_V.one xa73_M xa73_26 (by decide) (pcJ := 27) (stJ := [.int 3, .int v2, .ref 16, .int v2, .ref 16]) rfl ?_
      refine j_V.one xa73_M xa73_27 (by decide) (pcJ := 28) (stJ := [.int (v2 + 3), .ref 16, .int v2, .ref 16]) rfl ?_
      refine j_V.iaA xa73_M xa73_28 K rfl ?_
      refine j_V.isA xa73_M xa73_29 (k' := [(4, .inl (7, [.ref 327, .int mi, .int shu, .int bus, .ref 5, .ref 6, .ref 7, .ref 8, .ref 9, .ref 10, .ref 11, .ref 12, .ref 13, .ref 14, .ref 15, .int lks, .ref 16, .ref 17, .ref 20])), (16, .inr (.inl (0, (sA lkd v2 (gA lkd (v2 + 3))))))]) K rfl rfl (fun h K => ?_)
      obtain ⟨lkd1, elkd1⟩ : ∃ z, z = (sA lkd v2 (gA lkd (v2 + 3))) := ⟨_, rfl⟩
      rw [← elkd1] at K
      refine j_V.inL xa73_M xa73_30 (i := 2) (kl' := [(0, .ref 4), (1, .int v1), (2, .int (v2 + 1))]) (pcJ := 33) L rfl rfl rfl rfl (fun lv L => ?_)
      refine j_V.gto xa73_M xa73_33 (t := 4) rfl ?_
      subst elkd1
      rw [show (x_removeLink_l4 v1 (f + 1) v2 lks lkd) = _ from (rfl)]
      exact ih _ _ _ (lpN_n e) L K
def x_removeLink (lks : Int32) (lkd : List Int32) (x1 : Int32) : Int32 × List Int32 := (x_removeLink_l4 x1 (lpN (3 * (lks - 1)) (3 * x1)) (3 * x1) lks lkd)
set_option maxRecDepth 1000000 in
theorem xa73_ok {mi : Int32} {shu : Int32} {bus : Int32} {lks : Int32} {lkd : List Int32} {x1 : Int32} {d : Nat} {h h0 : J_H} (K : KN h [(4, .inl (7, [.ref 327, .int mi, .int shu, .int bus, .ref 5, .ref 6, .ref 7, .ref 8, .ref 9, .ref 10, .ref 11, .ref 12, .ref 13, .ref 14, .ref 15, .int lks, .ref 16, .ref 17, .ref 20])), (16, .inr (.inl (0, lkd)))] h0) : j_V jP d 91 0 (lv_args 0 [.ref 4, .int x1]) [] h (fun rv h' => rv = none ∧ KN h' [(4, .inl (7, [.ref 327, .int mi, .int shu, .int bus, .ref 5, .ref 6, .ref 7, .ref 8, .ref 9, .ref 10, .ref 11, .ref 12, .ref 13, .ref 14, .ref 15, .int (x_removeLink lks lkd x1).1, .ref 16, .ref 17, .ref 20])), (16, .inr (.inl (0, (x_removeLink lks lkd x1).2)))] h0) := by
  show j_V jP d 91 0 [(0, .ref 4), (1, .int x1)] [] h _
  obtain ⟨lv, elv, L⟩ : ∃ lv, lv = [(0, .ref 4), (1, .int x1)] ∧ LK lv [(0, .ref 4), (1, .int x1)] := ⟨_, rfl, LK.rf⟩
  rw [← elv]
  clear elv
  refine j_V.one xa73_M xa73_0 (by decide) (pcJ := 1) (stJ := [.int 3]) rfl ?_
  refine j_V.ldL xa73_M xa73_1 rfl (i := 1) (kd := 0) (v := .int x1) (pcJ := 2) rfl L rfl rfl rfl ?_
  refine j_V.one xa73_M xa73_2 (by decide) (pcJ := 3) (stJ := [.int (3 * x1)]) rfl ?_
  refine j_V.stL xa73_M xa73_3 rfl (i := 2) (kd := 0) (kl' := [(0, .ref 4), (1, .int x1), (2, .int (3 * x1))]) (pcJ := 4) rfl L rfl (by decide) rfl rfl rfl (fun lv L => ?_)
  rw [show (x_removeLink lks lkd x1) = _ from (rfl)]
  exact xa73_ok_l4 _ _ _ _ rfl L K
set_option maxRecDepth 100000 in
theorem xa74_M : j_meth jP 92 = some (yX7_advance, cX7_advance, 6, (some .int), 3, false, 7) := rfl
set_option maxRecDepth 100000 in
theorem xa74_0 : j_code jP 92 0 = some (.aload_n 0) := rfl
set_option maxRecDepth 100000 in
theorem xa74_1 : j_code jP 92 1 = some (.getfield 68) := rfl
set_option maxRecDepth 100000 in
theorem xa74_4 : j_code jP 92 4 = some (.iload_n 1) := rfl
set_option maxRecDepth 100000 in
theorem xa74_5 : j_code jP 92 5 = some (.iadd) := rfl
set_option maxRecDepth 100000 in
theorem xa74_6 : j_code jP 92 6 = some (.istore 4) := rfl
set_option maxRecDepth 100000 in
theorem xa74_8 : j_code jP 92 8 = some (.iconst 0) := rfl
set_option maxRecDepth 100000 in
theorem xa74_9 : j_code jP 92 9 = some (.istore 5) := rfl
set_option maxRecDepth 100000 in
theorem xa74_11 : j_code jP 92 11 = some (.iload 5) := rfl
set_option maxRecDepth 100000 in
theorem xa74_13 : j_code jP 92 13 = some (.iload_n 1) := rfl
set_option maxRecDepth 100000 in
theorem xa74_14 : j_code jP 92 14 = some (.if_icmp .ge 70) := rfl
set_option maxRecDepth 100000 in
theorem xa74_17 : j_code jP 92 17 = some (.aload_n 0) := rfl
set_option maxRecDepth 100000 in
theorem xa74_18 : j_code jP 92 18 = some (.getfield 68) := rfl
set_option maxRecDepth 100000 in
theorem xa74_21 : j_code jP 92 21 = some (.iload 4) := rfl
set_option maxRecDepth 100000 in
theorem xa74_23 : j_code jP 92 23 = some (.if_icmp .ge 61) := rfl
set_option maxRecDepth 100000 in
theorem xa74_26 : j_code jP 92 26 = some (.iload_n 3) := rfl
set_option maxRecDepth 100000 in
theorem xa74_27 : j_code jP 92 27 = some (.ifCond .eq 28) := rfl
set_option maxRecDepth 100000 in
theorem xa74_30 : j_code jP 92 30 = some (.aload_n 0) := rfl
set_option maxRecDepth 100000 in
theorem xa74_31 : j_code jP 92 31 = some (.iconst 3) := rfl
set_option maxRecDepth 100000 in
theorem xa74_32 : j_code jP 92 32 = some (.invokevirtual 173) := rfl
set_option maxRecDepth 100000 in
theorem xa74_35 : j_code jP 92 35 = some (.aload_n 0) := rfl
set_option maxRecDepth 100000 in
theorem xa74_36 : j_code jP 92 36 = some (.getfield 64) := rfl
set_option maxRecDepth 100000 in
theorem xa74_39 : j_code jP 92 39 = some (.getfield 102) := rfl
set_option maxRecDepth 100000 in
theorem xa74_42 : j_code jP 92 42 = some (.if_icmp .eq 42) := rfl
set_option maxRecDepth 100000 in
theorem xa74_45 : j_code jP 92 45 = some (.aload_n 0) := rfl
set_option maxRecDepth 100000 in
theorem xa74_46 : j_code jP 92 46 = some (.invokevirtual 176) := rfl
set_option maxRecDepth 100000 in
theorem xa74_49 : j_code jP 92 49 = some (.ifCond .eq 6) := rfl
set_option maxRecDepth 100000 in
theorem xa74_52 : j_code jP 92 52 = some (.goto 32) := rfl
set_option maxRecDepth 100000 in
theorem xa74_55 : j_code jP 92 55 = some (.aload_n 0) := rfl
set_option maxRecDepth 100000 in
theorem xa74_56 : j_code jP 92 56 = some (.iload_n 2) := rfl
set_option maxRecDepth 100000 in
theorem xa74_57 : j_code jP 92 57 = some (.invokevirtual 179) := rfl
set_option maxRecDepth 100000 in
theorem xa74_60 : j_code jP 92 60 = some (.ifCond .ne 18) := rfl
set_option maxRecDepth 100000 in
theorem xa74_63 : j_code jP 92 63 = some (.aload_n 0) := rfl
set_option maxRecDepth 100000 in
theorem xa74_64 : j_code jP 92 64 = some (.aload_n 0) := rfl
set_option maxRecDepth 100000 in
theorem xa74_65 : j_code jP 92 65 = some (.iload 4) := rfl
set_option maxRecDepth 100000 in
theorem xa74_67 : j_code jP 92 67 = some (.invokevirtual 183) := rfl
set_option maxRecDepth 100000 in
theorem xa74_70 : j_code jP 92 70 = some (.aload_n 0) := rfl
set_option maxRecDepth 100000 in
theorem xa74_71 : j_code jP 92 71 = some (.getfield 68) := rfl
set_option maxRecDepth 100000 in
theorem xa74_74 : j_code jP 92 74 = some (.isub) := rfl
set_option maxRecDepth 100000 in
theorem xa74_75 : j_code jP 92 75 = some (.invokevirtual 186) := rfl
set_option maxRecDepth 100000 in
theorem xa74_78 : j_code jP 92 78 = some (.iinc 5 1) := rfl
set_option maxRecDepth 100000 in
theorem xa74_81 : j_code jP 92 81 = some (.goto (-70)) := rfl
set_option maxRecDepth 100000 in
theorem xa74_84 : j_code jP 92 84 = some (.aload_n 0) := rfl
set_option maxRecDepth 100000 in
theorem xa74_85 : j_code jP 92 85 = some (.iconst (-1)) := rfl
set_option maxRecDepth 100000 in
theorem xa74_86 : j_code jP 92 86 = some (.invokevirtual 190) := rfl
set_option maxRecDepth 100000 in
theorem xa74_89 : j_code jP 92 89 = some (.ireturn) := rfl
def x_advance_l11 (shu : Int32) (lks : Int32) (rk : List Int32) (sta : List Int32) (he : List Int32) (lkd : List Int32) (pk : Int32) (nt : Int32) (len : List Int32) (frm : List Int32) (tto : List Int32) (wei : List Int32) (fit : List Int32) (way : List Int32) (rid : List Int32) (lon : List Int32) (v1 : Int32) (v2 : Int32) (v3 : Int32) (v4 : Int32) : Nat → Int32 → List Int32 → List Int32 → Int32 → Int32 → List Int32 → List Int32 → List Int32 → List Int32 → List Int32 → List Int32 → List Int32 → List Int32 → Int32 → List Int32 → List Int32 → Int32 → List Int32 → List Int32 → List Int32 → List Int32 → List Int32 → List Int32 → Int32 × List Int32 × List Int32 × Int32 × Int32 × List Int32 × List Int32 × List Int32 × List Int32 × List Int32 × List Int32 × List Int32 × List Int32 × Int32 × List Int32 × List Int32 × Int32 × List Int32 × List Int32 × List Int32 × List Int32 × List Int32 × List Int32
  | 0, v5, sea, row, rl, bus, ph, sp, ce, du, ri, cm, lf, pfa, pev, prs, prr, mi, us, pms, pmm, pmt, pst, pwa => ((x_price sta ph cm nt tto wei lon (-1)), sea, row, rl, bus, ph, sp, ce, du, ri, cm, lf, pfa, pev, prs, prr, mi, us, pms, pmm, pmt, pst, pwa)
  | f + 1, v5, sea, row, rl, bus, ph, sp, ce, du, ri, cm, lf, pfa, pev, prs, prr, mi, us, pms, pmm, pmt, pst, pwa => (if mi < v4 then (if v3 = 0 then let z1 := (x_passMinute mi shu bus lks rk sta ph sp ce du he ri us cm lf lkd rl row sea pev pk pms pmm pmt pst pwa prs prr pfa nt len frm tto fit way rid v2); (if (z1.1) = 0 then let z3 := (x_endMinutes (z1.2.2.2.2.2.2.2.2.2.2.2.2.2.2.2.2.1) (z1.2.2.2.2.2.1) (z1.2.2.2.2.2.2.1) (z1.2.2.2.2.2.2.2.2.2.1) (z1.2.2.2.2.2.2.2.2.2.2.2.2.2.2.2.2.2.1) pk (z1.2.2.2.2.2.2.2.2.2.2.2.2.2.2.2.2.2.2.1) (z1.2.2.2.2.2.2.2.2.2.2.2.2.2.2.2.2.2.2.2.1) (z1.2.2.2.2.2.2.2.2.2.2.2.2.2.2.2.2.2.2.2.2.1) (z1.2.2.2.2.2.2.2.2.2.2.2.2.2.2.2.2.2.2.2.2.2.1) (z1.2.2.2.2.2.2.2.2.2.2.2.2.2.2.2.2.2.2.2.2.2.2) nt ((x_nextDue (z1.2.2.2.2.2.2.2.2.2.2.2.2.2.2.2.2.1) sta (z1.2.2.2.2.2.1) (z1.2.2.2.2.2.2.2.2.1) he nt v4) - (z1.2.2.2.2.2.2.2.2.2.2.2.2.2.2.2.2.1))); (x_advance_l11 shu lks rk sta he lkd pk nt len frm tto wei fit way rid lon v1 v2 v3 v4 f (v5 + 1) (z1.2.1) (z1.2.2.1) (z1.2.2.2.1) (z1.2.2.2.2.1) (z1.2.2.2.2.2.1) (z1.2.2.2.2.2.2.1) (z1.2.2.2.2.2.2.2.1) (z1.2.2.2.2.2.2.2.2.1) (z1.2.2.2.2.2.2.2.2.2.1) (z1.2.2.2.2.2.2.2.2.2.2.1) (z1.2.2.2.2.2.2.2.2.2.2.2.1) (z1.2.2.2.2.2.2.2.2.2.2.2.2.1) (z1.2.2.2.2.2.2.2.2.2.2.2.2.2.1) (z1.2.2.2.2.2.2.2.2.2.2.2.2.2.2.1) (z1.2.2.2.2.2.2.2.2.2.2.2.2.2.2.2.1) (z3.1) (z3.2.1) (z3.2.2.1) (z3.2.2.2.1) (z3.2.2.2.2.1) (z3.2.2.2.2.2.1) (z3.2.2.2.2.2.2)) else (x_advance_l11 shu lks rk sta he lkd pk nt len frm tto wei fit way rid lon v1 v2 v3 v4 f (v5 + 1) (z1.2.1) (z1.2.2.1) (z1.2.2.2.1) (z1.2.2.2.2.1) (z1.2.2.2.2.2.1) (z1.2.2.2.2.2.2.1) (z1.2.2.2.2.2.2.2.1) (z1.2.2.2.2.2.2.2.2.1) (z1.2.2.2.2.2.2.2.2.2.1) (z1.2.2.2.2.2.2.2.2.2.2.1) (z1.2.2.2.2.2.2.2.2.2.2.2.1) (z1.2.2.2.2.2.2.2.2.2.2.2.2.1) (z1.2.2.2.2.2.2.2.2.2.2.2.2.2.1) (z1.2.2.2.2.2.2.2.2.2.2.2.2.2.2.1) (z1.2.2.2.2.2.2.2.2.2.2.2.2.2.2.2.1) (z1.2.2.2.2.2.2.2.2.2.2.2.2.2.2.2.2.1) (z1.2.2.2.2.2.2.2.2.2.2.2.2.2.2.2.2.2.1) (z1.2.2.2.2.2.2.2.2.2.2.2.2.2.2.2.2.2.2.1) (z1.2.2.2.2.2.2.2.2.2.2.2.2.2.2.2.2.2.2.2.1) (z1.2.2.2.2.2.2.2.2.2.2.2.2.2.2.2.2.2.2.2.2.1) (z1.2.2.2.2.2.2.2.2.2.2.2.2.2.2.2.2.2.2.2.2.2.1) (z1.2.2.2.2.2.2.2.2.2.2.2.2.2.2.2.2.2.2.2.2.2.2))) else (if (x_count ph nt 3) = nt then ((x_price sta ph cm nt tto wei lon (-1)), sea, row, rl, bus, ph, sp, ce, du, ri, cm, lf, pfa, pev, prs, prr, mi, us, pms, pmm, pmt, pst, pwa) else (if (x_isStuck shu bus ph sp ri nt len frm tto fit) = 0 then let z4 := (x_passMinute mi shu bus lks rk sta ph sp ce du he ri us cm lf lkd rl row sea pev pk pms pmm pmt pst pwa prs prr pfa nt len frm tto fit way rid v2); (if (z4.1) = 0 then let z6 := (x_endMinutes (z4.2.2.2.2.2.2.2.2.2.2.2.2.2.2.2.2.1) (z4.2.2.2.2.2.1) (z4.2.2.2.2.2.2.1) (z4.2.2.2.2.2.2.2.2.2.1) (z4.2.2.2.2.2.2.2.2.2.2.2.2.2.2.2.2.2.1) pk (z4.2.2.2.2.2.2.2.2.2.2.2.2.2.2.2.2.2.2.1) (z4.2.2.2.2.2.2.2.2.2.2.2.2.2.2.2.2.2.2.2.1) (z4.2.2.2.2.2.2.2.2.2.2.2.2.2.2.2.2.2.2.2.2.1) (z4.2.2.2.2.2.2.2.2.2.2.2.2.2.2.2.2.2.2.2.2.2.1) (z4.2.2.2.2.2.2.2.2.2.2.2.2.2.2.2.2.2.2.2.2.2.2) nt ((x_nextDue (z4.2.2.2.2.2.2.2.2.2.2.2.2.2.2.2.2.1) sta (z4.2.2.2.2.2.1) (z4.2.2.2.2.2.2.2.2.1) he nt v4) - (z4.2.2.2.2.2.2.2.2.2.2.2.2.2.2.2.2.1))); (x_advance_l11 shu lks rk sta he lkd pk nt len frm tto wei fit way rid lon v1 v2 v3 v4 f (v5 + 1) (z4.2.1) (z4.2.2.1) (z4.2.2.2.1) (z4.2.2.2.2.1) (z4.2.2.2.2.2.1) (z4.2.2.2.2.2.2.1) (z4.2.2.2.2.2.2.2.1) (z4.2.2.2.2.2.2.2.2.1) (z4.2.2.2.2.2.2.2.2.2.1) (z4.2.2.2.2.2.2.2.2.2.2.1) (z4.2.2.2.2.2.2.2.2.2.2.2.1) (z4.2.2.2.2.2.2.2.2.2.2.2.2.1) (z4.2.2.2.2.2.2.2.2.2.2.2.2.2.1) (z4.2.2.2.2.2.2.2.2.2.2.2.2.2.2.1) (z4.2.2.2.2.2.2.2.2.2.2.2.2.2.2.2.1) (z6.1) (z6.2.1) (z6.2.2.1) (z6.2.2.2.1) (z6.2.2.2.2.1) (z6.2.2.2.2.2.1) (z6.2.2.2.2.2.2)) else (x_advance_l11 shu lks rk sta he lkd pk nt len frm tto wei fit way rid lon v1 v2 v3 v4 f (v5 + 1) (z4.2.1) (z4.2.2.1) (z4.2.2.2.1) (z4.2.2.2.2.1) (z4.2.2.2.2.2.1) (z4.2.2.2.2.2.2.1) (z4.2.2.2.2.2.2.2.1) (z4.2.2.2.2.2.2.2.2.1) (z4.2.2.2.2.2.2.2.2.2.1) (z4.2.2.2.2.2.2.2.2.2.2.1) (z4.2.2.2.2.2.2.2.2.2.2.2.1) (z4.2.2.2.2.2.2.2.2.2.2.2.2.1) (z4.2.2.2.2.2.2.2.2.2.2.2.2.2.1) (z4.2.2.2.2.2.2.2.2.2.2.2.2.2.2.1) (z4.2.2.2.2.2.2.2.2.2.2.2.2.2.2.2.1) (z4.2.2.2.2.2.2.2.2.2.2.2.2.2.2.2.2.1) (z4.2.2.2.2.2.2.2.2.2.2.2.2.2.2.2.2.2.1) (z4.2.2.2.2.2.2.2.2.2.2.2.2.2.2.2.2.2.2.1) (z4.2.2.2.2.2.2.2.2.2.2.2.2.2.2.2.2.2.2.2.1) (z4.2.2.2.2.2.2.2.2.2.2.2.2.2.2.2.2.2.2.2.2.1) (z4.2.2.2.2.2.2.2.2.2.2.2.2.2.2.2.2.2.2.2.2.2.1) (z4.2.2.2.2.2.2.2.2.2.2.2.2.2.2.2.2.2.2.2.2.2.2))) else ((x_price sta ph cm nt tto wei lon (-1)), sea, row, rl, bus, ph, sp, ce, du, ri, cm, lf, pfa, pev, prs, prr, mi, us, pms, pmm, pmt, pst, pwa)))) else ((x_price sta ph cm nt tto wei lon (-1)), sea, row, rl, bus, ph, sp, ce, du, ri, cm, lf, pfa, pev, prs, prr, mi, us, pms, pmm, pmt, pst, pwa))
set_option maxRecDepth 1000000 in
theorem xa74_ok_l11 {shu : Int32} {lks : Int32} {rk : List Int32} {sta : List Int32} {he : List Int32} {lkd : List Int32} {pk : Int32} {ns : Int32} {nt : Int32} {cel : Int32} {len : List Int32} {frm : List Int32} {tto : List Int32} {wei : List Int32} {fit : List Int32} {way : List Int32} {rid : List Int32} {lon : List Int32} {v1 v2 v3 v4 : Int32} {d : Nat} {h0 : J_H} : ∀ (f : Nat) (v5 : Int32) (sea : List Int32) (row : List Int32) (rl : Int32) (bus : Int32) (ph : List Int32) (sp : List Int32) (ce : List Int32) (du : List Int32) (ri : List Int32) (cm : List Int32) (lf : List Int32) (pfa : List Int32) (pev : Int32) (prs : List Int32) (prr : List Int32) (mi : Int32) (us : List Int32) (pms : List Int32) (pmm : List Int32) (pmt : List Int32) (pst : List Int32) (pwa : List Int32) {lv : J_L} {h : J_H}, lpN v1 v5 = f → LK lv [(0, .ref 4), (1, .int v1), (2, .int v2), (3, .int v3), (4, .int v4), (5, .int v5)] → KN h [(4, .inl (7, [.ref 327, .int mi, .int shu, .int bus, .ref 5, .ref 6, .ref 7, .ref 8, .ref 9, .ref 10, .ref 11, .ref 12, .ref 13, .ref 14, .ref 15, .int lks, .ref 16, .ref 17, .ref 20])), (5, .inr (.inl (0, rk))), (6, .inr (.inl (0, sta))), (7, .inr (.inl (0, ph))), (8, .inr (.inl (0, sp))), (9, .inr (.inl (0, ce))), (10, .inr (.inl (0, du))), (11, .inr (.inl (0, he))), (12, .inr (.inl (0, ri))), (13, .inr (.inl (0, us))), (14, .inr (.inl (0, cm))), (15, .inr (.inl (0, lf))), (16, .inr (.inl (0, lkd))), (17, .inl (5, [.ref 18, .int rl, .ref 19])), (18, .inr (.inl (0, row))), (19, .inr (.inl (0, sea))), (20, .inl (3, [.ref 21, .ref 22, .ref 23, .ref 24, .ref 25, .ref 26, .ref 27, .ref 28, .int pev, .int pk])), (21, .inr (.inl (0, pms))), (22, .inr (.inl (0, pmm))), (23, .inr (.inl (0, pmt))), (24, .inr (.inl (0, pst))), (25, .inr (.inl (0, pwa))), (26, .inr (.inl (0, prs))), (27, .inr (.inl (0, prr))), (28, .inr (.inl (0, pfa))), (327, .inl (2, [.int ns, .ref 328, .ref 329, .ref 330, .ref 331, .int nt, .ref 332, .ref 333, .ref 334, .ref 335, .ref 336, .ref 337, .ref 338, .int cel, .ref 339, .ref 340, .ref 341, .ref 342])), (331, .inr (.inl (0, len))), (334, .inr (.inl (0, frm))), (335, .inr (.inl (0, tto))), (338, .inr (.inl (0, wei))), (339, .inr (.inl (0, fit))), (340, .inr (.inl (0, way))), (341, .inr (.inl (0, rid))), (342, .inr (.inl (0, lon)))] h0 → j_V jP d 92 11 lv [] h (fun rv h' => rv = some (.int (x_advance_l11 shu lks rk sta he lkd pk nt len frm tto wei fit way rid lon v1 v2 v3 v4 f v5 sea row rl bus ph sp ce du ri cm lf pfa pev prs prr mi us pms pmm pmt pst pwa).1) ∧ KN h' [(4, .inl (7, [.ref 327, .int (x_advance_l11 shu lks rk sta he lkd pk nt len frm tto wei fit way rid lon v1 v2 v3 v4 f v5 sea row rl bus ph sp ce du ri cm lf pfa pev prs prr mi us pms pmm pmt pst pwa).2.2.2.2.2.2.2.2.2.2.2.2.2.2.2.2.1, .int shu, .int (x_advance_l11 shu lks rk sta he lkd pk nt len frm tto wei fit way rid lon v1 v2 v3 v4 f v5 sea row rl bus ph sp ce du ri cm lf pfa pev prs prr mi us pms pmm pmt pst pwa).2.2.2.2.1, .ref 5, .ref 6, .ref 7, .ref 8, .ref 9, .ref 10, .ref 11, .ref 12, .ref 13, .ref 14, .ref 15, .int lks, .ref 16, .ref 17, .ref 20])), (5, .inr (.inl (0, rk))), (6, .inr (.inl (0, sta))), (7, .inr (.inl (0, (x_advance_l11 shu lks rk sta he lkd pk nt len frm tto wei fit way rid lon v1 v2 v3 v4 f v5 sea row rl bus ph sp ce du ri cm lf pfa pev prs prr mi us pms pmm pmt pst pwa).2.2.2.2.2.1))), (8, .inr (.inl (0, (x_advance_l11 shu lks rk sta he lkd pk nt len frm tto wei fit way rid lon v1 v2 v3 v4 f v5 sea row rl bus ph sp ce du ri cm lf pfa pev prs prr mi us pms pmm pmt pst pwa).2.2.2.2.2.2.1))), (9, .inr (.inl (0, (x_advance_l11 shu lks rk sta he lkd pk nt len frm tto wei fit way rid lon v1 v2 v3 v4 f v5 sea row rl bus ph sp ce du ri cm lf pfa pev prs prr mi us pms pmm pmt pst pwa).2.2.2.2.2.2.2.1))), (10, .inr (.inl (0, (x_advance_l11 shu lks rk sta he lkd pk nt len frm tto wei fit way rid lon v1 v2 v3 v4 f v5 sea row rl bus ph sp ce du ri cm lf pfa pev prs prr mi us pms pmm pmt pst pwa).2.2.2.2.2.2.2.2.1))), (11, .inr (.inl (0, he))), (12, .inr (.inl (0, (x_advance_l11 shu lks rk sta he lkd pk nt len frm tto wei fit way rid lon v1 v2 v3 v4 f v5 sea row rl bus ph sp ce du ri cm lf pfa pev prs prr mi us pms pmm pmt pst pwa).2.2.2.2.2.2.2.2.2.1))), (13, .inr (.inl (0, (x_advance_l11 shu lks rk sta he lkd pk nt len frm tto wei fit way rid lon v1 v2 v3 v4 f v5 sea row rl bus ph sp ce du ri cm lf pfa pev prs prr mi us pms pmm pmt pst pwa).2.2.2.2.2.2.2.2.2.2.2.2.2.2.2.2.2.1))), (14, .inr (.inl (0, (x_advance_l11 shu lks rk sta he lkd pk nt len frm tto wei fit way rid lon v1 v2 v3 v4 f v5 sea row rl bus ph sp ce du ri cm lf pfa pev prs prr mi us pms pmm pmt pst pwa).2.2.2.2.2.2.2.2.2.2.1))), (15, .inr (.inl (0, (x_advance_l11 shu lks rk sta he lkd pk nt len frm tto wei fit way rid lon v1 v2 v3 v4 f v5 sea row rl bus ph sp ce du ri cm lf pfa pev prs prr mi us pms pmm pmt pst pwa).2.2.2.2.2.2.2.2.2.2.2.1))), (16, .inr (.inl (0, lkd))), (17, .inl (5, [.ref 18, .int (x_advance_l11 shu lks rk sta he lkd pk nt len frm tto wei fit way rid lon v1 v2 v3 v4 f v5 sea row rl bus ph sp ce du ri cm lf pfa pev prs prr mi us pms pmm pmt pst pwa).2.2.2.1, .ref 19])), (18, .inr (.inl (0, (x_advance_l11 shu lks rk sta he lkd pk nt len frm tto wei fit way rid lon v1 v2 v3 v4 f v5 sea row rl bus ph sp ce du ri cm lf pfa pev prs prr mi us pms pmm pmt pst pwa).2.2.1))), (19, .inr (.inl (0, (x_advance_l11 shu lks rk sta he lkd pk nt len frm tto wei fit way rid lon v1 v2 v3 v4 f v5 sea row rl bus ph sp ce du ri cm lf pfa pev prs prr mi us pms pmm pmt pst pwa).2.1))), (20, .inl (3, [.ref 21, .ref 22, .ref 23, .ref 24, .ref 25, .ref 26, .ref 27, .ref 28, .int (x_advance_l11 shu lks rk sta he lkd pk nt len frm tto wei fit way rid lon v1 v2 v3 v4 f v5 sea row rl bus ph sp ce du ri cm lf pfa pev prs prr mi us pms pmm pmt pst pwa).2.2.2.2.2.2.2.2.2.2.2.2.2.1, .int pk])), (21, .inr (.inl (0, (x_advance_l11 shu lks rk sta he lkd pk nt len frm tto wei fit way rid lon v1 v2 v3 v4 f v5 sea row rl bus ph sp ce du ri cm lf pfa pev prs prr mi us pms pmm pmt pst pwa).2.2.2.2.2.2.2.2.2.2.2.2.2.2.2.2.2.2.1))), (22, .inr (.inl (0, (x_advance_l11 shu lks rk sta he lkd pk nt len frm tto wei fit way rid lon v1 v2 v3 v4 f v5 sea row rl bus ph sp ce du ri cm lf pfa pev prs prr mi us pms pmm pmt pst pwa).2.2.2.2.2.2.2.2.2.2.2.2.2.2.2.2.2.2.2.1))), (23, .inr (.inl (0, (x_advance_l11 shu lks rk sta he lkd pk nt len frm tto wei fit way rid lon v1 v2 v3 v4 f v5 sea row rl bus ph sp ce du ri cm lf pfa pev prs prr mi us pms pmm pmt pst pwa).2.2.2.2.2.2.2.2.2.2.2.2.2.2.2.2.2.2.2.2.1))), (24, .inr (.inl (0, (x_advance_l11 shu lks rk sta he lkd pk nt len frm tto wei fit way rid lon v1 v2 v3 v4 f v5 sea row rl bus ph sp ce du ri cm lf pfa pev prs prr mi us pms pmm pmt pst pwa).2.2.2.2.2.2.2.2.2.2.2.2.2.2.2.2.2.2.2.2.2.1))), (25, .inr (.inl (0, (x_advance_l11 shu lks rk sta he lkd pk nt len frm tto wei fit way rid lon v1 v2 v3 v4 f v5 sea row rl bus ph sp ce du ri cm lf pfa pev prs prr mi us pms pmm pmt pst pwa).2.2.2.2.2.2.2.2.2.2.2.2.2.2.2.2.2.2.2.2.2.2))), (26, .inr (.inl (0, (x_advance_l11 shu lks rk sta he lkd pk nt len frm tto wei fit way rid lon v1 v2 v3 v4 f v5 sea row rl bus ph sp ce du ri cm lf pfa pev prs prr mi us pms pmm pmt pst pwa).2.2.2.2.2.2.2.2.2.2.2.2.2.2.1))), (27, .inr (.inl (0, (x_advance_l11 shu lks rk sta he lkd pk nt len frm tto wei fit way rid lon v1 v2 v3 v4 f v5 sea row rl bus ph sp ce du ri cm lf pfa pev prs prr mi us pms pmm pmt pst pwa).2.2.2.2.2.2.2.2.2.2.2.2.2.2.2.1))), (28, .inr (.inl (0, (x_advance_l11 shu lks rk sta he lkd pk nt len frm tto wei fit way rid lon v1 v2 v3 v4 f v5 sea row rl bus ph sp ce du ri cm lf pfa pev prs prr mi us pms pmm pmt pst pwa).2.2.2.2.2.2.2.2.2.2.2.2.1))), (327, .inl (2, [.int ns, .ref 328, .ref 329, .ref 330, .ref 331, .int nt, .ref 332, .ref 333, .ref 334, .ref 335, .ref 336, .ref 337, .ref 338, .int cel, .ref 339, .ref 340, .ref 341, .ref 342])), (331, .inr (.inl (0, len))), (334, .inr (.inl (0, frm))), (335, .inr (.inl (0, tto))), (338, .inr (.inl (0, wei))), (339, .inr (.inl (0, fit))), (340, .inr (.inl (0, way))), (341, .inr (.inl (0, rid))), (342, .inr (.inl (0, lon)))] h0) := by
  intro f
  induction f with
  | zero =>
    intro v5 sea row rl bus ph sp ce du ri cm lf pfa pev prs prr mi us pms pmm pmt pst pwa lv h e L K
    refine j_V.ldL xa74_M xa74_11 rfl (i := 5) (kd := 0) (v := .int v5) (pcJ := 13) rfl L rfl rfl rfl ?_
    refine j_V.ldL xa74_M xa74_13 rfl (i := 1) (kd := 0) (v := .int v1) (pcJ := 14) rfl L rfl rfl rfl ?_
    refine j_V.icmp xa74_M xa74_14 (t := 84) rfl (fun c14_0 => ?_) (fun c14_0 => ?_)
    · replace c14_0 : ¬ (v5 < v1) := jd_ge c14_0
      refine j_V.ldL xa74_M xa74_84 rfl (i := 0) (kd := 2) (v := .ref 4) (pcJ := 85) rfl L rfl rfl rfl ?_
      refine j_V.one xa74_M xa74_85 (by decide) (pcJ := 86) (stJ := [.int (-1), .ref 4]) rfl ?_
      refine j_V.cl xa74_M xa74_86 rfl (md := 3) (mj := 65) rfl (by decide) xa06_M (As := [.ref 4, .int (-1)]) (rest := []) (jk_spl3 (K.at rfl) rfl rfl rfl (Nat.le_of_ble_eq_true rfl) (Nat.le_of_ble_eq_true rfl)) (fun d => xa06_ok (K.fi [4, 6, 7, 14, 327, 335, 338, 342] rfl rfl)) ?_
      rintro r hz ⟨rfl, ez⟩
      rw [ez]
      clear ez
      show j_V jP _ 92 89 lv [.int (x_price sta ph cm nt tto wei lon (-1))] h _
      refine j_V.ri xa74_M xa74_89 ?_
      rw [show (x_advance_l11 shu lks rk sta he lkd pk nt len frm tto wei fit way rid lon v1 v2 v3 v4 0 v5 sea row rl bus ph sp ce du ri cm lf pfa pev prs prr mi us pms pmm pmt pst pwa) = _ from (rfl)]
      exact ⟨rfl, K⟩
    · replace c14_0 : v5 < v1 := jd_gen c14_0
      exact absurd c14_0 (lpN_z e)
  | succ f ih =>
    intro v5 sea row rl bus ph sp ce du ri cm lf pfa pev prs prr mi us pms pmm pmt pst pwa lv h e L K
    refine j_V.ldL xa74_M xa74_11 rfl (i := 5) (kd := 0) (v := .int v5) (pcJ := 13) rfl L rfl rfl rfl ?_
    refine j_V.ldL xa74_M xa74_13 rfl (i := 1) (kd := 0) (v := .int v1) (pcJ := 14) rfl L rfl rfl rfl ?_
    refine j_V.icmp xa74_M xa74_14 (t := 84) rfl (fun c14_0 => ?_) (fun c14_0 => ?_)
    · replace c14_0 : ¬ (v5 < v1) := jd_ge c14_0
      exact absurd (lpN_s e) c14_0
    · replace c14_0 : v5 < v1 := jd_gen c14_0
      refine j_V.ldL xa74_M xa74_17 rfl (i := 0) (kd := 2) (v := .ref 4) (pcJ := 18) rfl L rfl rfl rfl ?_
      refine j_V.getK xa74_M xa74_18 (ci := 7) (j := 1) rfl K rfl rfl ?_
      refine j_V.ldL xa74_M xa74_21 rfl (i := 4) (kd := 0) (v := .int v4) (pcJ := 23) rfl L rfl rfl rfl ?_
      refine j_V.icmp xa74_M xa74_23 (t := 84) rfl (fun c23_0 => ?_) (fun c23_0 => ?_)
      · replace c23_0 : ¬ (mi < v4) := jd_ge c23_0
        refine j_V.ldL xa74_M xa74_84 rfl (i := 0) (kd := 2) (v := .ref 4) (pcJ := 85) rfl L rfl rfl rfl ?_
        refine j_V.one xa74_M xa74_85 (by decide) (pcJ := 86) (stJ := [.int (-1), .ref 4]) rfl ?_
        refine j_V.cl xa74_M xa74_86 rfl (md := 3) (mj := 65) rfl (by decide) xa06_M (As := [.ref 4, .int (-1)]) (rest := []) (jk_spl3 (K.at rfl) rfl rfl rfl (Nat.le_of_ble_eq_true rfl) (Nat.le_of_ble_eq_true rfl)) (fun d => xa06_ok (K.fi [4, 6, 7, 14, 327, 335, 338, 342] rfl rfl)) ?_
        rintro r hz ⟨rfl, ez⟩
        rw [ez]
        clear ez
        show j_V jP _ 92 89 lv [.int (x_price sta ph cm nt tto wei lon (-1))] h _
        refine j_V.ri xa74_M xa74_89 ?_
        rw [show (x_advance_l11 shu lks rk sta he lkd pk nt len frm tto wei fit way rid lon v1 v2 v3 v4 (f + 1) v5 sea row rl bus ph sp ce du ri cm lf pfa pev prs prr mi us pms pmm pmt pst pwa) = _ from ((if_neg c23_0).trans (rfl))]
        exact ⟨rfl, K⟩
      · replace c23_0 : mi < v4 := jd_gen c23_0
        refine j_V.ldL xa74_M xa74_26 rfl (i := 3) (kd := 0) (v := .int v3) (pcJ := 27) rfl L rfl rfl rfl ?_
        refine j_V.ifc xa74_M xa74_27 (t := 55) rfl (fun c27_1 => ?_) (fun c27_1 => ?_)
        · replace c27_1 : v3 = 0 := jd_eq c27_1
          refine j_V.ldL xa74_M xa74_55 rfl (i := 0) (kd := 2) (v := .ref 4) (pcJ := 56) rfl L rfl rfl rfl ?_
          refine j_V.ldL xa74_M xa74_56 rfl (i := 2) (kd := 0) (v := .int v2) (pcJ := 57) rfl L rfl rfl rfl ?_
          refine j_V.cl xa74_M xa74_57 rfl (md := 3) (mj := 93) rfl (by decide) xa44_M (As := [.ref 4, .int v2]) (rest := []) (jk_spl3 (K.at rfl) rfl rfl rfl (Nat.le_of_ble_eq_true rfl) (Nat.le_of_ble_eq_true rfl)) (fun d => xa44_ok (K.fi [4, 5, 6, 7, 8, 9, 10, 11, 12, 13, 14, 15, 16, 17, 18, 19, 20, 21, 22, 23, 24, 25, 26, 27, 28, 327, 331, 334, 335, 339, 340, 341] rfl rfl)) ?_
          rintro r h9 ⟨rfl, K9⟩
          generalize ez1 : (x_passMinute mi shu bus lks rk sta ph sp ce du he ri us cm lf lkd rl row sea pev pk pms pmm pmt pst pwa prs prr pfa nt len frm tto fit way rid v2) = z1 at K9 ⊢
          have K : KN h9 [(4, .inl (7, [.ref 327, .int (z1.2.2.2.2.2.2.2.2.2.2.2.2.2.2.2.2.1), .int shu, .int (z1.2.2.2.2.1), .ref 5, .ref 6, .ref 7, .ref 8, .ref 9, .ref 10, .ref 11, .ref 12, .ref 13, .ref 14, .ref 15, .int lks, .ref 16, .ref 17, .ref 20])), (5, .inr (.inl (0, rk))), (6, .inr (.inl (0, sta))), (7, .inr (.inl (0, (z1.2.2.2.2.2.1)))), (8, .inr (.inl (0, (z1.2.2.2.2.2.2.1)))), (9, .inr (.inl (0, (z1.2.2.2.2.2.2.2.1)))), (10, .inr (.inl (0, (z1.2.2.2.2.2.2.2.2.1)))), (11, .inr (.inl (0, he))), (12, .inr (.inl (0, (z1.2.2.2.2.2.2.2.2.2.1)))), (13, .inr (.inl (0, (z1.2.2.2.2.2.2.2.2.2.2.2.2.2.2.2.2.2.1)))), (14, .inr (.inl (0, (z1.2.2.2.2.2.2.2.2.2.2.1)))), (15, .inr (.inl (0, (z1.2.2.2.2.2.2.2.2.2.2.2.1)))), (16, .inr (.inl (0, lkd))), (17, .inl (5, [.ref 18, .int (z1.2.2.2.1), .ref 19])), (18, .inr (.inl (0, (z1.2.2.1)))), (19, .inr (.inl (0, (z1.2.1)))), (20, .inl (3, [.ref 21, .ref 22, .ref 23, .ref 24, .ref 25, .ref 26, .ref 27, .ref 28, .int (z1.2.2.2.2.2.2.2.2.2.2.2.2.2.1), .int pk])), (21, .inr (.inl (0, (z1.2.2.2.2.2.2.2.2.2.2.2.2.2.2.2.2.2.2.1)))), (22, .inr (.inl (0, (z1.2.2.2.2.2.2.2.2.2.2.2.2.2.2.2.2.2.2.2.1)))), (23, .inr (.inl (0, (z1.2.2.2.2.2.2.2.2.2.2.2.2.2.2.2.2.2.2.2.2.1)))), (24, .inr (.inl (0, (z1.2.2.2.2.2.2.2.2.2.2.2.2.2.2.2.2.2.2.2.2.2.1)))), (25, .inr (.inl (0, (z1.2.2.2.2.2.2.2.2.2.2.2.2.2.2.2.2.2.2.2.2.2.2)))), (26, .inr (.inl (0, (z1.2.2.2.2.2.2.2.2.2.2.2.2.2.2.1)))), (27, .inr (.inl (0, (z1.2.2.2.2.2.2.2.2.2.2.2.2.2.2.2.1)))), (28, .inr (.inl (0, (z1.2.2.2.2.2.2.2.2.2.2.2.2.1)))), (327, .inl (2, [.int ns, .ref 328, .ref 329, .ref 330, .ref 331, .int nt, .ref 332, .ref 333, .ref 334, .ref 335, .ref 336, .ref 337, .ref 338, .int cel, .ref 339, .ref 340, .ref 341, .ref 342])), (331, .inr (.inl (0, len))), (334, .inr (.inl (0, frm))), (335, .inr (.inl (0, tto))), (338, .inr (.inl (0, wei))), (339, .inr (.inl (0, fit))), (340, .inr (.inl (0, way))), (341, .inr (.inl (0, rid))), (342, .inr (.inl (0, lon)))] h0 := K.mg K9 rfl rfl
          clear K9
          show j_V jP _ 92 60 lv [.int (z1.1)] h9 _
          refine j_V.ifc xa74_M xa74_60 (t := 78) rfl (fun c60_2 => ?_) (fun c60_2 => ?_)
          · replace c60_2 : ¬ ((z1.1) = 0) := jd_ne c60_2
            refine j_V.inL xa74_M xa74_78 (i := 5) (kl' := [(0, .ref 4), (1, .int v1), (2, .int v2), (3, .int v3), (4, .int v4), (5, .int (v5 + 1))]) (pcJ := 81) L rfl rfl rfl rfl (fun lv L => ?_)
            refine j_V.gto xa74_M xa74_81 (t := 11) rfl ?_
            subst ez1
            rw [show (x_advance_l11 shu lks rk sta he lkd pk nt len frm tto wei fit way rid lon v1 v2 v3 v4 (f + 1) v5 sea row rl bus ph sp ce du ri cm lf pfa pev prs prr mi us pms pmm pmt pst pwa) = _ from ((if_pos c23_0).trans ((if_pos c27_1).trans ((if_neg c60_2).trans (rfl))))]
            exact ih _ _ _ _ _ _ _ _ _ _ _ _ _ _ _ _ _ _ _ _ _ _ _ (lpN_n e) L K
          · replace c60_2 : (z1.1) = 0 := jd_nen c60_2
            refine j_V.ldL xa74_M xa74_63 rfl (i := 0) (kd := 2) (v := .ref 4) (pcJ := 64) rfl L rfl rfl rfl ?_
            refine j_V.ldL xa74_M xa74_64 rfl (i := 0) (kd := 2) (v := .ref 4) (pcJ := 65) rfl L rfl rfl rfl ?_
            refine j_V.ldL xa74_M xa74_65 rfl (i := 4) (kd := 0) (v := .int v4) (pcJ := 67) rfl L rfl rfl rfl ?_
            refine j_V.cl xa74_M xa74_67 rfl (md := 3) (mj := 94) rfl (by decide) xa26_M (As := [.ref 4, .int v4]) (rest := [.ref 4]) (jk_spl3 (K.at rfl) rfl rfl rfl (Nat.le_of_ble_eq_true rfl) (Nat.le_of_ble_eq_true rfl)) (fun d => xa26_ok (K.fi [4, 6, 7, 10, 11, 327] rfl rfl)) ?_
            rintro r hz ⟨rfl, ez⟩
            rw [ez]
            clear ez
            show j_V jP _ 92 70 lv [.int (x_nextDue (z1.2.2.2.2.2.2.2.2.2.2.2.2.2.2.2.2.1) sta (z1.2.2.2.2.2.1) (z1.2.2.2.2.2.2.2.2.1) he nt v4), .ref 4] h9 _
            refine j_V.ldL xa74_M xa74_70 rfl (i := 0) (kd := 2) (v := .ref 4) (pcJ := 71) rfl L rfl rfl rfl ?_
            refine j_V.getK xa74_M xa74_71 (ci := 7) (j := 1) rfl K rfl rfl ?_
            refine j_V.one xa74_M xa74_74 (by decide) (pcJ := 75) (stJ := [.int ((x_nextDue (z1.2.2.2.2.2.2.2.2.2.2.2.2.2.2.2.2.1) sta (z1.2.2.2.2.2.1) (z1.2.2.2.2.2.2.2.2.1) he nt v4) - (z1.2.2.2.2.2.2.2.2.2.2.2.2.2.2.2.2.1)), .ref 4]) rfl ?_
            refine j_V.cl xa74_M xa74_75 rfl (md := 3) (mj := 95) rfl (by decide) xa39_M (As := [.ref 4, .int ((x_nextDue (z1.2.2.2.2.2.2.2.2.2.2.2.2.2.2.2.2.1) sta (z1.2.2.2.2.2.1) (z1.2.2.2.2.2.2.2.2.1) he nt v4) - (z1.2.2.2.2.2.2.2.2.2.2.2.2.2.2.2.2.1))]) (rest := []) (jk_spl3 (K.at rfl) rfl rfl rfl (Nat.le_of_ble_eq_true rfl) (Nat.le_of_ble_eq_true rfl)) (fun d => xa39_ok (K.fi [4, 7, 8, 12, 13, 20, 21, 22, 23, 24, 25, 327] rfl rfl)) ?_
            rintro r h9 ⟨rfl, K9⟩
            generalize ez3 : (x_endMinutes (z1.2.2.2.2.2.2.2.2.2.2.2.2.2.2.2.2.1) (z1.2.2.2.2.2.1) (z1.2.2.2.2.2.2.1) (z1.2.2.2.2.2.2.2.2.2.1) (z1.2.2.2.2.2.2.2.2.2.2.2.2.2.2.2.2.2.1) pk (z1.2.2.2.2.2.2.2.2.2.2.2.2.2.2.2.2.2.2.1) (z1.2.2.2.2.2.2.2.2.2.2.2.2.2.2.2.2.2.2.2.1) (z1.2.2.2.2.2.2.2.2.2.2.2.2.2.2.2.2.2.2.2.2.1) (z1.2.2.2.2.2.2.2.2.2.2.2.2.2.2.2.2.2.2.2.2.2.1) (z1.2.2.2.2.2.2.2.2.2.2.2.2.2.2.2.2.2.2.2.2.2.2) nt ((x_nextDue (z1.2.2.2.2.2.2.2.2.2.2.2.2.2.2.2.2.1) sta (z1.2.2.2.2.2.1) (z1.2.2.2.2.2.2.2.2.1) he nt v4) - (z1.2.2.2.2.2.2.2.2.2.2.2.2.2.2.2.2.1))) = z3 at K9 ⊢
            have K : KN h9 [(4, .inl (7, [.ref 327, .int (z3.1), .int shu, .int (z1.2.2.2.2.1), .ref 5, .ref 6, .ref 7, .ref 8, .ref 9, .ref 10, .ref 11, .ref 12, .ref 13, .ref 14, .ref 15, .int lks, .ref 16, .ref 17, .ref 20])), (5, .inr (.inl (0, rk))), (6, .inr (.inl (0, sta))), (7, .inr (.inl (0, (z1.2.2.2.2.2.1)))), (8, .inr (.inl (0, (z1.2.2.2.2.2.2.1)))), (9, .inr (.inl (0, (z1.2.2.2.2.2.2.2.1)))), (10, .inr (.inl (0, (z1.2.2.2.2.2.2.2.2.1)))), (11, .inr (.inl (0, he))), (12, .inr (.inl (0, (z1.2.2.2.2.2.2.2.2.2.1)))), (13, .inr (.inl (0, (z3.2.1)))), (14, .inr (.inl (0, (z1.2.2.2.2.2.2.2.2.2.2.1)))), (15, .inr (.inl (0, (z1.2.2.2.2.2.2.2.2.2.2.2.1)))), (16, .inr (.inl (0, lkd))), (17, .inl (5, [.ref 18, .int (z1.2.2.2.1), .ref 19])), (18, .inr (.inl (0, (z1.2.2.1)))), (19, .inr (.inl (0, (z1.2.1)))), (20, .inl (3, [.ref 21, .ref 22, .ref 23, .ref 24, .ref 25, .ref 26, .ref 27, .ref 28, .int (z1.2.2.2.2.2.2.2.2.2.2.2.2.2.1), .int pk])), (21, .inr (.inl (0, (z3.2.2.1)))), (22, .inr (.inl (0, (z3.2.2.2.1)))), (23, .inr (.inl (0, (z3.2.2.2.2.1)))), (24, .inr (.inl (0, (z3.2.2.2.2.2.1)))), (25, .inr (.inl (0, (z3.2.2.2.2.2.2)))), (26, .inr (.inl (0, (z1.2.2.2.2.2.2.2.2.2.2.2.2.2.2.1)))), (27, .inr (.inl (0, (z1.2.2.2.2.2.2.2.2.2.2.2.2.2.2.2.1)))), (28, .inr (.inl (0, (z1.2.2.2.2.2.2.2.2.2.2.2.2.1)))), (327, .inl (2, [.int ns, .ref 328, .ref 329, .ref 330, .ref 331, .int nt, .ref 332, .ref 333, .ref 334, .ref 335, .ref 336, .ref 337, .ref 338, .int cel, .ref 339, .ref 340, .ref 341, .ref 342])), (331, .inr (.inl (0, len))), (334, .inr (.inl (0, frm))), (335, .inr (.inl (0, tto))), (338, .inr (.inl (0, wei))), (339, .inr (.inl (0, fit))), (340, .inr (.inl (0, way))), (341, .inr (.inl (0, rid))), (342, .inr (.inl (0, lon)))] h0 := K.mg K9 rfl rfl
            clear K9
            show j_V jP _ 92 78 lv [] h9 _
            refine j_V.inL xa74_M xa74_78 (i := 5) (kl' := [(0, .ref 4), (1, .int v1), (2, .int v2), (3, .int v3), (4, .int v4), (5, .int (v5 + 1))]) (pcJ := 81) L rfl rfl rfl rfl (fun lv L => ?_)
            refine j_V.gto xa74_M xa74_81 (t := 11) rfl ?_
            subst ez3
            subst ez1
            rw [show (x_advance_l11 shu lks rk sta he lkd pk nt len frm tto wei fit way rid lon v1 v2 v3 v4 (f + 1) v5 sea row rl bus ph sp ce du ri cm lf pfa pev prs prr mi us pms pmm pmt pst pwa) = _ from ((if_pos c23_0).trans ((if_pos c27_1).trans ((if_pos c60_2).trans (rfl))))]
            exact ih _ _ _ _ _ _ _ _ _ _ _ _ _ _ _ _ _ _ _ _ _ _ _ (lpN_n e) L K
        · replace c27_1 : ¬ (v3 = 0) := jd_eqn c27_1
          refine j_V.ldL xa74_M xa74_30 rfl (i := 0) (kd := 2) (v := .ref 4) (pcJ := 31) rfl L rfl rfl rfl ?_
          refine j_V.one xa74_M xa74_31 (by decide) (pcJ := 32) (stJ := [.int 3, .ref 4]) rfl ?_
          refine j_V.cl xa74_M xa74_32 rfl (md := 3) (mj := 62) rfl (by decide) xa03_M (As := [.ref 4, .int 3]) (rest := []) (jk_spl3 (K.at rfl) rfl rfl rfl (Nat.le_of_ble_eq_true rfl) (Nat.le_of_ble_eq_true rfl)) (fun d => xa03_ok (K.fi [4, 7, 327] rfl rfl)) ?_
          rintro r hz ⟨rfl, ez⟩
          rw [ez]
          clear ez
          show j_V jP _ 92 35 lv [.int (x_count ph nt 3)] h _
          refine j_V.ldL xa74_M xa74_35 rfl (i := 0) (kd := 2) (v := .ref 4) (pcJ := 36) rfl L rfl rfl rfl ?_
          refine j_V.getK xa74_M xa74_36 (ci := 7) (j := 0) rfl K rfl rfl ?_
          refine j_V.getK xa74_M xa74_39 (ci := 2) (j := 5) rfl K rfl rfl ?_
          refine j_V.icmp xa74_M xa74_42 (t := 84) rfl (fun c42_2 => ?_) (fun c42_2 => ?_)
          · replace c42_2 : (x_count ph nt 3) = nt := jd_eq c42_2
            refine j_V.ldL xa74_M xa74_84 rfl (i := 0) (kd := 2) (v := .ref 4) (pcJ := 85) rfl L rfl rfl rfl ?_
            refine j_V.one xa74_M xa74_85 (by decide) (pcJ := 86) (stJ := [.int (-1), .ref 4]) rfl ?_
            refine j_V.cl xa74_M xa74_86 rfl (md := 3) (mj := 65) rfl (by decide) xa06_M (As := [.ref 4, .int (-1)]) (rest := []) (jk_spl3 (K.at rfl) rfl rfl rfl (Nat.le_of_ble_eq_true rfl) (Nat.le_of_ble_eq_true rfl)) (fun d => xa06_ok (K.fi [4, 6, 7, 14, 327, 335, 338, 342] rfl rfl)) ?_
            rintro r hz ⟨rfl, ez⟩
            rw [ez]
            clear ez
            show j_V jP _ 92 89 lv [.int (x_price sta ph cm nt tto wei lon (-1))] h _
            refine j_V.ri xa74_M xa74_89 ?_
            rw [show (x_advance_l11 shu lks rk sta he lkd pk nt len frm tto wei fit way rid lon v1 v2 v3 v4 (f + 1) v5 sea row rl bus ph sp ce du ri cm lf pfa pev prs prr mi us pms pmm pmt pst pwa) = _ from ((if_pos c23_0).trans ((if_neg c27_1).trans ((if_pos c42_2).trans (rfl))))]
            exact ⟨rfl, K⟩
          · replace c42_2 : ¬ ((x_count ph nt 3) = nt) := jd_eqn c42_2
            refine j_V.ldL xa74_M xa74_45 rfl (i := 0) (kd := 2) (v := .ref 4) (pcJ := 46) rfl L rfl rfl rfl ?_
            refine j_V.cl xa74_M xa74_46 rfl (md := 3) (mj := 78) rfl (by decide) xa21_M (As := [.ref 4]) (rest := []) (jk_spl3 (K.at rfl) rfl rfl rfl (Nat.le_of_ble_eq_true rfl) (Nat.le_of_ble_eq_true rfl)) (fun d => xa21_ok (K.fi [4, 7, 8, 12, 327, 331, 334, 335, 339] rfl rfl)) ?_
            rintro r hz ⟨rfl, ez⟩
            rw [ez]
            clear ez
            show j_V jP _ 92 49 lv [.int (x_isStuck shu bus ph sp ri nt len frm tto fit)] h _
            refine j_V.ifc xa74_M xa74_49 (t := 55) rfl (fun c49_3 => ?_) (fun c49_3 => ?_)
            · replace c49_3 : (x_isStuck shu bus ph sp ri nt len frm tto fit) = 0 := jd_eq c49_3
              refine j_V.ldL xa74_M xa74_55 rfl (i := 0) (kd := 2) (v := .ref 4) (pcJ := 56) rfl L rfl rfl rfl ?_
              refine j_V.ldL xa74_M xa74_56 rfl (i := 2) (kd := 0) (v := .int v2) (pcJ := 57) rfl L rfl rfl rfl ?_
              refine j_V.cl xa74_M xa74_57 rfl (md := 3) (mj := 93) rfl (by decide) xa44_M (As := [.ref 4, .int v2]) (rest := []) (jk_spl3 (K.at rfl) rfl rfl rfl (Nat.le_of_ble_eq_true rfl) (Nat.le_of_ble_eq_true rfl)) (fun d => xa44_ok (K.fi [4, 5, 6, 7, 8, 9, 10, 11, 12, 13, 14, 15, 16, 17, 18, 19, 20, 21, 22, 23, 24, 25, 26, 27, 28, 327, 331, 334, 335, 339, 340, 341] rfl rfl)) ?_
              rintro r h9 ⟨rfl, K9⟩
              generalize ez4 : (x_passMinute mi shu bus lks rk sta ph sp ce du he ri us cm lf lkd rl row sea pev pk pms pmm pmt pst pwa prs prr pfa nt len frm tto fit way rid v2) = z4 at K9 ⊢
              have K : KN h9 [(4, .inl (7, [.ref 327, .int (z4.2.2.2.2.2.2.2.2.2.2.2.2.2.2.2.2.1), .int shu, .int (z4.2.2.2.2.1), .ref 5, .ref 6, .ref 7, .ref 8, .ref 9, .ref 10, .ref 11, .ref 12, .ref 13, .ref 14, .ref 15, .int lks, .ref 16, .ref 17, .ref 20])), (5, .inr (.inl (0, rk))), (6, .inr (.inl (0, sta))), (7, .inr (.inl (0, (z4.2.2.2.2.2.1)))), (8, .inr (.inl (0, (z4.2.2.2.2.2.2.1)))), (9, .inr (.inl (0, (z4.2.2.2.2.2.2.2.1)))), (10, .inr (.inl (0, (z4.2.2.2.2.2.2.2.2.1)))), (11, .inr (.inl (0, he))), (12, .inr (.inl (0, (z4.2.2.2.2.2.2.2.2.2.1)))), (13, .inr (.inl (0, (z4.2.2.2.2.2.2.2.2.2.2.2.2.2.2.2.2.2.1)))), (14, .inr (.inl (0, (z4.2.2.2.2.2.2.2.2.2.2.1)))), (15, .inr (.inl (0, (z4.2.2.2.2.2.2.2.2.2.2.2.1)))), (16, .inr (.inl (0, lkd))), (17, .inl (5, [.ref 18, .int (z4.2.2.2.1), .ref 19])), (18, .inr (.inl (0, (z4.2.2.1)))), (19, .inr (.inl (0, (z4.2.1)))), (20, .inl (3, [.ref 21, .ref 22, .ref 23, .ref 24, .ref 25, .ref 26, .ref 27, .ref 28, .int (z4.2.2.2.2.2.2.2.2.2.2.2.2.2.1), .int pk])), (21, .inr (.inl (0, (z4.2.2.2.2.2.2.2.2.2.2.2.2.2.2.2.2.2.2.1)))), (22, .inr (.inl (0, (z4.2.2.2.2.2.2.2.2.2.2.2.2.2.2.2.2.2.2.2.1)))), (23, .inr (.inl (0, (z4.2.2.2.2.2.2.2.2.2.2.2.2.2.2.2.2.2.2.2.2.1)))), (24, .inr (.inl (0, (z4.2.2.2.2.2.2.2.2.2.2.2.2.2.2.2.2.2.2.2.2.2.1)))), (25, .inr (.inl (0, (z4.2.2.2.2.2.2.2.2.2.2.2.2.2.2.2.2.2.2.2.2.2.2)))), (26, .inr (.inl (0, (z4.2.2.2.2.2.2.2.2.2.2.2.2.2.2.1)))), (27, .inr (.inl (0, (z4.2.2.2.2.2.2.2.2.2.2.2.2.2.2.2.1)))), (28, .inr (.inl (0, (z4.2.2.2.2.2.2.2.2.2.2.2.2.1)))), (327, .inl (2, [.int ns, .ref 328, .ref 329, .ref 330, .ref 331, .int nt, .ref 332, .ref 333, .ref 334, .ref 335, .ref 336, .ref 337, .ref 338, .int cel, .ref 339, .ref 340, .ref 341, .ref 342])), (331, .inr (.inl (0, len))), (334, .inr (.inl (0, frm))), (335, .inr (.inl (0, tto))), (338, .inr (.inl (0, wei))), (339, .inr (.inl (0, fit))), (340, .inr (.inl (0, way))), (341, .inr (.inl (0, rid))), (342, .inr (.inl (0, lon)))] h0 := K.mg K9 rfl rfl
              clear K9
              show j_V jP _ 92 60 lv [.int (z4.1)] h9 _
              refine j_V.ifc xa74_M xa74_60 (t := 78) rfl (fun c60_4 => ?_) (fun c60_4 => ?_)
              · replace c60_4 : ¬ ((z4.1) = 0) := jd_ne c60_4
                refine j_V.inL xa74_M xa74_78 (i := 5) (kl' := [(0, .ref 4), (1, .int v1), (2, .int v2), (3, .int v3), (4, .int v4), (5, .int (v5 + 1))]) (pcJ := 81) L rfl rfl rfl rfl (fun lv L => ?_)
                refine j_V.gto xa74_M xa74_81 (t := 11) rfl ?_
                subst ez4
                rw [show (x_advance_l11 shu lks rk sta he lkd pk nt len frm tto wei fit way rid lon v1 v2 v3 v4 (f + 1) v5 sea row rl bus ph sp ce du ri cm lf pfa pev prs prr mi us pms pmm pmt pst pwa) = _ from ((if_pos c23_0).trans ((if_neg c27_1).trans ((if_neg c42_2).trans ((if_pos c49_3).trans ((if_neg c60_4).trans (rfl))))))]
                exact ih _ _ _ _ _ _ _ _ _ _ _ _ _ _ _ _ _ _ _ _ _ _ _ (lpN_n e) L K
              · replace c60_4 : (z4.1) = 0 := jd_nen c60_4
                refine j_V.ldL xa74_M xa74_63 rfl (i := 0) (kd := 2) (v := .ref 4) (pcJ := 64) rfl L rfl rfl rfl ?_
                refine j_V.ldL xa74_M xa74_64 rfl (i := 0) (kd := 2) (v := .ref 4) (pcJ := 65) rfl L rfl rfl rfl ?_
                refine j_V.ldL xa74_M xa74_65 rfl (i := 4) (kd := 0) (v := .int v4) (pcJ := 67) rfl L rfl rfl rfl ?_
                refine j_V.cl xa74_M xa74_67 rfl (md := 3) (mj := 94) rfl (by decide) xa26_M (As := [.ref 4, .int v4]) (rest := [.ref 4]) (jk_spl3 (K.at rfl) rfl rfl rfl (Nat.le_of_ble_eq_true rfl) (Nat.le_of_ble_eq_true rfl)) (fun d => xa26_ok (K.fi [4, 6, 7, 10, 11, 327] rfl rfl)) ?_
                rintro r hz ⟨rfl, ez⟩
                rw [ez]
                clear ez
                show j_V jP _ 92 70 lv [.int (x_nextDue (z4.2.2.2.2.2.2.2.2.2.2.2.2.2.2.2.2.1) sta (z4.2.2.2.2.2.1) (z4.2.2.2.2.2.2.2.2.1) he nt v4), .ref 4] h9 _
                refine j_V.ldL xa74_M xa74_70 rfl (i := 0) (kd := 2) (v := .ref 4) (pcJ := 71) rfl L rfl rfl rfl ?_
                refine j_V.getK xa74_M xa74_71 (ci := 7) (j := 1) rfl K rfl rfl ?_
                refine j_V.one xa74_M xa74_74 (by decide) (pcJ := 75) (stJ := [.int ((x_nextDue (z4.2.2.2.2.2.2.2.2.2.2.2.2.2.2.2.2.1) sta (z4.2.2.2.2.2.1) (z4.2.2.2.2.2.2.2.2.1) he nt v4) - (z4.2.2.2.2.2.2.2.2.2.2.2.2.2.2.2.2.1)), .ref 4]) rfl ?_
                refine j_V.cl xa74_M xa74_75 rfl (md := 3) (mj := 95) rfl (by decide) xa39_M (As := [.ref 4, .int ((x_nextDue (z4.2.2.2.2.2.2.2.2.2.2.2.2.2.2.2.2.1) sta (z4.2.2.2.2.2.1) (z4.2.2.2.2.2.2.2.2.1) he nt v4) - (z4.2.2.2.2.2.2.2.2.2.2.2.2.2.2.2.2.1))]) (rest := []) (jk_spl3 (K.at rfl) rfl rfl rfl (Nat.le_of_ble_eq_true rfl) (Nat.le_of_ble_eq_true rfl)) (fun d => xa39_ok (K.fi [4, 7, 8, 12, 13, 20, 21, 22, 23, 24, 25, 327] rfl rfl)) ?_
                rintro r h9 ⟨rfl, K9⟩
                generalize ez6 : (x_endMinutes (z4.2.2.2.2.2.2.2.2.2.2.2.2.2.2.2.2.1) (z4.2.2.2.2.2.1) (z4.2.2.2.2.2.2.1) (z4.2.2.2.2.2.2.2.2.2.1) (z4.2.2.2.2.2.2.2.2.2.2.2.2.2.2.2.2.2.1) pk (z4.2.2.2.2.2.2.2.2.2.2.2.2.2.2.2.2.2.2.1) (z4.2.2.2.2.2.2.2.2.2.2.2.2.2.2.2.2.2.2.2.1) (z4.2.2.2.2.2.2.2.2.2.2.2.2.2.2.2.2.2.2.2.2.1) (z4.2.2.2.2.2.2.2.2.2.2.2.2.2.2.2.2.2.2.2.2.2.1) (z4.2.2.2.2.2.2.2.2.2.2.2.2.2.2.2.2.2.2.2.2.2.2) nt ((x_nextDue (z4.2.2.2.2.2.2.2.2.2.2.2.2.2.2.2.2.1) sta (z4.2.2.2.2.2.1) (z4.2.2.2.2.2.2.2.2.1) he nt v4) - (z4.2.2.2.2.2.2.2.2.2.2.2.2.2.2.2.2.1))) = z6 at K9 ⊢
                have K : KN h9 [(4, .inl (7, [.ref 327, .int (z6.1), .int shu, .int (z4.2.2.2.2.1), .ref 5, .ref 6, .ref 7, .ref 8, .ref 9, .ref 10, .ref 11, .ref 12, .ref 13, .ref 14, .ref 15, .int lks, .ref 16, .ref 17, .ref 20])), (5, .inr (.inl (0, rk))), (6, .inr (.inl (0, sta))), (7, .inr (.inl (0, (z4.2.2.2.2.2.1)))), (8, .inr (.inl (0, (z4.2.2.2.2.2.2.1)))), (9, .inr (.inl (0, (z4.2.2.2.2.2.2.2.1)))), (10, .inr (.inl (0, (z4.2.2.2.2.2.2.2.2.1)))), (11, .inr (.inl (0, he))), (12, .inr (.inl (0, (z4.2.2.2.2.2.2.2.2.2.1)))), (13, .inr (.inl (0, (z6.2.1)))), (14, .inr (.inl (0, (z4.2.2.2.2.2.2.2.2.2.2.1)))), (15, .inr (.inl (0, (z4.2.2.2.2.2.2.2.2.2.2.2.1)))), (16, .inr (.inl (0, lkd))), (17, .inl (5, [.ref 18, .int (z4.2.2.2.1), .ref 19])), (18, .inr (.inl (0, (z4.2.2.1)))), (19, .inr (.inl (0, (z4.2.1)))), (20, .inl (3, [.ref 21, .ref 22, .ref 23, .ref 24, .ref 25, .ref 26, .ref 27, .ref 28, .int (z4.2.2.2.2.2.2.2.2.2.2.2.2.2.1), .int pk])), (21, .inr (.inl (0, (z6.2.2.1)))), (22, .inr (.inl (0, (z6.2.2.2.1)))), (23, .inr (.inl (0, (z6.2.2.2.2.1)))), (24, .inr (.inl (0, (z6.2.2.2.2.2.1)))), (25, .inr (.inl (0, (z6.2.2.2.2.2.2)))), (26, .inr (.inl (0, (z4.2.2.2.2.2.2.2.2.2.2.2.2.2.2.1)))), (27, .inr (.inl (0, (z4.2.2.2.2.2.2.2.2.2.2.2.2.2.2.2.1)))), (28, .inr (.inl (0, (z4.2.2.2.2.2.2.2.2.2.2.2.2.1)))), (327, .inl (2, [.int ns, .ref 328, .ref 329, .ref 330, .ref 331, .int nt, .ref 332, .ref 333, .ref 334, .ref 335, .ref 336, .ref 337, .ref 338, .int cel, .ref 339, .ref 340, .ref 341, .ref 342])), (331, .inr (.inl (0, len))), (334, .inr (.inl (0, frm))), (335, .inr (.inl (0, tto))), (338, .inr (.inl (0, wei))), (339, .inr (.inl (0, fit))), (340, .inr (.inl (0, way))), (341, .inr (.inl (0, rid))), (342, .inr (.inl (0, lon)))] h0 := K.mg K9 rfl rfl
                clear K9
                show j_V jP _ 92 78 lv [] h9 _
                refine j_V.inL xa74_M xa74_78 (i := 5) (kl' := [(0, .ref 4), (1, .int v1), (2, .int v2), (3, .int v3), (4, .int v4), (5, .int (v5 + 1))]) (pcJ := 81) L rfl rfl rfl rfl (fun lv L => ?_)
                refine j_V.gto xa74_M xa74_81 (t := 11) rfl ?_
                subst ez6
                subst ez4
                rw [show (x_advance_l11 shu lks rk sta he lkd pk nt len frm tto wei fit way rid lon v1 v2 v3 v4 (f + 1) v5 sea row rl bus ph sp ce du ri cm lf pfa pev prs prr mi us pms pmm pmt pst pwa) = _ from ((if_pos c23_0).trans ((if_neg c27_1).trans ((if_neg c42_2).trans ((if_pos c49_3).trans ((if_pos c60_4).trans (rfl))))))]
                exact ih _ _ _ _ _ _ _ _ _ _ _ _ _ _ _ _ _ _ _ _ _ _ _ (lpN_n e) L K
            · replace c49_3 : ¬ ((x_isStuck shu bus ph sp ri nt len frm tto fit) = 0) := jd_eqn c49_3
              refine j_V.gto xa74_M xa74_52 (t := 84) rfl ?_
              refine j_V.ldL xa74_M xa74_84 rfl (i := 0) (kd := 2) (v := .ref 4) (pcJ := 85) rfl L rfl rfl rfl ?_
              refine j_V.one xa74_M xa74_85 (by decide) (pcJ := 86) (stJ := [.int (-1), .ref 4]) rfl ?_
              refine j_V.cl xa74_M xa74_86 rfl (md := 3) (mj := 65) rfl (by decide) xa06_M (As := [.ref 4, .int (-1)]) (rest := []) (jk_spl3 (K.at rfl) rfl rfl rfl (Nat.le_of_ble_eq_true rfl) (Nat.le_of_ble_eq_true rfl)) (fun d => xa06_ok (K.fi [4, 6, 7, 14, 327, 335, 338, 342] rfl rfl)) ?_
              rintro r hz ⟨rfl, ez⟩
              rw [ez]
              clear ez
              show j_V jP _ 92 89 lv [.int (x_price sta ph cm nt tto wei lon (-1))] h _
              refine j_V.ri xa74_M xa74_89 ?_
              rw [show (x_advance_l11 shu lks rk sta he lkd pk nt len frm tto wei fit way rid lon v1 v2 v3 v4 (f + 1) v5 sea row rl bus ph sp ce du ri cm lf pfa pev prs prr mi us pms pmm pmt pst pwa) = _ from ((if_pos c23_0).trans ((if_neg c27_1).trans ((if_neg c42_2).trans ((if_neg c49_3).trans (rfl)))))]
              exact ⟨rfl, K⟩
def x_advance (mi : Int32) (shu : Int32) (bus : Int32) (lks : Int32) (rk : List Int32) (sta : List Int32) (ph : List Int32) (sp : List Int32) (ce : List Int32) (du : List Int32) (he : List Int32) (ri : List Int32) (us : List Int32) (cm : List Int32) (lf : List Int32) (lkd : List Int32) (rl : Int32) (row : List Int32) (sea : List Int32) (pev : Int32) (pk : Int32) (pms : List Int32) (pmm : List Int32) (pmt : List Int32) (pst : List Int32) (pwa : List Int32) (prs : List Int32) (prr : List Int32) (pfa : List Int32) (nt : Int32) (len : List Int32) (frm : List Int32) (tto : List Int32) (wei : List Int32) (fit : List Int32) (way : List Int32) (rid : List Int32) (lon : List Int32) (x1 : Int32) (x2 : Int32) (x3 : Int32) : Int32 × List Int32 × List Int32 × Int32 × Int32 × List Int32 × List Int32 × List Int32 × List Int32 × List Int32 × List Int32 × List Int32 × List Int32 × Int32 × List Int32 × List Int32 × Int32 × List Int32 × List Int32 × List Int32 × List Int32 × List Int32 × List Int32 := (x_advance_l11 shu lks rk sta he lkd pk nt len frm tto wei fit way rid lon x1 x2 x3 (mi + x1) (lpN x1 0) 0 sea row rl bus ph sp ce du ri cm lf pfa pev prs prr mi us pms pmm pmt pst pwa)
set_option maxRecDepth 1000000 in
theorem xa74_ok {mi : Int32} {shu : Int32} {bus : Int32} {lks : Int32} {rk : List Int32} {sta : List Int32} {ph : List Int32} {sp : List Int32} {ce : List Int32} {du : List Int32} {he : List Int32} {ri : List Int32} {us : List Int32} {cm : List Int32} {lf : List Int32} {lkd : List Int32} {rl : Int32} {row : List Int32} {sea : List Int32} {pev : Int32} {pk : Int32} {pms : List Int32} {pmm : List Int32} {pmt : List Int32} {pst : List Int32} {pwa : List Int32} {prs : List Int32} {prr : List Int32} {pfa : List Int32} {ns : Int32} {nt : Int32} {cel : Int32} {len : List Int32} {frm : List Int32} {tto : List Int32} {wei : List Int32} {fit : List Int32} {way : List Int32} {rid : List Int32} {lon : List Int32} {x1 x2 x3 : Int32} {d : Nat} {h h0 : J_H} (K : KN h [(4, .inl (7, [.ref 327, .int mi, .int shu, .int bus, .ref 5, .ref 6, .ref 7, .ref 8, .ref 9, .ref 10, .ref 11, .ref 12, .ref 13, .ref 14, .ref 15, .int lks, .ref 16, .ref 17, .ref 20])), (5, .inr (.inl (0, rk))), (6, .inr (.inl (0, sta))), (7, .inr (.inl (0, ph))), (8, .inr (.inl (0, sp))), (9, .inr (.inl (0, ce))), (10, .inr (.inl (0, du))), (11, .inr (.inl (0, he))), (12, .inr (.inl (0, ri))), (13, .inr (.inl (0, us))), (14, .inr (.inl (0, cm))), (15, .inr (.inl (0, lf))), (16, .inr (.inl (0, lkd))), (17, .inl (5, [.ref 18, .int rl, .ref 19])), (18, .inr (.inl (0, row))), (19, .inr (.inl (0, sea))), (20, .inl (3, [.ref 21, .ref 22, .ref 23, .ref 24, .ref 25, .ref 26, .ref 27, .ref 28, .int pev, .int pk])), (21, .inr (.inl (0, pms))), (22, .inr (.inl (0, pmm))), (23, .inr (.inl (0, pmt))), (24, .inr (.inl (0, pst))), (25, .inr (.inl (0, pwa))), (26, .inr (.inl (0, prs))), (27, .inr (.inl (0, prr))), (28, .inr (.inl (0, pfa))), (327, .inl (2, [.int ns, .ref 328, .ref 329, .ref 330, .ref 331, .int nt, .ref 332, .ref 333, .ref 334, .ref 335, .ref 336, .ref 337, .ref 338, .int cel, .ref 339, .ref 340, .ref 341, .ref 342])), (331, .inr (.inl (0, len))), (334, .inr (.inl (0, frm))), (335, .inr (.inl (0, tto))), (338, .inr (.inl (0, wei))), (339, .inr (.inl (0, fit))), (340, .inr (.inl (0, way))), (341, .inr (.inl (0, rid))), (342, .inr (.inl (0, lon)))] h0) : j_V jP d 92 0 (lv_args 0 [.ref 4, .int x1, .int x2, .int x3]) [] h (fun rv h' => rv = some (.int (x_advance mi shu bus lks rk sta ph sp ce du he ri us cm lf lkd rl row sea pev pk pms pmm pmt pst pwa prs prr pfa nt len frm tto wei fit way rid lon x1 x2 x3).1) ∧ KN h' [(4, .inl (7, [.ref 327, .int (x_advance mi shu bus lks rk sta ph sp ce du he ri us cm lf lkd rl row sea pev pk pms pmm pmt pst pwa prs prr pfa nt len frm tto wei fit way rid lon x1 x2 x3).2.2.2.2.2.2.2.2.2.2.2.2.2.2.2.2.1, .int shu, .int (x_advance mi shu bus lks rk sta ph sp ce du he ri us cm lf lkd rl row sea pev pk pms pmm pmt pst pwa prs prr pfa nt len frm tto wei fit way rid lon x1 x2 x3).2.2.2.2.1, .ref 5, .ref 6, .ref 7, .ref 8, .ref 9, .ref 10, .ref 11, .ref 12, .ref 13, .ref 14, .ref 15, .int lks, .ref 16, .ref 17, .ref 20])), (5, .inr (.inl (0, rk))), (6, .inr (.inl (0, sta))), (7, .inr (.inl (0, (x_advance mi shu bus lks rk sta ph sp ce du he ri us cm lf lkd rl row sea pev pk pms pmm pmt pst pwa prs prr pfa nt len frm tto wei fit way rid lon x1 x2 x3).2.2.2.2.2.1))), (8, .inr (.inl (0, (x_advance mi shu bus lks rk sta ph sp ce du he ri us cm lf lkd rl row sea pev pk pms pmm pmt pst pwa prs prr pfa nt len frm tto wei fit way rid lon x1 x2 x3).2.2.2.2.2.2.1))), (9, .inr (.inl (0, (x_advance mi shu bus lks rk sta ph sp ce du he ri us cm lf lkd rl row sea pev pk pms pmm pmt pst pwa prs prr pfa nt len frm tto wei fit way rid lon x1 x2 x3).2.2.2.2.2.2.2.1))), (10, .inr (.inl (0, (x_advance mi shu bus lks rk sta ph sp ce du he ri us cm lf lkd rl row sea pev pk pms pmm pmt pst pwa prs prr pfa nt len frm tto wei fit way rid lon x1 x2 x3).2.2.2.2.2.2.2.2.1))), (11, .inr (.inl (0, he))), (12, .inr (.inl (0, (x_advance mi shu bus lks rk sta ph sp ce du he ri us cm lf lkd rl row sea pev pk pms pmm pmt pst pwa prs prr pfa nt len frm tto wei fit way rid lon x1 x2 x3).2.2.2.2.2.2.2.2.2.1))), (13, .inr (.inl (0, (x_advance mi shu bus lks rk sta ph sp ce du he ri us cm lf lkd rl row sea pev pk pms pmm pmt pst pwa prs prr pfa nt len frm tto wei fit way rid lon x1 x2 x3).2.2.2.2.2.2.2.2.2.2.2.2.2.2.2.2.2.1))), (14, .inr (.inl (0, (x_advance mi shu bus lks rk sta ph sp ce du he ri us cm lf lkd rl row sea pev pk pms pmm pmt pst pwa prs prr pfa nt len frm tto wei fit way rid lon x1 x2 x3).2.2.2.2.2.2.2.2.2.2.1))), (15, .inr (.inl (0, (x_advance mi shu bus lks rk sta ph sp ce du he ri us cm lf lkd rl row sea pev pk pms pmm pmt pst pwa prs prr pfa nt len frm tto wei fit way rid lon x1 x2 x3).2.2.2.2.2.2.2.2.2.2.2.1))), (16, .inr (.inl (0, lkd))), (17, .inl (5, [.ref 18, .int (x_advance mi shu bus lks rk sta ph sp ce du he ri us cm lf lkd rl row sea pev pk pms pmm pmt pst pwa prs prr pfa nt len frm tto wei fit way rid lon x1 x2 x3).2.2.2.1, .ref 19])), (18, .inr (.inl (0, (x_advance mi shu bus lks rk sta ph sp ce du he ri us cm lf lkd rl row sea pev pk pms pmm pmt pst pwa prs prr pfa nt len frm tto wei fit way rid lon x1 x2 x3).2.2.1))), (19, .inr (.inl (0, (x_advance mi shu bus lks rk sta ph sp ce du he ri us cm lf lkd rl row sea pev pk pms pmm pmt pst pwa prs prr pfa nt len frm tto wei fit way rid lon x1 x2 x3).2.1))), (20, .inl (3, [.ref 21, .ref 22, .ref 23, .ref 24, .ref 25, .ref 26, .ref 27, .ref 28, .int (x_advance mi shu bus lks rk sta ph sp ce du he ri us cm lf lkd rl row sea pev pk pms pmm pmt pst pwa prs prr pfa nt len frm tto wei fit way rid lon x1 x2 x3).2.2.2.2.2.2.2.2.2.2.2.2.2.1, .int pk])), (21, .inr (.inl (0, (x_advance mi shu bus lks rk sta ph sp ce du he ri us cm lf lkd rl row sea pev pk pms pmm pmt pst pwa prs prr pfa nt len frm tto wei fit way rid lon x1 x2 x3).2.2.2.2.2.2.2.2.2.2.2.2.2.2.2.2.2.2.1))), (22, .inr (.inl (0, (x_advance mi shu bus lks rk sta ph sp ce du he ri us cm lf lkd rl row sea pev pk pms pmm pmt pst pwa prs prr pfa nt len frm tto wei fit way rid lon x1 x2 x3).2.2.2.2.2.2.2.2.2.2.2.2.2.2.2.2.2.2.2.1))), (23, .inr (.inl (0, (x_advance mi shu bus lks rk sta ph sp ce du he ri us cm lf lkd rl row sea pev pk pms pmm pmt pst pwa prs prr pfa nt len frm tto wei fit way rid lon x1 x2 x3).2.2.2.2.2.2.2.2.2.2.2.2.2.2.2.2.2.2.2.2.1))), (24, .inr (.inl (0, (x_advance mi shu bus lks rk sta ph sp ce du he ri us cm lf lkd rl row sea pev pk pms pmm pmt pst pwa prs prr pfa nt len frm tto wei fit way rid lon x1 x2 x3).2.2.2.2.2.2.2.2.2.2.2.2.2.2.2.2.2.2.2.2.2.1))), (25, .inr (.inl (0, (x_advance mi shu bus lks rk sta ph sp ce du he ri us cm lf lkd rl row sea pev pk pms pmm pmt pst pwa prs prr pfa nt len frm tto wei fit way rid lon x1 x2 x3).2.2.2.2.2.2.2.2.2.2.2.2.2.2.2.2.2.2.2.2.2.2))), (26, .inr (.inl (0, (x_advance mi shu bus lks rk sta ph sp ce du he ri us cm lf lkd rl row sea pev pk pms pmm pmt pst pwa prs prr pfa nt len frm tto wei fit way rid lon x1 x2 x3).2.2.2.2.2.2.2.2.2.2.2.2.2.2.1))), (27, .inr (.inl (0, (x_advance mi shu bus lks rk sta ph sp ce du he ri us cm lf lkd rl row sea pev pk pms pmm pmt pst pwa prs prr pfa nt len frm tto wei fit way rid lon x1 x2 x3).2.2.2.2.2.2.2.2.2.2.2.2.2.2.2.1))), (28, .inr (.inl (0, (x_advance mi shu bus lks rk sta ph sp ce du he ri us cm lf lkd rl row sea pev pk pms pmm pmt pst pwa prs prr pfa nt len frm tto wei fit way rid lon x1 x2 x3).2.2.2.2.2.2.2.2.2.2.2.2.1))), (327, .inl (2, [.int ns, .ref 328, .ref 329, .ref 330, .ref 331, .int nt, .ref 332, .ref 333, .ref 334, .ref 335, .ref 336, .ref 337, .ref 338, .int cel, .ref 339, .ref 340, .ref 341, .ref 342])), (331, .inr (.inl (0, len))), (334, .inr (.inl (0, frm))), (335, .inr (.inl (0, tto))), (338, .inr (.inl (0, wei))), (339, .inr (.inl (0, fit))), (340, .inr (.inl (0, way))), (341, .inr (.inl (0, rid))), (342, .inr (.inl (0, lon)))] h0) := by
  show j_V jP d 92 0 [(0, .ref 4), (1, .int x1), (2, .int x2), (3, .int x3)] [] h _
  obtain ⟨lv, elv, L⟩ : ∃ lv, lv = [(0, .ref 4), (1, .int x1), (2, .int x2), (3, .int x3)] ∧ LK lv [(0, .ref 4), (1, .int x1), (2, .int x2), (3, .int x3)] := ⟨_, rfl, LK.rf⟩
  rw [← elv]
  clear elv
  refine j_V.ldL xa74_M xa74_0 rfl (i := 0) (kd := 2) (v := .ref 4) (pcJ := 1) rfl L rfl rfl rfl ?_
  refine j_V.getK xa74_M xa74_1 (ci := 7) (j := 1) rfl K rfl rfl ?_
  refine j_V.ldL xa74_M xa74_4 rfl (i := 1) (kd := 0) (v := .int x1) (pcJ := 5) rfl L rfl rfl rfl ?_
  refine j_V.one xa74_M xa74_5 (by decide) (pcJ := 6) (stJ := [.int (mi + x1)]) rfl ?_
  refine j_V.stL xa74_M xa74_6 rfl (i := 4) (kd := 0) (kl' := [(0, .ref 4), (1, .int x1), (2, .int x2), (3, .int x3), (4, .int (mi + x1))]) (pcJ := 8) rfl L rfl (by decide) rfl rfl rfl (fun lv L => ?_)
  refine j_V.one xa74_M xa74_8 (by decide) (pcJ := 9) (stJ := [.int 0]) rfl ?_
  refine j_V.stL xa74_M xa74_9 rfl (i := 5) (kd := 0) (kl' := [(0, .ref 4), (1, .int x1), (2, .int x2), (3, .int x3), (4, .int (mi + x1)), (5, .int 0)]) (pcJ := 11) rfl L rfl (by decide) rfl rfl rfl (fun lv L => ?_)
  rw [show (x_advance mi shu bus lks rk sta ph sp ce du he ri us cm lf lkd rl row sea pev pk pms pmm pmt pst pwa prs prr pfa nt len frm tto wei fit way rid lon x1 x2 x3) = _ from (rfl)]
  exact xa74_ok_l11 _ _ _ _ _ _ _ _ _ _ _ _ _ _ _ _ _ _ _ _ _ _ _ _ rfl L K
set_option maxRecDepth 100000 in
theorem xa75_M : j_meth jP 116 = some (yX9_many, cX9_many, 2, (some .int), 1, false, 9) := rfl
set_option maxRecDepth 100000 in
theorem xa75_0 : j_code jP 116 0 = some (.iload_n 1) := rfl
set_option maxRecDepth 100000 in
theorem xa75_1 : j_code jP 116 1 = some (.tableswitch 194 0 9 #[55, 67, 79, 91, 104, 117, 130, 142, 162, 182]) := rfl
set_option maxRecDepth 100000 in
theorem xa75_56 : j_code jP 116 56 = some (.aload_n 0) := rfl
set_option maxRecDepth 100000 in
theorem xa75_57 : j_code jP 116 57 = some (.aload_n 0) := rfl
set_option maxRecDepth 100000 in
theorem xa75_58 : j_code jP 116 58 = some (.getfield 58) := rfl
set_option maxRecDepth 100000 in
theorem xa75_61 : j_code jP 116 61 = some (.getfield 113) := rfl
set_option maxRecDepth 100000 in
theorem xa75_64 : j_code jP 116 64 = some (.invokevirtual 104) := rfl
set_option maxRecDepth 100000 in
theorem xa75_67 : j_code jP 116 67 = some (.ireturn) := rfl
set_option maxRecDepth 100000 in
theorem xa75_68 : j_code jP 116 68 = some (.aload_n 0) := rfl
set_option maxRecDepth 100000 in
theorem xa75_69 : j_code jP 116 69 = some (.aload_n 0) := rfl
set_option maxRecDepth 100000 in
theorem xa75_70 : j_code jP 116 70 = some (.getfield 58) := rfl
set_option maxRecDepth 100000 in
theorem xa75_73 : j_code jP 116 73 = some (.getfield 101) := rfl
set_option maxRecDepth 100000 in
theorem xa75_76 : j_code jP 116 76 = some (.invokevirtual 104) := rfl
set_option maxRecDepth 100000 in
theorem xa75_79 : j_code jP 116 79 = some (.ireturn) := rfl
set_option maxRecDepth 100000 in
theorem xa75_80 : j_code jP 116 80 = some (.aload_n 0) := rfl
set_option maxRecDepth 100000 in
theorem xa75_81 : j_code jP 116 81 = some (.aload_n 0) := rfl
set_option maxRecDepth 100000 in
theorem xa75_82 : j_code jP 116 82 = some (.getfield 30) := rfl
set_option maxRecDepth 100000 in
theorem xa75_85 : j_code jP 116 85 = some (.getfield 116) := rfl
set_option maxRecDepth 100000 in
theorem xa75_88 : j_code jP 116 88 = some (.invokevirtual 104) := rfl
set_option maxRecDepth 100000 in
theorem xa75_91 : j_code jP 116 91 = some (.ireturn) := rfl
set_option maxRecDepth 100000 in
theorem xa75_92 : j_code jP 116 92 = some (.aload_n 0) := rfl
set_option maxRecDepth 100000 in
theorem xa75_93 : j_code jP 116 93 = some (.aload_n 0) := rfl
set_option maxRecDepth 100000 in
theorem xa75_94 : j_code jP 116 94 = some (.getfield 30) := rfl
set_option maxRecDepth 100000 in
theorem xa75_97 : j_code jP 116 97 = some (.iconst 3) := rfl
set_option maxRecDepth 100000 in
theorem xa75_98 : j_code jP 116 98 = some (.invokevirtual 119) := rfl
set_option maxRecDepth 100000 in
theorem xa75_101 : j_code jP 116 101 = some (.invokevirtual 104) := rfl
set_option maxRecDepth 100000 in
theorem xa75_104 : j_code jP 116 104 = some (.ireturn) := rfl
set_option maxRecDepth 100000 in
theorem xa75_105 : j_code jP 116 105 = some (.aload_n 0) := rfl
set_option maxRecDepth 100000 in
theorem xa75_106 : j_code jP 116 106 = some (.aload_n 0) := rfl
set_option maxRecDepth 100000 in
theorem xa75_107 : j_code jP 116 107 = some (.getfield 30) := rfl
set_option maxRecDepth 100000 in
theorem xa75_110 : j_code jP 116 110 = some (.iconst 0) := rfl
set_option maxRecDepth 100000 in
theorem xa75_111 : j_code jP 116 111 = some (.invokevirtual 119) := rfl
set_option maxRecDepth 100000 in
theorem xa75_114 : j_code jP 116 114 = some (.invokevirtual 104) := rfl
set_option maxRecDepth 100000 in
theorem xa75_117 : j_code jP 116 117 = some (.ireturn) := rfl
set_option maxRecDepth 100000 in
theorem xa75_118 : j_code jP 116 118 = some (.aload_n 0) := rfl
set_option maxRecDepth 100000 in
theorem xa75_119 : j_code jP 116 119 = some (.aload_n 0) := rfl
set_option maxRecDepth 100000 in
theorem xa75_120 : j_code jP 116 120 = some (.getfield 30) := rfl
set_option maxRecDepth 100000 in
theorem xa75_123 : j_code jP 116 123 = some (.iconst (-1)) := rfl
set_option maxRecDepth 100000 in
theorem xa75_124 : j_code jP 116 124 = some (.invokevirtual 122) := rfl
set_option maxRecDepth 100000 in
theorem xa75_127 : j_code jP 116 127 = some (.invokevirtual 104) := rfl
set_option maxRecDepth 100000 in
theorem xa75_130 : j_code jP 116 130 = some (.ireturn) := rfl
set_option maxRecDepth 100000 in
theorem xa75_131 : j_code jP 116 131 = some (.aload_n 0) := rfl
set_option maxRecDepth 100000 in
theorem xa75_132 : j_code jP 116 132 = some (.aload_n 0) := rfl
set_option maxRecDepth 100000 in
theorem xa75_133 : j_code jP 116 133 = some (.getfield 37) := rfl
set_option maxRecDepth 100000 in
theorem xa75_136 : j_code jP 116 136 = some (.getfield 125) := rfl
set_option maxRecDepth 100000 in
theorem xa75_139 : j_code jP 116 139 = some (.invokevirtual 104) := rfl
set_option maxRecDepth 100000 in
theorem xa75_142 : j_code jP 116 142 = some (.ireturn) := rfl
set_option maxRecDepth 100000 in
theorem xa75_143 : j_code jP 116 143 = some (.aload_n 0) := rfl
set_option maxRecDepth 100000 in
theorem xa75_144 : j_code jP 116 144 = some (.aload_n 0) := rfl
set_option maxRecDepth 100000 in
theorem xa75_145 : j_code jP 116 145 = some (.getfield 30) := rfl
set_option maxRecDepth 100000 in
theorem xa75_148 : j_code jP 116 148 = some (.invokevirtual 127) := rfl
set_option maxRecDepth 100000 in
theorem xa75_151 : j_code jP 116 151 = some (.ifCond .eq 7) := rfl
set_option maxRecDepth 100000 in
theorem xa75_154 : j_code jP 116 154 = some (.iconst 1) := rfl
set_option maxRecDepth 100000 in
theorem xa75_155 : j_code jP 116 155 = some (.goto 4) := rfl
set_option maxRecDepth 100000 in
theorem xa75_158 : j_code jP 116 158 = some (.iconst 0) := rfl
set_option maxRecDepth 100000 in
theorem xa75_159 : j_code jP 116 159 = some (.invokevirtual 104) := rfl
set_option maxRecDepth 100000 in
theorem xa75_162 : j_code jP 116 162 = some (.ireturn) := rfl
set_option maxRecDepth 100000 in
theorem xa75_163 : j_code jP 116 163 = some (.aload_n 0) := rfl
set_option maxRecDepth 100000 in
theorem xa75_164 : j_code jP 116 164 = some (.aload_n 0) := rfl
set_option maxRecDepth 100000 in
theorem xa75_165 : j_code jP 116 165 = some (.getfield 30) := rfl
set_option maxRecDepth 100000 in
theorem xa75_168 : j_code jP 116 168 = some (.invokevirtual 131) := rfl
set_option maxRecDepth 100000 in
theorem xa75_171 : j_code jP 116 171 = some (.ifCond .eq 7) := rfl
set_option maxRecDepth 100000 in
theorem xa75_174 : j_code jP 116 174 = some (.iconst 1) := rfl
set_option maxRecDepth 100000 in
theorem xa75_175 : j_code jP 116 175 = some (.goto 4) := rfl
set_option maxRecDepth 100000 in
theorem xa75_178 : j_code jP 116 178 = some (.iconst 0) := rfl
set_option maxRecDepth 100000 in
theorem xa75_179 : j_code jP 116 179 = some (.invokevirtual 104) := rfl
set_option maxRecDepth 100000 in
theorem xa75_182 : j_code jP 116 182 = some (.ireturn) := rfl
set_option maxRecDepth 100000 in
theorem xa75_183 : j_code jP 116 183 = some (.aload_n 0) := rfl
set_option maxRecDepth 100000 in
theorem xa75_184 : j_code jP 116 184 = some (.aload_n 0) := rfl
set_option maxRecDepth 100000 in
theorem xa75_185 : j_code jP 116 185 = some (.getfield 30) := rfl
set_option maxRecDepth 100000 in
theorem xa75_188 : j_code jP 116 188 = some (.invokevirtual 134) := rfl
set_option maxRecDepth 100000 in
theorem xa75_191 : j_code jP 116 191 = some (.invokevirtual 104) := rfl
set_option maxRecDepth 100000 in
theorem xa75_194 : j_code jP 116 194 = some (.ireturn) := rfl
set_option maxRecDepth 100000 in
theorem xa75_195 : j_code jP 116 195 = some (.aload_n 0) := rfl
set_option maxRecDepth 100000 in
theorem xa75_196 : j_code jP 116 196 = some (.iconst 1) := rfl
set_option maxRecDepth 100000 in
theorem xa75_197 : j_code jP 116 197 = some (.invokevirtual 84) := rfl
set_option maxRecDepth 100000 in
theorem xa75_200 : j_code jP 116 200 = some (.ireturn) := rfl
def x_qmany (mi : Int32) (shu : Int32) (bus : Int32) (sta : List Int32) (ph : List Int32) (sp : List Int32) (ce : List Int32) (ri : List Int32) (cm : List Int32) (rl : Int32) (row : List Int32) (sea : List Int32) (ns : Int32) (nt : Int32) (len : List Int32) (frm : List Int32) (tto : List Int32) (wei : List Int32) (fit : List Int32) (way : List Int32) (lon : List Int32) (sst : Int32) (acco : Int32) (x1 : Int32) : Int32 × List Int32 × List Int32 × Int32 × Int32 := (if x1 = 0 then let z2 := (x_qanswer sst ns); ((z2.1), sea, row, rl, (z2.2)) else (if x1 = 1 then let z3 := (x_qanswer sst nt); ((z3.1), sea, row, rl, (z3.2)) else (if x1 = 2 then let z4 := (x_qanswer sst mi); ((z4.1), sea, row, rl, (z4.2)) else (if x1 = 3 then let z5 := (x_qanswer sst (x_count ph nt 3)); ((z5.1), sea, row, rl, (z5.2)) else (if x1 = 4 then let z6 := (x_qanswer sst (x_count ph nt 0)); ((z6.1), sea, row, rl, (z6.2)) else (if x1 = 5 then let z7 := (x_qanswer sst (x_price sta ph cm nt tto wei lon (-1))); ((z7.1), sea, row, rl, (z7.2)) else (if x1 = 6 then let z8 := (x_qanswer sst acco); ((z8.1), sea, row, rl, (z8.2)) else (if x1 = 7 then let z9 := (x_isSafe shu ce rl row sea nt fit way); let z10 := (x_qanswer sst ((if (z9.1) = 0 then 0 else 1) : Int32)); ((z10.1), (z9.2.1), (z9.2.2.1), (z9.2.2.2), (z10.2)) else (if x1 = 8 then let z11 := (x_qanswer sst ((if (x_isStuck shu bus ph sp ri nt len frm tto fit) = 0 then 0 else 1) : Int32)); ((z11.1), sea, row, rl, (z11.2)) else (if x1 = 9 then let z12 := (x_qanswer sst (x_greatestDelay sta ph cm nt tto lon)); ((z12.1), sea, row, rl, (z12.2)) else let z1 := (x_qrefuse sst 1); ((z1.1), sea, row, rl, (z1.2))))))))))))
set_option maxRecDepth 1000000 in
theorem xa75_ok {mi : Int32} {shu : Int32} {bus : Int32} {lks : Int32} {sta : List Int32} {ph : List Int32} {sp : List Int32} {ce : List Int32} {ri : List Int32} {cm : List Int32} {rl : Int32} {row : List Int32} {sea : List Int32} {ns : Int32} {nt : Int32} {cel : Int32} {len : List Int32} {frm : List Int32} {tto : List Int32} {wei : List Int32} {fit : List Int32} {way : List Int32} {lon : List Int32} {sst : Int32} {acne : Int32} {acco : Int32} {x1 : Int32} {d : Nat} {h h0 : J_H} (K : KN h [(0, .inl (9, [.ref 1, .ref 3, .ref 4, .ref 29, .ref 281, .ref 325, .ref 327, .ref 343, .int sst])), (4, .inl (7, [.ref 327, .int mi, .int shu, .int bus, .ref 5, .ref 6, .ref 7, .ref 8, .ref 9, .ref 10, .ref 11, .ref 12, .ref 13, .ref 14, .ref 15, .int lks, .ref 16, .ref 17, .ref 20])), (6, .inr (.inl (0, sta))), (7, .inr (.inl (0, ph))), (8, .inr (.inl (0, sp))), (9, .inr (.inl (0, ce))), (12, .inr (.inl (0, ri))), (14, .inr (.inl (0, cm))), (17, .inl (5, [.ref 18, .int rl, .ref 19])), (18, .inr (.inl (0, row))), (19, .inr (.inl (0, sea))), (29, .inl (0, [.ref 30, .int acne, .int acco])), (327, .inl (2, [.int ns, .ref 328, .ref 329, .ref 330, .ref 331, .int nt, .ref 332, .ref 333, .ref 334, .ref 335, .ref 336, .ref 337, .ref 338, .int cel, .ref 339, .ref 340, .ref 341, .ref 342])), (331, .inr (.inl (0, len))), (334, .inr (.inl (0, frm))), (335, .inr (.inl (0, tto))), (338, .inr (.inl (0, wei))), (339, .inr (.inl (0, fit))), (340, .inr (.inl (0, way))), (342, .inr (.inl (0, lon)))] h0) : j_V jP d 116 0 (lv_args 0 [.ref 0, .int x1]) [] h (fun rv h' => rv = some (.int (x_qmany mi shu bus sta ph sp ce ri cm rl row sea ns nt len frm tto wei fit way lon sst acco x1).1) ∧ KN h' [(0, .inl (9, [.ref 1, .ref 3, .ref 4, .ref 29, .ref 281, .ref 325, .ref 327, .ref 343, .int (x_qmany mi shu bus sta ph sp ce ri cm rl row sea ns nt len frm tto wei fit way lon sst acco x1).2.2.2.2])), (4, .inl (7, [.ref 327, .int mi, .int shu, .int bus, .ref 5, .ref 6, .ref 7, .ref 8, .ref 9, .ref 10, .ref 11, .ref 12, .ref 13, .ref 14, .ref 15, .int lks, .ref 16, .ref 17, .ref 20])), (6, .inr (.inl (0, sta))), (7, .inr (.inl (0, ph))), (8, .inr (.inl (0, sp))), (9, .inr (.inl (0, ce))), (12, .inr (.inl (0, ri))), (14, .inr (.inl (0, cm))), (17, .inl (5, [.ref 18, .int (x_qmany mi shu bus sta ph sp ce ri cm rl row sea ns nt len frm tto wei fit way lon sst acco x1).2.2.2.1, .ref 19])), (18, .inr (.inl (0, (x_qmany mi shu bus sta ph sp ce ri cm rl row sea ns nt len frm tto wei fit way lon sst acco x1).2.2.1))), (19, .inr (.inl (0, (x_qmany mi shu bus sta ph sp ce ri cm rl row sea ns nt len frm tto wei fit way lon sst acco x1).2.1))), (29, .inl (0, [.ref 30, .int acne, .int acco])), (327, .inl (2, [.int ns, .ref 328, .ref 329, .ref 330, .ref 331, .int nt, .ref 332, .ref 333, .ref 334, .ref 335, .ref 336, .ref 337, .ref 338, .int cel, .ref 339, .ref 340, .ref 341, .ref 342])), (331, .inr (.inl (0, len))), (334, .inr (.inl (0, frm))), (335, .inr (.inl (0, tto))), (338, .inr (.inl (0, wei))), (339, .inr (.inl (0, fit))), (340, .inr (.inl (0, way))), (342, .inr (.inl (0, lon)))] h0) := by
  show j_V jP d 116 0 [(0, .ref 0), (1, .int x1)] [] h _
  obtain ⟨lv, elv, L⟩ : ∃ lv, lv = [(0, .ref 0), (1, .int x1)] ∧ LK lv [(0, .ref 0), (1, .int x1)] := ⟨_, rfl, LK.rf⟩
  rw [← elv]
  clear elv
  refine j_V.ldL xa75_M xa75_0 rfl (i := 1) (kd := 0) (v := .int x1) (pcJ := 1) rfl L rfl rfl rfl ?_
  refine j_V.tsw xa75_M xa75_1 (fun t ht hx => ?_) (fun i off t ho ht hx => ?_)
  · obtain rfl : 195 = t := Option.some.inj (show some 195 = some t from ht)
    have s1_0 : ¬ (x1 = 0) := fun z => by rw [z] at hx; revert hx; decide
    have s1_1 : ¬ (x1 = 1) := fun z => by rw [z] at hx; revert hx; decide
    have s1_2 : ¬ (x1 = 2) := fun z => by rw [z] at hx; revert hx; decide
    have s1_3 : ¬ (x1 = 3) := fun z => by rw [z] at hx; revert hx; decide
    have s1_4 : ¬ (x1 = 4) := fun z => by rw [z] at hx; revert hx; decide
    have s1_5 : ¬ (x1 = 5) := fun z => by rw [z] at hx; revert hx; decide
    have s1_6 : ¬ (x1 = 6) := fun z => by rw [z] at hx; revert hx; decide
    have s1_7 : ¬ (x1 = 7) := fun z => by rw [z] at hx; revert hx; decide
    have s1_8 : ¬ (x1 = 8) := fun z => by rw [z] at hx; revert hx; decide
    have s1_9 : ¬ (x1 = 9) := fun z => by rw [z] at hx; revert hx; decide
    refine j_V.ldL xa75_M xa75_195 rfl (i := 0) (kd := 2) (v := .ref 0) (pcJ := 196) rfl L rfl rfl rfl ?_
    refine j_V.one xa75_M xa75_196 (by decide) (pcJ := 197) (stJ := [.int 1, .ref 0]) rfl ?_
    refine j_V.cl xa75_M xa75_197 rfl (md := 3) (mj := 161) rfl (by decide) xa50_M (As := [.ref 0, .int 1]) (rest := []) (jk_spl3 (K.at rfl) rfl rfl rfl (Nat.le_of_ble_eq_true rfl) (Nat.le_of_ble_eq_true rfl)) (fun d => xa50_ok (K.fi [0] rfl rfl)) ?_
    rintro r h9 ⟨rfl, K9⟩
    generalize ez1 : (x_qrefuse sst 1) = z1 at K9 ⊢
    have K : KN h9 [(0, .inl (9, [.ref 1, .ref 3, .ref 4, .ref 29, .ref 281, .ref 325, .ref 327, .ref 343, .int (z1.2)])), (4, .inl (7, [.ref 327, .int mi, .int shu, .int bus, .ref 5, .ref 6, .ref 7, .ref 8, .ref 9, .ref 10, .ref 11, .ref 12, .ref 13, .ref 14, .ref 15, .int lks, .ref 16, .ref 17, .ref 20])), (6, .inr (.inl (0, sta))), (7, .inr (.inl (0, ph))), (8, .inr (.inl (0, sp))), (9, .inr (.inl (0, ce))), (12, .inr (.inl (0, ri))), (14, .inr (.inl (0, cm))), (17, .inl (5, [.ref 18, .int rl, .ref 19])), (18, .inr (.inl (0, row))), (19, .inr (.inl (0, sea))), (29, .inl (0, [.ref 30, .int acne, .int acco])), (327, .inl (2, [.int ns, .ref 328, .ref 329, .ref 330, .ref 331, .int nt, .ref 332, .ref 333, .ref 334, .ref 335, .ref 336, .ref 337, .ref 338, .int cel, .ref 339, .ref 340, .ref 341, .ref 342])), (331, .inr (.inl (0, len))), (334, .inr (.inl (0, frm))), (335, .inr (.inl (0, tto))), (338, .inr (.inl (0, wei))), (339, .inr (.inl (0, fit))), (340, .inr (.inl (0, way))), (342, .inr (.inl (0, lon)))] h0 := K.mg K9 rfl rfl
    clear K9
    show j_V jP _ 116 200 lv [.int (z1.1)] h9 _
    subst ez1
    refine j_V.ri xa75_M xa75_200 ?_
    rw [show (x_qmany mi shu bus sta ph sp ce ri cm rl row sea ns nt len frm tto wei fit way lon sst acco x1) = _ from ((if_neg s1_0).trans ((if_neg s1_1).trans ((if_neg s1_2).trans ((if_neg s1_3).trans ((if_neg s1_4).trans ((if_neg s1_5).trans ((if_neg s1_6).trans ((if_neg s1_7).trans ((if_neg s1_8).trans ((if_neg s1_9).trans (rfl)))))))))))]
    exact ⟨rfl, K⟩
  · match i, ho, hx with
    | 0, ho, hx =>
      obtain rfl := Option.some.inj (show some (55 : Int) = some off from ho)
      obtain rfl : 56 = t := Option.some.inj (show some 56 = some t from ht)
      have s1_0 : x1 = 0 := Int32.toInt_inj.mp (by rw [hx]; rfl)
      refine j_V.ldL xa75_M xa75_56 rfl (i := 0) (kd := 2) (v := .ref 0) (pcJ := 57) rfl L rfl rfl rfl ?_
      refine j_V.ldL xa75_M xa75_57 rfl (i := 0) (kd := 2) (v := .ref 0) (pcJ := 58) rfl L rfl rfl rfl ?_
      refine j_V.getK xa75_M xa75_58 (ci := 9) (j := 6) rfl K rfl rfl ?_
      refine j_V.getK xa75_M xa75_61 (ci := 2) (j := 0) rfl K rfl rfl ?_
      refine j_V.cl xa75_M xa75_64 rfl (md := 3) (mj := 159) rfl (by decide) xa49_M (As := [.ref 0, .int ns]) (rest := []) (jk_spl3 (K.at rfl) rfl rfl rfl (Nat.le_of_ble_eq_true rfl) (Nat.le_of_ble_eq_true rfl)) (fun d => xa49_ok (K.fi [0] rfl rfl)) ?_
      rintro r h9 ⟨rfl, K9⟩
      generalize ez2 : (x_qanswer sst ns) = z2 at K9 ⊢
      have K : KN h9 [(0, .inl (9, [.ref 1, .ref 3, .ref 4, .ref 29, .ref 281, .ref 325, .ref 327, .ref 343, .int (z2.2)])), (4, .inl (7, [.ref 327, .int mi, .int shu, .int bus, .ref 5, .ref 6, .ref 7, .ref 8, .ref 9, .ref 10, .ref 11, .ref 12, .ref 13, .ref 14, .ref 15, .int lks, .ref 16, .ref 17, .ref 20])), (6, .inr (.inl (0, sta))), (7, .inr (.inl (0, ph))), (8, .inr (.inl (0, sp))), (9, .inr (.inl (0, ce))), (12, .inr (.inl (0, ri))), (14, .inr (.inl (0, cm))), (17, .inl (5, [.ref 18, .int rl, .ref 19])), (18, .inr (.inl (0, row))), (19, .inr (.inl (0, sea))), (29, .inl (0, [.ref 30, .int acne, .int acco])), (327, .inl (2, [.int ns, .ref 328, .ref 329, .ref 330, .ref 331, .int nt, .ref 332, .ref 333, .ref 334, .ref 335, .ref 336, .ref 337, .ref 338, .int cel, .ref 339, .ref 340, .ref 341, .ref 342])), (331, .inr (.inl (0, len))), (334, .inr (.inl (0, frm))), (335, .inr (.inl (0, tto))), (338, .inr (.inl (0, wei))), (339, .inr (.inl (0, fit))), (340, .inr (.inl (0, way))), (342, .inr (.inl (0, lon)))] h0 := K.mg K9 rfl rfl
      clear K9
      show j_V jP _ 116 67 lv [.int (z2.1)] h9 _
      subst ez2
      refine j_V.ri xa75_M xa75_67 ?_
      rw [show (x_qmany mi shu bus sta ph sp ce ri cm rl row sea ns nt len frm tto wei fit way lon sst acco x1) = _ from ((if_pos s1_0).trans (rfl))]
      exact ⟨rfl, K⟩
    | 1, ho, hx =>
      obtain rfl := Option.some.inj (show some (67 : Int) = some off from ho)
      obtain rfl : 68 = t := Option.some.inj (show some 68 = some t from ht)
      have s1_1 : x1 = 1 := Int32.toInt_inj.mp (by rw [hx]; rfl)
      have s1_0 : ¬ (x1 = 0) := fun z => by rw [s1_1] at z; exact absurd z (by decide)
      refine j_V.ldL xa75_M xa75_68 rfl (i := 0) (kd := 2) (v := .ref 0) (pcJ := 69) rfl L rfl rfl rfl ?_
      refine j_V.ldL xa75_M xa75_69 rfl (i := 0) (kd := 2) (v := .ref 0) (pcJ := 70) rfl L rfl rfl rfl ?_
      refine j_V.getK xa75_M xa75_70 (ci := 9) (j := 6) rfl K rfl rfl ?_
      refine j_V.getK xa75_M xa75_73 (ci := 2) (j := 5) rfl K rfl rfl ?_
      refine j_V.cl xa75_M xa75_76 rfl (md := 3) (mj := 159) rfl (by decide) xa49_M (As := [.ref 0, .int nt]) (rest := []) (jk_spl3 (K.at rfl) rfl rfl rfl (Nat.le_of_ble_eq_true rfl) (Nat.le_of_ble_eq_true rfl)) (fun d => xa49_ok (K.fi [0] rfl rfl)) ?_
      rintro r h9 ⟨rfl, K9⟩
      generalize ez3 : (x_qanswer sst nt) = z3 at K9 ⊢
      have K : KN h9 [(0, .inl (9, [.ref 1, .ref 3, .ref 4, .ref 29, .ref 281, .ref 325, .ref 327, .ref 343, .int (z3.2)])), (4, .inl (7, [.ref 327, .int mi, .int shu, .int bus, .ref 5, .ref 6, .ref 7, .ref 8, .ref 9, .ref 10, .ref 11, .ref 12, .ref 13, .ref 14, .ref 15, .int lks, .ref 16, .ref 17, .ref 20])), (6, .inr (.inl (0, sta))), (7, .inr (.inl (0, ph))), (8, .inr (.inl (0, sp))), (9, .inr (.inl (0, ce))), (12, .inr (.inl (0, ri))), (14, .inr (.inl (0, cm))), (17, .inl (5, [.ref 18, .int rl, .ref 19])), (18, .inr (.inl (0, row))), (19, .inr (.inl (0, sea))), (29, .inl (0, [.ref 30, .int acne, .int acco])), (327, .inl (2, [.int ns, .ref 328, .ref 329, .ref 330, .ref 331, .int nt, .ref 332, .ref 333, .ref 334, .ref 335, .ref 336, .ref 337, .ref 338, .int cel, .ref 339, .ref 340, .ref 341, .ref 342])), (331, .inr (.inl (0, len))), (334, .inr (.inl (0, frm))), (335, .inr (.inl (0, tto))), (338, .inr (.inl (0, wei))), (339, .inr (.inl (0, fit))), (340, .inr (.inl (0, way))), (342, .inr (.inl (0, lon)))] h0 := K.mg K9 rfl rfl
      clear K9
      show j_V jP _ 116 79 lv [.int (z3.1)] h9 _
      subst ez3
      refine j_V.ri xa75_M xa75_79 ?_
      rw [show (x_qmany mi shu bus sta ph sp ce ri cm rl row sea ns nt len frm tto wei fit way lon sst acco x1) = _ from ((if_neg s1_0).trans ((if_pos s1_1).trans (rfl)))]
      exact ⟨rfl, K⟩
    | 2, ho, hx =>
      obtain rfl := Option.some.inj (show some (79 : Int) = some off from ho)
      obtain rfl : 80 = t := Option.some.inj (show some 80 = some t from ht)
      have s1_2 : x1 = 2 := Int32.toInt_inj.mp (by rw [hx]; rfl)
      have s1_0 : ¬ (x1 = 0) := fun z => by rw [s1_2] at z; exact absurd z (by decide)
      have s1_1 : ¬ (x1 = 1) := fun z => by rw [s1_2] at z; exact absurd z (by decide)
      refine j_V.ldL xa75_M xa75_80 rfl (i := 0) (kd := 2) (v := .ref 0) (pcJ := 81) rfl L rfl rfl rfl ?_
      refine j_V.ldL xa75_M xa75_81 rfl (i := 0) (kd := 2) (v := .ref 0) (pcJ := 82) rfl L rfl rfl rfl ?_
      refine j_V.getK xa75_M xa75_82 (ci := 9) (j := 2) rfl K rfl rfl ?_
      refine j_V.getK xa75_M xa75_85 (ci := 7) (j := 1) rfl K rfl rfl ?_
      refine j_V.cl xa75_M xa75_88 rfl (md := 3) (mj := 159) rfl (by decide) xa49_M (As := [.ref 0, .int mi]) (rest := []) (jk_spl3 (K.at rfl) rfl rfl rfl (Nat.le_of_ble_eq_true rfl) (Nat.le_of_ble_eq_true rfl)) (fun d => xa49_ok (K.fi [0] rfl rfl)) ?_
      rintro r h9 ⟨rfl, K9⟩
      generalize ez4 : (x_qanswer sst mi) = z4 at K9 ⊢
      have K : KN h9 [(0, .inl (9, [.ref 1, .ref 3, .ref 4, .ref 29, .ref 281, .ref 325, .ref 327, .ref 343, .int (z4.2)])), (4, .inl (7, [.ref 327, .int mi, .int shu, .int bus, .ref 5, .ref 6, .ref 7, .ref 8, .ref 9, .ref 10, .ref 11, .ref 12, .ref 13, .ref 14, .ref 15, .int lks, .ref 16, .ref 17, .ref 20])), (6, .inr (.inl (0, sta))), (7, .inr (.inl (0, ph))), (8, .inr (.inl (0, sp))), (9, .inr (.inl (0, ce))), (12, .inr (.inl (0, ri))), (14, .inr (.inl (0, cm))), (17, .inl (5, [.ref 18, .int rl, .ref 19])), (18, .inr (.inl (0, row))), (19, .inr (.inl (0, sea))), (29, .inl (0, [.ref 30, .int acne, .int acco])), (327, .inl (2, [.int ns, .ref 328, .ref 329, .ref 330, .ref 331, .int nt, .ref 332, .ref 333, .ref 334, .ref 335, .ref 336, .ref 337, .ref 338, .int cel, .ref 339, .ref 340, .ref 341, .ref 342])), (331, .inr (.inl (0, len))), (334, .inr (.inl (0, frm))), (335, .inr (.inl (0, tto))), (338, .inr (.inl (0, wei))), (339, .inr (.inl (0, fit))), (340, .inr (.inl (0, way))), (342, .inr (.inl (0, lon)))] h0 := K.mg K9 rfl rfl
      clear K9
      show j_V jP _ 116 91 lv [.int (z4.1)] h9 _
      subst ez4
      refine j_V.ri xa75_M xa75_91 ?_
      rw [show (x_qmany mi shu bus sta ph sp ce ri cm rl row sea ns nt len frm tto wei fit way lon sst acco x1) = _ from ((if_neg s1_0).trans ((if_neg s1_1).trans ((if_pos s1_2).trans (rfl))))]
      exact ⟨rfl, K⟩
    | 3, ho, hx =>
      obtain rfl := Option.some.inj (show some (91 : Int) = some off from ho)
      obtain rfl : 92 = t := Option.some.inj (show some 92 = some t from ht)
      have s1_3 : x1 = 3 := Int32.toInt_inj.mp (by rw [hx]; rfl)
      have s1_0 : ¬ (x1 = 0) := fun z => by rw [s1_3] at z; exact absurd z (by decide)
      have s1_1 : ¬ (x1 = 1) := fun z => by rw [s1_3] at z; exact absurd z (by decide)
      have s1_2 : ¬ (x1 = 2) := fun z => by rw [s1_3] at z; exact absurd z (by decide)
      refine j_V.ldL xa75_M xa75_92 rfl (i := 0) (kd := 2) (v := .ref 0) (pcJ := 93) rfl L rfl rfl rfl ?_
      refine j_V.ldL xa75_M xa75_93 rfl (i := 0) (kd := 2) (v := .ref 0) (pcJ := 94) rfl L rfl rfl rfl ?_
      refine j_V.getK xa75_M xa75_94 (ci := 9) (j := 2) rfl K rfl rfl ?_
      refine j_V.one xa75_M xa75_97 (by decide) (pcJ := 98) (stJ := [.int 3, .ref 4, .ref 0]) rfl ?_
      refine j_V.cl xa75_M xa75_98 rfl (md := 3) (mj := 62) rfl (by decide) xa03_M (As := [.ref 4, .int 3]) (rest := [.ref 0]) (jk_spl3 (K.at rfl) rfl rfl rfl (Nat.le_of_ble_eq_true rfl) (Nat.le_of_ble_eq_true rfl)) (fun d => xa03_ok (K.fi [4, 7, 327] rfl rfl)) ?_
      rintro r hz ⟨rfl, ez⟩
      rw [ez]
      clear ez
      show j_V jP _ 116 101 lv [.int (x_count ph nt 3), .ref 0] h _
      refine j_V.cl xa75_M xa75_101 rfl (md := 3) (mj := 159) rfl (by decide) xa49_M (As := [.ref 0, .int (x_count ph nt 3)]) (rest := []) (jk_spl3 (K.at rfl) rfl rfl rfl (Nat.le_of_ble_eq_true rfl) (Nat.le_of_ble_eq_true rfl)) (fun d => xa49_ok (K.fi [0] rfl rfl)) ?_
      rintro r h9 ⟨rfl, K9⟩
      generalize ez5 : (x_qanswer sst (x_count ph nt 3)) = z5 at K9 ⊢
      have K : KN h9 [(0, .inl (9, [.ref 1, .ref 3, .ref 4, .ref 29, .ref 281, .ref 325, .ref 327, .ref 343, .int (z5.2)])), (4, .inl (7, [.ref 327, .int mi, .int shu, .int bus, .ref 5, .ref 6, .ref 7, .ref 8, .ref 9, .ref 10, .ref 11, .ref 12, .ref 13, .ref 14, .ref 15, .int lks, .ref 16, .ref 17, .ref 20])), (6, .inr (.inl (0, sta))), (7, .inr (.inl (0, ph))), (8, .inr (.inl (0, sp))), (9, .inr (.inl (0, ce))), (12, .inr (.inl (0, ri))), (14, .inr (.inl (0, cm))), (17, .inl (5, [.ref 18, .int rl, .ref 19])), (18, .inr (.inl (0, row))), (19, .inr (.inl (0, sea))), (29, .inl (0, [.ref 30, .int acne, .int acco])), (327, .inl (2, [.int ns, .ref 328, .ref 329, .ref 330, .ref 331, .int nt, .ref 332, .ref 333, .ref 334, .ref 335, .ref 336, .ref 337, .ref 338, .int cel, .ref 339, .ref 340, .ref 341, .ref 342])), (331, .inr (.inl (0, len))), (334, .inr (.inl (0, frm))), (335, .inr (.inl (0, tto))), (338, .inr (.inl (0, wei))), (339, .inr (.inl (0, fit))), (340, .inr (.inl (0, way))), (342, .inr (.inl (0, lon)))] h0 := K.mg K9 rfl rfl
      clear K9
      show j_V jP _ 116 104 lv [.int (z5.1)] h9 _
      subst ez5
      refine j_V.ri xa75_M xa75_104 ?_
      rw [show (x_qmany mi shu bus sta ph sp ce ri cm rl row sea ns nt len frm tto wei fit way lon sst acco x1) = _ from ((if_neg s1_0).trans ((if_neg s1_1).trans ((if_neg s1_2).trans ((if_pos s1_3).trans (rfl)))))]
      exact ⟨rfl, K⟩
    | 4, ho, hx =>
      obtain rfl := Option.some.inj (show some (104 : Int) = some off from ho)
      obtain rfl : 105 = t := Option.some.inj (show some 105 = some t from ht)
      have s1_4 : x1 = 4 := Int32.toInt_inj.mp (by rw [hx]; rfl)
      have s1_0 : ¬ (x1 = 0) := fun z => by rw [s1_4] at z; exact absurd z (by decide)
      have s1_1 : ¬ (x1 = 1) := fun z => by rw [s1_4] at z; exact absurd z (by decide)
      have s1_2 : ¬ (x1 = 2) := fun z => by rw [s1_4] at z; exact absurd z (by decide)
      have s1_3 : ¬ (x1 = 3) := fun z => by rw [s1_4] at z; exact absurd z (by decide)
      refine j_V.ldL xa75_M xa75_105 rfl (i := 0) (kd := 2) (v := .ref 0) (pcJ := 106) rfl L rfl rfl rfl ?_
      refine j_V.ldL xa75_M xa75_106 rfl (i := 0) (kd := 2) (v := .ref 0) (pcJ := 107) rfl L rfl rfl rfl ?_
      refine j_V.getK xa75_M xa75_107 (ci := 9) (j := 2) rfl K rfl rfl ?_
      refine j_V.one xa75_M xa75_110 (by decide) (pcJ := 111) (stJ := [.int 0, .ref 4, .ref 0]) rfl ?_
      refine j_V.cl xa75_M xa75_111 rfl (md := 3) (mj := 62) rfl (by decide) xa03_M (As := [.ref 4, .int 0]) (rest := [.ref 0]) (jk_spl3 (K.at rfl) rfl rfl rfl (Nat.le_of_ble_eq_true rfl) (Nat.le_of_ble_eq_true rfl)) (fun d => xa03_ok (K.fi [4, 7, 327] rfl rfl)) ?_
      rintro r hz ⟨rfl, ez⟩
      rw [ez]
      clear ez
      show j_V jP _ 116 114 lv [.int (x_count ph nt 0), .ref 0] h _
      refine j_V.cl xa75_M xa75_114 rfl (md := 3) (mj := 159) rfl (by decide) xa49_M (As := [.ref 0, .int (x_count ph nt 0)]) (rest := []) (jk_spl3 (K.at rfl) rfl rfl rfl (Nat.le_of_ble_eq_true rfl) (Nat.le_of_ble_eq_true rfl)) (fun d => xa49_ok (K.fi [0] rfl rfl)) ?_
      rintro r h9 ⟨rfl, K9⟩
      generalize ez6 : (x_qanswer sst (x_count ph nt 0)) = z6 at K9 ⊢
      have K : KN h9 [(0, .inl (9, [.ref 1, .ref 3, .ref 4, .ref 29, .ref 281, .ref 325, .ref 327, .ref 343, .int (z6.2)])), (4, .inl (7, [.ref 327, .int mi, .int shu, .int bus, .ref 5, .ref 6, .ref 7, .ref 8, .ref 9, .ref 10, .ref 11, .ref 12, .ref 13, .ref 14, .ref 15, .int lks, .ref 16, .ref 17, .ref 20])), (6, .inr (.inl (0, sta))), (7, .inr (.inl (0, ph))), (8, .inr (.inl (0, sp))), (9, .inr (.inl (0, ce))), (12, .inr (.inl (0, ri))), (14, .inr (.inl (0, cm))), (17, .inl (5, [.ref 18, .int rl, .ref 19])), (18, .inr (.inl (0, row))), (19, .inr (.inl (0, sea))), (29, .inl (0, [.ref 30, .int acne, .int acco])), (327, .inl (2, [.int ns, .ref 328, .ref 329, .ref 330, .ref 331, .int nt, .ref 332, .ref 333, .ref 334, .ref 335, .ref 336, .ref 337, .ref 338, .int cel, .ref 339, .ref 340, .ref 341, .ref 342])), (331, .inr (.inl (0, len))), (334, .inr (.inl (0, frm))), (335, .inr (.inl (0, tto))), (338, .inr (.inl (0, wei))), (339, .inr (.inl (0, fit))), (340, .inr (.inl (0, way))), (342, .inr (.inl (0, lon)))] h0 := K.mg K9 rfl rfl
      clear K9
      show j_V jP _ 116 117 lv [.int (z6.1)] h9 _
      subst ez6
      refine j_V.ri xa75_M xa75_117 ?_
      rw [show (x_qmany mi shu bus sta ph sp ce ri cm rl row sea ns nt len frm tto wei fit way lon sst acco x1) = _ from ((if_neg s1_0).trans ((if_neg s1_1).trans ((if_neg s1_2).trans ((if_neg s1_3).trans ((if_pos s1_4).trans (rfl))))))]
      exact ⟨rfl, K⟩
    | 5, ho, hx =>
      obtain rfl := Option.some.inj (show some (117 : Int) = some off from ho)
      obtain rfl : 118 = t := Option.some.inj (show some 118 = some t from ht)
      have s1_5 : x1 = 5 := Int32.toInt_inj.mp (by rw [hx]; rfl)
      have s1_0 : ¬ (x1 = 0) := fun z => by rw [s1_5] at z; exact absurd z (by decide)
      have s1_1 : ¬ (x1 = 1) := fun z => by rw [s1_5] at z; exact absurd z (by decide)
      have s1_2 : ¬ (x1 = 2) := fun z => by rw [s1_5] at z; exact absurd z (by decide)
      have s1_3 : ¬ (x1 = 3) := fun z => by rw [s1_5] at z; exact absurd z (by decide)
      have s1_4 : ¬ (x1 = 4) := fun z => by rw [s1_5] at z; exact absurd z (by decide)
      refine j_V.ldL xa75_M xa75_118 rfl (i := 0) (kd := 2) (v := .ref 0) (pcJ := 119) rfl L rfl rfl rfl ?_
      refine j_V.ldL xa75_M xa75_119 rfl (i := 0) (kd := 2) (v := .ref 0) (pcJ := 120) rfl L rfl rfl rfl ?_
      refine j_V.getK xa75_M xa75_120 (ci := 9) (j := 2) rfl K rfl rfl ?_
      refine j_V.one xa75_M xa75_123 (by decide) (pcJ := 124) (stJ := [.int (-1), .ref 4, .ref 0]) rfl ?_
      refine j_V.cl xa75_M xa75_124 rfl (md := 3) (mj := 65) rfl (by decide) xa06_M (As := [.ref 4, .int (-1)]) (rest := [.ref 0]) (jk_spl3 (K.at rfl) rfl rfl rfl (Nat.le_of_ble_eq_true rfl) (Nat.le_of_ble_eq_true rfl)) (fun d => xa06_ok (K.fi [4, 6, 7, 14, 327, 335, 338, 342] rfl rfl)) ?_
      rintro r hz ⟨rfl, ez⟩
      rw [ez]
      clear ez
      show j_V jP _ 116 127 lv [.int (x_price sta ph cm nt tto wei lon (-1)), .ref 0] h _
      refine j_V.cl xa75_M xa75_127 rfl (md := 3) (mj := 159) rfl (by decide) xa49_M (As := [.ref 0, .int (x_price sta ph cm nt tto wei lon (-1))]) (rest := []) (jk_spl3 (K.at rfl) rfl rfl rfl (Nat.le_of_ble_eq_true rfl) (Nat.le_of_ble_eq_true rfl)) (fun d => xa49_ok (K.fi [0] rfl rfl)) ?_
      rintro r h9 ⟨rfl, K9⟩
      generalize ez7 : (x_qanswer sst (x_price sta ph cm nt tto wei lon (-1))) = z7 at K9 ⊢
      have K : KN h9 [(0, .inl (9, [.ref 1, .ref 3, .ref 4, .ref 29, .ref 281, .ref 325, .ref 327, .ref 343, .int (z7.2)])), (4, .inl (7, [.ref 327, .int mi, .int shu, .int bus, .ref 5, .ref 6, .ref 7, .ref 8, .ref 9, .ref 10, .ref 11, .ref 12, .ref 13, .ref 14, .ref 15, .int lks, .ref 16, .ref 17, .ref 20])), (6, .inr (.inl (0, sta))), (7, .inr (.inl (0, ph))), (8, .inr (.inl (0, sp))), (9, .inr (.inl (0, ce))), (12, .inr (.inl (0, ri))), (14, .inr (.inl (0, cm))), (17, .inl (5, [.ref 18, .int rl, .ref 19])), (18, .inr (.inl (0, row))), (19, .inr (.inl (0, sea))), (29, .inl (0, [.ref 30, .int acne, .int acco])), (327, .inl (2, [.int ns, .ref 328, .ref 329, .ref 330, .ref 331, .int nt, .ref 332, .ref 333, .ref 334, .ref 335, .ref 336, .ref 337, .ref 338, .int cel, .ref 339, .ref 340, .ref 341, .ref 342])), (331, .inr (.inl (0, len))), (334, .inr (.inl (0, frm))), (335, .inr (.inl (0, tto))), (338, .inr (.inl (0, wei))), (339, .inr (.inl (0, fit))), (340, .inr (.inl (0, way))), (342, .inr (.inl (0, lon)))] h0 := K.mg K9 rfl rfl
      clear K9
      show j_V jP _ 116 130 lv [.int (z7.1)] h9 _
      subst ez7
      refine j_V.ri xa75_M xa75_130 ?_
      rw [show (x_qmany mi shu bus sta ph sp ce ri cm rl row sea ns nt len frm tto wei fit way lon sst acco x1) = _ from ((if_neg s1_0).trans ((if_neg s1_1).trans ((if_neg s1_2).trans ((if_neg s1_3).trans ((if_neg s1_4).trans ((if_pos s1_5).trans (rfl)))))))]
      exact ⟨rfl, K⟩
    | 6, ho, hx =>
      obtain rfl := Option.some.inj (show some (130 : Int) = some off from ho)
      obtain rfl : 131 = t := Option.some.inj (show some 131 = some t from ht)
      have s1_6 : x1 = 6 := Int32.toInt_inj.mp (by rw [hx]; rfl)
      have s1_0 : ¬ (x1 = 0) := fun z => by rw [s1_6] at z; exact absurd z (by decide)
      have s1_1 : ¬ (x1 = 1) := fun z => by rw [s1_6] at z; exact absurd z (by decide)
      have s1_2 : ¬ (x1 = 2) := fun z => by rw [s1_6] at z; exact absurd z (by decide)
      have s1_3 : ¬ (x1 = 3) := fun z => by rw [s1_6] at z; exact absurd z (by decide)
      have s1_4 : ¬ (x1 = 4) := fun z => by rw [s1_6] at z; exact absurd z (by decide)
      have s1_5 : ¬ (x1 = 5) := fun z => by rw [s1_6] at z; exact absurd z (by decide)
      refine j_V.ldL xa75_M xa75_131 rfl (i := 0) (kd := 2) (v := .ref 0) (pcJ := 132) rfl L rfl rfl rfl ?_
      refine j_V.ldL xa75_M xa75_132 rfl (i := 0) (kd := 2) (v := .ref 0) (pcJ := 133) rfl L rfl rfl rfl ?_
      refine j_V.getK xa75_M xa75_133 (ci := 9) (j := 3) rfl K rfl rfl ?_
      refine j_V.getK xa75_M xa75_136 (ci := 0) (j := 2) rfl K rfl rfl ?_
      refine j_V.cl xa75_M xa75_139 rfl (md := 3) (mj := 159) rfl (by decide) xa49_M (As := [.ref 0, .int acco]) (rest := []) (jk_spl3 (K.at rfl) rfl rfl rfl (Nat.le_of_ble_eq_true rfl) (Nat.le_of_ble_eq_true rfl)) (fun d => xa49_ok (K.fi [0] rfl rfl)) ?_
      rintro r h9 ⟨rfl, K9⟩
      generalize ez8 : (x_qanswer sst acco) = z8 at K9 ⊢
      have K : KN h9 [(0, .inl (9, [.ref 1, .ref 3, .ref 4, .ref 29, .ref 281, .ref 325, .ref 327, .ref 343, .int (z8.2)])), (4, .inl (7, [.ref 327, .int mi, .int shu, .int bus, .ref 5, .ref 6, .ref 7, .ref 8, .ref 9, .ref 10, .ref 11, .ref 12, .ref 13, .ref 14, .ref 15, .int lks, .ref 16, .ref 17, .ref 20])), (6, .inr (.inl (0, sta))), (7, .inr (.inl (0, ph))), (8, .inr (.inl (0, sp))), (9, .inr (.inl (0, ce))), (12, .inr (.inl (0, ri))), (14, .inr (.inl (0, cm))), (17, .inl (5, [.ref 18, .int rl, .ref 19])), (18, .inr (.inl (0, row))), (19, .inr (.inl (0, sea))), (29, .inl (0, [.ref 30, .int acne, .int acco])), (327, .inl (2, [.int ns, .ref 328, .ref 329, .ref 330, .ref 331, .int nt, .ref 332, .ref 333, .ref 334, .ref 335, .ref 336, .ref 337, .ref 338, .int cel, .ref 339, .ref 340, .ref 341, .ref 342])), (331, .inr (.inl (0, len))), (334, .inr (.inl (0, frm))), (335, .inr (.inl (0, tto))), (338, .inr (.inl (0, wei))), (339, .inr (.inl (0, fit))), (340, .inr (.inl (0, way))), (342, .inr (.inl (0, lon)))] h0 := K.mg K9 rfl rfl
      clear K9
      show j_V jP _ 116 142 lv [.int (z8.1)] h9 _
      subst ez8
      refine j_V.ri xa75_M xa75_142 ?_
      rw [show (x_qmany mi shu bus sta ph sp ce ri cm rl row sea ns nt len frm tto wei fit way lon sst acco x1) = _ from ((if_neg s1_0).trans ((if_neg s1_1).trans ((if_neg s1_2).trans ((if_neg s1_3).trans ((if_neg s1_4).trans ((if_neg s1_5).trans ((if_pos s1_6).trans (rfl))))))))]
      exact ⟨rfl, K⟩
    | 7, ho, hx =>
      obtain rfl := Option.some.inj (show some (142 : Int) = some off from ho)
      obtain rfl : 143 = t := Option.some.inj (show some 143 = some t from ht)
      have s1_7 : x1 = 7 := Int32.toInt_inj.mp (by rw [hx]; rfl)
      have s1_0 : ¬ (x1 = 0) := fun z => by rw [s1_7] at z; exact absurd z (by decide)
      have s1_1 : ¬ (x1 = 1) := fun z => by rw [s1_7] at z; exact absurd z (by decide)
      have s1_2 : ¬ (x1 = 2) := fun z => by rw [s1_7] at z; exact absurd z (by decide)
      have s1_3 : ¬ (x1 = 3) := fun z => by rw [s1_7] at z; exact absurd z (by decide)
      have s1_4 : ¬ (x1 = 4) := fun z => by rw [s1_7] at z; exact absurd z (by decide)
      have s1_5 : ¬ (x1 = 5) := fun z => by rw [s1_7] at z; exact absurd z (by decide)
      have s1_6 : ¬ (x1 = 6) := fun z => by rw [s1_7] at z; exact absurd z (by decide)
      refine j_V.ldL xa75_M xa75_143 rfl (i := 0) (kd := 2) (v := .ref 0) (pcJ := 144) rfl L rfl rfl rfl ?_
      refine j_V.ldL xa75_M xa75_144 rfl (i := 0) (kd := 2) (v := .ref 0) (pcJ := 145) rfl L rfl rfl rfl ?_
      refine j_V.getK xa75_M xa75_145 (ci := 9) (j := 2) rfl K rfl rfl ?_
      refine j_V.cl xa75_M xa75_148 rfl (md := 3) (mj := 76) rfl (by decide) xa40_M (As := [.ref 4]) (rest := [.ref 0]) (jk_spl3 (K.at rfl) rfl rfl rfl (Nat.le_of_ble_eq_true rfl) (Nat.le_of_ble_eq_true rfl)) (fun d => xa40_ok (K.fi [4, 9, 17, 18, 19, 327, 339, 340] rfl rfl)) ?_
      rintro r h9 ⟨rfl, K9⟩
      generalize ez9 : (x_isSafe shu ce rl row sea nt fit way) = z9 at K9 ⊢
      have K : KN h9 [(0, .inl (9, [.ref 1, .ref 3, .ref 4, .ref 29, .ref 281, .ref 325, .ref 327, .ref 343, .int sst])), (4, .inl (7, [.ref 327, .int mi, .int shu, .int bus, .ref 5, .ref 6, .ref 7, .ref 8, .ref 9, .ref 10, .ref 11, .ref 12, .ref 13, .ref 14, .ref 15, .int lks, .ref 16, .ref 17, .ref 20])), (6, .inr (.inl (0, sta))), (7, .inr (.inl (0, ph))), (8, .inr (.inl (0, sp))), (9, .inr (.inl (0, ce))), (12, .inr (.inl (0, ri))), (14, .inr (.inl (0, cm))), (17, .inl (5, [.ref 18, .int (z9.2.2.2), .ref 19])), (18, .inr (.inl (0, (z9.2.2.1)))), (19, .inr (.inl (0, (z9.2.1)))), (29, .inl (0, [.ref 30, .int acne, .int acco])), (327, .inl (2, [.int ns, .ref 328, .ref 329, .ref 330, .ref 331, .int nt, .ref 332, .ref 333, .ref 334, .ref 335, .ref 336, .ref 337, .ref 338, .int cel, .ref 339, .ref 340, .ref 341, .ref 342])), (331, .inr (.inl (0, len))), (334, .inr (.inl (0, frm))), (335, .inr (.inl (0, tto))), (338, .inr (.inl (0, wei))), (339, .inr (.inl (0, fit))), (340, .inr (.inl (0, way))), (342, .inr (.inl (0, lon)))] h0 := K.mg K9 rfl rfl
      clear K9
      show j_V jP _ 116 151 lv [.int (z9.1), .ref 0] h9 _
      refine j_V.cut (b := 159) (stJ := [.int ((if (z9.1) = 0 then 0 else 1) : Int32), .ref 0]) (fun v => [(0, .ref 0), (1, .int x1)]) ((if (z9.1) = 0 then 0 else 1) : Int32) (fun Q kk => ?_) (fun lv L => ?_)
      · refine j_V.ifc xa75_M xa75_151 (t := 158) rfl (fun c151_0 => ?_) (fun c151_0 => ?_)
        · replace c151_0 : (z9.1) = 0 := jd_eq c151_0
          refine j_V.one xa75_M xa75_158 (by decide) (pcJ := 159) (stJ := [.int 0, .ref 0]) rfl ?_
          exact Eq.subst (motive := fun z => j_V jP _ 116 159 _ (.int z :: [.ref 0]) h9 Q) (show ((if (z9.1) = 0 then 0 else 1) : Int32) = 0 from (if_pos c151_0).trans (rfl)) (kk _ L)
        · replace c151_0 : ¬ ((z9.1) = 0) := jd_eqn c151_0
          refine j_V.one xa75_M xa75_154 (by decide) (pcJ := 155) (stJ := [.int 1, .ref 0]) rfl ?_
          refine j_V.gto xa75_M xa75_155 (t := 159) rfl ?_
          exact Eq.subst (motive := fun z => j_V jP _ 116 159 _ (.int z :: [.ref 0]) h9 Q) (show ((if (z9.1) = 0 then 0 else 1) : Int32) = 1 from (if_neg c151_0).trans (rfl)) (kk _ L)
      refine j_V.cl xa75_M xa75_159 rfl (md := 3) (mj := 159) rfl (by decide) xa49_M (As := [.ref 0, .int ((if (z9.1) = 0 then 0 else 1) : Int32)]) (rest := []) (jk_spl3 (K.at rfl) rfl rfl rfl (Nat.le_of_ble_eq_true rfl) (Nat.le_of_ble_eq_true rfl)) (fun d => xa49_ok (K.fi [0] rfl rfl)) ?_
      rintro r h9 ⟨rfl, K9⟩
      generalize ez10 : (x_qanswer sst ((if (z9.1) = 0 then 0 else 1) : Int32)) = z10 at K9 ⊢
      have K : KN h9 [(0, .inl (9, [.ref 1, .ref 3, .ref 4, .ref 29, .ref 281, .ref 325, .ref 327, .ref 343, .int (z10.2)])), (4, .inl (7, [.ref 327, .int mi, .int shu, .int bus, .ref 5, .ref 6, .ref 7, .ref 8, .ref 9, .ref 10, .ref 11, .ref 12, .ref 13, .ref 14, .ref 15, .int lks, .ref 16, .ref 17, .ref 20])), (6, .inr (.inl (0, sta))), (7, .inr (.inl (0, ph))), (8, .inr (.inl (0, sp))), (9, .inr (.inl (0, ce))), (12, .inr (.inl (0, ri))), (14, .inr (.inl (0, cm))), (17, .inl (5, [.ref 18, .int (z9.2.2.2), .ref 19])), (18, .inr (.inl (0, (z9.2.2.1)))), (19, .inr (.inl (0, (z9.2.1)))), (29, .inl (0, [.ref 30, .int acne, .int acco])), (327, .inl (2, [.int ns, .ref 328, .ref 329, .ref 330, .ref 331, .int nt, .ref 332, .ref 333, .ref 334, .ref 335, .ref 336, .ref 337, .ref 338, .int cel, .ref 339, .ref 340, .ref 341, .ref 342])), (331, .inr (.inl (0, len))), (334, .inr (.inl (0, frm))), (335, .inr (.inl (0, tto))), (338, .inr (.inl (0, wei))), (339, .inr (.inl (0, fit))), (340, .inr (.inl (0, way))), (342, .inr (.inl (0, lon)))] h0 := K.mg K9 rfl rfl
      clear K9
      show j_V jP _ 116 162 lv [.int (z10.1)] h9 _
      subst ez10
      subst ez9
      refine j_V.ri xa75_M xa75_162 ?_
      rw [show (x_qmany mi shu bus sta ph sp ce ri cm rl row sea ns nt len frm tto wei fit way lon sst acco x1) = _ from ((if_neg s1_0).trans ((if_neg s1_1).trans ((if_neg s1_2).trans ((if_neg s1_3).trans ((if_neg s1_4).trans ((if_neg s1_5).trans ((if_neg s1_6).trans ((if_pos s1_7).trans (rfl)))))))))]
      exact ⟨rfl, K⟩
    | 8, ho, hx =>
      obtain rfl := Option.some.inj (show some (162 : Int) = some off from ho)
      obtain rfl : 163 = t := Option.some.inj (show some 163 = some t from ht)
      have s1_8 : x1 = 8 := Int32.toInt_inj.mp (by rw [hx]; rfl)
      have s1_0 : ¬ (x1 = 0) := fun z => by rw [s1_8] at z; exact absurd z (by decide)
      have s1_1 : ¬ (x1 = 1) := fun z => by rw [s1_8] at z; exact absurd z (by decide)
      have s1_2 : ¬ (x1 = 2) := fun z => by rw [s1_8] at z; exact absurd z (by decide)
      have s1_3 : ¬ (x1 = 3) := fun z => by rw [s1_8] at z; exact absurd z (by decide)
      have s1_4 : ¬ (x1 = 4) := fun z => by rw [s1_8] at z; exact absurd z (by decide)
      have s1_5 : ¬ (x1 = 5) := fun z => by rw [s1_8] at z; exact absurd z (by decide)
      have s1_6 : ¬ (x1 = 6) := fun z => by rw [s1_8] at z; exact absurd z (by decide)
      have s1_7 : ¬ (x1 = 7) := fun z => by rw [s1_8] at z; exact absurd z (by decide)
      refine j_V.ldL xa75_M xa75_163 rfl (i := 0) (kd := 2) (v := .ref 0) (pcJ := 164) rfl L rfl rfl rfl ?_
      refine j_V.ldL xa75_M xa75_164 rfl (i := 0) (kd := 2) (v := .ref 0) (pcJ := 165) rfl L rfl rfl rfl ?_
      refine j_V.getK xa75_M xa75_165 (ci := 9) (j := 2) rfl K rfl rfl ?_
      refine j_V.cl xa75_M xa75_168 rfl (md := 3) (mj := 78) rfl (by decide) xa21_M (As := [.ref 4]) (rest := [.ref 0]) (jk_spl3 (K.at rfl) rfl rfl rfl (Nat.le_of_ble_eq_true rfl) (Nat.le_of_ble_eq_true rfl)) (fun d => xa21_ok (K.fi [4, 7, 8, 12, 327, 331, 334, 335, 339] rfl rfl)) ?_
      rintro r hz ⟨rfl, ez⟩
      rw [ez]
      clear ez
      show j_V jP _ 116 171 lv [.int (x_isStuck shu bus ph sp ri nt len frm tto fit), .ref 0] h _
      refine j_V.cut (b := 179) (stJ := [.int ((if (x_isStuck shu bus ph sp ri nt len frm tto fit) = 0 then 0 else 1) : Int32), .ref 0]) (fun v => [(0, .ref 0), (1, .int x1)]) ((if (x_isStuck shu bus ph sp ri nt len frm tto fit) = 0 then 0 else 1) : Int32) (fun Q kk => ?_) (fun lv L => ?_)
      · refine j_V.ifc xa75_M xa75_171 (t := 178) rfl (fun c171_0 => ?_) (fun c171_0 => ?_)
        · replace c171_0 : (x_isStuck shu bus ph sp ri nt len frm tto fit) = 0 := jd_eq c171_0
          refine j_V.one xa75_M xa75_178 (by decide) (pcJ := 179) (stJ := [.int 0, .ref 0]) rfl ?_
          exact Eq.subst (motive := fun z => j_V jP _ 116 179 _ (.int z :: [.ref 0]) h Q) (show ((if (x_isStuck shu bus ph sp ri nt len frm tto fit) = 0 then 0 else 1) : Int32) = 0 from (if_pos c171_0).trans (rfl)) (kk _ L)
        · replace c171_0 : ¬ ((x_isStuck shu bus ph sp ri nt len frm tto fit) = 0) := jd_eqn c171_0
          refine j_V.one xa75_M xa75_174 (by decide) (pcJ := 175) (stJ := [.int 1, .ref 0]) rfl ?_
          refine j_V.gto xa75_M xa75_175 (t := 179) rfl ?_
          exact Eq.subst (motive := fun z => j_V jP _ 116 179 _ (.int z :: [.ref 0]) h Q) (show ((if (x_isStuck shu bus ph sp ri nt len frm tto fit) = 0 then 0 else 1) : Int32) = 1 from (if_neg c171_0).trans (rfl)) (kk _ L)
      refine j_V.cl xa75_M xa75_179 rfl (md := 3) (mj := 159) rfl (by decide) xa49_M (As := [.ref 0, .int ((if (x_isStuck shu bus ph sp ri nt len frm tto fit) = 0 then 0 else 1) : Int32)]) (rest := []) (jk_spl3 (K.at rfl) rfl rfl rfl (Nat.le_of_ble_eq_true rfl) (Nat.le_of_ble_eq_true rfl)) (fun d => xa49_ok (K.fi [0] rfl rfl)) ?_
      rintro r h9 ⟨rfl, K9⟩
      generalize ez11 : (x_qanswer sst ((if (x_isStuck shu bus ph sp ri nt len frm tto fit) = 0 then 0 else 1) : Int32)) = z11 at K9 ⊢
      have K : KN h9 [(0, .inl (9, [.ref 1, .ref 3, .ref 4, .ref 29, .ref 281, .ref 325, .ref 327, .ref 343, .int (z11.2)])), (4, .inl (7, [.ref 327, .int mi, .int shu, .int bus, .ref 5, .ref 6, .ref 7, .ref 8, .ref 9, .ref 10, .ref 11, .ref 12, .ref 13, .ref 14, .ref 15, .int lks, .ref 16, .ref 17, .ref 20])), (6, .inr (.inl (0, sta))), (7, .inr (.inl (0, ph))), (8, .inr (.inl (0, sp))), (9, .inr (.inl (0, ce))), (12, .inr (.inl (0, ri))), (14, .inr (.inl (0, cm))), (17, .inl (5, [.ref 18, .int rl, .ref 19])), (18, .inr (.inl (0, row))), (19, .inr (.inl (0, sea))), (29, .inl (0, [.ref 30, .int acne, .int acco])), (327, .inl (2, [.int ns, .ref 328, .ref 329, .ref 330, .ref 331, .int nt, .ref 332, .ref 333, .ref 334, .ref 335, .ref 336, .ref 337, .ref 338, .int cel, .ref 339, .ref 340, .ref 341, .ref 342])), (331, .inr (.inl (0, len))), (334, .inr (.inl (0, frm))), (335, .inr (.inl (0, tto))), (338, .inr (.inl (0, wei))), (339, .inr (.inl (0, fit))), (340, .inr (.inl (0, way))), (342, .inr (.inl (0, lon)))] h0 := K.mg K9 rfl rfl
      clear K9
      show j_V jP _ 116 182 lv [.int (z11.1)] h9 _
      subst ez11
      refine j_V.ri xa75_M xa75_182 ?_
      rw [show (x_qmany mi shu bus sta ph sp ce ri cm rl row sea ns nt len frm tto wei fit way lon sst acco x1) = _ from ((if_neg s1_0).trans ((if_neg s1_1).trans ((if_neg s1_2).trans ((if_neg s1_3).trans ((if_neg s1_4).trans ((if_neg s1_5).trans ((if_neg s1_6).trans ((if_neg s1_7).trans ((if_pos s1_8).trans (rfl))))))))))]
      exact ⟨rfl, K⟩
    | 9, ho, hx =>
      obtain rfl := Option.some.inj (show some (182 : Int) = some off from ho)
      obtain rfl : 183 = t := Option.some.inj (show some 183 = some t from ht)
      have s1_9 : x1 = 9 := Int32.toInt_inj.mp (by rw [hx]; rfl)
      have s1_0 : ¬ (x1 = 0) := fun z => by rw [s1_9] at z; exact absurd z (by decide)
      have s1_1 : ¬ (x1 = 1) := fun z => by rw [s1_9] at z; exact absurd z (by decide)
      have s1_2 : ¬ (x1 = 2) := fun z => by rw [s1_9] at z; exact absurd z (by decide)
      have s1_3 : ¬ (x1 = 3) := fun z => by rw [s1_9] at z; exact absurd z (by decide)
      have s1_4 : ¬ (x1 = 4) := fun z => by rw [s1_9] at z; exact absurd z (by decide)
      have s1_5 : ¬ (x1 = 5) := fun z => by rw [s1_9] at z; exact absurd z (by decide)
      have s1_6 : ¬ (x1 = 6) := fun z => by rw [s1_9] at z; exact absurd z (by decide)
      have s1_7 : ¬ (x1 = 7) := fun z => by rw [s1_9] at z; exact absurd z (by decide)
      have s1_8 : ¬ (x1 = 8) := fun z => by rw [s1_9] at z; exact absurd z (by decide)
      refine j_V.ldL xa75_M xa75_183 rfl (i := 0) (kd := 2) (v := .ref 0) (pcJ := 184) rfl L rfl rfl rfl ?_
      refine j_V.ldL xa75_M xa75_184 rfl (i := 0) (kd := 2) (v := .ref 0) (pcJ := 185) rfl L rfl rfl rfl ?_
      refine j_V.getK xa75_M xa75_185 (ci := 9) (j := 2) rfl K rfl rfl ?_
      refine j_V.cl xa75_M xa75_188 rfl (md := 3) (mj := 64) rfl (by decide) xa05_M (As := [.ref 4]) (rest := [.ref 0]) (jk_spl3 (K.at rfl) rfl rfl rfl (Nat.le_of_ble_eq_true rfl) (Nat.le_of_ble_eq_true rfl)) (fun d => xa05_ok (K.fi [4, 6, 7, 14, 327, 335, 342] rfl rfl)) ?_
      rintro r hz ⟨rfl, ez⟩
      rw [ez]
      clear ez
      show j_V jP _ 116 191 lv [.int (x_greatestDelay sta ph cm nt tto lon), .ref 0] h _
      refine j_V.cl xa75_M xa75_191 rfl (md := 3) (mj := 159) rfl (by decide) xa49_M (As := [.ref 0, .int (x_greatestDelay sta ph cm nt tto lon)]) (rest := []) (jk_spl3 (K.at rfl) rfl rfl rfl (Nat.le_of_ble_eq_true rfl) (Nat.le_of_ble_eq_true rfl)) (fun d => xa49_ok (K.fi [0] rfl rfl)) ?_
      rintro r h9 ⟨rfl, K9⟩
      generalize ez12 : (x_qanswer sst (x_greatestDelay sta ph cm nt tto lon)) = z12 at K9 ⊢
      have K : KN h9 [(0, .inl (9, [.ref 1, .ref 3, .ref 4, .ref 29, .ref 281, .ref 325, .ref 327, .ref 343, .int (z12.2)])), (4, .inl (7, [.ref 327, .int mi, .int shu, .int bus, .ref 5, .ref 6, .ref 7, .ref 8, .ref 9, .ref 10, .ref 11, .ref 12, .ref 13, .ref 14, .ref 15, .int lks, .ref 16, .ref 17, .ref 20])), (6, .inr (.inl (0, sta))), (7, .inr (.inl (0, ph))), (8, .inr (.inl (0, sp))), (9, .inr (.inl (0, ce))), (12, .inr (.inl (0, ri))), (14, .inr (.inl (0, cm))), (17, .inl (5, [.ref 18, .int rl, .ref 19])), (18, .inr (.inl (0, row))), (19, .inr (.inl (0, sea))), (29, .inl (0, [.ref 30, .int acne, .int acco])), (327, .inl (2, [.int ns, .ref 328, .ref 329, .ref 330, .ref 331, .int nt, .ref 332, .ref 333, .ref 334, .ref 335, .ref 336, .ref 337, .ref 338, .int cel, .ref 339, .ref 340, .ref 341, .ref 342])), (331, .inr (.inl (0, len))), (334, .inr (.inl (0, frm))), (335, .inr (.inl (0, tto))), (338, .inr (.inl (0, wei))), (339, .inr (.inl (0, fit))), (340, .inr (.inl (0, way))), (342, .inr (.inl (0, lon)))] h0 := K.mg K9 rfl rfl
      clear K9
      show j_V jP _ 116 194 lv [.int (z12.1)] h9 _
      subst ez12
      refine j_V.ri xa75_M xa75_194 ?_
      rw [show (x_qmany mi shu bus sta ph sp ce ri cm rl row sea ns nt len frm tto wei fit way lon sst acco x1) = _ from ((if_neg s1_0).trans ((if_neg s1_1).trans ((if_neg s1_2).trans ((if_neg s1_3).trans ((if_neg s1_4).trans ((if_neg s1_5).trans ((if_neg s1_6).trans ((if_neg s1_7).trans ((if_neg s1_8).trans ((if_pos s1_9).trans (rfl)))))))))))]
      exact ⟨rfl, K⟩
    | k + 10, ho, hx => cases ho
set_option maxRecDepth 100000 in
theorem xair_M : j_meth jP 82 = some (yX7_isInRing, cX7_isInRing, 5, (some .boolean), 1, false, 7) := rfl
set_option maxRecDepth 100000 in
theorem xair_0 : j_code jP 82 0 = some (.aload_n 0) := rfl
set_option maxRecDepth 100000 in
theorem xair_1 : j_code jP 82 1 = some (.iload_n 1) := rfl
set_option maxRecDepth 100000 in
theorem xair_2 : j_code jP 82 2 = some (.invokevirtual 158) := rfl
set_option maxRecDepth 100000 in
theorem xair_5 : j_code jP 82 5 = some (.istore_n 2) := rfl
set_option maxRecDepth 100000 in
theorem xair_6 : j_code jP 82 6 = some (.iconst 0) := rfl
set_option maxRecDepth 100000 in
theorem xair_7 : j_code jP 82 7 = some (.istore_n 3) := rfl
set_option maxRecDepth 100000 in
theorem xair_8 : j_code jP 82 8 = some (.iload_n 3) := rfl
set_option maxRecDepth 100000 in
theorem xair_9 : j_code jP 82 9 = some (.aload_n 0) := rfl
set_option maxRecDepth 100000 in
theorem xair_10 : j_code jP 82 10 = some (.getfield 64) := rfl
set_option maxRecDepth 100000 in
theorem xair_13 : j_code jP 82 13 = some (.getfield 102) := rfl
set_option maxRecDepth 100000 in
theorem xair_16 : j_code jP 82 16 = some (.if_icmp .ge 48) := rfl
set_option maxRecDepth 100000 in
theorem xair_19 : j_code jP 82 19 = some (.iconst 0) := rfl
set_option maxRecDepth 100000 in
theorem xair_20 : j_code jP 82 20 = some (.istore 4) := rfl
set_option maxRecDepth 100000 in
theorem xair_22 : j_code jP 82 22 = some (.iload 4) := rfl
set_option maxRecDepth 100000 in
theorem xair_24 : j_code jP 82 24 = some (.aload_n 0) := rfl
set_option maxRecDepth 100000 in
theorem xair_25 : j_code jP 82 25 = some (.getfield 64) := rfl
set_option maxRecDepth 100000 in
theorem xair_28 : j_code jP 82 28 = some (.getfield 102) := rfl
set_option maxRecDepth 100000 in
theorem xair_31 : j_code jP 82 31 = some (.if_icmp .ge 27) := rfl
set_option maxRecDepth 100000 in
theorem xair_34 : j_code jP 82 34 = some (.iload_n 2) := rfl
set_option maxRecDepth 100000 in
theorem xair_35 : j_code jP 82 35 = some (.iload 4) := rfl
set_option maxRecDepth 100000 in
theorem xair_37 : j_code jP 82 37 = some (.ishr) := rfl
set_option maxRecDepth 100000 in
theorem xair_38 : j_code jP 82 38 = some (.iconst 1) := rfl
set_option maxRecDepth 100000 in
theorem xair_39 : j_code jP 82 39 = some (.iand) := rfl
set_option maxRecDepth 100000 in
theorem xair_40 : j_code jP 82 40 = some (.ifCond .eq 12) := rfl
set_option maxRecDepth 100000 in
theorem xair_43 : j_code jP 82 43 = some (.iload_n 2) := rfl
set_option maxRecDepth 100000 in
theorem xair_44 : j_code jP 82 44 = some (.aload_n 0) := rfl
set_option maxRecDepth 100000 in
theorem xair_45 : j_code jP 82 45 = some (.iload 4) := rfl
set_option maxRecDepth 100000 in
theorem xair_47 : j_code jP 82 47 = some (.invokevirtual 158) := rfl
set_option maxRecDepth 100000 in
theorem xair_50 : j_code jP 82 50 = some (.ior) := rfl
set_option maxRecDepth 100000 in
theorem xair_51 : j_code jP 82 51 = some (.istore_n 2) := rfl
set_option maxRecDepth 100000 in
theorem xair_52 : j_code jP 82 52 = some (.iinc 4 1) := rfl
set_option maxRecDepth 100000 in
theorem xair_55 : j_code jP 82 55 = some (.goto (-33)) := rfl
set_option maxRecDepth 100000 in
theorem xair_58 : j_code jP 82 58 = some (.iinc 3 1) := rfl
set_option maxRecDepth 100000 in
theorem xair_61 : j_code jP 82 61 = some (.goto (-53)) := rfl
set_option maxRecDepth 100000 in
theorem xair_64 : j_code jP 82 64 = some (.iload_n 2) := rfl
set_option maxRecDepth 100000 in
theorem xair_65 : j_code jP 82 65 = some (.iload_n 1) := rfl
set_option maxRecDepth 100000 in
theorem xair_66 : j_code jP 82 66 = some (.ishr) := rfl
set_option maxRecDepth 100000 in
theorem xair_67 : j_code jP 82 67 = some (.iconst 1) := rfl
set_option maxRecDepth 100000 in
theorem xair_68 : j_code jP 82 68 = some (.iand) := rfl
set_option maxRecDepth 100000 in
theorem xair_69 : j_code jP 82 69 = some (.ifCond .eq 7) := rfl
set_option maxRecDepth 100000 in
theorem xair_72 : j_code jP 82 72 = some (.iconst 1) := rfl
set_option maxRecDepth 100000 in
theorem xair_73 : j_code jP 82 73 = some (.goto 4) := rfl
set_option maxRecDepth 100000 in
theorem xair_76 : j_code jP 82 76 = some (.iconst 0) := rfl
set_option maxRecDepth 100000 in
theorem xair_77 : j_code jP 82 77 = some (.ireturn) := rfl
def x_isInRing_l22 (shu : Int32) (bus : Int32) (ph : List Int32) (sp : List Int32) (ce : List Int32) (ri : List Int32) (nt : Int32) (tra : List Int32) (len : List Int32) (frm : List Int32) (tto : List Int32) (fit : List Int32) : Nat → Int32 → Int32 → Int32
  | 0, v4, v2 => v2
  | f + 1, v4, v2 => (if ((v2 >>> (v4 &&& 31)) &&& 1) = 0 then (x_isInRing_l22 shu bus ph sp ce ri nt tra len frm tto fit f (v4 + 1) v2) else (x_isInRing_l22 shu bus ph sp ce ri nt tra len frm tto fit f (v4 + 1) (v2 ||| (x_waitsFor shu bus ph sp ce ri nt tra len frm tto fit v4))))
set_option maxRecDepth 1000000 in
theorem xair_ok_l22 {mi : Int32} {shu : Int32} {bus : Int32} {lks : Int32} {ph : List Int32} {sp : List Int32} {ce : List Int32} {ri : List Int32} {ns : Int32} {nt : Int32} {cel : Int32} {tra : List Int32} {len : List Int32} {frm : List Int32} {tto : List Int32} {fit : List Int32} {d : Nat} {h h0 : J_H} {x1 v3 : Int32} {Q : Option Value → J_H → Prop} (K : KN h [(4, .inl (7, [.ref 327, .int mi, .int shu, .int bus, .ref 5, .ref 6, .ref 7, .ref 8, .ref 9, .ref 10, .ref 11, .ref 12, .ref 13, .ref 14, .ref 15, .int lks, .ref 16, .ref 17, .ref 20])), (7, .inr (.inl (0, ph))), (8, .inr (.inl (0, sp))), (9, .inr (.inl (0, ce))), (12, .inr (.inl (0, ri))), (327, .inl (2, [.int ns, .ref 328, .ref 329, .ref 330, .ref 331, .int nt, .ref 332, .ref 333, .ref 334, .ref 335, .ref 336, .ref 337, .ref 338, .int cel, .ref 339, .ref 340, .ref 341, .ref 342])), (330, .inr (.inl (0, tra))), (331, .inr (.inl (0, len))), (334, .inr (.inl (0, frm))), (335, .inr (.inl (0, tto))), (339, .inr (.inl (0, fit)))] h0) : ∀ (f : Nat) (v4 v2 : Int32) {lv : J_L}, lpN nt v4 = f → LK lv [(0, .ref 4), (1, .int x1), (2, .int v2), (3, .int v3), (4, .int v4)] → (∀ lv, LK lv [(0, .ref 4), (1, .int x1), (2, .int (x_isInRing_l22 shu bus ph sp ce ri nt tra len frm tto fit f v4 v2)), (3, .int v3)] → j_V jP d 82 58 lv [] h Q) → j_V jP d 82 22 lv [] h Q := by
  intro f
  induction f with
  | zero =>
    intro v4 v2 lv e L kk
    refine j_V.ldL xair_M xair_22 rfl (i := 4) (kd := 0) (v := .int v4) (pcJ := 24) rfl L rfl rfl rfl ?_
    refine j_V.ldL xair_M xair_24 rfl (i := 0) (kd := 2) (v := .ref 4) (pcJ := 25) rfl L rfl rfl rfl ?_
    refine j_V.getK xair_M xair_25 (ci := 7) (j := 0) rfl K rfl rfl ?_
    refine j_V.getK xair_M xair_28 (ci := 2) (j := 5) rfl K rfl rfl ?_
    refine j_V.icmp xair_M xair_31 (t := 58) rfl (fun c31_0 => ?_) (fun c31_0 => ?_)
    · replace c31_0 : ¬ (v4 < nt) := jd_ge c31_0
      exact kk _ (L.sub ⟨rfl, rfl, rfl, rfl, trivial⟩)
    · replace c31_0 : v4 < nt := jd_gen c31_0
      exact absurd c31_0 (lpN_z e)
  | succ f ih =>
    intro v4 v2 lv e L kk
    refine j_V.ldL xair_M xair_22 rfl (i := 4) (kd := 0) (v := .int v4) (pcJ := 24) rfl L rfl rfl rfl ?_
    refine j_V.ldL xair_M xair_24 rfl (i := 0) (kd := 2) (v := .ref 4) (pcJ := 25) rfl L rfl rfl rfl ?_
    refine j_V.getK xair_M xair_25 (ci := 7) (j := 0) rfl K rfl rfl ?_
    refine j_V.getK xair_M xair_28 (ci := 2) (j := 5) rfl K rfl rfl ?_
    refine j_V.icmp xair_M xair_31 (t := 58) rfl (fun c31_0 => ?_) (fun c31_0 => ?_)
    · replace c31_0 : ¬ (v4 < nt) := jd_ge c31_0
      exact absurd (lpN_s e) c31_0
    · replace c31_0 : v4 < nt := jd_gen c31_0
      refine j_V.ldL xair_M xair_34 rfl (i := 2) (kd := 0) (v := .int v2) (pcJ := 35) rfl L rfl rfl rfl ?_
      refine j_V.ldL xair_M xair_35 rfl (i := 4) (kd := 0) (v := .int v4) (pcJ := 37) rfl L rfl rfl rfl ?_
      refine j_V.one xair_M xair_37 (by decide) (pcJ := 38) (stJ := [.int (v2 >>> (v4 &&& 31))]) rfl ?_
      refine j_V.one xair_M xair_38 (by decide) (pcJ := 39) (stJ := [.int 1, .int (v2 >>> (v4 &&& 31))]) rfl ?_
      refine j_V.one xair_M xair_39 (by decide) (pcJ := 40) (stJ := [.int ((v2 >>> (v4 &&& 31)) &&& 1)]) rfl ?_
      refine j_V.ifc xair_M xair_40 (t := 52) rfl (fun c40_0 => ?_) (fun c40_0 => ?_)
      · replace c40_0 : ((v2 >>> (v4 &&& 31)) &&& 1) = 0 := jd_eq c40_0
        refine j_V.inL xair_M xair_52 (i := 4) (kl' := [(0, .ref 4), (1, .int x1), (2, .int v2), (3, .int v3), (4, .int (v4 + 1))]) (pcJ := 55) L rfl rfl rfl rfl (fun lv L => ?_)
        refine j_V.gto xair_M xair_55 (t := 22) rfl ?_
        rw [show (x_isInRing_l22 shu bus ph sp ce ri nt tra len frm tto fit (f + 1) v4 v2) = (x_isInRing_l22 shu bus ph sp ce ri nt tra len frm tto fit f (v4 + 1) v2) from (if_pos c40_0).trans (rfl)] at kk
        exact ih _ _ (lpN_n e) L kk
      · replace c40_0 : ¬ (((v2 >>> (v4 &&& 31)) &&& 1) = 0) := jd_eqn c40_0
        refine j_V.ldL xair_M xair_43 rfl (i := 2) (kd := 0) (v := .int v2) (pcJ := 44) rfl L rfl rfl rfl ?_
        refine j_V.ldL xair_M xair_44 rfl (i := 0) (kd := 2) (v := .ref 4) (pcJ := 45) rfl L rfl rfl rfl ?_
        refine j_V.ldL xair_M xair_45 rfl (i := 4) (kd := 0) (v := .int v4) (pcJ := 47) rfl L rfl rfl rfl ?_
        refine j_V.cl xair_M xair_47 rfl (md := 3) (mj := 81) rfl (by decide) xa22_M (As := [.ref 4, .int v4]) (rest := [.int v2]) (jk_spl3 (K.at rfl) rfl rfl rfl (Nat.le_of_ble_eq_true rfl) (Nat.le_of_ble_eq_true rfl)) (fun d => xa22_ok (K.fi [4, 7, 8, 9, 12, 327, 330, 331, 334, 335, 339] rfl rfl)) ?_
        rintro r hz ⟨rfl, ez⟩
        rw [ez]
        clear ez
        show j_V jP _ 82 50 lv [.int (x_waitsFor shu bus ph sp ce ri nt tra len frm tto fit v4), .int v2] h _
        refine j_V.one xair_M xair_50 (by decide) (pcJ := 51) (stJ := [.int (v2 ||| (x_waitsFor shu bus ph sp ce ri nt tra len frm tto fit v4))]) rfl ?_
        refine j_V.stL xair_M xair_51 rfl (i := 2) (kd := 0) (kl' := [(0, .ref 4), (1, .int x1), (2, .int (v2 ||| (x_waitsFor shu bus ph sp ce ri nt tra len frm tto fit v4))), (3, .int v3), (4, .int v4)]) (pcJ := 52) rfl L rfl (by decide) rfl rfl rfl (fun lv L => ?_)
        refine j_V.inL xair_M xair_52 (i := 4) (kl' := [(0, .ref 4), (1, .int x1), (2, .int (v2 ||| (x_waitsFor shu bus ph sp ce ri nt tra len frm tto fit v4))), (3, .int v3), (4, .int (v4 + 1))]) (pcJ := 55) L rfl rfl rfl rfl (fun lv L => ?_)
        refine j_V.gto xair_M xair_55 (t := 22) rfl ?_
        rw [show (x_isInRing_l22 shu bus ph sp ce ri nt tra len frm tto fit (f + 1) v4 v2) = (x_isInRing_l22 shu bus ph sp ce ri nt tra len frm tto fit f (v4 + 1) (v2 ||| (x_waitsFor shu bus ph sp ce ri nt tra len frm tto fit v4))) from (if_neg c40_0).trans (rfl)] at kk
        exact ih _ _ (lpN_n e) L kk
def x_isInRing_l8 (shu : Int32) (bus : Int32) (ph : List Int32) (sp : List Int32) (ce : List Int32) (ri : List Int32) (nt : Int32) (tra : List Int32) (len : List Int32) (frm : List Int32) (tto : List Int32) (fit : List Int32) : Nat → Int32 → Int32 → Int32
  | 0, v3, v2 => v2
  | f + 1, v3, v2 => (x_isInRing_l8 shu bus ph sp ce ri nt tra len frm tto fit f (v3 + 1) (x_isInRing_l22 shu bus ph sp ce ri nt tra len frm tto fit (lpN nt 0) 0 v2))
set_option maxRecDepth 1000000 in
theorem xair_ok_l8 {mi : Int32} {shu : Int32} {bus : Int32} {lks : Int32} {ph : List Int32} {sp : List Int32} {ce : List Int32} {ri : List Int32} {ns : Int32} {nt : Int32} {cel : Int32} {tra : List Int32} {len : List Int32} {frm : List Int32} {tto : List Int32} {fit : List Int32} {d : Nat} {h h0 : J_H} {x1 : Int32} {Q : Option Value → J_H → Prop} (K : KN h [(4, .inl (7, [.ref 327, .int mi, .int shu, .int bus, .ref 5, .ref 6, .ref 7, .ref 8, .ref 9, .ref 10, .ref 11, .ref 12, .ref 13, .ref 14, .ref 15, .int lks, .ref 16, .ref 17, .ref 20])), (7, .inr (.inl (0, ph))), (8, .inr (.inl (0, sp))), (9, .inr (.inl (0, ce))), (12, .inr (.inl (0, ri))), (327, .inl (2, [.int ns, .ref 328, .ref 329, .ref 330, .ref 331, .int nt, .ref 332, .ref 333, .ref 334, .ref 335, .ref 336, .ref 337, .ref 338, .int cel, .ref 339, .ref 340, .ref 341, .ref 342])), (330, .inr (.inl (0, tra))), (331, .inr (.inl (0, len))), (334, .inr (.inl (0, frm))), (335, .inr (.inl (0, tto))), (339, .inr (.inl (0, fit)))] h0) : ∀ (f : Nat) (v3 v2 : Int32) {lv : J_L}, lpN nt v3 = f → LK lv [(0, .ref 4), (1, .int x1), (2, .int v2), (3, .int v3)] → (∀ lv, LK lv [(0, .ref 4), (1, .int x1), (2, .int (x_isInRing_l8 shu bus ph sp ce ri nt tra len frm tto fit f v3 v2))] → j_V jP d 82 64 lv [] h Q) → j_V jP d 82 8 lv [] h Q := by
  intro f
  induction f with
  | zero =>
    intro v3 v2 lv e L kk
    refine j_V.ldL xair_M xair_8 rfl (i := 3) (kd := 0) (v := .int v3) (pcJ := 9) rfl L rfl rfl rfl ?_
    refine j_V.ldL xair_M xair_9 rfl (i := 0) (kd := 2) (v := .ref 4) (pcJ := 10) rfl L rfl rfl rfl ?_
    refine j_V.getK xair_M xair_10 (ci := 7) (j := 0) rfl K rfl rfl ?_
    refine j_V.getK xair_M xair_13 (ci := 2) (j := 5) rfl K rfl rfl ?_
    refine j_V.icmp xair_M xair_16 (t := 64) rfl (fun c16_0 => ?_) (fun c16_0 => ?_)
    · replace c16_0 : ¬ (v3 < nt) := jd_ge c16_0
      exact kk _ (L.sub ⟨rfl, rfl, rfl, trivial⟩)
    · replace c16_0 : v3 < nt := jd_gen c16_0
      exact absurd c16_0 (lpN_z e)
  | succ f ih =>
    intro v3 v2 lv e L kk
    refine j_V.ldL xair_M xair_8 rfl (i := 3) (kd := 0) (v := .int v3) (pcJ := 9) rfl L rfl rfl rfl ?_
    refine j_V.ldL xair_M xair_9 rfl (i := 0) (kd := 2) (v := .ref 4) (pcJ := 10) rfl L rfl rfl rfl ?_
    refine j_V.getK xair_M xair_10 (ci := 7) (j := 0) rfl K rfl rfl ?_
    refine j_V.getK xair_M xair_13 (ci := 2) (j := 5) rfl K rfl rfl ?_
    refine j_V.icmp xair_M xair_16 (t := 64) rfl (fun c16_0 => ?_) (fun c16_0 => ?_)
    · replace c16_0 : ¬ (v3 < nt) := jd_ge c16_0
      exact absurd (lpN_s e) c16_0
    · replace c16_0 : v3 < nt := jd_gen c16_0
      refine j_V.one xair_M xair_19 (by decide) (pcJ := 20) (stJ := [.int 0]) rfl ?_
      refine j_V.stL xair_M xair_20 rfl (i := 4) (kd := 0) (kl' := [(0, .ref 4), (1, .int x1), (2, .int v2), (3, .int v3), (4, .int 0)]) (pcJ := 22) rfl L rfl (by decide) rfl rfl rfl (fun lv L => ?_)
      refine xair_ok_l22 K _ 0 v2 rfl L (fun lv L => ?_)
      refine j_V.inL xair_M xair_58 (i := 3) (kl' := [(0, .ref 4), (1, .int x1), (2, .int (x_isInRing_l22 shu bus ph sp ce ri nt tra len frm tto fit (lpN nt 0) 0 v2)), (3, .int (v3 + 1))]) (pcJ := 61) L rfl rfl rfl rfl (fun lv L => ?_)
      refine j_V.gto xair_M xair_61 (t := 8) rfl ?_
      rw [show (x_isInRing_l8 shu bus ph sp ce ri nt tra len frm tto fit (f + 1) v3 v2) = (x_isInRing_l8 shu bus ph sp ce ri nt tra len frm tto fit f (v3 + 1) (x_isInRing_l22 shu bus ph sp ce ri nt tra len frm tto fit (lpN nt 0) 0 v2)) from rfl] at kk
      exact ih _ _ (lpN_n e) L kk
def x_isInRing (shu : Int32) (bus : Int32) (ph : List Int32) (sp : List Int32) (ce : List Int32) (ri : List Int32) (nt : Int32) (tra : List Int32) (len : List Int32) (frm : List Int32) (tto : List Int32) (fit : List Int32) (x1 : Int32) : Int32 := (if (((x_isInRing_l8 shu bus ph sp ce ri nt tra len frm tto fit (lpN nt 0) 0 (x_waitsFor shu bus ph sp ce ri nt tra len frm tto fit x1)) >>> (x1 &&& 31)) &&& 1) = 0 then 0 else 1)
set_option maxRecDepth 1000000 in
theorem xair_ok {mi : Int32} {shu : Int32} {bus : Int32} {lks : Int32} {ph : List Int32} {sp : List Int32} {ce : List Int32} {ri : List Int32} {ns : Int32} {nt : Int32} {cel : Int32} {tra : List Int32} {len : List Int32} {frm : List Int32} {tto : List Int32} {fit : List Int32} {d : Nat} {h h0 : J_H} {x1 : Int32} (K : KN h [(4, .inl (7, [.ref 327, .int mi, .int shu, .int bus, .ref 5, .ref 6, .ref 7, .ref 8, .ref 9, .ref 10, .ref 11, .ref 12, .ref 13, .ref 14, .ref 15, .int lks, .ref 16, .ref 17, .ref 20])), (7, .inr (.inl (0, ph))), (8, .inr (.inl (0, sp))), (9, .inr (.inl (0, ce))), (12, .inr (.inl (0, ri))), (327, .inl (2, [.int ns, .ref 328, .ref 329, .ref 330, .ref 331, .int nt, .ref 332, .ref 333, .ref 334, .ref 335, .ref 336, .ref 337, .ref 338, .int cel, .ref 339, .ref 340, .ref 341, .ref 342])), (330, .inr (.inl (0, tra))), (331, .inr (.inl (0, len))), (334, .inr (.inl (0, frm))), (335, .inr (.inl (0, tto))), (339, .inr (.inl (0, fit)))] h0) : j_V jP d 82 0 (lv_args 0 [.ref 4, .int x1]) [] h (fun rv h' => rv = some (.int (x_isInRing shu bus ph sp ce ri nt tra len frm tto fit x1)) ∧ h' = h) := by
  show j_V jP d 82 0 [(0, .ref 4), (1, .int x1)] [] h _
  obtain ⟨lv, elv, L⟩ : ∃ lv, lv = [(0, .ref 4), (1, .int x1)] ∧ LK lv [(0, .ref 4), (1, .int x1)] := ⟨_, rfl, LK.rf⟩
  rw [← elv]
  clear elv
  refine j_V.ldL xair_M xair_0 rfl (i := 0) (kd := 2) (v := .ref 4) (pcJ := 1) rfl L rfl rfl rfl ?_
  refine j_V.ldL xair_M xair_1 rfl (i := 1) (kd := 0) (v := .int x1) (pcJ := 2) rfl L rfl rfl rfl ?_
  refine j_V.cl xair_M xair_2 rfl (md := 3) (mj := 81) rfl (by decide) xa22_M (As := [.ref 4, .int x1]) (rest := []) (jk_spl3 (K.at rfl) rfl rfl rfl (Nat.le_of_ble_eq_true rfl) (Nat.le_of_ble_eq_true rfl)) (fun d => xa22_ok (K.fi [4, 7, 8, 9, 12, 327, 330, 331, 334, 335, 339] rfl rfl)) ?_
  rintro r hz ⟨rfl, ez⟩
  rw [ez]
  clear ez
  show j_V jP _ 82 5 lv [.int (x_waitsFor shu bus ph sp ce ri nt tra len frm tto fit x1)] h _
  refine j_V.stL xair_M xair_5 rfl (i := 2) (kd := 0) (kl' := [(0, .ref 4), (1, .int x1), (2, .int (x_waitsFor shu bus ph sp ce ri nt tra len frm tto fit x1))]) (pcJ := 6) rfl L rfl (by decide) rfl rfl rfl (fun lv L => ?_)
  refine j_V.one xair_M xair_6 (by decide) (pcJ := 7) (stJ := [.int 0]) rfl ?_
  refine j_V.stL xair_M xair_7 rfl (i := 3) (kd := 0) (kl' := [(0, .ref 4), (1, .int x1), (2, .int (x_waitsFor shu bus ph sp ce ri nt tra len frm tto fit x1)), (3, .int 0)]) (pcJ := 8) rfl L rfl (by decide) rfl rfl rfl (fun lv L => ?_)
  refine xair_ok_l8 K _ 0 (x_waitsFor shu bus ph sp ce ri nt tra len frm tto fit x1) rfl L (fun lv L => ?_)
  refine j_V.ldL xair_M xair_64 rfl (i := 2) (kd := 0) (v := .int (x_isInRing_l8 shu bus ph sp ce ri nt tra len frm tto fit (lpN nt 0) 0 (x_waitsFor shu bus ph sp ce ri nt tra len frm tto fit x1))) (pcJ := 65) rfl L rfl rfl rfl ?_
  refine j_V.ldL xair_M xair_65 rfl (i := 1) (kd := 0) (v := .int x1) (pcJ := 66) rfl L rfl rfl rfl ?_
  refine j_V.one xair_M xair_66 (by decide) (pcJ := 67) (stJ := [.int ((x_isInRing_l8 shu bus ph sp ce ri nt tra len frm tto fit (lpN nt 0) 0 (x_waitsFor shu bus ph sp ce ri nt tra len frm tto fit x1)) >>> (x1 &&& 31))]) rfl ?_
  refine j_V.one xair_M xair_67 (by decide) (pcJ := 68) (stJ := [.int 1, .int ((x_isInRing_l8 shu bus ph sp ce ri nt tra len frm tto fit (lpN nt 0) 0 (x_waitsFor shu bus ph sp ce ri nt tra len frm tto fit x1)) >>> (x1 &&& 31))]) rfl ?_
  refine j_V.one xair_M xair_68 (by decide) (pcJ := 69) (stJ := [.int (((x_isInRing_l8 shu bus ph sp ce ri nt tra len frm tto fit (lpN nt 0) 0 (x_waitsFor shu bus ph sp ce ri nt tra len frm tto fit x1)) >>> (x1 &&& 31)) &&& 1)]) rfl ?_
  refine j_V.ifc xair_M xair_69 (t := 76) rfl (fun c69_0 => ?_) (fun c69_0 => ?_)
  · replace c69_0 : (((x_isInRing_l8 shu bus ph sp ce ri nt tra len frm tto fit (lpN nt 0) 0 (x_waitsFor shu bus ph sp ce ri nt tra len frm tto fit x1)) >>> (x1 &&& 31)) &&& 1) = 0 := jd_eq c69_0
    refine j_V.one xair_M xair_76 (by decide) (pcJ := 77) (stJ := [.int 0]) rfl ?_
    exact j_V.ri xair_M xair_77 ⟨congrArg (fun z => some (Value.int z)) (Eq.symm (show (x_isInRing shu bus ph sp ce ri nt tra len frm tto fit x1) = 0 from (if_pos c69_0).trans (rfl))), rfl⟩
  · replace c69_0 : ¬ ((((x_isInRing_l8 shu bus ph sp ce ri nt tra len frm tto fit (lpN nt 0) 0 (x_waitsFor shu bus ph sp ce ri nt tra len frm tto fit x1)) >>> (x1 &&& 31)) &&& 1) = 0) := jd_eqn c69_0
    refine j_V.one xair_M xair_72 (by decide) (pcJ := 73) (stJ := [.int 1]) rfl ?_
    refine j_V.gto xair_M xair_73 (t := 77) rfl ?_
    exact j_V.ri xair_M xair_77 ⟨congrArg (fun z => some (Value.int z)) (Eq.symm (show (x_isInRing shu bus ph sp ce ri nt tra len frm tto fit x1) = 1 from (if_neg c69_0).trans (rfl))), rfl⟩
set_option maxRecDepth 100000 in
theorem xa76_M : j_meth jP 127 = some (yX9_ring, cX9_ring, 3, (some .int), 0, false, 9) := rfl
set_option maxRecDepth 100000 in
theorem xa76_0 : j_code jP 127 0 = some (.iconst 0) := rfl
set_option maxRecDepth 100000 in
theorem xa76_1 : j_code jP 127 1 = some (.istore_n 1) := rfl
set_option maxRecDepth 100000 in
theorem xa76_2 : j_code jP 127 2 = some (.iconst 0) := rfl
set_option maxRecDepth 100000 in
theorem xa76_3 : j_code jP 127 3 = some (.istore_n 2) := rfl
set_option maxRecDepth 100000 in
theorem xa76_4 : j_code jP 127 4 = some (.iload_n 2) := rfl
set_option maxRecDepth 100000 in
theorem xa76_5 : j_code jP 127 5 = some (.aload_n 0) := rfl
set_option maxRecDepth 100000 in
theorem xa76_6 : j_code jP 127 6 = some (.getfield 58) := rfl
set_option maxRecDepth 100000 in
theorem xa76_9 : j_code jP 127 9 = some (.getfield 101) := rfl
set_option maxRecDepth 100000 in
theorem xa76_12 : j_code jP 127 12 = some (.if_icmp .ge 26) := rfl
set_option maxRecDepth 100000 in
theorem xa76_15 : j_code jP 127 15 = some (.aload_n 0) := rfl
set_option maxRecDepth 100000 in
theorem xa76_16 : j_code jP 127 16 = some (.getfield 30) := rfl
set_option maxRecDepth 100000 in
theorem xa76_19 : j_code jP 127 19 = some (.iload_n 2) := rfl
set_option maxRecDepth 100000 in
theorem xa76_20 : j_code jP 127 20 = some (.invokevirtual 265) := rfl
set_option maxRecDepth 100000 in
theorem xa76_23 : j_code jP 127 23 = some (.ifCond .eq 9) := rfl
set_option maxRecDepth 100000 in
theorem xa76_26 : j_code jP 127 26 = some (.iload_n 1) := rfl
set_option maxRecDepth 100000 in
theorem xa76_27 : j_code jP 127 27 = some (.iconst 1) := rfl
set_option maxRecDepth 100000 in
theorem xa76_28 : j_code jP 127 28 = some (.iload_n 2) := rfl
set_option maxRecDepth 100000 in
theorem xa76_29 : j_code jP 127 29 = some (.ishl) := rfl
set_option maxRecDepth 100000 in
theorem xa76_30 : j_code jP 127 30 = some (.ior) := rfl
set_option maxRecDepth 100000 in
theorem xa76_31 : j_code jP 127 31 = some (.istore_n 1) := rfl
set_option maxRecDepth 100000 in
theorem xa76_32 : j_code jP 127 32 = some (.iinc 2 1) := rfl
set_option maxRecDepth 100000 in
theorem xa76_35 : j_code jP 127 35 = some (.goto (-31)) := rfl
set_option maxRecDepth 100000 in
theorem xa76_38 : j_code jP 127 38 = some (.aload_n 0) := rfl
set_option maxRecDepth 100000 in
theorem xa76_39 : j_code jP 127 39 = some (.iload_n 1) := rfl
set_option maxRecDepth 100000 in
theorem xa76_40 : j_code jP 127 40 = some (.invokevirtual 104) := rfl
set_option maxRecDepth 100000 in
theorem xa76_43 : j_code jP 127 43 = some (.ireturn) := rfl
def x_qring_l4 (shu : Int32) (bus : Int32) (ph : List Int32) (sp : List Int32) (ce : List Int32) (ri : List Int32) (nt : Int32) (tra : List Int32) (len : List Int32) (frm : List Int32) (tto : List Int32) (fit : List Int32) : Nat → Int32 → Int32 → Int32 → Int32 × Int32
  | 0, v2, v1, sst => let z1 := (x_qanswer sst v1); ((z1.1), (z1.2))
  | f + 1, v2, v1, sst => (x_qring_l4 shu bus ph sp ce ri nt tra len frm tto fit f (v2 + 1) ((if (x_isInRing shu bus ph sp ce ri nt tra len frm tto fit v2) = 0 then v1 else (v1 ||| (1 <<< (v2 &&& 31)))) : Int32) sst)
set_option maxRecDepth 1000000 in
theorem xa76_ok_l4 {mi : Int32} {shu : Int32} {bus : Int32} {lks : Int32} {ph : List Int32} {sp : List Int32} {ce : List Int32} {ri : List Int32} {ns : Int32} {nt : Int32} {cel : Int32} {tra : List Int32} {len : List Int32} {frm : List Int32} {tto : List Int32} {fit : List Int32} {d : Nat} {h0 : J_H} : ∀ (f : Nat) (v2 v1 : Int32) (sst : Int32) {lv : J_L} {h : J_H}, lpN nt v2 = f → LK lv [(0, .ref 0), (1, .int v1), (2, .int v2)] → KN h [(0, .inl (9, [.ref 1, .ref 3, .ref 4, .ref 29, .ref 281, .ref 325, .ref 327, .ref 343, .int sst])), (4, .inl (7, [.ref 327, .int mi, .int shu, .int bus, .ref 5, .ref 6, .ref 7, .ref 8, .ref 9, .ref 10, .ref 11, .ref 12, .ref 13, .ref 14, .ref 15, .int lks, .ref 16, .ref 17, .ref 20])), (7, .inr (.inl (0, ph))), (8, .inr (.inl (0, sp))), (9, .inr (.inl (0, ce))), (12, .inr (.inl (0, ri))), (327, .inl (2, [.int ns, .ref 328, .ref 329, .ref 330, .ref 331, .int nt, .ref 332, .ref 333, .ref 334, .ref 335, .ref 336, .ref 337, .ref 338, .int cel, .ref 339, .ref 340, .ref 341, .ref 342])), (330, .inr (.inl (0, tra))), (331, .inr (.inl (0, len))), (334, .inr (.inl (0, frm))), (335, .inr (.inl (0, tto))), (339, .inr (.inl (0, fit)))] h0 → j_V jP d 127 4 lv [] h (fun rv h' => rv = some (.int (x_qring_l4 shu bus ph sp ce ri nt tra len frm tto fit f v2 v1 sst).1) ∧ KN h' [(0, .inl (9, [.ref 1, .ref 3, .ref 4, .ref 29, .ref 281, .ref 325, .ref 327, .ref 343, .int (x_qring_l4 shu bus ph sp ce ri nt tra len frm tto fit f v2 v1 sst).2])), (4, .inl (7, [.ref 327, .int mi, .int shu, .int bus, .ref 5, .ref 6, .ref 7, .ref 8, .ref 9, .ref 10, .ref 11, .ref 12, .ref 13, .ref 14, .ref 15, .int lks, .ref 16, .ref 17, .ref 20])), (7, .inr (.inl (0, ph))), (8, .inr (.inl (0, sp))), (9, .inr (.inl (0, ce))), (12, .inr (.inl (0, ri))), (327, .inl (2, [.int ns, .ref 328, .ref 329, .ref 330, .ref 331, .int nt, .ref 332, .ref 333, .ref 334, .ref 335, .ref 336, .ref 337, .ref 338, .int cel, .ref 339, .ref 340, .ref 341, .ref 342])), (330, .inr (.inl (0, tra))), (331, .inr (.inl (0, len))), (334, .inr (.inl (0, frm))), (335, .inr (.inl (0, tto))), (339, .inr (.inl (0, fit)))] h0) := by
  intro f
  induction f with
  | zero =>
    intro v2 v1 sst lv h e L K
    refine j_V.ldL xa76_M xa76_4 rfl (i := 2) (kd := 0) (v := .int v2) (pcJ := 5) rfl L rfl rfl rfl ?_
    refine j_V.ldL xa76_M xa76_5 rfl (i := 0) (kd := 2) (v := .ref 0) (pcJ := 6) rfl L rfl rfl rfl ?_
    refine j_V.getK xa76_M xa76_6 (ci := 9) (j := 6) rfl K rfl rfl ?_
    refine j_V.getK xa76_M xa76_9 (ci := 2) (j := 5) rfl K rfl rfl ?_
    refine j_V.icmp xa76_M xa76_12 (t := 38) rfl (fun c12_0 => ?_) (fun c12_0 => ?_)
    · replace c12_0 : ¬ (v2 < nt) := jd_ge c12_0
      refine j_V.ldL xa76_M xa76_38 rfl (i := 0) (kd := 2) (v := .ref 0) (pcJ := 39) rfl L rfl rfl rfl ?_
      refine j_V.ldL xa76_M xa76_39 rfl (i := 1) (kd := 0) (v := .int v1) (pcJ := 40) rfl L rfl rfl rfl ?_
      refine j_V.cl xa76_M xa76_40 rfl (md := 3) (mj := 159) rfl (by decide) xa49_M (As := [.ref 0, .int v1]) (rest := []) (jk_spl3 (K.at rfl) rfl rfl rfl (Nat.le_of_ble_eq_true rfl) (Nat.le_of_ble_eq_true rfl)) (fun d => xa49_ok (K.fi [0] rfl rfl)) ?_
      rintro r h9 ⟨rfl, K9⟩
      generalize ez1 : (x_qanswer sst v1) = z1 at K9 ⊢
      have K : KN h9 [(0, .inl (9, [.ref 1, .ref 3, .ref 4, .ref 29, .ref 281, .ref 325, .ref 327, .ref 343, .int (z1.2)])), (4, .inl (7, [.ref 327, .int mi, .int shu, .int bus, .ref 5, .ref 6, .ref 7, .ref 8, .ref 9, .ref 10, .ref 11, .ref 12, .ref 13, .ref 14, .ref 15, .int lks, .ref 16, .ref 17, .ref 20])), (7, .inr (.inl (0, ph))), (8, .inr (.inl (0, sp))), (9, .inr (.inl (0, ce))), (12, .inr (.inl (0, ri))), (327, .inl (2, [.int ns, .ref 328, .ref 329, .ref 330, .ref 331, .int nt, .ref 332, .ref 333, .ref 334, .ref 335, .ref 336, .ref 337, .ref 338, .int cel, .ref 339, .ref 340, .ref 341, .ref 342])), (330, .inr (.inl (0, tra))), (331, .inr (.inl (0, len))), (334, .inr (.inl (0, frm))), (335, .inr (.inl (0, tto))), (339, .inr (.inl (0, fit)))] h0 := K.mg K9 rfl rfl
      clear K9
      show j_V jP _ 127 43 lv [.int (z1.1)] h9 _
      subst ez1
      refine j_V.ri xa76_M xa76_43 ?_
      rw [show (x_qring_l4 shu bus ph sp ce ri nt tra len frm tto fit 0 v2 v1 sst) = _ from (rfl)]
      exact ⟨rfl, K⟩
    · replace c12_0 : v2 < nt := jd_gen c12_0
      exact absurd c12_0 (lpN_z e)
  | succ f ih =>
    intro v2 v1 sst lv h e L K
    refine j_V.ldL xa76_M xa76_4 rfl (i := 2) (kd := 0) (v := .int v2) (pcJ := 5) rfl L rfl rfl rfl ?_
    refine j_V.ldL xa76_M xa76_5 rfl (i := 0) (kd := 2) (v := .ref 0) (pcJ := 6) rfl L rfl rfl rfl ?_
    refine j_V.getK xa76_M xa76_6 (ci := 9) (j := 6) rfl K rfl rfl ?_
    refine j_V.getK xa76_M xa76_9 (ci := 2) (j := 5) rfl K rfl rfl ?_
    refine j_V.icmp xa76_M xa76_12 (t := 38) rfl (fun c12_0 => ?_) (fun c12_0 => ?_)
    · replace c12_0 : ¬ (v2 < nt) := jd_ge c12_0
      exact absurd (lpN_s e) c12_0
    · replace c12_0 : v2 < nt := jd_gen c12_0
      refine j_V.ldL xa76_M xa76_15 rfl (i := 0) (kd := 2) (v := .ref 0) (pcJ := 16) rfl L rfl rfl rfl ?_
      refine j_V.getK xa76_M xa76_16 (ci := 9) (j := 2) rfl K rfl rfl ?_
      refine j_V.ldL xa76_M xa76_19 rfl (i := 2) (kd := 0) (v := .int v2) (pcJ := 20) rfl L rfl rfl rfl ?_
      refine j_V.cl xa76_M xa76_20 rfl (md := 3) (mj := 82) rfl (by decide) xair_M (As := [.ref 4, .int v2]) (rest := []) (jk_spl3 (K.at rfl) rfl rfl rfl (Nat.le_of_ble_eq_true rfl) (Nat.le_of_ble_eq_true rfl)) (fun d => xair_ok (K.fi [4, 7, 8, 9, 12, 327, 330, 331, 334, 335, 339] rfl rfl)) ?_
      rintro r hz ⟨rfl, ez⟩
      rw [ez]
      clear ez
      show j_V jP _ 127 23 lv [.int (x_isInRing shu bus ph sp ce ri nt tra len frm tto fit v2)] h _
      refine j_V.cut (b := 32) (stJ := []) (fun v => [(0, .ref 0), (1, .int v), (2, .int v2)]) ((if (x_isInRing shu bus ph sp ce ri nt tra len frm tto fit v2) = 0 then v1 else (v1 ||| (1 <<< (v2 &&& 31)))) : Int32) (fun Q kk => ?_) (fun lv L => ?_)
      · refine j_V.ifc xa76_M xa76_23 (t := 32) rfl (fun c23_0 => ?_) (fun c23_0 => ?_)
        · replace c23_0 : (x_isInRing shu bus ph sp ce ri nt tra len frm tto fit v2) = 0 := jd_eq c23_0
          exact kk _ (Eq.subst (motive := fun z => LK _ ((fun v => [(0, .ref 0), (1, .int v), (2, .int v2)]) z)) (show v1 = ((if (x_isInRing shu bus ph sp ce ri nt tra len frm tto fit v2) = 0 then v1 else (v1 ||| (1 <<< (v2 &&& 31)))) : Int32) from Eq.symm ((if_pos c23_0).trans (rfl))) L)
        · replace c23_0 : ¬ ((x_isInRing shu bus ph sp ce ri nt tra len frm tto fit v2) = 0) := jd_eqn c23_0
          refine j_V.ldL xa76_M xa76_26 rfl (i := 1) (kd := 0) (v := .int v1) (pcJ := 27) rfl L rfl rfl rfl ?_
          refine j_V.one xa76_M xa76_27 (by decide) (pcJ := 28) (stJ := [.int 1, .int v1]) rfl ?_
          refine j_V.ldL xa76_M xa76_28 rfl (i := 2) (kd := 0) (v := .int v2) (pcJ := 29) rfl L rfl rfl rfl ?_
          refine j_V.one xa76_M xa76_29 (by decide) (pcJ := 30) (stJ := [.int (1 <<< (v2 &&& 31)), .int v1]) rfl ?_
          refine j_V.one xa76_M xa76_30 (by decide) (pcJ := 31) (stJ := [.int (v1 ||| (1 <<< (v2 &&& 31)))]) rfl ?_
          refine j_V.stL xa76_M xa76_31 rfl (i := 1) (kd := 0) (kl' := [(0, .ref 0), (1, .int (v1 ||| (1 <<< (v2 &&& 31)))), (2, .int v2)]) (pcJ := 32) rfl L rfl (by decide) rfl rfl rfl (fun lv L => ?_)
          exact kk _ (Eq.subst (motive := fun z => LK _ ((fun v => [(0, .ref 0), (1, .int v), (2, .int v2)]) z)) (show (v1 ||| (1 <<< (v2 &&& 31))) = ((if (x_isInRing shu bus ph sp ce ri nt tra len frm tto fit v2) = 0 then v1 else (v1 ||| (1 <<< (v2 &&& 31)))) : Int32) from Eq.symm ((if_neg c23_0).trans (rfl))) L)
      refine j_V.inL xa76_M xa76_32 (i := 2) (kl' := [(0, .ref 0), (1, .int ((if (x_isInRing shu bus ph sp ce ri nt tra len frm tto fit v2) = 0 then v1 else (v1 ||| (1 <<< (v2 &&& 31)))) : Int32)), (2, .int (v2 + 1))]) (pcJ := 35) L rfl rfl rfl rfl (fun lv L => ?_)
      refine j_V.gto xa76_M xa76_35 (t := 4) rfl ?_
      rw [show (x_qring_l4 shu bus ph sp ce ri nt tra len frm tto fit (f + 1) v2 v1 sst) = _ from (rfl)]
      exact ih _ _ _ (lpN_n e) L K
def x_qring (shu : Int32) (bus : Int32) (ph : List Int32) (sp : List Int32) (ce : List Int32) (ri : List Int32) (nt : Int32) (tra : List Int32) (len : List Int32) (frm : List Int32) (tto : List Int32) (fit : List Int32) (sst : Int32) : Int32 × Int32 := (x_qring_l4 shu bus ph sp ce ri nt tra len frm tto fit (lpN nt 0) 0 0 sst)
set_option maxRecDepth 1000000 in
theorem xa76_ok {mi : Int32} {shu : Int32} {bus : Int32} {lks : Int32} {ph : List Int32} {sp : List Int32} {ce : List Int32} {ri : List Int32} {ns : Int32} {nt : Int32} {cel : Int32} {tra : List Int32} {len : List Int32} {frm : List Int32} {tto : List Int32} {fit : List Int32} {sst : Int32} {d : Nat} {h h0 : J_H} (K : KN h [(0, .inl (9, [.ref 1, .ref 3, .ref 4, .ref 29, .ref 281, .ref 325, .ref 327, .ref 343, .int sst])), (4, .inl (7, [.ref 327, .int mi, .int shu, .int bus, .ref 5, .ref 6, .ref 7, .ref 8, .ref 9, .ref 10, .ref 11, .ref 12, .ref 13, .ref 14, .ref 15, .int lks, .ref 16, .ref 17, .ref 20])), (7, .inr (.inl (0, ph))), (8, .inr (.inl (0, sp))), (9, .inr (.inl (0, ce))), (12, .inr (.inl (0, ri))), (327, .inl (2, [.int ns, .ref 328, .ref 329, .ref 330, .ref 331, .int nt, .ref 332, .ref 333, .ref 334, .ref 335, .ref 336, .ref 337, .ref 338, .int cel, .ref 339, .ref 340, .ref 341, .ref 342])), (330, .inr (.inl (0, tra))), (331, .inr (.inl (0, len))), (334, .inr (.inl (0, frm))), (335, .inr (.inl (0, tto))), (339, .inr (.inl (0, fit)))] h0) : j_V jP d 127 0 (lv_args 0 [.ref 0]) [] h (fun rv h' => rv = some (.int (x_qring shu bus ph sp ce ri nt tra len frm tto fit sst).1) ∧ KN h' [(0, .inl (9, [.ref 1, .ref 3, .ref 4, .ref 29, .ref 281, .ref 325, .ref 327, .ref 343, .int (x_qring shu bus ph sp ce ri nt tra len frm tto fit sst).2])), (4, .inl (7, [.ref 327, .int mi, .int shu, .int bus, .ref 5, .ref 6, .ref 7, .ref 8, .ref 9, .ref 10, .ref 11, .ref 12, .ref 13, .ref 14, .ref 15, .int lks, .ref 16, .ref 17, .ref 20])), (7, .inr (.inl (0, ph))), (8, .inr (.inl (0, sp))), (9, .inr (.inl (0, ce))), (12, .inr (.inl (0, ri))), (327, .inl (2, [.int ns, .ref 328, .ref 329, .ref 330, .ref 331, .int nt, .ref 332, .ref 333, .ref 334, .ref 335, .ref 336, .ref 337, .ref 338, .int cel, .ref 339, .ref 340, .ref 341, .ref 342])), (330, .inr (.inl (0, tra))), (331, .inr (.inl (0, len))), (334, .inr (.inl (0, frm))), (335, .inr (.inl (0, tto))), (339, .inr (.inl (0, fit)))] h0) := by
  show j_V jP d 127 0 [(0, .ref 0)] [] h _
  obtain ⟨lv, elv, L⟩ : ∃ lv, lv = [(0, .ref 0)] ∧ LK lv [(0, .ref 0)] := ⟨_, rfl, LK.rf⟩
  rw [← elv]
  clear elv
  refine j_V.one xa76_M xa76_0 (by decide) (pcJ := 1) (stJ := [.int 0]) rfl ?_
  refine j_V.stL xa76_M xa76_1 rfl (i := 1) (kd := 0) (kl' := [(0, .ref 0), (1, .int 0)]) (pcJ := 2) rfl L rfl (by decide) rfl rfl rfl (fun lv L => ?_)
  refine j_V.one xa76_M xa76_2 (by decide) (pcJ := 3) (stJ := [.int 0]) rfl ?_
  refine j_V.stL xa76_M xa76_3 rfl (i := 2) (kd := 0) (kl' := [(0, .ref 0), (1, .int 0), (2, .int 0)]) (pcJ := 4) rfl L rfl (by decide) rfl rfl rfl (fun lv L => ?_)
  rw [show (x_qring shu bus ph sp ce ri nt tra len frm tto fit sst) = _ from (rfl)]
  exact xa76_ok_l4 _ _ _ _ rfl L K

/-! the class's track (state 4, layout 327), by wip/px/gen_x5.py -/
def lsw_n (k : Int) : List (Int × Int) → Prop
  | [] => True
  | p :: ps => k ≠ p.1 ∧ lsw_n k ps
theorem lsw_d {dflt k : Int} : ∀ {ps : List (Int × Int)}, lsw_n k ps → Op.lookupswitch.offset ps dflt k = dflt
  | [], _ => by simp [Op.lookupswitch.offset]
  | p :: ps, h => by
    have ih := lsw_d (dflt := dflt) (k := k) (ps := ps) h.2
    simp only [Op.lookupswitch.offset] at ih ⊢
    simp [h.1, Ne.symm h.1, ih]
theorem j_V.lsw {P : j_P} {d mi pc : Nat} {lv : J_L} {st : List Value} {h : J_H} {Q : Option Value → J_H → Prop} {M : j_M} {dflt : Int} {ps : Array (Int × Int)} {x : Int32} (hM : j_meth P mi = some M) (hc : j_code P mi pc = some (.lookupswitch dflt ps)) (kk : ∀ t, j_tgt pc (Op.lookupswitch.offset ps.toList dflt x.toInt) = some t → j_V P d mi t lv st h Q) : j_V P d mi pc lv (.int x :: st) h Q := by
  refine j_V.any hM hc ⟨fun z => (by cases z), fun z => (by cases z)⟩ fun pc' lv' st' h' ho => ?_
  simp only [j_one, j_kd, j_br] at ho
  split at ho
  · cases ht : j_tgt pc (Op.lookupswitch.offset ps.toList dflt x.toInt) with
    | none => rw [ht] at ho; cases ho
    | some t => rw [ht] at ho; cases ho; exact kk _ ht
  · cases ho
set_option maxRecDepth 100000 in
theorem xa72_M : j_meth jP 118 = some (yX9_track, cX9_track, 5, (some .int), 3, false, 9) := rfl
set_option maxRecDepth 100000 in
theorem xa72_0 : j_code jP 118 0 = some (.iload_n 3) := rfl
set_option maxRecDepth 100000 in
theorem xa72_1 : j_code jP 118 1 = some (.iconst 0) := rfl
set_option maxRecDepth 100000 in
theorem xa72_2 : j_code jP 118 2 = some (.iconst 2) := rfl
set_option maxRecDepth 100000 in
theorem xa72_3 : j_code jP 118 3 = some (.invokestatic 138) := rfl
set_option maxRecDepth 100000 in
theorem xa72_6 : j_code jP 118 6 = some (.ifCond .ne 9) := rfl
set_option maxRecDepth 100000 in
theorem xa72_9 : j_code jP 118 9 = some (.aload_n 0) := rfl
set_option maxRecDepth 100000 in
theorem xa72_10 : j_code jP 118 10 = some (.iconst 1) := rfl
set_option maxRecDepth 100000 in
theorem xa72_11 : j_code jP 118 11 = some (.invokevirtual 84) := rfl
set_option maxRecDepth 100000 in
theorem xa72_14 : j_code jP 118 14 = some (.ireturn) := rfl
set_option maxRecDepth 100000 in
theorem xa72_15 : j_code jP 118 15 = some (.aload_n 0) := rfl
set_option maxRecDepth 100000 in
theorem xa72_16 : j_code jP 118 16 = some (.iload_n 1) := rfl
set_option maxRecDepth 100000 in
theorem xa72_17 : j_code jP 118 17 = some (.iload_n 2) := rfl
set_option maxRecDepth 100000 in
theorem xa72_18 : j_code jP 118 18 = some (.invokevirtual 169) := rfl
set_option maxRecDepth 100000 in
theorem xa72_21 : j_code jP 118 21 = some (.ifCond .ne 9) := rfl
set_option maxRecDepth 100000 in
theorem xa72_24 : j_code jP 118 24 = some (.aload_n 0) := rfl
set_option maxRecDepth 100000 in
theorem xa72_25 : j_code jP 118 25 = some (.iconst 2) := rfl
set_option maxRecDepth 100000 in
theorem xa72_26 : j_code jP 118 26 = some (.invokevirtual 84) := rfl
set_option maxRecDepth 100000 in
theorem xa72_29 : j_code jP 118 29 = some (.ireturn) := rfl
set_option maxRecDepth 100000 in
theorem xa72_30 : j_code jP 118 30 = some (.iload_n 1) := rfl
set_option maxRecDepth 100000 in
theorem xa72_31 : j_code jP 118 31 = some (.iconst 3) := rfl
set_option maxRecDepth 100000 in
theorem xa72_32 : j_code jP 118 32 = some (.imul) := rfl
set_option maxRecDepth 100000 in
theorem xa72_33 : j_code jP 118 33 = some (.iload_n 2) := rfl
set_option maxRecDepth 100000 in
theorem xa72_34 : j_code jP 118 34 = some (.iadd) := rfl
set_option maxRecDepth 100000 in
theorem xa72_35 : j_code jP 118 35 = some (.istore 4) := rfl
set_option maxRecDepth 100000 in
theorem xa72_37 : j_code jP 118 37 = some (.iload_n 3) := rfl
set_option maxRecDepth 100000 in
theorem xa72_38 : j_code jP 118 38 = some (.lookupswitch 55 #[(0, 26), (1, 41)]) := rfl
set_option maxRecDepth 100000 in
theorem xa72_64 : j_code jP 118 64 = some (.aload_n 0) := rfl
set_option maxRecDepth 100000 in
theorem xa72_65 : j_code jP 118 65 = some (.aload_n 0) := rfl
set_option maxRecDepth 100000 in
theorem xa72_66 : j_code jP 118 66 = some (.getfield 58) := rfl
set_option maxRecDepth 100000 in
theorem xa72_69 : j_code jP 118 69 = some (.getfield 173) := rfl
set_option maxRecDepth 100000 in
theorem xa72_72 : j_code jP 118 72 = some (.iload 4) := rfl
set_option maxRecDepth 100000 in
theorem xa72_74 : j_code jP 118 74 = some (.iaload) := rfl
set_option maxRecDepth 100000 in
theorem xa72_75 : j_code jP 118 75 = some (.invokevirtual 104) := rfl
set_option maxRecDepth 100000 in
theorem xa72_78 : j_code jP 118 78 = some (.ireturn) := rfl
set_option maxRecDepth 100000 in
theorem xa72_79 : j_code jP 118 79 = some (.aload_n 0) := rfl
set_option maxRecDepth 100000 in
theorem xa72_80 : j_code jP 118 80 = some (.aload_n 0) := rfl
set_option maxRecDepth 100000 in
theorem xa72_81 : j_code jP 118 81 = some (.getfield 30) := rfl
set_option maxRecDepth 100000 in
theorem xa72_84 : j_code jP 118 84 = some (.iload 4) := rfl
set_option maxRecDepth 100000 in
theorem xa72_86 : j_code jP 118 86 = some (.invokevirtual 175) := rfl
set_option maxRecDepth 100000 in
theorem xa72_89 : j_code jP 118 89 = some (.invokevirtual 178) := rfl
set_option maxRecDepth 100000 in
theorem xa72_92 : j_code jP 118 92 = some (.ireturn) := rfl
set_option maxRecDepth 100000 in
theorem xa72_93 : j_code jP 118 93 = some (.aload_n 0) := rfl
set_option maxRecDepth 100000 in
theorem xa72_94 : j_code jP 118 94 = some (.aload_n 0) := rfl
set_option maxRecDepth 100000 in
theorem xa72_95 : j_code jP 118 95 = some (.getfield 30) := rfl
set_option maxRecDepth 100000 in
theorem xa72_98 : j_code jP 118 98 = some (.getfield 181) := rfl
set_option maxRecDepth 100000 in
theorem xa72_101 : j_code jP 118 101 = some (.iload 4) := rfl
set_option maxRecDepth 100000 in
theorem xa72_103 : j_code jP 118 103 = some (.ishr) := rfl
set_option maxRecDepth 100000 in
theorem xa72_104 : j_code jP 118 104 = some (.iconst 1) := rfl
set_option maxRecDepth 100000 in
theorem xa72_105 : j_code jP 118 105 = some (.iand) := rfl
set_option maxRecDepth 100000 in
theorem xa72_106 : j_code jP 118 106 = some (.invokevirtual 104) := rfl
set_option maxRecDepth 100000 in
theorem xa72_109 : j_code jP 118 109 = some (.ireturn) := rfl
def x_qtrack (shu : Int32) (ce : List Int32) (ns : Int32) (nt : Int32) (tra : List Int32) (len : List Int32) (sst : Int32) (x1 : Int32) (x2 : Int32) (x3 : Int32) : Int32 × Int32 := (if (x_isWithin x3 0 2) = 0 then let z5 := (x_qrefuse sst 1); ((z5.1), (z5.2)) else (if (x_isTrack ns tra x1 x2) = 0 then let z4 := (x_qrefuse sst 2); ((z4.1), (z4.2)) else (if x3 = 0 then let z1 := (x_qanswer sst (gA len ((x1 * 3) + x2))); ((z1.1), (z1.2)) else (if x3 = 1 then let z2 := (x_qanswerIfAny sst (x_trainWith ce nt ((x1 * 3) + x2))); ((z2.1), (z2.2)) else let z3 := (x_qanswer sst ((shu >>> (((x1 * 3) + x2) &&& 31)) &&& 1)); ((z3.1), (z3.2))))))
set_option maxRecDepth 1000000 in
theorem xa72_ok {mi : Int32} {shu : Int32} {bus : Int32} {lks : Int32} {ce : List Int32} {ns : Int32} {nt : Int32} {cel : Int32} {tra : List Int32} {len : List Int32} {sst : Int32} {x1 x2 x3 : Int32} {d : Nat} {h h0 : J_H} (K : KN h [(0, .inl (9, [.ref 1, .ref 3, .ref 4, .ref 29, .ref 281, .ref 325, .ref 327, .ref 343, .int sst])), (4, .inl (7, [.ref 327, .int mi, .int shu, .int bus, .ref 5, .ref 6, .ref 7, .ref 8, .ref 9, .ref 10, .ref 11, .ref 12, .ref 13, .ref 14, .ref 15, .int lks, .ref 16, .ref 17, .ref 20])), (9, .inr (.inl (0, ce))), (327, .inl (2, [.int ns, .ref 328, .ref 329, .ref 330, .ref 331, .int nt, .ref 332, .ref 333, .ref 334, .ref 335, .ref 336, .ref 337, .ref 338, .int cel, .ref 339, .ref 340, .ref 341, .ref 342])), (330, .inr (.inl (0, tra))), (331, .inr (.inl (0, len)))] h0) : j_V jP d 118 0 (lv_args 0 [.ref 0, .int x1, .int x2, .int x3]) [] h (fun rv h' => rv = some (.int (x_qtrack shu ce ns nt tra len sst x1 x2 x3).1) ∧ KN h' [(0, .inl (9, [.ref 1, .ref 3, .ref 4, .ref 29, .ref 281, .ref 325, .ref 327, .ref 343, .int (x_qtrack shu ce ns nt tra len sst x1 x2 x3).2])), (4, .inl (7, [.ref 327, .int mi, .int shu, .int bus, .ref 5, .ref 6, .ref 7, .ref 8, .ref 9, .ref 10, .ref 11, .ref 12, .ref 13, .ref 14, .ref 15, .int lks, .ref 16, .ref 17, .ref 20])), (9, .inr (.inl (0, ce))), (327, .inl (2, [.int ns, .ref 328, .ref 329, .ref 330, .ref 331, .int nt, .ref 332, .ref 333, .ref 334, .ref 335, .ref 336, .ref 337, .ref 338, .int cel, .ref 339, .ref 340, .ref 341, .ref 342])), (330, .inr (.inl (0, tra))), (331, .inr (.inl (0, len)))] h0) := by
  show j_V jP d 118 0 [(0, .ref 0), (1, .int x1), (2, .int x2), (3, .int x3)] [] h _
  obtain ⟨lv, elv, L⟩ : ∃ lv, lv = [(0, .ref 0), (1, .int x1), (2, .int x2), (3, .int x3)] ∧ LK lv [(0, .ref 0), (1, .int x1), (2, .int x2), (3, .int x3)] := ⟨_, rfl, LK.rf⟩
  rw [← elv]
  clear elv
  refine j_V.ldL xa72_M xa72_0 rfl (i := 3) (kd := 0) (v := .int x3) (pc' := 1) rfl L rfl rfl rfl ?_
  refine j_V.one xa72_M xa72_1 (by decide) (pc' := 2) (st' := [.int 0, .int x3]) rfl ?_
  refine j_V.one xa72_M xa72_2 (by decide) (pc' := 3) (st' := [.int 2, .int 0, .int x3]) rfl ?_
  refine j_V.cl xa72_M xa72_3 rfl (md := 2) (mj := 162) rfl (by decide) xawisWi_M (As := [.int x3, .int 0, .int 2]) (rest := []) (jk_spl2 rfl rfl (Nat.le_of_ble_eq_true rfl) (Nat.le_of_ble_eq_true rfl)) (fun d => xawisWi_ok (K.fi [] rfl rfl)) ?_
  rintro r hz ⟨rfl, ez⟩
  rw [ez]
  clear ez
  show j_V jP _ 118 6 lv [.int (x_isWithin x3 0 2)] h _
  refine j_V.ifc xa72_M xa72_6 (t := 15) rfl (fun c6_0 => ?_) (fun c6_0 => ?_)
  · replace c6_0 : ¬ ((x_isWithin x3 0 2) = 0) := jd_ne c6_0
    refine j_V.ldL xa72_M xa72_15 rfl (i := 0) (kd := 2) (v := .ref 0) (pc' := 16) rfl L rfl rfl rfl ?_
    refine j_V.ldL xa72_M xa72_16 rfl (i := 1) (kd := 0) (v := .int x1) (pc' := 17) rfl L rfl rfl rfl ?_
    refine j_V.ldL xa72_M xa72_17 rfl (i := 2) (kd := 0) (v := .int x2) (pc' := 18) rfl L rfl rfl rfl ?_
    refine j_V.cl xa72_M xa72_18 rfl (md := 3) (mj := 164) rfl (by decide) xa46_M (As := [.ref 0, .int x1, .int x2]) (rest := []) (jk_spl3 (K.at rfl) rfl rfl rfl (Nat.le_of_ble_eq_true rfl) (Nat.le_of_ble_eq_true rfl)) (fun d => xa46_ok (K.fi [0, 327, 330] rfl rfl)) ?_
    rintro r hz ⟨rfl, ez⟩
    rw [ez]
    clear ez
    show j_V jP _ 118 21 lv [.int (x_isTrack ns tra x1 x2)] h _
    refine j_V.ifc xa72_M xa72_21 (t := 30) rfl (fun c21_1 => ?_) (fun c21_1 => ?_)
    · replace c21_1 : ¬ ((x_isTrack ns tra x1 x2) = 0) := jd_ne c21_1
      refine j_V.ldL xa72_M xa72_30 rfl (i := 1) (kd := 0) (v := .int x1) (pc' := 31) rfl L rfl rfl rfl ?_
      refine j_V.one xa72_M xa72_31 (by decide) (pc' := 32) (st' := [.int 3, .int x1]) rfl ?_
      refine j_V.one xa72_M xa72_32 (by decide) (pc' := 33) (st' := [.int (x1 * 3)]) rfl ?_
      refine j_V.ldL xa72_M xa72_33 rfl (i := 2) (kd := 0) (v := .int x2) (pc' := 34) rfl L rfl rfl rfl ?_
      refine j_V.one xa72_M xa72_34 (by decide) (pc' := 35) (st' := [.int ((x1 * 3) + x2)]) rfl ?_
      refine j_V.stL xa72_M xa72_35 rfl (i := 4) (kd := 0) (kl' := [(0, .ref 0), (1, .int x1), (2, .int x2), (3, .int x3), (4, .int ((x1 * 3) + x2))]) (pc' := 37) rfl L rfl (by decide) rfl rfl rfl (fun lv L => ?_)
      refine j_V.ldL xa72_M xa72_37 rfl (i := 3) (kd := 0) (v := .int x3) (pc' := 38) rfl L rfl rfl rfl ?_
      refine j_V.lsw xa72_M xa72_38 (fun t ht => ?_)
      by_cases s38_0 : x3 = 0
      · obtain rfl : 64 = t := by rw [s38_0] at ht; exact Option.some.inj (show some 64 = some t from ht)
        refine j_V.ldL xa72_M xa72_64 rfl (i := 0) (kd := 2) (v := .ref 0) (pc' := 65) rfl L rfl rfl rfl ?_
        refine j_V.ldL xa72_M xa72_65 rfl (i := 0) (kd := 2) (v := .ref 0) (pc' := 66) rfl L rfl rfl rfl ?_
        refine j_V.getK xa72_M xa72_66 (ci := 9) (j := 6) rfl K rfl rfl ?_
        refine j_V.getK xa72_M xa72_69 (ci := 2) (j := 4) rfl K rfl rfl ?_
        refine j_V.ldL xa72_M xa72_72 rfl (i := 4) (kd := 0) (v := .int ((x1 * 3) + x2)) (pc' := 74) rfl L rfl rfl rfl ?_
        refine j_V.iaA xa72_M xa72_74 K rfl ?_
        refine j_V.cl xa72_M xa72_75 rfl (md := 3) (mj := 159) rfl (by decide) xa49_M (As := [.ref 0, .int (gA len ((x1 * 3) + x2))]) (rest := []) (jk_spl3 (K.at rfl) rfl rfl rfl (Nat.le_of_ble_eq_true rfl) (Nat.le_of_ble_eq_true rfl)) (fun d => xa49_ok (K.fi [0] rfl rfl)) ?_
        rintro r h9 ⟨rfl, K9⟩
        generalize ez1 : (x_qanswer sst (gA len ((x1 * 3) + x2))) = z1 at K9 ⊢
        have K : KN h9 [(0, .inl (9, [.ref 1, .ref 3, .ref 4, .ref 29, .ref 281, .ref 325, .ref 327, .ref 343, .int (z1.2)])), (4, .inl (7, [.ref 327, .int mi, .int shu, .int bus, .ref 5, .ref 6, .ref 7, .ref 8, .ref 9, .ref 10, .ref 11, .ref 12, .ref 13, .ref 14, .ref 15, .int lks, .ref 16, .ref 17, .ref 20])), (9, .inr (.inl (0, ce))), (327, .inl (2, [.int ns, .ref 328, .ref 329, .ref 330, .ref 331, .int nt, .ref 332, .ref 333, .ref 334, .ref 335, .ref 336, .ref 337, .ref 338, .int cel, .ref 339, .ref 340, .ref 341, .ref 342])), (330, .inr (.inl (0, tra))), (331, .inr (.inl (0, len)))] h0 := K.mg K9 rfl rfl
        clear K9
        show j_V jP _ 118 78 lv [.int (z1.1)] h9 _
        subst ez1
        refine j_V.ri xa72_M xa72_78 ?_
        rw [show (x_qtrack shu ce ns nt tra len sst x1 x2 x3) = _ from ((if_neg c6_0).trans ((if_neg c21_1).trans ((if_pos s38_0).trans (rfl))))]
        exact ⟨rfl, K⟩
      by_cases s38_1 : x3 = 1
      · obtain rfl : 79 = t := by rw [s38_1] at ht; exact Option.some.inj (show some 79 = some t from ht)
        refine j_V.ldL xa72_M xa72_79 rfl (i := 0) (kd := 2) (v := .ref 0) (pc' := 80) rfl L rfl rfl rfl ?_
        refine j_V.ldL xa72_M xa72_80 rfl (i := 0) (kd := 2) (v := .ref 0) (pc' := 81) rfl L rfl rfl rfl ?_
        refine j_V.getK xa72_M xa72_81 (ci := 9) (j := 2) rfl K rfl rfl ?_
        refine j_V.ldL xa72_M xa72_84 rfl (i := 4) (kd := 0) (v := .int ((x1 * 3) + x2)) (pc' := 86) rfl L rfl rfl rfl ?_
        refine j_V.cl xa72_M xa72_86 rfl (md := 3) (mj := 69) rfl (by decide) xa10_M (As := [.ref 4, .int ((x1 * 3) + x2)]) (rest := [.ref 0]) (jk_spl3 (K.at rfl) rfl rfl rfl (Nat.le_of_ble_eq_true rfl) (Nat.le_of_ble_eq_true rfl)) (fun d => xa10_ok (K.fi [4, 9, 327] rfl rfl)) ?_
        rintro r hz ⟨rfl, ez⟩
        rw [ez]
        clear ez
        show j_V jP _ 118 89 lv [.int (x_trainWith ce nt ((x1 * 3) + x2)), .ref 0] h _
        refine j_V.cl xa72_M xa72_89 rfl (md := 3) (mj := 160) rfl (by decide) xa51_M (As := [.ref 0, .int (x_trainWith ce nt ((x1 * 3) + x2))]) (rest := []) (jk_spl3 (K.at rfl) rfl rfl rfl (Nat.le_of_ble_eq_true rfl) (Nat.le_of_ble_eq_true rfl)) (fun d => xa51_ok (K.fi [0] rfl rfl)) ?_
        rintro r h9 ⟨rfl, K9⟩
        generalize ez2 : (x_qanswerIfAny sst (x_trainWith ce nt ((x1 * 3) + x2))) = z2 at K9 ⊢
        have K : KN h9 [(0, .inl (9, [.ref 1, .ref 3, .ref 4, .ref 29, .ref 281, .ref 325, .ref 327, .ref 343, .int (z2.2)])), (4, .inl (7, [.ref 327, .int mi, .int shu, .int bus, .ref 5, .ref 6, .ref 7, .ref 8, .ref 9, .ref 10, .ref 11, .ref 12, .ref 13, .ref 14, .ref 15, .int lks, .ref 16, .ref 17, .ref 20])), (9, .inr (.inl (0, ce))), (327, .inl (2, [.int ns, .ref 328, .ref 329, .ref 330, .ref 331, .int nt, .ref 332, .ref 333, .ref 334, .ref 335, .ref 336, .ref 337, .ref 338, .int cel, .ref 339, .ref 340, .ref 341, .ref 342])), (330, .inr (.inl (0, tra))), (331, .inr (.inl (0, len)))] h0 := K.mg K9 rfl rfl
        clear K9
        show j_V jP _ 118 92 lv [.int (z2.1)] h9 _
        subst ez2
        refine j_V.ri xa72_M xa72_92 ?_
        rw [show (x_qtrack shu ce ns nt tra len sst x1 x2 x3) = _ from ((if_neg c6_0).trans ((if_neg c21_1).trans ((if_neg s38_0).trans ((if_pos s38_1).trans (rfl)))))]
        exact ⟨rfl, K⟩
      obtain rfl : 93 = t := by rw [lsw_d (ps := [(0, 26), (1, 41)]) (by exact ⟨(fun z => s38_0 (Int32.toInt_inj.mp (by rw [z]; rfl))), (fun z => s38_1 (Int32.toInt_inj.mp (by rw [z]; rfl))), trivial⟩)] at ht; exact Option.some.inj (show some 93 = some t from ht)
      refine j_V.ldL xa72_M xa72_93 rfl (i := 0) (kd := 2) (v := .ref 0) (pc' := 94) rfl L rfl rfl rfl ?_
      refine j_V.ldL xa72_M xa72_94 rfl (i := 0) (kd := 2) (v := .ref 0) (pc' := 95) rfl L rfl rfl rfl ?_
      refine j_V.getK xa72_M xa72_95 (ci := 9) (j := 2) rfl K rfl rfl ?_
      refine j_V.getK xa72_M xa72_98 (ci := 7) (j := 2) rfl K rfl rfl ?_
      refine j_V.ldL xa72_M xa72_101 rfl (i := 4) (kd := 0) (v := .int ((x1 * 3) + x2)) (pc' := 103) rfl L rfl rfl rfl ?_
      refine j_V.one xa72_M xa72_103 (by decide) (pc' := 104) (st' := [.int (shu >>> (((x1 * 3) + x2) &&& 31)), .ref 0]) rfl ?_
      refine j_V.one xa72_M xa72_104 (by decide) (pc' := 105) (st' := [.int 1, .int (shu >>> (((x1 * 3) + x2) &&& 31)), .ref 0]) rfl ?_
      refine j_V.one xa72_M xa72_105 (by decide) (pc' := 106) (st' := [.int ((shu >>> (((x1 * 3) + x2) &&& 31)) &&& 1), .ref 0]) rfl ?_
      refine j_V.cl xa72_M xa72_106 rfl (md := 3) (mj := 159) rfl (by decide) xa49_M (As := [.ref 0, .int ((shu >>> (((x1 * 3) + x2) &&& 31)) &&& 1)]) (rest := []) (jk_spl3 (K.at rfl) rfl rfl rfl (Nat.le_of_ble_eq_true rfl) (Nat.le_of_ble_eq_true rfl)) (fun d => xa49_ok (K.fi [0] rfl rfl)) ?_
      rintro r h9 ⟨rfl, K9⟩
      generalize ez3 : (x_qanswer sst ((shu >>> (((x1 * 3) + x2) &&& 31)) &&& 1)) = z3 at K9 ⊢
      have K : KN h9 [(0, .inl (9, [.ref 1, .ref 3, .ref 4, .ref 29, .ref 281, .ref 325, .ref 327, .ref 343, .int (z3.2)])), (4, .inl (7, [.ref 327, .int mi, .int shu, .int bus, .ref 5, .ref 6, .ref 7, .ref 8, .ref 9, .ref 10, .ref 11, .ref 12, .ref 13, .ref 14, .ref 15, .int lks, .ref 16, .ref 17, .ref 20])), (9, .inr (.inl (0, ce))), (327, .inl (2, [.int ns, .ref 328, .ref 329, .ref 330, .ref 331, .int nt, .ref 332, .ref 333, .ref 334, .ref 335, .ref 336, .ref 337, .ref 338, .int cel, .ref 339, .ref 340, .ref 341, .ref 342])), (330, .inr (.inl (0, tra))), (331, .inr (.inl (0, len)))] h0 := K.mg K9 rfl rfl
      clear K9
      show j_V jP _ 118 109 lv [.int (z3.1)] h9 _
      subst ez3
      refine j_V.ri xa72_M xa72_109 ?_
      rw [show (x_qtrack shu ce ns nt tra len sst x1 x2 x3) = _ from ((if_neg c6_0).trans ((if_neg c21_1).trans ((if_neg s38_0).trans ((if_neg s38_1).trans (rfl)))))]
      exact ⟨rfl, K⟩
    · replace c21_1 : (x_isTrack ns tra x1 x2) = 0 := jd_nen c21_1
      refine j_V.ldL xa72_M xa72_24 rfl (i := 0) (kd := 2) (v := .ref 0) (pc' := 25) rfl L rfl rfl rfl ?_
      refine j_V.one xa72_M xa72_25 (by decide) (pc' := 26) (st' := [.int 2, .ref 0]) rfl ?_
      refine j_V.cl xa72_M xa72_26 rfl (md := 3) (mj := 161) rfl (by decide) xa50_M (As := [.ref 0, .int 2]) (rest := []) (jk_spl3 (K.at rfl) rfl rfl rfl (Nat.le_of_ble_eq_true rfl) (Nat.le_of_ble_eq_true rfl)) (fun d => xa50_ok (K.fi [0] rfl rfl)) ?_
      rintro r h9 ⟨rfl, K9⟩
      generalize ez4 : (x_qrefuse sst 2) = z4 at K9 ⊢
      have K : KN h9 [(0, .inl (9, [.ref 1, .ref 3, .ref 4, .ref 29, .ref 281, .ref 325, .ref 327, .ref 343, .int (z4.2)])), (4, .inl (7, [.ref 327, .int mi, .int shu, .int bus, .ref 5, .ref 6, .ref 7, .ref 8, .ref 9, .ref 10, .ref 11, .ref 12, .ref 13, .ref 14, .ref 15, .int lks, .ref 16, .ref 17, .ref 20])), (9, .inr (.inl (0, ce))), (327, .inl (2, [.int ns, .ref 328, .ref 329, .ref 330, .ref 331, .int nt, .ref 332, .ref 333, .ref 334, .ref 335, .ref 336, .ref 337, .ref 338, .int cel, .ref 339, .ref 340, .ref 341, .ref 342])), (330, .inr (.inl (0, tra))), (331, .inr (.inl (0, len)))] h0 := K.mg K9 rfl rfl
      clear K9
      show j_V jP _ 118 29 lv [.int (z4.1)] h9 _
      subst ez4
      refine j_V.ri xa72_M xa72_29 ?_
      rw [show (x_qtrack shu ce ns nt tra len sst x1 x2 x3) = _ from ((if_neg c6_0).trans ((if_pos c21_1).trans (rfl)))]
      exact ⟨rfl, K⟩
  · replace c6_0 : (x_isWithin x3 0 2) = 0 := jd_nen c6_0
    refine j_V.ldL xa72_M xa72_9 rfl (i := 0) (kd := 2) (v := .ref 0) (pc' := 10) rfl L rfl rfl rfl ?_
    refine j_V.one xa72_M xa72_10 (by decide) (pc' := 11) (st' := [.int 1, .ref 0]) rfl ?_
    refine j_V.cl xa72_M xa72_11 rfl (md := 3) (mj := 161) rfl (by decide) xa50_M (As := [.ref 0, .int 1]) (rest := []) (jk_spl3 (K.at rfl) rfl rfl rfl (Nat.le_of_ble_eq_true rfl) (Nat.le_of_ble_eq_true rfl)) (fun d => xa50_ok (K.fi [0] rfl rfl)) ?_
    rintro r h9 ⟨rfl, K9⟩
    generalize ez5 : (x_qrefuse sst 1) = z5 at K9 ⊢
    have K : KN h9 [(0, .inl (9, [.ref 1, .ref 3, .ref 4, .ref 29, .ref 281, .ref 325, .ref 327, .ref 343, .int (z5.2)])), (4, .inl (7, [.ref 327, .int mi, .int shu, .int bus, .ref 5, .ref 6, .ref 7, .ref 8, .ref 9, .ref 10, .ref 11, .ref 12, .ref 13, .ref 14, .ref 15, .int lks, .ref 16, .ref 17, .ref 20])), (9, .inr (.inl (0, ce))), (327, .inl (2, [.int ns, .ref 328, .ref 329, .ref 330, .ref 331, .int nt, .ref 332, .ref 333, .ref 334, .ref 335, .ref 336, .ref 337, .ref 338, .int cel, .ref 339, .ref 340, .ref 341, .ref 342])), (330, .inr (.inl (0, tra))), (331, .inr (.inl (0, len)))] h0 := K.mg K9 rfl rfl
    clear K9
    show j_V jP _ 118 14 lv [.int (z5.1)] h9 _
    subst ez5
    refine j_V.ri xa72_M xa72_14 ?_
    rw [show (x_qtrack shu ce ns nt tra len sst x1 x2 x3) = _ from ((if_pos c6_0).trans (rfl))]
    exact ⟨rfl, K⟩

def j_Mchk (M : j_M) (own : String) (n1 n2 : Nat) : Bool := plainName (j_y M).cls && ((!j_in M || decide ((j_y M).name = "<init>")) && (j_hw n1 (.code (j_y M) (j_by M) (j_nL M) (j_rt M)) && (decide ((j_y M).cls ≠ "java/lang/invoke/MethodHandle") && (decide ((j_y M).cls ≠ "java/lang/invoke/VarHandle") && (decide ((parseMethodDescriptor (j_y M).desc).map (fun d => d.parameters.length) = some (j_np M)) && (decide (j_nL M ≤ 11) && (j_hw n2 (.initialized (j_y M).cls) && decide ((j_y M).cls = own))))))))
def j_mfact (q : Nat × j_MT) : Prop := j_Mok WG q.2.1 ∧ j_dchk (j_by q.2.1) q.2.2.2 = true ∧ (j_y q.2.1).cls = jown q.2.2.1
theorem j_Mchk_ok {q : Nat × j_MT} (n1 n2 : Nat) (h : j_Mchk q.2.1 (jown q.2.2.1) n1 n2 = true) (hd : j_dchk (j_by q.2.1) q.2.2.2 = true) : j_mfact q := by
  unfold j_Mchk at h
  simp only [Bool.and_eq_true] at h
  obtain ⟨h1, h2, h3, h4, h5, h6, h7, h8, h9⟩ := h
  refine ⟨⟨h1, fun z => ?_, j_hw_ok h3, ⟨of_decide_eq_true h4, of_decide_eq_true h5, of_decide_eq_true h6⟩, of_decide_eq_true h7, j_hw_ok h8⟩, hd, of_decide_eq_true h9⟩
  rw [z] at h2
  simpa using h2
set_option maxRecDepth 100000 in
theorem jq_0 : j_mfact (0, ((yX0_init, cX0_init, 2, none, 0, true, 0), 0, jc_X0_init)) := j_Mchk_ok 370 130 (by decide +kernel) (by decide +kernel)
set_option maxRecDepth 100000 in
theorem jq_1 : j_mfact (1, ((yX0_forget, cX0_forget, 1, none, 0, false, 0), 0, jc_X0_forget)) := j_Mchk_ok 728 130 (by decide +kernel) (by decide +kernel)
set_option maxRecDepth 100000 in
theorem jq_2 : j_mfact (2, ((yX0_remember, cX0_remember, 2, none, 1, false, 0), 0, jc_X0_remember)) := j_Mchk_ok 1150 130 (by decide +kernel) (by decide +kernel)
set_option maxRecDepth 100000 in
theorem jq_3 : j_mfact (3, ((yX0_takeBack, cX0_takeBack, 2, none, 1, false, 0), 0, jc_X0_takeBack)) := j_Mchk_ok 1211 130 (by decide +kernel) (by decide +kernel)
set_option maxRecDepth 100000 in
theorem jq_4 : j_mfact (4, ((yX1_init, cX1_init, 1, none, 0, true, 1), 1, jc_X1_init)) := j_Mchk_ok 390 131 (by decide +kernel) (by decide +kernel)
set_option maxRecDepth 100000 in
theorem jq_5 : j_mfact (5, ((yX1_afterMinutes, cX1_afterMinutes, 4, (some (.object "SidingLoops$State")), 3, false, 1), 1, jc_X1_afterMinutes)) := j_Mchk_ok 975 131 (by decide +kernel) (by decide +kernel)
set_option maxRecDepth 100000 in
theorem jq_6 : j_mfact (6, ((yX1_atEnd, cX1_atEnd, 3, (some (.object "SidingLoops$State")), 2, false, 1), 1, jc_X1_atEnd)) := j_Mchk_ok 1054 131 (by decide +kernel) (by decide +kernel)
set_option maxRecDepth 100000 in
theorem jq_7 : j_mfact (7, ((yX1_price, cX1_price, 2, (some .int), 1, false, 1), 1, jc_X1_price)) := j_Mchk_ok 1091 131 (by decide +kernel) (by decide +kernel)
set_option maxRecDepth 100000 in
theorem jq_8 : j_mfact (8, ((yX1_priceHeld, cX1_priceHeld, 4, (some .int), 3, false, 1), 1, jc_X1_priceHeld)) := j_Mchk_ok 1087 131 (by decide +kernel) (by decide +kernel)
set_option maxRecDepth 100000 in
theorem jq_9 : j_mfact (9, ((yX1_priceStarting, cX1_priceStarting, 4, (some .int), 3, false, 1), 1, jc_X1_priceStarting)) := j_Mchk_ok 1103 131 (by decide +kernel) (by decide +kernel)
set_option maxRecDepth 100000 in
theorem jq_10 : j_mfact (10, ((yX1_priceSwapped, cX1_priceSwapped, 5, (some .int), 3, false, 1), 1, jc_X1_priceSwapped)) := j_Mchk_ok 1111 131 (by decide +kernel) (by decide +kernel)
set_option maxRecDepth 100000 in
theorem jq_11 : j_mfact (11, ((yX1_priceWithout, cX1_priceWithout, 3, (some .int), 2, false, 1), 1, jc_X1_priceWithout)) := j_Mchk_ok 1119 131 (by decide +kernel) (by decide +kernel)
set_option maxRecDepth 100000 in
theorem jq_12 : j_mfact (12, ((yX1_priceWithTrack, cX1_priceWithTrack, 4, (some .int), 3, false, 1), 1, jc_X1_priceWithTrack)) := j_Mchk_ok 1132 131 (by decide +kernel) (by decide +kernel)
set_option maxRecDepth 100000 in
theorem jq_13 : j_mfact (13, ((yX1_findPlan, cX1_findPlan, 7, (some .int), 1, false, 1), 1, jc_X1_findPlan)) := j_Mchk_ok 1070 131 (by decide +kernel) (by decide +kernel)
set_option maxRecDepth 100000 in
theorem jq_14 : j_mfact (14, ((yX1_nextOrder, cX1_nextOrder, 6, (some .boolean), 1, false, 1), 1, jc_X1_nextOrder)) := j_Mchk_ok 1075 131 (by decide +kernel) (by decide +kernel)
set_option maxRecDepth 100000 in
theorem jq_15 : j_mfact (15, ((yX1_exchange, cX1_exchange, 4, none, 2, false, 1), 1, jc_X1_exchange)) := j_Mchk_ok 1079 131 (by decide +kernel) (by decide +kernel)
set_option maxRecDepth 100000 in
theorem jq_16 : j_mfact (16, ((yX1_readRank, cX1_readRank, 7, (some .boolean), 2, false, 1), 1, jc_X1_readRank)) := j_Mchk_ok 1169 131 (by decide +kernel) (by decide +kernel)
set_option maxRecDepth 100000 in
theorem jq_17 : j_mfact (17, ((yX2_init, cX2_init, 1, none, 0, true, 2), 2, jc_X2_init)) := j_Mchk_ok 398 132 (by decide +kernel) (by decide +kernel)
set_option maxRecDepth 100000 in
theorem jq_18 : j_mfact (18, ((yX2_clear, cX2_clear, 1, none, 0, false, 2), 2, jc_X2_clear)) := j_Mchk_ok 618 132 (by decide +kernel) (by decide +kernel)
set_option maxRecDepth 100000 in
theorem jq_19 : j_mfact (19, ((yX2_settle, cX2_settle, 2, none, 0, false, 2), 2, jc_X2_settle)) := j_Mchk_ok 704 132 (by decide +kernel) (by decide +kernel)
set_option maxRecDepth 100000 in
theorem jq_20 : j_mfact (20, ((yX2_settleFit, cX2_settleFit, 3, none, 1, false, 2), 2, jc_X2_settleFit)) := j_Mchk_ok 712 132 (by decide +kernel) (by decide +kernel)
set_option maxRecDepth 100000 in
theorem jq_21 : j_mfact (21, ((yX2_settleWay, cX2_settleWay, 5, none, 1, false, 2), 2, jc_X2_settleWay)) := j_Mchk_ok 716 132 (by decide +kernel) (by decide +kernel)
set_option maxRecDepth 100000 in
theorem jq_22 : j_mfact (22, ((yX2_rideTo, cX2_rideTo, 5, (some .int), 2, false, 2), 2, jc_X2_rideTo)) := j_Mchk_ok 720 132 (by decide +kernel) (by decide +kernel)
set_option maxRecDepth 100000 in
theorem jq_23 : j_mfact (23, ((yX2_cellsOf, cX2_cellsOf, 2, (some .int), 1, false, 2), 2, jc_X2_cellsOf)) := j_Mchk_ok 708 132 (by decide +kernel) (by decide +kernel)
set_option maxRecDepth 100000 in
theorem jq_24 : j_mfact (24, ((yX2_longest, cX2_longest, 4, (some .int), 1, false, 2), 2, jc_X2_longest)) := j_Mchk_ok 821 132 (by decide +kernel) (by decide +kernel)
set_option maxRecDepth 100000 in
theorem jq_25 : j_mfact (25, ((yX2_copyWithTrack, cX2_copyWithTrack, 4, none, 3, false, 2), 2, jc_X2_copyWithTrack)) := j_Mchk_ok 1136 132 (by decide +kernel) (by decide +kernel)
set_option maxRecDepth 100000 in
theorem jq_26 : j_mfact (26, ((yX3_init, cX3_init, 2, none, 1, true, 3), 3, jc_X3_init)) := j_Mchk_ok 238 129 (by decide +kernel) (by decide +kernel)
set_option maxRecDepth 100000 in
theorem jq_27 : j_mfact (27, ((yX3_reset, cX3_reset, 1, none, 0, false, 3), 3, jc_X3_reset)) := j_Mchk_ok 556 129 (by decide +kernel) (by decide +kernel)
set_option maxRecDepth 100000 in
theorem jq_28 : j_mfact (28, ((yX3_copyFrom, cX3_copyFrom, 2, none, 1, false, 3), 3, jc_X3_copyFrom)) := j_Mchk_ok 983 129 (by decide +kernel) (by decide +kernel)
set_option maxRecDepth 100000 in
theorem jq_29 : j_mfact (29, ((yX3_note, cX3_note, 5, none, 4, false, 3), 3, jc_X3_note)) := j_Mchk_ok 1002 129 (by decide +kernel) (by decide +kernel)
set_option maxRecDepth 100000 in
theorem jq_30 : j_mfact (30, ((yX3_noteRider, cX3_noteRider, 3, none, 2, false, 3), 3, jc_X3_noteRider)) := j_Mchk_ok 1027 129 (by decide +kernel) (by decide +kernel)
set_option maxRecDepth 100000 in
theorem jq_31 : j_mfact (31, ((yX3_noteMinutes, cX3_noteMinutes, 4, none, 2, false, 3), 3, jc_X3_noteMinutes)) := j_Mchk_ok 1035 129 (by decide +kernel) (by decide +kernel)
set_option maxRecDepth 100000 in
theorem jq_32 : j_mfact (32, ((yX3_noteMeetings, cX3_noteMeetings, 6, none, 3, false, 3), 3, jc_X3_noteMeetings)) := j_Mchk_ok 1040 129 (by decide +kernel) (by decide +kernel)
set_option maxRecDepth 100000 in
theorem jq_33 : j_mfact (33, ((yX4_init, cX4_init, 2, none, 1, true, 4), 4, jc_X4_init)) := j_Mchk_ok 192 126 (by decide +kernel) (by decide +kernel)
set_option maxRecDepth 100000 in
theorem jq_34 : j_mfact (34, ((yX4_read, cX4_read, 5, (some .boolean), 2, false, 4), 4, jc_X4_read)) := j_Mchk_ok 614 126 (by decide +kernel) (by decide +kernel)
set_option maxRecDepth 100000 in
theorem jq_35 : j_mfact (35, ((yX4_readStation, cX4_readStation, 2, (some .boolean), 0, false, 4), 4, jc_X4_readStation)) := j_Mchk_ok 646 126 (by decide +kernel) (by decide +kernel)
set_option maxRecDepth 100000 in
theorem jq_36 : j_mfact (36, ((yX4_readTracks, cX4_readTracks, 3, (some .boolean), 1, false, 4), 4, jc_X4_readTracks)) := j_Mchk_ok 684 126 (by decide +kernel) (by decide +kernel)
set_option maxRecDepth 100000 in
theorem jq_37 : j_mfact (37, ((yX4_readTrain, cX4_readTrain, 2, (some .boolean), 0, false, 4), 4, jc_X4_readTrain)) := j_Mchk_ok 688 126 (by decide +kernel) (by decide +kernel)
set_option maxRecDepth 100000 in
theorem jq_38 : j_mfact (38, ((yX4_readManner, cX4_readManner, 2, (some .boolean), 1, false, 4), 4, jc_X4_readManner)) := j_Mchk_ok 696 126 (by decide +kernel) (by decide +kernel)
set_option maxRecDepth 100000 in
theorem jq_39 : j_mfact (39, ((yX4_takeNumber, cX4_takeNumber, 3, (some .boolean), 2, false, 4), 4, jc_X4_takeNumber)) := j_Mchk_ok 673 126 (by decide +kernel) (by decide +kernel)
set_option maxRecDepth 100000 in
theorem jq_40 : j_mfact (40, ((yX4_isNumber, cX4_isNumber, 3, (some .boolean), 2, false, 4), 4, jc_X4_isNumber)) := j_Mchk_ok 677 126 (by decide +kernel) (by decide +kernel)
set_option maxRecDepth 100000 in
theorem jq_41 : j_mfact (41, ((yX4_takeName, cX4_takeName, 2, (some .boolean), 0, false, 4), 4, jc_X4_takeName)) := j_Mchk_ok 658 126 (by decide +kernel) (by decide +kernel)
set_option maxRecDepth 100000 in
theorem jq_42 : j_mfact (42, ((yX4_takeNewName, cX4_takeNewName, 3, (some .boolean), 0, false, 4), 4, jc_X4_takeNewName)) := j_Mchk_ok 654 126 (by decide +kernel) (by decide +kernel)
set_option maxRecDepth 100000 in
theorem jq_43 : j_mfact (43, ((yX4_takeStation, cX4_takeStation, 3, (some .int), 1, false, 4), 4, jc_X4_takeStation)) := j_Mchk_ok 692 126 (by decide +kernel) (by decide +kernel)
set_option maxRecDepth 100000 in
theorem jq_44 : j_mfact (44, ((yX4_stationNamed, cX4_stationNamed, 4, (some .int), 1, false, 4), 4, jc_X4_stationNamed)) := j_Mchk_ok 669 126 (by decide +kernel) (by decide +kernel)
set_option maxRecDepth 100000 in
theorem jq_45 : j_mfact (45, ((yX4_failHere, cX4_failHere, 1, (some .boolean), 0, false, 4), 4, jc_X4_failHere)) := j_Mchk_ok 665 126 (by decide +kernel) (by decide +kernel)
set_option maxRecDepth 100000 in
theorem jq_46 : j_mfact (46, ((yX4_fail, cX4_fail, 2, (some .boolean), 1, false, 4), 4, jc_X4_fail)) := j_Mchk_ok 650 126 (by decide +kernel) (by decide +kernel)
set_option maxRecDepth 100000 in
theorem jq_47 : j_mfact (47, ((yX5_init, cX5_init, 1, none, 0, true, 5), 5, jc_X5_init)) := j_Mchk_ok 219 128 (by decide +kernel) (by decide +kernel)
set_option maxRecDepth 100000 in
theorem jq_48 : j_mfact (48, ((yX5_leftStanding, cX5_leftStanding, 9, (some .int), 3, false, 5), 5, jc_X5_leftStanding)) := j_Mchk_ok 760 128 (by decide +kernel) (by decide +kernel)
set_option maxRecDepth 100000 in
theorem jq_49 : j_mfact (49, ((yX5_firstThrough, cX5_firstThrough, 8, (some .int), 3, false, 5), 5, jc_X5_firstThrough)) := j_Mchk_ok 764 128 (by decide +kernel) (by decide +kernel)
set_option maxRecDepth 100000 in
theorem jq_50 : j_mfact (50, ((yX6_init, cX6_init, 1, none, 0, true, 6), 6, jc_X6_init)) := j_Mchk_ok 526 133 (by decide +kernel) (by decide +kernel)
set_option maxRecDepth 100000 in
theorem jq_51 : j_mfact (51, ((yX6_write, cX6_write, 4, none, 2, false, 6), 6, jc_X6_write)) := j_Mchk_ok 1219 133 (by decide +kernel) (by decide +kernel)
set_option maxRecDepth 100000 in
theorem jq_52 : j_mfact (52, ((yX6_writeStation, cX6_writeStation, 4, none, 2, false, 6), 6, jc_X6_writeStation)) := j_Mchk_ok 1223 133 (by decide +kernel) (by decide +kernel)
set_option maxRecDepth 100000 in
theorem jq_53 : j_mfact (53, ((yX6_writeTrain, cX6_writeTrain, 4, none, 3, false, 6), 6, jc_X6_writeTrain)) := j_Mchk_ok 1241 133 (by decide +kernel) (by decide +kernel)
set_option maxRecDepth 100000 in
theorem jq_54 : j_mfact (54, ((yX6_putStationName, cX6_putStationName, 3, none, 2, false, 6), 6, jc_X6_putStationName)) := j_Mchk_ok 1246 133 (by decide +kernel) (by decide +kernel)
set_option maxRecDepth 100000 in
theorem jq_55 : j_mfact (55, ((yX6_putWord, cX6_putWord, 5, none, 1, false, 6), 6, jc_X6_putWord)) := j_Mchk_ok 1228 133 (by decide +kernel) (by decide +kernel)
set_option maxRecDepth 100000 in
theorem jq_56 : j_mfact (56, ((yX6_putNumber, cX6_putNumber, 2, none, 1, false, 6), 6, jc_X6_putNumber)) := j_Mchk_ok 1237 133 (by decide +kernel) (by decide +kernel)
set_option maxRecDepth 100000 in
theorem jq_57 : j_mfact (57, ((yX6_put, cX6_put, 2, none, 1, false, 6), 6, jc_X6_put)) := j_Mchk_ok 1233 133 (by decide +kernel) (by decide +kernel)
set_option maxRecDepth 100000 in
theorem jq_58 : j_mfact (58, ((yX7_init, cX7_init, 2, none, 1, true, 7), 7, jc_X7_init)) := j_Mchk_ok 213 127 (by decide +kernel) (by decide +kernel)
set_option maxRecDepth 100000 in
theorem jq_59 : j_mfact (59, ((yX7_reset, cX7_reset, 2, none, 1, false, 7), 7, jc_X7_reset)) := j_Mchk_ok 542 127 (by decide +kernel) (by decide +kernel)
set_option maxRecDepth 100000 in
theorem jq_60 : j_mfact (60, ((yX7_rankByWeight, cX7_rankByWeight, 3, none, 0, false, 7), 7, jc_X7_rankByWeight)) := j_Mchk_ok 552 127 (by decide +kernel) (by decide +kernel)
set_option maxRecDepth 100000 in
theorem jq_61 : j_mfact (61, ((yX7_copyFrom, cX7_copyFrom, 2, none, 1, false, 7), 7, jc_X7_copyFrom)) := j_Mchk_ok 979 127 (by decide +kernel) (by decide +kernel)
set_option maxRecDepth 100000 in
theorem jq_62 : j_mfact (62, ((yX7_count, cX7_count, 4, (some .int), 1, false, 7), 7, jc_X7_count)) := j_Mchk_ok 744 127 (by decide +kernel) (by decide +kernel)
set_option maxRecDepth 100000 in
theorem jq_63 : j_mfact (63, ((yX7_delay, cX7_delay, 2, (some .int), 1, false, 7), 7, jc_X7_delay)) := j_Mchk_ok 752 127 (by decide +kernel) (by decide +kernel)
set_option maxRecDepth 100000 in
theorem jq_64 : j_mfact (64, ((yX7_greatestDelay, cX7_greatestDelay, 3, (some .int), 0, false, 7), 7, jc_X7_greatestDelay)) := j_Mchk_ok 792 127 (by decide +kernel) (by decide +kernel)
set_option maxRecDepth 100000 in
theorem jq_65 : j_mfact (65, ((yX7_price, cX7_price, 4, (some .int), 1, false, 7), 7, jc_X7_price)) := j_Mchk_ok 748 127 (by decide +kernel) (by decide +kernel)
set_option maxRecDepth 100000 in
theorem jq_66 : j_mfact (66, ((yX7_allUse, cX7_allUse, 3, (some .int), 0, false, 7), 7, jc_X7_allUse)) := j_Mchk_ok 1058 127 (by decide +kernel) (by decide +kernel)
set_option maxRecDepth 100000 in
theorem jq_67 : j_mfact (67, ((yX7_freeCells, cX7_freeCells, 1, (some .int), 0, false, 7), 7, jc_X7_freeCells)) := j_Mchk_ok 806 127 (by decide +kernel) (by decide +kernel)
set_option maxRecDepth 100000 in
theorem jq_68 : j_mfact (68, ((yX7_trainsIn, cX7_trainsIn, 4, (some .int), 1, false, 7), 7, jc_X7_trainsIn)) := j_Mchk_ok 817 127 (by decide +kernel) (by decide +kernel)
set_option maxRecDepth 100000 in
theorem jq_69 : j_mfact (69, ((yX7_trainWith, cX7_trainWith, 3, (some .int), 1, false, 7), 7, jc_X7_trainWith)) := j_Mchk_ok 833 127 (by decide +kernel) (by decide +kernel)
set_option maxRecDepth 100000 in
theorem jq_70 : j_mfact (70, ((yX7_stationOf, cX7_stationOf, 2, (some .int), 1, false, 7), 7, jc_X7_stationOf)) := j_Mchk_ok 849 127 (by decide +kernel) (by decide +kernel)
set_option maxRecDepth 100000 in
theorem jq_71 : j_mfact (71, ((yX7_trackOf, cX7_trackOf, 2, (some .int), 1, false, 7), 7, jc_X7_trackOf)) := j_Mchk_ok 853 127 (by decide +kernel) (by decide +kernel)
set_option maxRecDepth 100000 in
theorem jq_72 : j_mfact (72, ((yX7_minutesToGo, cX7_minutesToGo, 2, (some .int), 1, false, 7), 7, jc_X7_minutesToGo)) := j_Mchk_ok 857 127 (by decide +kernel) (by decide +kernel)
set_option maxRecDepth 100000 in
theorem jq_73 : j_mfact (73, ((yX7_heldTill, cX7_heldTill, 2, (some .int), 1, false, 7), 7, jc_X7_heldTill)) := j_Mchk_ok 862 127 (by decide +kernel) (by decide +kernel)
set_option maxRecDepth 100000 in
theorem jq_74 : j_mfact (74, ((yX7_placeInRank, cX7_placeInRank, 3, (some .int), 1, false, 7), 7, jc_X7_placeInRank)) := j_Mchk_ok 866 127 (by decide +kernel) (by decide +kernel)
set_option maxRecDepth 100000 in
theorem jq_75 : j_mfact (75, ((yX7_sameInRank, cX7_sameInRank, 4, (some .int), 1, false, 7), 7, jc_X7_sameInRank)) := j_Mchk_ok 1174 127 (by decide +kernel) (by decide +kernel)
set_option maxRecDepth 100000 in
theorem jq_76 : j_mfact (76, ((yX7_isSafe, cX7_isSafe, 1, (some .boolean), 0, false, 7), 7, jc_X7_isSafe)) := j_Mchk_ok 756 127 (by decide +kernel) (by decide +kernel)
set_option maxRecDepth 100000 in
theorem jq_77 : j_mfact (77, ((yX7_isWeak, cX7_isWeak, 4, (some .boolean), 1, false, 7), 7, jc_X7_isWeak)) := j_Mchk_ok 894 127 (by decide +kernel) (by decide +kernel)
set_option maxRecDepth 100000 in
theorem jq_78 : j_mfact (78, ((yX7_isStuck, cX7_isStuck, 3, (some .boolean), 0, false, 7), 7, jc_X7_isStuck)) := j_Mchk_ok 768 127 (by decide +kernel) (by decide +kernel)
set_option maxRecDepth 100000 in
theorem jq_79 : j_mfact (79, ((yX7_canMove, cX7_canMove, 2, (some .boolean), 1, false, 7), 7, jc_X7_canMove)) := j_Mchk_ok 772 127 (by decide +kernel) (by decide +kernel)
set_option maxRecDepth 100000 in
theorem jq_80 : j_mfact (80, ((yX7_reason, cX7_reason, 3, (some .int), 1, false, 7), 7, jc_X7_reason)) := j_Mchk_ok 878 127 (by decide +kernel) (by decide +kernel)
set_option maxRecDepth 100000 in
theorem jq_81 : j_mfact (81, ((yX7_waitsFor, cX7_waitsFor, 6, (some .int), 1, false, 7), 7, jc_X7_waitsFor)) := j_Mchk_ok 912 127 (by decide +kernel) (by decide +kernel)
set_option maxRecDepth 100000 in
theorem jq_82 : j_mfact (82, ((yX7_isInRing, cX7_isInRing, 5, (some .boolean), 1, false, 7), 7, jc_X7_isInRing)) := j_Mchk_ok 921 127 (by decide +kernel) (by decide +kernel)
set_option maxRecDepth 100000 in
theorem jq_83 : j_mfact (83, ((yX7_nextStation, cX7_nextStation, 2, (some .int), 1, false, 7), 7, jc_X7_nextStation)) := j_Mchk_ok 788 127 (by decide +kernel) (by decide +kernel)
set_option maxRecDepth 100000 in
theorem jq_84 : j_mfact (84, ((yX7_sectionAhead, cX7_sectionAhead, 2, (some .int), 1, false, 7), 7, jc_X7_sectionAhead)) := j_Mchk_ok 784 127 (by decide +kernel) (by decide +kernel)
set_option maxRecDepth 100000 in
theorem jq_85 : j_mfact (85, ((yX7_target, cX7_target, 3, (some .int), 1, false, 7), 7, jc_X7_target)) := j_Mchk_ok 776 127 (by decide +kernel) (by decide +kernel)
set_option maxRecDepth 100000 in
theorem jq_86 : j_mfact (86, ((yX7_freeCell, cX7_freeCell, 6, (some .int), 2, false, 7), 7, jc_X7_freeCell)) := j_Mchk_ok 780 127 (by decide +kernel) (by decide +kernel)
set_option maxRecDepth 100000 in
theorem jq_87 : j_mfact (87, ((yX7_hasLink, cX7_hasLink, 5, (some .boolean), 3, false, 7), 7, jc_X7_hasLink)) := j_Mchk_ok 1191 127 (by decide +kernel) (by decide +kernel)
set_option maxRecDepth 100000 in
theorem jq_88 : j_mfact (88, ((yX7_linkKeeps, cX7_linkKeeps, 5, (some .boolean), 1, false, 7), 7, jc_X7_linkKeeps)) := j_Mchk_ok 903 127 (by decide +kernel) (by decide +kernel)
set_option maxRecDepth 100000 in
theorem jq_89 : j_mfact (89, ((yX7_isKept, cX7_isKept, 3, (some .boolean), 1, false, 7), 7, jc_X7_isKept)) := j_Mchk_ok 1010 127 (by decide +kernel) (by decide +kernel)
set_option maxRecDepth 100000 in
theorem jq_90 : j_mfact (90, ((yX7_addLink, cX7_addLink, 4, none, 3, false, 7), 7, jc_X7_addLink)) := j_Mchk_ok 1195 127 (by decide +kernel) (by decide +kernel)
set_option maxRecDepth 100000 in
theorem jq_91 : j_mfact (91, ((yX7_removeLink, cX7_removeLink, 3, none, 1, false, 7), 7, jc_X7_removeLink)) := j_Mchk_ok 1203 127 (by decide +kernel) (by decide +kernel)
set_option maxRecDepth 100000 in
theorem jq_92 : j_mfact (92, ((yX7_advance, cX7_advance, 6, (some .int), 3, false, 7), 7, jc_X7_advance)) := j_Mchk_ok 988 127 (by decide +kernel) (by decide +kernel)
set_option maxRecDepth 100000 in
theorem jq_93 : j_mfact (93, ((yX7_passMinute, cX7_passMinute, 4, (some .boolean), 1, false, 7), 7, jc_X7_passMinute)) := j_Mchk_ok 994 127 (by decide +kernel) (by decide +kernel)
set_option maxRecDepth 100000 in
theorem jq_94 : j_mfact (94, ((yX7_nextDue, cX7_nextDue, 4, (some .int), 1, false, 7), 7, jc_X7_nextDue)) := j_Mchk_ok 1044 127 (by decide +kernel) (by decide +kernel)
set_option maxRecDepth 100000 in
theorem jq_95 : j_mfact (95, ((yX7_endMinutes, cX7_endMinutes, 3, none, 1, false, 7), 7, jc_X7_endMinutes)) := j_Mchk_ok 1031 127 (by decide +kernel) (by decide +kernel)
set_option maxRecDepth 100000 in
theorem jq_96 : j_mfact (96, ((yX7_tryMove, cX7_tryMove, 4, (some .boolean), 2, false, 7), 7, jc_X7_tryMove)) := j_Mchk_ok 1006 127 (by decide +kernel) (by decide +kernel)
set_option maxRecDepth 100000 in
theorem jq_97 : j_mfact (97, ((yX7_comeIn, cX7_comeIn, 3, none, 2, false, 7), 7, jc_X7_comeIn)) := j_Mchk_ok 1015 127 (by decide +kernel) (by decide +kernel)
set_option maxRecDepth 100000 in
theorem jq_98 : j_mfact (98, ((yX7_leave, cX7_leave, 4, none, 2, false, 7), 7, jc_X7_leave)) := j_Mchk_ok 1023 127 (by decide +kernel) (by decide +kernel)
set_option maxRecDepth 100000 in
theorem jq_99 : j_mfact (99, ((yX7_arrive, cX7_arrive, 2, none, 1, false, 7), 7, jc_X7_arrive)) := j_Mchk_ok 998 127 (by decide +kernel) (by decide +kernel)

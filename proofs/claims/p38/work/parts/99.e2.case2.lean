/-! cases of the law: written by wip/p5/gen_law5.py -/
theorem la_case_24 (hPk : j_Pok WG vwCl la_RN jNW jP) {l : Launch} {p : Program} {e : Env} {s : State} {m : MethodId} {below : List Frame} {meth : Method} {c : Code} {bs L t : Nat} {xs : Nat → Int32} {D : va_G} {g : j_G} (C : la_C p s m meth c bs L xs D g) (ht : 6 * t + 6 ≤ L) (hL : L ≤ 3072) (nxt : la_B l p e s m below meth c bs D g (t + 1) 23) : la_B l p e s m below meth c bs D g t 1036 := by
  intro h H locs ls hk hP hS hl
  have hx := C.1.1
  have hb := C.1.2.1
  have hc9 : 373 + t ≤ 601024 := by omega
  have ht9 : t < 512 := by omega
  have hs9 : 19204 + 6 * t ≤ 7293034 := by omega
  refine lv_aload_n hx hb dL_law_1036 rfl (lv_at hl 3 rfl) ?_
  refine la_arg C ht hL (lv_at hl 4 rfl) (lv_at hl 0 rfl) hS dL_law_1037 dL_law_1038 dL_law_1040 dL_law_1041 dL_law_1042 (k := 1) ⟨by decide, by decide⟩ ?_
  refine la_arg C ht hL (lv_at hl 4 rfl) (lv_at hl 0 rfl) hS dL_law_1043 dL_law_1044 dL_law_1046 dL_law_1047 dL_law_1048 (k := 2) ⟨by decide, by decide⟩ ?_
  obtain ⟨f0, hf0⟩ := hk.h0
  refine la_vir hPk (st := [.int (xs (6 * t + 2)), .int (xs (6 * t + 1)), .ref 0]) (As := [.ref 0, .int (xs (6 * t + 1)), .int (xs (6 * t + 2))]) (rest := []) (N := (yX9_gone, cX9_gone, 4, (some .int), 2, false, 9)) C hl.1 dL_law_1049 (j_Cchk_ok (own := R_law) (q := (120, 3, 136, [960, 961, 962])) (by decide +kernel)) rfl (j_spl3 hf0 rfl rfl rfl (Nat.zero_le _) (Nat.le_of_ble_eq_true rfl)) (la_q_gone (xs (6 * t + 1)) (xs (6 * t + 2)) ht9 hk) (fun r h' z => z.elim fun v y => y.2.1.1) hc9 hs9 hP hS ?_
  rintro r h1 H1 locs1 ⟨v, rfl, s1, q1⟩ hP1 hS1
  clear hP hS
  have hS := hS1
  show W p l e room_1 s m #[Value.ref bs] below meth c H1 locs1 (373 + t) (19204 + 6 * t) _ (F0 m 1052 ls [.int v])
  refine lv_pop hx hb dL_law_1052 rfl ?_
  refine lv_aload_n hx hb dL_law_1053 rfl (lv_at hl 2 rfl) ?_
  refine la_arg C ht hL (lv_at hl 4 rfl) (lv_at hl 0 rfl) hS dL_law_1054 dL_law_1055 dL_law_1057 dL_law_1058 dL_law_1059 (k := 1) ⟨by decide, by decide⟩ ?_
  refine la_arg C ht hL (lv_at hl 4 rfl) (lv_at hl 0 rfl) hS dL_law_1060 dL_law_1061 dL_law_1063 dL_law_1064 dL_law_1065 (k := 2) ⟨by decide, by decide⟩ ?_
  obtain ⟨f9, hf9⟩ := la_h359 hk s1
  refine la_vir hPk (st := [.int (xs (6 * t + 2)), .int (xs (6 * t + 1)), .ref 359]) (As := [.ref 359, .int (xs (6 * t + 1)), .int (xs (6 * t + 2))]) (rest := []) (N := (yX10_gone, cX10_gone, 3, (some .int), 2, false, 10)) C hl.1 dL_law_1066 (j_Cchk_ok (own := R_law) (q := (123, 3, 259, [1750, 1751, 1752])) (by decide +kernel)) rfl (j_spl3 hf9 rfl rfl rfl (Nat.zero_le _) (Nat.le_of_ble_eq_true rfl)) q1 (fun r h' z => z.elim fun v y => y.2.2.1.1) hc9 hs9 hP1 hS ?_
  rintro r h2 H2 locs2 ⟨w, rfl, ew, s2, hk2⟩ hP2 hS2
  show W p l e room_1 s m #[Value.ref bs] below meth c H2 locs2 (373 + t) (19204 + 6 * t) _ (F0 m 1069 ls [.int w])
  refine lv_pop hx hb dL_law_1069 rfl ?_
  refine lv_goto (tgt := 1891) hx hb dL_law_1070 (by decide) ?_
  exact la_end C nxt (by omega) (by omega) hk2 hP2 hS2 hl
theorem la_case_25 (hPk : j_Pok WG vwCl la_RN jNW jP) {l : Launch} {p : Program} {e : Env} {s : State} {m : MethodId} {below : List Frame} {meth : Method} {c : Code} {bs L t : Nat} {xs : Nat → Int32} {D : va_G} {g : j_G} (C : la_C p s m meth c bs L xs D g) (ht : 6 * t + 6 ≤ L) (hL : L ≤ 3072) (nxt : la_B l p e s m below meth c bs D g (t + 1) 23) : la_B l p e s m below meth c bs D g t 1073 := by
  intro h H locs ls hk hP hS hl
  have hx := C.1.1
  have hb := C.1.2.1
  have hc9 : 373 + t ≤ 601024 := by omega
  have ht9 : t < 512 := by omega
  have hs9 : 19204 + 6 * t ≤ 7293034 := by omega
  refine lv_aload_n hx hb dL_law_1073 rfl (lv_at hl 3 rfl) ?_
  refine la_arg C ht hL (lv_at hl 4 rfl) (lv_at hl 0 rfl) hS dL_law_1074 dL_law_1075 dL_law_1077 dL_law_1078 dL_law_1079 (k := 1) ⟨by decide, by decide⟩ ?_
  obtain ⟨f0, hf0⟩ := hk.h0
  refine la_vir hPk (st := [.int (xs (6 * t + 1)), .ref 0]) (As := [.ref 0, .int (xs (6 * t + 1))]) (rest := []) (N := (yX9_waits, cX9_waits, 2, (some .int), 1, false, 9)) C hl.1 dL_law_1080 (j_Cchk_ok (own := R_law) (q := (124, 3, 137, [964, 965, 966])) (by decide +kernel)) rfl (j_spl3 hf0 rfl rfl rfl (Nat.zero_le _) (Nat.le_of_ble_eq_true rfl)) (la_q_waits (xs (6 * t + 1)) ht9 hk) (fun r h' z => z.elim fun v y => y.2.1.1) hc9 hs9 hP hS ?_
  rintro r h1 H1 locs1 ⟨v, rfl, s1, q1⟩ hP1 hS1
  clear hP hS
  have hS := hS1
  show W p l e room_1 s m #[Value.ref bs] below meth c H1 locs1 (373 + t) (19204 + 6 * t) _ (F0 m 1083 ls [.int v])
  refine lv_pop hx hb dL_law_1083 rfl ?_
  refine lv_aload_n hx hb dL_law_1084 rfl (lv_at hl 2 rfl) ?_
  refine la_arg C ht hL (lv_at hl 4 rfl) (lv_at hl 0 rfl) hS dL_law_1085 dL_law_1086 dL_law_1088 dL_law_1089 dL_law_1090 (k := 1) ⟨by decide, by decide⟩ ?_
  obtain ⟨f9, hf9⟩ := la_h359 hk s1
  refine la_vir hPk (st := [.int (xs (6 * t + 1)), .ref 359]) (As := [.ref 359, .int (xs (6 * t + 1))]) (rest := []) (N := (yX10_waits, cX10_waits, 2, (some .int), 1, false, 10)) C hl.1 dL_law_1091 (j_Cchk_ok (own := R_law) (q := (127, 3, 260, [1754, 1755, 1756])) (by decide +kernel)) rfl (j_spl3 hf9 rfl rfl rfl (Nat.zero_le _) (Nat.le_of_ble_eq_true rfl)) q1 (fun r h' z => z.elim fun v y => y.2.2.1.1) hc9 hs9 hP1 hS ?_
  rintro r h2 H2 locs2 ⟨w, rfl, ew, s2, hk2⟩ hP2 hS2
  show W p l e room_1 s m #[Value.ref bs] below meth c H2 locs2 (373 + t) (19204 + 6 * t) _ (F0 m 1094 ls [.int w])
  refine lv_pop hx hb dL_law_1094 rfl ?_
  refine lv_goto (tgt := 1891) hx hb dL_law_1095 (by decide) ?_
  exact la_end C nxt (by omega) (by omega) hk2 hP2 hS2 hl
theorem la_case_26 (hPk : j_Pok WG vwCl la_RN jNW jP) {l : Launch} {p : Program} {e : Env} {s : State} {m : MethodId} {below : List Frame} {meth : Method} {c : Code} {bs L t : Nat} {xs : Nat → Int32} {D : va_G} {g : j_G} (C : la_C p s m meth c bs L xs D g) (ht : 6 * t + 6 ≤ L) (hL : L ≤ 3072) (nxt : la_B l p e s m below meth c bs D g (t + 1) 23) : la_B l p e s m below meth c bs D g t 1098 := by
  intro h H locs ls hk hP hS hl
  have hx := C.1.1
  have hb := C.1.2.1
  have hc9 : 373 + t ≤ 601024 := by omega
  have ht9 : t < 512 := by omega
  have hs9 : 19204 + 6 * t ≤ 7293034 := by omega
  refine lv_aload_n hx hb dL_law_1098 rfl (lv_at hl 3 rfl) ?_
  refine la_arg C ht hL (lv_at hl 4 rfl) (lv_at hl 0 rfl) hS dL_law_1099 dL_law_1100 dL_law_1102 dL_law_1103 dL_law_1104 (k := 1) ⟨by decide, by decide⟩ ?_
  refine la_bool C ht hL (lv_at hl 4 rfl) (lv_at hl 0 rfl) hS dL_law_1105 dL_law_1106 dL_law_1108 dL_law_1109 dL_law_1110 dL_law_1111 dL_law_1114 dL_law_1115 dL_law_1118 (k := 2) ⟨by decide, by decide⟩ ?_
  refine la_arg C ht hL (lv_at hl 4 rfl) (lv_at hl 0 rfl) hS dL_law_1119 dL_law_1120 dL_law_1122 dL_law_1123 dL_law_1124 (k := 3) ⟨by decide, by decide⟩ ?_
  obtain ⟨f0, hf0⟩ := hk.h0
  refine la_vir hPk (st := [.int (xs (6 * t + 3)), .int (i_b (!(decide (xs (6 * t + 2) = 0)))), .int (xs (6 * t + 1)), .ref 0]) (As := [.ref 0, .int (xs (6 * t + 1)), .int (i_b (!(decide (xs (6 * t + 2) = 0)))), .int (xs (6 * t + 3))]) (rest := []) (N := (yX9_ahead, cX9_ahead, 5, (some .int), 3, false, 9)) C hl.1 dL_law_1125 (j_Cchk_ok (own := R_law) (q := (128, 3, 138, [968, 969, 970])) (by decide +kernel)) rfl (j_spl3 hf0 rfl rfl rfl (Nat.zero_le _) (Nat.le_of_ble_eq_true rfl)) (la_q_ahead (xs (6 * t + 1)) (!(decide (xs (6 * t + 2) = 0))) (xs (6 * t + 3)) ht9 hk) (fun r h' z => z.elim fun v y => y.2.1.1) hc9 hs9 hP hS ?_
  rintro r h1 H1 locs1 ⟨v, rfl, s1, q1⟩ hP1 hS1
  clear hP hS
  have hS := hS1
  show W p l e room_1 s m #[Value.ref bs] below meth c H1 locs1 (373 + t) (19204 + 6 * t) _ (F0 m 1128 ls [.int v])
  refine lv_pop hx hb dL_law_1128 rfl ?_
  refine lv_aload_n hx hb dL_law_1129 rfl (lv_at hl 2 rfl) ?_
  refine la_arg C ht hL (lv_at hl 4 rfl) (lv_at hl 0 rfl) hS dL_law_1130 dL_law_1131 dL_law_1133 dL_law_1134 dL_law_1135 (k := 1) ⟨by decide, by decide⟩ ?_
  refine la_bool C ht hL (lv_at hl 4 rfl) (lv_at hl 0 rfl) hS dL_law_1136 dL_law_1137 dL_law_1139 dL_law_1140 dL_law_1141 dL_law_1142 dL_law_1145 dL_law_1146 dL_law_1149 (k := 2) ⟨by decide, by decide⟩ ?_
  refine la_arg C ht hL (lv_at hl 4 rfl) (lv_at hl 0 rfl) hS dL_law_1150 dL_law_1151 dL_law_1153 dL_law_1154 dL_law_1155 (k := 3) ⟨by decide, by decide⟩ ?_
  obtain ⟨f9, hf9⟩ := la_h359 hk s1
  refine la_vir hPk (st := [.int (xs (6 * t + 3)), .int (i_b (!(decide (xs (6 * t + 2) = 0)))), .int (xs (6 * t + 1)), .ref 359]) (As := [.ref 359, .int (xs (6 * t + 1)), .int (i_b (!(decide (xs (6 * t + 2) = 0)))), .int (xs (6 * t + 3))]) (rest := []) (N := (yX10_ahead, cX10_ahead, 5, (some .int), 3, false, 10)) C hl.1 dL_law_1156 (j_Cchk_ok (own := R_law) (q := (132, 3, 262, [1758, 1759, 1760])) (by decide +kernel)) rfl (j_spl3 hf9 rfl rfl rfl (Nat.zero_le _) (Nat.le_of_ble_eq_true rfl)) q1 (fun r h' z => z.elim fun v y => y.2.2.1.1) hc9 hs9 hP1 hS ?_
  rintro r h2 H2 locs2 ⟨w, rfl, ew, s2, hk2⟩ hP2 hS2
  show W p l e room_1 s m #[Value.ref bs] below meth c H2 locs2 (373 + t) (19204 + 6 * t) _ (F0 m 1159 ls [.int w])
  refine lv_pop hx hb dL_law_1159 rfl ?_
  refine lv_goto (tgt := 1891) hx hb dL_law_1160 (by decide) ?_
  exact la_end C nxt (by omega) (by omega) hk2 hP2 hS2 hl
theorem la_case_27 (hPk : j_Pok WG vwCl la_RN jNW jP) {l : Launch} {p : Program} {e : Env} {s : State} {m : MethodId} {below : List Frame} {meth : Method} {c : Code} {bs L t : Nat} {xs : Nat → Int32} {D : va_G} {g : j_G} (C : la_C p s m meth c bs L xs D g) (ht : 6 * t + 6 ≤ L) (hL : L ≤ 3072) (nxt : la_B l p e s m below meth c bs D g (t + 1) 23) : la_B l p e s m below meth c bs D g t 1163 := by
  intro h H locs ls hk hP hS hl
  have hx := C.1.1
  have hb := C.1.2.1
  have hc9 : 373 + t ≤ 601024 := by omega
  have ht9 : t < 512 := by omega
  have hs9 : 19204 + 6 * t ≤ 7293034 := by omega
  refine lv_aload_n hx hb dL_law_1163 rfl (lv_at hl 3 rfl) ?_
  refine la_bool C ht hL (lv_at hl 4 rfl) (lv_at hl 0 rfl) hS dL_law_1164 dL_law_1165 dL_law_1167 dL_law_1168 dL_law_1169 dL_law_1170 dL_law_1173 dL_law_1174 dL_law_1177 (k := 1) ⟨by decide, by decide⟩ ?_
  refine la_arg C ht hL (lv_at hl 4 rfl) (lv_at hl 0 rfl) hS dL_law_1178 dL_law_1179 dL_law_1181 dL_law_1182 dL_law_1183 (k := 2) ⟨by decide, by decide⟩ ?_
  obtain ⟨f0, hf0⟩ := hk.h0
  refine la_vir hPk (st := [.int (xs (6 * t + 2)), .int (i_b (!(decide (xs (6 * t + 1) = 0)))), .ref 0]) (As := [.ref 0, .int (i_b (!(decide (xs (6 * t + 1) = 0)))), .int (xs (6 * t + 2))]) (rest := []) (N := (yX9_ends, cX9_ends, 4, (some .int), 2, false, 9)) C hl.1 dL_law_1184 (j_Cchk_ok (own := R_law) (q := (133, 3, 139, [1047, 1048, 1049])) (by decide +kernel)) rfl (j_spl3 hf0 rfl rfl rfl (Nat.zero_le _) (Nat.le_of_ble_eq_true rfl)) (la_q_ends (!(decide (xs (6 * t + 1) = 0))) (xs (6 * t + 2)) ht9 hk) (fun r h' z => z.elim fun v y => y.2.1.1) hc9 hs9 hP hS ?_
  rintro r h1 H1 locs1 ⟨v, rfl, s1, q1⟩ hP1 hS1
  clear hP hS
  have hS := hS1
  show W p l e room_1 s m #[Value.ref bs] below meth c H1 locs1 (373 + t) (19204 + 6 * t) _ (F0 m 1187 ls [.int v])
  refine lv_pop hx hb dL_law_1187 rfl ?_
  refine lv_aload_n hx hb dL_law_1188 rfl (lv_at hl 2 rfl) ?_
  refine la_bool C ht hL (lv_at hl 4 rfl) (lv_at hl 0 rfl) hS dL_law_1189 dL_law_1190 dL_law_1192 dL_law_1193 dL_law_1194 dL_law_1195 dL_law_1198 dL_law_1199 dL_law_1202 (k := 1) ⟨by decide, by decide⟩ ?_
  refine la_arg C ht hL (lv_at hl 4 rfl) (lv_at hl 0 rfl) hS dL_law_1203 dL_law_1204 dL_law_1206 dL_law_1207 dL_law_1208 (k := 2) ⟨by decide, by decide⟩ ?_
  obtain ⟨f9, hf9⟩ := la_h359 hk s1
  refine la_vir hPk (st := [.int (xs (6 * t + 2)), .int (i_b (!(decide (xs (6 * t + 1) = 0)))), .ref 359]) (As := [.ref 359, .int (i_b (!(decide (xs (6 * t + 1) = 0)))), .int (xs (6 * t + 2))]) (rest := []) (N := (yX10_ends, cX10_ends, 3, (some .int), 2, false, 10)) C hl.1 dL_law_1209 (j_Cchk_ok (own := R_law) (q := (137, 3, 264, [1786, 1787, 1788])) (by decide +kernel)) rfl (j_spl3 hf9 rfl rfl rfl (Nat.zero_le _) (Nat.le_of_ble_eq_true rfl)) q1 (fun r h' z => z.elim fun v y => y.2.2.1.1) hc9 hs9 hP1 hS ?_
  rintro r h2 H2 locs2 ⟨w, rfl, ew, s2, hk2⟩ hP2 hS2
  show W p l e room_1 s m #[Value.ref bs] below meth c H2 locs2 (373 + t) (19204 + 6 * t) _ (F0 m 1212 ls [.int w])
  refine lv_pop hx hb dL_law_1212 rfl ?_
  refine lv_goto (tgt := 1891) hx hb dL_law_1213 (by decide) ?_
  exact la_end C nxt (by omega) (by omega) hk2 hP2 hS2 hl
theorem la_case_28 (hPk : j_Pok WG vwCl la_RN jNW jP) {l : Launch} {p : Program} {e : Env} {s : State} {m : MethodId} {below : List Frame} {meth : Method} {c : Code} {bs L t : Nat} {xs : Nat → Int32} {D : va_G} {g : j_G} (C : la_C p s m meth c bs L xs D g) (ht : 6 * t + 6 ≤ L) (hL : L ≤ 3072) (nxt : la_B l p e s m below meth c bs D g (t + 1) 23) : la_B l p e s m below meth c bs D g t 1216 := by
  intro h H locs ls hk hP hS hl
  have hx := C.1.1
  have hb := C.1.2.1
  have hc9 : 373 + t ≤ 601024 := by omega
  have ht9 : t < 512 := by omega
  have hs9 : 19204 + 6 * t ≤ 7293034 := by omega
  refine lv_aload_n hx hb dL_law_1216 rfl (lv_at hl 3 rfl) ?_
  refine la_arg C ht hL (lv_at hl 4 rfl) (lv_at hl 0 rfl) hS dL_law_1217 dL_law_1218 dL_law_1220 dL_law_1221 dL_law_1222 (k := 1) ⟨by decide, by decide⟩ ?_
  obtain ⟨f0, hf0⟩ := hk.h0
  refine la_vir hPk (st := [.int (xs (6 * t + 1)), .ref 0]) (As := [.ref 0, .int (xs (6 * t + 1))]) (rest := []) (N := (yX9_when, cX9_when, 3, (some .int), 1, false, 9)) C hl.1 dL_law_1223 (j_Cchk_ok (own := R_law) (q := (138, 3, 140, [1059, 1060, 1061])) (by decide +kernel)) rfl (j_spl3 hf0 rfl rfl rfl (Nat.zero_le _) (Nat.le_of_ble_eq_true rfl)) (la_q_when (xs (6 * t + 1)) ht9 hk) (fun r h' z => z.elim fun v y => y.2.1.1) hc9 hs9 hP hS ?_
  rintro r h1 H1 locs1 ⟨v, rfl, s1, q1⟩ hP1 hS1
  clear hP hS
  have hS := hS1
  show W p l e room_1 s m #[Value.ref bs] below meth c H1 locs1 (373 + t) (19204 + 6 * t) _ (F0 m 1226 ls [.int v])
  refine lv_pop hx hb dL_law_1226 rfl ?_
  refine lv_aload_n hx hb dL_law_1227 rfl (lv_at hl 2 rfl) ?_
  refine la_arg C ht hL (lv_at hl 4 rfl) (lv_at hl 0 rfl) hS dL_law_1228 dL_law_1229 dL_law_1231 dL_law_1232 dL_law_1233 (k := 1) ⟨by decide, by decide⟩ ?_
  obtain ⟨f9, hf9⟩ := la_h359 hk s1
  refine la_vir hPk (st := [.int (xs (6 * t + 1)), .ref 359]) (As := [.ref 359, .int (xs (6 * t + 1))]) (rest := []) (N := (yX10_when, cX10_when, 3, (some .int), 1, false, 10)) C hl.1 dL_law_1234 (j_Cchk_ok (own := R_law) (q := (141, 3, 265, [1798, 1799, 1800])) (by decide +kernel)) rfl (j_spl3 hf9 rfl rfl rfl (Nat.zero_le _) (Nat.le_of_ble_eq_true rfl)) q1 (fun r h' z => z.elim fun v y => y.2.2.1.1) hc9 hs9 hP1 hS ?_
  rintro r h2 H2 locs2 ⟨w, rfl, ew, s2, hk2⟩ hP2 hS2
  show W p l e room_1 s m #[Value.ref bs] below meth c H2 locs2 (373 + t) (19204 + 6 * t) _ (F0 m 1237 ls [.int w])
  refine lv_pop hx hb dL_law_1237 rfl ?_
  refine lv_goto (tgt := 1891) hx hb dL_law_1238 (by decide) ?_
  exact la_end C nxt (by omega) (by omega) hk2 hP2 hS2 hl
theorem la_case_29 (hPk : j_Pok WG vwCl la_RN jNW jP) {l : Launch} {p : Program} {e : Env} {s : State} {m : MethodId} {below : List Frame} {meth : Method} {c : Code} {bs L t : Nat} {xs : Nat → Int32} {D : va_G} {g : j_G} (C : la_C p s m meth c bs L xs D g) (ht : 6 * t + 6 ≤ L) (hL : L ≤ 3072) (nxt : la_B l p e s m below meth c bs D g (t + 1) 23) : la_B l p e s m below meth c bs D g t 1241 := by
  intro h H locs ls hk hP hS hl
  have hx := C.1.1
  have hb := C.1.2.1
  have hc9 : 373 + t ≤ 601024 := by omega
  have ht9 : t < 512 := by omega
  have hs9 : 19204 + 6 * t ≤ 7293034 := by omega
  refine lv_aload_n hx hb dL_law_1241 rfl (lv_at hl 3 rfl) ?_
  refine la_arg C ht hL (lv_at hl 4 rfl) (lv_at hl 0 rfl) hS dL_law_1242 dL_law_1243 dL_law_1245 dL_law_1246 dL_law_1247 (k := 1) ⟨by decide, by decide⟩ ?_
  obtain ⟨f0, hf0⟩ := hk.h0
  refine la_vir hPk (st := [.int (xs (6 * t + 1)), .ref 0]) (As := [.ref 0, .int (xs (6 * t + 1))]) (rest := []) (N := (yX9_plan, cX9_plan, 3, (some .int), 1, false, 9)) C hl.1 dL_law_1248 (j_Cchk_ok (own := R_law) (q := (142, 3, 141, [1063, 1064, 1065])) (by decide +kernel)) rfl (j_spl3 hf0 rfl rfl rfl (Nat.zero_le _) (Nat.le_of_ble_eq_true rfl)) (la_q_plan (xs (6 * t + 1)) ht9 hk) (fun r h' z => z.elim fun v y => y.2.1.1) hc9 hs9 hP hS ?_
  rintro r h1 H1 locs1 ⟨v, rfl, s1, q1⟩ hP1 hS1
  clear hP hS
  have hS := hS1
  show W p l e room_1 s m #[Value.ref bs] below meth c H1 locs1 (373 + t) (19204 + 6 * t) _ (F0 m 1251 ls [.int v])
  refine lv_pop hx hb dL_law_1251 rfl ?_
  refine lv_aload_n hx hb dL_law_1252 rfl (lv_at hl 2 rfl) ?_
  refine la_arg C ht hL (lv_at hl 4 rfl) (lv_at hl 0 rfl) hS dL_law_1253 dL_law_1254 dL_law_1256 dL_law_1257 dL_law_1258 (k := 1) ⟨by decide, by decide⟩ ?_
  obtain ⟨f9, hf9⟩ := la_h359 hk s1
  refine la_vir hPk (st := [.int (xs (6 * t + 1)), .ref 359]) (As := [.ref 359, .int (xs (6 * t + 1))]) (rest := []) (N := (yX10_plan, cX10_plan, 7, (some .int), 1, false, 10)) C hl.1 dL_law_1259 (j_Cchk_ok (own := R_law) (q := (145, 3, 268, [1802, 1803, 1804])) (by decide +kernel)) rfl (j_spl3 hf9 rfl rfl rfl (Nat.zero_le _) (Nat.le_of_ble_eq_true rfl)) q1 (fun r h' z => z.elim fun v y => y.2.2.1.1) hc9 hs9 hP1 hS ?_
  rintro r h2 H2 locs2 ⟨w, rfl, ew, s2, hk2⟩ hP2 hS2
  show W p l e room_1 s m #[Value.ref bs] below meth c H2 locs2 (373 + t) (19204 + 6 * t) _ (F0 m 1262 ls [.int w])
  refine lv_pop hx hb dL_law_1262 rfl ?_
  refine lv_goto (tgt := 1891) hx hb dL_law_1263 (by decide) ?_
  exact la_end C nxt (by omega) (by omega) hk2 hP2 hS2 hl
theorem la_case_30 (hPk : j_Pok WG vwCl la_RN jNW jP) {l : Launch} {p : Program} {e : Env} {s : State} {m : MethodId} {below : List Frame} {meth : Method} {c : Code} {bs L t : Nat} {xs : Nat → Int32} {D : va_G} {g : j_G} (C : la_C p s m meth c bs L xs D g) (ht : 6 * t + 6 ≤ L) (hL : L ≤ 3072) (nxt : la_B l p e s m below meth c bs D g (t + 1) 23) : la_B l p e s m below meth c bs D g t 1266 := by
  intro h H locs ls hk hP hS hl
  have hx := C.1.1
  have hb := C.1.2.1
  have hc9 : 373 + t ≤ 601024 := by omega
  have ht9 : t < 512 := by omega
  have hs9 : 19204 + 6 * t ≤ 7293034 := by omega
  refine lv_aload_n hx hb dL_law_1266 rfl (lv_at hl 3 rfl) ?_
  refine la_arg C ht hL (lv_at hl 4 rfl) (lv_at hl 0 rfl) hS dL_law_1267 dL_law_1268 dL_law_1270 dL_law_1271 dL_law_1272 (k := 1) ⟨by decide, by decide⟩ ?_
  refine la_arg C ht hL (lv_at hl 4 rfl) (lv_at hl 0 rfl) hS dL_law_1273 dL_law_1274 dL_law_1276 dL_law_1277 dL_law_1278 (k := 2) ⟨by decide, by decide⟩ ?_
  obtain ⟨f0, hf0⟩ := hk.h0
  refine la_vir hPk (st := [.int (xs (6 * t + 2)), .int (xs (6 * t + 1)), .ref 0]) (As := [.ref 0, .int (xs (6 * t + 1)), .int (xs (6 * t + 2))]) (rest := []) (N := (yX9_cost, cX9_cost, 3, (some .int), 2, false, 9)) C hl.1 dL_law_1279 (j_Cchk_ok (own := R_law) (q := (146, 3, 142, [1080, 1081, 1082])) (by decide +kernel)) rfl (j_spl3 hf0 rfl rfl rfl (Nat.zero_le _) (Nat.le_of_ble_eq_true rfl)) (la_q_cost (xs (6 * t + 1)) (xs (6 * t + 2)) ht9 hk) (fun r h' z => z.elim fun v y => y.2.1.1) hc9 hs9 hP hS ?_
  rintro r h1 H1 locs1 ⟨v, rfl, s1, q1⟩ hP1 hS1
  clear hP hS
  have hS := hS1
  show W p l e room_1 s m #[Value.ref bs] below meth c H1 locs1 (373 + t) (19204 + 6 * t) _ (F0 m 1282 ls [.int v])
  refine lv_pop hx hb dL_law_1282 rfl ?_
  refine lv_aload_n hx hb dL_law_1283 rfl (lv_at hl 2 rfl) ?_
  refine la_arg C ht hL (lv_at hl 4 rfl) (lv_at hl 0 rfl) hS dL_law_1284 dL_law_1285 dL_law_1287 dL_law_1288 dL_law_1289 (k := 1) ⟨by decide, by decide⟩ ?_
  refine la_arg C ht hL (lv_at hl 4 rfl) (lv_at hl 0 rfl) hS dL_law_1290 dL_law_1291 dL_law_1293 dL_law_1294 dL_law_1295 (k := 2) ⟨by decide, by decide⟩ ?_
  obtain ⟨f9, hf9⟩ := la_h359 hk s1
  refine la_vir hPk (st := [.int (xs (6 * t + 2)), .int (xs (6 * t + 1)), .ref 359]) (As := [.ref 359, .int (xs (6 * t + 1)), .int (xs (6 * t + 2))]) (rest := []) (N := (yX10_cost, cX10_cost, 4, (some .int), 2, false, 10)) C hl.1 dL_law_1296 (j_Cchk_ok (own := R_law) (q := (149, 3, 271, [1819, 1820, 1821])) (by decide +kernel)) rfl (j_spl3 hf9 rfl rfl rfl (Nat.zero_le _) (Nat.le_of_ble_eq_true rfl)) q1 (fun r h' z => z.elim fun v y => y.2.2.1.1) hc9 hs9 hP1 hS ?_
  rintro r h2 H2 locs2 ⟨w, rfl, ew, s2, hk2⟩ hP2 hS2
  show W p l e room_1 s m #[Value.ref bs] below meth c H2 locs2 (373 + t) (19204 + 6 * t) _ (F0 m 1299 ls [.int w])
  refine lv_pop hx hb dL_law_1299 rfl ?_
  refine lv_goto (tgt := 1891) hx hb dL_law_1300 (by decide) ?_
  exact la_end C nxt (by omega) (by omega) hk2 hP2 hS2 hl
theorem la_case_31 (hPk : j_Pok WG vwCl la_RN jNW jP) {l : Launch} {p : Program} {e : Env} {s : State} {m : MethodId} {below : List Frame} {meth : Method} {c : Code} {bs L t : Nat} {xs : Nat → Int32} {D : va_G} {g : j_G} (C : la_C p s m meth c bs L xs D g) (ht : 6 * t + 6 ≤ L) (hL : L ≤ 3072) (nxt : la_B l p e s m below meth c bs D g (t + 1) 23) : la_B l p e s m below meth c bs D g t 1303 := by
  intro h H locs ls hk hP hS hl
  have hx := C.1.1
  have hb := C.1.2.1
  have hc9 : 373 + t ≤ 601024 := by omega
  have ht9 : t < 512 := by omega
  have hs9 : 19204 + 6 * t ≤ 7293034 := by omega
  refine lv_aload_n hx hb dL_law_1303 rfl (lv_at hl 3 rfl) ?_
  refine la_arg C ht hL (lv_at hl 4 rfl) (lv_at hl 0 rfl) hS dL_law_1304 dL_law_1305 dL_law_1307 dL_law_1308 dL_law_1309 (k := 1) ⟨by decide, by decide⟩ ?_
  obtain ⟨f0, hf0⟩ := hk.h0
  refine la_vir hPk (st := [.int (xs (6 * t + 1)), .ref 0]) (As := [.ref 0, .int (xs (6 * t + 1))]) (rest := []) (N := (yX9_slack, cX9_slack, 4, (some .int), 1, false, 9)) C hl.1 dL_law_1310 (j_Cchk_ok (own := R_law) (q := (150, 3, 143, [1092, 1093, 1094])) (by decide +kernel)) rfl (j_spl3 hf0 rfl rfl rfl (Nat.zero_le _) (Nat.le_of_ble_eq_true rfl)) (la_q_slack (xs (6 * t + 1)) ht9 hk) (fun r h' z => z.elim fun v y => y.2.1.1) hc9 hs9 hP hS ?_
  rintro r h1 H1 locs1 ⟨v, rfl, s1, q1⟩ hP1 hS1
  clear hP hS
  have hS := hS1
  show W p l e room_1 s m #[Value.ref bs] below meth c H1 locs1 (373 + t) (19204 + 6 * t) _ (F0 m 1313 ls [.int v])
  refine lv_pop hx hb dL_law_1313 rfl ?_
  refine lv_aload_n hx hb dL_law_1314 rfl (lv_at hl 2 rfl) ?_
  refine la_arg C ht hL (lv_at hl 4 rfl) (lv_at hl 0 rfl) hS dL_law_1315 dL_law_1316 dL_law_1318 dL_law_1319 dL_law_1320 (k := 1) ⟨by decide, by decide⟩ ?_
  obtain ⟨f9, hf9⟩ := la_h359 hk s1
  refine la_vir hPk (st := [.int (xs (6 * t + 1)), .ref 359]) (As := [.ref 359, .int (xs (6 * t + 1))]) (rest := []) (N := (yX10_slack, cX10_slack, 4, (some .int), 1, false, 10)) C hl.1 dL_law_1321 (j_Cchk_ok (own := R_law) (q := (153, 3, 272, [1831, 1832, 1833])) (by decide +kernel)) rfl (j_spl3 hf9 rfl rfl rfl (Nat.zero_le _) (Nat.le_of_ble_eq_true rfl)) q1 (fun r h' z => z.elim fun v y => y.2.2.1.1) hc9 hs9 hP1 hS ?_
  rintro r h2 H2 locs2 ⟨w, rfl, ew, s2, hk2⟩ hP2 hS2
  show W p l e room_1 s m #[Value.ref bs] below meth c H2 locs2 (373 + t) (19204 + 6 * t) _ (F0 m 1324 ls [.int w])
  refine lv_pop hx hb dL_law_1324 rfl ?_
  refine lv_goto (tgt := 1891) hx hb dL_law_1325 (by decide) ?_
  exact la_end C nxt (by omega) (by omega) hk2 hP2 hS2 hl
theorem la_case_32 (hPk : j_Pok WG vwCl la_RN jNW jP) {l : Launch} {p : Program} {e : Env} {s : State} {m : MethodId} {below : List Frame} {meth : Method} {c : Code} {bs L t : Nat} {xs : Nat → Int32} {D : va_G} {g : j_G} (C : la_C p s m meth c bs L xs D g) (ht : 6 * t + 6 ≤ L) (hL : L ≤ 3072) (nxt : la_B l p e s m below meth c bs D g (t + 1) 23) : la_B l p e s m below meth c bs D g t 1328 := by
  intro h H locs ls hk hP hS hl
  have hx := C.1.1
  have hb := C.1.2.1
  have hc9 : 373 + t ≤ 601024 := by omega
  have ht9 : t < 512 := by omega
  have hs9 : 19204 + 6 * t ≤ 7293034 := by omega
  refine lv_aload_n hx hb dL_law_1328 rfl (lv_at hl 3 rfl) ?_
  refine la_arg C ht hL (lv_at hl 4 rfl) (lv_at hl 0 rfl) hS dL_law_1329 dL_law_1330 dL_law_1332 dL_law_1333 dL_law_1334 (k := 1) ⟨by decide, by decide⟩ ?_
  refine la_bool C ht hL (lv_at hl 4 rfl) (lv_at hl 0 rfl) hS dL_law_1335 dL_law_1336 dL_law_1338 dL_law_1339 dL_law_1340 dL_law_1341 dL_law_1344 dL_law_1345 dL_law_1348 (k := 2) ⟨by decide, by decide⟩ ?_
  obtain ⟨f0, hf0⟩ := hk.h0
  refine la_vir hPk (st := [.int (i_b (!(decide (xs (6 * t + 2) = 0)))), .int (xs (6 * t + 1)), .ref 0]) (As := [.ref 0, .int (xs (6 * t + 1)), .int (i_b (!(decide (xs (6 * t + 2) = 0))))]) (rest := []) (N := (yX9_band, cX9_band, 7, (some .int), 2, false, 9)) C hl.1 dL_law_1349 (j_Cchk_ok (own := R_law) (q := (154, 3, 144, [1096, 1097, 1098])) (by decide +kernel)) rfl (j_spl3 hf0 rfl rfl rfl (Nat.zero_le _) (Nat.le_of_ble_eq_true rfl)) (la_q_band (xs (6 * t + 1)) (!(decide (xs (6 * t + 2) = 0))) ht9 hk) (fun r h' z => z.elim fun v y => y.2.1.1) hc9 hs9 hP hS ?_
  rintro r h1 H1 locs1 ⟨v, rfl, s1, q1⟩ hP1 hS1
  clear hP hS
  have hS := hS1
  show W p l e room_1 s m #[Value.ref bs] below meth c H1 locs1 (373 + t) (19204 + 6 * t) _ (F0 m 1352 ls [.int v])
  refine lv_pop hx hb dL_law_1352 rfl ?_
  refine lv_aload_n hx hb dL_law_1353 rfl (lv_at hl 2 rfl) ?_
  refine la_arg C ht hL (lv_at hl 4 rfl) (lv_at hl 0 rfl) hS dL_law_1354 dL_law_1355 dL_law_1357 dL_law_1358 dL_law_1359 (k := 1) ⟨by decide, by decide⟩ ?_
  refine la_bool C ht hL (lv_at hl 4 rfl) (lv_at hl 0 rfl) hS dL_law_1360 dL_law_1361 dL_law_1363 dL_law_1364 dL_law_1365 dL_law_1366 dL_law_1369 dL_law_1370 dL_law_1373 (k := 2) ⟨by decide, by decide⟩ ?_
  obtain ⟨f9, hf9⟩ := la_h359 hk s1
  refine la_vir hPk (st := [.int (i_b (!(decide (xs (6 * t + 2) = 0)))), .int (xs (6 * t + 1)), .ref 359]) (As := [.ref 359, .int (xs (6 * t + 1)), .int (i_b (!(decide (xs (6 * t + 2) = 0))))]) (rest := []) (N := (yX10_band, cX10_band, 7, (some .int), 2, false, 10)) C hl.1 dL_law_1374 (j_Cchk_ok (own := R_law) (q := (158, 3, 277, [1851, 1852, 1853])) (by decide +kernel)) rfl (j_spl3 hf9 rfl rfl rfl (Nat.zero_le _) (Nat.le_of_ble_eq_true rfl)) q1 (fun r h' z => z.elim fun v y => y.2.2.1.1) hc9 hs9 hP1 hS ?_
  rintro r h2 H2 locs2 ⟨w, rfl, ew, s2, hk2⟩ hP2 hS2
  show W p l e room_1 s m #[Value.ref bs] below meth c H2 locs2 (373 + t) (19204 + 6 * t) _ (F0 m 1377 ls [.int w])
  refine lv_pop hx hb dL_law_1377 rfl ?_
  refine lv_goto (tgt := 1891) hx hb dL_law_1378 (by decide) ?_
  exact la_end C nxt (by omega) (by omega) hk2 hP2 hS2 hl
theorem la_case_33 (hPk : j_Pok WG vwCl la_RN jNW jP) {l : Launch} {p : Program} {e : Env} {s : State} {m : MethodId} {below : List Frame} {meth : Method} {c : Code} {bs L t : Nat} {xs : Nat → Int32} {D : va_G} {g : j_G} (C : la_C p s m meth c bs L xs D g) (ht : 6 * t + 6 ≤ L) (hL : L ≤ 3072) (nxt : la_B l p e s m below meth c bs D g (t + 1) 23) : la_B l p e s m below meth c bs D g t 1381 := by
  intro h H locs ls hk hP hS hl
  have hx := C.1.1
  have hb := C.1.2.1
  have hc9 : 373 + t ≤ 601024 := by omega
  have ht9 : t < 512 := by omega
  have hs9 : 19204 + 6 * t ≤ 7293034 := by omega
  refine lv_aload_n hx hb dL_law_1381 rfl (lv_at hl 3 rfl) ?_
  refine la_arg C ht hL (lv_at hl 4 rfl) (lv_at hl 0 rfl) hS dL_law_1382 dL_law_1383 dL_law_1385 dL_law_1386 dL_law_1387 (k := 1) ⟨by decide, by decide⟩ ?_
  refine la_arg C ht hL (lv_at hl 4 rfl) (lv_at hl 0 rfl) hS dL_law_1388 dL_law_1389 dL_law_1391 dL_law_1392 dL_law_1393 (k := 2) ⟨by decide, by decide⟩ ?_
  obtain ⟨f0, hf0⟩ := hk.h0
  refine la_vir hPk (st := [.int (xs (6 * t + 2)), .int (xs (6 * t + 1)), .ref 0]) (As := [.ref 0, .int (xs (6 * t + 1)), .int (xs (6 * t + 2))]) (rest := []) (N := (yX9_swap, cX9_swap, 3, (some .int), 2, false, 9)) C hl.1 dL_law_1394 (j_Cchk_ok (own := R_law) (q := (159, 3, 145, [1104, 1105, 1106])) (by decide +kernel)) rfl (j_spl3 hf0 rfl rfl rfl (Nat.zero_le _) (Nat.le_of_ble_eq_true rfl)) (la_q_swap (xs (6 * t + 1)) (xs (6 * t + 2)) ht9 hk) (fun r h' z => z.elim fun v y => y.2.1.1) hc9 hs9 hP hS ?_
  rintro r h1 H1 locs1 ⟨v, rfl, s1, q1⟩ hP1 hS1
  clear hP hS
  have hS := hS1
  show W p l e room_1 s m #[Value.ref bs] below meth c H1 locs1 (373 + t) (19204 + 6 * t) _ (F0 m 1397 ls [.int v])
  refine lv_pop hx hb dL_law_1397 rfl ?_
  refine lv_aload_n hx hb dL_law_1398 rfl (lv_at hl 2 rfl) ?_
  refine la_arg C ht hL (lv_at hl 4 rfl) (lv_at hl 0 rfl) hS dL_law_1399 dL_law_1400 dL_law_1402 dL_law_1403 dL_law_1404 (k := 1) ⟨by decide, by decide⟩ ?_
  refine la_arg C ht hL (lv_at hl 4 rfl) (lv_at hl 0 rfl) hS dL_law_1405 dL_law_1406 dL_law_1408 dL_law_1409 dL_law_1410 (k := 2) ⟨by decide, by decide⟩ ?_
  obtain ⟨f9, hf9⟩ := la_h359 hk s1
  refine la_vir hPk (st := [.int (xs (6 * t + 2)), .int (xs (6 * t + 1)), .ref 359]) (As := [.ref 359, .int (xs (6 * t + 1)), .int (xs (6 * t + 2))]) (rest := []) (N := (yX10_swap, cX10_swap, 7, (some .int), 2, false, 10)) C hl.1 dL_law_1411 (j_Cchk_ok (own := R_law) (q := (162, 3, 273, [1835, 1836, 1837])) (by decide +kernel)) rfl (j_spl3 hf9 rfl rfl rfl (Nat.zero_le _) (Nat.le_of_ble_eq_true rfl)) q1 (fun r h' z => z.elim fun v y => y.2.2.1.1) hc9 hs9 hP1 hS ?_
  rintro r h2 H2 locs2 ⟨w, rfl, ew, s2, hk2⟩ hP2 hS2
  show W p l e room_1 s m #[Value.ref bs] below meth c H2 locs2 (373 + t) (19204 + 6 * t) _ (F0 m 1414 ls [.int w])
  refine lv_pop hx hb dL_law_1414 rfl ?_
  refine lv_goto (tgt := 1891) hx hb dL_law_1415 (by decide) ?_
  exact la_end C nxt (by omega) (by omega) hk2 hP2 hS2 hl
theorem la_case_34 (hPk : j_Pok WG vwCl la_RN jNW jP) {l : Launch} {p : Program} {e : Env} {s : State} {m : MethodId} {below : List Frame} {meth : Method} {c : Code} {bs L t : Nat} {xs : Nat → Int32} {D : va_G} {g : j_G} (C : la_C p s m meth c bs L xs D g) (ht : 6 * t + 6 ≤ L) (hL : L ≤ 3072) (nxt : la_B l p e s m below meth c bs D g (t + 1) 23) : la_B l p e s m below meth c bs D g t 1418 := by
  intro h H locs ls hk hP hS hl
  have hx := C.1.1
  have hb := C.1.2.1
  have hc9 : 373 + t ≤ 601024 := by omega
  have ht9 : t < 512 := by omega
  have hs9 : 19204 + 6 * t ≤ 7293034 := by omega
  refine lv_aload_n hx hb dL_law_1418 rfl (lv_at hl 3 rfl) ?_
  refine la_bool C ht hL (lv_at hl 4 rfl) (lv_at hl 0 rfl) hS dL_law_1419 dL_law_1420 dL_law_1422 dL_law_1423 dL_law_1424 dL_law_1425 dL_law_1428 dL_law_1429 dL_law_1432 (k := 1) ⟨by decide, by decide⟩ ?_
  obtain ⟨f0, hf0⟩ := hk.h0
  refine la_vir hPk (st := [.int (i_b (!(decide (xs (6 * t + 1) = 0)))), .ref 0]) (As := [.ref 0, .int (i_b (!(decide (xs (6 * t + 1) = 0))))]) (rest := []) (N := (yX9_burden, cX9_burden, 6, (some .int), 1, false, 9)) C hl.1 dL_law_1433 (j_Cchk_ok (own := R_law) (q := (163, 3, 146, [1112, 1113, 1114])) (by decide +kernel)) rfl (j_spl3 hf0 rfl rfl rfl (Nat.zero_le _) (Nat.le_of_ble_eq_true rfl)) (la_q_burden (!(decide (xs (6 * t + 1) = 0))) ht9 hk) (fun r h' z => z.elim fun v y => y.2.1.1) hc9 hs9 hP hS ?_
  rintro r h1 H1 locs1 ⟨v, rfl, s1, q1⟩ hP1 hS1
  clear hP hS
  have hS := hS1
  show W p l e room_1 s m #[Value.ref bs] below meth c H1 locs1 (373 + t) (19204 + 6 * t) _ (F0 m 1436 ls [.int v])
  refine lv_pop hx hb dL_law_1436 rfl ?_
  refine lv_aload_n hx hb dL_law_1437 rfl (lv_at hl 2 rfl) ?_
  refine la_bool C ht hL (lv_at hl 4 rfl) (lv_at hl 0 rfl) hS dL_law_1438 dL_law_1439 dL_law_1441 dL_law_1442 dL_law_1443 dL_law_1444 dL_law_1447 dL_law_1448 dL_law_1451 (k := 1) ⟨by decide, by decide⟩ ?_
  obtain ⟨f9, hf9⟩ := la_h359 hk s1
  refine la_vir hPk (st := [.int (i_b (!(decide (xs (6 * t + 1) = 0)))), .ref 359]) (As := [.ref 359, .int (i_b (!(decide (xs (6 * t + 1) = 0))))]) (rest := []) (N := (yX10_burden, cX10_burden, 7, (some .int), 1, false, 10)) C hl.1 dL_law_1452 (j_Cchk_ok (own := R_law) (q := (167, 3, 276, [1839, 1840, 1841])) (by decide +kernel)) rfl (j_spl3 hf9 rfl rfl rfl (Nat.zero_le _) (Nat.le_of_ble_eq_true rfl)) q1 (fun r h' z => z.elim fun v y => y.2.2.1.1) hc9 hs9 hP1 hS ?_
  rintro r h2 H2 locs2 ⟨w, rfl, ew, s2, hk2⟩ hP2 hS2
  show W p l e room_1 s m #[Value.ref bs] below meth c H2 locs2 (373 + t) (19204 + 6 * t) _ (F0 m 1455 ls [.int w])
  refine lv_pop hx hb dL_law_1455 rfl ?_
  refine lv_goto (tgt := 1891) hx hb dL_law_1456 (by decide) ?_
  exact la_end C nxt (by omega) (by omega) hk2 hP2 hS2 hl
theorem la_case_35 (hPk : j_Pok WG vwCl la_RN jNW jP) {l : Launch} {p : Program} {e : Env} {s : State} {m : MethodId} {below : List Frame} {meth : Method} {c : Code} {bs L t : Nat} {xs : Nat → Int32} {D : va_G} {g : j_G} (C : la_C p s m meth c bs L xs D g) (ht : 6 * t + 6 ≤ L) (hL : L ≤ 3072) (nxt : la_B l p e s m below meth c bs D g (t + 1) 23) : la_B l p e s m below meth c bs D g t 1459 := by
  intro h H locs ls hk hP hS hl
  have hx := C.1.1
  have hb := C.1.2.1
  have hc9 : 373 + t ≤ 601024 := by omega
  have ht9 : t < 512 := by omega
  have hs9 : 19204 + 6 * t ≤ 7293034 := by omega
  refine lv_aload_n hx hb dL_law_1459 rfl (lv_at hl 3 rfl) ?_
  refine la_arg C ht hL (lv_at hl 4 rfl) (lv_at hl 0 rfl) hS dL_law_1460 dL_law_1461 dL_law_1463 dL_law_1464 dL_law_1465 (k := 1) ⟨by decide, by decide⟩ ?_
  refine la_arg C ht hL (lv_at hl 4 rfl) (lv_at hl 0 rfl) hS dL_law_1466 dL_law_1467 dL_law_1469 dL_law_1470 dL_law_1471 (k := 2) ⟨by decide, by decide⟩ ?_
  obtain ⟨f0, hf0⟩ := hk.h0
  refine la_vir hPk (st := [.int (xs (6 * t + 2)), .int (xs (6 * t + 1)), .ref 0]) (As := [.ref 0, .int (xs (6 * t + 1)), .int (xs (6 * t + 2))]) (rest := []) (N := (yX9_loop, cX9_loop, 3, (some .int), 2, false, 9)) C hl.1 dL_law_1472 (j_Cchk_ok (own := R_law) (q := (168, 3, 147, [1125, 1126, 1127])) (by decide +kernel)) rfl (j_spl3 hf0 rfl rfl rfl (Nat.zero_le _) (Nat.le_of_ble_eq_true rfl)) (la_q_loop (xs (6 * t + 1)) (xs (6 * t + 2)) ht9 hk) (fun r h' z => z.elim fun v y => y.2.1.1) hc9 hs9 hP hS ?_
  rintro r h1 H1 locs1 ⟨v, rfl, s1, q1⟩ hP1 hS1
  clear hP hS
  have hS := hS1
  show W p l e room_1 s m #[Value.ref bs] below meth c H1 locs1 (373 + t) (19204 + 6 * t) _ (F0 m 1475 ls [.int v])
  refine lv_pop hx hb dL_law_1475 rfl ?_
  refine lv_aload_n hx hb dL_law_1476 rfl (lv_at hl 2 rfl) ?_
  refine la_arg C ht hL (lv_at hl 4 rfl) (lv_at hl 0 rfl) hS dL_law_1477 dL_law_1478 dL_law_1480 dL_law_1481 dL_law_1482 (k := 1) ⟨by decide, by decide⟩ ?_
  refine la_arg C ht hL (lv_at hl 4 rfl) (lv_at hl 0 rfl) hS dL_law_1483 dL_law_1484 dL_law_1486 dL_law_1487 dL_law_1488 (k := 2) ⟨by decide, by decide⟩ ?_
  obtain ⟨f9, hf9⟩ := la_h359 hk s1
  refine la_vir hPk (st := [.int (xs (6 * t + 2)), .int (xs (6 * t + 1)), .ref 359]) (As := [.ref 359, .int (xs (6 * t + 1)), .int (xs (6 * t + 2))]) (rest := []) (N := (yX10_loop, cX10_loop, 4, (some .int), 2, false, 10)) C hl.1 dL_law_1489 (j_Cchk_ok (own := R_law) (q := (171, 3, 279, [1855, 1856, 1857])) (by decide +kernel)) rfl (j_spl3 hf9 rfl rfl rfl (Nat.zero_le _) (Nat.le_of_ble_eq_true rfl)) q1 (fun r h' z => z.elim fun v y => y.2.2.1.1) hc9 hs9 hP1 hS ?_
  rintro r h2 H2 locs2 ⟨w, rfl, ew, s2, hk2⟩ hP2 hS2
  show W p l e room_1 s m #[Value.ref bs] below meth c H2 locs2 (373 + t) (19204 + 6 * t) _ (F0 m 1492 ls [.int w])
  refine lv_pop hx hb dL_law_1492 rfl ?_
  refine lv_goto (tgt := 1891) hx hb dL_law_1493 (by decide) ?_
  exact la_end C nxt (by omega) (by omega) hk2 hP2 hS2 hl

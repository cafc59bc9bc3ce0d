/-! the reference's out and thrown: written by wip/p49/gen_o49.py -/
set_option maxRecDepth 100000 in
theorem mO_M : j_meth jP 297 = some (yX10_out, cX10_out, 2, (some .int), 1, false, 10) := rfl
set_option maxRecDepth 100000 in
theorem mO_0 : j_code jP 297 0 = some (.aload_n 0) := rfl
set_option maxRecDepth 100000 in
theorem mO_1 : j_code jP 297 1 = some (.iload_n 1) := rfl
set_option maxRecDepth 100000 in
theorem mO_2 : j_code jP 297 2 = some (.ifCond .lt 11) := rfl
set_option maxRecDepth 100000 in
theorem mO_5 : j_code jP 297 5 = some (.iload_n 1) := rfl
set_option maxRecDepth 100000 in
theorem mO_6 : j_code jP 297 6 = some (.aload_n 0) := rfl
set_option maxRecDepth 100000 in
theorem mO_7 : j_code jP 297 7 = some (.getfield 365) := rfl
set_option maxRecDepth 100000 in
theorem mO_10 : j_code jP 297 10 = some (.if_icmp .lt 7) := rfl
set_option maxRecDepth 100000 in
theorem mO_13 : j_code jP 297 13 = some (.iconst 1) := rfl
set_option maxRecDepth 100000 in
theorem mO_14 : j_code jP 297 14 = some (.goto 4) := rfl
set_option maxRecDepth 100000 in
theorem mO_17 : j_code jP 297 17 = some (.iconst 0) := rfl
set_option maxRecDepth 100000 in
theorem mO_18 : j_code jP 297 18 = some (.putfield 55) := rfl
set_option maxRecDepth 100000 in
theorem mO_21 : j_code jP 297 21 = some (.aload_n 0) := rfl
set_option maxRecDepth 100000 in
theorem mO_22 : j_code jP 297 22 = some (.getfield 55) := rfl
set_option maxRecDepth 100000 in
theorem mO_25 : j_code jP 297 25 = some (.iconst 1) := rfl
set_option maxRecDepth 100000 in
theorem mO_26 : j_code jP 297 26 = some (.if_icmp .ne 7) := rfl
set_option maxRecDepth 100000 in
theorem mO_29 : j_code jP 297 29 = some (.iconst 0) := rfl
set_option maxRecDepth 100000 in
theorem mO_30 : j_code jP 297 30 = some (.goto 9) := rfl
set_option maxRecDepth 100000 in
theorem mO_33 : j_code jP 297 33 = some (.aload_n 0) := rfl
set_option maxRecDepth 100000 in
theorem mO_34 : j_code jP 297 34 = some (.getfield 51) := rfl
set_option maxRecDepth 100000 in
theorem mO_37 : j_code jP 297 37 = some (.iload_n 1) := rfl
set_option maxRecDepth 100000 in
theorem mO_38 : j_code jP 297 38 = some (.baload) := rfl
set_option maxRecDepth 100000 in
theorem mO_39 : j_code jP 297 39 = some (.ireturn) := rfl
theorem j_V.byA {P : j_P} {d mi pc : Nat} {lv : J_L} {st : List Value} {h h0 : J_H} {k : jk_K} {Q : Option Value → J_H → Prop} {M : j_M} {a : Nat} {l : List Int32} {i : Int32} (hM : j_meth P mi = some M) (hc : j_code P mi pc = some .baload) (K : KN h k h0) (ha : jk_lk k a = some (.inr (.inl (1, l)))) (kk : j_V P d mi (pc + 1) lv (.int (gA l i) :: st) h Q) : j_V P d mi pc lv (.int i :: .ref a :: st) h Q := by
  refine j_V.any hM hc ⟨fun z => (by cases z), fun z => (by cases z)⟩ fun pcJ lv' stJ h' ho => ?_
  simp only [j_one, j_kd, j_ald, K.at ha, j_ln] at ho
  by_cases hq : j_ix i l.length = true
  · rw [if_pos ⟨by decide, hq⟩] at ho
    cases ho
    exact kk
  · rw [if_neg (fun z => hq z.2)] at ho
    cases ho
set_option maxRecDepth 1000000 in
theorem mO_ok {u : Nat → Value} {d : Nat} {h h0 : J_H} {th sst acs tm om : Int32} {b2 : List Int32} (x1 : Int32) (K : KN h [(359, .inl (10, [.int th, .ref 360, .ref 361, .ref 362, .ref 363, .ref 364, .ref 365, .ref 366, .ref 367, (u 9), .int sst, (u 11), (u 12), .int acs, (u 14), (u 15), (u 16), (u 17), (u 18), (u 19), (u 20), (u 21), .ref 368, .int tm, .ref 369, .ref 370, .ref 371, .int om])), (371, .inr (.inl (1, b2)))] h0) : j_V jP d 297 0 (lv_args 0 [.ref 359, .int x1]) [] h (fun rv h' => ∃ v, rv = some (.int v) ∧ (¬ x1 < 0 ∧ x1 < om → v = gA b2 x1) ∧ KN h' [(359, .inl (10, [.int (if x1 < 0 ∨ ¬ x1 < om then 1 else 0), .ref 360, .ref 361, .ref 362, .ref 363, .ref 364, .ref 365, .ref 366, .ref 367, (u 9), .int sst, (u 11), (u 12), .int acs, (u 14), (u 15), (u 16), (u 17), (u 18), (u 19), (u 20), (u 21), .ref 368, .int tm, .ref 369, .ref 370, .ref 371, .int om])), (371, .inr (.inl (1, b2)))] h0) := by
  show j_V jP d 297 0 [(0, .ref 359), (1, .int x1)] [] h _
  obtain ⟨lv, elv, L⟩ : ∃ lv, lv = [(0, .ref 359), (1, .int x1)] ∧ LK lv [(0, .ref 359), (1, .int x1)] := ⟨_, rfl, LK.rf⟩
  rw [← elv]
  clear elv
  refine j_V.ldL mO_M mO_0 rfl (i := 0) (kd := 2) (v := .ref 359) (pcJ := 1) rfl L rfl rfl rfl ?_
  refine j_V.ldL mO_M mO_1 rfl (i := 1) (kd := 0) (v := .int x1) (pcJ := 2) rfl L rfl rfl rfl ?_
  refine j_V.ifc mO_M mO_2 (t := 13) rfl (fun c => ?_) (fun c => ?_)
  · replace c : x1 < 0 := jd_lt c
    refine j_V.one mO_M mO_13 (by decide) (pcJ := 14) (stJ := [.int 1, .ref 359]) rfl ?_
    refine j_V.gto mO_M mO_14 (t := 18) rfl ?_
    refine j_V.putK mO_M mO_18 (ci := 10) (j := 0) (k' := [(359, .inl (10, [.int 1, .ref 360, .ref 361, .ref 362, .ref 363, .ref 364, .ref 365, .ref 366, .ref 367, (u 9), .int sst, (u 11), (u 12), .int acs, (u 14), (u 15), (u 16), (u 17), (u 18), (u 19), (u 20), (u 21), .ref 368, .int tm, .ref 369, .ref 370, .ref 371, .int om])), (371, .inr (.inl (1, b2)))]) rfl K rfl (Nat.le_of_ble_eq_true rfl) rfl (Or.inl rfl) rfl rfl (fun h K => ?_)
    refine j_V.ldL mO_M mO_21 rfl (i := 0) (kd := 2) (v := .ref 359) (pcJ := 22) rfl L rfl rfl rfl ?_
    refine j_V.getK mO_M mO_22 (ci := 10) (j := 0) rfl K rfl rfl ?_
    refine j_V.one mO_M mO_25 (by decide) (pcJ := 26) (stJ := [.int 1, .int 1]) rfl ?_
    refine j_V.icmp mO_M mO_26 (t := 33) rfl (fun z => absurd z (by decide)) (fun _ => ?_)
    refine j_V.one mO_M mO_29 (by decide) (pcJ := 30) (stJ := [.int 0]) rfl ?_
    refine j_V.gto mO_M mO_30 (t := 39) rfl ?_
    refine j_V.ri mO_M mO_39 ?_
    exact ⟨0, rfl, fun z => absurd z (fun y => y.1 c), by rw [if_pos (Or.inl c)]; exact K⟩
  · replace c : ¬ x1 < 0 := jd_ltn c
    refine j_V.ldL mO_M mO_5 rfl (i := 1) (kd := 0) (v := .int x1) (pcJ := 6) rfl L rfl rfl rfl ?_
    refine j_V.ldL mO_M mO_6 rfl (i := 0) (kd := 2) (v := .ref 359) (pcJ := 7) rfl L rfl rfl rfl ?_
    refine j_V.getK mO_M mO_7 (ci := 10) (j := 27) rfl K rfl rfl ?_
    refine j_V.icmp mO_M mO_10 (t := 17) rfl (fun c2 => ?_) (fun c2 => ?_)
    · replace c2 : x1 < om := jd_lt c2
      refine j_V.one mO_M mO_17 (by decide) (pcJ := 18) (stJ := [.int 0, .ref 359]) rfl ?_
      refine j_V.putK mO_M mO_18 (ci := 10) (j := 0) (k' := [(359, .inl (10, [.int 0, .ref 360, .ref 361, .ref 362, .ref 363, .ref 364, .ref 365, .ref 366, .ref 367, (u 9), .int sst, (u 11), (u 12), .int acs, (u 14), (u 15), (u 16), (u 17), (u 18), (u 19), (u 20), (u 21), .ref 368, .int tm, .ref 369, .ref 370, .ref 371, .int om])), (371, .inr (.inl (1, b2)))]) rfl K rfl (Nat.le_of_ble_eq_true rfl) rfl (Or.inl rfl) rfl rfl (fun h K => ?_)
      refine j_V.ldL mO_M mO_21 rfl (i := 0) (kd := 2) (v := .ref 359) (pcJ := 22) rfl L rfl rfl rfl ?_
      refine j_V.getK mO_M mO_22 (ci := 10) (j := 0) rfl K rfl rfl ?_
      refine j_V.one mO_M mO_25 (by decide) (pcJ := 26) (stJ := [.int 1, .int 0]) rfl ?_
      refine j_V.icmp mO_M mO_26 (t := 33) rfl (fun _ => ?_) (fun z => absurd z (by decide))
      refine j_V.ldL mO_M mO_33 rfl (i := 0) (kd := 2) (v := .ref 359) (pcJ := 34) rfl L rfl rfl rfl ?_
      refine j_V.getK mO_M mO_34 (ci := 10) (j := 26) rfl K rfl rfl ?_
      refine j_V.ldL mO_M mO_37 rfl (i := 1) (kd := 0) (v := .int x1) (pcJ := 38) rfl L rfl rfl rfl ?_
      refine j_V.byA mO_M mO_38 K rfl ?_
      refine j_V.ri mO_M mO_39 ?_
      exact ⟨_, rfl, fun _ => rfl, by rw [if_neg (fun y => y.elim c (fun q => q c2))]; exact K⟩
    · replace c2 : ¬ x1 < om := jd_ltn c2
      refine j_V.one mO_M mO_13 (by decide) (pcJ := 14) (stJ := [.int 1, .ref 359]) rfl ?_
      refine j_V.gto mO_M mO_14 (t := 18) rfl ?_
      refine j_V.putK mO_M mO_18 (ci := 10) (j := 0) (k' := [(359, .inl (10, [.int 1, .ref 360, .ref 361, .ref 362, .ref 363, .ref 364, .ref 365, .ref 366, .ref 367, (u 9), .int sst, (u 11), (u 12), .int acs, (u 14), (u 15), (u 16), (u 17), (u 18), (u 19), (u 20), (u 21), .ref 368, .int tm, .ref 369, .ref 370, .ref 371, .int om])), (371, .inr (.inl (1, b2)))]) rfl K rfl (Nat.le_of_ble_eq_true rfl) rfl (Or.inl rfl) rfl rfl (fun h K => ?_)
      refine j_V.ldL mO_M mO_21 rfl (i := 0) (kd := 2) (v := .ref 359) (pcJ := 22) rfl L rfl rfl rfl ?_
      refine j_V.getK mO_M mO_22 (ci := 10) (j := 0) rfl K rfl rfl ?_
      refine j_V.one mO_M mO_25 (by decide) (pcJ := 26) (stJ := [.int 1, .int 1]) rfl ?_
      refine j_V.icmp mO_M mO_26 (t := 33) rfl (fun z => absurd z (by decide)) (fun _ => ?_)
      refine j_V.one mO_M mO_29 (by decide) (pcJ := 30) (stJ := [.int 0]) rfl ?_
      refine j_V.gto mO_M mO_30 (t := 39) rfl ?_
      refine j_V.ri mO_M mO_39 ?_
      exact ⟨0, rfl, fun z => absurd z (fun y => c2 y.2), by rw [if_pos (Or.inr c2)]; exact K⟩
set_option maxRecDepth 100000 in
theorem mT_M : j_meth jP 300 = some (yX10_thrown, cX10_thrown, 1, (some .int), 0, false, 10) := rfl
set_option maxRecDepth 100000 in
theorem mT_0 : j_code jP 300 0 = some (.aload_n 0) := rfl
set_option maxRecDepth 100000 in
theorem mT_1 : j_code jP 300 1 = some (.getfield 55) := rfl
set_option maxRecDepth 100000 in
theorem mT_4 : j_code jP 300 4 = some (.ireturn) := rfl
theorem mT_ok {h : J_H} {fs : List Value} {x : Int32} (C : h[359]? = some (.inl (10, fs))) (c0 : fs[0]? = some (.int x)) : j_W jP 15 300 0 (lv_args 0 [.ref 359]) [] h (fun rv h' => rv = some (.int x) ∧ h' = h) :=
  j_W.one mT_M mT_0 (by decide) (pcJ := 1) (lv' := lv_args 0 [.ref 359]) (stJ := [.ref 359]) (h' := h) rfl (j_W.get mT_M mT_1 (ci := 10) (j := 0) rfl C c0 (j_W.ret mT_M mT_4 rfl rfl ⟨rfl, rfl⟩))

/-! the class's load: written by wip/jk/gen_xload.py -/
set_option maxRecDepth 100000 in
theorem xg_M : j_meth jP 105 = some (yX8_clear, cX8_clear, 1, none, 0, false, 8) := rfl
set_option maxRecDepth 100000 in
theorem xg_0 : j_code jP 105 0 = some (.aload_n 0) := rfl
set_option maxRecDepth 100000 in
theorem xg_1 : j_code jP 105 1 = some (.iconst 0) := rfl
set_option maxRecDepth 100000 in
theorem xg_2 : j_code jP 105 2 = some (.putfield 15) := rfl
set_option maxRecDepth 100000 in
theorem xg_5 : j_code jP 105 5 = some (.return_) := rfl
theorem xg_ok {v : Nat → Value} {ln : Int32} {d : Nat} {h h0 : J_H} (K : KN h [(1, .inl (8, [.ref 2, .int ln, (v 2), (v 3), (v 4), (v 5), (v 6), (v 7)]))] h0) : j_W jP d 105 0 (lv_args 0 [.ref 1]) [] h (fun rv h' => rv = none ∧ KN h' [(1, .inl (8, [.ref 2, .int 0, (v 2), (v 3), (v 4), (v 5), (v 6), (v 7)]))] h0) := by
  show j_W jP d 105 0 [(0, .ref 1)] [] h _
  refine j_W.one xg_M xg_0 (by decide) (pc' := 1) (st' := [.ref 1]) rfl ?_
  refine j_W.one xg_M xg_1 (by decide) (pc' := 2) (st' := [.int 0, .ref 1]) rfl ?_
  refine j_W.putK xg_M xg_2 (ci := 8) (j := 1) (k' := [(1, .inl (8, [.ref 2, .int 0, (v 2), (v 3), (v 4), (v 5), (v 6), (v 7)]))]) rfl K rfl (Nat.le_of_ble_eq_true rfl) rfl (Or.inl rfl) rfl rfl (fun h K => ?_)
  refine j_W.ret xg_M xg_5 rfl rfl ⟨rfl, K⟩
set_option maxRecDepth 100000 in
theorem xj_M : j_meth jP 161 = some (yX9_refuse, cX9_refuse, 2, (some .int), 1, false, 9) := rfl
set_option maxRecDepth 100000 in
theorem xj_0 : j_code jP 161 0 = some (.aload_n 0) := rfl
set_option maxRecDepth 100000 in
theorem xj_1 : j_code jP 161 1 = some (.iload_n 1) := rfl
set_option maxRecDepth 100000 in
theorem xj_2 : j_code jP 161 2 = some (.putfield 65) := rfl
set_option maxRecDepth 100000 in
theorem xj_5 : j_code jP 161 5 = some (.iconst (-1)) := rfl
set_option maxRecDepth 100000 in
theorem xj_6 : j_code jP 161 6 = some (.ireturn) := rfl
theorem xj_ok {v : Nat → Value} {k : Int32} {d : Nat} {h h0 : J_H} (K : KN h [(0, .inl (9, [(v 0), (v 1), (v 2), (v 3), (v 4), (v 5), (v 6), (v 7), (v 8)]))] h0) : j_W jP d 161 0 (lv_args 0 [.ref 0, .int k]) [] h (fun rv h' => rv = some (.int (-1)) ∧ KN h' [(0, .inl (9, [(v 0), (v 1), (v 2), (v 3), (v 4), (v 5), (v 6), (v 7), .int k]))] h0) := by
  show j_W jP d 161 0 [(0, .ref 0), (1, .int k)] [] h _
  refine j_W.one xj_M xj_0 (by decide) (pc' := 1) (st' := [.ref 0]) rfl ?_
  refine j_W.one xj_M xj_1 (by decide) (pc' := 2) (st' := [.int k, .ref 0]) rfl ?_
  refine j_W.putK xj_M xj_2 (ci := 9) (j := 8) (k' := [(0, .inl (9, [(v 0), (v 1), (v 2), (v 3), (v 4), (v 5), (v 6), (v 7), .int k]))]) rfl K rfl (Nat.le_of_ble_eq_true rfl) rfl (Or.inl rfl) rfl rfl (fun h K => ?_)
  refine j_W.one xj_M xj_5 (by decide) (pc' := 6) (st' := [.int (-1)]) rfl ?_
  refine j_W.ret xj_M xj_6 rfl rfl ⟨rfl, K⟩
set_option maxRecDepth 100000 in
theorem xk_M : j_meth jP 159 = some (yX9_answer, cX9_answer, 2, (some .int), 1, false, 9) := rfl
set_option maxRecDepth 100000 in
theorem xk_0 : j_code jP 159 0 = some (.aload_n 0) := rfl
set_option maxRecDepth 100000 in
theorem xk_1 : j_code jP 159 1 = some (.iconst 0) := rfl
set_option maxRecDepth 100000 in
theorem xk_2 : j_code jP 159 2 = some (.putfield 65) := rfl
set_option maxRecDepth 100000 in
theorem xk_5 : j_code jP 159 5 = some (.iload_n 1) := rfl
set_option maxRecDepth 100000 in
theorem xk_6 : j_code jP 159 6 = some (.ireturn) := rfl
theorem xk_ok {v : Nat → Value} {k : Int32} {d : Nat} {h h0 : J_H} (K : KN h [(0, .inl (9, [(v 0), (v 1), (v 2), (v 3), (v 4), (v 5), (v 6), (v 7), (v 8)]))] h0) : j_W jP d 159 0 (lv_args 0 [.ref 0, .int k]) [] h (fun rv h' => rv = some (.int k) ∧ KN h' [(0, .inl (9, [(v 0), (v 1), (v 2), (v 3), (v 4), (v 5), (v 6), (v 7), .int 0]))] h0) := by
  show j_W jP d 159 0 [(0, .ref 0), (1, .int k)] [] h _
  refine j_W.one xk_M xk_0 (by decide) (pc' := 1) (st' := [.ref 0]) rfl ?_
  refine j_W.one xk_M xk_1 (by decide) (pc' := 2) (st' := [.int 0, .ref 0]) rfl ?_
  refine j_W.putK xk_M xk_2 (ci := 9) (j := 8) (k' := [(0, .inl (9, [(v 0), (v 1), (v 2), (v 3), (v 4), (v 5), (v 6), (v 7), .int 0]))]) rfl K rfl (Nat.le_of_ble_eq_true rfl) rfl (Or.inl rfl) rfl rfl (fun h K => ?_)
  refine j_W.one xk_M xk_5 (by decide) (pc' := 6) (st' := [.int k]) rfl ?_
  refine j_W.ret xk_M xk_6 rfl rfl ⟨rfl, K⟩
/-- what settles a text, sets the trains anew, forgets the acts: no field of the class's own, of the reader, no number of trains -/
def xlS (m : Nat) : Bool := [1, 19, 20, 21, 22, 23, 27, 59, 60, 299].any (Nat.beq m)
def xlP (ci j : Nat) : Bool := Nat.beq ci 9 || (Nat.beq ci 4 || (Nat.beq ci 2 && Nat.beq j 5))
set_option maxRecDepth 1000000 in
theorem xl_N : jv_N jP xlS xlP := jv_N_of (by decide +kernel)
theorem jv_kp.all {p : Nat → Nat → Bool} {h h' : J_H} {a ci : Nat} {fs : List Value} (k : jv_kp p h h') (hp : ∀ j, p ci j = true) (hc : h[a]? = some (.inl (ci, fs))) : h'[a]? = some (.inl (ci, fs)) := by
  obtain ⟨fs', k1, -, k3⟩ := k a ci fs hc
  rw [k1, List.ext_getElem? (fun j => k3 j (hp j))]
/-- what load comes to: fault and place are told, the number of trains -/
def PXL (C : rY) (rv : Option Value) (h' : J_H) : Prop := (jc_at h' 3 2 = some (.int C.1.1) ∧ jc_at h' 3 3 = some (.int C.1.2)) ∧ ((C.1.1 = 0 ∧ rv = some (.int (nI C.2.2.2.1))) ∨ (C.1.1 ≠ 0 ∧ rv = some (.int (-1))))
/-- a method without an answer -/
theorem jv_ret {ins : Instr} {st : List Value} {r : Option Value} (h : j_ret none ins st = some r) : r = none := by
  unfold j_ret at h
  split at h
  all_goals first
    | (cases h; done)
    | (cases h; rfl)
    | (rename_i z _; cases z; done)
    | (simp_all; done)
theorem jv_void0 {P : j_P} : ∀ (f d mi pc : Nat) (lv : J_L) (st : List Value) (h : J_H) (r : Option Value) (hf : J_H) (M : j_M), j_meth P mi = some M → j_rt M = none → j_run P f d mi pc lv st h = some (r, hf) → r = none := by
  intro f
  induction f with
  | zero => intro d mi pc lv st h r hf M _ _ hj; cases hj
  | succ f ih =>
    intro d mi pc lv st h r hf M hM hrt hj
    unfold j_run at hj
    rw [hM] at hj
    split at hj
    · rename_i M' ins hM' hins
      cases hM'
      split at hj
      · obtain ⟨x, hx, he⟩ := Option.map_eq_some_iff.mp hj
        cases he
        rw [hrt] at hx
        exact jv_ret hx
      · split at hj
        · split at hj
          · exact ih _ _ _ _ _ _ _ _ M hM hrt hj
          · cases hj
        · split at hj
          · exact ih _ _ _ _ _ _ _ _ M hM hrt hj
          · cases hj
        · split at hj
          · exact ih _ _ _ _ _ _ _ _ M hM hrt hj
          · cases hj
        · split at hj
          · exact ih _ _ _ _ _ _ _ _ M hM hrt hj
          · cases hj
        · split at hj
          · split at hj
            · split at hj
              · exact ih _ _ _ _ _ _ _ _ M hM hrt hj
              · cases hj
            · cases hj
          · cases hj
        · cases hj
      · split at hj
        · exact ih _ _ _ _ _ _ _ _ M hM hrt hj
        · cases hj
    · cases hj
theorem jv_void {P : j_P} {d mi : Nat} {lv : J_L} {st : List Value} {h : J_H} {M : j_M} {Q : Option Value → J_H → Prop} (hM : j_meth P mi = some M) (hrt : j_rt M = none) (k : j_V P d mi 0 lv st h Q) : j_V P d mi 0 lv st h (fun r h' => Q r h' ∧ r = none) := fun f r h' hj => ⟨k f r h' hj, jv_void0 f d mi 0 lv st h r h' M hM hrt hj⟩
theorem xd_N9 {ci : Nat} (h : ci = 9 ∨ ci = 4) (j : Nat) : xlP ci j = true := by
  rcases h with h | h <;> subst h <;> rfl
set_option maxRecDepth 100000 in
theorem xl_M : j_meth jP 114 = some (yX9_load, cX9_load, 4, (some .int), 1, false, 9) := rfl
set_option maxRecDepth 100000 in
theorem xl_0 : j_code jP 114 0 = some (.iload_n 1) := rfl
set_option maxRecDepth 100000 in
theorem xl_1 : j_code jP 114 1 = some (.ifCond .lt 14) := rfl
set_option maxRecDepth 100000 in
theorem xl_4 : j_code jP 114 4 = some (.iload_n 1) := rfl
set_option maxRecDepth 100000 in
theorem xl_5 : j_code jP 114 5 = some (.aload_n 0) := rfl
set_option maxRecDepth 100000 in
theorem xl_6 : j_code jP 114 6 = some (.getfield 12) := rfl
set_option maxRecDepth 100000 in
theorem xl_9 : j_code jP 114 9 = some (.getfield 81) := rfl
set_option maxRecDepth 100000 in
theorem xl_12 : j_code jP 114 12 = some (.if_icmp .le 9) := rfl
set_option maxRecDepth 100000 in
theorem xl_15 : j_code jP 114 15 = some (.aload_n 0) := rfl
set_option maxRecDepth 100000 in
theorem xl_16 : j_code jP 114 16 = some (.iconst 1) := rfl
set_option maxRecDepth 100000 in
theorem xl_17 : j_code jP 114 17 = some (.invokevirtual 84) := rfl
set_option maxRecDepth 100000 in
theorem xl_20 : j_code jP 114 20 = some (.ireturn) := rfl
set_option maxRecDepth 100000 in
theorem xl_21 : j_code jP 114 21 = some (.aload_n 0) := rfl
set_option maxRecDepth 100000 in
theorem xl_22 : j_code jP 114 22 = some (.getfield 21) := rfl
set_option maxRecDepth 100000 in
theorem xl_25 : j_code jP 114 25 = some (.iload_n 1) := rfl
set_option maxRecDepth 100000 in
theorem xl_26 : j_code jP 114 26 = some (.aload_n 0) := rfl
set_option maxRecDepth 100000 in
theorem xl_27 : j_code jP 114 27 = some (.getfield 62) := rfl
set_option maxRecDepth 100000 in
theorem xl_30 : j_code jP 114 30 = some (.invokevirtual 88) := rfl
set_option maxRecDepth 100000 in
theorem xl_33 : j_code jP 114 33 = some (.istore_n 2) := rfl
set_option maxRecDepth 100000 in
theorem xl_34 : j_code jP 114 34 = some (.aload_n 0) := rfl
set_option maxRecDepth 100000 in
theorem xl_35 : j_code jP 114 35 = some (.getfield 12) := rfl
set_option maxRecDepth 100000 in
theorem xl_38 : j_code jP 114 38 = some (.invokevirtual 92) := rfl
set_option maxRecDepth 100000 in
theorem xl_41 : j_code jP 114 41 = some (.iload_n 2) := rfl
set_option maxRecDepth 100000 in
theorem xl_42 : j_code jP 114 42 = some (.ifCond .ne 10) := rfl
set_option maxRecDepth 100000 in
theorem xl_45 : j_code jP 114 45 = some (.aload_n 0) := rfl
set_option maxRecDepth 100000 in
theorem xl_46 : j_code jP 114 46 = some (.bipush 9) := rfl
set_option maxRecDepth 100000 in
theorem xl_48 : j_code jP 114 48 = some (.invokevirtual 84) := rfl
set_option maxRecDepth 100000 in
theorem xl_51 : j_code jP 114 51 = some (.ireturn) := rfl
set_option maxRecDepth 100000 in
theorem xl_52 : j_code jP 114 52 = some (.aload_n 0) := rfl
set_option maxRecDepth 100000 in
theorem xl_53 : j_code jP 114 53 = some (.getfield 58) := rfl
set_option maxRecDepth 100000 in
theorem xl_56 : j_code jP 114 56 = some (.astore_n 3) := rfl
set_option maxRecDepth 100000 in
theorem xl_57 : j_code jP 114 57 = some (.aload_n 0) := rfl
set_option maxRecDepth 100000 in
theorem xl_58 : j_code jP 114 58 = some (.aload_n 0) := rfl
set_option maxRecDepth 100000 in
theorem xl_59 : j_code jP 114 59 = some (.getfield 62) := rfl
set_option maxRecDepth 100000 in
theorem xl_62 : j_code jP 114 62 = some (.putfield 58) := rfl
set_option maxRecDepth 100000 in
theorem xl_65 : j_code jP 114 65 = some (.aload_n 0) := rfl
set_option maxRecDepth 100000 in
theorem xl_66 : j_code jP 114 66 = some (.aload_n 3) := rfl
set_option maxRecDepth 100000 in
theorem xl_67 : j_code jP 114 67 = some (.putfield 62) := rfl
set_option maxRecDepth 100000 in
theorem xl_70 : j_code jP 114 70 = some (.aload_n 0) := rfl
set_option maxRecDepth 100000 in
theorem xl_71 : j_code jP 114 71 = some (.getfield 58) := rfl
set_option maxRecDepth 100000 in
theorem xl_74 : j_code jP 114 74 = some (.invokevirtual 95) := rfl
set_option maxRecDepth 100000 in
theorem xl_77 : j_code jP 114 77 = some (.aload_n 0) := rfl
set_option maxRecDepth 100000 in
theorem xl_78 : j_code jP 114 78 = some (.getfield 30) := rfl
set_option maxRecDepth 100000 in
theorem xl_81 : j_code jP 114 81 = some (.aload_n 0) := rfl
set_option maxRecDepth 100000 in
theorem xl_82 : j_code jP 114 82 = some (.getfield 58) := rfl
set_option maxRecDepth 100000 in
theorem xl_85 : j_code jP 114 85 = some (.invokevirtual 69) := rfl
set_option maxRecDepth 100000 in
theorem xl_88 : j_code jP 114 88 = some (.aload_n 0) := rfl
set_option maxRecDepth 100000 in
theorem xl_89 : j_code jP 114 89 = some (.getfield 37) := rfl
set_option maxRecDepth 100000 in
theorem xl_92 : j_code jP 114 92 = some (.invokevirtual 98) := rfl
set_option maxRecDepth 100000 in
theorem xl_95 : j_code jP 114 95 = some (.aload_n 0) := rfl
set_option maxRecDepth 100000 in
theorem xl_96 : j_code jP 114 96 = some (.aload_n 0) := rfl
set_option maxRecDepth 100000 in
theorem xl_97 : j_code jP 114 97 = some (.getfield 58) := rfl
set_option maxRecDepth 100000 in
theorem xl_100 : j_code jP 114 100 = some (.getfield 101) := rfl
set_option maxRecDepth 100000 in
theorem xl_103 : j_code jP 114 103 = some (.invokevirtual 104) := rfl
set_option maxRecDepth 100000 in
theorem xl_106 : j_code jP 114 106 = some (.ireturn) := rfl
set_option maxRecDepth 100000 in
theorem xla_M : j_meth jP 19 = some (yX2_settle, cX2_settle, 2, none, 0, false, 2) := rfl
set_option maxRecDepth 100000 in
theorem xlb_M : j_meth jP 59 = some (yX7_reset, cX7_reset, 2, none, 1, false, 7) := rfl
set_option maxRecDepth 100000 in
theorem xlc_M : j_meth jP 1 = some (yX0_forget, cX0_forget, 1, none, 0, false, 0) := rfl
theorem xl_okA {u : Nat → Value} {a : Nat} {en nx kd pl nu fa pb sx tx ce : Int32} {wo : Int64} {vb : Value} {l : List Int32} {e : Nat} {h h0 : J_H} {d : Nat} {s : rSP} {t : rTP} {f4 f29 : List Value} (hl : l.length = 700) (ha : e ≤ a) (ha7 : a ≤ 700) (hs : wS s) (ht : wT t) (h1 : s.1 = 0) (h2 : t.1 = 0) (K : KN h [(0, .inl (9, [.ref 1, .ref 3, .ref 4, .ref 29, (u 4), (u 5), .ref 343, .ref 327, (u 8)])), (1, .inl (8, [.ref 2, .int (nI a), .int en, .int nx, .int kd, .int pl, .long wo, .int nu])), (2, .inr (.inl (1, l))), (3, .inl (4, [.ref 1, vb, .int fa, .int pb])), (327, .inl (2, [.int sx, .ref 328, .ref 329, .ref 330, .ref 331, .int tx, .ref 332, .ref 333, .ref 334, .ref 335, .ref 336, .ref 337, .ref 338, .int ce, .ref 339, .ref 340, .ref 341, .ref 342])), (328, .inr (.inr (.inl s.2.1))), (329, .inr (.inl (0, s.2.2.1))), (330, .inr (.inl (0, s.2.2.2.1))), (331, .inr (.inl (0, s.2.2.2.2))), (332, .inr (.inr (.inl t.2.1))), (333, .inr (.inl (0, t.2.2.1))), (334, .inr (.inl (0, t.2.2.2.1))), (335, .inr (.inl (0, t.2.2.2.2.1))), (336, .inr (.inl (0, t.2.2.2.2.2.1))), (337, .inr (.inl (0, t.2.2.2.2.2.2.1))), (338, .inr (.inl (0, t.2.2.2.2.2.2.2))), (4, .inl (7, f4)), (29, .inl (0, f29))] h0) : j_V jP (d + 1 + 1 + 1 + 1 + 1 + 1) 114 0 (lv_args 0 [.ref 0, .int (nI e)]) [] h (PXL (rdL l e (-1) (e + 1) (0, kd, pl, wo, nu) s t)) := by
  have he : e ≤ 700 := by omega
  show j_V jP (d + 1 + 1 + 1 + 1 + 1 + 1) 114 0 [(0, .ref 0), (1, .int (nI e))] [] h _
  refine j_V.one xl_M xl_0 (by decide) (pc' := 1) (st' := [.int (nI e)]) rfl ?_
  refine j_V.ifc xl_M xl_1 (t := 15) rfl (fun c => ?_) (fun c => ?_)
  · exfalso; rw [sk_lt] at c; have c := of_decide_eq_true c; rw [nI_toInt (by omega), show (0 : Int32).toInt = 0 from rfl] at c; omega
  · clear c
    refine j_V.one xl_M xl_4 (by decide) (pc' := 5) (st' := [.int (nI e)]) rfl ?_
    refine j_V.one xl_M xl_5 (by decide) (pc' := 6) (st' := [.ref 0, .int (nI e)]) rfl ?_
    refine j_V.getK xl_M xl_6 (ci := 9) (j := 0) rfl K rfl rfl ?_
    refine j_V.getK xl_M xl_9 (ci := 8) (j := 1) rfl K rfl rfl ?_
    refine j_V.icmp xl_M xl_12 (t := 21) rfl (fun c => ?_) (fun c => ?_)
    · clear c
      refine j_V.one xl_M xl_21 (by decide) (pc' := 22) (st' := [.ref 0]) rfl ?_
      refine j_V.getK xl_M xl_22 (ci := 9) (j := 1) rfl K rfl rfl ?_
      refine j_V.one xl_M xl_25 (by decide) (pc' := 26) (st' := [.int (nI e), .ref 3]) rfl ?_
      refine j_V.one xl_M xl_26 (by decide) (pc' := 27) (st' := [.ref 0, .int (nI e), .ref 3]) rfl ?_
      refine j_V.getK xl_M xl_27 (ci := 9) (j := 7) rfl K rfl rfl ?_
      generalize hR : (rdL l e (-1) (e + 1) (0, kd, pl, wo, nu) s t) = R
      refine j_V.call xl_M xl_30 rfl (md := 3) (mj := 34) rfl (by decide) xd_M (As := [.ref 3, .int (nI e), .ref 327]) (rest := []) (jk_spl3 (K.at rfl) rfl rfl rfl (Nat.le_of_ble_eq_true rfl) (Nat.le_of_ble_eq_true rfl)) (j_W.toV (hR ▸ xd_okA (d := d) hl he (by rw [nI_toInt (by omega), nI_toInt (by omega)]; omega) hs ht h1 h2 (K.sub ⟨rfl, rfl, rfl, rfl, rfl, rfl, rfl, rfl, rfl, rfl, rfl, rfl, rfl, rfl, rfl, trivial⟩))) ?_
      rintro r h9 ⟨rfl, K9⟩
      have K : KN h9 [(0, .inl (9, [.ref 1, .ref 3, .ref 4, .ref 29, (u 4), (u 5), .ref 343, .ref 327, (u 8)])), (1, .inl (8, [.ref 2, .int (nI a), .int (nI e), .int (nI R.2.1.1), .int R.2.1.2.1, .int R.2.1.2.2.1, .long R.2.1.2.2.2.1, .int R.2.1.2.2.2.2])), (2, .inr (.inl (1, l))), (3, .inl (4, [.ref 1, .ref 327, .int R.1.1, .int R.1.2])), (327, .inl (2, [.int (nI R.2.2.1.1), .ref 328, .ref 329, .ref 330, .ref 331, .int (nI R.2.2.2.1), .ref 332, .ref 333, .ref 334, .ref 335, .ref 336, .ref 337, .ref 338, .int ce, .ref 339, .ref 340, .ref 341, .ref 342])), (328, .inr (.inr (.inl R.2.2.1.2.1))), (329, .inr (.inl (0, R.2.2.1.2.2.1))), (330, .inr (.inl (0, R.2.2.1.2.2.2.1))), (331, .inr (.inl (0, R.2.2.1.2.2.2.2))), (332, .inr (.inr (.inl R.2.2.2.2.1))), (333, .inr (.inl (0, R.2.2.2.2.2.1))), (334, .inr (.inl (0, R.2.2.2.2.2.2.1))), (335, .inr (.inl (0, R.2.2.2.2.2.2.2.1))), (336, .inr (.inl (0, R.2.2.2.2.2.2.2.2.1))), (337, .inr (.inl (0, R.2.2.2.2.2.2.2.2.2.1))), (338, .inr (.inl (0, R.2.2.2.2.2.2.2.2.2.2))), (4, .inl (7, f4)), (29, .inl (0, f29))] h0 := K.go K9 rfl rfl rfl
      clear K9
      show j_V jP _ 114 33 [(0, .ref 0), (1, .int (nI e))] [.int (if R.1.1 = 0 then 1 else 0)] h9 _
      refine j_V.one xl_M xl_33 (by decide) (pc' := 34) (lv' := [(2, .int (if R.1.1 = 0 then 1 else 0)), (0, .ref 0), (1, .int (nI e))]) (st' := []) rfl ?_
      refine j_V.one xl_M xl_34 (by decide) (pc' := 35) (st' := [.ref 0]) rfl ?_
      refine j_V.getK xl_M xl_35 (ci := 9) (j := 0) rfl K rfl rfl ?_
      refine j_V.call xl_M xl_38 rfl (md := 3) (mj := 105) rfl (by decide) xg_M (As := [.ref 1]) (rest := []) (jk_spl3 (K.at rfl) rfl rfl rfl (Nat.le_of_ble_eq_true rfl) (Nat.le_of_ble_eq_true rfl)) (j_W.toV (xg_ok (v := fun j => [.ref 2, .int (nI a), .int (nI e), .int (nI R.2.1.1), .int R.2.1.2.1, .int R.2.1.2.2.1, .long R.2.1.2.2.2.1, .int R.2.1.2.2.2.2].getD j .null) (K.sub ⟨rfl, trivial⟩))) ?_
      rintro r h9 ⟨rfl, K9⟩
      have K : KN h9 [(0, .inl (9, [.ref 1, .ref 3, .ref 4, .ref 29, (u 4), (u 5), .ref 343, .ref 327, (u 8)])), (1, .inl (8, [.ref 2, .int 0, .int (nI e), .int (nI R.2.1.1), .int R.2.1.2.1, .int R.2.1.2.2.1, .long R.2.1.2.2.2.1, .int R.2.1.2.2.2.2])), (2, .inr (.inl (1, l))), (3, .inl (4, [.ref 1, .ref 327, .int R.1.1, .int R.1.2])), (327, .inl (2, [.int (nI R.2.2.1.1), .ref 328, .ref 329, .ref 330, .ref 331, .int (nI R.2.2.2.1), .ref 332, .ref 333, .ref 334, .ref 335, .ref 336, .ref 337, .ref 338, .int ce, .ref 339, .ref 340, .ref 341, .ref 342])), (328, .inr (.inr (.inl R.2.2.1.2.1))), (329, .inr (.inl (0, R.2.2.1.2.2.1))), (330, .inr (.inl (0, R.2.2.1.2.2.2.1))), (331, .inr (.inl (0, R.2.2.1.2.2.2.2))), (332, .inr (.inr (.inl R.2.2.2.2.1))), (333, .inr (.inl (0, R.2.2.2.2.2.1))), (334, .inr (.inl (0, R.2.2.2.2.2.2.1))), (335, .inr (.inl (0, R.2.2.2.2.2.2.2.1))), (336, .inr (.inl (0, R.2.2.2.2.2.2.2.2.1))), (337, .inr (.inl (0, R.2.2.2.2.2.2.2.2.2.1))), (338, .inr (.inl (0, R.2.2.2.2.2.2.2.2.2.2))), (4, .inl (7, f4)), (29, .inl (0, f29))] h0 := K.go K9 rfl rfl rfl
      clear K9
      show j_V jP _ 114 41 [(2, .int (if R.1.1 = 0 then 1 else 0)), (0, .ref 0), (1, .int (nI e))] [] h9 _
      refine j_V.one xl_M xl_41 (by decide) (pc' := 42) (st' := [.int (if R.1.1 = 0 then 1 else 0)]) rfl ?_
      rcases Decidable.em (R.1.1 = 0) with hz9 | hz9
      · rw [if_pos hz9]
        show j_V jP _ 114 42 [(2, .int 1), (0, .ref 0), (1, .int (nI e))] [.int 1] h9 _
        refine j_V.ifc xl_M xl_42 (t := 52) rfl (fun c => ?_) (fun c => ?_)
        · clear c
          refine j_V.one xl_M xl_52 (by decide) (pc' := 53) (st' := [.ref 0]) rfl ?_
          refine j_V.getK xl_M xl_53 (ci := 9) (j := 6) rfl K rfl rfl ?_
          refine j_V.one xl_M xl_56 (by decide) (pc' := 57) (lv' := [(3, .ref 343), (2, .int 1), (0, .ref 0), (1, .int (nI e))]) (st' := []) rfl ?_
          refine j_V.one xl_M xl_57 (by decide) (pc' := 58) (st' := [.ref 0]) rfl ?_
          refine j_V.one xl_M xl_58 (by decide) (pc' := 59) (st' := [.ref 0, .ref 0]) rfl ?_
          refine j_V.getK xl_M xl_59 (ci := 9) (j := 7) rfl K rfl rfl ?_
          refine j_V.putK xl_M xl_62 (ci := 9) (j := 6) (k' := [(0, .inl (9, [.ref 1, .ref 3, .ref 4, .ref 29, (u 4), (u 5), .ref 327, .ref 327, (u 8)])), (1, .inl (8, [.ref 2, .int 0, .int (nI e), .int (nI R.2.1.1), .int R.2.1.2.1, .int R.2.1.2.2.1, .long R.2.1.2.2.2.1, .int R.2.1.2.2.2.2])), (2, .inr (.inl (1, l))), (3, .inl (4, [.ref 1, .ref 327, .int R.1.1, .int R.1.2])), (327, .inl (2, [.int (nI R.2.2.1.1), .ref 328, .ref 329, .ref 330, .ref 331, .int (nI R.2.2.2.1), .ref 332, .ref 333, .ref 334, .ref 335, .ref 336, .ref 337, .ref 338, .int ce, .ref 339, .ref 340, .ref 341, .ref 342])), (328, .inr (.inr (.inl R.2.2.1.2.1))), (329, .inr (.inl (0, R.2.2.1.2.2.1))), (330, .inr (.inl (0, R.2.2.1.2.2.2.1))), (331, .inr (.inl (0, R.2.2.1.2.2.2.2))), (332, .inr (.inr (.inl R.2.2.2.2.1))), (333, .inr (.inl (0, R.2.2.2.2.2.1))), (334, .inr (.inl (0, R.2.2.2.2.2.2.1))), (335, .inr (.inl (0, R.2.2.2.2.2.2.2.1))), (336, .inr (.inl (0, R.2.2.2.2.2.2.2.2.1))), (337, .inr (.inl (0, R.2.2.2.2.2.2.2.2.2.1))), (338, .inr (.inl (0, R.2.2.2.2.2.2.2.2.2.2))), (4, .inl (7, f4)), (29, .inl (0, f29))]) rfl K rfl (Nat.le_of_ble_eq_true rfl) rfl (Or.inl rfl) rfl rfl (fun h K => ?_)
          refine j_V.one xl_M xl_65 (by decide) (pc' := 66) (st' := [.ref 0]) rfl ?_
          refine j_V.one xl_M xl_66 (by decide) (pc' := 67) (st' := [.ref 343, .ref 0]) rfl ?_
          refine j_V.putK xl_M xl_67 (ci := 9) (j := 7) (k' := [(0, .inl (9, [.ref 1, .ref 3, .ref 4, .ref 29, (u 4), (u 5), .ref 327, .ref 343, (u 8)])), (1, .inl (8, [.ref 2, .int 0, .int (nI e), .int (nI R.2.1.1), .int R.2.1.2.1, .int R.2.1.2.2.1, .long R.2.1.2.2.2.1, .int R.2.1.2.2.2.2])), (2, .inr (.inl (1, l))), (3, .inl (4, [.ref 1, .ref 327, .int R.1.1, .int R.1.2])), (327, .inl (2, [.int (nI R.2.2.1.1), .ref 328, .ref 329, .ref 330, .ref 331, .int (nI R.2.2.2.1), .ref 332, .ref 333, .ref 334, .ref 335, .ref 336, .ref 337, .ref 338, .int ce, .ref 339, .ref 340, .ref 341, .ref 342])), (328, .inr (.inr (.inl R.2.2.1.2.1))), (329, .inr (.inl (0, R.2.2.1.2.2.1))), (330, .inr (.inl (0, R.2.2.1.2.2.2.1))), (331, .inr (.inl (0, R.2.2.1.2.2.2.2))), (332, .inr (.inr (.inl R.2.2.2.2.1))), (333, .inr (.inl (0, R.2.2.2.2.2.1))), (334, .inr (.inl (0, R.2.2.2.2.2.2.1))), (335, .inr (.inl (0, R.2.2.2.2.2.2.2.1))), (336, .inr (.inl (0, R.2.2.2.2.2.2.2.2.1))), (337, .inr (.inl (0, R.2.2.2.2.2.2.2.2.2.1))), (338, .inr (.inl (0, R.2.2.2.2.2.2.2.2.2.2))), (4, .inl (7, f4)), (29, .inl (0, f29))]) rfl K rfl (Nat.le_of_ble_eq_true rfl) rfl (Or.inl rfl) rfl rfl (fun h K => ?_)
          refine j_V.one xl_M xl_70 (by decide) (pc' := 71) (st' := [.ref 0]) rfl ?_
          refine j_V.getK xl_M xl_71 (ci := 9) (j := 6) rfl K rfl rfl ?_
          refine j_V.call xl_M xl_74 rfl (md := 3) (mj := 19) rfl (by decide) xla_M (As := [.ref 327]) (rest := []) (jk_spl3 (K.at (a := 327) rfl) rfl rfl rfl (Nat.le_of_ble_eq_true rfl) (Nat.le_of_ble_eq_true rfl)) (jv_void rfl rfl (jv_V xl_N rfl)) ?_
          rintro r h9 ⟨hk9, hrn9⟩
          have q0 := hk9.all (xd_N9 (Or.inl rfl)) (K.at (a := 0) rfl)
          have q3 := hk9.all (xd_N9 (Or.inr rfl)) (K.at (a := 3) rfl)
          obtain ⟨g4, q4, -, -⟩ := hk9 4 7 _ (K.at (a := 4) rfl)
          obtain ⟨g29, q29, -, -⟩ := hk9 29 0 _ (K.at (a := 29) rfl)
          obtain ⟨gB, qB, -, qT⟩ := hk9 327 2 _ (K.at (a := 327) rfl)
          have qT : gB[5]? = some (.int (nI R.2.2.2.1)) := (qT 5 rfl).trans rfl
          have K : KN h9 [(0, .inl (9, [.ref 1, .ref 3, .ref 4, .ref 29, (u 4), (u 5), .ref 327, .ref 343, (u 8)])), (3, .inl (4, [.ref 1, .ref 327, .int R.1.1, .int R.1.2])), (4, .inl (7, g4)), (29, .inl (0, g29)), (327, .inl (2, gB))] h9 := KN.of (by intro q hq; simp only [List.mem_cons, List.not_mem_nil, or_false] at hq; rcases hq with rfl | rfl | rfl | rfl | rfl <;> assumption)
          clear q0 q3 q4 q29 qB hk9
          have qT0 := qT
          clear qT
          rw [hrn9]
          clear hrn9
          show j_V jP _ 114 77 [(3, .ref 343), (2, .int 1), (0, .ref 0), (1, .int (nI e))] [] h9 _
          refine j_V.one xl_M xl_77 (by decide) (pc' := 78) (st' := [.ref 0]) rfl ?_
          refine j_V.getK xl_M xl_78 (ci := 9) (j := 2) rfl K rfl rfl ?_
          refine j_V.one xl_M xl_81 (by decide) (pc' := 82) (st' := [.ref 0, .ref 4]) rfl ?_
          refine j_V.getK xl_M xl_82 (ci := 9) (j := 6) rfl K rfl rfl ?_
          refine j_V.call xl_M xl_85 rfl (md := 3) (mj := 59) rfl (by decide) xlb_M (As := [.ref 4, .ref 327]) (rest := []) (jk_spl3 (K.at (a := 4) rfl) rfl rfl rfl (Nat.le_of_ble_eq_true rfl) (Nat.le_of_ble_eq_true rfl)) (jv_void rfl rfl (jv_V xl_N rfl)) ?_
          rintro r h9 ⟨hk9, hrn9⟩
          have q0 := hk9.all (xd_N9 (Or.inl rfl)) (K.at (a := 0) rfl)
          have q3 := hk9.all (xd_N9 (Or.inr rfl)) (K.at (a := 3) rfl)
          obtain ⟨g4, q4, -, -⟩ := hk9 4 7 _ (K.at (a := 4) rfl)
          obtain ⟨g29, q29, -, -⟩ := hk9 29 0 _ (K.at (a := 29) rfl)
          obtain ⟨gB, qB, -, qT⟩ := hk9 327 2 _ (K.at (a := 327) rfl)
          have qT : gB[5]? = some (.int (nI R.2.2.2.1)) := (qT 5 rfl).trans qT0
          have K : KN h9 [(0, .inl (9, [.ref 1, .ref 3, .ref 4, .ref 29, (u 4), (u 5), .ref 327, .ref 343, (u 8)])), (3, .inl (4, [.ref 1, .ref 327, .int R.1.1, .int R.1.2])), (4, .inl (7, g4)), (29, .inl (0, g29)), (327, .inl (2, gB))] h9 := KN.of (by intro q hq; simp only [List.mem_cons, List.not_mem_nil, or_false] at hq; rcases hq with rfl | rfl | rfl | rfl | rfl <;> assumption)
          clear q0 q3 q4 q29 qB hk9
          have qT0 := qT
          clear qT
          rw [hrn9]
          clear hrn9
          show j_V jP _ 114 88 [(3, .ref 343), (2, .int 1), (0, .ref 0), (1, .int (nI e))] [] h9 _
          refine j_V.one xl_M xl_88 (by decide) (pc' := 89) (st' := [.ref 0]) rfl ?_
          refine j_V.getK xl_M xl_89 (ci := 9) (j := 3) rfl K rfl rfl ?_
          refine j_V.call xl_M xl_92 rfl (md := 3) (mj := 1) rfl (by decide) xlc_M (As := [.ref 29]) (rest := []) (jk_spl3 (K.at (a := 29) rfl) rfl rfl rfl (Nat.le_of_ble_eq_true rfl) (Nat.le_of_ble_eq_true rfl)) (jv_void rfl rfl (jv_V xl_N rfl)) ?_
          rintro r h9 ⟨hk9, hrn9⟩
          have q0 := hk9.all (xd_N9 (Or.inl rfl)) (K.at (a := 0) rfl)
          have q3 := hk9.all (xd_N9 (Or.inr rfl)) (K.at (a := 3) rfl)
          obtain ⟨g4, q4, -, -⟩ := hk9 4 7 _ (K.at (a := 4) rfl)
          obtain ⟨g29, q29, -, -⟩ := hk9 29 0 _ (K.at (a := 29) rfl)
          obtain ⟨gB, qB, -, qT⟩ := hk9 327 2 _ (K.at (a := 327) rfl)
          have qT : gB[5]? = some (.int (nI R.2.2.2.1)) := (qT 5 rfl).trans qT0
          have K : KN h9 [(0, .inl (9, [.ref 1, .ref 3, .ref 4, .ref 29, (u 4), (u 5), .ref 327, .ref 343, (u 8)])), (3, .inl (4, [.ref 1, .ref 327, .int R.1.1, .int R.1.2])), (4, .inl (7, g4)), (29, .inl (0, g29)), (327, .inl (2, gB))] h9 := KN.of (by intro q hq; simp only [List.mem_cons, List.not_mem_nil, or_false] at hq; rcases hq with rfl | rfl | rfl | rfl | rfl <;> assumption)
          clear q0 q3 q4 q29 qB hk9
          have qT0 := qT
          clear qT
          rw [hrn9]
          clear hrn9
          show j_V jP _ 114 95 [(3, .ref 343), (2, .int 1), (0, .ref 0), (1, .int (nI e))] [] h9 _
          refine j_V.one xl_M xl_95 (by decide) (pc' := 96) (st' := [.ref 0]) rfl ?_
          refine j_V.one xl_M xl_96 (by decide) (pc' := 97) (st' := [.ref 0, .ref 0]) rfl ?_
          refine j_V.getK xl_M xl_97 (ci := 9) (j := 6) rfl K rfl rfl ?_
          refine j_V.getK xl_M xl_100 (ci := 2) (j := 5) rfl K rfl qT0 ?_
          have K : ∃ h0, KN h9 [(0, .inl (9, [.ref 1, .ref 3, .ref 4, .ref 29, (u 4), (u 5), .ref 327, .ref 343, (u 8)])), (3, .inl (4, [.ref 1, .ref 327, .int R.1.1, .int R.1.2])), (4, .inl (7, g4)), (29, .inl (0, g29)), (327, .inl (2, gB))] h0 := ⟨_, K⟩
          obtain ⟨h0, K⟩ := K
          refine j_V.call xl_M xl_103 rfl (md := 3) (mj := 159) rfl (by decide) xk_M (As := [.ref 0, .int (nI R.2.2.2.1)]) (rest := []) (jk_spl3 (K.at rfl) rfl rfl rfl (Nat.le_of_ble_eq_true rfl) (Nat.le_of_ble_eq_true rfl)) (j_W.toV (xk_ok (v := fun j => [.ref 1, .ref 3, .ref 4, .ref 29, (u 4), (u 5), .ref 327, .ref 343, (u 8)].getD j .null) (K.sub ⟨rfl, trivial⟩))) ?_
          rintro r h9 ⟨rfl, K9⟩
          have K : KN h9 [(0, .inl (9, [.ref 1, .ref 3, .ref 4, .ref 29, (u 4), (u 5), .ref 327, .ref 343, .int 0])), (3, .inl (4, [.ref 1, .ref 327, .int R.1.1, .int R.1.2])), (4, .inl (7, g4)), (29, .inl (0, g29)), (327, .inl (2, gB))] h0 := K.go K9 rfl rfl rfl
          clear K9
          show j_V jP _ 114 106 [(3, .ref 343), (2, .int 1), (0, .ref 0), (1, .int (nI e))] [.int (nI R.2.2.2.1)] h9 _
          refine j_V.ret xl_M xl_106 rfl rfl ⟨⟨?_, ?_⟩, Or.inl ⟨hz9, rfl⟩⟩
          · rw [jc_at_of (K.at (a := 3) rfl)]; rfl
          · rw [jc_at_of (K.at (a := 3) rfl)]; rfl
        · exact absurd c (by decide)
      · rw [if_neg hz9]
        show j_V jP _ 114 42 [(2, .int 0), (0, .ref 0), (1, .int (nI e))] [.int 0] h9 _
        refine j_V.ifc xl_M xl_42 (t := 52) rfl (fun c => ?_) (fun c => ?_)
        · exact absurd c (by decide)
        · clear c
          refine j_V.one xl_M xl_45 (by decide) (pc' := 46) (st' := [.ref 0]) rfl ?_
          refine j_V.one xl_M xl_46 (by decide) (pc' := 48) (st' := [.int 9, .ref 0]) rfl ?_
          refine j_V.call xl_M xl_48 rfl (md := 3) (mj := 161) rfl (by decide) xj_M (As := [.ref 0, .int 9]) (rest := []) (jk_spl3 (K.at rfl) rfl rfl rfl (Nat.le_of_ble_eq_true rfl) (Nat.le_of_ble_eq_true rfl)) (j_W.toV (xj_ok (v := fun j => [.ref 1, .ref 3, .ref 4, .ref 29, (u 4), (u 5), .ref 343, .ref 327, (u 8)].getD j .null) (K.sub ⟨rfl, trivial⟩))) ?_
          rintro r h9 ⟨rfl, K9⟩
          have K : KN h9 [(0, .inl (9, [.ref 1, .ref 3, .ref 4, .ref 29, (u 4), (u 5), .ref 343, .ref 327, .int 9])), (1, .inl (8, [.ref 2, .int 0, .int (nI e), .int (nI R.2.1.1), .int R.2.1.2.1, .int R.2.1.2.2.1, .long R.2.1.2.2.2.1, .int R.2.1.2.2.2.2])), (2, .inr (.inl (1, l))), (3, .inl (4, [.ref 1, .ref 327, .int R.1.1, .int R.1.2])), (327, .inl (2, [.int (nI R.2.2.1.1), .ref 328, .ref 329, .ref 330, .ref 331, .int (nI R.2.2.2.1), .ref 332, .ref 333, .ref 334, .ref 335, .ref 336, .ref 337, .ref 338, .int ce, .ref 339, .ref 340, .ref 341, .ref 342])), (328, .inr (.inr (.inl R.2.2.1.2.1))), (329, .inr (.inl (0, R.2.2.1.2.2.1))), (330, .inr (.inl (0, R.2.2.1.2.2.2.1))), (331, .inr (.inl (0, R.2.2.1.2.2.2.2))), (332, .inr (.inr (.inl R.2.2.2.2.1))), (333, .inr (.inl (0, R.2.2.2.2.2.1))), (334, .inr (.inl (0, R.2.2.2.2.2.2.1))), (335, .inr (.inl (0, R.2.2.2.2.2.2.2.1))), (336, .inr (.inl (0, R.2.2.2.2.2.2.2.2.1))), (337, .inr (.inl (0, R.2.2.2.2.2.2.2.2.2.1))), (338, .inr (.inl (0, R.2.2.2.2.2.2.2.2.2.2))), (4, .inl (7, f4)), (29, .inl (0, f29))] h0 := K.go K9 rfl rfl rfl
          clear K9
          show j_V jP _ 114 51 [(2, .int 0), (0, .ref 0), (1, .int (nI e))] [.int (-1)] h9 _
          refine j_V.ret xl_M xl_51 rfl rfl ⟨⟨?_, ?_⟩, Or.inr ⟨hz9, rfl⟩⟩
          · rw [jc_at_of (K.at (a := 3) rfl)]; rfl
          · rw [jc_at_of (K.at (a := 3) rfl)]; rfl
    · exfalso; rw [jk_le] at c; have c := of_decide_eq_false c; rw [nI_toInt (by omega), nI_toInt (by omega)] at c; omega
theorem xl_okB {u : Nat → Value} {a : Nat} {en nx kd pl nu fa pb sx tx ce : Int32} {wo : Int64} {vb : Value} {l : List Int32} {e : Nat} {h h0 : J_H} {d : Nat} {s : rSP} {t : rTP} {f4 f29 : List Value} (hl : l.length = 700) (ha : e ≤ a) (ha7 : a ≤ 700) (hs : wS s) (ht : wT t) (h1 : s.1 = 0) (h2 : t.1 = 0) (K : KN h [(0, .inl (9, [.ref 1, .ref 3, .ref 4, .ref 29, (u 4), (u 5), .ref 327, .ref 343, (u 8)])), (1, .inl (8, [.ref 2, .int (nI a), .int en, .int nx, .int kd, .int pl, .long wo, .int nu])), (2, .inr (.inl (1, l))), (3, .inl (4, [.ref 1, vb, .int fa, .int pb])), (343, .inl (2, [.int sx, .ref 344, .ref 345, .ref 346, .ref 347, .int tx, .ref 348, .ref 349, .ref 350, .ref 351, .ref 352, .ref 353, .ref 354, .int ce, .ref 355, .ref 356, .ref 357, .ref 358])), (344, .inr (.inr (.inl s.2.1))), (345, .inr (.inl (0, s.2.2.1))), (346, .inr (.inl (0, s.2.2.2.1))), (347, .inr (.inl (0, s.2.2.2.2))), (348, .inr (.inr (.inl t.2.1))), (349, .inr (.inl (0, t.2.2.1))), (350, .inr (.inl (0, t.2.2.2.1))), (351, .inr (.inl (0, t.2.2.2.2.1))), (352, .inr (.inl (0, t.2.2.2.2.2.1))), (353, .inr (.inl (0, t.2.2.2.2.2.2.1))), (354, .inr (.inl (0, t.2.2.2.2.2.2.2))), (4, .inl (7, f4)), (29, .inl (0, f29))] h0) : j_V jP (d + 1 + 1 + 1 + 1 + 1 + 1) 114 0 (lv_args 0 [.ref 0, .int (nI e)]) [] h (PXL (rdL l e (-1) (e + 1) (0, kd, pl, wo, nu) s t)) := by
  have he : e ≤ 700 := by omega
  show j_V jP (d + 1 + 1 + 1 + 1 + 1 + 1) 114 0 [(0, .ref 0), (1, .int (nI e))] [] h _
  refine j_V.one xl_M xl_0 (by decide) (pc' := 1) (st' := [.int (nI e)]) rfl ?_
  refine j_V.ifc xl_M xl_1 (t := 15) rfl (fun c => ?_) (fun c => ?_)
  · exfalso; rw [sk_lt] at c; have c := of_decide_eq_true c; rw [nI_toInt (by omega), show (0 : Int32).toInt = 0 from rfl] at c; omega
  · clear c
    refine j_V.one xl_M xl_4 (by decide) (pc' := 5) (st' := [.int (nI e)]) rfl ?_
    refine j_V.one xl_M xl_5 (by decide) (pc' := 6) (st' := [.ref 0, .int (nI e)]) rfl ?_
    refine j_V.getK xl_M xl_6 (ci := 9) (j := 0) rfl K rfl rfl ?_
    refine j_V.getK xl_M xl_9 (ci := 8) (j := 1) rfl K rfl rfl ?_
    refine j_V.icmp xl_M xl_12 (t := 21) rfl (fun c => ?_) (fun c => ?_)
    · clear c
      refine j_V.one xl_M xl_21 (by decide) (pc' := 22) (st' := [.ref 0]) rfl ?_
      refine j_V.getK xl_M xl_22 (ci := 9) (j := 1) rfl K rfl rfl ?_
      refine j_V.one xl_M xl_25 (by decide) (pc' := 26) (st' := [.int (nI e), .ref 3]) rfl ?_
      refine j_V.one xl_M xl_26 (by decide) (pc' := 27) (st' := [.ref 0, .int (nI e), .ref 3]) rfl ?_
      refine j_V.getK xl_M xl_27 (ci := 9) (j := 7) rfl K rfl rfl ?_
      generalize hR : (rdL l e (-1) (e + 1) (0, kd, pl, wo, nu) s t) = R
      refine j_V.call xl_M xl_30 rfl (md := 3) (mj := 34) rfl (by decide) xd_M (As := [.ref 3, .int (nI e), .ref 343]) (rest := []) (jk_spl3 (K.at rfl) rfl rfl rfl (Nat.le_of_ble_eq_true rfl) (Nat.le_of_ble_eq_true rfl)) (j_W.toV (hR ▸ xd_okB (d := d) hl he (by rw [nI_toInt (by omega), nI_toInt (by omega)]; omega) hs ht h1 h2 (K.sub ⟨rfl, rfl, rfl, rfl, rfl, rfl, rfl, rfl, rfl, rfl, rfl, rfl, rfl, rfl, rfl, trivial⟩))) ?_
      rintro r h9 ⟨rfl, K9⟩
      have K : KN h9 [(0, .inl (9, [.ref 1, .ref 3, .ref 4, .ref 29, (u 4), (u 5), .ref 327, .ref 343, (u 8)])), (1, .inl (8, [.ref 2, .int (nI a), .int (nI e), .int (nI R.2.1.1), .int R.2.1.2.1, .int R.2.1.2.2.1, .long R.2.1.2.2.2.1, .int R.2.1.2.2.2.2])), (2, .inr (.inl (1, l))), (3, .inl (4, [.ref 1, .ref 343, .int R.1.1, .int R.1.2])), (343, .inl (2, [.int (nI R.2.2.1.1), .ref 344, .ref 345, .ref 346, .ref 347, .int (nI R.2.2.2.1), .ref 348, .ref 349, .ref 350, .ref 351, .ref 352, .ref 353, .ref 354, .int ce, .ref 355, .ref 356, .ref 357, .ref 358])), (344, .inr (.inr (.inl R.2.2.1.2.1))), (345, .inr (.inl (0, R.2.2.1.2.2.1))), (346, .inr (.inl (0, R.2.2.1.2.2.2.1))), (347, .inr (.inl (0, R.2.2.1.2.2.2.2))), (348, .inr (.inr (.inl R.2.2.2.2.1))), (349, .inr (.inl (0, R.2.2.2.2.2.1))), (350, .inr (.inl (0, R.2.2.2.2.2.2.1))), (351, .inr (.inl (0, R.2.2.2.2.2.2.2.1))), (352, .inr (.inl (0, R.2.2.2.2.2.2.2.2.1))), (353, .inr (.inl (0, R.2.2.2.2.2.2.2.2.2.1))), (354, .inr (.inl (0, R.2.2.2.2.2.2.2.2.2.2))), (4, .inl (7, f4)), (29, .inl (0, f29))] h0 := K.go K9 rfl rfl rfl
      clear K9
      show j_V jP _ 114 33 [(0, .ref 0), (1, .int (nI e))] [.int (if R.1.1 = 0 then 1 else 0)] h9 _
      refine j_V.one xl_M xl_33 (by decide) (pc' := 34) (lv' := [(2, .int (if R.1.1 = 0 then 1 else 0)), (0, .ref 0), (1, .int (nI e))]) (st' := []) rfl ?_
      refine j_V.one xl_M xl_34 (by decide) (pc' := 35) (st' := [.ref 0]) rfl ?_
      refine j_V.getK xl_M xl_35 (ci := 9) (j := 0) rfl K rfl rfl ?_
      refine j_V.call xl_M xl_38 rfl (md := 3) (mj := 105) rfl (by decide) xg_M (As := [.ref 1]) (rest := []) (jk_spl3 (K.at rfl) rfl rfl rfl (Nat.le_of_ble_eq_true rfl) (Nat.le_of_ble_eq_true rfl)) (j_W.toV (xg_ok (v := fun j => [.ref 2, .int (nI a), .int (nI e), .int (nI R.2.1.1), .int R.2.1.2.1, .int R.2.1.2.2.1, .long R.2.1.2.2.2.1, .int R.2.1.2.2.2.2].getD j .null) (K.sub ⟨rfl, trivial⟩))) ?_
      rintro r h9 ⟨rfl, K9⟩
      have K : KN h9 [(0, .inl (9, [.ref 1, .ref 3, .ref 4, .ref 29, (u 4), (u 5), .ref 327, .ref 343, (u 8)])), (1, .inl (8, [.ref 2, .int 0, .int (nI e), .int (nI R.2.1.1), .int R.2.1.2.1, .int R.2.1.2.2.1, .long R.2.1.2.2.2.1, .int R.2.1.2.2.2.2])), (2, .inr (.inl (1, l))), (3, .inl (4, [.ref 1, .ref 343, .int R.1.1, .int R.1.2])), (343, .inl (2, [.int (nI R.2.2.1.1), .ref 344, .ref 345, .ref 346, .ref 347, .int (nI R.2.2.2.1), .ref 348, .ref 349, .ref 350, .ref 351, .ref 352, .ref 353, .ref 354, .int ce, .ref 355, .ref 356, .ref 357, .ref 358])), (344, .inr (.inr (.inl R.2.2.1.2.1))), (345, .inr (.inl (0, R.2.2.1.2.2.1))), (346, .inr (.inl (0, R.2.2.1.2.2.2.1))), (347, .inr (.inl (0, R.2.2.1.2.2.2.2))), (348, .inr (.inr (.inl R.2.2.2.2.1))), (349, .inr (.inl (0, R.2.2.2.2.2.1))), (350, .inr (.inl (0, R.2.2.2.2.2.2.1))), (351, .inr (.inl (0, R.2.2.2.2.2.2.2.1))), (352, .inr (.inl (0, R.2.2.2.2.2.2.2.2.1))), (353, .inr (.inl (0, R.2.2.2.2.2.2.2.2.2.1))), (354, .inr (.inl (0, R.2.2.2.2.2.2.2.2.2.2))), (4, .inl (7, f4)), (29, .inl (0, f29))] h0 := K.go K9 rfl rfl rfl
      clear K9
      show j_V jP _ 114 41 [(2, .int (if R.1.1 = 0 then 1 else 0)), (0, .ref 0), (1, .int (nI e))] [] h9 _
      refine j_V.one xl_M xl_41 (by decide) (pc' := 42) (st' := [.int (if R.1.1 = 0 then 1 else 0)]) rfl ?_
      rcases Decidable.em (R.1.1 = 0) with hz9 | hz9
      · rw [if_pos hz9]
        show j_V jP _ 114 42 [(2, .int 1), (0, .ref 0), (1, .int (nI e))] [.int 1] h9 _
        refine j_V.ifc xl_M xl_42 (t := 52) rfl (fun c => ?_) (fun c => ?_)
        · clear c
          refine j_V.one xl_M xl_52 (by decide) (pc' := 53) (st' := [.ref 0]) rfl ?_
          refine j_V.getK xl_M xl_53 (ci := 9) (j := 6) rfl K rfl rfl ?_
          refine j_V.one xl_M xl_56 (by decide) (pc' := 57) (lv' := [(3, .ref 327), (2, .int 1), (0, .ref 0), (1, .int (nI e))]) (st' := []) rfl ?_
          refine j_V.one xl_M xl_57 (by decide) (pc' := 58) (st' := [.ref 0]) rfl ?_
          refine j_V.one xl_M xl_58 (by decide) (pc' := 59) (st' := [.ref 0, .ref 0]) rfl ?_
          refine j_V.getK xl_M xl_59 (ci := 9) (j := 7) rfl K rfl rfl ?_
          refine j_V.putK xl_M xl_62 (ci := 9) (j := 6) (k' := [(0, .inl (9, [.ref 1, .ref 3, .ref 4, .ref 29, (u 4), (u 5), .ref 343, .ref 343, (u 8)])), (1, .inl (8, [.ref 2, .int 0, .int (nI e), .int (nI R.2.1.1), .int R.2.1.2.1, .int R.2.1.2.2.1, .long R.2.1.2.2.2.1, .int R.2.1.2.2.2.2])), (2, .inr (.inl (1, l))), (3, .inl (4, [.ref 1, .ref 343, .int R.1.1, .int R.1.2])), (343, .inl (2, [.int (nI R.2.2.1.1), .ref 344, .ref 345, .ref 346, .ref 347, .int (nI R.2.2.2.1), .ref 348, .ref 349, .ref 350, .ref 351, .ref 352, .ref 353, .ref 354, .int ce, .ref 355, .ref 356, .ref 357, .ref 358])), (344, .inr (.inr (.inl R.2.2.1.2.1))), (345, .inr (.inl (0, R.2.2.1.2.2.1))), (346, .inr (.inl (0, R.2.2.1.2.2.2.1))), (347, .inr (.inl (0, R.2.2.1.2.2.2.2))), (348, .inr (.inr (.inl R.2.2.2.2.1))), (349, .inr (.inl (0, R.2.2.2.2.2.1))), (350, .inr (.inl (0, R.2.2.2.2.2.2.1))), (351, .inr (.inl (0, R.2.2.2.2.2.2.2.1))), (352, .inr (.inl (0, R.2.2.2.2.2.2.2.2.1))), (353, .inr (.inl (0, R.2.2.2.2.2.2.2.2.2.1))), (354, .inr (.inl (0, R.2.2.2.2.2.2.2.2.2.2))), (4, .inl (7, f4)), (29, .inl (0, f29))]) rfl K rfl (Nat.le_of_ble_eq_true rfl) rfl (Or.inl rfl) rfl rfl (fun h K => ?_)
          refine j_V.one xl_M xl_65 (by decide) (pc' := 66) (st' := [.ref 0]) rfl ?_
          refine j_V.one xl_M xl_66 (by decide) (pc' := 67) (st' := [.ref 327, .ref 0]) rfl ?_
          refine j_V.putK xl_M xl_67 (ci := 9) (j := 7) (k' := [(0, .inl (9, [.ref 1, .ref 3, .ref 4, .ref 29, (u 4), (u 5), .ref 343, .ref 327, (u 8)])), (1, .inl (8, [.ref 2, .int 0, .int (nI e), .int (nI R.2.1.1), .int R.2.1.2.1, .int R.2.1.2.2.1, .long R.2.1.2.2.2.1, .int R.2.1.2.2.2.2])), (2, .inr (.inl (1, l))), (3, .inl (4, [.ref 1, .ref 343, .int R.1.1, .int R.1.2])), (343, .inl (2, [.int (nI R.2.2.1.1), .ref 344, .ref 345, .ref 346, .ref 347, .int (nI R.2.2.2.1), .ref 348, .ref 349, .ref 350, .ref 351, .ref 352, .ref 353, .ref 354, .int ce, .ref 355, .ref 356, .ref 357, .ref 358])), (344, .inr (.inr (.inl R.2.2.1.2.1))), (345, .inr (.inl (0, R.2.2.1.2.2.1))), (346, .inr (.inl (0, R.2.2.1.2.2.2.1))), (347, .inr (.inl (0, R.2.2.1.2.2.2.2))), (348, .inr (.inr (.inl R.2.2.2.2.1))), (349, .inr (.inl (0, R.2.2.2.2.2.1))), (350, .inr (.inl (0, R.2.2.2.2.2.2.1))), (351, .inr (.inl (0, R.2.2.2.2.2.2.2.1))), (352, .inr (.inl (0, R.2.2.2.2.2.2.2.2.1))), (353, .inr (.inl (0, R.2.2.2.2.2.2.2.2.2.1))), (354, .inr (.inl (0, R.2.2.2.2.2.2.2.2.2.2))), (4, .inl (7, f4)), (29, .inl (0, f29))]) rfl K rfl (Nat.le_of_ble_eq_true rfl) rfl (Or.inl rfl) rfl rfl (fun h K => ?_)
          refine j_V.one xl_M xl_70 (by decide) (pc' := 71) (st' := [.ref 0]) rfl ?_
          refine j_V.getK xl_M xl_71 (ci := 9) (j := 6) rfl K rfl rfl ?_
          refine j_V.call xl_M xl_74 rfl (md := 3) (mj := 19) rfl (by decide) xla_M (As := [.ref 343]) (rest := []) (jk_spl3 (K.at (a := 343) rfl) rfl rfl rfl (Nat.le_of_ble_eq_true rfl) (Nat.le_of_ble_eq_true rfl)) (jv_void rfl rfl (jv_V xl_N rfl)) ?_
          rintro r h9 ⟨hk9, hrn9⟩
          have q0 := hk9.all (xd_N9 (Or.inl rfl)) (K.at (a := 0) rfl)
          have q3 := hk9.all (xd_N9 (Or.inr rfl)) (K.at (a := 3) rfl)
          obtain ⟨g4, q4, -, -⟩ := hk9 4 7 _ (K.at (a := 4) rfl)
          obtain ⟨g29, q29, -, -⟩ := hk9 29 0 _ (K.at (a := 29) rfl)
          obtain ⟨gB, qB, -, qT⟩ := hk9 343 2 _ (K.at (a := 343) rfl)
          have qT : gB[5]? = some (.int (nI R.2.2.2.1)) := (qT 5 rfl).trans rfl
          have K : KN h9 [(0, .inl (9, [.ref 1, .ref 3, .ref 4, .ref 29, (u 4), (u 5), .ref 343, .ref 327, (u 8)])), (3, .inl (4, [.ref 1, .ref 343, .int R.1.1, .int R.1.2])), (4, .inl (7, g4)), (29, .inl (0, g29)), (343, .inl (2, gB))] h9 := KN.of (by intro q hq; simp only [List.mem_cons, List.not_mem_nil, or_false] at hq; rcases hq with rfl | rfl | rfl | rfl | rfl <;> assumption)
          clear q0 q3 q4 q29 qB hk9
          have qT0 := qT
          clear qT
          rw [hrn9]
          clear hrn9
          show j_V jP _ 114 77 [(3, .ref 327), (2, .int 1), (0, .ref 0), (1, .int (nI e))] [] h9 _
          refine j_V.one xl_M xl_77 (by decide) (pc' := 78) (st' := [.ref 0]) rfl ?_
          refine j_V.getK xl_M xl_78 (ci := 9) (j := 2) rfl K rfl rfl ?_
          refine j_V.one xl_M xl_81 (by decide) (pc' := 82) (st' := [.ref 0, .ref 4]) rfl ?_
          refine j_V.getK xl_M xl_82 (ci := 9) (j := 6) rfl K rfl rfl ?_
          refine j_V.call xl_M xl_85 rfl (md := 3) (mj := 59) rfl (by decide) xlb_M (As := [.ref 4, .ref 343]) (rest := []) (jk_spl3 (K.at (a := 4) rfl) rfl rfl rfl (Nat.le_of_ble_eq_true rfl) (Nat.le_of_ble_eq_true rfl)) (jv_void rfl rfl (jv_V xl_N rfl)) ?_
          rintro r h9 ⟨hk9, hrn9⟩
          have q0 := hk9.all (xd_N9 (Or.inl rfl)) (K.at (a := 0) rfl)
          have q3 := hk9.all (xd_N9 (Or.inr rfl)) (K.at (a := 3) rfl)
          obtain ⟨g4, q4, -, -⟩ := hk9 4 7 _ (K.at (a := 4) rfl)
          obtain ⟨g29, q29, -, -⟩ := hk9 29 0 _ (K.at (a := 29) rfl)
          obtain ⟨gB, qB, -, qT⟩ := hk9 343 2 _ (K.at (a := 343) rfl)
          have qT : gB[5]? = some (.int (nI R.2.2.2.1)) := (qT 5 rfl).trans qT0
          have K : KN h9 [(0, .inl (9, [.ref 1, .ref 3, .ref 4, .ref 29, (u 4), (u 5), .ref 343, .ref 327, (u 8)])), (3, .inl (4, [.ref 1, .ref 343, .int R.1.1, .int R.1.2])), (4, .inl (7, g4)), (29, .inl (0, g29)), (343, .inl (2, gB))] h9 := KN.of (by intro q hq; simp only [List.mem_cons, List.not_mem_nil, or_false] at hq; rcases hq with rfl | rfl | rfl | rfl | rfl <;> assumption)
          clear q0 q3 q4 q29 qB hk9
          have qT0 := qT
          clear qT
          rw [hrn9]
          clear hrn9
          show j_V jP _ 114 88 [(3, .ref 327), (2, .int 1), (0, .ref 0), (1, .int (nI e))] [] h9 _
          refine j_V.one xl_M xl_88 (by decide) (pc' := 89) (st' := [.ref 0]) rfl ?_
          refine j_V.getK xl_M xl_89 (ci := 9) (j := 3) rfl K rfl rfl ?_
          refine j_V.call xl_M xl_92 rfl (md := 3) (mj := 1) rfl (by decide) xlc_M (As := [.ref 29]) (rest := []) (jk_spl3 (K.at (a := 29) rfl) rfl rfl rfl (Nat.le_of_ble_eq_true rfl) (Nat.le_of_ble_eq_true rfl)) (jv_void rfl rfl (jv_V xl_N rfl)) ?_
          rintro r h9 ⟨hk9, hrn9⟩
          have q0 := hk9.all (xd_N9 (Or.inl rfl)) (K.at (a := 0) rfl)
          have q3 := hk9.all (xd_N9 (Or.inr rfl)) (K.at (a := 3) rfl)
          obtain ⟨g4, q4, -, -⟩ := hk9 4 7 _ (K.at (a := 4) rfl)
          obtain ⟨g29, q29, -, -⟩ := hk9 29 0 _ (K.at (a := 29) rfl)
          obtain ⟨gB, qB, -, qT⟩ := hk9 343 2 _ (K.at (a := 343) rfl)
          have qT : gB[5]? = some (.int (nI R.2.2.2.1)) := (qT 5 rfl).trans qT0
          have K : KN h9 [(0, .inl (9, [.ref 1, .ref 3, .ref 4, .ref 29, (u 4), (u 5), .ref 343, .ref 327, (u 8)])), (3, .inl (4, [.ref 1, .ref 343, .int R.1.1, .int R.1.2])), (4, .inl (7, g4)), (29, .inl (0, g29)), (343, .inl (2, gB))] h9 := KN.of (by intro q hq; simp only [List.mem_cons, List.not_mem_nil, or_false] at hq; rcases hq with rfl | rfl | rfl | rfl | rfl <;> assumption)
          clear q0 q3 q4 q29 qB hk9
          have qT0 := qT
          clear qT
          rw [hrn9]
          clear hrn9
          show j_V jP _ 114 95 [(3, .ref 327), (2, .int 1), (0, .ref 0), (1, .int (nI e))] [] h9 _
          refine j_V.one xl_M xl_95 (by decide) (pc' := 96) (st' := [.ref 0]) rfl ?_
          refine j_V.one xl_M xl_96 (by decide) (pc' := 97) (st' := [.ref 0, .ref 0]) rfl ?_
          refine j_V.getK xl_M xl_97 (ci := 9) (j := 6) rfl K rfl rfl ?_
          refine j_V.getK xl_M xl_100 (ci := 2) (j := 5) rfl K rfl qT0 ?_
          have K : ∃ h0, KN h9 [(0, .inl (9, [.ref 1, .ref 3, .ref 4, .ref 29, (u 4), (u 5), .ref 343, .ref 327, (u 8)])), (3, .inl (4, [.ref 1, .ref 343, .int R.1.1, .int R.1.2])), (4, .inl (7, g4)), (29, .inl (0, g29)), (343, .inl (2, gB))] h0 := ⟨_, K⟩
          obtain ⟨h0, K⟩ := K
          refine j_V.call xl_M xl_103 rfl (md := 3) (mj := 159) rfl (by decide) xk_M (As := [.ref 0, .int (nI R.2.2.2.1)]) (rest := []) (jk_spl3 (K.at rfl) rfl rfl rfl (Nat.le_of_ble_eq_true rfl) (Nat.le_of_ble_eq_true rfl)) (j_W.toV (xk_ok (v := fun j => [.ref 1, .ref 3, .ref 4, .ref 29, (u 4), (u 5), .ref 343, .ref 327, (u 8)].getD j .null) (K.sub ⟨rfl, trivial⟩))) ?_
          rintro r h9 ⟨rfl, K9⟩
          have K : KN h9 [(0, .inl (9, [.ref 1, .ref 3, .ref 4, .ref 29, (u 4), (u 5), .ref 343, .ref 327, .int 0])), (3, .inl (4, [.ref 1, .ref 343, .int R.1.1, .int R.1.2])), (4, .inl (7, g4)), (29, .inl (0, g29)), (343, .inl (2, gB))] h0 := K.go K9 rfl rfl rfl
          clear K9
          show j_V jP _ 114 106 [(3, .ref 327), (2, .int 1), (0, .ref 0), (1, .int (nI e))] [.int (nI R.2.2.2.1)] h9 _
          refine j_V.ret xl_M xl_106 rfl rfl ⟨⟨?_, ?_⟩, Or.inl ⟨hz9, rfl⟩⟩
          · rw [jc_at_of (K.at (a := 3) rfl)]; rfl
          · rw [jc_at_of (K.at (a := 3) rfl)]; rfl
        · exact absurd c (by decide)
      · rw [if_neg hz9]
        show j_V jP _ 114 42 [(2, .int 0), (0, .ref 0), (1, .int (nI e))] [.int 0] h9 _
        refine j_V.ifc xl_M xl_42 (t := 52) rfl (fun c => ?_) (fun c => ?_)
        · exact absurd c (by decide)
        · clear c
          refine j_V.one xl_M xl_45 (by decide) (pc' := 46) (st' := [.ref 0]) rfl ?_
          refine j_V.one xl_M xl_46 (by decide) (pc' := 48) (st' := [.int 9, .ref 0]) rfl ?_
          refine j_V.call xl_M xl_48 rfl (md := 3) (mj := 161) rfl (by decide) xj_M (As := [.ref 0, .int 9]) (rest := []) (jk_spl3 (K.at rfl) rfl rfl rfl (Nat.le_of_ble_eq_true rfl) (Nat.le_of_ble_eq_true rfl)) (j_W.toV (xj_ok (v := fun j => [.ref 1, .ref 3, .ref 4, .ref 29, (u 4), (u 5), .ref 327, .ref 343, (u 8)].getD j .null) (K.sub ⟨rfl, trivial⟩))) ?_
          rintro r h9 ⟨rfl, K9⟩
          have K : KN h9 [(0, .inl (9, [.ref 1, .ref 3, .ref 4, .ref 29, (u 4), (u 5), .ref 327, .ref 343, .int 9])), (1, .inl (8, [.ref 2, .int 0, .int (nI e), .int (nI R.2.1.1), .int R.2.1.2.1, .int R.2.1.2.2.1, .long R.2.1.2.2.2.1, .int R.2.1.2.2.2.2])), (2, .inr (.inl (1, l))), (3, .inl (4, [.ref 1, .ref 343, .int R.1.1, .int R.1.2])), (343, .inl (2, [.int (nI R.2.2.1.1), .ref 344, .ref 345, .ref 346, .ref 347, .int (nI R.2.2.2.1), .ref 348, .ref 349, .ref 350, .ref 351, .ref 352, .ref 353, .ref 354, .int ce, .ref 355, .ref 356, .ref 357, .ref 358])), (344, .inr (.inr (.inl R.2.2.1.2.1))), (345, .inr (.inl (0, R.2.2.1.2.2.1))), (346, .inr (.inl (0, R.2.2.1.2.2.2.1))), (347, .inr (.inl (0, R.2.2.1.2.2.2.2))), (348, .inr (.inr (.inl R.2.2.2.2.1))), (349, .inr (.inl (0, R.2.2.2.2.2.1))), (350, .inr (.inl (0, R.2.2.2.2.2.2.1))), (351, .inr (.inl (0, R.2.2.2.2.2.2.2.1))), (352, .inr (.inl (0, R.2.2.2.2.2.2.2.2.1))), (353, .inr (.inl (0, R.2.2.2.2.2.2.2.2.2.1))), (354, .inr (.inl (0, R.2.2.2.2.2.2.2.2.2.2))), (4, .inl (7, f4)), (29, .inl (0, f29))] h0 := K.go K9 rfl rfl rfl
          clear K9
          show j_V jP _ 114 51 [(2, .int 0), (0, .ref 0), (1, .int (nI e))] [.int (-1)] h9 _
          refine j_V.ret xl_M xl_51 rfl rfl ⟨⟨?_, ?_⟩, Or.inr ⟨hz9, rfl⟩⟩
          · rw [jc_at_of (K.at (a := 3) rfl)]; rfl
          · rw [jc_at_of (K.at (a := 3) rfl)]; rfl
    · exfalso; rw [jk_le] at c; have c := of_decide_eq_false c; rw [nI_toInt (by omega), nI_toInt (by omega)] at c; omega

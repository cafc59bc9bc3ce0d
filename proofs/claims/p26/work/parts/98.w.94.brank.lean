/-! the class's rank (state 4, layout 343), by wip/px/gen_w1.py -/
set_option maxRecDepth 100000 in
theorem xbrr_M : j_meth jP 16 = some (yX1_readRank, cX1_readRank, 7, (some .boolean), 2, false, 1) := rfl
set_option maxRecDepth 100000 in
theorem xbrr_0 : j_code jP 16 0 = some (.iload_n 1) := rfl
set_option maxRecDepth 100000 in
theorem xbrr_1 : j_code jP 16 1 = some (.ifCond .ge 5) := rfl
set_option maxRecDepth 100000 in
theorem xbrr_4 : j_code jP 16 4 = some (.iconst 0) := rfl
set_option maxRecDepth 100000 in
theorem xbrr_5 : j_code jP 16 5 = some (.ireturn) := rfl
set_option maxRecDepth 100000 in
theorem xbrr_6 : j_code jP 16 6 = some (.aload_n 0) := rfl
set_option maxRecDepth 100000 in
theorem xbrr_7 : j_code jP 16 7 = some (.getfield 31) := rfl
set_option maxRecDepth 100000 in
theorem xbrr_10 : j_code jP 16 10 = some (.iconst 0) := rfl
set_option maxRecDepth 100000 in
theorem xbrr_11 : j_code jP 16 11 = some (.invokestatic 87) := rfl
set_option maxRecDepth 100000 in
theorem xbrr_14 : j_code jP 16 14 = some (.iconst 0) := rfl
set_option maxRecDepth 100000 in
theorem xbrr_15 : j_code jP 16 15 = some (.istore_n 3) := rfl
set_option maxRecDepth 100000 in
theorem xbrr_16 : j_code jP 16 16 = some (.iload_n 1) := rfl
set_option maxRecDepth 100000 in
theorem xbrr_17 : j_code jP 16 17 = some (.istore 4) := rfl
set_option maxRecDepth 100000 in
theorem xbrr_19 : j_code jP 16 19 = some (.iload_n 2) := rfl
set_option maxRecDepth 100000 in
theorem xbrr_20 : j_code jP 16 20 = some (.iconst 1) := rfl
set_option maxRecDepth 100000 in
theorem xbrr_21 : j_code jP 16 21 = some (.isub) := rfl
set_option maxRecDepth 100000 in
theorem xbrr_22 : j_code jP 16 22 = some (.istore 5) := rfl
set_option maxRecDepth 100000 in
theorem xbrr_24 : j_code jP 16 24 = some (.iload 5) := rfl
set_option maxRecDepth 100000 in
theorem xbrr_26 : j_code jP 16 26 = some (.ifCond .lt 56) := rfl
set_option maxRecDepth 100000 in
theorem xbrr_29 : j_code jP 16 29 = some (.iload 4) := rfl
set_option maxRecDepth 100000 in
theorem xbrr_31 : j_code jP 16 31 = some (.bipush 10) := rfl
set_option maxRecDepth 100000 in
theorem xbrr_33 : j_code jP 16 33 = some (.irem) := rfl
set_option maxRecDepth 100000 in
theorem xbrr_34 : j_code jP 16 34 = some (.istore 6) := rfl
set_option maxRecDepth 100000 in
theorem xbrr_36 : j_code jP 16 36 = some (.iload 6) := rfl
set_option maxRecDepth 100000 in
theorem xbrr_38 : j_code jP 16 38 = some (.iload_n 2) := rfl
set_option maxRecDepth 100000 in
theorem xbrr_39 : j_code jP 16 39 = some (.if_icmp .ge 12) := rfl
set_option maxRecDepth 100000 in
theorem xbrr_42 : j_code jP 16 42 = some (.iload_n 3) := rfl
set_option maxRecDepth 100000 in
theorem xbrr_43 : j_code jP 16 43 = some (.iload 6) := rfl
set_option maxRecDepth 100000 in
theorem xbrr_45 : j_code jP 16 45 = some (.ishr) := rfl
set_option maxRecDepth 100000 in
theorem xbrr_46 : j_code jP 16 46 = some (.iconst 1) := rfl
set_option maxRecDepth 100000 in
theorem xbrr_47 : j_code jP 16 47 = some (.iand) := rfl
set_option maxRecDepth 100000 in
theorem xbrr_48 : j_code jP 16 48 = some (.ifCond .eq 5) := rfl
set_option maxRecDepth 100000 in
theorem xbrr_51 : j_code jP 16 51 = some (.iconst 0) := rfl
set_option maxRecDepth 100000 in
theorem xbrr_52 : j_code jP 16 52 = some (.ireturn) := rfl
set_option maxRecDepth 100000 in
theorem xbrr_53 : j_code jP 16 53 = some (.iload_n 3) := rfl
set_option maxRecDepth 100000 in
theorem xbrr_54 : j_code jP 16 54 = some (.iconst 1) := rfl
set_option maxRecDepth 100000 in
theorem xbrr_55 : j_code jP 16 55 = some (.iload 6) := rfl
set_option maxRecDepth 100000 in
theorem xbrr_57 : j_code jP 16 57 = some (.ishl) := rfl
set_option maxRecDepth 100000 in
theorem xbrr_58 : j_code jP 16 58 = some (.ior) := rfl
set_option maxRecDepth 100000 in
theorem xbrr_59 : j_code jP 16 59 = some (.istore_n 3) := rfl
set_option maxRecDepth 100000 in
theorem xbrr_60 : j_code jP 16 60 = some (.aload_n 0) := rfl
set_option maxRecDepth 100000 in
theorem xbrr_61 : j_code jP 16 61 = some (.getfield 31) := rfl
set_option maxRecDepth 100000 in
theorem xbrr_64 : j_code jP 16 64 = some (.iload 5) := rfl
set_option maxRecDepth 100000 in
theorem xbrr_66 : j_code jP 16 66 = some (.iload 6) := rfl
set_option maxRecDepth 100000 in
theorem xbrr_68 : j_code jP 16 68 = some (.iastore) := rfl
set_option maxRecDepth 100000 in
theorem xbrr_69 : j_code jP 16 69 = some (.iload 4) := rfl
set_option maxRecDepth 100000 in
theorem xbrr_71 : j_code jP 16 71 = some (.bipush 10) := rfl
set_option maxRecDepth 100000 in
theorem xbrr_73 : j_code jP 16 73 = some (.idiv) := rfl
set_option maxRecDepth 100000 in
theorem xbrr_74 : j_code jP 16 74 = some (.istore 4) := rfl
set_option maxRecDepth 100000 in
theorem xbrr_76 : j_code jP 16 76 = some (.iinc 5 (-1)) := rfl
set_option maxRecDepth 100000 in
theorem xbrr_79 : j_code jP 16 79 = some (.goto (-55)) := rfl
set_option maxRecDepth 100000 in
theorem xbrr_82 : j_code jP 16 82 = some (.iload 4) := rfl
set_option maxRecDepth 100000 in
theorem xbrr_84 : j_code jP 16 84 = some (.ifCond .ne 7) := rfl
set_option maxRecDepth 100000 in
theorem xbrr_87 : j_code jP 16 87 = some (.iconst 1) := rfl
set_option maxRecDepth 100000 in
theorem xbrr_88 : j_code jP 16 88 = some (.goto 4) := rfl
set_option maxRecDepth 100000 in
theorem xbrr_91 : j_code jP 16 91 = some (.iconst 0) := rfl
set_option maxRecDepth 100000 in
theorem xbrr_92 : j_code jP 16 92 = some (.ireturn) := rfl
set_option maxRecDepth 1000000 in
theorem xbrr_ok_l24 {d : Nat} {h0 : J_H} {x1 x2 : Int32} {Q : Option Value → J_H → Prop} : ∀ (f : Nat) (v3 v4 v5 : Int32) (bst : List Int32) {lv : J_L} {h : J_H}, v5.toInt < (f : Int) → LK lv [(0, .ref 281), (1, .int x1), (2, .int x2), (3, .int v3), (4, .int v4), (5, .int v5)] → KN h [(281, .inl (1, [.ref 282, .ref 307, .ref 323, .ref 324])), (324, .inr (.inl (0, bst)))] h0 → (∀ lv h, (x_rkl x2 f v3 v4 v5 bst).1 = 0 → LK lv [(0, .ref 281)] → KN h [(281, .inl (1, [.ref 282, .ref 307, .ref 323, .ref 324])), (324, .inr (.inl (0, (x_rkl x2 f v3 v4 v5 bst).2.2)))] h0 → j_V jP d 16 51 lv [] h Q) → (∀ lv h, (x_rkl x2 f v3 v4 v5 bst).1 = 1 → LK lv [(4, .int (x_rkl x2 f v3 v4 v5 bst).2.1)] → KN h [(281, .inl (1, [.ref 282, .ref 307, .ref 323, .ref 324])), (324, .inr (.inl (0, (x_rkl x2 f v3 v4 v5 bst).2.2)))] h0 → j_V jP d 16 82 lv [] h Q) → j_V jP d 16 24 lv [] h Q := by
  intro f
  induction f with
  | zero =>
    intro v3 v4 v5 bst lv h e L K k0 k1
    refine j_V.ldL xbrr_M xbrr_24 rfl (i := 5) (kd := 0) (v := .int v5) (pcJ := 26) rfl L rfl rfl rfl ?_
    refine j_V.ifc xbrr_M xbrr_26 (t := 82) rfl (fun c26_0 => ?_) (fun c26_0 => ?_)
    · replace c26_0 : v5 < 0 := jd_lt c26_0
      rw [show (x_rkl x2 0 v3 v4 v5 bst) = _ from (rfl)] at k1
      exact k1 _ _ rfl (L.sub ⟨rfl, trivial⟩) K
    · replace c26_0 : ¬ (v5 < 0) := jd_ltn c26_0
      exact absurd (m_dz e) c26_0
  | succ f ih =>
    intro v3 v4 v5 bst lv h e L K k0 k1
    refine j_V.ldL xbrr_M xbrr_24 rfl (i := 5) (kd := 0) (v := .int v5) (pcJ := 26) rfl L rfl rfl rfl ?_
    refine j_V.ifc xbrr_M xbrr_26 (t := 82) rfl (fun c26_0 => ?_) (fun c26_0 => ?_)
    · replace c26_0 : v5 < 0 := jd_lt c26_0
      rw [show (x_rkl x2 (f + 1) v3 v4 v5 bst) = _ from ((if_pos c26_0).trans (rfl))] at k1
      exact k1 _ _ rfl (L.sub ⟨rfl, trivial⟩) K
    · replace c26_0 : ¬ (v5 < 0) := jd_ltn c26_0
      refine j_V.ldL xbrr_M xbrr_29 rfl (i := 4) (kd := 0) (v := .int v4) (pcJ := 31) rfl L rfl rfl rfl ?_
      refine j_V.one xbrr_M xbrr_31 (by decide) (pcJ := 33) (stJ := [.int 10, .int v4]) rfl ?_
      refine j_V.one xbrr_M xbrr_33 (by decide) (pcJ := 34) (stJ := [.int (v4 - v4 / 10 * 10)]) rfl ?_
      refine j_V.stL xbrr_M xbrr_34 rfl (i := 6) (kd := 0) (kl' := [(0, .ref 281), (1, .int x1), (2, .int x2), (3, .int v3), (4, .int v4), (5, .int v5), (6, .int (v4 - v4 / 10 * 10))]) (pcJ := 36) rfl L rfl (by decide) rfl rfl rfl (fun lv L => ?_)
      refine j_V.ldL xbrr_M xbrr_36 rfl (i := 6) (kd := 0) (v := .int (v4 - v4 / 10 * 10)) (pcJ := 38) rfl L rfl rfl rfl ?_
      refine j_V.ldL xbrr_M xbrr_38 rfl (i := 2) (kd := 0) (v := .int x2) (pcJ := 39) rfl L rfl rfl rfl ?_
      refine j_V.icmp xbrr_M xbrr_39 (t := 51) rfl (fun c39_1 => ?_) (fun c39_1 => ?_)
      · replace c39_1 : ¬ ((v4 - v4 / 10 * 10) < x2) := jd_ge c39_1
        rw [show (x_rkl x2 (f + 1) v3 v4 v5 bst) = _ from ((if_neg c26_0).trans ((if_neg c39_1).trans (rfl)))] at k0
        exact k0 _ _ rfl (L.sub ⟨rfl, trivial⟩) K
      · replace c39_1 : (v4 - v4 / 10 * 10) < x2 := jd_gen c39_1
        refine j_V.ldL xbrr_M xbrr_42 rfl (i := 3) (kd := 0) (v := .int v3) (pcJ := 43) rfl L rfl rfl rfl ?_
        refine j_V.ldL xbrr_M xbrr_43 rfl (i := 6) (kd := 0) (v := .int (v4 - v4 / 10 * 10)) (pcJ := 45) rfl L rfl rfl rfl ?_
        refine j_V.one xbrr_M xbrr_45 (by decide) (pcJ := 46) (stJ := [.int (v3 >>> ((v4 - v4 / 10 * 10) &&& 31))]) rfl ?_
        refine j_V.one xbrr_M xbrr_46 (by decide) (pcJ := 47) (stJ := [.int 1, .int (v3 >>> ((v4 - v4 / 10 * 10) &&& 31))]) rfl ?_
        refine j_V.one xbrr_M xbrr_47 (by decide) (pcJ := 48) (stJ := [.int ((v3 >>> ((v4 - v4 / 10 * 10) &&& 31)) &&& 1)]) rfl ?_
        refine j_V.ifc xbrr_M xbrr_48 (t := 53) rfl (fun c48_2 => ?_) (fun c48_2 => ?_)
        · replace c48_2 : ((v3 >>> ((v4 - v4 / 10 * 10) &&& 31)) &&& 1) = 0 := jd_eq c48_2
          refine j_V.ldL xbrr_M xbrr_53 rfl (i := 3) (kd := 0) (v := .int v3) (pcJ := 54) rfl L rfl rfl rfl ?_
          refine j_V.one xbrr_M xbrr_54 (by decide) (pcJ := 55) (stJ := [.int 1, .int v3]) rfl ?_
          refine j_V.ldL xbrr_M xbrr_55 rfl (i := 6) (kd := 0) (v := .int (v4 - v4 / 10 * 10)) (pcJ := 57) rfl L rfl rfl rfl ?_
          refine j_V.one xbrr_M xbrr_57 (by decide) (pcJ := 58) (stJ := [.int (1 <<< ((v4 - v4 / 10 * 10) &&& 31)), .int v3]) rfl ?_
          refine j_V.one xbrr_M xbrr_58 (by decide) (pcJ := 59) (stJ := [.int (v3 ||| (1 <<< ((v4 - v4 / 10 * 10) &&& 31)))]) rfl ?_
          refine j_V.stL xbrr_M xbrr_59 rfl (i := 3) (kd := 0) (kl' := [(0, .ref 281), (1, .int x1), (2, .int x2), (3, .int (v3 ||| (1 <<< ((v4 - v4 / 10 * 10) &&& 31)))), (4, .int v4), (5, .int v5), (6, .int (v4 - v4 / 10 * 10))]) (pcJ := 60) rfl L rfl (by decide) rfl rfl rfl (fun lv L => ?_)
          refine j_V.ldL xbrr_M xbrr_60 rfl (i := 0) (kd := 2) (v := .ref 281) (pcJ := 61) rfl L rfl rfl rfl ?_
          refine j_V.getK xbrr_M xbrr_61 (ci := 1) (j := 3) rfl K rfl rfl ?_
          refine j_V.ldL xbrr_M xbrr_64 rfl (i := 5) (kd := 0) (v := .int v5) (pcJ := 66) rfl L rfl rfl rfl ?_
          refine j_V.ldL xbrr_M xbrr_66 rfl (i := 6) (kd := 0) (v := .int (v4 - v4 / 10 * 10)) (pcJ := 68) rfl L rfl rfl rfl ?_
          refine j_V.isA xbrr_M xbrr_68 (k' := [(281, .inl (1, [.ref 282, .ref 307, .ref 323, .ref 324])), (324, .inr (.inl (0, (sA bst v5 (v4 - v4 / 10 * 10)))))]) K rfl rfl (fun h K => ?_)
          refine j_V.ldL xbrr_M xbrr_69 rfl (i := 4) (kd := 0) (v := .int v4) (pcJ := 71) rfl L rfl rfl rfl ?_
          refine j_V.one xbrr_M xbrr_71 (by decide) (pcJ := 73) (stJ := [.int 10, .int v4]) rfl ?_
          refine j_V.one xbrr_M xbrr_73 (by decide) (pcJ := 74) (stJ := [.int (v4 / 10)]) rfl ?_
          refine j_V.stL xbrr_M xbrr_74 rfl (i := 4) (kd := 0) (kl' := [(0, .ref 281), (1, .int x1), (2, .int x2), (3, .int (v3 ||| (1 <<< ((v4 - v4 / 10 * 10) &&& 31)))), (4, .int (v4 / 10)), (5, .int v5), (6, .int (v4 - v4 / 10 * 10))]) (pcJ := 76) rfl L rfl (by decide) rfl rfl rfl (fun lv L => ?_)
          refine j_V.inL xbrr_M xbrr_76 (i := 5) (kl' := [(0, .ref 281), (1, .int x1), (2, .int x2), (3, .int (v3 ||| (1 <<< ((v4 - v4 / 10 * 10) &&& 31)))), (4, .int (v4 / 10)), (5, .int (v5 + (-1))), (6, .int (v4 - v4 / 10 * 10))]) (pcJ := 79) L rfl rfl rfl rfl (fun lv L => ?_)
          refine j_V.gto xbrr_M xbrr_79 (t := 24) rfl ?_
          rw [show (x_rkl x2 (f + 1) v3 v4 v5 bst) = (x_rkl x2 f (v3 ||| (1 <<< ((v4 - v4 / 10 * 10) &&& 31))) (v4 / 10) (v5 + (-1)) (sA bst v5 (v4 - v4 / 10 * 10))) from (if_neg c26_0).trans ((if_pos c39_1).trans ((if_pos c48_2).trans (rfl)))] at k0 k1
          exact ih _ _ _ _ (m_dn e c26_0) (L.sub ⟨rfl, rfl, rfl, rfl, rfl, rfl, trivial⟩) K k0 k1
        · replace c48_2 : ¬ (((v3 >>> ((v4 - v4 / 10 * 10) &&& 31)) &&& 1) = 0) := jd_eqn c48_2
          rw [show (x_rkl x2 (f + 1) v3 v4 v5 bst) = _ from ((if_neg c26_0).trans ((if_pos c39_1).trans ((if_neg c48_2).trans (rfl))))] at k0
          exact k0 _ _ rfl (L.sub ⟨rfl, trivial⟩) K
set_option maxRecDepth 1000000 in
theorem xbrr_ok {bst : List Int32} {x1 x2 : Int32} {d : Nat} {h h0 : J_H} (hx2 : (x2 - 1).toInt < ((5 : Nat) : Int)) (K : KN h [(281, .inl (1, [.ref 282, .ref 307, .ref 323, .ref 324])), (324, .inr (.inl (0, bst)))] h0) : j_V jP d 16 0 (lv_args 0 [.ref 281, .int x1, .int x2]) [] h (fun rv h' => rv = some (.int (x_readRank bst x1 x2).1) ∧ KN h' [(281, .inl (1, [.ref 282, .ref 307, .ref 323, .ref 324])), (324, .inr (.inl (0, (x_readRank bst x1 x2).2)))] h0) := by
  show j_V jP d 16 0 [(0, .ref 281), (1, .int x1), (2, .int x2)] [] h _
  obtain ⟨lv, elv, L⟩ : ∃ lv, lv = [(0, .ref 281), (1, .int x1), (2, .int x2)] ∧ LK lv [(0, .ref 281), (1, .int x1), (2, .int x2)] := ⟨_, rfl, LK.rf⟩
  rw [← elv]
  clear elv
  refine j_V.ldL xbrr_M xbrr_0 rfl (i := 1) (kd := 0) (v := .int x1) (pcJ := 1) rfl L rfl rfl rfl ?_
  refine j_V.ifc xbrr_M xbrr_1 (t := 6) rfl (fun c1_0 => ?_) (fun c1_0 => ?_)
  · replace c1_0 : ¬ (x1 < 0) := jd_ge c1_0
    refine j_V.ldL xbrr_M xbrr_6 rfl (i := 0) (kd := 2) (v := .ref 281) (pcJ := 7) rfl L rfl rfl rfl ?_
    refine j_V.getK xbrr_M xbrr_7 (ci := 1) (j := 3) rfl K rfl rfl ?_
    refine j_V.one xbrr_M xbrr_10 (by decide) (pcJ := 11) (stJ := [.int 0, .ref 324]) rfl ?_
    refine j_V.fil rfl xbrr_M xbrr_11 rfl rfl (Nat.le_of_ble_eq_true rfl) K rfl rfl (fun h K => ?_)
    refine j_V.one xbrr_M xbrr_14 (by decide) (pcJ := 15) (stJ := [.int 0]) rfl ?_
    refine j_V.stL xbrr_M xbrr_15 rfl (i := 3) (kd := 0) (kl' := [(0, .ref 281), (1, .int x1), (2, .int x2), (3, .int 0)]) (pcJ := 16) rfl L rfl (by decide) rfl rfl rfl (fun lv L => ?_)
    refine j_V.ldL xbrr_M xbrr_16 rfl (i := 1) (kd := 0) (v := .int x1) (pcJ := 17) rfl L rfl rfl rfl ?_
    refine j_V.stL xbrr_M xbrr_17 rfl (i := 4) (kd := 0) (kl' := [(0, .ref 281), (1, .int x1), (2, .int x2), (3, .int 0), (4, .int x1)]) (pcJ := 19) rfl L rfl (by decide) rfl rfl rfl (fun lv L => ?_)
    refine j_V.ldL xbrr_M xbrr_19 rfl (i := 2) (kd := 0) (v := .int x2) (pcJ := 20) rfl L rfl rfl rfl ?_
    refine j_V.one xbrr_M xbrr_20 (by decide) (pcJ := 21) (stJ := [.int 1, .int x2]) rfl ?_
    refine j_V.one xbrr_M xbrr_21 (by decide) (pcJ := 22) (stJ := [.int (x2 - 1)]) rfl ?_
    refine j_V.stL xbrr_M xbrr_22 rfl (i := 5) (kd := 0) (kl' := [(0, .ref 281), (1, .int x1), (2, .int x2), (3, .int 0), (4, .int x1), (5, .int (x2 - 1))]) (pcJ := 24) rfl L rfl (by decide) rfl rfl rfl (fun lv L => ?_)
    refine xbrr_ok_l24 5 _ _ _ _ hx2 L K (fun lv h e0 L K => ?_) (fun lv h e0 L K => ?_)
    · refine j_V.one xbrr_M xbrr_51 (by decide) (pcJ := 52) (stJ := [.int 0]) rfl ?_
      refine j_V.ri xbrr_M xbrr_52 ?_
      rw [show (x_readRank bst x1 x2) = _ from ((if_neg c1_0).trans ((if_pos e0).trans (rfl)))]
      exact ⟨rfl, K⟩
    · have e9 : ¬ (x_rkl x2 5 0 x1 (x2 - 1) (fL 0 bst)).1 = 0 := by rw [e0]; decide
      refine j_V.ldL xbrr_M xbrr_82 rfl (i := 4) (kd := 0) (v := .int ((x_rkl x2 5 0 x1 (x2 - 1) (fL 0 bst)).2.1)) (pcJ := 84) rfl L rfl rfl rfl ?_
      refine j_V.cut (b := 92) (stJ := [.int ((if ((x_rkl x2 5 0 x1 (x2 - 1) (fL 0 bst)).2.1) = 0 then 1 else 0) : Int32)]) (fun v => [(4, .int ((x_rkl x2 5 0 x1 (x2 - 1) (fL 0 bst)).2.1))]) ((if ((x_rkl x2 5 0 x1 (x2 - 1) (fL 0 bst)).2.1) = 0 then 1 else 0) : Int32) (fun Q kk => ?_) (fun lv L => ?_)
      · refine j_V.ifc xbrr_M xbrr_84 (t := 91) rfl (fun c84_0 => ?_) (fun c84_0 => ?_)
        · replace c84_0 : ¬ (((x_rkl x2 5 0 x1 (x2 - 1) (fL 0 bst)).2.1) = 0) := jd_ne c84_0
          refine j_V.one xbrr_M xbrr_91 (by decide) (pcJ := 92) (stJ := [.int 0]) rfl ?_
          exact Eq.subst (motive := fun z => j_V jP _ 16 92 _ (.int z :: []) h Q) (show ((if ((x_rkl x2 5 0 x1 (x2 - 1) (fL 0 bst)).2.1) = 0 then 1 else 0) : Int32) = 0 from (if_neg c84_0).trans (rfl)) (kk _ L)
        · replace c84_0 : ((x_rkl x2 5 0 x1 (x2 - 1) (fL 0 bst)).2.1) = 0 := jd_nen c84_0
          refine j_V.one xbrr_M xbrr_87 (by decide) (pcJ := 88) (stJ := [.int 1]) rfl ?_
          refine j_V.gto xbrr_M xbrr_88 (t := 92) rfl ?_
          exact Eq.subst (motive := fun z => j_V jP _ 16 92 _ (.int z :: []) h Q) (show ((if ((x_rkl x2 5 0 x1 (x2 - 1) (fL 0 bst)).2.1) = 0 then 1 else 0) : Int32) = 1 from (if_pos c84_0).trans (rfl)) (kk _ L)
      refine j_V.ri xbrr_M xbrr_92 ?_
      rw [show (x_readRank bst x1 x2) = _ from ((if_neg c1_0).trans ((if_neg e9).trans (rfl)))]
      exact ⟨rfl, K⟩
  · replace c1_0 : x1 < 0 := jd_gen c1_0
    refine j_V.one xbrr_M xbrr_4 (by decide) (pcJ := 5) (stJ := [.int 0]) rfl ?_
    refine j_V.ri xbrr_M xbrr_5 ?_
    rw [show (x_readRank bst x1 x2) = _ from ((if_pos c1_0).trans (rfl))]
    exact ⟨rfl, K⟩
set_option maxRecDepth 100000 in
theorem xb83_M : j_meth jP 75 = some (yX7_sameInRank, cX7_sameInRank, 4, (some .int), 1, false, 7) := rfl
set_option maxRecDepth 100000 in
theorem xb83_0 : j_code jP 75 0 = some (.iconst 0) := rfl
set_option maxRecDepth 100000 in
theorem xb83_1 : j_code jP 75 1 = some (.istore_n 2) := rfl
set_option maxRecDepth 100000 in
theorem xb83_2 : j_code jP 75 2 = some (.iconst 0) := rfl
set_option maxRecDepth 100000 in
theorem xb83_3 : j_code jP 75 3 = some (.istore_n 3) := rfl
set_option maxRecDepth 100000 in
theorem xb83_4 : j_code jP 75 4 = some (.iload_n 3) := rfl
set_option maxRecDepth 100000 in
theorem xb83_5 : j_code jP 75 5 = some (.aload_n 0) := rfl
set_option maxRecDepth 100000 in
theorem xb83_6 : j_code jP 75 6 = some (.getfield 64) := rfl
set_option maxRecDepth 100000 in
theorem xb83_9 : j_code jP 75 9 = some (.getfield 102) := rfl
set_option maxRecDepth 100000 in
theorem xb83_12 : j_code jP 75 12 = some (.if_icmp .ge 30) := rfl
set_option maxRecDepth 100000 in
theorem xb83_15 : j_code jP 75 15 = some (.iload_n 3) := rfl
set_option maxRecDepth 100000 in
theorem xb83_16 : j_code jP 75 16 = some (.aload_n 1) := rfl
set_option maxRecDepth 100000 in
theorem xb83_17 : j_code jP 75 17 = some (.arraylength) := rfl
set_option maxRecDepth 100000 in
theorem xb83_18 : j_code jP 75 18 = some (.if_icmp .ge 24) := rfl
set_option maxRecDepth 100000 in
theorem xb83_21 : j_code jP 75 21 = some (.aload_n 0) := rfl
set_option maxRecDepth 100000 in
theorem xb83_22 : j_code jP 75 22 = some (.getfield 9) := rfl
set_option maxRecDepth 100000 in
theorem xb83_25 : j_code jP 75 25 = some (.iload_n 3) := rfl
set_option maxRecDepth 100000 in
theorem xb83_26 : j_code jP 75 26 = some (.iaload) := rfl
set_option maxRecDepth 100000 in
theorem xb83_27 : j_code jP 75 27 = some (.aload_n 1) := rfl
set_option maxRecDepth 100000 in
theorem xb83_28 : j_code jP 75 28 = some (.iload_n 3) := rfl
set_option maxRecDepth 100000 in
theorem xb83_29 : j_code jP 75 29 = some (.iaload) := rfl
set_option maxRecDepth 100000 in
theorem xb83_30 : j_code jP 75 30 = some (.if_icmp .ne 6) := rfl
set_option maxRecDepth 100000 in
theorem xb83_33 : j_code jP 75 33 = some (.iinc 2 1) := rfl
set_option maxRecDepth 100000 in
theorem xb83_36 : j_code jP 75 36 = some (.iinc 3 1) := rfl
set_option maxRecDepth 100000 in
theorem xb83_39 : j_code jP 75 39 = some (.goto (-35)) := rfl
set_option maxRecDepth 100000 in
theorem xb83_42 : j_code jP 75 42 = some (.iload_n 2) := rfl
set_option maxRecDepth 100000 in
theorem xb83_43 : j_code jP 75 43 = some (.ireturn) := rfl
set_option maxRecDepth 1000000 in
theorem xb83_ok_l4 {mi : Int32} {shu : Int32} {bus : Int32} {lks : Int32} {rk : List Int32} {ns : Int32} {nt : Int32} {cel : Int32} {bst : List Int32} {d : Nat} {h h0 : J_H} : ∀ (f : Nat) (v3 v2 : Int32) {lv : J_L}, lpN nt v3 = f → LK lv [(0, .ref 4), (1, .ref 324), (2, .int v2), (3, .int v3)] → KN h [(4, .inl (7, [.ref 343, .int mi, .int shu, .int bus, .ref 5, .ref 6, .ref 7, .ref 8, .ref 9, .ref 10, .ref 11, .ref 12, .ref 13, .ref 14, .ref 15, .int lks, .ref 16, .ref 17, .ref 20])), (5, .inr (.inl (0, rk))), (324, .inr (.inl (0, bst))), (343, .inl (2, [.int ns, .ref 344, .ref 345, .ref 346, .ref 347, .int nt, .ref 348, .ref 349, .ref 350, .ref 351, .ref 352, .ref 353, .ref 354, .int cel, .ref 355, .ref 356, .ref 357, .ref 358]))] h0 → j_V jP d 75 4 lv [] h (fun rv h' => rv = some (.int (x_sameInRank_l4 rk bst f v3 v2)) ∧ h' = h) := by
  intro f
  induction f with
  | zero =>
    intro v3 v2 lv e L K
    refine j_V.ldL xb83_M xb83_4 rfl (i := 3) (kd := 0) (v := .int v3) (pcJ := 5) rfl L rfl rfl rfl ?_
    refine j_V.ldL xb83_M xb83_5 rfl (i := 0) (kd := 2) (v := .ref 4) (pcJ := 6) rfl L rfl rfl rfl ?_
    refine j_V.getK xb83_M xb83_6 (ci := 7) (j := 0) rfl K rfl rfl ?_
    refine j_V.getK xb83_M xb83_9 (ci := 2) (j := 5) rfl K rfl rfl ?_
    refine j_V.icmp xb83_M xb83_12 (t := 42) rfl (fun c12_0 => ?_) (fun c12_0 => ?_)
    · replace c12_0 : ¬ (v3 < nt) := jd_ge c12_0
      refine j_V.ldL xb83_M xb83_42 rfl (i := 2) (kd := 0) (v := .int v2) (pcJ := 43) rfl L rfl rfl rfl ?_
      exact j_V.ri xb83_M xb83_43 ⟨congrArg (fun z => some (Value.int z)) (Eq.symm (show (x_sameInRank_l4 rk bst 0 v3 v2) = v2 from rfl)), rfl⟩
    · replace c12_0 : v3 < nt := jd_gen c12_0
      exact absurd c12_0 (lpN_z e)
  | succ f ih =>
    intro v3 v2 lv e L K
    refine j_V.ldL xb83_M xb83_4 rfl (i := 3) (kd := 0) (v := .int v3) (pcJ := 5) rfl L rfl rfl rfl ?_
    refine j_V.ldL xb83_M xb83_5 rfl (i := 0) (kd := 2) (v := .ref 4) (pcJ := 6) rfl L rfl rfl rfl ?_
    refine j_V.getK xb83_M xb83_6 (ci := 7) (j := 0) rfl K rfl rfl ?_
    refine j_V.getK xb83_M xb83_9 (ci := 2) (j := 5) rfl K rfl rfl ?_
    refine j_V.icmp xb83_M xb83_12 (t := 42) rfl (fun c12_0 => ?_) (fun c12_0 => ?_)
    · replace c12_0 : ¬ (v3 < nt) := jd_ge c12_0
      exact absurd (lpN_s e) c12_0
    · replace c12_0 : v3 < nt := jd_gen c12_0
      refine j_V.ldL xb83_M xb83_15 rfl (i := 3) (kd := 0) (v := .int v3) (pcJ := 16) rfl L rfl rfl rfl ?_
      refine j_V.ldL xb83_M xb83_16 rfl (i := 1) (kd := 2) (v := .ref 324) (pcJ := 17) rfl L rfl rfl rfl ?_
      refine j_V.alnA xb83_M xb83_17 K rfl ?_
      refine j_V.icmp xb83_M xb83_18 (t := 42) rfl (fun c18_0 => ?_) (fun c18_0 => ?_)
      · replace c18_0 : ¬ (v3 < (nI bst.length)) := jd_ge c18_0
        refine j_V.ldL xb83_M xb83_42 rfl (i := 2) (kd := 0) (v := .int v2) (pcJ := 43) rfl L rfl rfl rfl ?_
        exact j_V.ri xb83_M xb83_43 ⟨congrArg (fun z => some (Value.int z)) (Eq.symm (show (x_sameInRank_l4 rk bst (f + 1) v3 v2) = v2 from (if_neg c18_0).trans (rfl))), rfl⟩
      · replace c18_0 : v3 < (nI bst.length) := jd_gen c18_0
        refine j_V.ldL xb83_M xb83_21 rfl (i := 0) (kd := 2) (v := .ref 4) (pcJ := 22) rfl L rfl rfl rfl ?_
        refine j_V.getK xb83_M xb83_22 (ci := 7) (j := 4) rfl K rfl rfl ?_
        refine j_V.ldL xb83_M xb83_25 rfl (i := 3) (kd := 0) (v := .int v3) (pcJ := 26) rfl L rfl rfl rfl ?_
        refine j_V.iaA xb83_M xb83_26 K rfl ?_
        refine j_V.ldL xb83_M xb83_27 rfl (i := 1) (kd := 2) (v := .ref 324) (pcJ := 28) rfl L rfl rfl rfl ?_
        refine j_V.ldL xb83_M xb83_28 rfl (i := 3) (kd := 0) (v := .int v3) (pcJ := 29) rfl L rfl rfl rfl ?_
        refine j_V.iaA xb83_M xb83_29 K rfl ?_
        refine j_V.cut (b := 36) (stJ := []) (fun v => [(0, .ref 4), (1, .ref 324), (2, .int v), (3, .int v3)]) ((if (gA rk v3) = (gA bst v3) then (v2 + 1) else v2) : Int32) (fun Q kk => ?_) (fun lv L => ?_)
        · refine j_V.icmp xb83_M xb83_30 (t := 36) rfl (fun c30_0 => ?_) (fun c30_0 => ?_)
          · replace c30_0 : ¬ ((gA rk v3) = (gA bst v3)) := jd_ne c30_0
            exact kk _ (Eq.subst (motive := fun z => LK _ ((fun v => [(0, .ref 4), (1, .ref 324), (2, .int v), (3, .int v3)]) z)) (show v2 = ((if (gA rk v3) = (gA bst v3) then (v2 + 1) else v2) : Int32) from Eq.symm ((if_neg c30_0).trans (rfl))) L)
          · replace c30_0 : (gA rk v3) = (gA bst v3) := jd_nen c30_0
            refine j_V.inL xb83_M xb83_33 (i := 2) (kl' := [(0, .ref 4), (1, .ref 324), (2, .int (v2 + 1)), (3, .int v3)]) (pcJ := 36) L rfl rfl rfl rfl (fun lv L => ?_)
            exact kk _ (Eq.subst (motive := fun z => LK _ ((fun v => [(0, .ref 4), (1, .ref 324), (2, .int v), (3, .int v3)]) z)) (show (v2 + 1) = ((if (gA rk v3) = (gA bst v3) then (v2 + 1) else v2) : Int32) from Eq.symm ((if_pos c30_0).trans (rfl))) L)
        refine j_V.inL xb83_M xb83_36 (i := 3) (kl' := [(0, .ref 4), (1, .ref 324), (2, .int ((if (gA rk v3) = (gA bst v3) then (v2 + 1) else v2) : Int32)), (3, .int (v3 + 1))]) (pcJ := 39) L rfl rfl rfl rfl (fun lv L => ?_)
        refine j_V.gto xb83_M xb83_39 (t := 4) rfl ?_
        refine j_V.mono (ih ((v3 + 1)) (((if (gA rk v3) = (gA bst v3) then (v2 + 1) else v2) : Int32)) (lpN_n e) L K) ?_
        rintro r hz ⟨rfl, rfl⟩
        exact ⟨congrArg (fun z => some (Value.int z)) (Eq.symm (show (x_sameInRank_l4 rk bst (f + 1) v3 v2) = (x_sameInRank_l4 rk bst f ((v3 + 1)) (((if (gA rk v3) = (gA bst v3) then (v2 + 1) else v2) : Int32))) from (if_pos c18_0).trans (rfl))), rfl⟩
set_option maxRecDepth 1000000 in
theorem xb83_ok {mi : Int32} {shu : Int32} {bus : Int32} {lks : Int32} {rk : List Int32} {ns : Int32} {nt : Int32} {cel : Int32} {bst : List Int32} {d : Nat} {h h0 : J_H} (K : KN h [(4, .inl (7, [.ref 343, .int mi, .int shu, .int bus, .ref 5, .ref 6, .ref 7, .ref 8, .ref 9, .ref 10, .ref 11, .ref 12, .ref 13, .ref 14, .ref 15, .int lks, .ref 16, .ref 17, .ref 20])), (5, .inr (.inl (0, rk))), (324, .inr (.inl (0, bst))), (343, .inl (2, [.int ns, .ref 344, .ref 345, .ref 346, .ref 347, .int nt, .ref 348, .ref 349, .ref 350, .ref 351, .ref 352, .ref 353, .ref 354, .int cel, .ref 355, .ref 356, .ref 357, .ref 358]))] h0) : j_V jP d 75 0 (lv_args 0 [.ref 4, .ref 324]) [] h (fun rv h' => rv = some (.int (x_sameInRank rk nt bst)) ∧ h' = h) := by
  show j_V jP d 75 0 [(0, .ref 4), (1, .ref 324)] [] h _
  obtain ⟨lv, elv, L⟩ : ∃ lv, lv = [(0, .ref 4), (1, .ref 324)] ∧ LK lv [(0, .ref 4), (1, .ref 324)] := ⟨_, rfl, LK.rf⟩
  rw [← elv]
  clear elv
  refine j_V.one xb83_M xb83_0 (by decide) (pcJ := 1) (stJ := [.int 0]) rfl ?_
  refine j_V.stL xb83_M xb83_1 rfl (i := 2) (kd := 0) (kl' := [(0, .ref 4), (1, .ref 324), (2, .int 0)]) (pcJ := 2) rfl L rfl (by decide) rfl rfl rfl (fun lv L => ?_)
  refine j_V.one xb83_M xb83_2 (by decide) (pcJ := 3) (stJ := [.int 0]) rfl ?_
  refine j_V.stL xb83_M xb83_3 rfl (i := 3) (kd := 0) (kl' := [(0, .ref 4), (1, .ref 324), (2, .int 0), (3, .int 0)]) (pcJ := 4) rfl L rfl (by decide) rfl rfl rfl (fun lv L => ?_)
  refine j_V.mono (xb83_ok_l4 _ (0) (0) rfl L K) ?_
  rintro r hz ⟨rfl, rfl⟩
  exact ⟨congrArg (fun z => some (Value.int z)) (Eq.symm (show (x_sameInRank rk nt bst) = (x_sameInRank_l4 rk bst (lpN nt 0) 0 0) from rfl)), rfl⟩
set_option maxRecDepth 100000 in
theorem xbk1_M : j_meth jP 152 = some (yX9_rank, cX9_rank, 3, (some .int), 1, false, 9) := rfl
set_option maxRecDepth 100000 in
theorem xbk1_0 : j_code jP 152 0 = some (.aload_n 0) := rfl
set_option maxRecDepth 100000 in
theorem xbk1_1 : j_code jP 152 1 = some (.getfield 44) := rfl
set_option maxRecDepth 100000 in
theorem xbk1_4 : j_code jP 152 4 = some (.iload_n 1) := rfl
set_option maxRecDepth 100000 in
theorem xbk1_5 : j_code jP 152 5 = some (.aload_n 0) := rfl
set_option maxRecDepth 100000 in
theorem xbk1_6 : j_code jP 152 6 = some (.getfield 58) := rfl
set_option maxRecDepth 100000 in
theorem xbk1_9 : j_code jP 152 9 = some (.getfield 101) := rfl
set_option maxRecDepth 100000 in
theorem xbk1_12 : j_code jP 152 12 = some (.invokevirtual 368) := rfl
set_option maxRecDepth 100000 in
theorem xbk1_15 : j_code jP 152 15 = some (.ifCond .ne 9) := rfl
set_option maxRecDepth 100000 in
theorem xbk1_18 : j_code jP 152 18 = some (.aload_n 0) := rfl
set_option maxRecDepth 100000 in
theorem xbk1_19 : j_code jP 152 19 = some (.iconst 1) := rfl
set_option maxRecDepth 100000 in
theorem xbk1_20 : j_code jP 152 20 = some (.invokevirtual 84) := rfl
set_option maxRecDepth 100000 in
theorem xbk1_23 : j_code jP 152 23 = some (.ireturn) := rfl
set_option maxRecDepth 100000 in
theorem xbk1_24 : j_code jP 152 24 = some (.aload_n 0) := rfl
set_option maxRecDepth 100000 in
theorem xbk1_25 : j_code jP 152 25 = some (.getfield 30) := rfl
set_option maxRecDepth 100000 in
theorem xbk1_28 : j_code jP 152 28 = some (.aload_n 0) := rfl
set_option maxRecDepth 100000 in
theorem xbk1_29 : j_code jP 152 29 = some (.getfield 44) := rfl
set_option maxRecDepth 100000 in
theorem xbk1_32 : j_code jP 152 32 = some (.getfield 335) := rfl
set_option maxRecDepth 100000 in
theorem xbk1_35 : j_code jP 152 35 = some (.invokevirtual 371) := rfl
set_option maxRecDepth 100000 in
theorem xbk1_38 : j_code jP 152 38 = some (.istore_n 2) := rfl
set_option maxRecDepth 100000 in
theorem xbk1_39 : j_code jP 152 39 = some (.iload_n 2) := rfl
set_option maxRecDepth 100000 in
theorem xbk1_40 : j_code jP 152 40 = some (.aload_n 0) := rfl
set_option maxRecDepth 100000 in
theorem xbk1_41 : j_code jP 152 41 = some (.getfield 58) := rfl
set_option maxRecDepth 100000 in
theorem xbk1_44 : j_code jP 152 44 = some (.getfield 101) := rfl
set_option maxRecDepth 100000 in
theorem xbk1_47 : j_code jP 152 47 = some (.if_icmp .ne 9) := rfl
set_option maxRecDepth 100000 in
theorem xbk1_50 : j_code jP 152 50 = some (.aload_n 0) := rfl
set_option maxRecDepth 100000 in
theorem xbk1_51 : j_code jP 152 51 = some (.iconst 4) := rfl
set_option maxRecDepth 100000 in
theorem xbk1_52 : j_code jP 152 52 = some (.invokevirtual 84) := rfl
set_option maxRecDepth 100000 in
theorem xbk1_55 : j_code jP 152 55 = some (.ireturn) := rfl
set_option maxRecDepth 100000 in
theorem xbk1_56 : j_code jP 152 56 = some (.aload_n 0) := rfl
set_option maxRecDepth 100000 in
theorem xbk1_57 : j_code jP 152 57 = some (.getfield 37) := rfl
set_option maxRecDepth 100000 in
theorem xbk1_60 : j_code jP 152 60 = some (.aload_n 0) := rfl
set_option maxRecDepth 100000 in
theorem xbk1_61 : j_code jP 152 61 = some (.getfield 30) := rfl
set_option maxRecDepth 100000 in
theorem xbk1_64 : j_code jP 152 64 = some (.invokevirtual 357) := rfl
set_option maxRecDepth 100000 in
theorem xbk1_67 : j_code jP 152 67 = some (.aload_n 0) := rfl
set_option maxRecDepth 100000 in
theorem xbk1_68 : j_code jP 152 68 = some (.getfield 44) := rfl
set_option maxRecDepth 100000 in
theorem xbk1_71 : j_code jP 152 71 = some (.getfield 335) := rfl
set_option maxRecDepth 100000 in
theorem xbk1_74 : j_code jP 152 74 = some (.iconst 0) := rfl
set_option maxRecDepth 100000 in
theorem xbk1_75 : j_code jP 152 75 = some (.aload_n 0) := rfl
set_option maxRecDepth 100000 in
theorem xbk1_76 : j_code jP 152 76 = some (.getfield 30) := rfl
set_option maxRecDepth 100000 in
theorem xbk1_79 : j_code jP 152 79 = some (.getfield 375) := rfl
set_option maxRecDepth 100000 in
theorem xbk1_82 : j_code jP 152 82 = some (.iconst 0) := rfl
set_option maxRecDepth 100000 in
theorem xbk1_83 : j_code jP 152 83 = some (.iconst 5) := rfl
set_option maxRecDepth 100000 in
theorem xbk1_84 : j_code jP 152 84 = some (.invokestatic 378) := rfl
set_option maxRecDepth 100000 in
theorem xbk1_87 : j_code jP 152 87 = some (.aload_n 0) := rfl
set_option maxRecDepth 100000 in
theorem xbk1_88 : j_code jP 152 88 = some (.iload_n 2) := rfl
set_option maxRecDepth 100000 in
theorem xbk1_89 : j_code jP 152 89 = some (.invokevirtual 104) := rfl
set_option maxRecDepth 100000 in
theorem xbk1_92 : j_code jP 152 92 = some (.ireturn) := rfl
set_option maxRecDepth 1000000 in
theorem xbk1_ok {ns : Int32} {nt : Int32} {cel : Int32} {sst : Int32} {bst : List Int32} {x1 : Int32} {d : Nat} {h h0 : J_H} (hx2 : (nt - 1).toInt < ((5 : Nat) : Int)) (c1 : (((x_readRank bst x1 nt).1) = 0)) (K : KN h [(0, .inl (9, [.ref 1, .ref 3, .ref 4, .ref 29, .ref 281, .ref 325, .ref 343, .ref 327, .int sst])), (281, .inl (1, [.ref 282, .ref 307, .ref 323, .ref 324])), (324, .inr (.inl (0, bst))), (343, .inl (2, [.int ns, .ref 344, .ref 345, .ref 346, .ref 347, .int nt, .ref 348, .ref 349, .ref 350, .ref 351, .ref 352, .ref 353, .ref 354, .int cel, .ref 355, .ref 356, .ref 357, .ref 358]))] h0) : j_V jP d 152 0 (lv_args 0 [.ref 0, .int x1]) [] h (fun rv h' => ∃ z0 : Int32 × Int32, z0 = (x_qrefuse sst 1) ∧ rv = some (.int ((x_qrefuse sst 1).1)) ∧ KN h' [(0, .inl (9, [.ref 1, .ref 3, .ref 4, .ref 29, .ref 281, .ref 325, .ref 343, .ref 327, .int (z0.2)])), (281, .inl (1, [.ref 282, .ref 307, .ref 323, .ref 324])), (324, .inr (.inl (0, ((x_readRank bst x1 nt).2)))), (343, .inl (2, [.int ns, .ref 344, .ref 345, .ref 346, .ref 347, .int nt, .ref 348, .ref 349, .ref 350, .ref 351, .ref 352, .ref 353, .ref 354, .int cel, .ref 355, .ref 356, .ref 357, .ref 358]))] h0) := by
  show j_V jP d 152 0 [(0, .ref 0), (1, .int x1)] [] h _
  obtain ⟨lv, elv, L⟩ : ∃ lv, lv = [(0, .ref 0), (1, .int x1)] ∧ LK lv [(0, .ref 0), (1, .int x1)] := ⟨_, rfl, LK.rf⟩
  rw [← elv]
  clear elv
  refine j_V.ldL xbk1_M xbk1_0 rfl (i := 0) (kd := 2) (v := .ref 0) (pcJ := 1) rfl L rfl rfl rfl ?_
  refine j_V.getK xbk1_M xbk1_1 (ci := 9) (j := 4) rfl K rfl rfl ?_
  refine j_V.ldL xbk1_M xbk1_4 rfl (i := 1) (kd := 0) (v := .int x1) (pcJ := 5) rfl L rfl rfl rfl ?_
  refine j_V.ldL xbk1_M xbk1_5 rfl (i := 0) (kd := 2) (v := .ref 0) (pcJ := 6) rfl L rfl rfl rfl ?_
  refine j_V.getK xbk1_M xbk1_6 (ci := 9) (j := 6) rfl K rfl rfl ?_
  refine j_V.getK xbk1_M xbk1_9 (ci := 2) (j := 5) rfl K rfl rfl ?_
  refine j_V.cl xbk1_M xbk1_12 rfl (md := 3) (mj := 16) rfl (by decide) xbrr_M (As := [.ref 281, .int x1, .int nt]) (rest := []) (jk_spl3 (K.at rfl) rfl rfl rfl (Nat.le_of_ble_eq_true rfl) (Nat.le_of_ble_eq_true rfl)) (fun d => xbrr_ok hx2 (K.fi [281, 324] rfl rfl)) ?_
  rintro r h9 ⟨rfl, K9⟩
  have K : KN h9 [(0, .inl (9, [.ref 1, .ref 3, .ref 4, .ref 29, .ref 281, .ref 325, .ref 343, .ref 327, .int sst])), (281, .inl (1, [.ref 282, .ref 307, .ref 323, .ref 324])), (324, .inr (.inl (0, ((x_readRank bst x1 nt).2)))), (343, .inl (2, [.int ns, .ref 344, .ref 345, .ref 346, .ref 347, .int nt, .ref 348, .ref 349, .ref 350, .ref 351, .ref 352, .ref 353, .ref 354, .int cel, .ref 355, .ref 356, .ref 357, .ref 358]))] h0 := K.mg K9 rfl rfl
  clear K9
  show j_V jP _ 152 15 lv [.int ((x_readRank bst x1 nt).1)] h9 _
  refine j_V.ifc xbk1_M xbk1_15 (t := 24) rfl (fun c15_0 => ?_) (fun c15_0 => ?_)
  · replace c15_0 : ¬ (((x_readRank bst x1 nt).1) = 0) := jd_ne c15_0
    exact absurd c1 c15_0
  · replace c15_0 : ((x_readRank bst x1 nt).1) = 0 := jd_nen c15_0
    refine j_V.ldL xbk1_M xbk1_18 rfl (i := 0) (kd := 2) (v := .ref 0) (pcJ := 19) rfl L rfl rfl rfl ?_
    refine j_V.one xbk1_M xbk1_19 (by decide) (pcJ := 20) (stJ := [.int 1, .ref 0]) rfl ?_
    refine j_V.cl xbk1_M xbk1_20 rfl (md := 3) (mj := 161) rfl (by decide) xb50_M (As := [.ref 0, .int 1]) (rest := []) (jk_spl3 (K.at rfl) rfl rfl rfl (Nat.le_of_ble_eq_true rfl) (Nat.le_of_ble_eq_true rfl)) (fun d => xb50_ok (K.fi [0] rfl rfl)) ?_
    rintro r h9 ⟨rfl, K9⟩
    obtain ⟨z0, ez0⟩ : ∃ z : Int32 × Int32, z = (x_qrefuse sst 1) := ⟨_, rfl⟩
    rw [← ez0] at K9
    have K : KN h9 [(0, .inl (9, [.ref 1, .ref 3, .ref 4, .ref 29, .ref 281, .ref 325, .ref 343, .ref 327, .int (z0.2)])), (281, .inl (1, [.ref 282, .ref 307, .ref 323, .ref 324])), (324, .inr (.inl (0, ((x_readRank bst x1 nt).2)))), (343, .inl (2, [.int ns, .ref 344, .ref 345, .ref 346, .ref 347, .int nt, .ref 348, .ref 349, .ref 350, .ref 351, .ref 352, .ref 353, .ref 354, .int cel, .ref 355, .ref 356, .ref 357, .ref 358]))] h0 := K.mg K9 rfl rfl
    clear K9
    show j_V jP _ 152 23 lv [.int ((x_qrefuse sst 1).1)] h9 _
    refine j_V.ri xbk1_M xbk1_23 ?_
    exact ⟨_, ez0, rfl, K⟩
set_option maxRecDepth 100000 in
theorem xbk2_M : j_meth jP 152 = some (yX9_rank, cX9_rank, 3, (some .int), 1, false, 9) := rfl
set_option maxRecDepth 100000 in
theorem xbk2_0 : j_code jP 152 0 = some (.aload_n 0) := rfl
set_option maxRecDepth 100000 in
theorem xbk2_1 : j_code jP 152 1 = some (.getfield 44) := rfl
set_option maxRecDepth 100000 in
theorem xbk2_4 : j_code jP 152 4 = some (.iload_n 1) := rfl
set_option maxRecDepth 100000 in
theorem xbk2_5 : j_code jP 152 5 = some (.aload_n 0) := rfl
set_option maxRecDepth 100000 in
theorem xbk2_6 : j_code jP 152 6 = some (.getfield 58) := rfl
set_option maxRecDepth 100000 in
theorem xbk2_9 : j_code jP 152 9 = some (.getfield 101) := rfl
set_option maxRecDepth 100000 in
theorem xbk2_12 : j_code jP 152 12 = some (.invokevirtual 368) := rfl
set_option maxRecDepth 100000 in
theorem xbk2_15 : j_code jP 152 15 = some (.ifCond .ne 9) := rfl
set_option maxRecDepth 100000 in
theorem xbk2_18 : j_code jP 152 18 = some (.aload_n 0) := rfl
set_option maxRecDepth 100000 in
theorem xbk2_19 : j_code jP 152 19 = some (.iconst 1) := rfl
set_option maxRecDepth 100000 in
theorem xbk2_20 : j_code jP 152 20 = some (.invokevirtual 84) := rfl
set_option maxRecDepth 100000 in
theorem xbk2_23 : j_code jP 152 23 = some (.ireturn) := rfl
set_option maxRecDepth 100000 in
theorem xbk2_24 : j_code jP 152 24 = some (.aload_n 0) := rfl
set_option maxRecDepth 100000 in
theorem xbk2_25 : j_code jP 152 25 = some (.getfield 30) := rfl
set_option maxRecDepth 100000 in
theorem xbk2_28 : j_code jP 152 28 = some (.aload_n 0) := rfl
set_option maxRecDepth 100000 in
theorem xbk2_29 : j_code jP 152 29 = some (.getfield 44) := rfl
set_option maxRecDepth 100000 in
theorem xbk2_32 : j_code jP 152 32 = some (.getfield 335) := rfl
set_option maxRecDepth 100000 in
theorem xbk2_35 : j_code jP 152 35 = some (.invokevirtual 371) := rfl
set_option maxRecDepth 100000 in
theorem xbk2_38 : j_code jP 152 38 = some (.istore_n 2) := rfl
set_option maxRecDepth 100000 in
theorem xbk2_39 : j_code jP 152 39 = some (.iload_n 2) := rfl
set_option maxRecDepth 100000 in
theorem xbk2_40 : j_code jP 152 40 = some (.aload_n 0) := rfl
set_option maxRecDepth 100000 in
theorem xbk2_41 : j_code jP 152 41 = some (.getfield 58) := rfl
set_option maxRecDepth 100000 in
theorem xbk2_44 : j_code jP 152 44 = some (.getfield 101) := rfl
set_option maxRecDepth 100000 in
theorem xbk2_47 : j_code jP 152 47 = some (.if_icmp .ne 9) := rfl
set_option maxRecDepth 100000 in
theorem xbk2_50 : j_code jP 152 50 = some (.aload_n 0) := rfl
set_option maxRecDepth 100000 in
theorem xbk2_51 : j_code jP 152 51 = some (.iconst 4) := rfl
set_option maxRecDepth 100000 in
theorem xbk2_52 : j_code jP 152 52 = some (.invokevirtual 84) := rfl
set_option maxRecDepth 100000 in
theorem xbk2_55 : j_code jP 152 55 = some (.ireturn) := rfl
set_option maxRecDepth 100000 in
theorem xbk2_56 : j_code jP 152 56 = some (.aload_n 0) := rfl
set_option maxRecDepth 100000 in
theorem xbk2_57 : j_code jP 152 57 = some (.getfield 37) := rfl
set_option maxRecDepth 100000 in
theorem xbk2_60 : j_code jP 152 60 = some (.aload_n 0) := rfl
set_option maxRecDepth 100000 in
theorem xbk2_61 : j_code jP 152 61 = some (.getfield 30) := rfl
set_option maxRecDepth 100000 in
theorem xbk2_64 : j_code jP 152 64 = some (.invokevirtual 357) := rfl
set_option maxRecDepth 100000 in
theorem xbk2_67 : j_code jP 152 67 = some (.aload_n 0) := rfl
set_option maxRecDepth 100000 in
theorem xbk2_68 : j_code jP 152 68 = some (.getfield 44) := rfl
set_option maxRecDepth 100000 in
theorem xbk2_71 : j_code jP 152 71 = some (.getfield 335) := rfl
set_option maxRecDepth 100000 in
theorem xbk2_74 : j_code jP 152 74 = some (.iconst 0) := rfl
set_option maxRecDepth 100000 in
theorem xbk2_75 : j_code jP 152 75 = some (.aload_n 0) := rfl
set_option maxRecDepth 100000 in
theorem xbk2_76 : j_code jP 152 76 = some (.getfield 30) := rfl
set_option maxRecDepth 100000 in
theorem xbk2_79 : j_code jP 152 79 = some (.getfield 375) := rfl
set_option maxRecDepth 100000 in
theorem xbk2_82 : j_code jP 152 82 = some (.iconst 0) := rfl
set_option maxRecDepth 100000 in
theorem xbk2_83 : j_code jP 152 83 = some (.iconst 5) := rfl
set_option maxRecDepth 100000 in
theorem xbk2_84 : j_code jP 152 84 = some (.invokestatic 378) := rfl
set_option maxRecDepth 100000 in
theorem xbk2_87 : j_code jP 152 87 = some (.aload_n 0) := rfl
set_option maxRecDepth 100000 in
theorem xbk2_88 : j_code jP 152 88 = some (.iload_n 2) := rfl
set_option maxRecDepth 100000 in
theorem xbk2_89 : j_code jP 152 89 = some (.invokevirtual 104) := rfl
set_option maxRecDepth 100000 in
theorem xbk2_92 : j_code jP 152 92 = some (.ireturn) := rfl
set_option maxRecDepth 1000000 in
theorem xbk2_ok {mi : Int32} {shu : Int32} {bus : Int32} {lks : Int32} {rk : List Int32} {ns : Int32} {nt : Int32} {cel : Int32} {sst : Int32} {bst : List Int32} {x1 : Int32} {d : Nat} {h h0 : J_H} (hx2 : (nt - 1).toInt < ((5 : Nat) : Int)) (c1 : ¬ (((x_readRank bst x1 nt).1) = 0)) (c2 : ((x_sameInRank rk nt ((x_readRank bst x1 nt).2)) = nt)) (K : KN h [(0, .inl (9, [.ref 1, .ref 3, .ref 4, .ref 29, .ref 281, .ref 325, .ref 343, .ref 327, .int sst])), (4, .inl (7, [.ref 343, .int mi, .int shu, .int bus, .ref 5, .ref 6, .ref 7, .ref 8, .ref 9, .ref 10, .ref 11, .ref 12, .ref 13, .ref 14, .ref 15, .int lks, .ref 16, .ref 17, .ref 20])), (5, .inr (.inl (0, rk))), (281, .inl (1, [.ref 282, .ref 307, .ref 323, .ref 324])), (324, .inr (.inl (0, bst))), (343, .inl (2, [.int ns, .ref 344, .ref 345, .ref 346, .ref 347, .int nt, .ref 348, .ref 349, .ref 350, .ref 351, .ref 352, .ref 353, .ref 354, .int cel, .ref 355, .ref 356, .ref 357, .ref 358]))] h0) : j_V jP d 152 0 (lv_args 0 [.ref 0, .int x1]) [] h (fun rv h' => ∃ z0 : Int32 × Int32, z0 = (x_qrefuse sst 4) ∧ rv = some (.int ((x_qrefuse sst 4).1)) ∧ KN h' [(0, .inl (9, [.ref 1, .ref 3, .ref 4, .ref 29, .ref 281, .ref 325, .ref 343, .ref 327, .int (z0.2)])), (4, .inl (7, [.ref 343, .int mi, .int shu, .int bus, .ref 5, .ref 6, .ref 7, .ref 8, .ref 9, .ref 10, .ref 11, .ref 12, .ref 13, .ref 14, .ref 15, .int lks, .ref 16, .ref 17, .ref 20])), (5, .inr (.inl (0, rk))), (281, .inl (1, [.ref 282, .ref 307, .ref 323, .ref 324])), (324, .inr (.inl (0, ((x_readRank bst x1 nt).2)))), (343, .inl (2, [.int ns, .ref 344, .ref 345, .ref 346, .ref 347, .int nt, .ref 348, .ref 349, .ref 350, .ref 351, .ref 352, .ref 353, .ref 354, .int cel, .ref 355, .ref 356, .ref 357, .ref 358]))] h0) := by
  show j_V jP d 152 0 [(0, .ref 0), (1, .int x1)] [] h _
  obtain ⟨lv, elv, L⟩ : ∃ lv, lv = [(0, .ref 0), (1, .int x1)] ∧ LK lv [(0, .ref 0), (1, .int x1)] := ⟨_, rfl, LK.rf⟩
  rw [← elv]
  clear elv
  refine j_V.ldL xbk2_M xbk2_0 rfl (i := 0) (kd := 2) (v := .ref 0) (pcJ := 1) rfl L rfl rfl rfl ?_
  refine j_V.getK xbk2_M xbk2_1 (ci := 9) (j := 4) rfl K rfl rfl ?_
  refine j_V.ldL xbk2_M xbk2_4 rfl (i := 1) (kd := 0) (v := .int x1) (pcJ := 5) rfl L rfl rfl rfl ?_
  refine j_V.ldL xbk2_M xbk2_5 rfl (i := 0) (kd := 2) (v := .ref 0) (pcJ := 6) rfl L rfl rfl rfl ?_
  refine j_V.getK xbk2_M xbk2_6 (ci := 9) (j := 6) rfl K rfl rfl ?_
  refine j_V.getK xbk2_M xbk2_9 (ci := 2) (j := 5) rfl K rfl rfl ?_
  refine j_V.cl xbk2_M xbk2_12 rfl (md := 3) (mj := 16) rfl (by decide) xbrr_M (As := [.ref 281, .int x1, .int nt]) (rest := []) (jk_spl3 (K.at rfl) rfl rfl rfl (Nat.le_of_ble_eq_true rfl) (Nat.le_of_ble_eq_true rfl)) (fun d => xbrr_ok hx2 (K.fi [281, 324] rfl rfl)) ?_
  rintro r h9 ⟨rfl, K9⟩
  have K : KN h9 [(0, .inl (9, [.ref 1, .ref 3, .ref 4, .ref 29, .ref 281, .ref 325, .ref 343, .ref 327, .int sst])), (4, .inl (7, [.ref 343, .int mi, .int shu, .int bus, .ref 5, .ref 6, .ref 7, .ref 8, .ref 9, .ref 10, .ref 11, .ref 12, .ref 13, .ref 14, .ref 15, .int lks, .ref 16, .ref 17, .ref 20])), (5, .inr (.inl (0, rk))), (281, .inl (1, [.ref 282, .ref 307, .ref 323, .ref 324])), (324, .inr (.inl (0, ((x_readRank bst x1 nt).2)))), (343, .inl (2, [.int ns, .ref 344, .ref 345, .ref 346, .ref 347, .int nt, .ref 348, .ref 349, .ref 350, .ref 351, .ref 352, .ref 353, .ref 354, .int cel, .ref 355, .ref 356, .ref 357, .ref 358]))] h0 := K.mg K9 rfl rfl
  clear K9
  show j_V jP _ 152 15 lv [.int ((x_readRank bst x1 nt).1)] h9 _
  refine j_V.ifc xbk2_M xbk2_15 (t := 24) rfl (fun c15_0 => ?_) (fun c15_0 => ?_)
  · replace c15_0 : ¬ (((x_readRank bst x1 nt).1) = 0) := jd_ne c15_0
    refine j_V.ldL xbk2_M xbk2_24 rfl (i := 0) (kd := 2) (v := .ref 0) (pcJ := 25) rfl L rfl rfl rfl ?_
    refine j_V.getK xbk2_M xbk2_25 (ci := 9) (j := 2) rfl K rfl rfl ?_
    refine j_V.ldL xbk2_M xbk2_28 rfl (i := 0) (kd := 2) (v := .ref 0) (pcJ := 29) rfl L rfl rfl rfl ?_
    refine j_V.getK xbk2_M xbk2_29 (ci := 9) (j := 4) rfl K rfl rfl ?_
    refine j_V.getK xbk2_M xbk2_32 (ci := 1) (j := 3) rfl K rfl rfl ?_
    refine j_V.cl xbk2_M xbk2_35 rfl (md := 3) (mj := 75) rfl (by decide) xb83_M (As := [.ref 4, .ref 324]) (rest := []) (jk_spl3 (K.at rfl) rfl rfl rfl (Nat.le_of_ble_eq_true rfl) (Nat.le_of_ble_eq_true rfl)) (fun d => xb83_ok (K.fi [4, 5, 324, 343] rfl rfl)) ?_
    rintro r hz ⟨rfl, ez⟩
    rw [ez]
    clear ez
    show j_V jP _ 152 38 lv [.int (x_sameInRank rk nt ((x_readRank bst x1 nt).2))] h9 _
    refine j_V.stL xbk2_M xbk2_38 rfl (i := 2) (kd := 0) (kl' := [(0, .ref 0), (1, .int x1), (2, .int (x_sameInRank rk nt ((x_readRank bst x1 nt).2)))]) (pcJ := 39) rfl L rfl (by decide) rfl rfl rfl (fun lv L => ?_)
    refine j_V.ldL xbk2_M xbk2_39 rfl (i := 2) (kd := 0) (v := .int (x_sameInRank rk nt ((x_readRank bst x1 nt).2))) (pcJ := 40) rfl L rfl rfl rfl ?_
    refine j_V.ldL xbk2_M xbk2_40 rfl (i := 0) (kd := 2) (v := .ref 0) (pcJ := 41) rfl L rfl rfl rfl ?_
    refine j_V.getK xbk2_M xbk2_41 (ci := 9) (j := 6) rfl K rfl rfl ?_
    refine j_V.getK xbk2_M xbk2_44 (ci := 2) (j := 5) rfl K rfl rfl ?_
    refine j_V.icmp xbk2_M xbk2_47 (t := 56) rfl (fun c47_0 => ?_) (fun c47_0 => ?_)
    · replace c47_0 : ¬ ((x_sameInRank rk nt ((x_readRank bst x1 nt).2)) = nt) := jd_ne c47_0
      exact absurd c2 c47_0
    · replace c47_0 : (x_sameInRank rk nt ((x_readRank bst x1 nt).2)) = nt := jd_nen c47_0
      refine j_V.ldL xbk2_M xbk2_50 rfl (i := 0) (kd := 2) (v := .ref 0) (pcJ := 51) rfl L rfl rfl rfl ?_
      refine j_V.one xbk2_M xbk2_51 (by decide) (pcJ := 52) (stJ := [.int 4, .ref 0]) rfl ?_
      refine j_V.cl xbk2_M xbk2_52 rfl (md := 3) (mj := 161) rfl (by decide) xb50_M (As := [.ref 0, .int 4]) (rest := []) (jk_spl3 (K.at rfl) rfl rfl rfl (Nat.le_of_ble_eq_true rfl) (Nat.le_of_ble_eq_true rfl)) (fun d => xb50_ok (K.fi [0] rfl rfl)) ?_
      rintro r h9 ⟨rfl, K9⟩
      obtain ⟨z0, ez0⟩ : ∃ z : Int32 × Int32, z = (x_qrefuse sst 4) := ⟨_, rfl⟩
      rw [← ez0] at K9
      have K : KN h9 [(0, .inl (9, [.ref 1, .ref 3, .ref 4, .ref 29, .ref 281, .ref 325, .ref 343, .ref 327, .int (z0.2)])), (4, .inl (7, [.ref 343, .int mi, .int shu, .int bus, .ref 5, .ref 6, .ref 7, .ref 8, .ref 9, .ref 10, .ref 11, .ref 12, .ref 13, .ref 14, .ref 15, .int lks, .ref 16, .ref 17, .ref 20])), (5, .inr (.inl (0, rk))), (281, .inl (1, [.ref 282, .ref 307, .ref 323, .ref 324])), (324, .inr (.inl (0, ((x_readRank bst x1 nt).2)))), (343, .inl (2, [.int ns, .ref 344, .ref 345, .ref 346, .ref 347, .int nt, .ref 348, .ref 349, .ref 350, .ref 351, .ref 352, .ref 353, .ref 354, .int cel, .ref 355, .ref 356, .ref 357, .ref 358]))] h0 := K.mg K9 rfl rfl
      clear K9
      show j_V jP _ 152 55 lv [.int ((x_qrefuse sst 4).1)] h9 _
      refine j_V.ri xbk2_M xbk2_55 ?_
      exact ⟨_, ez0, rfl, K⟩
  · replace c15_0 : ((x_readRank bst x1 nt).1) = 0 := jd_nen c15_0
    exact absurd c15_0 c1
set_option maxRecDepth 100000 in
theorem xbk3_M : j_meth jP 152 = some (yX9_rank, cX9_rank, 3, (some .int), 1, false, 9) := rfl
set_option maxRecDepth 100000 in
theorem xbk3_0 : j_code jP 152 0 = some (.aload_n 0) := rfl
set_option maxRecDepth 100000 in
theorem xbk3_1 : j_code jP 152 1 = some (.getfield 44) := rfl
set_option maxRecDepth 100000 in
theorem xbk3_4 : j_code jP 152 4 = some (.iload_n 1) := rfl
set_option maxRecDepth 100000 in
theorem xbk3_5 : j_code jP 152 5 = some (.aload_n 0) := rfl
set_option maxRecDepth 100000 in
theorem xbk3_6 : j_code jP 152 6 = some (.getfield 58) := rfl
set_option maxRecDepth 100000 in
theorem xbk3_9 : j_code jP 152 9 = some (.getfield 101) := rfl
set_option maxRecDepth 100000 in
theorem xbk3_12 : j_code jP 152 12 = some (.invokevirtual 368) := rfl
set_option maxRecDepth 100000 in
theorem xbk3_15 : j_code jP 152 15 = some (.ifCond .ne 9) := rfl
set_option maxRecDepth 100000 in
theorem xbk3_18 : j_code jP 152 18 = some (.aload_n 0) := rfl
set_option maxRecDepth 100000 in
theorem xbk3_19 : j_code jP 152 19 = some (.iconst 1) := rfl
set_option maxRecDepth 100000 in
theorem xbk3_20 : j_code jP 152 20 = some (.invokevirtual 84) := rfl
set_option maxRecDepth 100000 in
theorem xbk3_23 : j_code jP 152 23 = some (.ireturn) := rfl
set_option maxRecDepth 100000 in
theorem xbk3_24 : j_code jP 152 24 = some (.aload_n 0) := rfl
set_option maxRecDepth 100000 in
theorem xbk3_25 : j_code jP 152 25 = some (.getfield 30) := rfl
set_option maxRecDepth 100000 in
theorem xbk3_28 : j_code jP 152 28 = some (.aload_n 0) := rfl
set_option maxRecDepth 100000 in
theorem xbk3_29 : j_code jP 152 29 = some (.getfield 44) := rfl
set_option maxRecDepth 100000 in
theorem xbk3_32 : j_code jP 152 32 = some (.getfield 335) := rfl
set_option maxRecDepth 100000 in
theorem xbk3_35 : j_code jP 152 35 = some (.invokevirtual 371) := rfl
set_option maxRecDepth 100000 in
theorem xbk3_38 : j_code jP 152 38 = some (.istore_n 2) := rfl
set_option maxRecDepth 100000 in
theorem xbk3_39 : j_code jP 152 39 = some (.iload_n 2) := rfl
set_option maxRecDepth 100000 in
theorem xbk3_40 : j_code jP 152 40 = some (.aload_n 0) := rfl
set_option maxRecDepth 100000 in
theorem xbk3_41 : j_code jP 152 41 = some (.getfield 58) := rfl
set_option maxRecDepth 100000 in
theorem xbk3_44 : j_code jP 152 44 = some (.getfield 101) := rfl
set_option maxRecDepth 100000 in
theorem xbk3_47 : j_code jP 152 47 = some (.if_icmp .ne 9) := rfl
set_option maxRecDepth 100000 in
theorem xbk3_50 : j_code jP 152 50 = some (.aload_n 0) := rfl
set_option maxRecDepth 100000 in
theorem xbk3_51 : j_code jP 152 51 = some (.iconst 4) := rfl
set_option maxRecDepth 100000 in
theorem xbk3_52 : j_code jP 152 52 = some (.invokevirtual 84) := rfl
set_option maxRecDepth 100000 in
theorem xbk3_55 : j_code jP 152 55 = some (.ireturn) := rfl
set_option maxRecDepth 100000 in
theorem xbk3_56 : j_code jP 152 56 = some (.aload_n 0) := rfl
set_option maxRecDepth 100000 in
theorem xbk3_57 : j_code jP 152 57 = some (.getfield 37) := rfl
set_option maxRecDepth 100000 in
theorem xbk3_60 : j_code jP 152 60 = some (.aload_n 0) := rfl
set_option maxRecDepth 100000 in
theorem xbk3_61 : j_code jP 152 61 = some (.getfield 30) := rfl
set_option maxRecDepth 100000 in
theorem xbk3_64 : j_code jP 152 64 = some (.invokevirtual 357) := rfl
set_option maxRecDepth 100000 in
theorem xbk3_67 : j_code jP 152 67 = some (.aload_n 0) := rfl
set_option maxRecDepth 100000 in
theorem xbk3_68 : j_code jP 152 68 = some (.getfield 44) := rfl
set_option maxRecDepth 100000 in
theorem xbk3_71 : j_code jP 152 71 = some (.getfield 335) := rfl
set_option maxRecDepth 100000 in
theorem xbk3_74 : j_code jP 152 74 = some (.iconst 0) := rfl
set_option maxRecDepth 100000 in
theorem xbk3_75 : j_code jP 152 75 = some (.aload_n 0) := rfl
set_option maxRecDepth 100000 in
theorem xbk3_76 : j_code jP 152 76 = some (.getfield 30) := rfl
set_option maxRecDepth 100000 in
theorem xbk3_79 : j_code jP 152 79 = some (.getfield 375) := rfl
set_option maxRecDepth 100000 in
theorem xbk3_82 : j_code jP 152 82 = some (.iconst 0) := rfl
set_option maxRecDepth 100000 in
theorem xbk3_83 : j_code jP 152 83 = some (.iconst 5) := rfl
set_option maxRecDepth 100000 in
theorem xbk3_84 : j_code jP 152 84 = some (.invokestatic 378) := rfl
set_option maxRecDepth 100000 in
theorem xbk3_87 : j_code jP 152 87 = some (.aload_n 0) := rfl
set_option maxRecDepth 100000 in
theorem xbk3_88 : j_code jP 152 88 = some (.iload_n 2) := rfl
set_option maxRecDepth 100000 in
theorem xbk3_89 : j_code jP 152 89 = some (.invokevirtual 104) := rfl
set_option maxRecDepth 100000 in
theorem xbk3_92 : j_code jP 152 92 = some (.ireturn) := rfl
def xbk3_C (mi : Int32) (shu : Int32) (bus : Int32) (lks : Int32) (rk : List Int32) (ns : Int32) (nt : Int32) (cel : Int32) (sst : Int32) (acne : Int32) (acco : Int32) (bst : List Int32) (x1 : Int32) : jk_K := [(0, .inl (9, [.ref 1, .ref 3, .ref 4, .ref 29, .ref 281, .ref 325, .ref 343, .ref 327, .int sst])), (4, .inl (7, [.ref 343, .int mi, .int shu, .int bus, .ref 5, .ref 6, .ref 7, .ref 8, .ref 9, .ref 10, .ref 11, .ref 12, .ref 13, .ref 14, .ref 15, .int lks, .ref 16, .ref 17, .ref 20])), (5, .inr (.inl (0, rk))), (29, .inl (0, [.ref 30, .int acne, .int acco])), (281, .inl (1, [.ref 282, .ref 307, .ref 323, .ref 324])), (324, .inr (.inl (0, ((x_readRank bst x1 nt).2)))), (343, .inl (2, [.int ns, .ref 344, .ref 345, .ref 346, .ref 347, .int nt, .ref 348, .ref 349, .ref 350, .ref 351, .ref 352, .ref 353, .ref 354, .int cel, .ref 355, .ref 356, .ref 357, .ref 358]))]
def xbk3_D (mi : Int32) (shu : Int32) (bus : Int32) (lks : Int32) (rk : List Int32) (ns : Int32) (nt : Int32) (cel : Int32) (sst : Int32) (acne : Int32) (acco : Int32) (bst : List Int32) (x1 : Int32) : jk_K := [(0, .inl (9, [.ref 1, .ref 3, .ref 4, .ref 29, .ref 281, .ref 325, .ref 343, .ref 327, .int sst])), (4, .inl (7, [.ref 343, .int mi, .int shu, .int bus, .ref 5, .ref 6, .ref 7, .ref 8, .ref 9, .ref 10, .ref 11, .ref 12, .ref 13, .ref 14, .ref 15, .int lks, .ref 16, .ref 17, .ref 20])), (5, .inr (.inl (0, rk))), (281, .inl (1, [.ref 282, .ref 307, .ref 323, .ref 324])), (324, .inr (.inl (0, ((x_readRank bst x1 nt).2)))), (343, .inl (2, [.int ns, .ref 344, .ref 345, .ref 346, .ref 347, .int nt, .ref 348, .ref 349, .ref 350, .ref 351, .ref 352, .ref 353, .ref 354, .int cel, .ref 355, .ref 356, .ref 357, .ref 358]))]
set_option maxRecDepth 1000000 in
theorem xbk3_ok {mi : Int32} {shu : Int32} {bus : Int32} {lks : Int32} {rk : List Int32} {ns : Int32} {nt : Int32} {cel : Int32} {sst : Int32} {acne : Int32} {acco : Int32} {bst : List Int32} {x1 : Int32} {d : Nat} {h h0 : J_H} (hx2 : (nt - 1).toInt < ((5 : Nat) : Int)) (c1 : ¬ (((x_readRank bst x1 nt).1) = 0)) (c2 : ¬ ((x_sameInRank rk nt ((x_readRank bst x1 nt).2)) = nt)) {RM : J_H → J_H → Prop} (hR : ∀ d h1, KN h1 (xbk3_C mi shu bus lks rk ns nt cel sst acne acco bst x1) h0 → j_V jP d 2 0 (lv_args 0 [.ref 29, .ref 4]) [] h1 (fun rv h' => rv = none ∧ RM h1 h')) (hK : ∀ h1 h2, KN h1 (xbk3_C mi shu bus lks rk ns nt cel sst acne acco bst x1) h0 → RM h1 h2 → KN h2 (xbk3_D mi shu bus lks rk ns nt cel sst acne acco bst x1) h2) (K : KN h [(0, .inl (9, [.ref 1, .ref 3, .ref 4, .ref 29, .ref 281, .ref 325, .ref 343, .ref 327, .int sst])), (4, .inl (7, [.ref 343, .int mi, .int shu, .int bus, .ref 5, .ref 6, .ref 7, .ref 8, .ref 9, .ref 10, .ref 11, .ref 12, .ref 13, .ref 14, .ref 15, .int lks, .ref 16, .ref 17, .ref 20])), (5, .inr (.inl (0, rk))), (29, .inl (0, [.ref 30, .int acne, .int acco])), (281, .inl (1, [.ref 282, .ref 307, .ref 323, .ref 324])), (324, .inr (.inl (0, bst))), (343, .inl (2, [.int ns, .ref 344, .ref 345, .ref 346, .ref 347, .int nt, .ref 348, .ref 349, .ref 350, .ref 351, .ref 352, .ref 353, .ref 354, .int cel, .ref 355, .ref 356, .ref 357, .ref 358]))] h0) : j_V jP d 152 0 (lv_args 0 [.ref 0, .int x1]) [] h (fun rv h' => ∃ z0 : Int32 × Int32, z0 = (x_qanswer sst (x_sameInRank rk nt ((x_readRank bst x1 nt).2))) ∧ ∃ h1 h2 : J_H, KN h1 (xbk3_C mi shu bus lks rk ns nt cel sst acne acco bst x1) h0 ∧ RM h1 h2 ∧ rv = some (.int ((x_qanswer sst (x_sameInRank rk nt ((x_readRank bst x1 nt).2))).1)) ∧ KN h' [(0, .inl (9, [.ref 1, .ref 3, .ref 4, .ref 29, .ref 281, .ref 325, .ref 343, .ref 327, .int (z0.2)])), (4, .inl (7, [.ref 343, .int mi, .int shu, .int bus, .ref 5, .ref 6, .ref 7, .ref 8, .ref 9, .ref 10, .ref 11, .ref 12, .ref 13, .ref 14, .ref 15, .int lks, .ref 16, .ref 17, .ref 20])), (5, .inr (.inl (0, (aC 5 ((x_readRank bst x1 nt).2) rk)))), (281, .inl (1, [.ref 282, .ref 307, .ref 323, .ref 324])), (324, .inr (.inl (0, ((x_readRank bst x1 nt).2)))), (343, .inl (2, [.int ns, .ref 344, .ref 345, .ref 346, .ref 347, .int nt, .ref 348, .ref 349, .ref 350, .ref 351, .ref 352, .ref 353, .ref 354, .int cel, .ref 355, .ref 356, .ref 357, .ref 358]))] h2) := by
  show j_V jP d 152 0 [(0, .ref 0), (1, .int x1)] [] h _
  obtain ⟨lv, elv, L⟩ : ∃ lv, lv = [(0, .ref 0), (1, .int x1)] ∧ LK lv [(0, .ref 0), (1, .int x1)] := ⟨_, rfl, LK.rf⟩
  rw [← elv]
  clear elv
  refine j_V.ldL xbk3_M xbk3_0 rfl (i := 0) (kd := 2) (v := .ref 0) (pcJ := 1) rfl L rfl rfl rfl ?_
  refine j_V.getK xbk3_M xbk3_1 (ci := 9) (j := 4) rfl K rfl rfl ?_
  refine j_V.ldL xbk3_M xbk3_4 rfl (i := 1) (kd := 0) (v := .int x1) (pcJ := 5) rfl L rfl rfl rfl ?_
  refine j_V.ldL xbk3_M xbk3_5 rfl (i := 0) (kd := 2) (v := .ref 0) (pcJ := 6) rfl L rfl rfl rfl ?_
  refine j_V.getK xbk3_M xbk3_6 (ci := 9) (j := 6) rfl K rfl rfl ?_
  refine j_V.getK xbk3_M xbk3_9 (ci := 2) (j := 5) rfl K rfl rfl ?_
  refine j_V.cl xbk3_M xbk3_12 rfl (md := 3) (mj := 16) rfl (by decide) xbrr_M (As := [.ref 281, .int x1, .int nt]) (rest := []) (jk_spl3 (K.at rfl) rfl rfl rfl (Nat.le_of_ble_eq_true rfl) (Nat.le_of_ble_eq_true rfl)) (fun d => xbrr_ok hx2 (K.fi [281, 324] rfl rfl)) ?_
  rintro r h9 ⟨rfl, K9⟩
  have K : KN h9 [(0, .inl (9, [.ref 1, .ref 3, .ref 4, .ref 29, .ref 281, .ref 325, .ref 343, .ref 327, .int sst])), (4, .inl (7, [.ref 343, .int mi, .int shu, .int bus, .ref 5, .ref 6, .ref 7, .ref 8, .ref 9, .ref 10, .ref 11, .ref 12, .ref 13, .ref 14, .ref 15, .int lks, .ref 16, .ref 17, .ref 20])), (5, .inr (.inl (0, rk))), (29, .inl (0, [.ref 30, .int acne, .int acco])), (281, .inl (1, [.ref 282, .ref 307, .ref 323, .ref 324])), (324, .inr (.inl (0, ((x_readRank bst x1 nt).2)))), (343, .inl (2, [.int ns, .ref 344, .ref 345, .ref 346, .ref 347, .int nt, .ref 348, .ref 349, .ref 350, .ref 351, .ref 352, .ref 353, .ref 354, .int cel, .ref 355, .ref 356, .ref 357, .ref 358]))] h0 := K.mg K9 rfl rfl
  clear K9
  show j_V jP _ 152 15 lv [.int ((x_readRank bst x1 nt).1)] h9 _
  refine j_V.ifc xbk3_M xbk3_15 (t := 24) rfl (fun c15_0 => ?_) (fun c15_0 => ?_)
  · replace c15_0 : ¬ (((x_readRank bst x1 nt).1) = 0) := jd_ne c15_0
    refine j_V.ldL xbk3_M xbk3_24 rfl (i := 0) (kd := 2) (v := .ref 0) (pcJ := 25) rfl L rfl rfl rfl ?_
    refine j_V.getK xbk3_M xbk3_25 (ci := 9) (j := 2) rfl K rfl rfl ?_
    refine j_V.ldL xbk3_M xbk3_28 rfl (i := 0) (kd := 2) (v := .ref 0) (pcJ := 29) rfl L rfl rfl rfl ?_
    refine j_V.getK xbk3_M xbk3_29 (ci := 9) (j := 4) rfl K rfl rfl ?_
    refine j_V.getK xbk3_M xbk3_32 (ci := 1) (j := 3) rfl K rfl rfl ?_
    refine j_V.cl xbk3_M xbk3_35 rfl (md := 3) (mj := 75) rfl (by decide) xb83_M (As := [.ref 4, .ref 324]) (rest := []) (jk_spl3 (K.at rfl) rfl rfl rfl (Nat.le_of_ble_eq_true rfl) (Nat.le_of_ble_eq_true rfl)) (fun d => xb83_ok (K.fi [4, 5, 324, 343] rfl rfl)) ?_
    rintro r hz ⟨rfl, ez⟩
    rw [ez]
    clear ez
    show j_V jP _ 152 38 lv [.int (x_sameInRank rk nt ((x_readRank bst x1 nt).2))] h9 _
    refine j_V.stL xbk3_M xbk3_38 rfl (i := 2) (kd := 0) (kl' := [(0, .ref 0), (1, .int x1), (2, .int (x_sameInRank rk nt ((x_readRank bst x1 nt).2)))]) (pcJ := 39) rfl L rfl (by decide) rfl rfl rfl (fun lv L => ?_)
    refine j_V.ldL xbk3_M xbk3_39 rfl (i := 2) (kd := 0) (v := .int (x_sameInRank rk nt ((x_readRank bst x1 nt).2))) (pcJ := 40) rfl L rfl rfl rfl ?_
    refine j_V.ldL xbk3_M xbk3_40 rfl (i := 0) (kd := 2) (v := .ref 0) (pcJ := 41) rfl L rfl rfl rfl ?_
    refine j_V.getK xbk3_M xbk3_41 (ci := 9) (j := 6) rfl K rfl rfl ?_
    refine j_V.getK xbk3_M xbk3_44 (ci := 2) (j := 5) rfl K rfl rfl ?_
    refine j_V.icmp xbk3_M xbk3_47 (t := 56) rfl (fun c47_0 => ?_) (fun c47_0 => ?_)
    · replace c47_0 : ¬ ((x_sameInRank rk nt ((x_readRank bst x1 nt).2)) = nt) := jd_ne c47_0
      refine j_V.ldL xbk3_M xbk3_56 rfl (i := 0) (kd := 2) (v := .ref 0) (pcJ := 57) rfl L rfl rfl rfl ?_
      refine j_V.getK xbk3_M xbk3_57 (ci := 9) (j := 3) rfl K rfl rfl ?_
      refine j_V.ldL xbk3_M xbk3_60 rfl (i := 0) (kd := 2) (v := .ref 0) (pcJ := 61) rfl L rfl rfl rfl ?_
      refine j_V.getK xbk3_M xbk3_61 (ci := 9) (j := 2) rfl K rfl rfl ?_
      refine j_V.cl xbk3_M xbk3_64 rfl (md := 3) (mj := 2) rfl (by decide) yr0m_M (As := [.ref 29, .ref 4]) (rest := []) (jk_spl3 (K.at rfl) rfl rfl rfl (Nat.le_of_ble_eq_true rfl) (Nat.le_of_ble_eq_true rfl)) (fun d => hR d _ K) ?_
      rintro r h9 ⟨rfl, R9⟩
      have K1 := K
      obtain ⟨hb, ehb⟩ : ∃ z, z = h9 := ⟨_, rfl⟩
      have K : KN h9 [(0, .inl (9, [.ref 1, .ref 3, .ref 4, .ref 29, .ref 281, .ref 325, .ref 343, .ref 327, .int sst])), (4, .inl (7, [.ref 343, .int mi, .int shu, .int bus, .ref 5, .ref 6, .ref 7, .ref 8, .ref 9, .ref 10, .ref 11, .ref 12, .ref 13, .ref 14, .ref 15, .int lks, .ref 16, .ref 17, .ref 20])), (5, .inr (.inl (0, rk))), (281, .inl (1, [.ref 282, .ref 307, .ref 323, .ref 324])), (324, .inr (.inl (0, ((x_readRank bst x1 nt).2)))), (343, .inl (2, [.int ns, .ref 344, .ref 345, .ref 346, .ref 347, .int nt, .ref 348, .ref 349, .ref 350, .ref 351, .ref 352, .ref 353, .ref 354, .int cel, .ref 355, .ref 356, .ref 357, .ref 358]))] hb := by rw [ehb]; exact hK _ _ K1 R9
      rw [← ehb] at R9
      clear ehb
      show j_V jP _ 152 67 lv [] h9 _
      refine j_V.ldL xbk3_M xbk3_67 rfl (i := 0) (kd := 2) (v := .ref 0) (pcJ := 68) rfl L rfl rfl rfl ?_
      refine j_V.getK xbk3_M xbk3_68 (ci := 9) (j := 4) rfl K rfl rfl ?_
      refine j_V.getK xbk3_M xbk3_71 (ci := 1) (j := 3) rfl K rfl rfl ?_
      refine j_V.one xbk3_M xbk3_74 (by decide) (pcJ := 75) (stJ := [.int 0, .ref 324]) rfl ?_
      refine j_V.ldL xbk3_M xbk3_75 rfl (i := 0) (kd := 2) (v := .ref 0) (pcJ := 76) rfl L rfl rfl rfl ?_
      refine j_V.getK xbk3_M xbk3_76 (ci := 9) (j := 2) rfl K rfl rfl ?_
      refine j_V.getK xbk3_M xbk3_79 (ci := 7) (j := 4) rfl K rfl rfl ?_
      refine j_V.one xbk3_M xbk3_82 (by decide) (pcJ := 83) (stJ := [.int 0, .ref 5, .int 0, .ref 324]) rfl ?_
      refine j_V.one xbk3_M xbk3_83 (by decide) (pcJ := 84) (stJ := [.int 5, .int 0, .ref 5, .int 0, .ref 324]) rfl ?_
      refine j_V.acp xbk3_M xbk3_84 rfl rfl K rfl rfl rfl (fun h K => ?_)
      refine j_V.ldL xbk3_M xbk3_87 rfl (i := 0) (kd := 2) (v := .ref 0) (pcJ := 88) rfl L rfl rfl rfl ?_
      refine j_V.ldL xbk3_M xbk3_88 rfl (i := 2) (kd := 0) (v := .int (x_sameInRank rk nt ((x_readRank bst x1 nt).2))) (pcJ := 89) rfl L rfl rfl rfl ?_
      refine j_V.cl xbk3_M xbk3_89 rfl (md := 3) (mj := 159) rfl (by decide) xb49_M (As := [.ref 0, .int (x_sameInRank rk nt ((x_readRank bst x1 nt).2))]) (rest := []) (jk_spl3 (K.at rfl) rfl rfl rfl (Nat.le_of_ble_eq_true rfl) (Nat.le_of_ble_eq_true rfl)) (fun d => xb49_ok (K.fi [0] rfl rfl)) ?_
      rintro r h9 ⟨rfl, K9⟩
      obtain ⟨z0, ez0⟩ : ∃ z : Int32 × Int32, z = (x_qanswer sst (x_sameInRank rk nt ((x_readRank bst x1 nt).2))) := ⟨_, rfl⟩
      rw [← ez0] at K9
      have K : KN h9 [(0, .inl (9, [.ref 1, .ref 3, .ref 4, .ref 29, .ref 281, .ref 325, .ref 343, .ref 327, .int (z0.2)])), (4, .inl (7, [.ref 343, .int mi, .int shu, .int bus, .ref 5, .ref 6, .ref 7, .ref 8, .ref 9, .ref 10, .ref 11, .ref 12, .ref 13, .ref 14, .ref 15, .int lks, .ref 16, .ref 17, .ref 20])), (5, .inr (.inl (0, (aC 5 ((x_readRank bst x1 nt).2) rk)))), (281, .inl (1, [.ref 282, .ref 307, .ref 323, .ref 324])), (324, .inr (.inl (0, ((x_readRank bst x1 nt).2)))), (343, .inl (2, [.int ns, .ref 344, .ref 345, .ref 346, .ref 347, .int nt, .ref 348, .ref 349, .ref 350, .ref 351, .ref 352, .ref 353, .ref 354, .int cel, .ref 355, .ref 356, .ref 357, .ref 358]))] hb := K.mg K9 rfl rfl
      clear K9
      show j_V jP _ 152 92 lv [.int ((x_qanswer sst (x_sameInRank rk nt ((x_readRank bst x1 nt).2))).1)] h9 _
      refine j_V.ri xbk3_M xbk3_92 ?_
      exact ⟨_, ez0, _, _, K1, R9, rfl, K⟩
    · replace c47_0 : (x_sameInRank rk nt ((x_readRank bst x1 nt).2)) = nt := jd_nen c47_0
      exact absurd c47_0 c2
  · replace c15_0 : ((x_readRank bst x1 nt).1) = 0 := jd_nen c15_0
    exact absurd c15_0 c1

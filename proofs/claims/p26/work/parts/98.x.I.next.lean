/-! the class's exchange, nextOrder; the orders' table: written by wip/px/gen_hA.py -/
set_option maxRecDepth 100000 in
theorem fo0_M : j_meth jP 15 = some (yX1_exchange, cX1_exchange, 4, none, 2, false, 1) := rfl
set_option maxRecDepth 100000 in
theorem fo0_0 : j_code jP 15 0 = some (.aload_n 0) := rfl
set_option maxRecDepth 100000 in
theorem fo0_1 : j_code jP 15 1 = some (.getfield 27) := rfl
set_option maxRecDepth 100000 in
theorem fo0_4 : j_code jP 15 4 = some (.iload_n 1) := rfl
set_option maxRecDepth 100000 in
theorem fo0_5 : j_code jP 15 5 = some (.iaload) := rfl
set_option maxRecDepth 100000 in
theorem fo0_6 : j_code jP 15 6 = some (.istore_n 3) := rfl
set_option maxRecDepth 100000 in
theorem fo0_7 : j_code jP 15 7 = some (.aload_n 0) := rfl
set_option maxRecDepth 100000 in
theorem fo0_8 : j_code jP 15 8 = some (.getfield 27) := rfl
set_option maxRecDepth 100000 in
theorem fo0_11 : j_code jP 15 11 = some (.iload_n 1) := rfl
set_option maxRecDepth 100000 in
theorem fo0_12 : j_code jP 15 12 = some (.aload_n 0) := rfl
set_option maxRecDepth 100000 in
theorem fo0_13 : j_code jP 15 13 = some (.getfield 27) := rfl
set_option maxRecDepth 100000 in
theorem fo0_16 : j_code jP 15 16 = some (.iload_n 2) := rfl
set_option maxRecDepth 100000 in
theorem fo0_17 : j_code jP 15 17 = some (.iaload) := rfl
set_option maxRecDepth 100000 in
theorem fo0_18 : j_code jP 15 18 = some (.iastore) := rfl
set_option maxRecDepth 100000 in
theorem fo0_19 : j_code jP 15 19 = some (.aload_n 0) := rfl
set_option maxRecDepth 100000 in
theorem fo0_20 : j_code jP 15 20 = some (.getfield 27) := rfl
set_option maxRecDepth 100000 in
theorem fo0_23 : j_code jP 15 23 = some (.iload_n 2) := rfl
set_option maxRecDepth 100000 in
theorem fo0_24 : j_code jP 15 24 = some (.iload_n 3) := rfl
set_option maxRecDepth 100000 in
theorem fo0_25 : j_code jP 15 25 = some (.iastore) := rfl
set_option maxRecDepth 100000 in
theorem fo0_26 : j_code jP 15 26 = some (.return_) := rfl
set_option maxRecDepth 1000000 in
theorem fo0_ok {d : Nat} {h h0 : J_H} {od : List Int32} {x1 x2 : Int32} (K : KN h [(281, .inl (1, [.ref 282, .ref 307, .ref 323, .ref 324])), (323, .inr (.inl (0, od)))] h0) : j_V jP d 15 0 (lv_args 0 [.ref 281, .int x1, .int x2]) [] h (fun rv h' => rv = none ∧ KN h' [(281, .inl (1, [.ref 282, .ref 307, .ref 323, .ref 324])), (323, .inr (.inl (0, (m_trades od x1 x2))))] h0) := by
  show j_V jP d 15 0 [(0, .ref 281), (1, .int x1), (2, .int x2)] [] h _
  obtain ⟨lv, elv, L⟩ : ∃ lv, lv = [(0, .ref 281), (1, .int x1), (2, .int x2)] ∧ LK lv [(0, .ref 281), (1, .int x1), (2, .int x2)] := ⟨_, rfl, LK.rf⟩
  rw [← elv]
  clear elv
  refine j_V.ldL fo0_M fo0_0 rfl (i := 0) (kd := 2) (v := .ref 281) (pcJ := 1) rfl L rfl rfl rfl ?_
  refine j_V.getK fo0_M fo0_1 (ci := 1) (j := 2) rfl K rfl rfl ?_
  refine j_V.ldL fo0_M fo0_4 rfl (i := 1) (kd := 0) (v := .int x1) (pcJ := 5) rfl L rfl rfl rfl ?_
  refine j_V.iaA fo0_M fo0_5 K rfl ?_
  refine j_V.stL fo0_M fo0_6 rfl (i := 3) (kd := 0) (kl' := [(0, .ref 281), (1, .int x1), (2, .int x2), (3, .int (gA od x1))]) (pcJ := 7) rfl L rfl (by decide) rfl rfl rfl (fun lv L => ?_)
  refine j_V.ldL fo0_M fo0_7 rfl (i := 0) (kd := 2) (v := .ref 281) (pcJ := 8) rfl L rfl rfl rfl ?_
  refine j_V.getK fo0_M fo0_8 (ci := 1) (j := 2) rfl K rfl rfl ?_
  refine j_V.ldL fo0_M fo0_11 rfl (i := 1) (kd := 0) (v := .int x1) (pcJ := 12) rfl L rfl rfl rfl ?_
  refine j_V.ldL fo0_M fo0_12 rfl (i := 0) (kd := 2) (v := .ref 281) (pcJ := 13) rfl L rfl rfl rfl ?_
  refine j_V.getK fo0_M fo0_13 (ci := 1) (j := 2) rfl K rfl rfl ?_
  refine j_V.ldL fo0_M fo0_16 rfl (i := 2) (kd := 0) (v := .int x2) (pcJ := 17) rfl L rfl rfl rfl ?_
  refine j_V.iaA fo0_M fo0_17 K rfl ?_
  refine j_V.isA fo0_M fo0_18 (k' := [(281, .inl (1, [.ref 282, .ref 307, .ref 323, .ref 324])), (323, .inr (.inl (0, (sA od x1 (gA od x2)))))]) K rfl rfl (fun h K => ?_)
  refine j_V.ldL fo0_M fo0_19 rfl (i := 0) (kd := 2) (v := .ref 281) (pcJ := 20) rfl L rfl rfl rfl ?_
  refine j_V.getK fo0_M fo0_20 (ci := 1) (j := 2) rfl K rfl rfl ?_
  refine j_V.ldL fo0_M fo0_23 rfl (i := 2) (kd := 0) (v := .int x2) (pcJ := 24) rfl L rfl rfl rfl ?_
  refine j_V.ldL fo0_M fo0_24 rfl (i := 3) (kd := 0) (v := .int (gA od x1)) (pcJ := 25) rfl L rfl rfl rfl ?_
  refine j_V.isA fo0_M fo0_25 (k' := [(281, .inl (1, [.ref 282, .ref 307, .ref 323, .ref 324])), (323, .inr (.inl (0, (sA (sA od x1 (gA od x2)) x2 (gA od x1)))))]) K rfl rfl (fun h K => ?_)
  refine j_V.ret fo0_M fo0_26 rfl rfl ?_
  exact ⟨rfl, K⟩
set_option maxRecDepth 100000 in
theorem fo1_M : j_meth jP 14 = some (yX1_nextOrder, cX1_nextOrder, 6, (some .boolean), 1, false, 1) := rfl
set_option maxRecDepth 100000 in
theorem fo1_0 : j_code jP 14 0 = some (.iload_n 1) := rfl
set_option maxRecDepth 100000 in
theorem fo1_1 : j_code jP 14 1 = some (.iconst 2) := rfl
set_option maxRecDepth 100000 in
theorem fo1_2 : j_code jP 14 2 = some (.isub) := rfl
set_option maxRecDepth 100000 in
theorem fo1_3 : j_code jP 14 3 = some (.istore_n 2) := rfl
set_option maxRecDepth 100000 in
theorem fo1_4 : j_code jP 14 4 = some (.iload_n 2) := rfl
set_option maxRecDepth 100000 in
theorem fo1_5 : j_code jP 14 5 = some (.ifCond .lt 26) := rfl
set_option maxRecDepth 100000 in
theorem fo1_8 : j_code jP 14 8 = some (.aload_n 0) := rfl
set_option maxRecDepth 100000 in
theorem fo1_9 : j_code jP 14 9 = some (.getfield 27) := rfl
set_option maxRecDepth 100000 in
theorem fo1_12 : j_code jP 14 12 = some (.iload_n 2) := rfl
set_option maxRecDepth 100000 in
theorem fo1_13 : j_code jP 14 13 = some (.iaload) := rfl
set_option maxRecDepth 100000 in
theorem fo1_14 : j_code jP 14 14 = some (.aload_n 0) := rfl
set_option maxRecDepth 100000 in
theorem fo1_15 : j_code jP 14 15 = some (.getfield 27) := rfl
set_option maxRecDepth 100000 in
theorem fo1_18 : j_code jP 14 18 = some (.iload_n 2) := rfl
set_option maxRecDepth 100000 in
theorem fo1_19 : j_code jP 14 19 = some (.iconst 1) := rfl
set_option maxRecDepth 100000 in
theorem fo1_20 : j_code jP 14 20 = some (.iadd) := rfl
set_option maxRecDepth 100000 in
theorem fo1_21 : j_code jP 14 21 = some (.iaload) := rfl
set_option maxRecDepth 100000 in
theorem fo1_22 : j_code jP 14 22 = some (.if_icmp .le 9) := rfl
set_option maxRecDepth 100000 in
theorem fo1_25 : j_code jP 14 25 = some (.iinc 2 (-1)) := rfl
set_option maxRecDepth 100000 in
theorem fo1_28 : j_code jP 14 28 = some (.goto (-24)) := rfl
set_option maxRecDepth 100000 in
theorem fo1_31 : j_code jP 14 31 = some (.iload_n 2) := rfl
set_option maxRecDepth 100000 in
theorem fo1_32 : j_code jP 14 32 = some (.ifCond .ge 5) := rfl
set_option maxRecDepth 100000 in
theorem fo1_35 : j_code jP 14 35 = some (.iconst 0) := rfl
set_option maxRecDepth 100000 in
theorem fo1_36 : j_code jP 14 36 = some (.ireturn) := rfl
set_option maxRecDepth 100000 in
theorem fo1_37 : j_code jP 14 37 = some (.iload_n 1) := rfl
set_option maxRecDepth 100000 in
theorem fo1_38 : j_code jP 14 38 = some (.iconst 1) := rfl
set_option maxRecDepth 100000 in
theorem fo1_39 : j_code jP 14 39 = some (.isub) := rfl
set_option maxRecDepth 100000 in
theorem fo1_40 : j_code jP 14 40 = some (.istore_n 3) := rfl
set_option maxRecDepth 100000 in
theorem fo1_41 : j_code jP 14 41 = some (.iload_n 3) := rfl
set_option maxRecDepth 100000 in
theorem fo1_42 : j_code jP 14 42 = some (.iload_n 2) := rfl
set_option maxRecDepth 100000 in
theorem fo1_43 : j_code jP 14 43 = some (.if_icmp .le 24) := rfl
set_option maxRecDepth 100000 in
theorem fo1_46 : j_code jP 14 46 = some (.aload_n 0) := rfl
set_option maxRecDepth 100000 in
theorem fo1_47 : j_code jP 14 47 = some (.getfield 27) := rfl
set_option maxRecDepth 100000 in
theorem fo1_50 : j_code jP 14 50 = some (.iload_n 3) := rfl
set_option maxRecDepth 100000 in
theorem fo1_51 : j_code jP 14 51 = some (.iaload) := rfl
set_option maxRecDepth 100000 in
theorem fo1_52 : j_code jP 14 52 = some (.aload_n 0) := rfl
set_option maxRecDepth 100000 in
theorem fo1_53 : j_code jP 14 53 = some (.getfield 27) := rfl
set_option maxRecDepth 100000 in
theorem fo1_56 : j_code jP 14 56 = some (.iload_n 2) := rfl
set_option maxRecDepth 100000 in
theorem fo1_57 : j_code jP 14 57 = some (.iaload) := rfl
set_option maxRecDepth 100000 in
theorem fo1_58 : j_code jP 14 58 = some (.if_icmp .ge 9) := rfl
set_option maxRecDepth 100000 in
theorem fo1_61 : j_code jP 14 61 = some (.iinc 3 (-1)) := rfl
set_option maxRecDepth 100000 in
theorem fo1_64 : j_code jP 14 64 = some (.goto (-23)) := rfl
set_option maxRecDepth 100000 in
theorem fo1_67 : j_code jP 14 67 = some (.aload_n 0) := rfl
set_option maxRecDepth 100000 in
theorem fo1_68 : j_code jP 14 68 = some (.iload_n 2) := rfl
set_option maxRecDepth 100000 in
theorem fo1_69 : j_code jP 14 69 = some (.iload_n 3) := rfl
set_option maxRecDepth 100000 in
theorem fo1_70 : j_code jP 14 70 = some (.invokevirtual 83) := rfl
set_option maxRecDepth 100000 in
theorem fo1_73 : j_code jP 14 73 = some (.iload_n 2) := rfl
set_option maxRecDepth 100000 in
theorem fo1_74 : j_code jP 14 74 = some (.iconst 1) := rfl
set_option maxRecDepth 100000 in
theorem fo1_75 : j_code jP 14 75 = some (.iadd) := rfl
set_option maxRecDepth 100000 in
theorem fo1_76 : j_code jP 14 76 = some (.istore 4) := rfl
set_option maxRecDepth 100000 in
theorem fo1_78 : j_code jP 14 78 = some (.iload_n 1) := rfl
set_option maxRecDepth 100000 in
theorem fo1_79 : j_code jP 14 79 = some (.iconst 1) := rfl
set_option maxRecDepth 100000 in
theorem fo1_80 : j_code jP 14 80 = some (.isub) := rfl
set_option maxRecDepth 100000 in
theorem fo1_81 : j_code jP 14 81 = some (.istore 5) := rfl
set_option maxRecDepth 100000 in
theorem fo1_83 : j_code jP 14 83 = some (.iload 4) := rfl
set_option maxRecDepth 100000 in
theorem fo1_85 : j_code jP 14 85 = some (.iload 5) := rfl
set_option maxRecDepth 100000 in
theorem fo1_87 : j_code jP 14 87 = some (.if_icmp .ge 20) := rfl
set_option maxRecDepth 100000 in
theorem fo1_90 : j_code jP 14 90 = some (.aload_n 0) := rfl
set_option maxRecDepth 100000 in
theorem fo1_91 : j_code jP 14 91 = some (.iload 4) := rfl
set_option maxRecDepth 100000 in
theorem fo1_93 : j_code jP 14 93 = some (.iload 5) := rfl
set_option maxRecDepth 100000 in
theorem fo1_95 : j_code jP 14 95 = some (.invokevirtual 83) := rfl
set_option maxRecDepth 100000 in
theorem fo1_98 : j_code jP 14 98 = some (.iinc 4 1) := rfl
set_option maxRecDepth 100000 in
theorem fo1_101 : j_code jP 14 101 = some (.iinc 5 (-1)) := rfl
set_option maxRecDepth 100000 in
theorem fo1_104 : j_code jP 14 104 = some (.goto (-21)) := rfl
set_option maxRecDepth 100000 in
theorem fo1_107 : j_code jP 14 107 = some (.iconst 1) := rfl
set_option maxRecDepth 100000 in
theorem fo1_108 : j_code jP 14 108 = some (.ireturn) := rfl
def x_noB (od : List Int32) (v2 : Int32) : Nat → Int32 → Int32
  | 0, v3 => v3
  | f + 1, v3 => if v2 < v3 then (if (gA od v3) < (gA od v2) then x_noB od v2 f (v3 + (-1)) else v3) else v3
set_option maxRecDepth 1000000 in
theorem fo1_ok_l4 {d : Nat} {h0 : J_H} {x1  : Int32} {od : List Int32} {Q : Option Value → J_H → Prop} : ∀ (f : Nat) (v2 : Int32) {lv : J_L} {h : J_H}, v2.toInt < (f : Int) → LK lv [(0, .ref 281), (1, .int x1), (2, .int v2)] → KN h [(281, .inl (1, [.ref 282, .ref 307, .ref 323, .ref 324])), (323, .inr (.inl (0, od)))] h0 → (∀ lv h, LK lv [(0, .ref 281), (1, .int x1), (2, .int (m_noA od f v2))] → KN h [(281, .inl (1, [.ref 282, .ref 307, .ref 323, .ref 324])), (323, .inr (.inl (0, od)))] h0 → j_V jP d 14 31 lv [] h Q) → j_V jP d 14 4 lv [] h Q := by
  intro f
  induction f with
  | zero =>
    intro v2 lv h e L K kk
    refine j_V.ldL fo1_M fo1_4 rfl (i := 2) (kd := 0) (v := .int v2) (pcJ := 5) rfl L rfl rfl rfl ?_
    refine j_V.ifc fo1_M fo1_5 (t := 31) rfl (fun c5_0 => ?_) (fun c5_0 => ?_)
    · replace c5_0 : v2 < 0 := jd_lt c5_0
      exact kk _ _ L K
    · replace c5_0 : ¬ (v2 < 0) := jd_ltn c5_0
      exact absurd (m_dz e) c5_0
  | succ f ih =>
    intro v2 lv h e L K kk
    refine j_V.ldL fo1_M fo1_4 rfl (i := 2) (kd := 0) (v := .int v2) (pcJ := 5) rfl L rfl rfl rfl ?_
    refine j_V.ifc fo1_M fo1_5 (t := 31) rfl (fun c5_0 => ?_) (fun c5_0 => ?_)
    · replace c5_0 : v2 < 0 := jd_lt c5_0
      rw [show m_noA od (f + 1) v2 = _ from ((if_pos c5_0).trans (rfl))] at kk
      exact kk _ _ L K
    · replace c5_0 : ¬ (v2 < 0) := jd_ltn c5_0
      refine j_V.ldL fo1_M fo1_8 rfl (i := 0) (kd := 2) (v := .ref 281) (pcJ := 9) rfl L rfl rfl rfl ?_
      refine j_V.getK fo1_M fo1_9 (ci := 1) (j := 2) rfl K rfl rfl ?_
      refine j_V.ldL fo1_M fo1_12 rfl (i := 2) (kd := 0) (v := .int v2) (pcJ := 13) rfl L rfl rfl rfl ?_
      refine j_V.iaA fo1_M fo1_13 K rfl ?_
      refine j_V.ldL fo1_M fo1_14 rfl (i := 0) (kd := 2) (v := .ref 281) (pcJ := 15) rfl L rfl rfl rfl ?_
      refine j_V.getK fo1_M fo1_15 (ci := 1) (j := 2) rfl K rfl rfl ?_
      refine j_V.ldL fo1_M fo1_18 rfl (i := 2) (kd := 0) (v := .int v2) (pcJ := 19) rfl L rfl rfl rfl ?_
      refine j_V.one fo1_M fo1_19 (by decide) (pcJ := 20) (stJ := [.int 1, .int v2, .ref 323, .int (gA od v2)]) rfl ?_
      refine j_V.one fo1_M fo1_20 (by decide) (pcJ := 21) (stJ := [.int (v2 + 1), .ref 323, .int (gA od v2)]) rfl ?_
      refine j_V.iaA fo1_M fo1_21 K rfl ?_
      refine j_V.icmp fo1_M fo1_22 (t := 31) rfl (fun c22_1 => ?_) (fun c22_1 => ?_)
      · replace c22_1 : ¬ ((gA od (v2 + 1)) < (gA od v2)) := jd_le c22_1
        rw [show m_noA od (f + 1) v2 = _ from ((if_neg c5_0).trans ((if_neg c22_1).trans (rfl)))] at kk
        exact kk _ _ L K
      · replace c22_1 : (gA od (v2 + 1)) < (gA od v2) := jd_len c22_1
        refine j_V.inL fo1_M fo1_25 (i := 2) (kl' := [(0, .ref 281), (1, .int x1), (2, .int (v2 + (-1)))]) (pcJ := 28) L rfl rfl rfl rfl (fun lv L => ?_)
        refine j_V.gto fo1_M fo1_28 (t := 4) rfl ?_
        rw [show m_noA od (f + 1) v2 = m_noA od f (v2 + (-1)) from (if_neg c5_0).trans ((if_pos c22_1).trans (rfl))] at kk
        exact ih _ (m_dn e c5_0) L K kk
theorem noB_dn {a b : Int32} {f : Nat} (h : lpN b a ≤ f + 1) (c : a < b) : lpN (b + (-1)) a ≤ f := by
  rw [Int32.lt_iff_toInt_lt] at c
  have h1 := Int32.toInt_lt b
  have h2 := Int32.le_toInt a
  unfold lpN at h ⊢
  rw [Int32.toInt_add, show (-1 : Int32).toInt = -1 from rfl, Int.bmod_eq_of_le (by omega) (by omega)]
  omega
set_option maxRecDepth 1000000 in
theorem fo1_ok_l41 {d : Nat} {h0 : J_H} {x1 v2 : Int32} {od : List Int32} {Q : Option Value → J_H → Prop} : ∀ (f : Nat) (v3 : Int32) {lv : J_L} {h : J_H}, lpN v3 v2 ≤ f → LK lv [(0, .ref 281), (1, .int x1), (2, .int v2), (3, .int v3)] → KN h [(281, .inl (1, [.ref 282, .ref 307, .ref 323, .ref 324])), (323, .inr (.inl (0, od)))] h0 → (∀ lv h, LK lv [(0, .ref 281), (1, .int x1), (2, .int v2), (3, .int (x_noB od v2 f v3))] → KN h [(281, .inl (1, [.ref 282, .ref 307, .ref 323, .ref 324])), (323, .inr (.inl (0, od)))] h0 → j_V jP d 14 67 lv [] h Q) → j_V jP d 14 41 lv [] h Q := by
  intro f
  induction f with
  | zero =>
    intro v3 lv h e L K kk
    refine j_V.ldL fo1_M fo1_41 rfl (i := 3) (kd := 0) (v := .int v3) (pcJ := 42) rfl L rfl rfl rfl ?_
    refine j_V.ldL fo1_M fo1_42 rfl (i := 2) (kd := 0) (v := .int v2) (pcJ := 43) rfl L rfl rfl rfl ?_
    refine j_V.icmp fo1_M fo1_43 (t := 67) rfl (fun c43_0 => ?_) (fun c43_0 => ?_)
    · replace c43_0 : ¬ (v2 < v3) := jd_le c43_0
      exact kk _ _ L K
    · replace c43_0 : v2 < v3 := jd_len c43_0
      exact absurd c43_0 (lpN_z (by omega))
  | succ f ih =>
    intro v3 lv h e L K kk
    refine j_V.ldL fo1_M fo1_41 rfl (i := 3) (kd := 0) (v := .int v3) (pcJ := 42) rfl L rfl rfl rfl ?_
    refine j_V.ldL fo1_M fo1_42 rfl (i := 2) (kd := 0) (v := .int v2) (pcJ := 43) rfl L rfl rfl rfl ?_
    refine j_V.icmp fo1_M fo1_43 (t := 67) rfl (fun c43_0 => ?_) (fun c43_0 => ?_)
    · replace c43_0 : ¬ (v2 < v3) := jd_le c43_0
      rw [show x_noB od v2 (f + 1) v3 = _ from ((if_neg c43_0).trans (rfl))] at kk
      exact kk _ _ L K
    · replace c43_0 : v2 < v3 := jd_len c43_0
      refine j_V.ldL fo1_M fo1_46 rfl (i := 0) (kd := 2) (v := .ref 281) (pcJ := 47) rfl L rfl rfl rfl ?_
      refine j_V.getK fo1_M fo1_47 (ci := 1) (j := 2) rfl K rfl rfl ?_
      refine j_V.ldL fo1_M fo1_50 rfl (i := 3) (kd := 0) (v := .int v3) (pcJ := 51) rfl L rfl rfl rfl ?_
      refine j_V.iaA fo1_M fo1_51 K rfl ?_
      refine j_V.ldL fo1_M fo1_52 rfl (i := 0) (kd := 2) (v := .ref 281) (pcJ := 53) rfl L rfl rfl rfl ?_
      refine j_V.getK fo1_M fo1_53 (ci := 1) (j := 2) rfl K rfl rfl ?_
      refine j_V.ldL fo1_M fo1_56 rfl (i := 2) (kd := 0) (v := .int v2) (pcJ := 57) rfl L rfl rfl rfl ?_
      refine j_V.iaA fo1_M fo1_57 K rfl ?_
      refine j_V.icmp fo1_M fo1_58 (t := 67) rfl (fun c58_1 => ?_) (fun c58_1 => ?_)
      · replace c58_1 : ¬ ((gA od v3) < (gA od v2)) := jd_ge c58_1
        rw [show x_noB od v2 (f + 1) v3 = _ from ((if_pos c43_0).trans ((if_neg c58_1).trans (rfl)))] at kk
        exact kk _ _ L K
      · replace c58_1 : (gA od v3) < (gA od v2) := jd_gen c58_1
        refine j_V.inL fo1_M fo1_61 (i := 3) (kl' := [(0, .ref 281), (1, .int x1), (2, .int v2), (3, .int (v3 + (-1)))]) (pcJ := 64) L rfl rfl rfl rfl (fun lv L => ?_)
        refine j_V.gto fo1_M fo1_64 (t := 41) rfl ?_
        rw [show x_noB od v2 (f + 1) v3 = x_noB od v2 f (v3 + (-1)) from (if_pos c43_0).trans ((if_pos c58_1).trans (rfl))] at kk
        exact ih _ (noB_dn e c43_0) L K kk
set_option maxRecDepth 1000000 in
theorem fo1_ok_l83 {d : Nat} {h0 : J_H} {x1  : Int32} {Q : Option Value → J_H → Prop} : ∀ (f : Nat) (v4 v5 : Int32) (od : List Int32) {lv : J_L} {h : J_H}, lpN v5 v4 ≤ f → LK lv [(0, .ref 281), (4, .int v4), (5, .int v5)] → KN h [(281, .inl (1, [.ref 282, .ref 307, .ref 323, .ref 324])), (323, .inr (.inl (0, od)))] h0 → (∀ lv h, LK lv [(0, .ref 281)] → KN h [(281, .inl (1, [.ref 282, .ref 307, .ref 323, .ref 324])), (323, .inr (.inl (0, (m_noC f v4 v5 od))))] h0 → j_V jP d 14 107 lv [] h Q) → j_V jP d 14 83 lv [] h Q := by
  intro f
  induction f with
  | zero =>
    intro v4 v5 od lv h e L K kk
    refine j_V.ldL fo1_M fo1_83 rfl (i := 4) (kd := 0) (v := .int v4) (pcJ := 85) rfl L rfl rfl rfl ?_
    refine j_V.ldL fo1_M fo1_85 rfl (i := 5) (kd := 0) (v := .int v5) (pcJ := 87) rfl L rfl rfl rfl ?_
    refine j_V.icmp fo1_M fo1_87 (t := 107) rfl (fun c87_0 => ?_) (fun c87_0 => ?_)
    · replace c87_0 : ¬ (v4 < v5) := jd_ge c87_0
      exact kk _ _ (L.sub ⟨rfl, trivial⟩) K
    · replace c87_0 : v4 < v5 := jd_gen c87_0
      exact absurd c87_0 (m_uz e)
  | succ f ih =>
    intro v4 v5 od lv h e L K kk
    refine j_V.ldL fo1_M fo1_83 rfl (i := 4) (kd := 0) (v := .int v4) (pcJ := 85) rfl L rfl rfl rfl ?_
    refine j_V.ldL fo1_M fo1_85 rfl (i := 5) (kd := 0) (v := .int v5) (pcJ := 87) rfl L rfl rfl rfl ?_
    refine j_V.icmp fo1_M fo1_87 (t := 107) rfl (fun c87_0 => ?_) (fun c87_0 => ?_)
    · replace c87_0 : ¬ (v4 < v5) := jd_ge c87_0
      rw [show m_noC (f + 1) v4 v5 od = _ from ((if_neg c87_0).trans (rfl))] at kk
      exact kk _ _ (L.sub ⟨rfl, trivial⟩) K
    · replace c87_0 : v4 < v5 := jd_gen c87_0
      refine j_V.ldL fo1_M fo1_90 rfl (i := 0) (kd := 2) (v := .ref 281) (pcJ := 91) rfl L rfl rfl rfl ?_
      refine j_V.ldL fo1_M fo1_91 rfl (i := 4) (kd := 0) (v := .int v4) (pcJ := 93) rfl L rfl rfl rfl ?_
      refine j_V.ldL fo1_M fo1_93 rfl (i := 5) (kd := 0) (v := .int v5) (pcJ := 95) rfl L rfl rfl rfl ?_
      refine j_V.cl fo1_M fo1_95 rfl (md := 3) (mj := 15) rfl (by decide) fo0_M (As := [.ref 281, .int v4, .int v5]) (rest := []) (jk_spl3 (K.at rfl) rfl rfl rfl (Nat.le_of_ble_eq_true rfl) (Nat.le_of_ble_eq_true rfl)) (fun d => fo0_ok K) ?_
      rintro r h9 ⟨rfl, K⟩
      show j_V jP _ 14 98 lv [] h9 _
      refine j_V.inL fo1_M fo1_98 (i := 4) (kl' := [(0, .ref 281), (4, .int (v4 + 1)), (5, .int v5)]) (pcJ := 101) L rfl rfl rfl rfl (fun lv L => ?_)
      refine j_V.inL fo1_M fo1_101 (i := 5) (kl' := [(0, .ref 281), (4, .int (v4 + 1)), (5, .int (v5 + (-1)))]) (pcJ := 104) L rfl rfl rfl rfl (fun lv L => ?_)
      refine j_V.gto fo1_M fo1_104 (t := 83) rfl ?_
      rw [show m_noC (f + 1) v4 v5 od = m_noC f (v4 + 1) (v5 + (-1)) (m_trades od v4 v5) from (if_pos c87_0).trans (rfl)] at kk
      exact ih _ _ _ (m_up e c87_0) L K kk
/-- the class's next order -/
def x_nx3 (od : List Int32) (x1 : Int32) : Int32 := x_noB od (m_nx2 od x1) (lpN (x1 - 1) (m_nx2 od x1)) (x1 - 1)
def x_nxT (od : List Int32) (x1 : Int32) : List Int32 := m_trades od (m_nx2 od x1) (x_nx3 od x1)
def x_nxo (od : List Int32) (x1 : Int32) : Int32 × List Int32 := if (m_nx2 od x1) < 0 then (0, od) else (1, m_noC (lpN (x1 - 1) (m_nx2 od x1 + 1)) (m_nx2 od x1 + 1) (x1 - 1) (x_nxT od x1))
set_option maxRecDepth 1000000 in
theorem fo1_ok {d : Nat} {h h0 : J_H} {x1 : Int32} {od : List Int32} (hn : (x1 - 2).toInt < 5) (K : KN h [(281, .inl (1, [.ref 282, .ref 307, .ref 323, .ref 324])), (323, .inr (.inl (0, od)))] h0) : j_V jP d 14 0 (lv_args 0 [.ref 281, .int x1]) [] h (fun rv h' => rv = some (.int (x_nxo od x1).1) ∧ KN h' [(281, .inl (1, [.ref 282, .ref 307, .ref 323, .ref 324])), (323, .inr (.inl (0, (x_nxo od x1).2)))] h0) := by
  show j_V jP d 14 0 [(0, .ref 281), (1, .int x1)] [] h _
  obtain ⟨lv, elv, L⟩ : ∃ lv, lv = [(0, .ref 281), (1, .int x1)] ∧ LK lv [(0, .ref 281), (1, .int x1)] := ⟨_, rfl, LK.rf⟩
  rw [← elv]
  clear elv
  refine j_V.ldL fo1_M fo1_0 rfl (i := 1) (kd := 0) (v := .int x1) (pcJ := 1) rfl L rfl rfl rfl ?_
  refine j_V.one fo1_M fo1_1 (by decide) (pcJ := 2) (stJ := [.int 2, .int x1]) rfl ?_
  refine j_V.one fo1_M fo1_2 (by decide) (pcJ := 3) (stJ := [.int (x1 - 2)]) rfl ?_
  refine j_V.stL fo1_M fo1_3 rfl (i := 2) (kd := 0) (kl' := [(0, .ref 281), (1, .int x1), (2, .int (x1 - 2))]) (pcJ := 4) rfl L rfl (by decide) rfl rfl rfl (fun lv L => ?_)
  refine fo1_ok_l4 5 _ hn L K (fun lv h L K => ?_)
  have L : LK lv [(0, .ref 281), (1, .int x1), (2, .int (m_nx2 od x1))] := L
  refine j_V.ldL fo1_M fo1_31 rfl (i := 2) (kd := 0) (v := .int (m_nx2 od x1)) (pcJ := 32) rfl L rfl rfl rfl ?_
  refine j_V.ifc fo1_M fo1_32 (t := 37) rfl (fun c32_0 => ?_) (fun c32_0 => ?_)
  · replace c32_0 : ¬ ((m_nx2 od x1) < 0) := jd_ge c32_0
    refine j_V.ldL fo1_M fo1_37 rfl (i := 1) (kd := 0) (v := .int x1) (pcJ := 38) rfl L rfl rfl rfl ?_
    refine j_V.one fo1_M fo1_38 (by decide) (pcJ := 39) (stJ := [.int 1, .int x1]) rfl ?_
    refine j_V.one fo1_M fo1_39 (by decide) (pcJ := 40) (stJ := [.int (x1 - 1)]) rfl ?_
    refine j_V.stL fo1_M fo1_40 rfl (i := 3) (kd := 0) (kl' := [(0, .ref 281), (1, .int x1), (2, .int (m_nx2 od x1)), (3, .int (x1 - 1))]) (pcJ := 41) rfl L rfl (by decide) rfl rfl rfl (fun lv L => ?_)
    refine fo1_ok_l41 _ _ (Nat.le_refl _) L K (fun lv h L K => ?_)
    have L : LK lv [(0, .ref 281), (1, .int x1), (2, .int (m_nx2 od x1)), (3, .int (x_nx3 od x1))] := L
    refine j_V.ldL fo1_M fo1_67 rfl (i := 0) (kd := 2) (v := .ref 281) (pcJ := 68) rfl L rfl rfl rfl ?_
    refine j_V.ldL fo1_M fo1_68 rfl (i := 2) (kd := 0) (v := .int (m_nx2 od x1)) (pcJ := 69) rfl L rfl rfl rfl ?_
    refine j_V.ldL fo1_M fo1_69 rfl (i := 3) (kd := 0) (v := .int (x_nx3 od x1)) (pcJ := 70) rfl L rfl rfl rfl ?_
    refine j_V.cl fo1_M fo1_70 rfl (md := 3) (mj := 15) rfl (by decide) fo0_M (As := [.ref 281, .int (m_nx2 od x1), .int (x_nx3 od x1)]) (rest := []) (jk_spl3 (K.at rfl) rfl rfl rfl (Nat.le_of_ble_eq_true rfl) (Nat.le_of_ble_eq_true rfl)) (fun d => fo0_ok K) ?_
    rintro r h9 ⟨rfl, K⟩
    show j_V jP _ 14 73 lv [] h9 _
    refine j_V.ldL fo1_M fo1_73 rfl (i := 2) (kd := 0) (v := .int (m_nx2 od x1)) (pcJ := 74) rfl L rfl rfl rfl ?_
    refine j_V.one fo1_M fo1_74 (by decide) (pcJ := 75) (stJ := [.int 1, .int (m_nx2 od x1)]) rfl ?_
    refine j_V.one fo1_M fo1_75 (by decide) (pcJ := 76) (stJ := [.int ((m_nx2 od x1) + 1)]) rfl ?_
    refine j_V.stL fo1_M fo1_76 rfl (i := 4) (kd := 0) (kl' := [(0, .ref 281), (1, .int x1), (2, .int (m_nx2 od x1)), (3, .int (x_nx3 od x1)), (4, .int ((m_nx2 od x1) + 1))]) (pcJ := 78) rfl L rfl (by decide) rfl rfl rfl (fun lv L => ?_)
    refine j_V.ldL fo1_M fo1_78 rfl (i := 1) (kd := 0) (v := .int x1) (pcJ := 79) rfl L rfl rfl rfl ?_
    refine j_V.one fo1_M fo1_79 (by decide) (pcJ := 80) (stJ := [.int 1, .int x1]) rfl ?_
    refine j_V.one fo1_M fo1_80 (by decide) (pcJ := 81) (stJ := [.int (x1 - 1)]) rfl ?_
    refine j_V.stL fo1_M fo1_81 rfl (i := 5) (kd := 0) (kl' := [(0, .ref 281), (1, .int x1), (2, .int (m_nx2 od x1)), (3, .int (x_nx3 od x1)), (4, .int ((m_nx2 od x1) + 1)), (5, .int (x1 - 1))]) (pcJ := 83) rfl L rfl (by decide) rfl rfl rfl (fun lv L => ?_)
    have K : KN h9 [(281, .inl (1, [.ref 282, .ref 307, .ref 323, .ref 324])), (323, .inr (.inl (0, (x_nxT od x1))))] h0 := K
    refine fo1_ok_l83 (x1 := x1) _ _ _ _ (Nat.le_refl _) (L.sub ⟨rfl, rfl, rfl, trivial⟩) K (fun lv h L K => ?_)
    refine j_V.one fo1_M fo1_107 (by decide) (pcJ := 108) (stJ := [.int 1]) rfl ?_
    refine j_V.ri fo1_M fo1_108 ?_
    rw [show x_nxo od x1 = (1, (m_noC (lpN (x1 - 1) (m_nx2 od x1 + 1)) (m_nx2 od x1 + 1) (x1 - 1) (x_nxT od x1))) from (if_neg c32_0).trans (rfl)]
    exact ⟨rfl, K⟩
  · replace c32_0 : (m_nx2 od x1) < 0 := jd_gen c32_0
    refine j_V.one fo1_M fo1_35 (by decide) (pcJ := 36) (stJ := [.int 0]) rfl ?_
    refine j_V.ri fo1_M fo1_36 ?_
    rw [show x_nxo od x1 = (0, od) from (if_pos c32_0).trans (rfl)]
    exact ⟨rfl, K⟩
def oT0 : List (List Int32) := [[0, 1, 2, 3, 4]]
def oT1 : List (List Int32) := [[0, 1, 2, 3, 4]]
def oT2 : List (List Int32) := [[0, 1, 2, 3, 4], [1, 0, 2, 3, 4]]
def oT3 : List (List Int32) := [[0, 1, 2, 3, 4], [0, 2, 1, 3, 4], [1, 0, 2, 3, 4], [1, 2, 0, 3, 4], [2, 0, 1, 3, 4], [2, 1, 0, 3, 4]]
def oT4 : List (List Int32) := [[0, 1, 2, 3, 4], [0, 1, 3, 2, 4], [0, 2, 1, 3, 4], [0, 2, 3, 1, 4], [0, 3, 1, 2, 4], [0, 3, 2, 1, 4], [1, 0, 2, 3, 4], [1, 0, 3, 2, 4], [1, 2, 0, 3, 4], [1, 2, 3, 0, 4], [1, 3, 0, 2, 4], [1, 3, 2, 0, 4], [2, 0, 1, 3, 4], [2, 0, 3, 1, 4], [2, 1, 0, 3, 4], [2, 1, 3, 0, 4], [2, 3, 0, 1, 4], [2, 3, 1, 0, 4], [3, 0, 1, 2, 4], [3, 0, 2, 1, 4], [3, 1, 0, 2, 4], [3, 1, 2, 0, 4], [3, 2, 0, 1, 4], [3, 2, 1, 0, 4]]
def oT5 : List (List Int32) := [[0, 1, 2, 3, 4], [0, 1, 2, 4, 3], [0, 1, 3, 2, 4], [0, 1, 3, 4, 2], [0, 1, 4, 2, 3], [0, 1, 4, 3, 2], [0, 2, 1, 3, 4], [0, 2, 1, 4, 3], [0, 2, 3, 1, 4], [0, 2, 3, 4, 1], [0, 2, 4, 1, 3], [0, 2, 4, 3, 1], [0, 3, 1, 2, 4], [0, 3, 1, 4, 2], [0, 3, 2, 1, 4], [0, 3, 2, 4, 1], [0, 3, 4, 1, 2], [0, 3, 4, 2, 1], [0, 4, 1, 2, 3], [0, 4, 1, 3, 2], [0, 4, 2, 1, 3], [0, 4, 2, 3, 1], [0, 4, 3, 1, 2], [0, 4, 3, 2, 1], [1, 0, 2, 3, 4], [1, 0, 2, 4, 3], [1, 0, 3, 2, 4], [1, 0, 3, 4, 2], [1, 0, 4, 2, 3], [1, 0, 4, 3, 2], [1, 2, 0, 3, 4], [1, 2, 0, 4, 3], [1, 2, 3, 0, 4], [1, 2, 3, 4, 0], [1, 2, 4, 0, 3], [1, 2, 4, 3, 0], [1, 3, 0, 2, 4], [1, 3, 0, 4, 2], [1, 3, 2, 0, 4], [1, 3, 2, 4, 0], [1, 3, 4, 0, 2], [1, 3, 4, 2, 0], [1, 4, 0, 2, 3], [1, 4, 0, 3, 2], [1, 4, 2, 0, 3], [1, 4, 2, 3, 0], [1, 4, 3, 0, 2], [1, 4, 3, 2, 0], [2, 0, 1, 3, 4], [2, 0, 1, 4, 3], [2, 0, 3, 1, 4], [2, 0, 3, 4, 1], [2, 0, 4, 1, 3], [2, 0, 4, 3, 1], [2, 1, 0, 3, 4], [2, 1, 0, 4, 3], [2, 1, 3, 0, 4], [2, 1, 3, 4, 0], [2, 1, 4, 0, 3], [2, 1, 4, 3, 0], [2, 3, 0, 1, 4], [2, 3, 0, 4, 1], [2, 3, 1, 0, 4], [2, 3, 1, 4, 0], [2, 3, 4, 0, 1], [2, 3, 4, 1, 0], [2, 4, 0, 1, 3], [2, 4, 0, 3, 1], [2, 4, 1, 0, 3], [2, 4, 1, 3, 0], [2, 4, 3, 0, 1], [2, 4, 3, 1, 0], [3, 0, 1, 2, 4], [3, 0, 1, 4, 2], [3, 0, 2, 1, 4], [3, 0, 2, 4, 1], [3, 0, 4, 1, 2], [3, 0, 4, 2, 1], [3, 1, 0, 2, 4], [3, 1, 0, 4, 2], [3, 1, 2, 0, 4], [3, 1, 2, 4, 0], [3, 1, 4, 0, 2], [3, 1, 4, 2, 0], [3, 2, 0, 1, 4], [3, 2, 0, 4, 1], [3, 2, 1, 0, 4], [3, 2, 1, 4, 0], [3, 2, 4, 0, 1], [3, 2, 4, 1, 0], [3, 4, 0, 1, 2], [3, 4, 0, 2, 1], [3, 4, 1, 0, 2], [3, 4, 1, 2, 0], [3, 4, 2, 0, 1], [3, 4, 2, 1, 0], [4, 0, 1, 2, 3], [4, 0, 1, 3, 2], [4, 0, 2, 1, 3], [4, 0, 2, 3, 1], [4, 0, 3, 1, 2], [4, 0, 3, 2, 1], [4, 1, 0, 2, 3], [4, 1, 0, 3, 2], [4, 1, 2, 0, 3], [4, 1, 2, 3, 0], [4, 1, 3, 0, 2], [4, 1, 3, 2, 0], [4, 2, 0, 1, 3], [4, 2, 0, 3, 1], [4, 2, 1, 0, 3], [4, 2, 1, 3, 0], [4, 2, 3, 0, 1], [4, 2, 3, 1, 0], [4, 3, 0, 1, 2], [4, 3, 0, 2, 1], [4, 3, 1, 0, 2], [4, 3, 1, 2, 0], [4, 3, 2, 0, 1], [4, 3, 2, 1, 0]]
/-- each order's next is the one that follows it in the list -/
def och (nx : List Int32 → Int32 × List Int32) : List (List Int32) → Prop
  | [] => False
  | [a] => (nx a).1 = 0
  | a :: b :: r => nx a = (1, b) ∧ och nx (b :: r)
def ochb (nx : List Int32 → Int32 × List Int32) : List (List Int32) → Bool
  | [] => false
  | [a] => decide ((nx a).1 = 0)
  | a :: b :: r => decide ((nx a).1 = 1) && (decide ((nx a).2 = b) && ochb nx (b :: r))
theorem och_of {nx : List Int32 → Int32 × List Int32} : ∀ (l : List (List Int32)), ochb nx l = true → och nx l
  | [], h => Bool.noConfusion h
  | [a], h => of_decide_eq_true (p := (nx a).1 = 0) h
  | a :: b :: r, h => by
    have h1 := (Bool.and_eq_true_iff.mp h)
    have h2 := (Bool.and_eq_true_iff.mp h1.2)
    exact ⟨Prod.ext (of_decide_eq_true h1.1) (of_decide_eq_true h2.1), och_of (b :: r) h2.2⟩
theorem oT0_x : och (fun a => x_nxo a 0) oT0 := och_of _ (by decide +kernel)
theorem oT1_x : och (fun a => x_nxo a 1) oT1 := och_of _ (by decide +kernel)
theorem oT2_x : och (fun a => x_nxo a 2) oT2 := och_of _ (by decide +kernel)
theorem oT3_x : och (fun a => x_nxo a 3) oT3 := och_of _ (by decide +kernel)
theorem oT4_x : och (fun a => x_nxo a 4) oT4 := och_of _ (by decide +kernel)
theorem oT5_x : och (fun a => x_nxo a 5) oT5 := och_of _ (by decide +kernel)

/-! the reference's trades, nextOrder, plan, by wip/px/gen_m13.py -/
set_option maxRecDepth 100000 in
theorem mw0_M : j_meth jP 267 = some (yX10_trades, cX10_trades, 4, none, 2, false, 10) := rfl
set_option maxRecDepth 100000 in
theorem mw0_0 : j_code jP 267 0 = some (.aload_n 0) := rfl
set_option maxRecDepth 100000 in
theorem mw0_1 : j_code jP 267 1 = some (.getfield 45) := rfl
set_option maxRecDepth 100000 in
theorem mw0_4 : j_code jP 267 4 = some (.iload_n 1) := rfl
set_option maxRecDepth 100000 in
theorem mw0_5 : j_code jP 267 5 = some (.iaload) := rfl
set_option maxRecDepth 100000 in
theorem mw0_6 : j_code jP 267 6 = some (.istore_n 3) := rfl
set_option maxRecDepth 100000 in
theorem mw0_7 : j_code jP 267 7 = some (.aload_n 0) := rfl
set_option maxRecDepth 100000 in
theorem mw0_8 : j_code jP 267 8 = some (.getfield 45) := rfl
set_option maxRecDepth 100000 in
theorem mw0_11 : j_code jP 267 11 = some (.iload_n 1) := rfl
set_option maxRecDepth 100000 in
theorem mw0_12 : j_code jP 267 12 = some (.aload_n 0) := rfl
set_option maxRecDepth 100000 in
theorem mw0_13 : j_code jP 267 13 = some (.getfield 45) := rfl
set_option maxRecDepth 100000 in
theorem mw0_16 : j_code jP 267 16 = some (.iload_n 2) := rfl
set_option maxRecDepth 100000 in
theorem mw0_17 : j_code jP 267 17 = some (.iaload) := rfl
set_option maxRecDepth 100000 in
theorem mw0_18 : j_code jP 267 18 = some (.iastore) := rfl
set_option maxRecDepth 100000 in
theorem mw0_19 : j_code jP 267 19 = some (.aload_n 0) := rfl
set_option maxRecDepth 100000 in
theorem mw0_20 : j_code jP 267 20 = some (.getfield 45) := rfl
set_option maxRecDepth 100000 in
theorem mw0_23 : j_code jP 267 23 = some (.iload_n 2) := rfl
set_option maxRecDepth 100000 in
theorem mw0_24 : j_code jP 267 24 = some (.iload_n 3) := rfl
set_option maxRecDepth 100000 in
theorem mw0_25 : j_code jP 267 25 = some (.iastore) := rfl
set_option maxRecDepth 100000 in
theorem mw0_26 : j_code jP 267 26 = some (.return_) := rfl
def m_trades (od : List Int32) (x1 : Int32) (x2 : Int32) : List Int32 := let od1 := (sA od x1 (gA od x2)); let od2 := (sA od1 x2 (gA od x1)); od2
set_option maxRecDepth 1000000 in
theorem mw0_ok {u : Nat → Value} {th : Int32} {sst : Int32} {acs : Int32} {od : List Int32} {x1 x2 : Int32} {d : Nat} {h h0 : J_H} (K : KN h [(359, .inl (10, [.int th, .ref 360, .ref 361, .ref 362, .ref 363, .ref 364, .ref 365, .ref 366, .ref 367, (u 9), .int sst, (u 11), (u 12), .int acs, (u 14), (u 15), (u 16), (u 17), (u 18), (u 19), (u 20), (u 21), .ref 368, (u 23), .ref 369, .ref 370, .ref 371, (u 27)])), (369, .inr (.inl (0, od)))] h0) : j_V jP d 267 0 (lv_args 0 [.ref 359, .int x1, .int x2]) [] h (fun rv h' => rv = none ∧ KN h' [(359, .inl (10, [.int th, .ref 360, .ref 361, .ref 362, .ref 363, .ref 364, .ref 365, .ref 366, .ref 367, (u 9), .int sst, (u 11), (u 12), .int acs, (u 14), (u 15), (u 16), (u 17), (u 18), (u 19), (u 20), (u 21), .ref 368, (u 23), .ref 369, .ref 370, .ref 371, (u 27)])), (369, .inr (.inl (0, (m_trades od x1 x2))))] h0) := by
  show j_V jP d 267 0 [(0, .ref 359), (1, .int x1), (2, .int x2)] [] h _
  obtain ⟨lv, elv, L⟩ : ∃ lv, lv = [(0, .ref 359), (1, .int x1), (2, .int x2)] ∧ LK lv [(0, .ref 359), (1, .int x1), (2, .int x2)] := ⟨_, rfl, LK.rf⟩
  rw [← elv]
  clear elv
  refine j_V.ldL mw0_M mw0_0 rfl (i := 0) (kd := 2) (v := .ref 359) (pcJ := 1) rfl L rfl rfl rfl ?_
  refine j_V.getK mw0_M mw0_1 (ci := 10) (j := 24) rfl K rfl rfl ?_
  refine j_V.ldL mw0_M mw0_4 rfl (i := 1) (kd := 0) (v := .int x1) (pcJ := 5) rfl L rfl rfl rfl ?_
  refine j_V.iaA mw0_M mw0_5 K rfl ?_
  refine j_V.stL mw0_M mw0_6 rfl (i := 3) (kd := 0) (kl' := [(0, .ref 359), (1, .int x1), (2, .int x2), (3, .int (gA od x1))]) (pcJ := 7) rfl L rfl (by decide) rfl rfl rfl (fun lv L => ?_)
  refine j_V.ldL mw0_M mw0_7 rfl (i := 0) (kd := 2) (v := .ref 359) (pcJ := 8) rfl L rfl rfl rfl ?_
  refine j_V.getK mw0_M mw0_8 (ci := 10) (j := 24) rfl K rfl rfl ?_
  refine j_V.ldL mw0_M mw0_11 rfl (i := 1) (kd := 0) (v := .int x1) (pcJ := 12) rfl L rfl rfl rfl ?_
  refine j_V.ldL mw0_M mw0_12 rfl (i := 0) (kd := 2) (v := .ref 359) (pcJ := 13) rfl L rfl rfl rfl ?_
  refine j_V.getK mw0_M mw0_13 (ci := 10) (j := 24) rfl K rfl rfl ?_
  refine j_V.ldL mw0_M mw0_16 rfl (i := 2) (kd := 0) (v := .int x2) (pcJ := 17) rfl L rfl rfl rfl ?_
  refine j_V.iaA mw0_M mw0_17 K rfl ?_
  refine j_V.isA mw0_M mw0_18 (k' := [(359, .inl (10, [.int th, .ref 360, .ref 361, .ref 362, .ref 363, .ref 364, .ref 365, .ref 366, .ref 367, (u 9), .int sst, (u 11), (u 12), .int acs, (u 14), (u 15), (u 16), (u 17), (u 18), (u 19), (u 20), (u 21), .ref 368, (u 23), .ref 369, .ref 370, .ref 371, (u 27)])), (369, .inr (.inl (0, (sA od x1 (gA od x2)))))]) K rfl rfl (fun h K => ?_)
  obtain ⟨od1, eod1⟩ : ∃ z, z = (sA od x1 (gA od x2)) := ⟨_, rfl⟩
  rw [← eod1] at K
  refine j_V.ldL mw0_M mw0_19 rfl (i := 0) (kd := 2) (v := .ref 359) (pcJ := 20) rfl L rfl rfl rfl ?_
  refine j_V.getK mw0_M mw0_20 (ci := 10) (j := 24) rfl K rfl rfl ?_
  refine j_V.ldL mw0_M mw0_23 rfl (i := 2) (kd := 0) (v := .int x2) (pcJ := 24) rfl L rfl rfl rfl ?_
  refine j_V.ldL mw0_M mw0_24 rfl (i := 3) (kd := 0) (v := .int (gA od x1)) (pcJ := 25) rfl L rfl rfl rfl ?_
  refine j_V.isA mw0_M mw0_25 (k' := [(359, .inl (10, [.int th, .ref 360, .ref 361, .ref 362, .ref 363, .ref 364, .ref 365, .ref 366, .ref 367, (u 9), .int sst, (u 11), (u 12), .int acs, (u 14), (u 15), (u 16), (u 17), (u 18), (u 19), (u 20), (u 21), .ref 368, (u 23), .ref 369, .ref 370, .ref 371, (u 27)])), (369, .inr (.inl (0, (sA od1 x2 (gA od x1)))))]) K rfl rfl (fun h K => ?_)
  obtain ⟨od2, eod2⟩ : ∃ z, z = (sA od1 x2 (gA od x1)) := ⟨_, rfl⟩
  rw [← eod2] at K
  subst eod2
  subst eod1
  refine j_V.ret mw0_M mw0_26 rfl rfl ?_
  rw [show (m_trades od x1 x2) = _ from (rfl)]
  exact ⟨rfl, K⟩
theorem m_dn {v : Int32} {f : Nat} (h : v.toInt < ((f + 1 : Nat) : Int)) (c : ¬ v < 0) : (v + (-1)).toInt < (f : Int) := by
  rw [Int32.lt_iff_toInt_lt, show (0 : Int32).toInt = 0 from rfl] at c
  have h1 := Int32.toInt_lt v
  rw [Int32.toInt_add, show (-1 : Int32).toInt = -1 from rfl, Int.bmod_eq_of_le (by omega) (by omega)]
  omega
theorem m_dz {v : Int32} (h : v.toInt < ((0 : Nat) : Int)) : v < 0 := by
  rw [Int32.lt_iff_toInt_lt, show (0 : Int32).toInt = 0 from rfl]
  omega
theorem m_up {a b : Int32} {f : Nat} (h : lpN b a ≤ f + 1) (c : a < b) : lpN (b + (-1)) (a + 1) ≤ f := by
  rw [Int32.lt_iff_toInt_lt] at c
  have h1 := Int32.toInt_lt b
  have h2 := Int32.le_toInt a
  have h3 := Int32.toInt_lt a
  have h4 := Int32.le_toInt b
  unfold lpN at h ⊢
  rw [Int32.toInt_add, Int32.toInt_add, show (-1 : Int32).toInt = -1 from rfl, show (1 : Int32).toInt = 1 from rfl, Int.bmod_eq_of_le (by omega) (by omega), Int.bmod_eq_of_le (by omega) (by omega)]
  omega
theorem m_uz {a b : Int32} (h : lpN b a ≤ 0) : ¬ a < b := lpN_z (by omega)
def m_noA (od : List Int32) : Nat → Int32 → Int32
  | 0, v2 => v2
  | f + 1, v2 => if v2 < 0 then v2 else (if (gA od (v2 + 1)) < (gA od v2) then m_noA od f (v2 + (-1)) else v2)
def m_noB (od : List Int32) (v2 : Int32) : Nat → Int32 → Int32
  | 0, v3 => v3
  | f + 1, v3 => if (gA od v3) < (gA od v2) then m_noB od v2 f (v3 + (-1)) else v3
def m_pB (od : List Int32) (v2 : Int32) : Nat → Int32 → Prop
  | 0, v3 => ¬ (gA od v3) < (gA od v2)
  | f + 1, v3 => ¬ (gA od v3) < (gA od v2) ∨ m_pB od v2 f (v3 + (-1))
def m_noC : Nat → Int32 → Int32 → List Int32 → List Int32
  | 0, _, _, od => od
  | f + 1, v4, v5, od => if v4 < v5 then m_noC f (v4 + 1) (v5 + (-1)) (m_trades od v4 v5) else od
set_option maxRecDepth 100000 in
theorem mw1_M : j_meth jP 266 = some (yX10_nextOrder, cX10_nextOrder, 6, (some .boolean), 1, false, 10) := rfl
set_option maxRecDepth 100000 in
theorem mw1_0 : j_code jP 266 0 = some (.iload_n 1) := rfl
set_option maxRecDepth 100000 in
theorem mw1_1 : j_code jP 266 1 = some (.iconst 2) := rfl
set_option maxRecDepth 100000 in
theorem mw1_2 : j_code jP 266 2 = some (.isub) := rfl
set_option maxRecDepth 100000 in
theorem mw1_3 : j_code jP 266 3 = some (.istore_n 2) := rfl
set_option maxRecDepth 100000 in
theorem mw1_4 : j_code jP 266 4 = some (.iload_n 2) := rfl
set_option maxRecDepth 100000 in
theorem mw1_5 : j_code jP 266 5 = some (.ifCond .lt 26) := rfl
set_option maxRecDepth 100000 in
theorem mw1_8 : j_code jP 266 8 = some (.aload_n 0) := rfl
set_option maxRecDepth 100000 in
theorem mw1_9 : j_code jP 266 9 = some (.getfield 45) := rfl
set_option maxRecDepth 100000 in
theorem mw1_12 : j_code jP 266 12 = some (.iload_n 2) := rfl
set_option maxRecDepth 100000 in
theorem mw1_13 : j_code jP 266 13 = some (.iaload) := rfl
set_option maxRecDepth 100000 in
theorem mw1_14 : j_code jP 266 14 = some (.aload_n 0) := rfl
set_option maxRecDepth 100000 in
theorem mw1_15 : j_code jP 266 15 = some (.getfield 45) := rfl
set_option maxRecDepth 100000 in
theorem mw1_18 : j_code jP 266 18 = some (.iload_n 2) := rfl
set_option maxRecDepth 100000 in
theorem mw1_19 : j_code jP 266 19 = some (.iconst 1) := rfl
set_option maxRecDepth 100000 in
theorem mw1_20 : j_code jP 266 20 = some (.iadd) := rfl
set_option maxRecDepth 100000 in
theorem mw1_21 : j_code jP 266 21 = some (.iaload) := rfl
set_option maxRecDepth 100000 in
theorem mw1_22 : j_code jP 266 22 = some (.if_icmp .le 9) := rfl
set_option maxRecDepth 100000 in
theorem mw1_25 : j_code jP 266 25 = some (.iinc 2 (-1)) := rfl
set_option maxRecDepth 100000 in
theorem mw1_28 : j_code jP 266 28 = some (.goto (-24)) := rfl
set_option maxRecDepth 100000 in
theorem mw1_31 : j_code jP 266 31 = some (.iload_n 2) := rfl
set_option maxRecDepth 100000 in
theorem mw1_32 : j_code jP 266 32 = some (.ifCond .ge 5) := rfl
set_option maxRecDepth 100000 in
theorem mw1_35 : j_code jP 266 35 = some (.iconst 0) := rfl
set_option maxRecDepth 100000 in
theorem mw1_36 : j_code jP 266 36 = some (.ireturn) := rfl
set_option maxRecDepth 100000 in
theorem mw1_37 : j_code jP 266 37 = some (.iload_n 1) := rfl
set_option maxRecDepth 100000 in
theorem mw1_38 : j_code jP 266 38 = some (.iconst 1) := rfl
set_option maxRecDepth 100000 in
theorem mw1_39 : j_code jP 266 39 = some (.isub) := rfl
set_option maxRecDepth 100000 in
theorem mw1_40 : j_code jP 266 40 = some (.istore_n 3) := rfl
set_option maxRecDepth 100000 in
theorem mw1_41 : j_code jP 266 41 = some (.aload_n 0) := rfl
set_option maxRecDepth 100000 in
theorem mw1_42 : j_code jP 266 42 = some (.getfield 45) := rfl
set_option maxRecDepth 100000 in
theorem mw1_45 : j_code jP 266 45 = some (.iload_n 3) := rfl
set_option maxRecDepth 100000 in
theorem mw1_46 : j_code jP 266 46 = some (.iaload) := rfl
set_option maxRecDepth 100000 in
theorem mw1_47 : j_code jP 266 47 = some (.aload_n 0) := rfl
set_option maxRecDepth 100000 in
theorem mw1_48 : j_code jP 266 48 = some (.getfield 45) := rfl
set_option maxRecDepth 100000 in
theorem mw1_51 : j_code jP 266 51 = some (.iload_n 2) := rfl
set_option maxRecDepth 100000 in
theorem mw1_52 : j_code jP 266 52 = some (.iaload) := rfl
set_option maxRecDepth 100000 in
theorem mw1_53 : j_code jP 266 53 = some (.if_icmp .ge 9) := rfl
set_option maxRecDepth 100000 in
theorem mw1_56 : j_code jP 266 56 = some (.iinc 3 (-1)) := rfl
set_option maxRecDepth 100000 in
theorem mw1_59 : j_code jP 266 59 = some (.goto (-18)) := rfl
set_option maxRecDepth 100000 in
theorem mw1_62 : j_code jP 266 62 = some (.aload_n 0) := rfl
set_option maxRecDepth 100000 in
theorem mw1_63 : j_code jP 266 63 = some (.iload_n 2) := rfl
set_option maxRecDepth 100000 in
theorem mw1_64 : j_code jP 266 64 = some (.iload_n 3) := rfl
set_option maxRecDepth 100000 in
theorem mw1_65 : j_code jP 266 65 = some (.invokevirtual 335) := rfl
set_option maxRecDepth 100000 in
theorem mw1_68 : j_code jP 266 68 = some (.iload_n 2) := rfl
set_option maxRecDepth 100000 in
theorem mw1_69 : j_code jP 266 69 = some (.iconst 1) := rfl
set_option maxRecDepth 100000 in
theorem mw1_70 : j_code jP 266 70 = some (.iadd) := rfl
set_option maxRecDepth 100000 in
theorem mw1_71 : j_code jP 266 71 = some (.istore 4) := rfl
set_option maxRecDepth 100000 in
theorem mw1_73 : j_code jP 266 73 = some (.iload_n 1) := rfl
set_option maxRecDepth 100000 in
theorem mw1_74 : j_code jP 266 74 = some (.iconst 1) := rfl
set_option maxRecDepth 100000 in
theorem mw1_75 : j_code jP 266 75 = some (.isub) := rfl
set_option maxRecDepth 100000 in
theorem mw1_76 : j_code jP 266 76 = some (.istore 5) := rfl
set_option maxRecDepth 100000 in
theorem mw1_78 : j_code jP 266 78 = some (.iload 4) := rfl
set_option maxRecDepth 100000 in
theorem mw1_80 : j_code jP 266 80 = some (.iload 5) := rfl
set_option maxRecDepth 100000 in
theorem mw1_82 : j_code jP 266 82 = some (.if_icmp .ge 20) := rfl
set_option maxRecDepth 100000 in
theorem mw1_85 : j_code jP 266 85 = some (.aload_n 0) := rfl
set_option maxRecDepth 100000 in
theorem mw1_86 : j_code jP 266 86 = some (.iload 4) := rfl
set_option maxRecDepth 100000 in
theorem mw1_88 : j_code jP 266 88 = some (.iload 5) := rfl
set_option maxRecDepth 100000 in
theorem mw1_90 : j_code jP 266 90 = some (.invokevirtual 335) := rfl
set_option maxRecDepth 100000 in
theorem mw1_93 : j_code jP 266 93 = some (.iinc 4 1) := rfl
set_option maxRecDepth 100000 in
theorem mw1_96 : j_code jP 266 96 = some (.iinc 5 (-1)) := rfl
set_option maxRecDepth 100000 in
theorem mw1_99 : j_code jP 266 99 = some (.goto (-21)) := rfl
set_option maxRecDepth 100000 in
theorem mw1_102 : j_code jP 266 102 = some (.iconst 1) := rfl
set_option maxRecDepth 100000 in
theorem mw1_103 : j_code jP 266 103 = some (.ireturn) := rfl
set_option maxRecDepth 1000000 in
theorem mw1_ok_l4 {u : Nat → Value} {d : Nat} {h0 : J_H} {th sst acs tm x1  : Int32} {w sd ot kp tk od be : List Int32} {Q : Option Value → J_H → Prop} : ∀ (f : Nat) (v2 : Int32) {lv : J_L} {h : J_H}, v2.toInt < (f : Int) → LK lv [(0, .ref 359), (1, .int x1), (2, .int v2)] → KN h [(359, .inl (10, [.int th, .ref 360, .ref 361, .ref 362, .ref 363, .ref 364, .ref 365, .ref 366, .ref 367, (u 9), .int sst, (u 11), (u 12), .int acs, (u 14), (u 15), (u 16), (u 17), (u 18), (u 19), (u 20), (u 21), .ref 368, .int tm, .ref 369, .ref 370, .ref 371, (u 27)])), (360, .inr (.inl (0, w))), (362, .inr (.inl (0, sd))), (363, .inr (.inl (0, ot))), (364, .inr (.inl (0, kp))), (368, .inr (.inl (0, tk))), (369, .inr (.inl (0, od))), (370, .inr (.inl (0, be)))] h0 → (∀ lv h, LK lv [(0, .ref 359), (1, .int x1), (2, .int (m_noA od f v2))] → KN h [(359, .inl (10, [.int th, .ref 360, .ref 361, .ref 362, .ref 363, .ref 364, .ref 365, .ref 366, .ref 367, (u 9), .int sst, (u 11), (u 12), .int acs, (u 14), (u 15), (u 16), (u 17), (u 18), (u 19), (u 20), (u 21), .ref 368, .int tm, .ref 369, .ref 370, .ref 371, (u 27)])), (360, .inr (.inl (0, w))), (362, .inr (.inl (0, sd))), (363, .inr (.inl (0, ot))), (364, .inr (.inl (0, kp))), (368, .inr (.inl (0, tk))), (369, .inr (.inl (0, od))), (370, .inr (.inl (0, be)))] h0 → j_V jP d 266 31 lv [] h Q) → j_V jP d 266 4 lv [] h Q := by
  intro f
  induction f with
  | zero =>
    intro v2 lv h e L K kk
    refine j_V.ldL mw1_M mw1_4 rfl (i := 2) (kd := 0) (v := .int v2) (pcJ := 5) rfl L rfl rfl rfl ?_
    refine j_V.ifc mw1_M mw1_5 (t := 31) rfl (fun c5_0 => ?_) (fun c5_0 => ?_)
    · replace c5_0 : v2 < 0 := jd_lt c5_0
      exact kk _ _ L K
    · replace c5_0 : ¬ (v2 < 0) := jd_ltn c5_0
      exact absurd (m_dz e) c5_0
  | succ f ih =>
    intro v2 lv h e L K kk
    refine j_V.ldL mw1_M mw1_4 rfl (i := 2) (kd := 0) (v := .int v2) (pcJ := 5) rfl L rfl rfl rfl ?_
    refine j_V.ifc mw1_M mw1_5 (t := 31) rfl (fun c5_0 => ?_) (fun c5_0 => ?_)
    · replace c5_0 : v2 < 0 := jd_lt c5_0
      rw [show m_noA od (f + 1) v2 = _ from ((if_pos c5_0).trans (rfl))] at kk
      exact kk _ _ L K
    · replace c5_0 : ¬ (v2 < 0) := jd_ltn c5_0
      refine j_V.ldL mw1_M mw1_8 rfl (i := 0) (kd := 2) (v := .ref 359) (pcJ := 9) rfl L rfl rfl rfl ?_
      refine j_V.getK mw1_M mw1_9 (ci := 10) (j := 24) rfl K rfl rfl ?_
      refine j_V.ldL mw1_M mw1_12 rfl (i := 2) (kd := 0) (v := .int v2) (pcJ := 13) rfl L rfl rfl rfl ?_
      refine j_V.iaA mw1_M mw1_13 K rfl ?_
      refine j_V.ldL mw1_M mw1_14 rfl (i := 0) (kd := 2) (v := .ref 359) (pcJ := 15) rfl L rfl rfl rfl ?_
      refine j_V.getK mw1_M mw1_15 (ci := 10) (j := 24) rfl K rfl rfl ?_
      refine j_V.ldL mw1_M mw1_18 rfl (i := 2) (kd := 0) (v := .int v2) (pcJ := 19) rfl L rfl rfl rfl ?_
      refine j_V.one mw1_M mw1_19 (by decide) (pcJ := 20) (stJ := [.int 1, .int v2, .ref 369, .int (gA od v2)]) rfl ?_
      refine j_V.one mw1_M mw1_20 (by decide) (pcJ := 21) (stJ := [.int (v2 + 1), .ref 369, .int (gA od v2)]) rfl ?_
      refine j_V.iaA mw1_M mw1_21 K rfl ?_
      refine j_V.icmp mw1_M mw1_22 (t := 31) rfl (fun c22_1 => ?_) (fun c22_1 => ?_)
      · replace c22_1 : ¬ ((gA od (v2 + 1)) < (gA od v2)) := jd_le c22_1
        rw [show m_noA od (f + 1) v2 = _ from ((if_neg c5_0).trans ((if_neg c22_1).trans (rfl)))] at kk
        exact kk _ _ L K
      · replace c22_1 : (gA od (v2 + 1)) < (gA od v2) := jd_len c22_1
        refine j_V.inL mw1_M mw1_25 (i := 2) (kl' := [(0, .ref 359), (1, .int x1), (2, .int (v2 + (-1)))]) (pcJ := 28) L rfl rfl rfl rfl (fun lv L => ?_)
        refine j_V.gto mw1_M mw1_28 (t := 4) rfl ?_
        rw [show m_noA od (f + 1) v2 = m_noA od f (v2 + (-1)) from (if_neg c5_0).trans ((if_pos c22_1).trans (rfl))] at kk
        exact ih _ (m_dn e c5_0) L K kk
set_option maxRecDepth 1000000 in
theorem mw1_ok_l41 {u : Nat → Value} {d : Nat} {h0 : J_H} {th sst acs tm x1 v2 : Int32} {w sd ot kp tk od be : List Int32} {Q : Option Value → J_H → Prop} : ∀ (f : Nat) (v3 : Int32) {lv : J_L} {h : J_H}, m_pB od v2 f v3 → LK lv [(0, .ref 359), (1, .int x1), (2, .int v2), (3, .int v3)] → KN h [(359, .inl (10, [.int th, .ref 360, .ref 361, .ref 362, .ref 363, .ref 364, .ref 365, .ref 366, .ref 367, (u 9), .int sst, (u 11), (u 12), .int acs, (u 14), (u 15), (u 16), (u 17), (u 18), (u 19), (u 20), (u 21), .ref 368, .int tm, .ref 369, .ref 370, .ref 371, (u 27)])), (360, .inr (.inl (0, w))), (362, .inr (.inl (0, sd))), (363, .inr (.inl (0, ot))), (364, .inr (.inl (0, kp))), (368, .inr (.inl (0, tk))), (369, .inr (.inl (0, od))), (370, .inr (.inl (0, be)))] h0 → (∀ lv h, LK lv [(0, .ref 359), (1, .int x1), (2, .int v2), (3, .int (m_noB od v2 f v3))] → KN h [(359, .inl (10, [.int th, .ref 360, .ref 361, .ref 362, .ref 363, .ref 364, .ref 365, .ref 366, .ref 367, (u 9), .int sst, (u 11), (u 12), .int acs, (u 14), (u 15), (u 16), (u 17), (u 18), (u 19), (u 20), (u 21), .ref 368, .int tm, .ref 369, .ref 370, .ref 371, (u 27)])), (360, .inr (.inl (0, w))), (362, .inr (.inl (0, sd))), (363, .inr (.inl (0, ot))), (364, .inr (.inl (0, kp))), (368, .inr (.inl (0, tk))), (369, .inr (.inl (0, od))), (370, .inr (.inl (0, be)))] h0 → j_V jP d 266 62 lv [] h Q) → j_V jP d 266 41 lv [] h Q := by
  intro f
  induction f with
  | zero =>
    intro v3 lv h e L K kk
    refine j_V.ldL mw1_M mw1_41 rfl (i := 0) (kd := 2) (v := .ref 359) (pcJ := 42) rfl L rfl rfl rfl ?_
    refine j_V.getK mw1_M mw1_42 (ci := 10) (j := 24) rfl K rfl rfl ?_
    refine j_V.ldL mw1_M mw1_45 rfl (i := 3) (kd := 0) (v := .int v3) (pcJ := 46) rfl L rfl rfl rfl ?_
    refine j_V.iaA mw1_M mw1_46 K rfl ?_
    refine j_V.ldL mw1_M mw1_47 rfl (i := 0) (kd := 2) (v := .ref 359) (pcJ := 48) rfl L rfl rfl rfl ?_
    refine j_V.getK mw1_M mw1_48 (ci := 10) (j := 24) rfl K rfl rfl ?_
    refine j_V.ldL mw1_M mw1_51 rfl (i := 2) (kd := 0) (v := .int v2) (pcJ := 52) rfl L rfl rfl rfl ?_
    refine j_V.iaA mw1_M mw1_52 K rfl ?_
    refine j_V.icmp mw1_M mw1_53 (t := 62) rfl (fun c53_0 => ?_) (fun c53_0 => ?_)
    · replace c53_0 : ¬ ((gA od v3) < (gA od v2)) := jd_ge c53_0
      exact kk _ _ L K
    · replace c53_0 : (gA od v3) < (gA od v2) := jd_gen c53_0
      exact absurd c53_0 e
  | succ f ih =>
    intro v3 lv h e L K kk
    refine j_V.ldL mw1_M mw1_41 rfl (i := 0) (kd := 2) (v := .ref 359) (pcJ := 42) rfl L rfl rfl rfl ?_
    refine j_V.getK mw1_M mw1_42 (ci := 10) (j := 24) rfl K rfl rfl ?_
    refine j_V.ldL mw1_M mw1_45 rfl (i := 3) (kd := 0) (v := .int v3) (pcJ := 46) rfl L rfl rfl rfl ?_
    refine j_V.iaA mw1_M mw1_46 K rfl ?_
    refine j_V.ldL mw1_M mw1_47 rfl (i := 0) (kd := 2) (v := .ref 359) (pcJ := 48) rfl L rfl rfl rfl ?_
    refine j_V.getK mw1_M mw1_48 (ci := 10) (j := 24) rfl K rfl rfl ?_
    refine j_V.ldL mw1_M mw1_51 rfl (i := 2) (kd := 0) (v := .int v2) (pcJ := 52) rfl L rfl rfl rfl ?_
    refine j_V.iaA mw1_M mw1_52 K rfl ?_
    refine j_V.icmp mw1_M mw1_53 (t := 62) rfl (fun c53_0 => ?_) (fun c53_0 => ?_)
    · replace c53_0 : ¬ ((gA od v3) < (gA od v2)) := jd_ge c53_0
      rw [show m_noB od v2 (f + 1) v3 = _ from ((if_neg c53_0).trans (rfl))] at kk
      exact kk _ _ L K
    · replace c53_0 : (gA od v3) < (gA od v2) := jd_gen c53_0
      refine j_V.inL mw1_M mw1_56 (i := 3) (kl' := [(0, .ref 359), (1, .int x1), (2, .int v2), (3, .int (v3 + (-1)))]) (pcJ := 59) L rfl rfl rfl rfl (fun lv L => ?_)
      refine j_V.gto mw1_M mw1_59 (t := 41) rfl ?_
      rw [show m_noB od v2 (f + 1) v3 = m_noB od v2 f (v3 + (-1)) from (if_pos c53_0).trans (rfl)] at kk
      exact ih _ (e.resolve_left (fun z => z c53_0)) L K kk
set_option maxRecDepth 1000000 in
theorem mw1_ok_l78 {u : Nat → Value} {d : Nat} {h0 : J_H} {th sst acs tm x1  : Int32} {w sd ot kp tk be : List Int32} {Q : Option Value → J_H → Prop} : ∀ (f : Nat) (v4 v5 : Int32) (od : List Int32) {lv : J_L} {h : J_H}, lpN v5 v4 ≤ f → LK lv [(0, .ref 359), (4, .int v4), (5, .int v5)] → KN h [(359, .inl (10, [.int th, .ref 360, .ref 361, .ref 362, .ref 363, .ref 364, .ref 365, .ref 366, .ref 367, (u 9), .int sst, (u 11), (u 12), .int acs, (u 14), (u 15), (u 16), (u 17), (u 18), (u 19), (u 20), (u 21), .ref 368, .int tm, .ref 369, .ref 370, .ref 371, (u 27)])), (360, .inr (.inl (0, w))), (362, .inr (.inl (0, sd))), (363, .inr (.inl (0, ot))), (364, .inr (.inl (0, kp))), (368, .inr (.inl (0, tk))), (369, .inr (.inl (0, od))), (370, .inr (.inl (0, be)))] h0 → (∀ lv h, LK lv [(0, .ref 359)] → KN h [(359, .inl (10, [.int th, .ref 360, .ref 361, .ref 362, .ref 363, .ref 364, .ref 365, .ref 366, .ref 367, (u 9), .int sst, (u 11), (u 12), .int acs, (u 14), (u 15), (u 16), (u 17), (u 18), (u 19), (u 20), (u 21), .ref 368, .int tm, .ref 369, .ref 370, .ref 371, (u 27)])), (360, .inr (.inl (0, w))), (362, .inr (.inl (0, sd))), (363, .inr (.inl (0, ot))), (364, .inr (.inl (0, kp))), (368, .inr (.inl (0, tk))), (369, .inr (.inl (0, (m_noC f v4 v5 od)))), (370, .inr (.inl (0, be)))] h0 → j_V jP d 266 102 lv [] h Q) → j_V jP d 266 78 lv [] h Q := by
  intro f
  induction f with
  | zero =>
    intro v4 v5 od lv h e L K kk
    refine j_V.ldL mw1_M mw1_78 rfl (i := 4) (kd := 0) (v := .int v4) (pcJ := 80) rfl L rfl rfl rfl ?_
    refine j_V.ldL mw1_M mw1_80 rfl (i := 5) (kd := 0) (v := .int v5) (pcJ := 82) rfl L rfl rfl rfl ?_
    refine j_V.icmp mw1_M mw1_82 (t := 102) rfl (fun c82_0 => ?_) (fun c82_0 => ?_)
    · replace c82_0 : ¬ (v4 < v5) := jd_ge c82_0
      exact kk _ _ (L.sub ⟨rfl, trivial⟩) K
    · replace c82_0 : v4 < v5 := jd_gen c82_0
      exact absurd c82_0 (m_uz e)
  | succ f ih =>
    intro v4 v5 od lv h e L K kk
    refine j_V.ldL mw1_M mw1_78 rfl (i := 4) (kd := 0) (v := .int v4) (pcJ := 80) rfl L rfl rfl rfl ?_
    refine j_V.ldL mw1_M mw1_80 rfl (i := 5) (kd := 0) (v := .int v5) (pcJ := 82) rfl L rfl rfl rfl ?_
    refine j_V.icmp mw1_M mw1_82 (t := 102) rfl (fun c82_0 => ?_) (fun c82_0 => ?_)
    · replace c82_0 : ¬ (v4 < v5) := jd_ge c82_0
      rw [show m_noC (f + 1) v4 v5 od = _ from ((if_neg c82_0).trans (rfl))] at kk
      exact kk _ _ (L.sub ⟨rfl, trivial⟩) K
    · replace c82_0 : v4 < v5 := jd_gen c82_0
      refine j_V.ldL mw1_M mw1_85 rfl (i := 0) (kd := 2) (v := .ref 359) (pcJ := 86) rfl L rfl rfl rfl ?_
      refine j_V.ldL mw1_M mw1_86 rfl (i := 4) (kd := 0) (v := .int v4) (pcJ := 88) rfl L rfl rfl rfl ?_
      refine j_V.ldL mw1_M mw1_88 rfl (i := 5) (kd := 0) (v := .int v5) (pcJ := 90) rfl L rfl rfl rfl ?_
      refine j_V.cl mw1_M mw1_90 rfl (md := 3) (mj := 267) rfl (by decide) mw0_M (As := [.ref 359, .int v4, .int v5]) (rest := []) (jk_spl3 (K.at rfl) rfl rfl rfl (Nat.le_of_ble_eq_true rfl) (Nat.le_of_ble_eq_true rfl)) (fun d => mw0_ok (u := fun j => [.int th, .ref 360, .ref 361, .ref 362, .ref 363, .ref 364, .ref 365, .ref 366, .ref 367, (u 9), .int sst, (u 11), (u 12), .int acs, (u 14), (u 15), (u 16), (u 17), (u 18), (u 19), (u 20), (u 21), .ref 368, .int tm, .ref 369, .ref 370, .ref 371, (u 27)].getD j .null) (K.fi [359, 369] rfl rfl)) ?_
      rintro r h9 ⟨rfl, K9⟩
      have K : KN h9 [(359, .inl (10, [.int th, .ref 360, .ref 361, .ref 362, .ref 363, .ref 364, .ref 365, .ref 366, .ref 367, (u 9), .int sst, (u 11), (u 12), .int acs, (u 14), (u 15), (u 16), (u 17), (u 18), (u 19), (u 20), (u 21), .ref 368, .int tm, .ref 369, .ref 370, .ref 371, (u 27)])), (360, .inr (.inl (0, w))), (362, .inr (.inl (0, sd))), (363, .inr (.inl (0, ot))), (364, .inr (.inl (0, kp))), (368, .inr (.inl (0, tk))), (369, .inr (.inl (0, ((m_trades od v4 v5))))), (370, .inr (.inl (0, be)))] h0 := K.mg K9 rfl rfl
      clear K9
      show j_V jP _ 266 93 lv [] h9 _
      refine j_V.inL mw1_M mw1_93 (i := 4) (kl' := [(0, .ref 359), (4, .int (v4 + 1)), (5, .int v5)]) (pcJ := 96) L rfl rfl rfl rfl (fun lv L => ?_)
      refine j_V.inL mw1_M mw1_96 (i := 5) (kl' := [(0, .ref 359), (4, .int (v4 + 1)), (5, .int (v5 + (-1)))]) (pcJ := 99) L rfl rfl rfl rfl (fun lv L => ?_)
      refine j_V.gto mw1_M mw1_99 (t := 78) rfl ?_
      rw [show m_noC (f + 1) v4 v5 od = m_noC f (v4 + 1) (v5 + (-1)) (m_trades od v4 v5) from (if_pos c82_0).trans (rfl)] at kk
      exact ih _ _ _ (m_up e c82_0) L K kk
/-- the next order, if there is one -/
def m_nx2 (od : List Int32) (x1 : Int32) : Int32 := m_noA od 5 (x1 - 2)
def m_nx3 (od : List Int32) (x1 : Int32) : Int32 := m_noB od (m_nx2 od x1) 5 (x1 - 1)
def m_nxT (od : List Int32) (x1 : Int32) : List Int32 := m_trades od (m_nx2 od x1) (m_nx3 od x1)
def m_next_ (od : List Int32) (x1 : Int32) : Int32 × List Int32 := if (m_nx2 od x1) < 0 then (0, od) else (1, m_noC (lpN (x1 - 1) (m_nx2 od x1 + 1)) (m_nx2 od x1 + 1) (x1 - 1) (m_nxT od x1))
def m_nxok (od : List Int32) (x1 : Int32) : Prop := (x1 - 2).toInt < 5 ∧ (¬ (m_nx2 od x1) < 0 → m_pB od (m_nx2 od x1) 5 (x1 - 1))
set_option maxRecDepth 1000000 in
theorem mw1_ok {u : Nat → Value} {d : Nat} {h h0 : J_H} {th sst acs tm x1 : Int32} {w sd ot kp tk od be : List Int32} (hn : m_nxok od x1) (K : KN h [(359, .inl (10, [.int th, .ref 360, .ref 361, .ref 362, .ref 363, .ref 364, .ref 365, .ref 366, .ref 367, (u 9), .int sst, (u 11), (u 12), .int acs, (u 14), (u 15), (u 16), (u 17), (u 18), (u 19), (u 20), (u 21), .ref 368, .int tm, .ref 369, .ref 370, .ref 371, (u 27)])), (360, .inr (.inl (0, w))), (362, .inr (.inl (0, sd))), (363, .inr (.inl (0, ot))), (364, .inr (.inl (0, kp))), (368, .inr (.inl (0, tk))), (369, .inr (.inl (0, od))), (370, .inr (.inl (0, be)))] h0) : j_V jP d 266 0 (lv_args 0 [.ref 359, .int x1]) [] h (fun rv h' => rv = some (.int (m_next_ od x1).1) ∧ KN h' [(359, .inl (10, [.int th, .ref 360, .ref 361, .ref 362, .ref 363, .ref 364, .ref 365, .ref 366, .ref 367, (u 9), .int sst, (u 11), (u 12), .int acs, (u 14), (u 15), (u 16), (u 17), (u 18), (u 19), (u 20), (u 21), .ref 368, .int tm, .ref 369, .ref 370, .ref 371, (u 27)])), (360, .inr (.inl (0, w))), (362, .inr (.inl (0, sd))), (363, .inr (.inl (0, ot))), (364, .inr (.inl (0, kp))), (368, .inr (.inl (0, tk))), (369, .inr (.inl (0, (m_next_ od x1).2))), (370, .inr (.inl (0, be)))] h0) := by
  show j_V jP d 266 0 [(0, .ref 359), (1, .int x1)] [] h _
  obtain ⟨lv, elv, L⟩ : ∃ lv, lv = [(0, .ref 359), (1, .int x1)] ∧ LK lv [(0, .ref 359), (1, .int x1)] := ⟨_, rfl, LK.rf⟩
  rw [← elv]
  clear elv
  refine j_V.ldL mw1_M mw1_0 rfl (i := 1) (kd := 0) (v := .int x1) (pcJ := 1) rfl L rfl rfl rfl ?_
  refine j_V.one mw1_M mw1_1 (by decide) (pcJ := 2) (stJ := [.int 2, .int x1]) rfl ?_
  refine j_V.one mw1_M mw1_2 (by decide) (pcJ := 3) (stJ := [.int (x1 - 2)]) rfl ?_
  refine j_V.stL mw1_M mw1_3 rfl (i := 2) (kd := 0) (kl' := [(0, .ref 359), (1, .int x1), (2, .int (x1 - 2))]) (pcJ := 4) rfl L rfl (by decide) rfl rfl rfl (fun lv L => ?_)
  refine mw1_ok_l4 5 _ hn.1 L K (fun lv h L K => ?_)
  have L : LK lv [(0, .ref 359), (1, .int x1), (2, .int (m_nx2 od x1))] := L
  refine j_V.ldL mw1_M mw1_31 rfl (i := 2) (kd := 0) (v := .int (m_nx2 od x1)) (pcJ := 32) rfl L rfl rfl rfl ?_
  refine j_V.ifc mw1_M mw1_32 (t := 37) rfl (fun c32_0 => ?_) (fun c32_0 => ?_)
  · replace c32_0 : ¬ ((m_nx2 od x1) < 0) := jd_ge c32_0
    refine j_V.ldL mw1_M mw1_37 rfl (i := 1) (kd := 0) (v := .int x1) (pcJ := 38) rfl L rfl rfl rfl ?_
    refine j_V.one mw1_M mw1_38 (by decide) (pcJ := 39) (stJ := [.int 1, .int x1]) rfl ?_
    refine j_V.one mw1_M mw1_39 (by decide) (pcJ := 40) (stJ := [.int (x1 - 1)]) rfl ?_
    refine j_V.stL mw1_M mw1_40 rfl (i := 3) (kd := 0) (kl' := [(0, .ref 359), (1, .int x1), (2, .int (m_nx2 od x1)), (3, .int (x1 - 1))]) (pcJ := 41) rfl L rfl (by decide) rfl rfl rfl (fun lv L => ?_)
    refine mw1_ok_l41 5 _ (hn.2 c32_0) L K (fun lv h L K => ?_)
    have L : LK lv [(0, .ref 359), (1, .int x1), (2, .int (m_nx2 od x1)), (3, .int (m_nx3 od x1))] := L
    refine j_V.ldL mw1_M mw1_62 rfl (i := 0) (kd := 2) (v := .ref 359) (pcJ := 63) rfl L rfl rfl rfl ?_
    refine j_V.ldL mw1_M mw1_63 rfl (i := 2) (kd := 0) (v := .int (m_nx2 od x1)) (pcJ := 64) rfl L rfl rfl rfl ?_
    refine j_V.ldL mw1_M mw1_64 rfl (i := 3) (kd := 0) (v := .int (m_nx3 od x1)) (pcJ := 65) rfl L rfl rfl rfl ?_
    refine j_V.cl mw1_M mw1_65 rfl (md := 3) (mj := 267) rfl (by decide) mw0_M (As := [.ref 359, .int (m_nx2 od x1), .int (m_nx3 od x1)]) (rest := []) (jk_spl3 (K.at rfl) rfl rfl rfl (Nat.le_of_ble_eq_true rfl) (Nat.le_of_ble_eq_true rfl)) (fun d => mw0_ok (u := fun j => [.int th, .ref 360, .ref 361, .ref 362, .ref 363, .ref 364, .ref 365, .ref 366, .ref 367, (u 9), .int sst, (u 11), (u 12), .int acs, (u 14), (u 15), (u 16), (u 17), (u 18), (u 19), (u 20), (u 21), .ref 368, .int tm, .ref 369, .ref 370, .ref 371, (u 27)].getD j .null) (K.fi [359, 369] rfl rfl)) ?_
    rintro r h9 ⟨rfl, K9⟩
    have K : KN h9 [(359, .inl (10, [.int th, .ref 360, .ref 361, .ref 362, .ref 363, .ref 364, .ref 365, .ref 366, .ref 367, (u 9), .int sst, (u 11), (u 12), .int acs, (u 14), (u 15), (u 16), (u 17), (u 18), (u 19), (u 20), (u 21), .ref 368, .int tm, .ref 369, .ref 370, .ref 371, (u 27)])), (360, .inr (.inl (0, w))), (362, .inr (.inl (0, sd))), (363, .inr (.inl (0, ot))), (364, .inr (.inl (0, kp))), (368, .inr (.inl (0, tk))), (369, .inr (.inl (0, ((m_trades od (m_nx2 od x1) (m_nx3 od x1)))))), (370, .inr (.inl (0, be)))] h0 := K.mg K9 rfl rfl
    clear K9
    show j_V jP _ 266 68 lv [] h9 _
    refine j_V.ldL mw1_M mw1_68 rfl (i := 2) (kd := 0) (v := .int (m_nx2 od x1)) (pcJ := 69) rfl L rfl rfl rfl ?_
    refine j_V.one mw1_M mw1_69 (by decide) (pcJ := 70) (stJ := [.int 1, .int (m_nx2 od x1)]) rfl ?_
    refine j_V.one mw1_M mw1_70 (by decide) (pcJ := 71) (stJ := [.int ((m_nx2 od x1) + 1)]) rfl ?_
    refine j_V.stL mw1_M mw1_71 rfl (i := 4) (kd := 0) (kl' := [(0, .ref 359), (1, .int x1), (2, .int (m_nx2 od x1)), (3, .int (m_nx3 od x1)), (4, .int ((m_nx2 od x1) + 1))]) (pcJ := 73) rfl L rfl (by decide) rfl rfl rfl (fun lv L => ?_)
    refine j_V.ldL mw1_M mw1_73 rfl (i := 1) (kd := 0) (v := .int x1) (pcJ := 74) rfl L rfl rfl rfl ?_
    refine j_V.one mw1_M mw1_74 (by decide) (pcJ := 75) (stJ := [.int 1, .int x1]) rfl ?_
    refine j_V.one mw1_M mw1_75 (by decide) (pcJ := 76) (stJ := [.int (x1 - 1)]) rfl ?_
    refine j_V.stL mw1_M mw1_76 rfl (i := 5) (kd := 0) (kl' := [(0, .ref 359), (1, .int x1), (2, .int (m_nx2 od x1)), (3, .int (m_nx3 od x1)), (4, .int ((m_nx2 od x1) + 1)), (5, .int (x1 - 1))]) (pcJ := 78) rfl L rfl (by decide) rfl rfl rfl (fun lv L => ?_)
    have K : KN h9 [(359, .inl (10, [.int th, .ref 360, .ref 361, .ref 362, .ref 363, .ref 364, .ref 365, .ref 366, .ref 367, (u 9), .int sst, (u 11), (u 12), .int acs, (u 14), (u 15), (u 16), (u 17), (u 18), (u 19), (u 20), (u 21), .ref 368, .int tm, .ref 369, .ref 370, .ref 371, (u 27)])), (360, .inr (.inl (0, w))), (362, .inr (.inl (0, sd))), (363, .inr (.inl (0, ot))), (364, .inr (.inl (0, kp))), (368, .inr (.inl (0, tk))), (369, .inr (.inl (0, (m_nxT od x1)))), (370, .inr (.inl (0, be)))] h0 := K
    refine mw1_ok_l78 (x1 := x1) _ _ _ _ (Nat.le_refl _) (L.sub ⟨rfl, rfl, rfl, trivial⟩) K (fun lv h L K => ?_)
    refine j_V.one mw1_M mw1_102 (by decide) (pcJ := 103) (stJ := [.int 1]) rfl ?_
    refine j_V.ri mw1_M mw1_103 ?_
    rw [show m_next_ od x1 = (1, (m_noC (lpN (x1 - 1) (m_nx2 od x1 + 1)) (m_nx2 od x1 + 1) (x1 - 1) (m_nxT od x1))) from (if_neg c32_0).trans (rfl)]
    exact ⟨rfl, K⟩
  · replace c32_0 : (m_nx2 od x1) < 0 := jd_gen c32_0
    refine j_V.one mw1_M mw1_35 (by decide) (pcJ := 36) (stJ := [.int 0]) rfl ?_
    refine j_V.ri mw1_M mw1_36 ?_
    rw [show m_next_ od x1 = (0, od) from (if_pos c32_0).trans (rfl)]
    exact ⟨rfl, K⟩
set_option maxRecDepth 100000 in
theorem mw2_M : j_meth jP 268 = some (yX10_plan, cX10_plan, 7, (some .int), 1, false, 10) := rfl
set_option maxRecDepth 100000 in
theorem mw2_0 : j_code jP 268 0 = some (.iload_n 1) := rfl
set_option maxRecDepth 100000 in
theorem mw2_1 : j_code jP 268 1 = some (.iconst (-1)) := rfl
set_option maxRecDepth 100000 in
theorem mw2_2 : j_code jP 268 2 = some (.if_icmp .ge 9) := rfl
set_option maxRecDepth 100000 in
theorem mw2_5 : j_code jP 268 5 = some (.aload_n 0) := rfl
set_option maxRecDepth 100000 in
theorem mw2_6 : j_code jP 268 6 = some (.iconst 1) := rfl
set_option maxRecDepth 100000 in
theorem mw2_7 : j_code jP 268 7 = some (.invokevirtual 179) := rfl
set_option maxRecDepth 100000 in
theorem mw2_10 : j_code jP 268 10 = some (.ireturn) := rfl
set_option maxRecDepth 100000 in
theorem mw2_11 : j_code jP 268 11 = some (.aload_n 0) := rfl
set_option maxRecDepth 100000 in
theorem mw2_12 : j_code jP 268 12 = some (.getfield 7) := rfl
set_option maxRecDepth 100000 in
theorem mw2_15 : j_code jP 268 15 = some (.sipush 203) := rfl
set_option maxRecDepth 100000 in
theorem mw2_18 : j_code jP 268 18 = some (.iaload) := rfl
set_option maxRecDepth 100000 in
theorem mw2_19 : j_code jP 268 19 = some (.istore_n 2) := rfl
set_option maxRecDepth 100000 in
theorem mw2_20 : j_code jP 268 20 = some (.iload_n 1) := rfl
set_option maxRecDepth 100000 in
theorem mw2_21 : j_code jP 268 21 = some (.iload_n 2) := rfl
set_option maxRecDepth 100000 in
theorem mw2_22 : j_code jP 268 22 = some (.if_icmp .lt 9) := rfl
set_option maxRecDepth 100000 in
theorem mw2_25 : j_code jP 268 25 = some (.aload_n 0) := rfl
set_option maxRecDepth 100000 in
theorem mw2_26 : j_code jP 268 26 = some (.iconst 5) := rfl
set_option maxRecDepth 100000 in
theorem mw2_27 : j_code jP 268 27 = some (.invokevirtual 179) := rfl
set_option maxRecDepth 100000 in
theorem mw2_30 : j_code jP 268 30 = some (.ireturn) := rfl
set_option maxRecDepth 100000 in
theorem mw2_31 : j_code jP 268 31 = some (.aload_n 0) := rfl
set_option maxRecDepth 100000 in
theorem mw2_32 : j_code jP 268 32 = some (.getfield 7) := rfl
set_option maxRecDepth 100000 in
theorem mw2_35 : j_code jP 268 35 = some (.aload_n 0) := rfl
set_option maxRecDepth 100000 in
theorem mw2_36 : j_code jP 268 36 = some (.getfield 16) := rfl
set_option maxRecDepth 100000 in
theorem mw2_39 : j_code jP 268 39 = some (.invokestatic 188) := rfl
set_option maxRecDepth 100000 in
theorem mw2_42 : j_code jP 268 42 = some (.iconst 0) := rfl
set_option maxRecDepth 100000 in
theorem mw2_43 : j_code jP 268 43 = some (.istore_n 3) := rfl
set_option maxRecDepth 100000 in
theorem mw2_44 : j_code jP 268 44 = some (.iload_n 3) := rfl
set_option maxRecDepth 100000 in
theorem mw2_45 : j_code jP 268 45 = some (.iload_n 2) := rfl
set_option maxRecDepth 100000 in
theorem mw2_46 : j_code jP 268 46 = some (.if_icmp .ge 16) := rfl
set_option maxRecDepth 100000 in
theorem mw2_49 : j_code jP 268 49 = some (.aload_n 0) := rfl
set_option maxRecDepth 100000 in
theorem mw2_50 : j_code jP 268 50 = some (.getfield 45) := rfl
set_option maxRecDepth 100000 in
theorem mw2_53 : j_code jP 268 53 = some (.iload_n 3) := rfl
set_option maxRecDepth 100000 in
theorem mw2_54 : j_code jP 268 54 = some (.iload_n 3) := rfl
set_option maxRecDepth 100000 in
theorem mw2_55 : j_code jP 268 55 = some (.iastore) := rfl
set_option maxRecDepth 100000 in
theorem mw2_56 : j_code jP 268 56 = some (.iinc 3 1) := rfl
set_option maxRecDepth 100000 in
theorem mw2_59 : j_code jP 268 59 = some (.goto (-15)) := rfl
set_option maxRecDepth 100000 in
theorem mw2_62 : j_code jP 268 62 = some (.ldc_w 340) := rfl
set_option maxRecDepth 100000 in
theorem mw2_65 : j_code jP 268 65 = some (.istore_n 3) := rfl
set_option maxRecDepth 100000 in
theorem mw2_66 : j_code jP 268 66 = some (.iconst 1) := rfl
set_option maxRecDepth 100000 in
theorem mw2_67 : j_code jP 268 67 = some (.istore 4) := rfl
set_option maxRecDepth 100000 in
theorem mw2_69 : j_code jP 268 69 = some (.iload 4) := rfl
set_option maxRecDepth 100000 in
theorem mw2_71 : j_code jP 268 71 = some (.ifCond .eq 101) := rfl
set_option maxRecDepth 100000 in
theorem mw2_74 : j_code jP 268 74 = some (.aload_n 0) := rfl
set_option maxRecDepth 100000 in
theorem mw2_75 : j_code jP 268 75 = some (.getfield 16) := rfl
set_option maxRecDepth 100000 in
theorem mw2_78 : j_code jP 268 78 = some (.aload_n 0) := rfl
set_option maxRecDepth 100000 in
theorem mw2_79 : j_code jP 268 79 = some (.getfield 7) := rfl
set_option maxRecDepth 100000 in
theorem mw2_82 : j_code jP 268 82 = some (.invokestatic 188) := rfl
set_option maxRecDepth 100000 in
theorem mw2_85 : j_code jP 268 85 = some (.iconst 0) := rfl
set_option maxRecDepth 100000 in
theorem mw2_86 : j_code jP 268 86 = some (.istore 5) := rfl
set_option maxRecDepth 100000 in
theorem mw2_88 : j_code jP 268 88 = some (.iload 5) := rfl
set_option maxRecDepth 100000 in
theorem mw2_90 : j_code jP 268 90 = some (.iload_n 2) := rfl
set_option maxRecDepth 100000 in
theorem mw2_91 : j_code jP 268 91 = some (.if_icmp .ge 27) := rfl
set_option maxRecDepth 100000 in
theorem mw2_94 : j_code jP 268 94 = some (.aload_n 0) := rfl
set_option maxRecDepth 100000 in
theorem mw2_95 : j_code jP 268 95 = some (.getfield 7) := rfl
set_option maxRecDepth 100000 in
theorem mw2_98 : j_code jP 268 98 = some (.sipush 196) := rfl
set_option maxRecDepth 100000 in
theorem mw2_101 : j_code jP 268 101 = some (.iload 5) := rfl
set_option maxRecDepth 100000 in
theorem mw2_103 : j_code jP 268 103 = some (.iadd) := rfl
set_option maxRecDepth 100000 in
theorem mw2_104 : j_code jP 268 104 = some (.aload_n 0) := rfl
set_option maxRecDepth 100000 in
theorem mw2_105 : j_code jP 268 105 = some (.getfield 45) := rfl
set_option maxRecDepth 100000 in
theorem mw2_108 : j_code jP 268 108 = some (.iload 5) := rfl
set_option maxRecDepth 100000 in
theorem mw2_110 : j_code jP 268 110 = some (.iaload) := rfl
set_option maxRecDepth 100000 in
theorem mw2_111 : j_code jP 268 111 = some (.iastore) := rfl
set_option maxRecDepth 100000 in
theorem mw2_112 : j_code jP 268 112 = some (.iinc 5 1) := rfl
set_option maxRecDepth 100000 in
theorem mw2_115 : j_code jP 268 115 = some (.goto (-27)) := rfl
set_option maxRecDepth 100000 in
theorem mw2_118 : j_code jP 268 118 = some (.aload_n 0) := rfl
set_option maxRecDepth 100000 in
theorem mw2_119 : j_code jP 268 119 = some (.invokevirtual 341) := rfl
set_option maxRecDepth 100000 in
theorem mw2_122 : j_code jP 268 122 = some (.istore 5) := rfl
set_option maxRecDepth 100000 in
theorem mw2_124 : j_code jP 268 124 = some (.iload 5) := rfl
set_option maxRecDepth 100000 in
theorem mw2_126 : j_code jP 268 126 = some (.iload_n 3) := rfl
set_option maxRecDepth 100000 in
theorem mw2_127 : j_code jP 268 127 = some (.if_icmp .ge 35) := rfl
set_option maxRecDepth 100000 in
theorem mw2_130 : j_code jP 268 130 = some (.iload 5) := rfl
set_option maxRecDepth 100000 in
theorem mw2_132 : j_code jP 268 132 = some (.istore_n 3) := rfl
set_option maxRecDepth 100000 in
theorem mw2_133 : j_code jP 268 133 = some (.iconst 0) := rfl
set_option maxRecDepth 100000 in
theorem mw2_134 : j_code jP 268 134 = some (.istore 6) := rfl
set_option maxRecDepth 100000 in
theorem mw2_136 : j_code jP 268 136 = some (.iload 6) := rfl
set_option maxRecDepth 100000 in
theorem mw2_138 : j_code jP 268 138 = some (.iload_n 2) := rfl
set_option maxRecDepth 100000 in
theorem mw2_139 : j_code jP 268 139 = some (.if_icmp .ge 23) := rfl
set_option maxRecDepth 100000 in
theorem mw2_142 : j_code jP 268 142 = some (.aload_n 0) := rfl
set_option maxRecDepth 100000 in
theorem mw2_143 : j_code jP 268 143 = some (.getfield 48) := rfl
set_option maxRecDepth 100000 in
theorem mw2_146 : j_code jP 268 146 = some (.iload 6) := rfl
set_option maxRecDepth 100000 in
theorem mw2_148 : j_code jP 268 148 = some (.aload_n 0) := rfl
set_option maxRecDepth 100000 in
theorem mw2_149 : j_code jP 268 149 = some (.getfield 45) := rfl
set_option maxRecDepth 100000 in
theorem mw2_152 : j_code jP 268 152 = some (.iload 6) := rfl
set_option maxRecDepth 100000 in
theorem mw2_154 : j_code jP 268 154 = some (.iaload) := rfl
set_option maxRecDepth 100000 in
theorem mw2_155 : j_code jP 268 155 = some (.iastore) := rfl
set_option maxRecDepth 100000 in
theorem mw2_156 : j_code jP 268 156 = some (.iinc 6 1) := rfl
set_option maxRecDepth 100000 in
theorem mw2_159 : j_code jP 268 159 = some (.goto (-23)) := rfl
set_option maxRecDepth 100000 in
theorem mw2_162 : j_code jP 268 162 = some (.aload_n 0) := rfl
set_option maxRecDepth 100000 in
theorem mw2_163 : j_code jP 268 163 = some (.iload_n 2) := rfl
set_option maxRecDepth 100000 in
theorem mw2_164 : j_code jP 268 164 = some (.invokevirtual 344) := rfl
set_option maxRecDepth 100000 in
theorem mw2_167 : j_code jP 268 167 = some (.istore 4) := rfl
set_option maxRecDepth 100000 in
theorem mw2_169 : j_code jP 268 169 = some (.goto (-100)) := rfl
set_option maxRecDepth 100000 in
theorem mw2_172 : j_code jP 268 172 = some (.aload_n 0) := rfl
set_option maxRecDepth 100000 in
theorem mw2_173 : j_code jP 268 173 = some (.iload_n 1) := rfl
set_option maxRecDepth 100000 in
theorem mw2_174 : j_code jP 268 174 = some (.iconst (-1)) := rfl
set_option maxRecDepth 100000 in
theorem mw2_175 : j_code jP 268 175 = some (.if_icmp .ne 7) := rfl
set_option maxRecDepth 100000 in
theorem mw2_178 : j_code jP 268 178 = some (.iload_n 3) := rfl
set_option maxRecDepth 100000 in
theorem mw2_179 : j_code jP 268 179 = some (.goto 9) := rfl
set_option maxRecDepth 100000 in
theorem mw2_182 : j_code jP 268 182 = some (.aload_n 0) := rfl
set_option maxRecDepth 100000 in
theorem mw2_183 : j_code jP 268 183 = some (.getfield 48) := rfl
set_option maxRecDepth 100000 in
theorem mw2_186 : j_code jP 268 186 = some (.iload_n 1) := rfl
set_option maxRecDepth 100000 in
theorem mw2_187 : j_code jP 268 187 = some (.iaload) := rfl
set_option maxRecDepth 100000 in
theorem mw2_188 : j_code jP 268 188 = some (.invokevirtual 329) := rfl
set_option maxRecDepth 100000 in
theorem mw2_191 : j_code jP 268 191 = some (.ireturn) := rfl
def m_poI : Nat → Nat → List Int32 → List Int32
  | 0, _, od => od
  | f + 1, i, od => m_poI f (i + 1) (sA od (nI i) (nI i))
def m_pw (od : List Int32) : Nat → Nat → List Int32 → List Int32
  | 0, _, w => w
  | f + 1, i, w => m_pw od f (i + 1) (sA w (196 + (nI i)) (gA od (nI i)))
def m_pb (od : List Int32) : Nat → Nat → List Int32 → List Int32
  | 0, _, be => be
  | f + 1, i, be => m_pb od f (i + 1) (sA be (nI i) (gA od (nI i)))
def m_pp (n : Nat) (w od : List Int32) : Int32 := m_price (m_toTheEnd n (m_pw od n 0 w) 1)
def m_pl (n : Nat) (w : List Int32) : Nat → Int32 → Int32 → List Int32 → List Int32 → Int32 × List Int32 × List Int32
  | 0, v3, _, od, be => (v3, od, be)
  | f + 1, v3, v4, od, be => if v4 = 0 then (v3, od, be) else (if (m_pp n w od) < v3 then m_pl n w f (m_pp n w od) (m_next_ od (gA w 203)).1 (m_next_ od (gA w 203)).2 (m_pb od n 0 be) else m_pl n w f v3 (m_next_ od (gA w 203)).1 (m_next_ od (gA w 203)).2 be)
/-- what plan wants of each order that it comes to -/
def m_plk (I : List Int32 → Prop) (n : Nat) (w : List Int32) : Nat → Int32 → List Int32 → Prop
  | 0, v4, _ => v4 = 0
  | f + 1, v4, od => v4 = 0 ∨ (I (m_pw od n 0 w) ∧ m_nxok od (gA w 203) ∧ m_plk I n w f (m_next_ od (gA w 203)).1 (m_next_ od (gA w 203)).2)
set_option maxRecDepth 1000000 in
theorem mw2_ok_l44 {u : Nat → Value} {n d : Nat} {h0 : J_H} {th sst acs tm x1  : Int32} {w sd ot kp tk be : List Int32} {Q : Option Value → J_H → Prop} {I J : List Int32 → Prop} (H : m_Inv n I J) (hI : I w) : ∀ (f : Nat) (i : Nat) (od : List Int32) {lv : J_L} {h : J_H}, i + f = n → LK lv [(0, .ref 359), (1, .int x1), (2, .int (gA w 203)), (3, .int (nI i))] → KN h [(359, .inl (10, [.int th, .ref 360, .ref 361, .ref 362, .ref 363, .ref 364, .ref 365, .ref 366, .ref 367, (u 9), .int sst, (u 11), (u 12), .int acs, (u 14), (u 15), (u 16), (u 17), (u 18), (u 19), (u 20), (u 21), .ref 368, .int tm, .ref 369, .ref 370, .ref 371, (u 27)])), (360, .inr (.inl (0, w))), (362, .inr (.inl (0, sd))), (363, .inr (.inl (0, ot))), (364, .inr (.inl (0, kp))), (368, .inr (.inl (0, tk))), (369, .inr (.inl (0, od))), (370, .inr (.inl (0, be)))] h0 → (∀ lv h, LK lv [(0, .ref 359), (1, .int x1), (2, .int (gA w 203))] → KN h [(359, .inl (10, [.int th, .ref 360, .ref 361, .ref 362, .ref 363, .ref 364, .ref 365, .ref 366, .ref 367, (u 9), .int sst, (u 11), (u 12), .int acs, (u 14), (u 15), (u 16), (u 17), (u 18), (u 19), (u 20), (u 21), .ref 368, .int tm, .ref 369, .ref 370, .ref 371, (u 27)])), (360, .inr (.inl (0, w))), (362, .inr (.inl (0, sd))), (363, .inr (.inl (0, ot))), (364, .inr (.inl (0, kp))), (368, .inr (.inl (0, tk))), (369, .inr (.inl (0, (m_poI f i od)))), (370, .inr (.inl (0, be)))] h0 → j_V jP d 268 62 lv [] h Q) → j_V jP d 268 44 lv [] h Q := by
  have hn5 := H.n5
  intro f
  induction f with
  | zero =>
    intro i od lv h e L K kk
    refine j_V.ldL mw2_M mw2_44 rfl (i := 3) (kd := 0) (v := .int (nI i)) (pcJ := 45) rfl L rfl rfl rfl ?_
    refine j_V.ldL mw2_M mw2_45 rfl (i := 2) (kd := 0) (v := .int (gA w 203)) (pcJ := 46) rfl L rfl rfl rfl ?_
    refine j_V.icmp mw2_M mw2_46 (t := 62) rfl (fun c46_0 => ?_) (fun c46_0 => ?_)
    · replace c46_0 : ¬ ((nI i) < (gA w 203)) := jd_ge c46_0
      exact kk _ _ (L.sub ⟨rfl, rfl, rfl, trivial⟩) K
    · replace c46_0 : (nI i) < (gA w 203) := jd_gen c46_0
      exact absurd c46_0 (by rw [(H.I1 _ hI).2, nI_lt9 (by omega) (by omega)]; omega)
  | succ f ih =>
    intro i od lv h e L K kk
    refine j_V.ldL mw2_M mw2_44 rfl (i := 3) (kd := 0) (v := .int (nI i)) (pcJ := 45) rfl L rfl rfl rfl ?_
    refine j_V.ldL mw2_M mw2_45 rfl (i := 2) (kd := 0) (v := .int (gA w 203)) (pcJ := 46) rfl L rfl rfl rfl ?_
    refine j_V.icmp mw2_M mw2_46 (t := 62) rfl (fun c46_0 => ?_) (fun c46_0 => ?_)
    · replace c46_0 : ¬ ((nI i) < (gA w 203)) := jd_ge c46_0
      exact absurd (show nI i < gA w 203 by rw [(H.I1 _ hI).2, nI_lt9 (by omega) (by omega)]; omega) c46_0
    · replace c46_0 : (nI i) < (gA w 203) := jd_gen c46_0
      refine j_V.ldL mw2_M mw2_49 rfl (i := 0) (kd := 2) (v := .ref 359) (pcJ := 50) rfl L rfl rfl rfl ?_
      refine j_V.getK mw2_M mw2_50 (ci := 10) (j := 24) rfl K rfl rfl ?_
      refine j_V.ldL mw2_M mw2_53 rfl (i := 3) (kd := 0) (v := .int (nI i)) (pcJ := 54) rfl L rfl rfl rfl ?_
      refine j_V.ldL mw2_M mw2_54 rfl (i := 3) (kd := 0) (v := .int (nI i)) (pcJ := 55) rfl L rfl rfl rfl ?_
      refine j_V.isA mw2_M mw2_55 (k' := [(359, .inl (10, [.int th, .ref 360, .ref 361, .ref 362, .ref 363, .ref 364, .ref 365, .ref 366, .ref 367, (u 9), .int sst, (u 11), (u 12), .int acs, (u 14), (u 15), (u 16), (u 17), (u 18), (u 19), (u 20), (u 21), .ref 368, .int tm, .ref 369, .ref 370, .ref 371, (u 27)])), (360, .inr (.inl (0, w))), (362, .inr (.inl (0, sd))), (363, .inr (.inl (0, ot))), (364, .inr (.inl (0, kp))), (368, .inr (.inl (0, tk))), (369, .inr (.inl (0, (sA od (nI i) (nI i))))), (370, .inr (.inl (0, be)))]) K rfl rfl (fun h K => ?_)
      refine j_V.inL mw2_M mw2_56 (i := 3) (kl' := [(0, .ref 359), (1, .int x1), (2, .int (gA w 203)), (3, .int ((nI i) + 1))]) (pcJ := 59) L rfl rfl rfl rfl (fun lv L => ?_)
      refine j_V.gto mw2_M mw2_59 (t := 44) rfl ?_
      rw [nI_one] at L
      rw [show (m_poI (f + 1) i od) = (m_poI f (i + 1) (sA od (nI i) (nI i))) from rfl] at kk
      exact ih (i + 1) _ (by omega) L K kk
set_option maxRecDepth 1000000 in
theorem mw2_ok_l88 {u : Nat → Value} {n d : Nat} {h0 : J_H} {th sst acs tm x1 v3 : Int32} {w ot kp tk od be : List Int32} {Q : Option Value → J_H → Prop} {I J : List Int32 → Prop} (H : m_Inv n I J) (hI : I w) : ∀ (f : Nat) (i : Nat) (wn : List Int32) {lv : J_L} {h : J_H}, i + f = n → LK lv [(0, .ref 359), (1, .int x1), (2, .int (gA w 203)), (3, .int v3), (5, .int (nI i))] → KN h [(359, .inl (10, [.int th, .ref 360, .ref 361, .ref 362, .ref 363, .ref 364, .ref 365, .ref 366, .ref 367, (u 9), .int sst, (u 11), (u 12), .int acs, (u 14), (u 15), (u 16), (u 17), (u 18), (u 19), (u 20), (u 21), .ref 368, .int tm, .ref 369, .ref 370, .ref 371, (u 27)])), (360, .inr (.inl (0, wn))), (362, .inr (.inl (0, w))), (363, .inr (.inl (0, ot))), (364, .inr (.inl (0, kp))), (368, .inr (.inl (0, tk))), (369, .inr (.inl (0, od))), (370, .inr (.inl (0, be)))] h0 → (∀ lv h, LK lv [(0, .ref 359), (1, .int x1), (2, .int (gA w 203)), (3, .int v3)] → KN h [(359, .inl (10, [.int th, .ref 360, .ref 361, .ref 362, .ref 363, .ref 364, .ref 365, .ref 366, .ref 367, (u 9), .int sst, (u 11), (u 12), .int acs, (u 14), (u 15), (u 16), (u 17), (u 18), (u 19), (u 20), (u 21), .ref 368, .int tm, .ref 369, .ref 370, .ref 371, (u 27)])), (360, .inr (.inl (0, (m_pw od f i wn)))), (362, .inr (.inl (0, w))), (363, .inr (.inl (0, ot))), (364, .inr (.inl (0, kp))), (368, .inr (.inl (0, tk))), (369, .inr (.inl (0, od))), (370, .inr (.inl (0, be)))] h0 → j_V jP d 268 118 lv [] h Q) → j_V jP d 268 88 lv [] h Q := by
  have hn5 := H.n5
  intro f
  induction f with
  | zero =>
    intro i wn lv h e L K kk
    refine j_V.ldL mw2_M mw2_88 rfl (i := 5) (kd := 0) (v := .int (nI i)) (pcJ := 90) rfl L rfl rfl rfl ?_
    refine j_V.ldL mw2_M mw2_90 rfl (i := 2) (kd := 0) (v := .int (gA w 203)) (pcJ := 91) rfl L rfl rfl rfl ?_
    refine j_V.icmp mw2_M mw2_91 (t := 118) rfl (fun c91_0 => ?_) (fun c91_0 => ?_)
    · replace c91_0 : ¬ ((nI i) < (gA w 203)) := jd_ge c91_0
      exact kk _ _ (L.sub ⟨rfl, rfl, rfl, rfl, trivial⟩) K
    · replace c91_0 : (nI i) < (gA w 203) := jd_gen c91_0
      exact absurd c91_0 (by rw [(H.I1 _ hI).2, nI_lt9 (by omega) (by omega)]; omega)
  | succ f ih =>
    intro i wn lv h e L K kk
    refine j_V.ldL mw2_M mw2_88 rfl (i := 5) (kd := 0) (v := .int (nI i)) (pcJ := 90) rfl L rfl rfl rfl ?_
    refine j_V.ldL mw2_M mw2_90 rfl (i := 2) (kd := 0) (v := .int (gA w 203)) (pcJ := 91) rfl L rfl rfl rfl ?_
    refine j_V.icmp mw2_M mw2_91 (t := 118) rfl (fun c91_0 => ?_) (fun c91_0 => ?_)
    · replace c91_0 : ¬ ((nI i) < (gA w 203)) := jd_ge c91_0
      exact absurd (show nI i < gA w 203 by rw [(H.I1 _ hI).2, nI_lt9 (by omega) (by omega)]; omega) c91_0
    · replace c91_0 : (nI i) < (gA w 203) := jd_gen c91_0
      refine j_V.ldL mw2_M mw2_94 rfl (i := 0) (kd := 2) (v := .ref 359) (pcJ := 95) rfl L rfl rfl rfl ?_
      refine j_V.getK mw2_M mw2_95 (ci := 10) (j := 1) rfl K rfl rfl ?_
      refine j_V.one mw2_M mw2_98 (by decide) (pcJ := 101) (stJ := [.int 196, .ref 360]) rfl ?_
      refine j_V.ldL mw2_M mw2_101 rfl (i := 5) (kd := 0) (v := .int (nI i)) (pcJ := 103) rfl L rfl rfl rfl ?_
      refine j_V.one mw2_M mw2_103 (by decide) (pcJ := 104) (stJ := [.int (196 + (nI i)), .ref 360]) rfl ?_
      refine j_V.ldL mw2_M mw2_104 rfl (i := 0) (kd := 2) (v := .ref 359) (pcJ := 105) rfl L rfl rfl rfl ?_
      refine j_V.getK mw2_M mw2_105 (ci := 10) (j := 24) rfl K rfl rfl ?_
      refine j_V.ldL mw2_M mw2_108 rfl (i := 5) (kd := 0) (v := .int (nI i)) (pcJ := 110) rfl L rfl rfl rfl ?_
      refine j_V.iaA mw2_M mw2_110 K rfl ?_
      refine j_V.isA mw2_M mw2_111 (k' := [(359, .inl (10, [.int th, .ref 360, .ref 361, .ref 362, .ref 363, .ref 364, .ref 365, .ref 366, .ref 367, (u 9), .int sst, (u 11), (u 12), .int acs, (u 14), (u 15), (u 16), (u 17), (u 18), (u 19), (u 20), (u 21), .ref 368, .int tm, .ref 369, .ref 370, .ref 371, (u 27)])), (360, .inr (.inl (0, (sA wn (196 + (nI i)) (gA od (nI i)))))), (362, .inr (.inl (0, w))), (363, .inr (.inl (0, ot))), (364, .inr (.inl (0, kp))), (368, .inr (.inl (0, tk))), (369, .inr (.inl (0, od))), (370, .inr (.inl (0, be)))]) K rfl rfl (fun h K => ?_)
      refine j_V.inL mw2_M mw2_112 (i := 5) (kl' := [(0, .ref 359), (1, .int x1), (2, .int (gA w 203)), (3, .int v3), (5, .int ((nI i) + 1))]) (pcJ := 115) L rfl rfl rfl rfl (fun lv L => ?_)
      refine j_V.gto mw2_M mw2_115 (t := 88) rfl ?_
      rw [nI_one] at L
      rw [show (m_pw od (f + 1) i wn) = (m_pw od f (i + 1) (sA wn (196 + (nI i)) (gA od (nI i)))) from rfl] at kk
      exact ih (i + 1) _ (by omega) L K kk
set_option maxRecDepth 1000000 in
theorem mw2_ok_l136 {u : Nat → Value} {n d : Nat} {h0 : J_H} {th sst acs tm x1 v3 : Int32} {w wn ot kp tk od : List Int32} {Q : Option Value → J_H → Prop} {I J : List Int32 → Prop} (H : m_Inv n I J) (hI : I w) : ∀ (f : Nat) (i : Nat) (be : List Int32) {lv : J_L} {h : J_H}, i + f = n → LK lv [(0, .ref 359), (1, .int x1), (2, .int (gA w 203)), (3, .int v3), (6, .int (nI i))] → KN h [(359, .inl (10, [.int th, .ref 360, .ref 361, .ref 362, .ref 363, .ref 364, .ref 365, .ref 366, .ref 367, (u 9), .int sst, (u 11), (u 12), .int acs, (u 14), (u 15), (u 16), (u 17), (u 18), (u 19), (u 20), (u 21), .ref 368, .int tm, .ref 369, .ref 370, .ref 371, (u 27)])), (360, .inr (.inl (0, wn))), (362, .inr (.inl (0, w))), (363, .inr (.inl (0, ot))), (364, .inr (.inl (0, kp))), (368, .inr (.inl (0, tk))), (369, .inr (.inl (0, od))), (370, .inr (.inl (0, be)))] h0 → (∀ lv h, LK lv [(0, .ref 359), (1, .int x1), (2, .int (gA w 203)), (3, .int v3)] → KN h [(359, .inl (10, [.int th, .ref 360, .ref 361, .ref 362, .ref 363, .ref 364, .ref 365, .ref 366, .ref 367, (u 9), .int sst, (u 11), (u 12), .int acs, (u 14), (u 15), (u 16), (u 17), (u 18), (u 19), (u 20), (u 21), .ref 368, .int tm, .ref 369, .ref 370, .ref 371, (u 27)])), (360, .inr (.inl (0, wn))), (362, .inr (.inl (0, w))), (363, .inr (.inl (0, ot))), (364, .inr (.inl (0, kp))), (368, .inr (.inl (0, tk))), (369, .inr (.inl (0, od))), (370, .inr (.inl (0, (m_pb od f i be))))] h0 → j_V jP d 268 162 lv [] h Q) → j_V jP d 268 136 lv [] h Q := by
  have hn5 := H.n5
  intro f
  induction f with
  | zero =>
    intro i be lv h e L K kk
    refine j_V.ldL mw2_M mw2_136 rfl (i := 6) (kd := 0) (v := .int (nI i)) (pcJ := 138) rfl L rfl rfl rfl ?_
    refine j_V.ldL mw2_M mw2_138 rfl (i := 2) (kd := 0) (v := .int (gA w 203)) (pcJ := 139) rfl L rfl rfl rfl ?_
    refine j_V.icmp mw2_M mw2_139 (t := 162) rfl (fun c139_0 => ?_) (fun c139_0 => ?_)
    · replace c139_0 : ¬ ((nI i) < (gA w 203)) := jd_ge c139_0
      exact kk _ _ (L.sub ⟨rfl, rfl, rfl, rfl, trivial⟩) K
    · replace c139_0 : (nI i) < (gA w 203) := jd_gen c139_0
      exact absurd c139_0 (by rw [(H.I1 _ hI).2, nI_lt9 (by omega) (by omega)]; omega)
  | succ f ih =>
    intro i be lv h e L K kk
    refine j_V.ldL mw2_M mw2_136 rfl (i := 6) (kd := 0) (v := .int (nI i)) (pcJ := 138) rfl L rfl rfl rfl ?_
    refine j_V.ldL mw2_M mw2_138 rfl (i := 2) (kd := 0) (v := .int (gA w 203)) (pcJ := 139) rfl L rfl rfl rfl ?_
    refine j_V.icmp mw2_M mw2_139 (t := 162) rfl (fun c139_0 => ?_) (fun c139_0 => ?_)
    · replace c139_0 : ¬ ((nI i) < (gA w 203)) := jd_ge c139_0
      exact absurd (show nI i < gA w 203 by rw [(H.I1 _ hI).2, nI_lt9 (by omega) (by omega)]; omega) c139_0
    · replace c139_0 : (nI i) < (gA w 203) := jd_gen c139_0
      refine j_V.ldL mw2_M mw2_142 rfl (i := 0) (kd := 2) (v := .ref 359) (pcJ := 143) rfl L rfl rfl rfl ?_
      refine j_V.getK mw2_M mw2_143 (ci := 10) (j := 25) rfl K rfl rfl ?_
      refine j_V.ldL mw2_M mw2_146 rfl (i := 6) (kd := 0) (v := .int (nI i)) (pcJ := 148) rfl L rfl rfl rfl ?_
      refine j_V.ldL mw2_M mw2_148 rfl (i := 0) (kd := 2) (v := .ref 359) (pcJ := 149) rfl L rfl rfl rfl ?_
      refine j_V.getK mw2_M mw2_149 (ci := 10) (j := 24) rfl K rfl rfl ?_
      refine j_V.ldL mw2_M mw2_152 rfl (i := 6) (kd := 0) (v := .int (nI i)) (pcJ := 154) rfl L rfl rfl rfl ?_
      refine j_V.iaA mw2_M mw2_154 K rfl ?_
      refine j_V.isA mw2_M mw2_155 (k' := [(359, .inl (10, [.int th, .ref 360, .ref 361, .ref 362, .ref 363, .ref 364, .ref 365, .ref 366, .ref 367, (u 9), .int sst, (u 11), (u 12), .int acs, (u 14), (u 15), (u 16), (u 17), (u 18), (u 19), (u 20), (u 21), .ref 368, .int tm, .ref 369, .ref 370, .ref 371, (u 27)])), (360, .inr (.inl (0, wn))), (362, .inr (.inl (0, w))), (363, .inr (.inl (0, ot))), (364, .inr (.inl (0, kp))), (368, .inr (.inl (0, tk))), (369, .inr (.inl (0, od))), (370, .inr (.inl (0, (sA be (nI i) (gA od (nI i))))))]) K rfl rfl (fun h K => ?_)
      refine j_V.inL mw2_M mw2_156 (i := 6) (kl' := [(0, .ref 359), (1, .int x1), (2, .int (gA w 203)), (3, .int v3), (6, .int ((nI i) + 1))]) (pcJ := 159) L rfl rfl rfl rfl (fun lv L => ?_)
      refine j_V.gto mw2_M mw2_159 (t := 136) rfl ?_
      rw [nI_one] at L
      rw [show (m_pb od (f + 1) i be) = (m_pb od f (i + 1) (sA be (nI i) (gA od (nI i)))) from rfl] at kk
      exact ih (i + 1) _ (by omega) L K kk
set_option maxRecDepth 1000000 in
theorem mw2_ok_l69 {u : Nat → Value} {n d : Nat} {h0 : J_H} {th sst acs x1 : Int32} {w kp : List Int32} {Q : Option Value → J_H → Prop} {I J : List Int32 → Prop} (H : m_Inv n I J) (hI : I w) : ∀ (f : Nat) (v3 v4 : Int32) (od be : List Int32) {wn ot tk : List Int32} {tm : Int32} {lv : J_L} {h : J_H}, m_plk I n w f v4 od → wn.length = 602 → ot.length = 602 → LK lv [(0, .ref 359), (1, .int x1), (2, .int (gA w 203)), (3, .int v3), (4, .int v4)] → KN h [(359, .inl (10, [.int th, .ref 360, .ref 361, .ref 362, .ref 363, .ref 364, .ref 365, .ref 366, .ref 367, (u 9), .int sst, (u 11), (u 12), .int acs, (u 14), (u 15), (u 16), (u 17), (u 18), (u 19), (u 20), (u 21), .ref 368, .int tm, .ref 369, .ref 370, .ref 371, (u 27)])), (360, .inr (.inl (0, wn))), (362, .inr (.inl (0, w))), (363, .inr (.inl (0, ot))), (364, .inr (.inl (0, kp))), (368, .inr (.inl (0, tk))), (369, .inr (.inl (0, od))), (370, .inr (.inl (0, be)))] h0 → (∀ lv h (wn ot tk : List Int32) (tm : Int32), wn.length = 602 → ot.length = 602 → LK lv [(0, .ref 359), (1, .int x1), (2, .int (gA w 203)), (3, .int (m_pl n w f v3 v4 od be).1)] → KN h [(359, .inl (10, [.int th, .ref 360, .ref 361, .ref 362, .ref 363, .ref 364, .ref 365, .ref 366, .ref 367, (u 9), .int sst, (u 11), (u 12), .int acs, (u 14), (u 15), (u 16), (u 17), (u 18), (u 19), (u 20), (u 21), .ref 368, .int tm, .ref 369, .ref 370, .ref 371, (u 27)])), (360, .inr (.inl (0, wn))), (362, .inr (.inl (0, w))), (363, .inr (.inl (0, ot))), (364, .inr (.inl (0, kp))), (368, .inr (.inl (0, tk))), (369, .inr (.inl (0, (m_pl n w f v3 v4 od be).2.1))), (370, .inr (.inl (0, (m_pl n w f v3 v4 od be).2.2)))] h0 → j_V jP d 268 172 lv [] h Q) → j_V jP d 268 69 lv [] h Q := by
  intro f
  induction f with
  | zero =>
    intro v3 v4 od be wn ot tk tm lv h e hwn hot L K kk
    refine j_V.ldL mw2_M mw2_69 rfl (i := 4) (kd := 0) (v := .int v4) (pcJ := 71) rfl L rfl rfl rfl ?_
    refine j_V.ifc mw2_M mw2_71 (t := 172) rfl (fun c71_0 => ?_) (fun c71_0 => ?_)
    · replace c71_0 : v4 = 0 := jd_eq c71_0
      rw [show (m_pl n w 0 v3 v4 od be) = (v3, od, be) from rfl] at kk
      exact kk _ _ _ _ _ _ hwn hot (L.sub ⟨rfl, rfl, rfl, rfl, trivial⟩) K
    · replace c71_0 : ¬ (v4 = 0) := jd_eqn c71_0
      exact absurd e c71_0
  | succ f ih =>
    intro v3 v4 od be wn ot tk tm lv h e hwn hot L K kk
    refine j_V.ldL mw2_M mw2_69 rfl (i := 4) (kd := 0) (v := .int v4) (pcJ := 71) rfl L rfl rfl rfl ?_
    refine j_V.ifc mw2_M mw2_71 (t := 172) rfl (fun c71_0 => ?_) (fun c71_0 => ?_)
    · replace c71_0 : v4 = 0 := jd_eq c71_0
      rw [show (m_pl n w (f + 1) v3 v4 od be) = (v3, od, be) from (if_pos c71_0).trans (rfl)] at kk
      exact kk _ _ _ _ _ _ hwn hot (L.sub ⟨rfl, rfl, rfl, rfl, trivial⟩) K
    · replace c71_0 : ¬ (v4 = 0) := jd_eqn c71_0
      refine j_V.ldL mw2_M mw2_74 rfl (i := 0) (kd := 2) (v := .ref 359) (pcJ := 75) rfl L rfl rfl rfl ?_
      refine j_V.getK mw2_M mw2_75 (ci := 10) (j := 3) rfl K rfl rfl ?_
      refine j_V.ldL mw2_M mw2_78 rfl (i := 0) (kd := 2) (v := .ref 359) (pcJ := 79) rfl L rfl rfl rfl ?_
      refine j_V.getK mw2_M mw2_79 (ci := 10) (j := 1) rfl K rfl rfl ?_
      refine j_V.cl mw2_M mw2_82 rfl (md := 2) (mj := 201) rfl (by decide) mi3_M (As := [.ref 362, .ref 360]) (rest := []) (jk_spl2 rfl rfl (Nat.le_of_ble_eq_true rfl) (Nat.le_of_ble_eq_true rfl)) (fun d => mi3_ok (K.fi [360, 362] rfl rfl)) ?_
      rintro r h9 ⟨rfl, K9⟩
      have K : KN h9 [(359, .inl (10, [.int th, .ref 360, .ref 361, .ref 362, .ref 363, .ref 364, .ref 365, .ref 366, .ref 367, (u 9), .int sst, (u 11), (u 12), .int acs, (u 14), (u 15), (u 16), (u 17), (u 18), (u 19), (u 20), (u 21), .ref 368, .int tm, .ref 369, .ref 370, .ref 371, (u 27)])), (360, .inr (.inl (0, ((m_copies w wn))))), (362, .inr (.inl (0, w))), (363, .inr (.inl (0, ot))), (364, .inr (.inl (0, kp))), (368, .inr (.inl (0, tk))), (369, .inr (.inl (0, od))), (370, .inr (.inl (0, be)))] h0 := K.mg K9 rfl rfl
      clear K9
      show j_V jP _ 268 85 lv [] h9 _
      rw [m_cp (H.I1 _ hI).1 hwn] at K
      refine j_V.one mw2_M mw2_85 (by decide) (pcJ := 86) (stJ := [.int 0]) rfl ?_
      refine j_V.stL mw2_M mw2_86 rfl (i := 5) (kd := 0) (kl' := [(0, .ref 359), (1, .int x1), (2, .int (gA w 203)), (3, .int v3), (4, .int v4), (5, .int 0)]) (pcJ := 88) rfl L rfl (by decide) rfl rfl rfl (fun lv L => ?_)
      have e := e.resolve_left c71_0
      have L : LK lv [(0, .ref 359), (1, .int x1), (2, .int (gA w 203)), (3, .int v3), (5, .int (nI 0))] := (L.sub ⟨rfl, rfl, rfl, rfl, rfl, trivial⟩)
      refine mw2_ok_l88 (x1 := x1) H hI n 0 _ (Nat.zero_add n) L K (fun lv h L K => ?_)
      refine j_V.ldL mw2_M mw2_118 rfl (i := 0) (kd := 2) (v := .ref 359) (pcJ := 119) rfl L rfl rfl rfl ?_
      refine j_V.cl mw2_M mw2_119 rfl (md := 3) (mj := 232) rfl (by decide) ms1_M (As := [.ref 359]) (rest := []) (jk_spl3 (K.at rfl) rfl rfl rfl (Nat.le_of_ble_eq_true rfl) (Nat.le_of_ble_eq_true rfl)) (fun d => ms19_ok (u := fun j => [.int th, .ref 360, .ref 361, .ref 362, .ref 363, .ref 364, .ref 365, .ref 366, .ref 367, (u 9), .int sst, (u 11), (u 12), .int acs, (u 14), (u 15), (u 16), (u 17), (u 18), (u 19), (u 20), (u 21), .ref 368, .int tm, .ref 369, .ref 370, .ref 371, (u 27)].getD j .null) H e.1 hot (K.fi [359, 360, 363, 368] rfl rfl)) ?_
      rintro r h9 ⟨rfl, hI21, ot21, tk21, tm21, ho21, K9⟩
      have K : KN h9 [(359, .inl (10, [.int th, .ref 360, .ref 361, .ref 362, .ref 363, .ref 364, .ref 365, .ref 366, .ref 367, (u 9), .int sst, (u 11), (u 12), .int acs, (u 14), (u 15), (u 16), (u 17), (u 18), (u 19), (u 20), (u 21), .ref 368, .int tm21, .ref 369, .ref 370, .ref 371, (u 27)])), (360, .inr (.inl (0, (m_toTheEnd n (m_pw od n 0 w) 1)))), (362, .inr (.inl (0, w))), (363, .inr (.inl (0, ot21))), (364, .inr (.inl (0, kp))), (368, .inr (.inl (0, tk21))), (369, .inr (.inl (0, od))), (370, .inr (.inl (0, be)))] h0 := K.mg K9 rfl rfl
      clear K9
      show j_V jP _ 268 122 lv [.int (m_price (m_toTheEnd n (m_pw od n 0 w) 1))] h9 _
      refine j_V.stL mw2_M mw2_122 rfl (i := 5) (kd := 0) (kl' := [(0, .ref 359), (1, .int x1), (2, .int (gA w 203)), (3, .int v3), (5, .int (m_price (m_toTheEnd n (m_pw od n 0 w) 1)))]) (pcJ := 124) rfl L rfl (by decide) rfl rfl rfl (fun lv L => ?_)
      refine j_V.ldL mw2_M mw2_124 rfl (i := 5) (kd := 0) (v := .int (m_price (m_toTheEnd n (m_pw od n 0 w) 1))) (pcJ := 126) rfl L rfl rfl rfl ?_
      refine j_V.ldL mw2_M mw2_126 rfl (i := 3) (kd := 0) (v := .int v3) (pcJ := 127) rfl L rfl rfl rfl ?_
      refine j_V.icmp mw2_M mw2_127 (t := 162) rfl (fun c127_1 => ?_) (fun c127_1 => ?_)
      · replace c127_1 : ¬ ((m_price (m_toTheEnd n (m_pw od n 0 w) 1)) < v3) := jd_ge c127_1
        refine j_V.ldL mw2_M mw2_162 rfl (i := 0) (kd := 2) (v := .ref 359) (pcJ := 163) rfl L rfl rfl rfl ?_
        refine j_V.ldL mw2_M mw2_163 rfl (i := 2) (kd := 0) (v := .int (gA w 203)) (pcJ := 164) rfl L rfl rfl rfl ?_
        refine j_V.cl mw2_M mw2_164 rfl (md := 3) (mj := 266) rfl (by decide) mw1_M (As := [.ref 359, .int (gA w 203)]) (rest := []) (jk_spl3 (K.at rfl) rfl rfl rfl (Nat.le_of_ble_eq_true rfl) (Nat.le_of_ble_eq_true rfl)) (fun d => mw1_ok (u := u) e.2.1 (K.fi [359, 360, 362, 363, 364, 368, 369, 370] rfl rfl)) ?_
        rintro r h9 ⟨rfl, K9⟩
        have K : KN h9 [(359, .inl (10, [.int th, .ref 360, .ref 361, .ref 362, .ref 363, .ref 364, .ref 365, .ref 366, .ref 367, (u 9), .int sst, (u 11), (u 12), .int acs, (u 14), (u 15), (u 16), (u 17), (u 18), (u 19), (u 20), (u 21), .ref 368, .int tm21, .ref 369, .ref 370, .ref 371, (u 27)])), (360, .inr (.inl (0, (m_toTheEnd n (m_pw od n 0 w) 1)))), (362, .inr (.inl (0, w))), (363, .inr (.inl (0, ot21))), (364, .inr (.inl (0, kp))), (368, .inr (.inl (0, tk21))), (369, .inr (.inl (0, ((m_next_ od (gA w 203)).2)))), (370, .inr (.inl (0, be)))] h0 := K.mg K9 rfl rfl
        clear K9
        show j_V jP _ 268 167 lv [.int ((m_next_ od (gA w 203)).1)] h9 _
        refine j_V.stL mw2_M mw2_167 rfl (i := 4) (kd := 0) (kl' := [(0, .ref 359), (1, .int x1), (2, .int (gA w 203)), (3, .int v3), (5, .int (m_price (m_toTheEnd n (m_pw od n 0 w) 1))), (4, .int ((m_next_ od (gA w 203)).1))]) (pcJ := 169) rfl L rfl (by decide) rfl rfl rfl (fun lv L => ?_)
        refine j_V.gto mw2_M mw2_169 (t := 69) rfl ?_
        rw [show (m_pl n w (f + 1) v3 v4 od be) = _ from ((if_neg c71_0).trans ((if_neg c127_1).trans (rfl)))] at kk
        exact ih _ _ _ _ e.2.2 (H.I1 _ hI21).1 ho21 (L.sub ⟨rfl, rfl, rfl, rfl, rfl, trivial⟩) K kk
      · replace c127_1 : (m_price (m_toTheEnd n (m_pw od n 0 w) 1)) < v3 := jd_gen c127_1
        refine j_V.ldL mw2_M mw2_130 rfl (i := 5) (kd := 0) (v := .int (m_price (m_toTheEnd n (m_pw od n 0 w) 1))) (pcJ := 132) rfl L rfl rfl rfl ?_
        refine j_V.stL mw2_M mw2_132 rfl (i := 3) (kd := 0) (kl' := [(0, .ref 359), (1, .int x1), (2, .int (gA w 203)), (3, .int (m_price (m_toTheEnd n (m_pw od n 0 w) 1))), (5, .int (m_price (m_toTheEnd n (m_pw od n 0 w) 1)))]) (pcJ := 133) rfl L rfl (by decide) rfl rfl rfl (fun lv L => ?_)
        refine j_V.one mw2_M mw2_133 (by decide) (pcJ := 134) (stJ := [.int 0]) rfl ?_
        refine j_V.stL mw2_M mw2_134 rfl (i := 6) (kd := 0) (kl' := [(0, .ref 359), (1, .int x1), (2, .int (gA w 203)), (3, .int (m_price (m_toTheEnd n (m_pw od n 0 w) 1))), (5, .int (m_price (m_toTheEnd n (m_pw od n 0 w) 1))), (6, .int 0)]) (pcJ := 136) rfl L rfl (by decide) rfl rfl rfl (fun lv L => ?_)
        have L : LK lv [(0, .ref 359), (1, .int x1), (2, .int (gA w 203)), (3, .int (m_price (m_toTheEnd n (m_pw od n 0 w) 1))), (6, .int (nI 0))] := (L.sub ⟨rfl, rfl, rfl, rfl, rfl, trivial⟩)
        refine mw2_ok_l136 (x1 := x1) H hI n 0 _ (Nat.zero_add n) L K (fun lv h L K => ?_)
        refine j_V.ldL mw2_M mw2_162 rfl (i := 0) (kd := 2) (v := .ref 359) (pcJ := 163) rfl L rfl rfl rfl ?_
        refine j_V.ldL mw2_M mw2_163 rfl (i := 2) (kd := 0) (v := .int (gA w 203)) (pcJ := 164) rfl L rfl rfl rfl ?_
        refine j_V.cl mw2_M mw2_164 rfl (md := 3) (mj := 266) rfl (by decide) mw1_M (As := [.ref 359, .int (gA w 203)]) (rest := []) (jk_spl3 (K.at rfl) rfl rfl rfl (Nat.le_of_ble_eq_true rfl) (Nat.le_of_ble_eq_true rfl)) (fun d => mw1_ok (u := u) e.2.1 (K.fi [359, 360, 362, 363, 364, 368, 369, 370] rfl rfl)) ?_
        rintro r h9 ⟨rfl, K9⟩
        have K : KN h9 [(359, .inl (10, [.int th, .ref 360, .ref 361, .ref 362, .ref 363, .ref 364, .ref 365, .ref 366, .ref 367, (u 9), .int sst, (u 11), (u 12), .int acs, (u 14), (u 15), (u 16), (u 17), (u 18), (u 19), (u 20), (u 21), .ref 368, .int tm21, .ref 369, .ref 370, .ref 371, (u 27)])), (360, .inr (.inl (0, (m_toTheEnd n (m_pw od n 0 w) 1)))), (362, .inr (.inl (0, w))), (363, .inr (.inl (0, ot21))), (364, .inr (.inl (0, kp))), (368, .inr (.inl (0, tk21))), (369, .inr (.inl (0, ((m_next_ od (gA w 203)).2)))), (370, .inr (.inl (0, (m_pb od n 0 be))))] h0 := K.mg K9 rfl rfl
        clear K9
        show j_V jP _ 268 167 lv [.int ((m_next_ od (gA w 203)).1)] h9 _
        refine j_V.stL mw2_M mw2_167 rfl (i := 4) (kd := 0) (kl' := [(0, .ref 359), (1, .int x1), (2, .int (gA w 203)), (3, .int (m_price (m_toTheEnd n (m_pw od n 0 w) 1))), (4, .int ((m_next_ od (gA w 203)).1))]) (pcJ := 169) rfl L rfl (by decide) rfl rfl rfl (fun lv L => ?_)
        refine j_V.gto mw2_M mw2_169 (t := 69) rfl ?_
        rw [show (m_pl n w (f + 1) v3 v4 od be) = _ from ((if_neg c71_0).trans ((if_pos c127_1).trans (rfl)))] at kk
        exact ih _ _ _ _ e.2.2 (H.I1 _ hI21).1 ho21 L K kk
def m_qplan (n : Nat) (th sst : Int32) (w od be : List Int32) (x1 : Int32) : Int32 × Int32 × Int32 := (if x1 < (-1) then (((m_refuse th sst 1).1), ((m_refuse th sst 1).2.1), ((m_refuse th sst 1).2.2)) else (if x1 < (gA w 203) then (if x1 = (-1) then (((m_gives th sst ((m_pl n w 121 (2147483647 : Int32) 1 (m_poI n 0 od) be).1)).1), ((m_gives th sst ((m_pl n w 121 (2147483647 : Int32) 1 (m_poI n 0 od) be).1)).2.1), ((m_gives th sst ((m_pl n w 121 (2147483647 : Int32) 1 (m_poI n 0 od) be).1)).2.2)) else (((m_gives th sst (gA ((m_pl n w 121 (2147483647 : Int32) 1 (m_poI n 0 od) be).2.2) x1)).1), ((m_gives th sst (gA ((m_pl n w 121 (2147483647 : Int32) 1 (m_poI n 0 od) be).2.2) x1)).2.1), ((m_gives th sst (gA ((m_pl n w 121 (2147483647 : Int32) 1 (m_poI n 0 od) be).2.2) x1)).2.2))) else (((m_refuse th sst 5).1), ((m_refuse th sst 5).2.1), ((m_refuse th sst 5).2.2))))
set_option maxRecDepth 1000000 in
theorem mw2_ok {u : Nat → Value} {n d : Nat} {h h0 : J_H} {th sst acs tm x1 : Int32} {w sd ot kp tk od be : List Int32} {I J : List Int32 → Prop} (H : m_Inv n I J) (H2 : m_Iv2 n I) (hI : I w) (hsd : sd.length = 602) (hot : ot.length = 602) (hpl : m_plk I n w 121 1 (m_poI n 0 od)) (K : KN h [(359, .inl (10, [.int th, .ref 360, .ref 361, .ref 362, .ref 363, .ref 364, .ref 365, .ref 366, .ref 367, (u 9), .int sst, (u 11), (u 12), .int acs, (u 14), (u 15), (u 16), (u 17), (u 18), (u 19), (u 20), (u 21), .ref 368, .int tm, .ref 369, .ref 370, .ref 371, (u 27)])), (360, .inr (.inl (0, w))), (362, .inr (.inl (0, sd))), (363, .inr (.inl (0, ot))), (364, .inr (.inl (0, kp))), (368, .inr (.inl (0, tk))), (369, .inr (.inl (0, od))), (370, .inr (.inl (0, be)))] h0) : j_V jP d 268 0 (lv_args 0 [.ref 359, .int x1]) [] h (fun rv h' => rv = some (.int (m_qplan n th sst w od be x1).1) ∧ ∃ (sd' ot' tk' od' be' : List Int32) (tm' : Int32), sd'.length = 602 ∧ ot'.length = 602 ∧ KN h' [(359, .inl (10, [.int (m_qplan n th sst w od be x1).2.1, .ref 360, .ref 361, .ref 362, .ref 363, .ref 364, .ref 365, .ref 366, .ref 367, (u 9), .int (m_qplan n th sst w od be x1).2.2, (u 11), (u 12), .int acs, (u 14), (u 15), (u 16), (u 17), (u 18), (u 19), (u 20), (u 21), .ref 368, .int tm', .ref 369, .ref 370, .ref 371, (u 27)])), (360, .inr (.inl (0, w))), (362, .inr (.inl (0, sd'))), (363, .inr (.inl (0, ot'))), (364, .inr (.inl (0, kp))), (368, .inr (.inl (0, tk'))), (369, .inr (.inl (0, od'))), (370, .inr (.inl (0, be')))] h0) := by
  show j_V jP d 268 0 [(0, .ref 359), (1, .int x1)] [] h _
  obtain ⟨lv, elv, L⟩ : ∃ lv, lv = [(0, .ref 359), (1, .int x1)] ∧ LK lv [(0, .ref 359), (1, .int x1)] := ⟨_, rfl, LK.rf⟩
  rw [← elv]
  clear elv
  refine j_V.ldL mw2_M mw2_0 rfl (i := 1) (kd := 0) (v := .int x1) (pcJ := 1) rfl L rfl rfl rfl ?_
  refine j_V.one mw2_M mw2_1 (by decide) (pcJ := 2) (stJ := [.int (-1), .int x1]) rfl ?_
  refine j_V.icmp mw2_M mw2_2 (t := 11) rfl (fun c2_0 => ?_) (fun c2_0 => ?_)
  · replace c2_0 : ¬ (x1 < (-1)) := jd_ge c2_0
    refine j_V.ldL mw2_M mw2_11 rfl (i := 0) (kd := 2) (v := .ref 359) (pcJ := 12) rfl L rfl rfl rfl ?_
    refine j_V.getK mw2_M mw2_12 (ci := 10) (j := 1) rfl K rfl rfl ?_
    refine j_V.one mw2_M mw2_15 (by decide) (pcJ := 18) (stJ := [.int 203, .ref 360]) rfl ?_
    refine j_V.iaA mw2_M mw2_18 K rfl ?_
    refine j_V.stL mw2_M mw2_19 rfl (i := 2) (kd := 0) (kl' := [(0, .ref 359), (1, .int x1), (2, .int (gA w 203))]) (pcJ := 20) rfl L rfl (by decide) rfl rfl rfl (fun lv L => ?_)
    refine j_V.ldL mw2_M mw2_20 rfl (i := 1) (kd := 0) (v := .int x1) (pcJ := 21) rfl L rfl rfl rfl ?_
    refine j_V.ldL mw2_M mw2_21 rfl (i := 2) (kd := 0) (v := .int (gA w 203)) (pcJ := 22) rfl L rfl rfl rfl ?_
    refine j_V.icmp mw2_M mw2_22 (t := 31) rfl (fun c22_1 => ?_) (fun c22_1 => ?_)
    · replace c22_1 : x1 < (gA w 203) := jd_lt c22_1
      refine j_V.ldL mw2_M mw2_31 rfl (i := 0) (kd := 2) (v := .ref 359) (pcJ := 32) rfl L rfl rfl rfl ?_
      refine j_V.getK mw2_M mw2_32 (ci := 10) (j := 1) rfl K rfl rfl ?_
      refine j_V.ldL mw2_M mw2_35 rfl (i := 0) (kd := 2) (v := .ref 359) (pcJ := 36) rfl L rfl rfl rfl ?_
      refine j_V.getK mw2_M mw2_36 (ci := 10) (j := 3) rfl K rfl rfl ?_
      refine j_V.cl mw2_M mw2_39 rfl (md := 2) (mj := 201) rfl (by decide) mi2_M (As := [.ref 360, .ref 362]) (rest := []) (jk_spl2 rfl rfl (Nat.le_of_ble_eq_true rfl) (Nat.le_of_ble_eq_true rfl)) (fun d => mi2_ok (K.fi [360, 362] rfl rfl)) ?_
      rintro r h9 ⟨rfl, K9⟩
      have K : KN h9 [(359, .inl (10, [.int th, .ref 360, .ref 361, .ref 362, .ref 363, .ref 364, .ref 365, .ref 366, .ref 367, (u 9), .int sst, (u 11), (u 12), .int acs, (u 14), (u 15), (u 16), (u 17), (u 18), (u 19), (u 20), (u 21), .ref 368, .int tm, .ref 369, .ref 370, .ref 371, (u 27)])), (360, .inr (.inl (0, w))), (362, .inr (.inl (0, ((m_copies w sd))))), (363, .inr (.inl (0, ot))), (364, .inr (.inl (0, kp))), (368, .inr (.inl (0, tk))), (369, .inr (.inl (0, od))), (370, .inr (.inl (0, be)))] h0 := K.mg K9 rfl rfl
      clear K9
      show j_V jP _ 268 42 lv [] h9 _
      rw [m_cp (H.I1 _ hI).1 hsd] at K
      refine j_V.one mw2_M mw2_42 (by decide) (pcJ := 43) (stJ := [.int 0]) rfl ?_
      refine j_V.stL mw2_M mw2_43 rfl (i := 3) (kd := 0) (kl' := [(0, .ref 359), (1, .int x1), (2, .int (gA w 203)), (3, .int 0)]) (pcJ := 44) rfl L rfl (by decide) rfl rfl rfl (fun lv L => ?_)
      have L : LK lv [(0, .ref 359), (1, .int x1), (2, .int (gA w 203)), (3, .int (nI 0))] := L
      refine mw2_ok_l44 (x1 := x1) H hI n 0 _ (Nat.zero_add n) L K (fun lv h L K => ?_)
      refine j_V.one mw2_M mw2_62 (by decide) (pcJ := 65) (stJ := [.int (2147483647 : Int32)]) rfl ?_
      refine j_V.stL mw2_M mw2_65 rfl (i := 3) (kd := 0) (kl' := [(0, .ref 359), (1, .int x1), (2, .int (gA w 203)), (3, .int (2147483647 : Int32))]) (pcJ := 66) rfl L rfl (by decide) rfl rfl rfl (fun lv L => ?_)
      refine j_V.one mw2_M mw2_66 (by decide) (pcJ := 67) (stJ := [.int 1]) rfl ?_
      refine j_V.stL mw2_M mw2_67 rfl (i := 4) (kd := 0) (kl' := [(0, .ref 359), (1, .int x1), (2, .int (gA w 203)), (3, .int (2147483647 : Int32)), (4, .int 1)]) (pcJ := 69) rfl L rfl (by decide) rfl rfl rfl (fun lv L => ?_)
      refine mw2_ok_l69 H hI 121 (2147483647 : Int32) 1 _ _ hpl (H.I1 _ hI).1 hot L K (fun lv h wn ot1 tk1 tm1 hwn ho1 L K => ?_)
      refine j_V.ldL mw2_M mw2_172 rfl (i := 0) (kd := 2) (v := .ref 359) (pcJ := 173) rfl L rfl rfl rfl ?_
      refine j_V.ldL mw2_M mw2_173 rfl (i := 1) (kd := 0) (v := .int x1) (pcJ := 174) rfl L rfl rfl rfl ?_
      refine j_V.one mw2_M mw2_174 (by decide) (pcJ := 175) (stJ := [.int (-1), .int x1, .ref 359]) rfl ?_
      refine j_V.icmp mw2_M mw2_175 (t := 182) rfl (fun c175_2 => ?_) (fun c175_2 => ?_)
      · replace c175_2 : ¬ (x1 = (-1)) := jd_ne c175_2
        refine j_V.ldL mw2_M mw2_182 rfl (i := 0) (kd := 2) (v := .ref 359) (pcJ := 183) rfl L rfl rfl rfl ?_
        refine j_V.getK mw2_M mw2_183 (ci := 10) (j := 25) rfl K rfl rfl ?_
        refine j_V.ldL mw2_M mw2_186 rfl (i := 1) (kd := 0) (v := .int x1) (pcJ := 187) rfl L rfl rfl rfl ?_
        refine j_V.iaA mw2_M mw2_187 K rfl ?_
        refine j_V.cl mw2_M mw2_188 rfl (md := 3) (mj := 261) rfl (by decide) ms2_M (As := [.ref 359, .int (gA ((m_pl n w 121 (2147483647 : Int32) 1 (m_poI n 0 od) be).2.2) x1)]) (rest := []) (jk_spl3 (K.at rfl) rfl rfl rfl (Nat.le_of_ble_eq_true rfl) (Nat.le_of_ble_eq_true rfl)) (fun d => ms2_ok (u := fun j => [.int th, .ref 360, .ref 361, .ref 362, .ref 363, .ref 364, .ref 365, .ref 366, .ref 367, (u 9), .int sst, (u 11), (u 12), .int acs, (u 14), (u 15), (u 16), (u 17), (u 18), (u 19), (u 20), (u 21), .ref 368, .int tm1, .ref 369, .ref 370, .ref 371, (u 27)].getD j .null) hwn (H.I1 _ hI).1 (K.fi [359, 360, 362] rfl rfl)) ?_
        rintro r h9 ⟨rfl, K9⟩
        have K : KN h9 [(359, .inl (10, [.int ((m_gives th sst (gA ((m_pl n w 121 (2147483647 : Int32) 1 (m_poI n 0 od) be).2.2) x1)).2.1), .ref 360, .ref 361, .ref 362, .ref 363, .ref 364, .ref 365, .ref 366, .ref 367, (u 9), .int ((m_gives th sst (gA ((m_pl n w 121 (2147483647 : Int32) 1 (m_poI n 0 od) be).2.2) x1)).2.2), (u 11), (u 12), .int acs, (u 14), (u 15), (u 16), (u 17), (u 18), (u 19), (u 20), (u 21), .ref 368, .int tm1, .ref 369, .ref 370, .ref 371, (u 27)])), (360, .inr (.inl (0, w))), (362, .inr (.inl (0, w))), (363, .inr (.inl (0, ot1))), (364, .inr (.inl (0, kp))), (368, .inr (.inl (0, tk1))), (369, .inr (.inl (0, ((m_pl n w 121 (2147483647 : Int32) 1 (m_poI n 0 od) be).2.1)))), (370, .inr (.inl (0, ((m_pl n w 121 (2147483647 : Int32) 1 (m_poI n 0 od) be).2.2))))] h0 := K.mg K9 rfl rfl
        clear K9
        show j_V jP _ 268 191 lv [.int ((m_gives th sst (gA ((m_pl n w 121 (2147483647 : Int32) 1 (m_poI n 0 od) be).2.2) x1)).1)] h9 _
        refine j_V.ri mw2_M mw2_191 ?_
        rw [show (m_qplan n th sst w od be x1) = _ from ((if_neg c2_0).trans ((if_pos c22_1).trans ((if_neg c175_2).trans (rfl))))]
        exact ⟨rfl, w, ot1, tk1, ((m_pl n w 121 (2147483647 : Int32) 1 (m_poI n 0 od) be).2.1), ((m_pl n w 121 (2147483647 : Int32) 1 (m_poI n 0 od) be).2.2), tm1, (H.I1 _ hI).1, ho1, K⟩
      · replace c175_2 : x1 = (-1) := jd_nen c175_2
        refine j_V.ldL mw2_M mw2_178 rfl (i := 3) (kd := 0) (v := .int ((m_pl n w 121 (2147483647 : Int32) 1 (m_poI n 0 od) be).1)) (pcJ := 179) rfl L rfl rfl rfl ?_
        refine j_V.gto mw2_M mw2_179 (t := 188) rfl ?_
        refine j_V.cl mw2_M mw2_188 rfl (md := 3) (mj := 261) rfl (by decide) ms2_M (As := [.ref 359, .int ((m_pl n w 121 (2147483647 : Int32) 1 (m_poI n 0 od) be).1)]) (rest := []) (jk_spl3 (K.at rfl) rfl rfl rfl (Nat.le_of_ble_eq_true rfl) (Nat.le_of_ble_eq_true rfl)) (fun d => ms2_ok (u := fun j => [.int th, .ref 360, .ref 361, .ref 362, .ref 363, .ref 364, .ref 365, .ref 366, .ref 367, (u 9), .int sst, (u 11), (u 12), .int acs, (u 14), (u 15), (u 16), (u 17), (u 18), (u 19), (u 20), (u 21), .ref 368, .int tm1, .ref 369, .ref 370, .ref 371, (u 27)].getD j .null) hwn (H.I1 _ hI).1 (K.fi [359, 360, 362] rfl rfl)) ?_
        rintro r h9 ⟨rfl, K9⟩
        have K : KN h9 [(359, .inl (10, [.int ((m_gives th sst ((m_pl n w 121 (2147483647 : Int32) 1 (m_poI n 0 od) be).1)).2.1), .ref 360, .ref 361, .ref 362, .ref 363, .ref 364, .ref 365, .ref 366, .ref 367, (u 9), .int ((m_gives th sst ((m_pl n w 121 (2147483647 : Int32) 1 (m_poI n 0 od) be).1)).2.2), (u 11), (u 12), .int acs, (u 14), (u 15), (u 16), (u 17), (u 18), (u 19), (u 20), (u 21), .ref 368, .int tm1, .ref 369, .ref 370, .ref 371, (u 27)])), (360, .inr (.inl (0, w))), (362, .inr (.inl (0, w))), (363, .inr (.inl (0, ot1))), (364, .inr (.inl (0, kp))), (368, .inr (.inl (0, tk1))), (369, .inr (.inl (0, ((m_pl n w 121 (2147483647 : Int32) 1 (m_poI n 0 od) be).2.1)))), (370, .inr (.inl (0, ((m_pl n w 121 (2147483647 : Int32) 1 (m_poI n 0 od) be).2.2))))] h0 := K.mg K9 rfl rfl
        clear K9
        show j_V jP _ 268 191 lv [.int ((m_gives th sst ((m_pl n w 121 (2147483647 : Int32) 1 (m_poI n 0 od) be).1)).1)] h9 _
        refine j_V.ri mw2_M mw2_191 ?_
        rw [show (m_qplan n th sst w od be x1) = _ from ((if_neg c2_0).trans ((if_pos c22_1).trans ((if_pos c175_2).trans (rfl))))]
        exact ⟨rfl, w, ot1, tk1, ((m_pl n w 121 (2147483647 : Int32) 1 (m_poI n 0 od) be).2.1), ((m_pl n w 121 (2147483647 : Int32) 1 (m_poI n 0 od) be).2.2), tm1, (H.I1 _ hI).1, ho1, K⟩
    · replace c22_1 : ¬ (x1 < (gA w 203)) := jd_ltn c22_1
      refine j_V.ldL mw2_M mw2_25 rfl (i := 0) (kd := 2) (v := .ref 359) (pcJ := 26) rfl L rfl rfl rfl ?_
      refine j_V.one mw2_M mw2_26 (by decide) (pcJ := 27) (stJ := [.int 5, .ref 359]) rfl ?_
      refine j_V.cl mw2_M mw2_27 rfl (md := 3) (mj := 169) rfl (by decide) mo0_M (As := [.ref 359, .int 5]) (rest := []) (jk_spl3 (K.at rfl) rfl rfl rfl (Nat.le_of_ble_eq_true rfl) (Nat.le_of_ble_eq_true rfl)) (fun d => mo0_ok (u := fun j => [.int th, .ref 360, .ref 361, .ref 362, .ref 363, .ref 364, .ref 365, .ref 366, .ref 367, (u 9), .int sst, (u 11), (u 12), .int acs, (u 14), (u 15), (u 16), (u 17), (u 18), (u 19), (u 20), (u 21), .ref 368, .int tm, .ref 369, .ref 370, .ref 371, (u 27)].getD j .null) (K.fi [359] rfl rfl)) ?_
      rintro r h9 ⟨rfl, K9⟩
      have K : KN h9 [(359, .inl (10, [.int ((m_refuse th sst 5).2.1), .ref 360, .ref 361, .ref 362, .ref 363, .ref 364, .ref 365, .ref 366, .ref 367, (u 9), .int ((m_refuse th sst 5).2.2), (u 11), (u 12), .int acs, (u 14), (u 15), (u 16), (u 17), (u 18), (u 19), (u 20), (u 21), .ref 368, .int tm, .ref 369, .ref 370, .ref 371, (u 27)])), (360, .inr (.inl (0, w))), (362, .inr (.inl (0, sd))), (363, .inr (.inl (0, ot))), (364, .inr (.inl (0, kp))), (368, .inr (.inl (0, tk))), (369, .inr (.inl (0, od))), (370, .inr (.inl (0, be)))] h0 := K.mg K9 rfl rfl
      clear K9
      show j_V jP _ 268 30 lv [.int ((m_refuse th sst 5).1)] h9 _
      refine j_V.ri mw2_M mw2_30 ?_
      rw [show (m_qplan n th sst w od be x1) = _ from ((if_neg c2_0).trans ((if_neg c22_1).trans (rfl)))]
      exact ⟨rfl, sd, ot, tk, od, be, tm, hsd, hot, K⟩
  · replace c2_0 : x1 < (-1) := jd_gen c2_0
    refine j_V.ldL mw2_M mw2_5 rfl (i := 0) (kd := 2) (v := .ref 359) (pcJ := 6) rfl L rfl rfl rfl ?_
    refine j_V.one mw2_M mw2_6 (by decide) (pcJ := 7) (stJ := [.int 1, .ref 359]) rfl ?_
    refine j_V.cl mw2_M mw2_7 rfl (md := 3) (mj := 169) rfl (by decide) mo0_M (As := [.ref 359, .int 1]) (rest := []) (jk_spl3 (K.at rfl) rfl rfl rfl (Nat.le_of_ble_eq_true rfl) (Nat.le_of_ble_eq_true rfl)) (fun d => mo0_ok (u := fun j => [.int th, .ref 360, .ref 361, .ref 362, .ref 363, .ref 364, .ref 365, .ref 366, .ref 367, (u 9), .int sst, (u 11), (u 12), .int acs, (u 14), (u 15), (u 16), (u 17), (u 18), (u 19), (u 20), (u 21), .ref 368, .int tm, .ref 369, .ref 370, .ref 371, (u 27)].getD j .null) (K.fi [359] rfl rfl)) ?_
    rintro r h9 ⟨rfl, K9⟩
    have K : KN h9 [(359, .inl (10, [.int ((m_refuse th sst 1).2.1), .ref 360, .ref 361, .ref 362, .ref 363, .ref 364, .ref 365, .ref 366, .ref 367, (u 9), .int ((m_refuse th sst 1).2.2), (u 11), (u 12), .int acs, (u 14), (u 15), (u 16), (u 17), (u 18), (u 19), (u 20), (u 21), .ref 368, .int tm, .ref 369, .ref 370, .ref 371, (u 27)])), (360, .inr (.inl (0, w))), (362, .inr (.inl (0, sd))), (363, .inr (.inl (0, ot))), (364, .inr (.inl (0, kp))), (368, .inr (.inl (0, tk))), (369, .inr (.inl (0, od))), (370, .inr (.inl (0, be)))] h0 := K.mg K9 rfl rfl
    clear K9
    show j_V jP _ 268 10 lv [.int ((m_refuse th sst 1).1)] h9 _
    refine j_V.ri mw2_M mw2_10 ?_
    rw [show (m_qplan n th sst w od be x1) = _ from ((if_pos c2_0).trans (rfl))]
    exact ⟨rfl, sd, ot, tk, od, be, tm, hsd, hot, K⟩

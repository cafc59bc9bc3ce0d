/-! the reference's forecasts, by wip/px/gen_m10.py -/
/-- a station with one more track -/
def m_addTrack (w : List Int32) (s x : Int32) : List Int32 := (sA (sA w (((8 * s) + 2) + (m_st w s 1)) x) ((8 * s) + 1) ((gA (sA w (((8 * s) + 2) + (m_st w s 1)) x) ((8 * s) + 1)) + 1))
def m_Iv2 (n : Nat) (I : List Int32 → Prop) : Prop :=
  (∀ w i, i < n → I w → ¬ m_isTrain w (nI i) = 0) ∧
  (∀ w i, I w → i < 2147483648 → (nI i) < (gA w 202) → ¬ m_isStation w (nI i) = 0) ∧
  (∀ w t x, I w → ¬ m_isTrain w t = 0 → ¬ m_isFrom x 1 99 = 0 → I (m_puts w t 10 ((gA w 201) + x))) ∧
  (∀ w t q, I w → ¬ m_isTrain w t = 0 → ¬ m_isTrain w q = 0 → ¬ t = q → I (sA (sA w (196 + (m_rankOf w t)) q) (196 + (m_rankOf w q)) t)) ∧
  (∀ w t i, I w → ¬ m_isTrain w t = 0 → (m_of w t 6) = 0 → i < 61 → I (m_puts w t 3 (nI i))) ∧
  (∀ w s x, I w → ¬ m_isStation w s = 0 → ¬ (m_st w s 1) = 3 → ¬ m_isFrom x 1 99 = 0 → I (m_addTrack w s x)) ∧
  (∀ w s i, I w → ¬ m_isStation w s = 0 → i < 2147483648 → (nI i) < (m_st w s 1) → m_sfok (sA w (((8 * s) + 5) + (nI i)) 1) n) ∧
  (∀ w s i, I w → ¬ m_isStation w s = 0 → i < 2147483648 → (nI i) < (m_st w s 1) → ¬ (m_st w s (5 + (nI i))) = 1 → sA (sA w (((8 * s) + 5) + (nI i)) 1) (((8 * s) + 5) + (nI i)) 0 = w)
theorem m_Iv2.TT {n : Nat} {I : List Int32 → Prop} (h : m_Iv2 n I) : ∀ w i, i < n → I w → ¬ m_isTrain w (nI i) = 0 := h.1
theorem m_Iv2.TS {n : Nat} {I : List Int32 → Prop} (h : m_Iv2 n I) : ∀ w i, I w → i < 2147483648 → (nI i) < (gA w 202) → ¬ m_isStation w (nI i) = 0 := h.2.1
theorem m_Iv2.G {n : Nat} {I : List Int32 → Prop} (h : m_Iv2 n I) : ∀ w t x, I w → ¬ m_isTrain w t = 0 → ¬ m_isFrom x 1 99 = 0 → I (m_puts w t 10 ((gA w 201) + x)) := h.2.2.1
theorem m_Iv2.SW {n : Nat} {I : List Int32 → Prop} (h : m_Iv2 n I) : ∀ w t q, I w → ¬ m_isTrain w t = 0 → ¬ m_isTrain w q = 0 → ¬ t = q → I (sA (sA w (196 + (m_rankOf w t)) q) (196 + (m_rankOf w q)) t) := h.2.2.2.1
theorem m_Iv2.B {n : Nat} {I : List Int32 → Prop} (h : m_Iv2 n I) : ∀ w t i, I w → ¬ m_isTrain w t = 0 → (m_of w t 6) = 0 → i < 61 → I (m_puts w t 3 (nI i)) := h.2.2.2.2.1
theorem m_Iv2.W {n : Nat} {I : List Int32 → Prop} (h : m_Iv2 n I) : ∀ w s x, I w → ¬ m_isStation w s = 0 → ¬ (m_st w s 1) = 3 → ¬ m_isFrom x 1 99 = 0 → I (m_addTrack w s x) := h.2.2.2.2.2.1
theorem m_Iv2.C {n : Nat} {I : List Int32 → Prop} (h : m_Iv2 n I) : ∀ w s i, I w → ¬ m_isStation w s = 0 → i < 2147483648 → (nI i) < (m_st w s 1) → m_sfok (sA w (((8 * s) + 5) + (nI i)) 1) n := h.2.2.2.2.2.2.1
theorem m_Iv2.Z {n : Nat} {I : List Int32 → Prop} (h : m_Iv2 n I) : ∀ w s i, I w → ¬ m_isStation w s = 0 → i < 2147483648 → (nI i) < (m_st w s 1) → ¬ (m_st w s (5 + (nI i))) = 1 → sA (sA w (((8 * s) + 5) + (nI i)) 1) (((8 * s) + 5) + (nI i)) 0 = w := h.2.2.2.2.2.2.2
theorem lpN_lt {n : Int32} : 0 + lpN n (nI 0) < 2147483648 := by
  have := Int32.toInt_lt n
  unfold lpN
  rw [show (nI 0).toInt = 0 from rfl]
  omega
def m_mins (n : Nat) (care : Int32) : Nat → List Int32 → List Int32
  | 0, w => w
  | f + 1, w => m_mins n care f (m_minute n w care)
set_option maxRecDepth 100000 in
theorem mt0_M : j_meth jP 262 = some (yX10_ahead, cX10_ahead, 5, (some .int), 3, false, 10) := rfl
set_option maxRecDepth 100000 in
theorem mt0_0 : j_code jP 262 0 = some (.iload_n 1) := rfl
set_option maxRecDepth 100000 in
theorem mt0_1 : j_code jP 262 1 = some (.iconst 0) := rfl
set_option maxRecDepth 100000 in
theorem mt0_2 : j_code jP 262 2 = some (.bipush 99) := rfl
set_option maxRecDepth 100000 in
theorem mt0_4 : j_code jP 262 4 = some (.invokestatic 61) := rfl
set_option maxRecDepth 100000 in
theorem mt0_7 : j_code jP 262 7 = some (.ifCond .eq 12) := rfl
set_option maxRecDepth 100000 in
theorem mt0_10 : j_code jP 262 10 = some (.iload_n 3) := rfl
set_option maxRecDepth 100000 in
theorem mt0_11 : j_code jP 262 11 = some (.iconst 0) := rfl
set_option maxRecDepth 100000 in
theorem mt0_12 : j_code jP 262 12 = some (.iconst 5) := rfl
set_option maxRecDepth 100000 in
theorem mt0_13 : j_code jP 262 13 = some (.invokestatic 61) := rfl
set_option maxRecDepth 100000 in
theorem mt0_16 : j_code jP 262 16 = some (.ifCond .ne 9) := rfl
set_option maxRecDepth 100000 in
theorem mt0_19 : j_code jP 262 19 = some (.aload_n 0) := rfl
set_option maxRecDepth 100000 in
theorem mt0_20 : j_code jP 262 20 = some (.iconst 1) := rfl
set_option maxRecDepth 100000 in
theorem mt0_21 : j_code jP 262 21 = some (.invokevirtual 179) := rfl
set_option maxRecDepth 100000 in
theorem mt0_24 : j_code jP 262 24 = some (.ireturn) := rfl
set_option maxRecDepth 100000 in
theorem mt0_25 : j_code jP 262 25 = some (.aload_n 0) := rfl
set_option maxRecDepth 100000 in
theorem mt0_26 : j_code jP 262 26 = some (.getfield 7) := rfl
set_option maxRecDepth 100000 in
theorem mt0_29 : j_code jP 262 29 = some (.aload_n 0) := rfl
set_option maxRecDepth 100000 in
theorem mt0_30 : j_code jP 262 30 = some (.getfield 16) := rfl
set_option maxRecDepth 100000 in
theorem mt0_33 : j_code jP 262 33 = some (.invokestatic 188) := rfl
set_option maxRecDepth 100000 in
theorem mt0_36 : j_code jP 262 36 = some (.iconst 0) := rfl
set_option maxRecDepth 100000 in
theorem mt0_37 : j_code jP 262 37 = some (.istore 4) := rfl
set_option maxRecDepth 100000 in
theorem mt0_39 : j_code jP 262 39 = some (.iload 4) := rfl
set_option maxRecDepth 100000 in
theorem mt0_41 : j_code jP 262 41 = some (.iload_n 1) := rfl
set_option maxRecDepth 100000 in
theorem mt0_42 : j_code jP 262 42 = some (.if_icmp .ge 14) := rfl
set_option maxRecDepth 100000 in
theorem mt0_45 : j_code jP 262 45 = some (.aload_n 0) := rfl
set_option maxRecDepth 100000 in
theorem mt0_46 : j_code jP 262 46 = some (.iload_n 2) := rfl
set_option maxRecDepth 100000 in
theorem mt0_47 : j_code jP 262 47 = some (.invokevirtual 291) := rfl
set_option maxRecDepth 100000 in
theorem mt0_50 : j_code jP 262 50 = some (.iinc 4 1) := rfl
set_option maxRecDepth 100000 in
theorem mt0_53 : j_code jP 262 53 = some (.goto (-14)) := rfl
set_option maxRecDepth 100000 in
theorem mt0_56 : j_code jP 262 56 = some (.aload_n 0) := rfl
set_option maxRecDepth 100000 in
theorem mt0_57 : j_code jP 262 57 = some (.iload_n 3) := rfl
set_option maxRecDepth 100000 in
theorem mt0_58 : j_code jP 262 58 = some (.ifCond .ne 11) := rfl
set_option maxRecDepth 100000 in
theorem mt0_61 : j_code jP 262 61 = some (.aload_n 0) := rfl
set_option maxRecDepth 100000 in
theorem mt0_62 : j_code jP 262 62 = some (.iconst 3) := rfl
set_option maxRecDepth 100000 in
theorem mt0_63 : j_code jP 262 63 = some (.invokevirtual 285) := rfl
set_option maxRecDepth 100000 in
theorem mt0_66 : j_code jP 262 66 = some (.goto 73) := rfl
set_option maxRecDepth 100000 in
theorem mt0_69 : j_code jP 262 69 = some (.iload_n 3) := rfl
set_option maxRecDepth 100000 in
theorem mt0_70 : j_code jP 262 70 = some (.iconst 1) := rfl
set_option maxRecDepth 100000 in
theorem mt0_71 : j_code jP 262 71 = some (.if_icmp .ne 10) := rfl
set_option maxRecDepth 100000 in
theorem mt0_74 : j_code jP 262 74 = some (.aload_n 0) := rfl
set_option maxRecDepth 100000 in
theorem mt0_75 : j_code jP 262 75 = some (.invokevirtual 298) := rfl
set_option maxRecDepth 100000 in
theorem mt0_78 : j_code jP 262 78 = some (.goto 61) := rfl
set_option maxRecDepth 100000 in
theorem mt0_81 : j_code jP 262 81 = some (.iload_n 3) := rfl
set_option maxRecDepth 100000 in
theorem mt0_82 : j_code jP 262 82 = some (.iconst 2) := rfl
set_option maxRecDepth 100000 in
theorem mt0_83 : j_code jP 262 83 = some (.if_icmp .ne 18) := rfl
set_option maxRecDepth 100000 in
theorem mt0_86 : j_code jP 262 86 = some (.aload_n 0) := rfl
set_option maxRecDepth 100000 in
theorem mt0_87 : j_code jP 262 87 = some (.invokevirtual 256) := rfl
set_option maxRecDepth 100000 in
theorem mt0_90 : j_code jP 262 90 = some (.ifCond .eq 7) := rfl
set_option maxRecDepth 100000 in
theorem mt0_93 : j_code jP 262 93 = some (.iconst 1) := rfl
set_option maxRecDepth 100000 in
theorem mt0_94 : j_code jP 262 94 = some (.goto 45) := rfl
set_option maxRecDepth 100000 in
theorem mt0_97 : j_code jP 262 97 = some (.iconst 0) := rfl
set_option maxRecDepth 100000 in
theorem mt0_98 : j_code jP 262 98 = some (.goto 41) := rfl
set_option maxRecDepth 100000 in
theorem mt0_101 : j_code jP 262 101 = some (.iload_n 3) := rfl
set_option maxRecDepth 100000 in
theorem mt0_102 : j_code jP 262 102 = some (.iconst 3) := rfl
set_option maxRecDepth 100000 in
theorem mt0_103 : j_code jP 262 103 = some (.if_icmp .ne 18) := rfl
set_option maxRecDepth 100000 in
theorem mt0_106 : j_code jP 262 106 = some (.aload_n 0) := rfl
set_option maxRecDepth 100000 in
theorem mt0_107 : j_code jP 262 107 = some (.invokevirtual 288) := rfl
set_option maxRecDepth 100000 in
theorem mt0_110 : j_code jP 262 110 = some (.ifCond .eq 7) := rfl
set_option maxRecDepth 100000 in
theorem mt0_113 : j_code jP 262 113 = some (.iconst 1) := rfl
set_option maxRecDepth 100000 in
theorem mt0_114 : j_code jP 262 114 = some (.goto 25) := rfl
set_option maxRecDepth 100000 in
theorem mt0_117 : j_code jP 262 117 = some (.iconst 0) := rfl
set_option maxRecDepth 100000 in
theorem mt0_118 : j_code jP 262 118 = some (.goto 21) := rfl
set_option maxRecDepth 100000 in
theorem mt0_121 : j_code jP 262 121 = some (.iload_n 3) := rfl
set_option maxRecDepth 100000 in
theorem mt0_122 : j_code jP 262 122 = some (.iconst 4) := rfl
set_option maxRecDepth 100000 in
theorem mt0_123 : j_code jP 262 123 = some (.if_icmp .ne 11) := rfl
set_option maxRecDepth 100000 in
theorem mt0_126 : j_code jP 262 126 = some (.aload_n 0) := rfl
set_option maxRecDepth 100000 in
theorem mt0_127 : j_code jP 262 127 = some (.iconst 2) := rfl
set_option maxRecDepth 100000 in
theorem mt0_128 : j_code jP 262 128 = some (.invokevirtual 285) := rfl
set_option maxRecDepth 100000 in
theorem mt0_131 : j_code jP 262 131 = some (.goto 8) := rfl
set_option maxRecDepth 100000 in
theorem mt0_134 : j_code jP 262 134 = some (.aload_n 0) := rfl
set_option maxRecDepth 100000 in
theorem mt0_135 : j_code jP 262 135 = some (.iconst 0) := rfl
set_option maxRecDepth 100000 in
theorem mt0_136 : j_code jP 262 136 = some (.invokevirtual 285) := rfl
set_option maxRecDepth 100000 in
theorem mt0_139 : j_code jP 262 139 = some (.invokevirtual 329) := rfl
set_option maxRecDepth 100000 in
theorem mt0_142 : j_code jP 262 142 = some (.ireturn) := rfl
set_option maxRecDepth 1000000 in
theorem mt0_ok_l39 {u : Nat → Value} {n d : Nat} {h0 : J_H} {th sst acs x1 x2 x3 : Int32} {sd kp od be : List Int32}  {I J : List Int32 → Prop} (H : m_Inv n I J) (H2 : m_Iv2 n I) {Q : Option Value → J_H → Prop} : ∀ (f i : Nat) (w : List Int32) {ot tk : List Int32} {tm : Int32} {lv : J_L} {h : J_H}, lpN x1 (nI i) = f → I w → ot.length = 602 → LK lv [(0, .ref 359), (1, .int x1), (2, .int x2), (3, .int x3), (4, .int (nI i))] → KN h [(359, .inl (10, [.int th, .ref 360, .ref 361, .ref 362, .ref 363, .ref 364, .ref 365, .ref 366, .ref 367, (u 9), .int sst, (u 11), (u 12), .int acs, (u 14), (u 15), (u 16), (u 17), (u 18), (u 19), (u 20), (u 21), .ref 368, .int tm, .ref 369, .ref 370, .ref 371, (u 27)])), (360, .inr (.inl (0, w))), (362, .inr (.inl (0, sd))), (363, .inr (.inl (0, ot))), (364, .inr (.inl (0, kp))), (368, .inr (.inl (0, tk))), (369, .inr (.inl (0, od))), (370, .inr (.inl (0, be)))] h0 → (∀ lv h (ot tk : List Int32) (tm : Int32) (w' : List Int32), ot.length = 602 → w' = m_mins n x2 f w → I w' → LK lv [(0, .ref 359), (1, .int x1), (2, .int x2), (3, .int x3)] → KN h [(359, .inl (10, [.int th, .ref 360, .ref 361, .ref 362, .ref 363, .ref 364, .ref 365, .ref 366, .ref 367, (u 9), .int sst, (u 11), (u 12), .int acs, (u 14), (u 15), (u 16), (u 17), (u 18), (u 19), (u 20), (u 21), .ref 368, .int tm, .ref 369, .ref 370, .ref 371, (u 27)])), (360, .inr (.inl (0, w'))), (362, .inr (.inl (0, sd))), (363, .inr (.inl (0, ot))), (364, .inr (.inl (0, kp))), (368, .inr (.inl (0, tk))), (369, .inr (.inl (0, od))), (370, .inr (.inl (0, be)))] h0 → j_V jP d 262 56 lv [] h Q) → j_V jP d 262 39 lv [] h Q := by
  intro f
  induction f with
  | zero =>
    intro i w ot tk tm lv h e hI hot L K kk
    refine j_V.ldL mt0_M mt0_39 rfl (i := 4) (kd := 0) (v := .int (nI i)) (pcJ := 41) rfl L rfl rfl rfl ?_
    refine j_V.ldL mt0_M mt0_41 rfl (i := 1) (kd := 0) (v := .int x1) (pcJ := 42) rfl L rfl rfl rfl ?_
    refine j_V.icmp mt0_M mt0_42 (t := 56) rfl (fun c42_0 => ?_) (fun c42_0 => ?_)
    · replace c42_0 : ¬ ((nI i) < x1) := jd_ge c42_0
      exact kk _ _ _ _ _ _ hot rfl hI (L.sub ⟨rfl, rfl, rfl, rfl, trivial⟩) K
    · replace c42_0 : (nI i) < x1 := jd_gen c42_0
      exact absurd c42_0 (lpN_z e)
  | succ f ih =>
    intro i w ot tk tm lv h e hI hot L K kk
    refine j_V.ldL mt0_M mt0_39 rfl (i := 4) (kd := 0) (v := .int (nI i)) (pcJ := 41) rfl L rfl rfl rfl ?_
    refine j_V.ldL mt0_M mt0_41 rfl (i := 1) (kd := 0) (v := .int x1) (pcJ := 42) rfl L rfl rfl rfl ?_
    refine j_V.icmp mt0_M mt0_42 (t := 56) rfl (fun c42_0 => ?_) (fun c42_0 => ?_)
    · replace c42_0 : ¬ ((nI i) < x1) := jd_ge c42_0
      exact absurd (lpN_s e) c42_0
    · replace c42_0 : (nI i) < x1 := jd_gen c42_0
      refine j_V.ldL mt0_M mt0_45 rfl (i := 0) (kd := 2) (v := .ref 359) (pcJ := 46) rfl L rfl rfl rfl ?_
      refine j_V.ldL mt0_M mt0_46 rfl (i := 2) (kd := 0) (v := .int x2) (pcJ := 47) rfl L rfl rfl rfl ?_
      refine j_V.cl mt0_M mt0_47 rfl (md := 3) (mj := 227) rfl (by decide) mj0_M (As := [.ref 359, .int x2]) (rest := []) (jk_spl3 (K.at rfl) rfl rfl rfl (Nat.le_of_ble_eq_true rfl) (Nat.le_of_ble_eq_true rfl)) (fun d => mj09_ok (u := fun j => [.int th, .ref 360, .ref 361, .ref 362, .ref 363, .ref 364, .ref 365, .ref 366, .ref 367, (u 9), .int sst, (u 11), (u 12), .int acs, (u 14), (u 15), (u 16), (u 17), (u 18), (u 19), (u 20), (u 21), .ref 368, .int tm, .ref 369, .ref 370, .ref 371, (u 27)].getD j .null) H hI hot (K.fi [359, 360, 363, 368] rfl rfl)) ?_
      rintro r h9 ⟨rfl, hI5, ot5, tk5, tm5, ho5, K9⟩
      have K : KN h9 [(359, .inl (10, [.int th, .ref 360, .ref 361, .ref 362, .ref 363, .ref 364, .ref 365, .ref 366, .ref 367, (u 9), .int sst, (u 11), (u 12), .int acs, (u 14), (u 15), (u 16), (u 17), (u 18), (u 19), (u 20), (u 21), .ref 368, .int tm5, .ref 369, .ref 370, .ref 371, (u 27)])), (360, .inr (.inl (0, (m_minute n w x2)))), (362, .inr (.inl (0, sd))), (363, .inr (.inl (0, ot5))), (364, .inr (.inl (0, kp))), (368, .inr (.inl (0, tk5))), (369, .inr (.inl (0, od))), (370, .inr (.inl (0, be)))] h0 := K.mg K9 rfl rfl
      clear K9
      show j_V jP _ 262 50 lv [] h9 _
      refine j_V.inL mt0_M mt0_50 (i := 4) (kl' := [(0, .ref 359), (1, .int x1), (2, .int x2), (3, .int x3), (4, .int ((nI i) + 1))]) (pcJ := 53) L rfl rfl rfl rfl (fun lv L => ?_)
      refine j_V.gto mt0_M mt0_53 (t := 39) rfl ?_
      rw [nI_one] at L
      exact ih (i + 1) _ (by rw [← nI_one]; exact lpN_n e) hI5 ho5 L K kk
def m_qahead (n : Nat) (th : Int32) (sst : Int32) (w : List Int32) (x1 : Int32) (x2 : Int32) (x3 : Int32) : Int32 × Int32 × Int32 := (if (m_isFrom x1 0 99) = 0 then (((m_refuse th sst 1).1), ((m_refuse th sst 1).2.1), ((m_refuse th sst 1).2.2)) else (if (m_isFrom x3 0 5) = 0 then (((m_refuse th sst 1).1), ((m_refuse th sst 1).2.1), ((m_refuse th sst 1).2.2)) else (if x3 = 0 then (((m_gives th sst (m_howMany (m_mins n x2 (lpN x1 (nI 0)) w) 3)).1), ((m_gives th sst (m_howMany (m_mins n x2 (lpN x1 (nI 0)) w) 3)).2.1), ((m_gives th sst (m_howMany (m_mins n x2 (lpN x1 (nI 0)) w) 3)).2.2)) else (if x3 = 1 then (((m_gives th sst (m_price (m_mins n x2 (lpN x1 (nI 0)) w))).1), ((m_gives th sst (m_price (m_mins n x2 (lpN x1 (nI 0)) w))).2.1), ((m_gives th sst (m_price (m_mins n x2 (lpN x1 (nI 0)) w))).2.2)) else (if x3 = 2 then (if (m_isSafe (m_mins n x2 (lpN x1 (nI 0)) w) n) = 0 then (((m_gives th sst 0).1), ((m_gives th sst 0).2.1), ((m_gives th sst 0).2.2)) else (((m_gives th sst 1).1), ((m_gives th sst 1).2.1), ((m_gives th sst 1).2.2))) else (if x3 = 3 then (if (m_isStuck (m_mins n x2 (lpN x1 (nI 0)) w)) = 0 then (((m_gives th sst 0).1), ((m_gives th sst 0).2.1), ((m_gives th sst 0).2.2)) else (((m_gives th sst 1).1), ((m_gives th sst 1).2.1), ((m_gives th sst 1).2.2))) else (if x3 = 4 then (((m_gives th sst (m_howMany (m_mins n x2 (lpN x1 (nI 0)) w) 2)).1), ((m_gives th sst (m_howMany (m_mins n x2 (lpN x1 (nI 0)) w) 2)).2.1), ((m_gives th sst (m_howMany (m_mins n x2 (lpN x1 (nI 0)) w) 2)).2.2)) else (((m_gives th sst (m_howMany (m_mins n x2 (lpN x1 (nI 0)) w) 0)).1), ((m_gives th sst (m_howMany (m_mins n x2 (lpN x1 (nI 0)) w) 0)).2.1), ((m_gives th sst (m_howMany (m_mins n x2 (lpN x1 (nI 0)) w) 0)).2.2)))))))))
set_option maxRecDepth 1000000 in
theorem mt0_ok {u : Nat → Value} {n d : Nat} {h h0 : J_H} {th sst acs tm x1 x2 x3 : Int32} {w sd ot kp tk od be : List Int32} {I J : List Int32 → Prop} (H : m_Inv n I J) (H2 : m_Iv2 n I) (hI : I w) (hsd : sd.length = 602) (hot : ot.length = 602) (K : KN h [(359, .inl (10, [.int th, .ref 360, .ref 361, .ref 362, .ref 363, .ref 364, .ref 365, .ref 366, .ref 367, (u 9), .int sst, (u 11), (u 12), .int acs, (u 14), (u 15), (u 16), (u 17), (u 18), (u 19), (u 20), (u 21), .ref 368, .int tm, .ref 369, .ref 370, .ref 371, (u 27)])), (360, .inr (.inl (0, w))), (362, .inr (.inl (0, sd))), (363, .inr (.inl (0, ot))), (364, .inr (.inl (0, kp))), (368, .inr (.inl (0, tk))), (369, .inr (.inl (0, od))), (370, .inr (.inl (0, be)))] h0) : j_V jP d 262 0 (lv_args 0 [.ref 359, .int x1, .int x2, .int x3]) [] h (fun rv h' => rv = some (.int (m_qahead n th sst w x1 x2 x3).1) ∧ ∃ (sd' ot' tk' : List Int32) (tm' : Int32), sd'.length = 602 ∧ ot'.length = 602 ∧ KN h' [(359, .inl (10, [.int (m_qahead n th sst w x1 x2 x3).2.1, .ref 360, .ref 361, .ref 362, .ref 363, .ref 364, .ref 365, .ref 366, .ref 367, (u 9), .int (m_qahead n th sst w x1 x2 x3).2.2, (u 11), (u 12), .int acs, (u 14), (u 15), (u 16), (u 17), (u 18), (u 19), (u 20), (u 21), .ref 368, .int tm', .ref 369, .ref 370, .ref 371, (u 27)])), (360, .inr (.inl (0, w))), (362, .inr (.inl (0, sd'))), (363, .inr (.inl (0, ot'))), (364, .inr (.inl (0, kp))), (368, .inr (.inl (0, tk'))), (369, .inr (.inl (0, od))), (370, .inr (.inl (0, be)))] h0) := by
  show j_V jP d 262 0 [(0, .ref 359), (1, .int x1), (2, .int x2), (3, .int x3)] [] h _
  obtain ⟨lv, elv, L⟩ : ∃ lv, lv = [(0, .ref 359), (1, .int x1), (2, .int x2), (3, .int x3)] ∧ LK lv [(0, .ref 359), (1, .int x1), (2, .int x2), (3, .int x3)] := ⟨_, rfl, LK.rf⟩
  rw [← elv]
  clear elv
  refine j_V.ldL mt0_M mt0_0 rfl (i := 1) (kd := 0) (v := .int x1) (pcJ := 1) rfl L rfl rfl rfl ?_
  refine j_V.one mt0_M mt0_1 (by decide) (pcJ := 2) (stJ := [.int 0, .int x1]) rfl ?_
  refine j_V.one mt0_M mt0_2 (by decide) (pcJ := 4) (stJ := [.int 99, .int 0, .int x1]) rfl ?_
  refine j_V.cl mt0_M mt0_4 rfl (md := 2) (mj := 171) rfl (by decide) ma0_M (As := [.int x1, .int 0, .int 99]) (rest := []) (jk_spl2 rfl rfl (Nat.le_of_ble_eq_true rfl) (Nat.le_of_ble_eq_true rfl)) (fun d => ma0_ok (K.fi [] rfl rfl)) ?_
  rintro r hz ⟨rfl, ez⟩
  rw [ez]
  clear ez
  show j_V jP _ 262 7 lv [.int (m_isFrom x1 0 99)] h _
  refine j_V.ifc mt0_M mt0_7 (t := 19) rfl (fun c7_0 => ?_) (fun c7_0 => ?_)
  · replace c7_0 : (m_isFrom x1 0 99) = 0 := jd_eq c7_0
    refine j_V.ldL mt0_M mt0_19 rfl (i := 0) (kd := 2) (v := .ref 359) (pcJ := 20) rfl L rfl rfl rfl ?_
    refine j_V.one mt0_M mt0_20 (by decide) (pcJ := 21) (stJ := [.int 1, .ref 359]) rfl ?_
    refine j_V.cl mt0_M mt0_21 rfl (md := 3) (mj := 169) rfl (by decide) mo0_M (As := [.ref 359, .int 1]) (rest := []) (jk_spl3 (K.at rfl) rfl rfl rfl (Nat.le_of_ble_eq_true rfl) (Nat.le_of_ble_eq_true rfl)) (fun d => mo0_ok (u := fun j => [.int th, .ref 360, .ref 361, .ref 362, .ref 363, .ref 364, .ref 365, .ref 366, .ref 367, (u 9), .int sst, (u 11), (u 12), .int acs, (u 14), (u 15), (u 16), (u 17), (u 18), (u 19), (u 20), (u 21), .ref 368, .int tm, .ref 369, .ref 370, .ref 371, (u 27)].getD j .null) (K.fi [359] rfl rfl)) ?_
    rintro r h9 ⟨rfl, K9⟩
    have K : KN h9 [(359, .inl (10, [.int ((m_refuse th sst 1).2.1), .ref 360, .ref 361, .ref 362, .ref 363, .ref 364, .ref 365, .ref 366, .ref 367, (u 9), .int ((m_refuse th sst 1).2.2), (u 11), (u 12), .int acs, (u 14), (u 15), (u 16), (u 17), (u 18), (u 19), (u 20), (u 21), .ref 368, .int tm, .ref 369, .ref 370, .ref 371, (u 27)])), (360, .inr (.inl (0, w))), (362, .inr (.inl (0, sd))), (363, .inr (.inl (0, ot))), (364, .inr (.inl (0, kp))), (368, .inr (.inl (0, tk))), (369, .inr (.inl (0, od))), (370, .inr (.inl (0, be)))] h0 := K.mg K9 rfl rfl
    clear K9
    show j_V jP _ 262 24 lv [.int ((m_refuse th sst 1).1)] h9 _
    refine j_V.ri mt0_M mt0_24 ?_
    rw [show (m_qahead n th sst w x1 x2 x3) = _ from ((if_pos c7_0).trans (rfl))]
    exact ⟨rfl, sd, ot, tk, tm, hsd, hot, K⟩
  · replace c7_0 : ¬ ((m_isFrom x1 0 99) = 0) := jd_eqn c7_0
    refine j_V.ldL mt0_M mt0_10 rfl (i := 3) (kd := 0) (v := .int x3) (pcJ := 11) rfl L rfl rfl rfl ?_
    refine j_V.one mt0_M mt0_11 (by decide) (pcJ := 12) (stJ := [.int 0, .int x3]) rfl ?_
    refine j_V.one mt0_M mt0_12 (by decide) (pcJ := 13) (stJ := [.int 5, .int 0, .int x3]) rfl ?_
    refine j_V.cl mt0_M mt0_13 rfl (md := 2) (mj := 171) rfl (by decide) ma0_M (As := [.int x3, .int 0, .int 5]) (rest := []) (jk_spl2 rfl rfl (Nat.le_of_ble_eq_true rfl) (Nat.le_of_ble_eq_true rfl)) (fun d => ma0_ok (K.fi [] rfl rfl)) ?_
    rintro r hz ⟨rfl, ez⟩
    rw [ez]
    clear ez
    show j_V jP _ 262 16 lv [.int (m_isFrom x3 0 5)] h _
    refine j_V.ifc mt0_M mt0_16 (t := 25) rfl (fun c16_1 => ?_) (fun c16_1 => ?_)
    · replace c16_1 : ¬ ((m_isFrom x3 0 5) = 0) := jd_ne c16_1
      refine j_V.ldL mt0_M mt0_25 rfl (i := 0) (kd := 2) (v := .ref 359) (pcJ := 26) rfl L rfl rfl rfl ?_
      refine j_V.getK mt0_M mt0_26 (ci := 10) (j := 1) rfl K rfl rfl ?_
      refine j_V.ldL mt0_M mt0_29 rfl (i := 0) (kd := 2) (v := .ref 359) (pcJ := 30) rfl L rfl rfl rfl ?_
      refine j_V.getK mt0_M mt0_30 (ci := 10) (j := 3) rfl K rfl rfl ?_
      refine j_V.cl mt0_M mt0_33 rfl (md := 2) (mj := 201) rfl (by decide) mi2_M (As := [.ref 360, .ref 362]) (rest := []) (jk_spl2 rfl rfl (Nat.le_of_ble_eq_true rfl) (Nat.le_of_ble_eq_true rfl)) (fun d => mi2_ok (K.fi [360, 362] rfl rfl)) ?_
      rintro r h9 ⟨rfl, K9⟩
      have K : KN h9 [(359, .inl (10, [.int th, .ref 360, .ref 361, .ref 362, .ref 363, .ref 364, .ref 365, .ref 366, .ref 367, (u 9), .int sst, (u 11), (u 12), .int acs, (u 14), (u 15), (u 16), (u 17), (u 18), (u 19), (u 20), (u 21), .ref 368, .int tm, .ref 369, .ref 370, .ref 371, (u 27)])), (360, .inr (.inl (0, w))), (362, .inr (.inl (0, ((m_copies w sd))))), (363, .inr (.inl (0, ot))), (364, .inr (.inl (0, kp))), (368, .inr (.inl (0, tk))), (369, .inr (.inl (0, od))), (370, .inr (.inl (0, be)))] h0 := K.mg K9 rfl rfl
      clear K9
      show j_V jP _ 262 36 lv [] h9 _
      rw [m_cp (H.I1 _ hI).1 hsd] at K
      refine j_V.one mt0_M mt0_36 (by decide) (pcJ := 37) (stJ := [.int 0]) rfl ?_
      refine j_V.stL mt0_M mt0_37 rfl (i := 4) (kd := 0) (kl' := [(0, .ref 359), (1, .int x1), (2, .int x2), (3, .int x3), (4, .int 0)]) (pcJ := 39) rfl L rfl (by decide) rfl rfl rfl (fun lv L => ?_)
      have L : LK lv [(0, .ref 359), (1, .int x1), (2, .int x2), (3, .int x3), (4, .int (nI 0))] := L
      refine mt0_ok_l39 H H2 (lpN x1 (nI 0)) 0 w rfl hI hot L K (fun lv h ot1 tk1 tm1 w1 hot1 e1 hI1 L K => ?_)
      obtain rfl := e1
      refine j_V.ldL mt0_M mt0_56 rfl (i := 0) (kd := 2) (v := .ref 359) (pcJ := 57) rfl L rfl rfl rfl ?_
      refine j_V.ldL mt0_M mt0_57 rfl (i := 3) (kd := 0) (v := .int x3) (pcJ := 58) rfl L rfl rfl rfl ?_
      refine j_V.ifc mt0_M mt0_58 (t := 69) rfl (fun c58_2 => ?_) (fun c58_2 => ?_)
      · replace c58_2 : ¬ (x3 = 0) := jd_ne c58_2
        refine j_V.ldL mt0_M mt0_69 rfl (i := 3) (kd := 0) (v := .int x3) (pcJ := 70) rfl L rfl rfl rfl ?_
        refine j_V.one mt0_M mt0_70 (by decide) (pcJ := 71) (stJ := [.int 1, .int x3, .ref 359]) rfl ?_
        refine j_V.icmp mt0_M mt0_71 (t := 81) rfl (fun c71_3 => ?_) (fun c71_3 => ?_)
        · replace c71_3 : ¬ (x3 = 1) := jd_ne c71_3
          refine j_V.ldL mt0_M mt0_81 rfl (i := 3) (kd := 0) (v := .int x3) (pcJ := 82) rfl L rfl rfl rfl ?_
          refine j_V.one mt0_M mt0_82 (by decide) (pcJ := 83) (stJ := [.int 2, .int x3, .ref 359]) rfl ?_
          refine j_V.icmp mt0_M mt0_83 (t := 101) rfl (fun c83_4 => ?_) (fun c83_4 => ?_)
          · replace c83_4 : ¬ (x3 = 2) := jd_ne c83_4
            refine j_V.ldL mt0_M mt0_101 rfl (i := 3) (kd := 0) (v := .int x3) (pcJ := 102) rfl L rfl rfl rfl ?_
            refine j_V.one mt0_M mt0_102 (by decide) (pcJ := 103) (stJ := [.int 3, .int x3, .ref 359]) rfl ?_
            refine j_V.icmp mt0_M mt0_103 (t := 121) rfl (fun c103_5 => ?_) (fun c103_5 => ?_)
            · replace c103_5 : ¬ (x3 = 3) := jd_ne c103_5
              refine j_V.ldL mt0_M mt0_121 rfl (i := 3) (kd := 0) (v := .int x3) (pcJ := 122) rfl L rfl rfl rfl ?_
              refine j_V.one mt0_M mt0_122 (by decide) (pcJ := 123) (stJ := [.int 4, .int x3, .ref 359]) rfl ?_
              refine j_V.icmp mt0_M mt0_123 (t := 134) rfl (fun c123_6 => ?_) (fun c123_6 => ?_)
              · replace c123_6 : ¬ (x3 = 4) := jd_ne c123_6
                refine j_V.ldL mt0_M mt0_134 rfl (i := 0) (kd := 2) (v := .ref 359) (pcJ := 135) rfl L rfl rfl rfl ?_
                refine j_V.one mt0_M mt0_135 (by decide) (pcJ := 136) (stJ := [.int 0, .ref 359, .ref 359]) rfl ?_
                refine j_V.cl mt0_M mt0_136 rfl (md := 3) (mj := 229) rfl (by decide) mc2_M (As := [.ref 359, .int 0]) (rest := [.ref 359]) (jk_spl3 (K.at rfl) rfl rfl rfl (Nat.le_of_ble_eq_true rfl) (Nat.le_of_ble_eq_true rfl)) (fun d => mc2_ok (u := fun j => [.int th, .ref 360, .ref 361, .ref 362, .ref 363, .ref 364, .ref 365, .ref 366, .ref 367, (u 9), .int sst, (u 11), (u 12), .int acs, (u 14), (u 15), (u 16), (u 17), (u 18), (u 19), (u 20), (u 21), .ref 368, .int tm1, .ref 369, .ref 370, .ref 371, (u 27)].getD j .null) (K.fi [359, 360] rfl rfl)) ?_
                rintro r hz ⟨rfl, ez⟩
                rw [ez]
                clear ez
                show j_V jP _ 262 139 lv [.int (m_howMany (m_mins n x2 (lpN x1 (nI 0)) w) 0), .ref 359] h _
                refine j_V.cl mt0_M mt0_139 rfl (md := 3) (mj := 261) rfl (by decide) ms2_M (As := [.ref 359, .int (m_howMany (m_mins n x2 (lpN x1 (nI 0)) w) 0)]) (rest := []) (jk_spl3 (K.at rfl) rfl rfl rfl (Nat.le_of_ble_eq_true rfl) (Nat.le_of_ble_eq_true rfl)) (fun d => ms2_ok (u := fun j => [.int th, .ref 360, .ref 361, .ref 362, .ref 363, .ref 364, .ref 365, .ref 366, .ref 367, (u 9), .int sst, (u 11), (u 12), .int acs, (u 14), (u 15), (u 16), (u 17), (u 18), (u 19), (u 20), (u 21), .ref 368, .int tm1, .ref 369, .ref 370, .ref 371, (u 27)].getD j .null) (H.I1 _ hI1).1 (H.I1 _ hI).1 (K.fi [359, 360, 362] rfl rfl)) ?_
                rintro r h9 ⟨rfl, K9⟩
                have K : KN h9 [(359, .inl (10, [.int ((m_gives th sst (m_howMany (m_mins n x2 (lpN x1 (nI 0)) w) 0)).2.1), .ref 360, .ref 361, .ref 362, .ref 363, .ref 364, .ref 365, .ref 366, .ref 367, (u 9), .int ((m_gives th sst (m_howMany (m_mins n x2 (lpN x1 (nI 0)) w) 0)).2.2), (u 11), (u 12), .int acs, (u 14), (u 15), (u 16), (u 17), (u 18), (u 19), (u 20), (u 21), .ref 368, .int tm1, .ref 369, .ref 370, .ref 371, (u 27)])), (360, .inr (.inl (0, w))), (362, .inr (.inl (0, w))), (363, .inr (.inl (0, ot1))), (364, .inr (.inl (0, kp))), (368, .inr (.inl (0, tk1))), (369, .inr (.inl (0, od))), (370, .inr (.inl (0, be)))] h0 := K.mg K9 rfl rfl
                clear K9
                show j_V jP _ 262 142 lv [.int ((m_gives th sst (m_howMany (m_mins n x2 (lpN x1 (nI 0)) w) 0)).1)] h9 _
                refine j_V.ri mt0_M mt0_142 ?_
                rw [show (m_qahead n th sst w x1 x2 x3) = _ from ((if_neg c7_0).trans ((if_neg c16_1).trans ((if_neg c58_2).trans ((if_neg c71_3).trans ((if_neg c83_4).trans ((if_neg c103_5).trans ((if_neg c123_6).trans (rfl))))))))]
                exact ⟨rfl, w, ot1, tk1, tm1, (H.I1 _ hI).1, hot1, K⟩
              · replace c123_6 : x3 = 4 := jd_nen c123_6
                refine j_V.ldL mt0_M mt0_126 rfl (i := 0) (kd := 2) (v := .ref 359) (pcJ := 127) rfl L rfl rfl rfl ?_
                refine j_V.one mt0_M mt0_127 (by decide) (pcJ := 128) (stJ := [.int 2, .ref 359, .ref 359]) rfl ?_
                refine j_V.cl mt0_M mt0_128 rfl (md := 3) (mj := 229) rfl (by decide) mc2_M (As := [.ref 359, .int 2]) (rest := [.ref 359]) (jk_spl3 (K.at rfl) rfl rfl rfl (Nat.le_of_ble_eq_true rfl) (Nat.le_of_ble_eq_true rfl)) (fun d => mc2_ok (u := fun j => [.int th, .ref 360, .ref 361, .ref 362, .ref 363, .ref 364, .ref 365, .ref 366, .ref 367, (u 9), .int sst, (u 11), (u 12), .int acs, (u 14), (u 15), (u 16), (u 17), (u 18), (u 19), (u 20), (u 21), .ref 368, .int tm1, .ref 369, .ref 370, .ref 371, (u 27)].getD j .null) (K.fi [359, 360] rfl rfl)) ?_
                rintro r hz ⟨rfl, ez⟩
                rw [ez]
                clear ez
                show j_V jP _ 262 131 lv [.int (m_howMany (m_mins n x2 (lpN x1 (nI 0)) w) 2), .ref 359] h _
                refine j_V.gto mt0_M mt0_131 (t := 139) rfl ?_
                refine j_V.cl mt0_M mt0_139 rfl (md := 3) (mj := 261) rfl (by decide) ms2_M (As := [.ref 359, .int (m_howMany (m_mins n x2 (lpN x1 (nI 0)) w) 2)]) (rest := []) (jk_spl3 (K.at rfl) rfl rfl rfl (Nat.le_of_ble_eq_true rfl) (Nat.le_of_ble_eq_true rfl)) (fun d => ms2_ok (u := fun j => [.int th, .ref 360, .ref 361, .ref 362, .ref 363, .ref 364, .ref 365, .ref 366, .ref 367, (u 9), .int sst, (u 11), (u 12), .int acs, (u 14), (u 15), (u 16), (u 17), (u 18), (u 19), (u 20), (u 21), .ref 368, .int tm1, .ref 369, .ref 370, .ref 371, (u 27)].getD j .null) (H.I1 _ hI1).1 (H.I1 _ hI).1 (K.fi [359, 360, 362] rfl rfl)) ?_
                rintro r h9 ⟨rfl, K9⟩
                have K : KN h9 [(359, .inl (10, [.int ((m_gives th sst (m_howMany (m_mins n x2 (lpN x1 (nI 0)) w) 2)).2.1), .ref 360, .ref 361, .ref 362, .ref 363, .ref 364, .ref 365, .ref 366, .ref 367, (u 9), .int ((m_gives th sst (m_howMany (m_mins n x2 (lpN x1 (nI 0)) w) 2)).2.2), (u 11), (u 12), .int acs, (u 14), (u 15), (u 16), (u 17), (u 18), (u 19), (u 20), (u 21), .ref 368, .int tm1, .ref 369, .ref 370, .ref 371, (u 27)])), (360, .inr (.inl (0, w))), (362, .inr (.inl (0, w))), (363, .inr (.inl (0, ot1))), (364, .inr (.inl (0, kp))), (368, .inr (.inl (0, tk1))), (369, .inr (.inl (0, od))), (370, .inr (.inl (0, be)))] h0 := K.mg K9 rfl rfl
                clear K9
                show j_V jP _ 262 142 lv [.int ((m_gives th sst (m_howMany (m_mins n x2 (lpN x1 (nI 0)) w) 2)).1)] h9 _
                refine j_V.ri mt0_M mt0_142 ?_
                rw [show (m_qahead n th sst w x1 x2 x3) = _ from ((if_neg c7_0).trans ((if_neg c16_1).trans ((if_neg c58_2).trans ((if_neg c71_3).trans ((if_neg c83_4).trans ((if_neg c103_5).trans ((if_pos c123_6).trans (rfl))))))))]
                exact ⟨rfl, w, ot1, tk1, tm1, (H.I1 _ hI).1, hot1, K⟩
            · replace c103_5 : x3 = 3 := jd_nen c103_5
              refine j_V.ldL mt0_M mt0_106 rfl (i := 0) (kd := 2) (v := .ref 359) (pcJ := 107) rfl L rfl rfl rfl ?_
              refine j_V.cl mt0_M mt0_107 rfl (md := 3) (mj := 220) rfl (by decide) mb7_M (As := [.ref 359]) (rest := [.ref 359]) (jk_spl3 (K.at rfl) rfl rfl rfl (Nat.le_of_ble_eq_true rfl) (Nat.le_of_ble_eq_true rfl)) (fun d => mb7_ok (u := fun j => [.int th, .ref 360, .ref 361, .ref 362, .ref 363, .ref 364, .ref 365, .ref 366, .ref 367, (u 9), .int sst, (u 11), (u 12), .int acs, (u 14), (u 15), (u 16), (u 17), (u 18), (u 19), (u 20), (u 21), .ref 368, .int tm1, .ref 369, .ref 370, .ref 371, (u 27)].getD j .null) (K.fi [359, 360] rfl rfl)) ?_
              rintro r hz ⟨rfl, ez⟩
              rw [ez]
              clear ez
              show j_V jP _ 262 110 lv [.int (m_isStuck (m_mins n x2 (lpN x1 (nI 0)) w)), .ref 359] h _
              refine j_V.ifc mt0_M mt0_110 (t := 117) rfl (fun c110_6 => ?_) (fun c110_6 => ?_)
              · replace c110_6 : (m_isStuck (m_mins n x2 (lpN x1 (nI 0)) w)) = 0 := jd_eq c110_6
                refine j_V.one mt0_M mt0_117 (by decide) (pcJ := 118) (stJ := [.int 0, .ref 359]) rfl ?_
                refine j_V.gto mt0_M mt0_118 (t := 139) rfl ?_
                refine j_V.cl mt0_M mt0_139 rfl (md := 3) (mj := 261) rfl (by decide) ms2_M (As := [.ref 359, .int 0]) (rest := []) (jk_spl3 (K.at rfl) rfl rfl rfl (Nat.le_of_ble_eq_true rfl) (Nat.le_of_ble_eq_true rfl)) (fun d => ms2_ok (u := fun j => [.int th, .ref 360, .ref 361, .ref 362, .ref 363, .ref 364, .ref 365, .ref 366, .ref 367, (u 9), .int sst, (u 11), (u 12), .int acs, (u 14), (u 15), (u 16), (u 17), (u 18), (u 19), (u 20), (u 21), .ref 368, .int tm1, .ref 369, .ref 370, .ref 371, (u 27)].getD j .null) (H.I1 _ hI1).1 (H.I1 _ hI).1 (K.fi [359, 360, 362] rfl rfl)) ?_
                rintro r h9 ⟨rfl, K9⟩
                have K : KN h9 [(359, .inl (10, [.int ((m_gives th sst 0).2.1), .ref 360, .ref 361, .ref 362, .ref 363, .ref 364, .ref 365, .ref 366, .ref 367, (u 9), .int ((m_gives th sst 0).2.2), (u 11), (u 12), .int acs, (u 14), (u 15), (u 16), (u 17), (u 18), (u 19), (u 20), (u 21), .ref 368, .int tm1, .ref 369, .ref 370, .ref 371, (u 27)])), (360, .inr (.inl (0, w))), (362, .inr (.inl (0, w))), (363, .inr (.inl (0, ot1))), (364, .inr (.inl (0, kp))), (368, .inr (.inl (0, tk1))), (369, .inr (.inl (0, od))), (370, .inr (.inl (0, be)))] h0 := K.mg K9 rfl rfl
                clear K9
                show j_V jP _ 262 142 lv [.int ((m_gives th sst 0).1)] h9 _
                refine j_V.ri mt0_M mt0_142 ?_
                rw [show (m_qahead n th sst w x1 x2 x3) = _ from ((if_neg c7_0).trans ((if_neg c16_1).trans ((if_neg c58_2).trans ((if_neg c71_3).trans ((if_neg c83_4).trans ((if_pos c103_5).trans ((if_pos c110_6).trans (rfl))))))))]
                exact ⟨rfl, w, ot1, tk1, tm1, (H.I1 _ hI).1, hot1, K⟩
              · replace c110_6 : ¬ ((m_isStuck (m_mins n x2 (lpN x1 (nI 0)) w)) = 0) := jd_eqn c110_6
                refine j_V.one mt0_M mt0_113 (by decide) (pcJ := 114) (stJ := [.int 1, .ref 359]) rfl ?_
                refine j_V.gto mt0_M mt0_114 (t := 139) rfl ?_
                refine j_V.cl mt0_M mt0_139 rfl (md := 3) (mj := 261) rfl (by decide) ms2_M (As := [.ref 359, .int 1]) (rest := []) (jk_spl3 (K.at rfl) rfl rfl rfl (Nat.le_of_ble_eq_true rfl) (Nat.le_of_ble_eq_true rfl)) (fun d => ms2_ok (u := fun j => [.int th, .ref 360, .ref 361, .ref 362, .ref 363, .ref 364, .ref 365, .ref 366, .ref 367, (u 9), .int sst, (u 11), (u 12), .int acs, (u 14), (u 15), (u 16), (u 17), (u 18), (u 19), (u 20), (u 21), .ref 368, .int tm1, .ref 369, .ref 370, .ref 371, (u 27)].getD j .null) (H.I1 _ hI1).1 (H.I1 _ hI).1 (K.fi [359, 360, 362] rfl rfl)) ?_
                rintro r h9 ⟨rfl, K9⟩
                have K : KN h9 [(359, .inl (10, [.int ((m_gives th sst 1).2.1), .ref 360, .ref 361, .ref 362, .ref 363, .ref 364, .ref 365, .ref 366, .ref 367, (u 9), .int ((m_gives th sst 1).2.2), (u 11), (u 12), .int acs, (u 14), (u 15), (u 16), (u 17), (u 18), (u 19), (u 20), (u 21), .ref 368, .int tm1, .ref 369, .ref 370, .ref 371, (u 27)])), (360, .inr (.inl (0, w))), (362, .inr (.inl (0, w))), (363, .inr (.inl (0, ot1))), (364, .inr (.inl (0, kp))), (368, .inr (.inl (0, tk1))), (369, .inr (.inl (0, od))), (370, .inr (.inl (0, be)))] h0 := K.mg K9 rfl rfl
                clear K9
                show j_V jP _ 262 142 lv [.int ((m_gives th sst 1).1)] h9 _
                refine j_V.ri mt0_M mt0_142 ?_
                rw [show (m_qahead n th sst w x1 x2 x3) = _ from ((if_neg c7_0).trans ((if_neg c16_1).trans ((if_neg c58_2).trans ((if_neg c71_3).trans ((if_neg c83_4).trans ((if_pos c103_5).trans ((if_neg c110_6).trans (rfl))))))))]
                exact ⟨rfl, w, ot1, tk1, tm1, (H.I1 _ hI).1, hot1, K⟩
          · replace c83_4 : x3 = 2 := jd_nen c83_4
            refine j_V.ldL mt0_M mt0_86 rfl (i := 0) (kd := 2) (v := .ref 359) (pcJ := 87) rfl L rfl rfl rfl ?_
            refine j_V.cl mt0_M mt0_87 rfl (md := 3) (mj := 219) rfl (by decide) mh1_M (As := [.ref 359]) (rest := [.ref 359]) (jk_spl3 (K.at rfl) rfl rfl rfl (Nat.le_of_ble_eq_true rfl) (Nat.le_of_ble_eq_true rfl)) (fun d => mh1_ok (u := fun j => [.int th, .ref 360, .ref 361, .ref 362, .ref 363, .ref 364, .ref 365, .ref 366, .ref 367, (u 9), .int sst, (u 11), (u 12), .int acs, (u 14), (u 15), (u 16), (u 17), (u 18), (u 19), (u 20), (u 21), .ref 368, .int tm1, .ref 369, .ref 370, .ref 371, (u 27)].getD j .null) (H.F _ hI1) (K.fi [359, 360, 368] rfl rfl)) ?_
            rintro r h9 ⟨rfl, K9⟩
            have K : KN h9 [(359, .inl (10, [.int th, .ref 360, .ref 361, .ref 362, .ref 363, .ref 364, .ref 365, .ref 366, .ref 367, (u 9), .int sst, (u 11), (u 12), .int acs, (u 14), (u 15), (u 16), (u 17), (u 18), (u 19), (u 20), (u 21), .ref 368, .int (m_sf (m_mins n x2 (lpN x1 (nI 0)) w) n tk1).2.2, .ref 369, .ref 370, .ref 371, (u 27)])), (360, .inr (.inl (0, (m_mins n x2 (lpN x1 (nI 0)) w)))), (362, .inr (.inl (0, w))), (363, .inr (.inl (0, ot1))), (364, .inr (.inl (0, kp))), (368, .inr (.inl (0, (m_sf (m_mins n x2 (lpN x1 (nI 0)) w) n tk1).2.1))), (369, .inr (.inl (0, od))), (370, .inr (.inl (0, be)))] h0 := K.mg K9 rfl rfl
            clear K9
            show j_V jP _ 262 90 lv [.int (m_isSafe (m_mins n x2 (lpN x1 (nI 0)) w) n), .ref 359] h9 _
            refine j_V.ifc mt0_M mt0_90 (t := 97) rfl (fun c90_5 => ?_) (fun c90_5 => ?_)
            · replace c90_5 : (m_isSafe (m_mins n x2 (lpN x1 (nI 0)) w) n) = 0 := jd_eq c90_5
              refine j_V.one mt0_M mt0_97 (by decide) (pcJ := 98) (stJ := [.int 0, .ref 359]) rfl ?_
              refine j_V.gto mt0_M mt0_98 (t := 139) rfl ?_
              refine j_V.cl mt0_M mt0_139 rfl (md := 3) (mj := 261) rfl (by decide) ms2_M (As := [.ref 359, .int 0]) (rest := []) (jk_spl3 (K.at rfl) rfl rfl rfl (Nat.le_of_ble_eq_true rfl) (Nat.le_of_ble_eq_true rfl)) (fun d => ms2_ok (u := fun j => [.int th, .ref 360, .ref 361, .ref 362, .ref 363, .ref 364, .ref 365, .ref 366, .ref 367, (u 9), .int sst, (u 11), (u 12), .int acs, (u 14), (u 15), (u 16), (u 17), (u 18), (u 19), (u 20), (u 21), .ref 368, .int (m_sf (m_mins n x2 (lpN x1 (nI 0)) w) n tk1).2.2, .ref 369, .ref 370, .ref 371, (u 27)].getD j .null) (H.I1 _ hI1).1 (H.I1 _ hI).1 (K.fi [359, 360, 362] rfl rfl)) ?_
              rintro r h9 ⟨rfl, K9⟩
              have K : KN h9 [(359, .inl (10, [.int ((m_gives th sst 0).2.1), .ref 360, .ref 361, .ref 362, .ref 363, .ref 364, .ref 365, .ref 366, .ref 367, (u 9), .int ((m_gives th sst 0).2.2), (u 11), (u 12), .int acs, (u 14), (u 15), (u 16), (u 17), (u 18), (u 19), (u 20), (u 21), .ref 368, .int (m_sf (m_mins n x2 (lpN x1 (nI 0)) w) n tk1).2.2, .ref 369, .ref 370, .ref 371, (u 27)])), (360, .inr (.inl (0, w))), (362, .inr (.inl (0, w))), (363, .inr (.inl (0, ot1))), (364, .inr (.inl (0, kp))), (368, .inr (.inl (0, (m_sf (m_mins n x2 (lpN x1 (nI 0)) w) n tk1).2.1))), (369, .inr (.inl (0, od))), (370, .inr (.inl (0, be)))] h0 := K.mg K9 rfl rfl
              clear K9
              show j_V jP _ 262 142 lv [.int ((m_gives th sst 0).1)] h9 _
              refine j_V.ri mt0_M mt0_142 ?_
              rw [show (m_qahead n th sst w x1 x2 x3) = _ from ((if_neg c7_0).trans ((if_neg c16_1).trans ((if_neg c58_2).trans ((if_neg c71_3).trans ((if_pos c83_4).trans ((if_pos c90_5).trans (rfl)))))))]
              exact ⟨rfl, w, ot1, (m_sf (m_mins n x2 (lpN x1 (nI 0)) w) n tk1).2.1, (m_sf (m_mins n x2 (lpN x1 (nI 0)) w) n tk1).2.2, (H.I1 _ hI).1, hot1, K⟩
            · replace c90_5 : ¬ ((m_isSafe (m_mins n x2 (lpN x1 (nI 0)) w) n) = 0) := jd_eqn c90_5
              refine j_V.one mt0_M mt0_93 (by decide) (pcJ := 94) (stJ := [.int 1, .ref 359]) rfl ?_
              refine j_V.gto mt0_M mt0_94 (t := 139) rfl ?_
              refine j_V.cl mt0_M mt0_139 rfl (md := 3) (mj := 261) rfl (by decide) ms2_M (As := [.ref 359, .int 1]) (rest := []) (jk_spl3 (K.at rfl) rfl rfl rfl (Nat.le_of_ble_eq_true rfl) (Nat.le_of_ble_eq_true rfl)) (fun d => ms2_ok (u := fun j => [.int th, .ref 360, .ref 361, .ref 362, .ref 363, .ref 364, .ref 365, .ref 366, .ref 367, (u 9), .int sst, (u 11), (u 12), .int acs, (u 14), (u 15), (u 16), (u 17), (u 18), (u 19), (u 20), (u 21), .ref 368, .int (m_sf (m_mins n x2 (lpN x1 (nI 0)) w) n tk1).2.2, .ref 369, .ref 370, .ref 371, (u 27)].getD j .null) (H.I1 _ hI1).1 (H.I1 _ hI).1 (K.fi [359, 360, 362] rfl rfl)) ?_
              rintro r h9 ⟨rfl, K9⟩
              have K : KN h9 [(359, .inl (10, [.int ((m_gives th sst 1).2.1), .ref 360, .ref 361, .ref 362, .ref 363, .ref 364, .ref 365, .ref 366, .ref 367, (u 9), .int ((m_gives th sst 1).2.2), (u 11), (u 12), .int acs, (u 14), (u 15), (u 16), (u 17), (u 18), (u 19), (u 20), (u 21), .ref 368, .int (m_sf (m_mins n x2 (lpN x1 (nI 0)) w) n tk1).2.2, .ref 369, .ref 370, .ref 371, (u 27)])), (360, .inr (.inl (0, w))), (362, .inr (.inl (0, w))), (363, .inr (.inl (0, ot1))), (364, .inr (.inl (0, kp))), (368, .inr (.inl (0, (m_sf (m_mins n x2 (lpN x1 (nI 0)) w) n tk1).2.1))), (369, .inr (.inl (0, od))), (370, .inr (.inl (0, be)))] h0 := K.mg K9 rfl rfl
              clear K9
              show j_V jP _ 262 142 lv [.int ((m_gives th sst 1).1)] h9 _
              refine j_V.ri mt0_M mt0_142 ?_
              rw [show (m_qahead n th sst w x1 x2 x3) = _ from ((if_neg c7_0).trans ((if_neg c16_1).trans ((if_neg c58_2).trans ((if_neg c71_3).trans ((if_pos c83_4).trans ((if_neg c90_5).trans (rfl)))))))]
              exact ⟨rfl, w, ot1, (m_sf (m_mins n x2 (lpN x1 (nI 0)) w) n tk1).2.1, (m_sf (m_mins n x2 (lpN x1 (nI 0)) w) n tk1).2.2, (H.I1 _ hI).1, hot1, K⟩
        · replace c71_3 : x3 = 1 := jd_nen c71_3
          refine j_V.ldL mt0_M mt0_74 rfl (i := 0) (kd := 2) (v := .ref 359) (pcJ := 75) rfl L rfl rfl rfl ?_
          refine j_V.cl mt0_M mt0_75 rfl (md := 3) (mj := 230) rfl (by decide) mc3_M (As := [.ref 359]) (rest := [.ref 359]) (jk_spl3 (K.at rfl) rfl rfl rfl (Nat.le_of_ble_eq_true rfl) (Nat.le_of_ble_eq_true rfl)) (fun d => mc3_ok (u := fun j => [.int th, .ref 360, .ref 361, .ref 362, .ref 363, .ref 364, .ref 365, .ref 366, .ref 367, (u 9), .int sst, (u 11), (u 12), .int acs, (u 14), (u 15), (u 16), (u 17), (u 18), (u 19), (u 20), (u 21), .ref 368, .int tm1, .ref 369, .ref 370, .ref 371, (u 27)].getD j .null) (K.fi [359, 360] rfl rfl)) ?_
          rintro r hz ⟨rfl, ez⟩
          rw [ez]
          clear ez
          show j_V jP _ 262 78 lv [.int (m_price (m_mins n x2 (lpN x1 (nI 0)) w)), .ref 359] h _
          refine j_V.gto mt0_M mt0_78 (t := 139) rfl ?_
          refine j_V.cl mt0_M mt0_139 rfl (md := 3) (mj := 261) rfl (by decide) ms2_M (As := [.ref 359, .int (m_price (m_mins n x2 (lpN x1 (nI 0)) w))]) (rest := []) (jk_spl3 (K.at rfl) rfl rfl rfl (Nat.le_of_ble_eq_true rfl) (Nat.le_of_ble_eq_true rfl)) (fun d => ms2_ok (u := fun j => [.int th, .ref 360, .ref 361, .ref 362, .ref 363, .ref 364, .ref 365, .ref 366, .ref 367, (u 9), .int sst, (u 11), (u 12), .int acs, (u 14), (u 15), (u 16), (u 17), (u 18), (u 19), (u 20), (u 21), .ref 368, .int tm1, .ref 369, .ref 370, .ref 371, (u 27)].getD j .null) (H.I1 _ hI1).1 (H.I1 _ hI).1 (K.fi [359, 360, 362] rfl rfl)) ?_
          rintro r h9 ⟨rfl, K9⟩
          have K : KN h9 [(359, .inl (10, [.int ((m_gives th sst (m_price (m_mins n x2 (lpN x1 (nI 0)) w))).2.1), .ref 360, .ref 361, .ref 362, .ref 363, .ref 364, .ref 365, .ref 366, .ref 367, (u 9), .int ((m_gives th sst (m_price (m_mins n x2 (lpN x1 (nI 0)) w))).2.2), (u 11), (u 12), .int acs, (u 14), (u 15), (u 16), (u 17), (u 18), (u 19), (u 20), (u 21), .ref 368, .int tm1, .ref 369, .ref 370, .ref 371, (u 27)])), (360, .inr (.inl (0, w))), (362, .inr (.inl (0, w))), (363, .inr (.inl (0, ot1))), (364, .inr (.inl (0, kp))), (368, .inr (.inl (0, tk1))), (369, .inr (.inl (0, od))), (370, .inr (.inl (0, be)))] h0 := K.mg K9 rfl rfl
          clear K9
          show j_V jP _ 262 142 lv [.int ((m_gives th sst (m_price (m_mins n x2 (lpN x1 (nI 0)) w))).1)] h9 _
          refine j_V.ri mt0_M mt0_142 ?_
          rw [show (m_qahead n th sst w x1 x2 x3) = _ from ((if_neg c7_0).trans ((if_neg c16_1).trans ((if_neg c58_2).trans ((if_pos c71_3).trans (rfl)))))]
          exact ⟨rfl, w, ot1, tk1, tm1, (H.I1 _ hI).1, hot1, K⟩
      · replace c58_2 : x3 = 0 := jd_nen c58_2
        refine j_V.ldL mt0_M mt0_61 rfl (i := 0) (kd := 2) (v := .ref 359) (pcJ := 62) rfl L rfl rfl rfl ?_
        refine j_V.one mt0_M mt0_62 (by decide) (pcJ := 63) (stJ := [.int 3, .ref 359, .ref 359]) rfl ?_
        refine j_V.cl mt0_M mt0_63 rfl (md := 3) (mj := 229) rfl (by decide) mc2_M (As := [.ref 359, .int 3]) (rest := [.ref 359]) (jk_spl3 (K.at rfl) rfl rfl rfl (Nat.le_of_ble_eq_true rfl) (Nat.le_of_ble_eq_true rfl)) (fun d => mc2_ok (u := fun j => [.int th, .ref 360, .ref 361, .ref 362, .ref 363, .ref 364, .ref 365, .ref 366, .ref 367, (u 9), .int sst, (u 11), (u 12), .int acs, (u 14), (u 15), (u 16), (u 17), (u 18), (u 19), (u 20), (u 21), .ref 368, .int tm1, .ref 369, .ref 370, .ref 371, (u 27)].getD j .null) (K.fi [359, 360] rfl rfl)) ?_
        rintro r hz ⟨rfl, ez⟩
        rw [ez]
        clear ez
        show j_V jP _ 262 66 lv [.int (m_howMany (m_mins n x2 (lpN x1 (nI 0)) w) 3), .ref 359] h _
        refine j_V.gto mt0_M mt0_66 (t := 139) rfl ?_
        refine j_V.cl mt0_M mt0_139 rfl (md := 3) (mj := 261) rfl (by decide) ms2_M (As := [.ref 359, .int (m_howMany (m_mins n x2 (lpN x1 (nI 0)) w) 3)]) (rest := []) (jk_spl3 (K.at rfl) rfl rfl rfl (Nat.le_of_ble_eq_true rfl) (Nat.le_of_ble_eq_true rfl)) (fun d => ms2_ok (u := fun j => [.int th, .ref 360, .ref 361, .ref 362, .ref 363, .ref 364, .ref 365, .ref 366, .ref 367, (u 9), .int sst, (u 11), (u 12), .int acs, (u 14), (u 15), (u 16), (u 17), (u 18), (u 19), (u 20), (u 21), .ref 368, .int tm1, .ref 369, .ref 370, .ref 371, (u 27)].getD j .null) (H.I1 _ hI1).1 (H.I1 _ hI).1 (K.fi [359, 360, 362] rfl rfl)) ?_
        rintro r h9 ⟨rfl, K9⟩
        have K : KN h9 [(359, .inl (10, [.int ((m_gives th sst (m_howMany (m_mins n x2 (lpN x1 (nI 0)) w) 3)).2.1), .ref 360, .ref 361, .ref 362, .ref 363, .ref 364, .ref 365, .ref 366, .ref 367, (u 9), .int ((m_gives th sst (m_howMany (m_mins n x2 (lpN x1 (nI 0)) w) 3)).2.2), (u 11), (u 12), .int acs, (u 14), (u 15), (u 16), (u 17), (u 18), (u 19), (u 20), (u 21), .ref 368, .int tm1, .ref 369, .ref 370, .ref 371, (u 27)])), (360, .inr (.inl (0, w))), (362, .inr (.inl (0, w))), (363, .inr (.inl (0, ot1))), (364, .inr (.inl (0, kp))), (368, .inr (.inl (0, tk1))), (369, .inr (.inl (0, od))), (370, .inr (.inl (0, be)))] h0 := K.mg K9 rfl rfl
        clear K9
        show j_V jP _ 262 142 lv [.int ((m_gives th sst (m_howMany (m_mins n x2 (lpN x1 (nI 0)) w) 3)).1)] h9 _
        refine j_V.ri mt0_M mt0_142 ?_
        rw [show (m_qahead n th sst w x1 x2 x3) = _ from ((if_neg c7_0).trans ((if_neg c16_1).trans ((if_pos c58_2).trans (rfl))))]
        exact ⟨rfl, w, ot1, tk1, tm1, (H.I1 _ hI).1, hot1, K⟩
    · replace c16_1 : (m_isFrom x3 0 5) = 0 := jd_nen c16_1
      refine j_V.ldL mt0_M mt0_19 rfl (i := 0) (kd := 2) (v := .ref 359) (pcJ := 20) rfl L rfl rfl rfl ?_
      refine j_V.one mt0_M mt0_20 (by decide) (pcJ := 21) (stJ := [.int 1, .ref 359]) rfl ?_
      refine j_V.cl mt0_M mt0_21 rfl (md := 3) (mj := 169) rfl (by decide) mo0_M (As := [.ref 359, .int 1]) (rest := []) (jk_spl3 (K.at rfl) rfl rfl rfl (Nat.le_of_ble_eq_true rfl) (Nat.le_of_ble_eq_true rfl)) (fun d => mo0_ok (u := fun j => [.int th, .ref 360, .ref 361, .ref 362, .ref 363, .ref 364, .ref 365, .ref 366, .ref 367, (u 9), .int sst, (u 11), (u 12), .int acs, (u 14), (u 15), (u 16), (u 17), (u 18), (u 19), (u 20), (u 21), .ref 368, .int tm, .ref 369, .ref 370, .ref 371, (u 27)].getD j .null) (K.fi [359] rfl rfl)) ?_
      rintro r h9 ⟨rfl, K9⟩
      have K : KN h9 [(359, .inl (10, [.int ((m_refuse th sst 1).2.1), .ref 360, .ref 361, .ref 362, .ref 363, .ref 364, .ref 365, .ref 366, .ref 367, (u 9), .int ((m_refuse th sst 1).2.2), (u 11), (u 12), .int acs, (u 14), (u 15), (u 16), (u 17), (u 18), (u 19), (u 20), (u 21), .ref 368, .int tm, .ref 369, .ref 370, .ref 371, (u 27)])), (360, .inr (.inl (0, w))), (362, .inr (.inl (0, sd))), (363, .inr (.inl (0, ot))), (364, .inr (.inl (0, kp))), (368, .inr (.inl (0, tk))), (369, .inr (.inl (0, od))), (370, .inr (.inl (0, be)))] h0 := K.mg K9 rfl rfl
      clear K9
      show j_V jP _ 262 24 lv [.int ((m_refuse th sst 1).1)] h9 _
      refine j_V.ri mt0_M mt0_24 ?_
      rw [show (m_qahead n th sst w x1 x2 x3) = _ from ((if_neg c7_0).trans ((if_pos c16_1).trans (rfl)))]
      exact ⟨rfl, sd, ot, tk, tm, hsd, hot, K⟩
set_option maxRecDepth 100000 in
theorem mt1_M : j_meth jP 269 = some (yX10_priceNow, cX10_priceNow, 2, (some .int), 0, false, 10) := rfl
set_option maxRecDepth 100000 in
theorem mt1_0 : j_code jP 269 0 = some (.aload_n 0) := rfl
set_option maxRecDepth 100000 in
theorem mt1_1 : j_code jP 269 1 = some (.getfield 7) := rfl
set_option maxRecDepth 100000 in
theorem mt1_4 : j_code jP 269 4 = some (.aload_n 0) := rfl
set_option maxRecDepth 100000 in
theorem mt1_5 : j_code jP 269 5 = some (.getfield 16) := rfl
set_option maxRecDepth 100000 in
theorem mt1_8 : j_code jP 269 8 = some (.invokestatic 188) := rfl
set_option maxRecDepth 100000 in
theorem mt1_11 : j_code jP 269 11 = some (.aload_n 0) := rfl
set_option maxRecDepth 100000 in
theorem mt1_12 : j_code jP 269 12 = some (.invokevirtual 341) := rfl
set_option maxRecDepth 100000 in
theorem mt1_15 : j_code jP 269 15 = some (.istore_n 1) := rfl
set_option maxRecDepth 100000 in
theorem mt1_16 : j_code jP 269 16 = some (.aload_n 0) := rfl
set_option maxRecDepth 100000 in
theorem mt1_17 : j_code jP 269 17 = some (.getfield 16) := rfl
set_option maxRecDepth 100000 in
theorem mt1_20 : j_code jP 269 20 = some (.aload_n 0) := rfl
set_option maxRecDepth 100000 in
theorem mt1_21 : j_code jP 269 21 = some (.getfield 7) := rfl
set_option maxRecDepth 100000 in
theorem mt1_24 : j_code jP 269 24 = some (.invokestatic 188) := rfl
set_option maxRecDepth 100000 in
theorem mt1_27 : j_code jP 269 27 = some (.iload_n 1) := rfl
set_option maxRecDepth 100000 in
theorem mt1_28 : j_code jP 269 28 = some (.ireturn) := rfl
set_option maxRecDepth 1000000 in
theorem mt1_ok {u : Nat → Value} {n d : Nat} {h h0 : J_H} {th sst acs tm  : Int32} {w sd ot kp tk od be : List Int32} {I J : List Int32 → Prop} (H : m_Inv n I J) (H2 : m_Iv2 n I) (hI : I w) (hsd : sd.length = 602) (hot : ot.length = 602) (K : KN h [(359, .inl (10, [.int th, .ref 360, .ref 361, .ref 362, .ref 363, .ref 364, .ref 365, .ref 366, .ref 367, (u 9), .int sst, (u 11), (u 12), .int acs, (u 14), (u 15), (u 16), (u 17), (u 18), (u 19), (u 20), (u 21), .ref 368, .int tm, .ref 369, .ref 370, .ref 371, (u 27)])), (360, .inr (.inl (0, w))), (362, .inr (.inl (0, sd))), (363, .inr (.inl (0, ot))), (364, .inr (.inl (0, kp))), (368, .inr (.inl (0, tk))), (369, .inr (.inl (0, od))), (370, .inr (.inl (0, be)))] h0) : j_V jP d 269 0 (lv_args 0 [.ref 359]) [] h (fun rv h' => rv = some (.int (m_price (m_toTheEnd n w 1))) ∧ ∃ (sd' ot' tk' : List Int32) (tm' : Int32), sd'.length = 602 ∧ ot'.length = 602 ∧ KN h' [(359, .inl (10, [.int th, .ref 360, .ref 361, .ref 362, .ref 363, .ref 364, .ref 365, .ref 366, .ref 367, (u 9), .int sst, (u 11), (u 12), .int acs, (u 14), (u 15), (u 16), (u 17), (u 18), (u 19), (u 20), (u 21), .ref 368, .int tm', .ref 369, .ref 370, .ref 371, (u 27)])), (360, .inr (.inl (0, w))), (362, .inr (.inl (0, sd'))), (363, .inr (.inl (0, ot'))), (364, .inr (.inl (0, kp))), (368, .inr (.inl (0, tk'))), (369, .inr (.inl (0, od))), (370, .inr (.inl (0, be)))] h0) := by
  show j_V jP d 269 0 [(0, .ref 359)] [] h _
  obtain ⟨lv, elv, L⟩ : ∃ lv, lv = [(0, .ref 359)] ∧ LK lv [(0, .ref 359)] := ⟨_, rfl, LK.rf⟩
  rw [← elv]
  clear elv
  refine j_V.ldL mt1_M mt1_0 rfl (i := 0) (kd := 2) (v := .ref 359) (pcJ := 1) rfl L rfl rfl rfl ?_
  refine j_V.getK mt1_M mt1_1 (ci := 10) (j := 1) rfl K rfl rfl ?_
  refine j_V.ldL mt1_M mt1_4 rfl (i := 0) (kd := 2) (v := .ref 359) (pcJ := 5) rfl L rfl rfl rfl ?_
  refine j_V.getK mt1_M mt1_5 (ci := 10) (j := 3) rfl K rfl rfl ?_
  refine j_V.cl mt1_M mt1_8 rfl (md := 2) (mj := 201) rfl (by decide) mi2_M (As := [.ref 360, .ref 362]) (rest := []) (jk_spl2 rfl rfl (Nat.le_of_ble_eq_true rfl) (Nat.le_of_ble_eq_true rfl)) (fun d => mi2_ok (K.fi [360, 362] rfl rfl)) ?_
  rintro r h9 ⟨rfl, K9⟩
  have K : KN h9 [(359, .inl (10, [.int th, .ref 360, .ref 361, .ref 362, .ref 363, .ref 364, .ref 365, .ref 366, .ref 367, (u 9), .int sst, (u 11), (u 12), .int acs, (u 14), (u 15), (u 16), (u 17), (u 18), (u 19), (u 20), (u 21), .ref 368, .int tm, .ref 369, .ref 370, .ref 371, (u 27)])), (360, .inr (.inl (0, w))), (362, .inr (.inl (0, ((m_copies w sd))))), (363, .inr (.inl (0, ot))), (364, .inr (.inl (0, kp))), (368, .inr (.inl (0, tk))), (369, .inr (.inl (0, od))), (370, .inr (.inl (0, be)))] h0 := K.mg K9 rfl rfl
  clear K9
  show j_V jP _ 269 11 lv [] h9 _
  rw [m_cp (H.I1 _ hI).1 hsd] at K
  refine j_V.ldL mt1_M mt1_11 rfl (i := 0) (kd := 2) (v := .ref 359) (pcJ := 12) rfl L rfl rfl rfl ?_
  refine j_V.cl mt1_M mt1_12 rfl (md := 3) (mj := 232) rfl (by decide) ms1_M (As := [.ref 359]) (rest := []) (jk_spl3 (K.at rfl) rfl rfl rfl (Nat.le_of_ble_eq_true rfl) (Nat.le_of_ble_eq_true rfl)) (fun d => ms19_ok (u := fun j => [.int th, .ref 360, .ref 361, .ref 362, .ref 363, .ref 364, .ref 365, .ref 366, .ref 367, (u 9), .int sst, (u 11), (u 12), .int acs, (u 14), (u 15), (u 16), (u 17), (u 18), (u 19), (u 20), (u 21), .ref 368, .int tm, .ref 369, .ref 370, .ref 371, (u 27)].getD j .null) H hI hot (K.fi [359, 360, 363, 368] rfl rfl)) ?_
  rintro r h9 ⟨rfl, hI6, ot6, tk6, tm6, ho6, K9⟩
  have K : KN h9 [(359, .inl (10, [.int th, .ref 360, .ref 361, .ref 362, .ref 363, .ref 364, .ref 365, .ref 366, .ref 367, (u 9), .int sst, (u 11), (u 12), .int acs, (u 14), (u 15), (u 16), (u 17), (u 18), (u 19), (u 20), (u 21), .ref 368, .int tm6, .ref 369, .ref 370, .ref 371, (u 27)])), (360, .inr (.inl (0, (m_toTheEnd n w 1)))), (362, .inr (.inl (0, w))), (363, .inr (.inl (0, ot6))), (364, .inr (.inl (0, kp))), (368, .inr (.inl (0, tk6))), (369, .inr (.inl (0, od))), (370, .inr (.inl (0, be)))] h0 := K.mg K9 rfl rfl
  clear K9
  show j_V jP _ 269 15 lv [.int (m_price (m_toTheEnd n w 1))] h9 _
  refine j_V.stL mt1_M mt1_15 rfl (i := 1) (kd := 0) (kl' := [(0, .ref 359), (1, .int (m_price (m_toTheEnd n w 1)))]) (pcJ := 16) rfl L rfl (by decide) rfl rfl rfl (fun lv L => ?_)
  refine j_V.ldL mt1_M mt1_16 rfl (i := 0) (kd := 2) (v := .ref 359) (pcJ := 17) rfl L rfl rfl rfl ?_
  refine j_V.getK mt1_M mt1_17 (ci := 10) (j := 3) rfl K rfl rfl ?_
  refine j_V.ldL mt1_M mt1_20 rfl (i := 0) (kd := 2) (v := .ref 359) (pcJ := 21) rfl L rfl rfl rfl ?_
  refine j_V.getK mt1_M mt1_21 (ci := 10) (j := 1) rfl K rfl rfl ?_
  refine j_V.cl mt1_M mt1_24 rfl (md := 2) (mj := 201) rfl (by decide) mi3_M (As := [.ref 362, .ref 360]) (rest := []) (jk_spl2 rfl rfl (Nat.le_of_ble_eq_true rfl) (Nat.le_of_ble_eq_true rfl)) (fun d => mi3_ok (K.fi [360, 362] rfl rfl)) ?_
  rintro r h9 ⟨rfl, K9⟩
  have K : KN h9 [(359, .inl (10, [.int th, .ref 360, .ref 361, .ref 362, .ref 363, .ref 364, .ref 365, .ref 366, .ref 367, (u 9), .int sst, (u 11), (u 12), .int acs, (u 14), (u 15), (u 16), (u 17), (u 18), (u 19), (u 20), (u 21), .ref 368, .int tm6, .ref 369, .ref 370, .ref 371, (u 27)])), (360, .inr (.inl (0, ((m_copies w (m_toTheEnd n w 1)))))), (362, .inr (.inl (0, w))), (363, .inr (.inl (0, ot6))), (364, .inr (.inl (0, kp))), (368, .inr (.inl (0, tk6))), (369, .inr (.inl (0, od))), (370, .inr (.inl (0, be)))] h0 := K.mg K9 rfl rfl
  clear K9
  show j_V jP _ 269 27 lv [] h9 _
  rw [m_cp (H.I1 _ hI).1 (H.I1 _ hI6).1] at K
  refine j_V.ldL mt1_M mt1_27 rfl (i := 1) (kd := 0) (v := .int (m_price (m_toTheEnd n w 1))) (pcJ := 28) rfl L rfl rfl rfl ?_
  exact j_V.ri mt1_M mt1_28 ⟨rfl, w, ot6, tk6, tm6, (H.I1 _ hI).1, ho6, K⟩
set_option maxRecDepth 100000 in
theorem mt2_M : j_meth jP 270 = some (yX10_priceHeld, cX10_priceHeld, 4, (some .int), 2, false, 10) := rfl
set_option maxRecDepth 100000 in
theorem mt2_0 : j_code jP 270 0 = some (.aload_n 0) := rfl
set_option maxRecDepth 100000 in
theorem mt2_1 : j_code jP 270 1 = some (.getfield 7) := rfl
set_option maxRecDepth 100000 in
theorem mt2_4 : j_code jP 270 4 = some (.aload_n 0) := rfl
set_option maxRecDepth 100000 in
theorem mt2_5 : j_code jP 270 5 = some (.getfield 16) := rfl
set_option maxRecDepth 100000 in
theorem mt2_8 : j_code jP 270 8 = some (.invokestatic 188) := rfl
set_option maxRecDepth 100000 in
theorem mt2_11 : j_code jP 270 11 = some (.aload_n 0) := rfl
set_option maxRecDepth 100000 in
theorem mt2_12 : j_code jP 270 12 = some (.iload_n 1) := rfl
set_option maxRecDepth 100000 in
theorem mt2_13 : j_code jP 270 13 = some (.bipush 10) := rfl
set_option maxRecDepth 100000 in
theorem mt2_15 : j_code jP 270 15 = some (.aload_n 0) := rfl
set_option maxRecDepth 100000 in
theorem mt2_16 : j_code jP 270 16 = some (.getfield 7) := rfl
set_option maxRecDepth 100000 in
theorem mt2_19 : j_code jP 270 19 = some (.sipush 201) := rfl
set_option maxRecDepth 100000 in
theorem mt2_22 : j_code jP 270 22 = some (.iaload) := rfl
set_option maxRecDepth 100000 in
theorem mt2_23 : j_code jP 270 23 = some (.iload_n 2) := rfl
set_option maxRecDepth 100000 in
theorem mt2_24 : j_code jP 270 24 = some (.iadd) := rfl
set_option maxRecDepth 100000 in
theorem mt2_25 : j_code jP 270 25 = some (.invokevirtual 238) := rfl
set_option maxRecDepth 100000 in
theorem mt2_28 : j_code jP 270 28 = some (.aload_n 0) := rfl
set_option maxRecDepth 100000 in
theorem mt2_29 : j_code jP 270 29 = some (.invokevirtual 341) := rfl
set_option maxRecDepth 100000 in
theorem mt2_32 : j_code jP 270 32 = some (.istore_n 3) := rfl
set_option maxRecDepth 100000 in
theorem mt2_33 : j_code jP 270 33 = some (.aload_n 0) := rfl
set_option maxRecDepth 100000 in
theorem mt2_34 : j_code jP 270 34 = some (.getfield 16) := rfl
set_option maxRecDepth 100000 in
theorem mt2_37 : j_code jP 270 37 = some (.aload_n 0) := rfl
set_option maxRecDepth 100000 in
theorem mt2_38 : j_code jP 270 38 = some (.getfield 7) := rfl
set_option maxRecDepth 100000 in
theorem mt2_41 : j_code jP 270 41 = some (.invokestatic 188) := rfl
set_option maxRecDepth 100000 in
theorem mt2_44 : j_code jP 270 44 = some (.iload_n 3) := rfl
set_option maxRecDepth 100000 in
theorem mt2_45 : j_code jP 270 45 = some (.ireturn) := rfl
set_option maxRecDepth 1000000 in
theorem mt2_ok {u : Nat → Value} {n d : Nat} {h h0 : J_H} {th sst acs tm x1 x2 : Int32} {w sd ot kp tk od be : List Int32} {I J : List Int32 → Prop} (H : m_Inv n I J) (H2 : m_Iv2 n I) (hI : I w) (hsd : sd.length = 602) (hot : ot.length = 602) (hP : I (m_puts w x1 10 ((gA w 201) + x2))) (K : KN h [(359, .inl (10, [.int th, .ref 360, .ref 361, .ref 362, .ref 363, .ref 364, .ref 365, .ref 366, .ref 367, (u 9), .int sst, (u 11), (u 12), .int acs, (u 14), (u 15), (u 16), (u 17), (u 18), (u 19), (u 20), (u 21), .ref 368, .int tm, .ref 369, .ref 370, .ref 371, (u 27)])), (360, .inr (.inl (0, w))), (362, .inr (.inl (0, sd))), (363, .inr (.inl (0, ot))), (364, .inr (.inl (0, kp))), (368, .inr (.inl (0, tk))), (369, .inr (.inl (0, od))), (370, .inr (.inl (0, be)))] h0) : j_V jP d 270 0 (lv_args 0 [.ref 359, .int x1, .int x2]) [] h (fun rv h' => rv = some (.int (m_price (m_toTheEnd n (m_puts w x1 10 ((gA w 201) + x2)) 1))) ∧ ∃ (sd' ot' tk' : List Int32) (tm' : Int32), sd'.length = 602 ∧ ot'.length = 602 ∧ KN h' [(359, .inl (10, [.int th, .ref 360, .ref 361, .ref 362, .ref 363, .ref 364, .ref 365, .ref 366, .ref 367, (u 9), .int sst, (u 11), (u 12), .int acs, (u 14), (u 15), (u 16), (u 17), (u 18), (u 19), (u 20), (u 21), .ref 368, .int tm', .ref 369, .ref 370, .ref 371, (u 27)])), (360, .inr (.inl (0, w))), (362, .inr (.inl (0, sd'))), (363, .inr (.inl (0, ot'))), (364, .inr (.inl (0, kp))), (368, .inr (.inl (0, tk'))), (369, .inr (.inl (0, od))), (370, .inr (.inl (0, be)))] h0) := by
  show j_V jP d 270 0 [(0, .ref 359), (1, .int x1), (2, .int x2)] [] h _
  obtain ⟨lv, elv, L⟩ : ∃ lv, lv = [(0, .ref 359), (1, .int x1), (2, .int x2)] ∧ LK lv [(0, .ref 359), (1, .int x1), (2, .int x2)] := ⟨_, rfl, LK.rf⟩
  rw [← elv]
  clear elv
  refine j_V.ldL mt2_M mt2_0 rfl (i := 0) (kd := 2) (v := .ref 359) (pcJ := 1) rfl L rfl rfl rfl ?_
  refine j_V.getK mt2_M mt2_1 (ci := 10) (j := 1) rfl K rfl rfl ?_
  refine j_V.ldL mt2_M mt2_4 rfl (i := 0) (kd := 2) (v := .ref 359) (pcJ := 5) rfl L rfl rfl rfl ?_
  refine j_V.getK mt2_M mt2_5 (ci := 10) (j := 3) rfl K rfl rfl ?_
  refine j_V.cl mt2_M mt2_8 rfl (md := 2) (mj := 201) rfl (by decide) mi2_M (As := [.ref 360, .ref 362]) (rest := []) (jk_spl2 rfl rfl (Nat.le_of_ble_eq_true rfl) (Nat.le_of_ble_eq_true rfl)) (fun d => mi2_ok (K.fi [360, 362] rfl rfl)) ?_
  rintro r h9 ⟨rfl, K9⟩
  have K : KN h9 [(359, .inl (10, [.int th, .ref 360, .ref 361, .ref 362, .ref 363, .ref 364, .ref 365, .ref 366, .ref 367, (u 9), .int sst, (u 11), (u 12), .int acs, (u 14), (u 15), (u 16), (u 17), (u 18), (u 19), (u 20), (u 21), .ref 368, .int tm, .ref 369, .ref 370, .ref 371, (u 27)])), (360, .inr (.inl (0, w))), (362, .inr (.inl (0, ((m_copies w sd))))), (363, .inr (.inl (0, ot))), (364, .inr (.inl (0, kp))), (368, .inr (.inl (0, tk))), (369, .inr (.inl (0, od))), (370, .inr (.inl (0, be)))] h0 := K.mg K9 rfl rfl
  clear K9
  show j_V jP _ 270 11 lv [] h9 _
  rw [m_cp (H.I1 _ hI).1 hsd] at K
  refine j_V.ldL mt2_M mt2_11 rfl (i := 0) (kd := 2) (v := .ref 359) (pcJ := 12) rfl L rfl rfl rfl ?_
  refine j_V.ldL mt2_M mt2_12 rfl (i := 1) (kd := 0) (v := .int x1) (pcJ := 13) rfl L rfl rfl rfl ?_
  refine j_V.one mt2_M mt2_13 (by decide) (pcJ := 15) (stJ := [.int 10, .int x1, .ref 359]) rfl ?_
  refine j_V.ldL mt2_M mt2_15 rfl (i := 0) (kd := 2) (v := .ref 359) (pcJ := 16) rfl L rfl rfl rfl ?_
  refine j_V.getK mt2_M mt2_16 (ci := 10) (j := 1) rfl K rfl rfl ?_
  refine j_V.one mt2_M mt2_19 (by decide) (pcJ := 22) (stJ := [.int 201, .ref 360, .int 10, .int x1, .ref 359]) rfl ?_
  refine j_V.iaA mt2_M mt2_22 K rfl ?_
  refine j_V.ldL mt2_M mt2_23 rfl (i := 2) (kd := 0) (v := .int x2) (pcJ := 24) rfl L rfl rfl rfl ?_
  refine j_V.one mt2_M mt2_24 (by decide) (pcJ := 25) (stJ := [.int ((gA w 201) + x2), .int 10, .int x1, .ref 359]) rfl ?_
  refine j_V.cl mt2_M mt2_25 rfl (md := 3) (mj := 179) rfl (by decide) me0_M (As := [.ref 359, .int x1, .int 10, .int ((gA w 201) + x2)]) (rest := []) (jk_spl3 (K.at rfl) rfl rfl rfl (Nat.le_of_ble_eq_true rfl) (Nat.le_of_ble_eq_true rfl)) (fun d => me0_ok (u := fun j => [.int th, .ref 360, .ref 361, .ref 362, .ref 363, .ref 364, .ref 365, .ref 366, .ref 367, (u 9), .int sst, (u 11), (u 12), .int acs, (u 14), (u 15), (u 16), (u 17), (u 18), (u 19), (u 20), (u 21), .ref 368, .int tm, .ref 369, .ref 370, .ref 371, (u 27)].getD j .null) (K.fi [359, 360] rfl rfl)) ?_
  rintro r h9 ⟨rfl, K9⟩
  have K : KN h9 [(359, .inl (10, [.int th, .ref 360, .ref 361, .ref 362, .ref 363, .ref 364, .ref 365, .ref 366, .ref 367, (u 9), .int sst, (u 11), (u 12), .int acs, (u 14), (u 15), (u 16), (u 17), (u 18), (u 19), (u 20), (u 21), .ref 368, .int tm, .ref 369, .ref 370, .ref 371, (u 27)])), (360, .inr (.inl (0, (m_puts w x1 10 ((gA w 201) + x2))))), (362, .inr (.inl (0, w))), (363, .inr (.inl (0, ot))), (364, .inr (.inl (0, kp))), (368, .inr (.inl (0, tk))), (369, .inr (.inl (0, od))), (370, .inr (.inl (0, be)))] h0 := K.mg K9 rfl rfl
  clear K9
  show j_V jP _ 270 28 lv [] h9 _
  refine j_V.ldL mt2_M mt2_28 rfl (i := 0) (kd := 2) (v := .ref 359) (pcJ := 29) rfl L rfl rfl rfl ?_
  refine j_V.cl mt2_M mt2_29 rfl (md := 3) (mj := 232) rfl (by decide) ms1_M (As := [.ref 359]) (rest := []) (jk_spl3 (K.at rfl) rfl rfl rfl (Nat.le_of_ble_eq_true rfl) (Nat.le_of_ble_eq_true rfl)) (fun d => ms19_ok (u := fun j => [.int th, .ref 360, .ref 361, .ref 362, .ref 363, .ref 364, .ref 365, .ref 366, .ref 367, (u 9), .int sst, (u 11), (u 12), .int acs, (u 14), (u 15), (u 16), (u 17), (u 18), (u 19), (u 20), (u 21), .ref 368, .int tm, .ref 369, .ref 370, .ref 371, (u 27)].getD j .null) H hP hot (K.fi [359, 360, 363, 368] rfl rfl)) ?_
  rintro r h9 ⟨rfl, hI7, ot7, tk7, tm7, ho7, K9⟩
  have K : KN h9 [(359, .inl (10, [.int th, .ref 360, .ref 361, .ref 362, .ref 363, .ref 364, .ref 365, .ref 366, .ref 367, (u 9), .int sst, (u 11), (u 12), .int acs, (u 14), (u 15), (u 16), (u 17), (u 18), (u 19), (u 20), (u 21), .ref 368, .int tm7, .ref 369, .ref 370, .ref 371, (u 27)])), (360, .inr (.inl (0, (m_toTheEnd n (m_puts w x1 10 ((gA w 201) + x2)) 1)))), (362, .inr (.inl (0, w))), (363, .inr (.inl (0, ot7))), (364, .inr (.inl (0, kp))), (368, .inr (.inl (0, tk7))), (369, .inr (.inl (0, od))), (370, .inr (.inl (0, be)))] h0 := K.mg K9 rfl rfl
  clear K9
  show j_V jP _ 270 32 lv [.int (m_price (m_toTheEnd n (m_puts w x1 10 ((gA w 201) + x2)) 1))] h9 _
  refine j_V.stL mt2_M mt2_32 rfl (i := 3) (kd := 0) (kl' := [(0, .ref 359), (1, .int x1), (2, .int x2), (3, .int (m_price (m_toTheEnd n (m_puts w x1 10 ((gA w 201) + x2)) 1)))]) (pcJ := 33) rfl L rfl (by decide) rfl rfl rfl (fun lv L => ?_)
  refine j_V.ldL mt2_M mt2_33 rfl (i := 0) (kd := 2) (v := .ref 359) (pcJ := 34) rfl L rfl rfl rfl ?_
  refine j_V.getK mt2_M mt2_34 (ci := 10) (j := 3) rfl K rfl rfl ?_
  refine j_V.ldL mt2_M mt2_37 rfl (i := 0) (kd := 2) (v := .ref 359) (pcJ := 38) rfl L rfl rfl rfl ?_
  refine j_V.getK mt2_M mt2_38 (ci := 10) (j := 1) rfl K rfl rfl ?_
  refine j_V.cl mt2_M mt2_41 rfl (md := 2) (mj := 201) rfl (by decide) mi3_M (As := [.ref 362, .ref 360]) (rest := []) (jk_spl2 rfl rfl (Nat.le_of_ble_eq_true rfl) (Nat.le_of_ble_eq_true rfl)) (fun d => mi3_ok (K.fi [360, 362] rfl rfl)) ?_
  rintro r h9 ⟨rfl, K9⟩
  have K : KN h9 [(359, .inl (10, [.int th, .ref 360, .ref 361, .ref 362, .ref 363, .ref 364, .ref 365, .ref 366, .ref 367, (u 9), .int sst, (u 11), (u 12), .int acs, (u 14), (u 15), (u 16), (u 17), (u 18), (u 19), (u 20), (u 21), .ref 368, .int tm7, .ref 369, .ref 370, .ref 371, (u 27)])), (360, .inr (.inl (0, ((m_copies w (m_toTheEnd n (m_puts w x1 10 ((gA w 201) + x2)) 1)))))), (362, .inr (.inl (0, w))), (363, .inr (.inl (0, ot7))), (364, .inr (.inl (0, kp))), (368, .inr (.inl (0, tk7))), (369, .inr (.inl (0, od))), (370, .inr (.inl (0, be)))] h0 := K.mg K9 rfl rfl
  clear K9
  show j_V jP _ 270 44 lv [] h9 _
  rw [m_cp (H.I1 _ hI).1 (H.I1 _ hI7).1] at K
  refine j_V.ldL mt2_M mt2_44 rfl (i := 3) (kd := 0) (v := .int (m_price (m_toTheEnd n (m_puts w x1 10 ((gA w 201) + x2)) 1))) (pcJ := 45) rfl L rfl rfl rfl ?_
  exact j_V.ri mt2_M mt2_45 ⟨rfl, w, ot7, tk7, tm7, (H.I1 _ hI).1, ho7, K⟩
set_option maxRecDepth 100000 in
theorem mt3_M : j_meth jP 271 = some (yX10_cost, cX10_cost, 4, (some .int), 2, false, 10) := rfl
set_option maxRecDepth 100000 in
theorem mt3_0 : j_code jP 271 0 = some (.iload_n 2) := rfl
set_option maxRecDepth 100000 in
theorem mt3_1 : j_code jP 271 1 = some (.iconst 1) := rfl
set_option maxRecDepth 100000 in
theorem mt3_2 : j_code jP 271 2 = some (.bipush 99) := rfl
set_option maxRecDepth 100000 in
theorem mt3_4 : j_code jP 271 4 = some (.invokestatic 61) := rfl
set_option maxRecDepth 100000 in
theorem mt3_7 : j_code jP 271 7 = some (.ifCond .ne 9) := rfl
set_option maxRecDepth 100000 in
theorem mt3_10 : j_code jP 271 10 = some (.aload_n 0) := rfl
set_option maxRecDepth 100000 in
theorem mt3_11 : j_code jP 271 11 = some (.iconst 1) := rfl
set_option maxRecDepth 100000 in
theorem mt3_12 : j_code jP 271 12 = some (.invokevirtual 179) := rfl
set_option maxRecDepth 100000 in
theorem mt3_15 : j_code jP 271 15 = some (.ireturn) := rfl
set_option maxRecDepth 100000 in
theorem mt3_16 : j_code jP 271 16 = some (.aload_n 0) := rfl
set_option maxRecDepth 100000 in
theorem mt3_17 : j_code jP 271 17 = some (.iload_n 1) := rfl
set_option maxRecDepth 100000 in
theorem mt3_18 : j_code jP 271 18 = some (.invokevirtual 310) := rfl
set_option maxRecDepth 100000 in
theorem mt3_21 : j_code jP 271 21 = some (.ifCond .ne 9) := rfl
set_option maxRecDepth 100000 in
theorem mt3_24 : j_code jP 271 24 = some (.aload_n 0) := rfl
set_option maxRecDepth 100000 in
theorem mt3_25 : j_code jP 271 25 = some (.iconst 2) := rfl
set_option maxRecDepth 100000 in
theorem mt3_26 : j_code jP 271 26 = some (.invokevirtual 179) := rfl
set_option maxRecDepth 100000 in
theorem mt3_29 : j_code jP 271 29 = some (.ireturn) := rfl
set_option maxRecDepth 100000 in
theorem mt3_30 : j_code jP 271 30 = some (.aload_n 0) := rfl
set_option maxRecDepth 100000 in
theorem mt3_31 : j_code jP 271 31 = some (.iload_n 1) := rfl
set_option maxRecDepth 100000 in
theorem mt3_32 : j_code jP 271 32 = some (.bipush 6) := rfl
set_option maxRecDepth 100000 in
theorem mt3_34 : j_code jP 271 34 = some (.invokevirtual 198) := rfl
set_option maxRecDepth 100000 in
theorem mt3_37 : j_code jP 271 37 = some (.iconst 3) := rfl
set_option maxRecDepth 100000 in
theorem mt3_38 : j_code jP 271 38 = some (.if_icmp .ne 9) := rfl
set_option maxRecDepth 100000 in
theorem mt3_41 : j_code jP 271 41 = some (.aload_n 0) := rfl
set_option maxRecDepth 100000 in
theorem mt3_42 : j_code jP 271 42 = some (.iconst 4) := rfl
set_option maxRecDepth 100000 in
theorem mt3_43 : j_code jP 271 43 = some (.invokevirtual 179) := rfl
set_option maxRecDepth 100000 in
theorem mt3_46 : j_code jP 271 46 = some (.ireturn) := rfl
set_option maxRecDepth 100000 in
theorem mt3_47 : j_code jP 271 47 = some (.aload_n 0) := rfl
set_option maxRecDepth 100000 in
theorem mt3_48 : j_code jP 271 48 = some (.invokevirtual 347) := rfl
set_option maxRecDepth 100000 in
theorem mt3_51 : j_code jP 271 51 = some (.istore_n 3) := rfl
set_option maxRecDepth 100000 in
theorem mt3_52 : j_code jP 271 52 = some (.aload_n 0) := rfl
set_option maxRecDepth 100000 in
theorem mt3_53 : j_code jP 271 53 = some (.aload_n 0) := rfl
set_option maxRecDepth 100000 in
theorem mt3_54 : j_code jP 271 54 = some (.iload_n 1) := rfl
set_option maxRecDepth 100000 in
theorem mt3_55 : j_code jP 271 55 = some (.iload_n 2) := rfl
set_option maxRecDepth 100000 in
theorem mt3_56 : j_code jP 271 56 = some (.invokevirtual 350) := rfl
set_option maxRecDepth 100000 in
theorem mt3_59 : j_code jP 271 59 = some (.iload_n 3) := rfl
set_option maxRecDepth 100000 in
theorem mt3_60 : j_code jP 271 60 = some (.isub) := rfl
set_option maxRecDepth 100000 in
theorem mt3_61 : j_code jP 271 61 = some (.invokevirtual 195) := rfl
set_option maxRecDepth 100000 in
theorem mt3_64 : j_code jP 271 64 = some (.ireturn) := rfl
def m_qcost (n : Nat) (th : Int32) (sst : Int32) (w : List Int32) (x1 : Int32) (x2 : Int32) : Int32 × Int32 × Int32 := (if (m_isFrom x2 1 99) = 0 then (((m_refuse th sst 1).1), ((m_refuse th sst 1).2.1), ((m_refuse th sst 1).2.2)) else (if (m_isTrain w x1) = 0 then (((m_refuse th sst 2).1), ((m_refuse th sst 2).2.1), ((m_refuse th sst 2).2.2)) else (if (m_of w x1 6) = 3 then (((m_refuse th sst 4).1), ((m_refuse th sst 4).2.1), ((m_refuse th sst 4).2.2)) else (((m_gives th sst ((m_price (m_toTheEnd n (m_puts w x1 10 ((gA w 201) + x2)) 1)) - (m_price (m_toTheEnd n w 1)))).1), ((m_gives th sst ((m_price (m_toTheEnd n (m_puts w x1 10 ((gA w 201) + x2)) 1)) - (m_price (m_toTheEnd n w 1)))).2.1), ((m_gives th sst ((m_price (m_toTheEnd n (m_puts w x1 10 ((gA w 201) + x2)) 1)) - (m_price (m_toTheEnd n w 1)))).2.2)))))
set_option maxRecDepth 1000000 in
theorem mt3_ok {u : Nat → Value} {n d : Nat} {h h0 : J_H} {th sst acs tm x1 x2 : Int32} {w sd ot kp tk od be : List Int32} {I J : List Int32 → Prop} (H : m_Inv n I J) (H2 : m_Iv2 n I) (hI : I w) (hsd : sd.length = 602) (hot : ot.length = 602) (K : KN h [(359, .inl (10, [.int th, .ref 360, .ref 361, .ref 362, .ref 363, .ref 364, .ref 365, .ref 366, .ref 367, (u 9), .int sst, (u 11), (u 12), .int acs, (u 14), (u 15), (u 16), (u 17), (u 18), (u 19), (u 20), (u 21), .ref 368, .int tm, .ref 369, .ref 370, .ref 371, (u 27)])), (360, .inr (.inl (0, w))), (362, .inr (.inl (0, sd))), (363, .inr (.inl (0, ot))), (364, .inr (.inl (0, kp))), (368, .inr (.inl (0, tk))), (369, .inr (.inl (0, od))), (370, .inr (.inl (0, be)))] h0) : j_V jP d 271 0 (lv_args 0 [.ref 359, .int x1, .int x2]) [] h (fun rv h' => rv = some (.int (m_qcost n th sst w x1 x2).1) ∧ ∃ (sd' ot' tk' : List Int32) (tm' : Int32), sd'.length = 602 ∧ ot'.length = 602 ∧ KN h' [(359, .inl (10, [.int (m_qcost n th sst w x1 x2).2.1, .ref 360, .ref 361, .ref 362, .ref 363, .ref 364, .ref 365, .ref 366, .ref 367, (u 9), .int (m_qcost n th sst w x1 x2).2.2, (u 11), (u 12), .int acs, (u 14), (u 15), (u 16), (u 17), (u 18), (u 19), (u 20), (u 21), .ref 368, .int tm', .ref 369, .ref 370, .ref 371, (u 27)])), (360, .inr (.inl (0, w))), (362, .inr (.inl (0, sd'))), (363, .inr (.inl (0, ot'))), (364, .inr (.inl (0, kp))), (368, .inr (.inl (0, tk'))), (369, .inr (.inl (0, od))), (370, .inr (.inl (0, be)))] h0) := by
  show j_V jP d 271 0 [(0, .ref 359), (1, .int x1), (2, .int x2)] [] h _
  obtain ⟨lv, elv, L⟩ : ∃ lv, lv = [(0, .ref 359), (1, .int x1), (2, .int x2)] ∧ LK lv [(0, .ref 359), (1, .int x1), (2, .int x2)] := ⟨_, rfl, LK.rf⟩
  rw [← elv]
  clear elv
  refine j_V.ldL mt3_M mt3_0 rfl (i := 2) (kd := 0) (v := .int x2) (pcJ := 1) rfl L rfl rfl rfl ?_
  refine j_V.one mt3_M mt3_1 (by decide) (pcJ := 2) (stJ := [.int 1, .int x2]) rfl ?_
  refine j_V.one mt3_M mt3_2 (by decide) (pcJ := 4) (stJ := [.int 99, .int 1, .int x2]) rfl ?_
  refine j_V.cl mt3_M mt3_4 rfl (md := 2) (mj := 171) rfl (by decide) ma0_M (As := [.int x2, .int 1, .int 99]) (rest := []) (jk_spl2 rfl rfl (Nat.le_of_ble_eq_true rfl) (Nat.le_of_ble_eq_true rfl)) (fun d => ma0_ok (K.fi [] rfl rfl)) ?_
  rintro r hz ⟨rfl, ez⟩
  rw [ez]
  clear ez
  show j_V jP _ 271 7 lv [.int (m_isFrom x2 1 99)] h _
  refine j_V.ifc mt3_M mt3_7 (t := 16) rfl (fun c7_0 => ?_) (fun c7_0 => ?_)
  · replace c7_0 : ¬ ((m_isFrom x2 1 99) = 0) := jd_ne c7_0
    refine j_V.ldL mt3_M mt3_16 rfl (i := 0) (kd := 2) (v := .ref 359) (pcJ := 17) rfl L rfl rfl rfl ?_
    refine j_V.ldL mt3_M mt3_17 rfl (i := 1) (kd := 0) (v := .int x1) (pcJ := 18) rfl L rfl rfl rfl ?_
    refine j_V.cl mt3_M mt3_18 rfl (md := 3) (mj := 173) rfl (by decide) md0_M (As := [.ref 359, .int x1]) (rest := []) (jk_spl3 (K.at rfl) rfl rfl rfl (Nat.le_of_ble_eq_true rfl) (Nat.le_of_ble_eq_true rfl)) (fun d => md0_ok (u := fun j => [.int th, .ref 360, .ref 361, .ref 362, .ref 363, .ref 364, .ref 365, .ref 366, .ref 367, (u 9), .int sst, (u 11), (u 12), .int acs, (u 14), (u 15), (u 16), (u 17), (u 18), (u 19), (u 20), (u 21), .ref 368, .int tm, .ref 369, .ref 370, .ref 371, (u 27)].getD j .null) (K.fi [359, 360] rfl rfl)) ?_
    rintro r hz ⟨rfl, ez⟩
    rw [ez]
    clear ez
    show j_V jP _ 271 21 lv [.int (m_isTrain w x1)] h _
    refine j_V.ifc mt3_M mt3_21 (t := 30) rfl (fun c21_1 => ?_) (fun c21_1 => ?_)
    · replace c21_1 : ¬ ((m_isTrain w x1) = 0) := jd_ne c21_1
      refine j_V.ldL mt3_M mt3_30 rfl (i := 0) (kd := 2) (v := .ref 359) (pcJ := 31) rfl L rfl rfl rfl ?_
      refine j_V.ldL mt3_M mt3_31 rfl (i := 1) (kd := 0) (v := .int x1) (pcJ := 32) rfl L rfl rfl rfl ?_
      refine j_V.one mt3_M mt3_32 (by decide) (pcJ := 34) (stJ := [.int 6, .int x1, .ref 359]) rfl ?_
      refine j_V.cl mt3_M mt3_34 rfl (md := 3) (mj := 178) rfl (by decide) ma3_M (As := [.ref 359, .int x1, .int 6]) (rest := []) (jk_spl3 (K.at rfl) rfl rfl rfl (Nat.le_of_ble_eq_true rfl) (Nat.le_of_ble_eq_true rfl)) (fun d => ma3_ok (u := fun j => [.int th, .ref 360, .ref 361, .ref 362, .ref 363, .ref 364, .ref 365, .ref 366, .ref 367, (u 9), .int sst, (u 11), (u 12), .int acs, (u 14), (u 15), (u 16), (u 17), (u 18), (u 19), (u 20), (u 21), .ref 368, .int tm, .ref 369, .ref 370, .ref 371, (u 27)].getD j .null) (K.fi [359, 360] rfl rfl)) ?_
      rintro r hz ⟨rfl, ez⟩
      rw [ez]
      clear ez
      show j_V jP _ 271 37 lv [.int (m_of w x1 6)] h _
      refine j_V.one mt3_M mt3_37 (by decide) (pcJ := 38) (stJ := [.int 3, .int (m_of w x1 6)]) rfl ?_
      refine j_V.icmp mt3_M mt3_38 (t := 47) rfl (fun c38_2 => ?_) (fun c38_2 => ?_)
      · replace c38_2 : ¬ ((m_of w x1 6) = 3) := jd_ne c38_2
        refine j_V.ldL mt3_M mt3_47 rfl (i := 0) (kd := 2) (v := .ref 359) (pcJ := 48) rfl L rfl rfl rfl ?_
        refine j_V.cl mt3_M mt3_48 rfl (md := 3) (mj := 269) rfl (by decide) mt1_M (As := [.ref 359]) (rest := []) (jk_spl3 (K.at rfl) rfl rfl rfl (Nat.le_of_ble_eq_true rfl) (Nat.le_of_ble_eq_true rfl)) (fun d => mt1_ok (u := u) H H2 hI hsd hot  K) ?_
        rintro r h9 ⟨rfl, sd8, ot8, tk8, tm8, hd8, ho8, K⟩
        show j_V jP _ 271 51 lv [.int (m_price (m_toTheEnd n w 1))] h9 _
        refine j_V.stL mt3_M mt3_51 rfl (i := 3) (kd := 0) (kl' := [(0, .ref 359), (1, .int x1), (2, .int x2), (3, .int (m_price (m_toTheEnd n w 1)))]) (pcJ := 52) rfl L rfl (by decide) rfl rfl rfl (fun lv L => ?_)
        refine j_V.ldL mt3_M mt3_52 rfl (i := 0) (kd := 2) (v := .ref 359) (pcJ := 53) rfl L rfl rfl rfl ?_
        refine j_V.ldL mt3_M mt3_53 rfl (i := 0) (kd := 2) (v := .ref 359) (pcJ := 54) rfl L rfl rfl rfl ?_
        refine j_V.ldL mt3_M mt3_54 rfl (i := 1) (kd := 0) (v := .int x1) (pcJ := 55) rfl L rfl rfl rfl ?_
        refine j_V.ldL mt3_M mt3_55 rfl (i := 2) (kd := 0) (v := .int x2) (pcJ := 56) rfl L rfl rfl rfl ?_
        refine j_V.cl mt3_M mt3_56 rfl (md := 3) (mj := 270) rfl (by decide) mt2_M (As := [.ref 359, .int x1, .int x2]) (rest := [.ref 359]) (jk_spl3 (K.at rfl) rfl rfl rfl (Nat.le_of_ble_eq_true rfl) (Nat.le_of_ble_eq_true rfl)) (fun d => mt2_ok (u := u) H H2 hI hd8 ho8 (H2.G _ _ _ hI c21_1 c7_0) K) ?_
        rintro r h9 ⟨rfl, sd9, ot9, tk9, tm9, hd9, ho9, K⟩
        show j_V jP _ 271 59 lv [.int (m_price (m_toTheEnd n (m_puts w x1 10 ((gA w 201) + x2)) 1)), .ref 359] h9 _
        refine j_V.ldL mt3_M mt3_59 rfl (i := 3) (kd := 0) (v := .int (m_price (m_toTheEnd n w 1))) (pcJ := 60) rfl L rfl rfl rfl ?_
        refine j_V.one mt3_M mt3_60 (by decide) (pcJ := 61) (stJ := [.int ((m_price (m_toTheEnd n (m_puts w x1 10 ((gA w 201) + x2)) 1)) - (m_price (m_toTheEnd n w 1))), .ref 359]) rfl ?_
        refine j_V.cl mt3_M mt3_61 rfl (md := 3) (mj := 170) rfl (by decide) mo1_M (As := [.ref 359, .int ((m_price (m_toTheEnd n (m_puts w x1 10 ((gA w 201) + x2)) 1)) - (m_price (m_toTheEnd n w 1)))]) (rest := []) (jk_spl3 (K.at rfl) rfl rfl rfl (Nat.le_of_ble_eq_true rfl) (Nat.le_of_ble_eq_true rfl)) (fun d => mo1_ok (u := fun j => [.int th, .ref 360, .ref 361, .ref 362, .ref 363, .ref 364, .ref 365, .ref 366, .ref 367, (u 9), .int sst, (u 11), (u 12), .int acs, (u 14), (u 15), (u 16), (u 17), (u 18), (u 19), (u 20), (u 21), .ref 368, .int tm9, .ref 369, .ref 370, .ref 371, (u 27)].getD j .null) (K.fi [359] rfl rfl)) ?_
        rintro r h9 ⟨rfl, K9⟩
        have K : KN h9 [(359, .inl (10, [.int ((m_gives th sst ((m_price (m_toTheEnd n (m_puts w x1 10 ((gA w 201) + x2)) 1)) - (m_price (m_toTheEnd n w 1)))).2.1), .ref 360, .ref 361, .ref 362, .ref 363, .ref 364, .ref 365, .ref 366, .ref 367, (u 9), .int ((m_gives th sst ((m_price (m_toTheEnd n (m_puts w x1 10 ((gA w 201) + x2)) 1)) - (m_price (m_toTheEnd n w 1)))).2.2), (u 11), (u 12), .int acs, (u 14), (u 15), (u 16), (u 17), (u 18), (u 19), (u 20), (u 21), .ref 368, .int tm9, .ref 369, .ref 370, .ref 371, (u 27)])), (360, .inr (.inl (0, w))), (362, .inr (.inl (0, sd9))), (363, .inr (.inl (0, ot9))), (364, .inr (.inl (0, kp))), (368, .inr (.inl (0, tk9))), (369, .inr (.inl (0, od))), (370, .inr (.inl (0, be)))] h0 := K.mg K9 rfl rfl
        clear K9
        show j_V jP _ 271 64 lv [.int ((m_gives th sst ((m_price (m_toTheEnd n (m_puts w x1 10 ((gA w 201) + x2)) 1)) - (m_price (m_toTheEnd n w 1)))).1)] h9 _
        refine j_V.ri mt3_M mt3_64 ?_
        rw [show (m_qcost n th sst w x1 x2) = _ from ((if_neg c7_0).trans ((if_neg c21_1).trans ((if_neg c38_2).trans (rfl))))]
        exact ⟨rfl, sd9, ot9, tk9, tm9, hd9, ho9, K⟩
      · replace c38_2 : (m_of w x1 6) = 3 := jd_nen c38_2
        refine j_V.ldL mt3_M mt3_41 rfl (i := 0) (kd := 2) (v := .ref 359) (pcJ := 42) rfl L rfl rfl rfl ?_
        refine j_V.one mt3_M mt3_42 (by decide) (pcJ := 43) (stJ := [.int 4, .ref 359]) rfl ?_
        refine j_V.cl mt3_M mt3_43 rfl (md := 3) (mj := 169) rfl (by decide) mo0_M (As := [.ref 359, .int 4]) (rest := []) (jk_spl3 (K.at rfl) rfl rfl rfl (Nat.le_of_ble_eq_true rfl) (Nat.le_of_ble_eq_true rfl)) (fun d => mo0_ok (u := fun j => [.int th, .ref 360, .ref 361, .ref 362, .ref 363, .ref 364, .ref 365, .ref 366, .ref 367, (u 9), .int sst, (u 11), (u 12), .int acs, (u 14), (u 15), (u 16), (u 17), (u 18), (u 19), (u 20), (u 21), .ref 368, .int tm, .ref 369, .ref 370, .ref 371, (u 27)].getD j .null) (K.fi [359] rfl rfl)) ?_
        rintro r h9 ⟨rfl, K9⟩
        have K : KN h9 [(359, .inl (10, [.int ((m_refuse th sst 4).2.1), .ref 360, .ref 361, .ref 362, .ref 363, .ref 364, .ref 365, .ref 366, .ref 367, (u 9), .int ((m_refuse th sst 4).2.2), (u 11), (u 12), .int acs, (u 14), (u 15), (u 16), (u 17), (u 18), (u 19), (u 20), (u 21), .ref 368, .int tm, .ref 369, .ref 370, .ref 371, (u 27)])), (360, .inr (.inl (0, w))), (362, .inr (.inl (0, sd))), (363, .inr (.inl (0, ot))), (364, .inr (.inl (0, kp))), (368, .inr (.inl (0, tk))), (369, .inr (.inl (0, od))), (370, .inr (.inl (0, be)))] h0 := K.mg K9 rfl rfl
        clear K9
        show j_V jP _ 271 46 lv [.int ((m_refuse th sst 4).1)] h9 _
        refine j_V.ri mt3_M mt3_46 ?_
        rw [show (m_qcost n th sst w x1 x2) = _ from ((if_neg c7_0).trans ((if_neg c21_1).trans ((if_pos c38_2).trans (rfl))))]
        exact ⟨rfl, sd, ot, tk, tm, hsd, hot, K⟩
    · replace c21_1 : (m_isTrain w x1) = 0 := jd_nen c21_1
      refine j_V.ldL mt3_M mt3_24 rfl (i := 0) (kd := 2) (v := .ref 359) (pcJ := 25) rfl L rfl rfl rfl ?_
      refine j_V.one mt3_M mt3_25 (by decide) (pcJ := 26) (stJ := [.int 2, .ref 359]) rfl ?_
      refine j_V.cl mt3_M mt3_26 rfl (md := 3) (mj := 169) rfl (by decide) mo0_M (As := [.ref 359, .int 2]) (rest := []) (jk_spl3 (K.at rfl) rfl rfl rfl (Nat.le_of_ble_eq_true rfl) (Nat.le_of_ble_eq_true rfl)) (fun d => mo0_ok (u := fun j => [.int th, .ref 360, .ref 361, .ref 362, .ref 363, .ref 364, .ref 365, .ref 366, .ref 367, (u 9), .int sst, (u 11), (u 12), .int acs, (u 14), (u 15), (u 16), (u 17), (u 18), (u 19), (u 20), (u 21), .ref 368, .int tm, .ref 369, .ref 370, .ref 371, (u 27)].getD j .null) (K.fi [359] rfl rfl)) ?_
      rintro r h9 ⟨rfl, K9⟩
      have K : KN h9 [(359, .inl (10, [.int ((m_refuse th sst 2).2.1), .ref 360, .ref 361, .ref 362, .ref 363, .ref 364, .ref 365, .ref 366, .ref 367, (u 9), .int ((m_refuse th sst 2).2.2), (u 11), (u 12), .int acs, (u 14), (u 15), (u 16), (u 17), (u 18), (u 19), (u 20), (u 21), .ref 368, .int tm, .ref 369, .ref 370, .ref 371, (u 27)])), (360, .inr (.inl (0, w))), (362, .inr (.inl (0, sd))), (363, .inr (.inl (0, ot))), (364, .inr (.inl (0, kp))), (368, .inr (.inl (0, tk))), (369, .inr (.inl (0, od))), (370, .inr (.inl (0, be)))] h0 := K.mg K9 rfl rfl
      clear K9
      show j_V jP _ 271 29 lv [.int ((m_refuse th sst 2).1)] h9 _
      refine j_V.ri mt3_M mt3_29 ?_
      rw [show (m_qcost n th sst w x1 x2) = _ from ((if_neg c7_0).trans ((if_pos c21_1).trans (rfl)))]
      exact ⟨rfl, sd, ot, tk, tm, hsd, hot, K⟩
  · replace c7_0 : (m_isFrom x2 1 99) = 0 := jd_nen c7_0
    refine j_V.ldL mt3_M mt3_10 rfl (i := 0) (kd := 2) (v := .ref 359) (pcJ := 11) rfl L rfl rfl rfl ?_
    refine j_V.one mt3_M mt3_11 (by decide) (pcJ := 12) (stJ := [.int 1, .ref 359]) rfl ?_
    refine j_V.cl mt3_M mt3_12 rfl (md := 3) (mj := 169) rfl (by decide) mo0_M (As := [.ref 359, .int 1]) (rest := []) (jk_spl3 (K.at rfl) rfl rfl rfl (Nat.le_of_ble_eq_true rfl) (Nat.le_of_ble_eq_true rfl)) (fun d => mo0_ok (u := fun j => [.int th, .ref 360, .ref 361, .ref 362, .ref 363, .ref 364, .ref 365, .ref 366, .ref 367, (u 9), .int sst, (u 11), (u 12), .int acs, (u 14), (u 15), (u 16), (u 17), (u 18), (u 19), (u 20), (u 21), .ref 368, .int tm, .ref 369, .ref 370, .ref 371, (u 27)].getD j .null) (K.fi [359] rfl rfl)) ?_
    rintro r h9 ⟨rfl, K9⟩
    have K : KN h9 [(359, .inl (10, [.int ((m_refuse th sst 1).2.1), .ref 360, .ref 361, .ref 362, .ref 363, .ref 364, .ref 365, .ref 366, .ref 367, (u 9), .int ((m_refuse th sst 1).2.2), (u 11), (u 12), .int acs, (u 14), (u 15), (u 16), (u 17), (u 18), (u 19), (u 20), (u 21), .ref 368, .int tm, .ref 369, .ref 370, .ref 371, (u 27)])), (360, .inr (.inl (0, w))), (362, .inr (.inl (0, sd))), (363, .inr (.inl (0, ot))), (364, .inr (.inl (0, kp))), (368, .inr (.inl (0, tk))), (369, .inr (.inl (0, od))), (370, .inr (.inl (0, be)))] h0 := K.mg K9 rfl rfl
    clear K9
    show j_V jP _ 271 15 lv [.int ((m_refuse th sst 1).1)] h9 _
    refine j_V.ri mt3_M mt3_15 ?_
    rw [show (m_qcost n th sst w x1 x2) = _ from ((if_pos c7_0).trans (rfl))]
    exact ⟨rfl, sd, ot, tk, tm, hsd, hot, K⟩
theorem m_r99 {i : Nat} (h : i < 99) : ¬ m_isFrom (nI i + 1) 1 99 = 0 := by
  have : ∀ j : Fin 99, ¬ m_isFrom (nI j.val + 1) 1 99 = 0 := by decide
  exact this ⟨i, h⟩
set_option maxRecDepth 100000 in
theorem mt4_M : j_meth jP 272 = some (yX10_slack, cX10_slack, 4, (some .int), 1, false, 10) := rfl
set_option maxRecDepth 100000 in
theorem mt4_0 : j_code jP 272 0 = some (.aload_n 0) := rfl
set_option maxRecDepth 100000 in
theorem mt4_1 : j_code jP 272 1 = some (.iload_n 1) := rfl
set_option maxRecDepth 100000 in
theorem mt4_2 : j_code jP 272 2 = some (.invokevirtual 310) := rfl
set_option maxRecDepth 100000 in
theorem mt4_5 : j_code jP 272 5 = some (.ifCond .ne 9) := rfl
set_option maxRecDepth 100000 in
theorem mt4_8 : j_code jP 272 8 = some (.aload_n 0) := rfl
set_option maxRecDepth 100000 in
theorem mt4_9 : j_code jP 272 9 = some (.iconst 2) := rfl
set_option maxRecDepth 100000 in
theorem mt4_10 : j_code jP 272 10 = some (.invokevirtual 179) := rfl
set_option maxRecDepth 100000 in
theorem mt4_13 : j_code jP 272 13 = some (.ireturn) := rfl
set_option maxRecDepth 100000 in
theorem mt4_14 : j_code jP 272 14 = some (.aload_n 0) := rfl
set_option maxRecDepth 100000 in
theorem mt4_15 : j_code jP 272 15 = some (.iload_n 1) := rfl
set_option maxRecDepth 100000 in
theorem mt4_16 : j_code jP 272 16 = some (.bipush 6) := rfl
set_option maxRecDepth 100000 in
theorem mt4_18 : j_code jP 272 18 = some (.invokevirtual 198) := rfl
set_option maxRecDepth 100000 in
theorem mt4_21 : j_code jP 272 21 = some (.iconst 3) := rfl
set_option maxRecDepth 100000 in
theorem mt4_22 : j_code jP 272 22 = some (.if_icmp .ne 9) := rfl
set_option maxRecDepth 100000 in
theorem mt4_25 : j_code jP 272 25 = some (.aload_n 0) := rfl
set_option maxRecDepth 100000 in
theorem mt4_26 : j_code jP 272 26 = some (.iconst 4) := rfl
set_option maxRecDepth 100000 in
theorem mt4_27 : j_code jP 272 27 = some (.invokevirtual 179) := rfl
set_option maxRecDepth 100000 in
theorem mt4_30 : j_code jP 272 30 = some (.ireturn) := rfl
set_option maxRecDepth 100000 in
theorem mt4_31 : j_code jP 272 31 = some (.aload_n 0) := rfl
set_option maxRecDepth 100000 in
theorem mt4_32 : j_code jP 272 32 = some (.invokevirtual 347) := rfl
set_option maxRecDepth 100000 in
theorem mt4_35 : j_code jP 272 35 = some (.istore_n 2) := rfl
set_option maxRecDepth 100000 in
theorem mt4_36 : j_code jP 272 36 = some (.iconst 0) := rfl
set_option maxRecDepth 100000 in
theorem mt4_37 : j_code jP 272 37 = some (.istore_n 3) := rfl
set_option maxRecDepth 100000 in
theorem mt4_38 : j_code jP 272 38 = some (.iload_n 3) := rfl
set_option maxRecDepth 100000 in
theorem mt4_39 : j_code jP 272 39 = some (.bipush 99) := rfl
set_option maxRecDepth 100000 in
theorem mt4_41 : j_code jP 272 41 = some (.if_icmp .ge 21) := rfl
set_option maxRecDepth 100000 in
theorem mt4_44 : j_code jP 272 44 = some (.aload_n 0) := rfl
set_option maxRecDepth 100000 in
theorem mt4_45 : j_code jP 272 45 = some (.iload_n 1) := rfl
set_option maxRecDepth 100000 in
theorem mt4_46 : j_code jP 272 46 = some (.iload_n 3) := rfl
set_option maxRecDepth 100000 in
theorem mt4_47 : j_code jP 272 47 = some (.iconst 1) := rfl
set_option maxRecDepth 100000 in
theorem mt4_48 : j_code jP 272 48 = some (.iadd) := rfl
set_option maxRecDepth 100000 in
theorem mt4_49 : j_code jP 272 49 = some (.invokevirtual 350) := rfl
set_option maxRecDepth 100000 in
theorem mt4_52 : j_code jP 272 52 = some (.iload_n 2) := rfl
set_option maxRecDepth 100000 in
theorem mt4_53 : j_code jP 272 53 = some (.if_icmp .gt 9) := rfl
set_option maxRecDepth 100000 in
theorem mt4_56 : j_code jP 272 56 = some (.iinc 3 1) := rfl
set_option maxRecDepth 100000 in
theorem mt4_59 : j_code jP 272 59 = some (.goto (-21)) := rfl
set_option maxRecDepth 100000 in
theorem mt4_62 : j_code jP 272 62 = some (.aload_n 0) := rfl
set_option maxRecDepth 100000 in
theorem mt4_63 : j_code jP 272 63 = some (.iload_n 3) := rfl
set_option maxRecDepth 100000 in
theorem mt4_64 : j_code jP 272 64 = some (.invokevirtual 195) := rfl
set_option maxRecDepth 100000 in
theorem mt4_67 : j_code jP 272 67 = some (.ireturn) := rfl
def m_qslack_l38 (n : Nat) (th : Int32) (sst : Int32) (w : List Int32) (x1 : Int32) (v2 : Int32) : Nat → Nat → Int32 × Int32 × Int32
  | 0, i => (((m_gives th sst (nI i)).1), ((m_gives th sst (nI i)).2.1), ((m_gives th sst (nI i)).2.2))
  | f + 1, i => (if v2 < (m_price (m_toTheEnd n (m_puts w x1 10 ((gA w 201) + ((nI i) + 1))) 1)) then (((m_gives th sst (nI i)).1), ((m_gives th sst (nI i)).2.1), ((m_gives th sst (nI i)).2.2)) else (m_qslack_l38 n th sst w x1 v2 f (i + 1)))
set_option maxRecDepth 1000000 in
theorem mt4_ok_l38 {u : Nat → Value} {n d : Nat} {h0 : J_H} {th sst acs x1 v2 : Int32} {w kp od be : List Int32}  {I J : List Int32 → Prop} (H : m_Inv n I J) (H2 : m_Iv2 n I) (hI : I w) (ht : ¬ m_isTrain w x1 = 0) : ∀ (f i : Nat) {sd ot tk : List Int32} {tm : Int32} {lv : J_L} {h : J_H}, i + f = 99 → sd.length = 602 → ot.length = 602 → LK lv [(0, .ref 359), (1, .int x1), (2, .int v2), (3, .int (nI i))] → KN h [(359, .inl (10, [.int th, .ref 360, .ref 361, .ref 362, .ref 363, .ref 364, .ref 365, .ref 366, .ref 367, (u 9), .int sst, (u 11), (u 12), .int acs, (u 14), (u 15), (u 16), (u 17), (u 18), (u 19), (u 20), (u 21), .ref 368, .int tm, .ref 369, .ref 370, .ref 371, (u 27)])), (360, .inr (.inl (0, w))), (362, .inr (.inl (0, sd))), (363, .inr (.inl (0, ot))), (364, .inr (.inl (0, kp))), (368, .inr (.inl (0, tk))), (369, .inr (.inl (0, od))), (370, .inr (.inl (0, be)))] h0 → j_V jP d 272 38 lv [] h (fun rv h' => rv = some (.int (m_qslack_l38 n th sst w x1 v2 f i).1) ∧ ∃ (sd' ot' tk' : List Int32) (tm' : Int32), sd'.length = 602 ∧ ot'.length = 602 ∧ KN h' [(359, .inl (10, [.int (m_qslack_l38 n th sst w x1 v2 f i).2.1, .ref 360, .ref 361, .ref 362, .ref 363, .ref 364, .ref 365, .ref 366, .ref 367, (u 9), .int (m_qslack_l38 n th sst w x1 v2 f i).2.2, (u 11), (u 12), .int acs, (u 14), (u 15), (u 16), (u 17), (u 18), (u 19), (u 20), (u 21), .ref 368, .int tm', .ref 369, .ref 370, .ref 371, (u 27)])), (360, .inr (.inl (0, w))), (362, .inr (.inl (0, sd'))), (363, .inr (.inl (0, ot'))), (364, .inr (.inl (0, kp))), (368, .inr (.inl (0, tk'))), (369, .inr (.inl (0, od))), (370, .inr (.inl (0, be)))] h0) := by
  have hn5 := H.n5
  intro f
  induction f with
  | zero =>
    intro i  sd ot tk tm lv h e hsd hot L K
    refine j_V.ldL mt4_M mt4_38 rfl (i := 3) (kd := 0) (v := .int (nI i)) (pcJ := 39) rfl L rfl rfl rfl ?_
    refine j_V.one mt4_M mt4_39 (by decide) (pcJ := 41) (stJ := [.int 99, .int (nI i)]) rfl ?_
    refine j_V.icmp mt4_M mt4_41 (t := 62) rfl (fun c41_0 => ?_) (fun c41_0 => ?_)
    · replace c41_0 : ¬ ((nI i) < 99) := jd_ge c41_0
      refine j_V.ldL mt4_M mt4_62 rfl (i := 0) (kd := 2) (v := .ref 359) (pcJ := 63) rfl L rfl rfl rfl ?_
      refine j_V.ldL mt4_M mt4_63 rfl (i := 3) (kd := 0) (v := .int (nI i)) (pcJ := 64) rfl L rfl rfl rfl ?_
      refine j_V.cl mt4_M mt4_64 rfl (md := 3) (mj := 170) rfl (by decide) mo1_M (As := [.ref 359, .int (nI i)]) (rest := []) (jk_spl3 (K.at rfl) rfl rfl rfl (Nat.le_of_ble_eq_true rfl) (Nat.le_of_ble_eq_true rfl)) (fun d => mo1_ok (u := fun j => [.int th, .ref 360, .ref 361, .ref 362, .ref 363, .ref 364, .ref 365, .ref 366, .ref 367, (u 9), .int sst, (u 11), (u 12), .int acs, (u 14), (u 15), (u 16), (u 17), (u 18), (u 19), (u 20), (u 21), .ref 368, .int tm, .ref 369, .ref 370, .ref 371, (u 27)].getD j .null) (K.fi [359] rfl rfl)) ?_
      rintro r h9 ⟨rfl, K9⟩
      have K : KN h9 [(359, .inl (10, [.int ((m_gives th sst (nI i)).2.1), .ref 360, .ref 361, .ref 362, .ref 363, .ref 364, .ref 365, .ref 366, .ref 367, (u 9), .int ((m_gives th sst (nI i)).2.2), (u 11), (u 12), .int acs, (u 14), (u 15), (u 16), (u 17), (u 18), (u 19), (u 20), (u 21), .ref 368, .int tm, .ref 369, .ref 370, .ref 371, (u 27)])), (360, .inr (.inl (0, w))), (362, .inr (.inl (0, sd))), (363, .inr (.inl (0, ot))), (364, .inr (.inl (0, kp))), (368, .inr (.inl (0, tk))), (369, .inr (.inl (0, od))), (370, .inr (.inl (0, be)))] h0 := K.mg K9 rfl rfl
      clear K9
      show j_V jP _ 272 67 lv [.int ((m_gives th sst (nI i)).1)] h9 _
      refine j_V.ri mt4_M mt4_67 ?_
      rw [show (m_qslack_l38 n th sst w x1 v2 0 i) = _ from (rfl)]
      exact ⟨rfl, sd, ot, tk, tm, hsd, hot, K⟩
    · replace c41_0 : (nI i) < 99 := jd_gen c41_0
      exact absurd c41_0 (by rw [show i = 99 by omega]; decide)
  | succ f ih =>
    intro i  sd ot tk tm lv h e hsd hot L K
    refine j_V.ldL mt4_M mt4_38 rfl (i := 3) (kd := 0) (v := .int (nI i)) (pcJ := 39) rfl L rfl rfl rfl ?_
    refine j_V.one mt4_M mt4_39 (by decide) (pcJ := 41) (stJ := [.int 99, .int (nI i)]) rfl ?_
    refine j_V.icmp mt4_M mt4_41 (t := 62) rfl (fun c41_0 => ?_) (fun c41_0 => ?_)
    · replace c41_0 : ¬ ((nI i) < 99) := jd_ge c41_0
      exact absurd (show nI i < 99 by rw [show (99 : Int32) = nI 99 from rfl, nI_lt9 (by omega) (by omega)]; omega) c41_0
    · replace c41_0 : (nI i) < 99 := jd_gen c41_0
      refine j_V.ldL mt4_M mt4_44 rfl (i := 0) (kd := 2) (v := .ref 359) (pcJ := 45) rfl L rfl rfl rfl ?_
      refine j_V.ldL mt4_M mt4_45 rfl (i := 1) (kd := 0) (v := .int x1) (pcJ := 46) rfl L rfl rfl rfl ?_
      refine j_V.ldL mt4_M mt4_46 rfl (i := 3) (kd := 0) (v := .int (nI i)) (pcJ := 47) rfl L rfl rfl rfl ?_
      refine j_V.one mt4_M mt4_47 (by decide) (pcJ := 48) (stJ := [.int 1, .int (nI i), .int x1, .ref 359]) rfl ?_
      refine j_V.one mt4_M mt4_48 (by decide) (pcJ := 49) (stJ := [.int ((nI i) + 1), .int x1, .ref 359]) rfl ?_
      refine j_V.cl mt4_M mt4_49 rfl (md := 3) (mj := 270) rfl (by decide) mt2_M (As := [.ref 359, .int x1, .int ((nI i) + 1)]) (rest := []) (jk_spl3 (K.at rfl) rfl rfl rfl (Nat.le_of_ble_eq_true rfl) (Nat.le_of_ble_eq_true rfl)) (fun d => mt2_ok (u := u) H H2 hI hsd hot (H2.G _ _ _ hI ht (m_r99 (by omega))) K) ?_
      rintro r h9 ⟨rfl, sd10, ot10, tk10, tm10, hd10, ho10, K⟩
      show j_V jP _ 272 52 lv [.int (m_price (m_toTheEnd n (m_puts w x1 10 ((gA w 201) + ((nI i) + 1))) 1))] h9 _
      refine j_V.ldL mt4_M mt4_52 rfl (i := 2) (kd := 0) (v := .int v2) (pcJ := 53) rfl L rfl rfl rfl ?_
      refine j_V.icmp mt4_M mt4_53 (t := 62) rfl (fun c53_0 => ?_) (fun c53_0 => ?_)
      · replace c53_0 : v2 < (m_price (m_toTheEnd n (m_puts w x1 10 ((gA w 201) + ((nI i) + 1))) 1)) := jd_gt c53_0
        refine j_V.ldL mt4_M mt4_62 rfl (i := 0) (kd := 2) (v := .ref 359) (pcJ := 63) rfl L rfl rfl rfl ?_
        refine j_V.ldL mt4_M mt4_63 rfl (i := 3) (kd := 0) (v := .int (nI i)) (pcJ := 64) rfl L rfl rfl rfl ?_
        refine j_V.cl mt4_M mt4_64 rfl (md := 3) (mj := 170) rfl (by decide) mo1_M (As := [.ref 359, .int (nI i)]) (rest := []) (jk_spl3 (K.at rfl) rfl rfl rfl (Nat.le_of_ble_eq_true rfl) (Nat.le_of_ble_eq_true rfl)) (fun d => mo1_ok (u := fun j => [.int th, .ref 360, .ref 361, .ref 362, .ref 363, .ref 364, .ref 365, .ref 366, .ref 367, (u 9), .int sst, (u 11), (u 12), .int acs, (u 14), (u 15), (u 16), (u 17), (u 18), (u 19), (u 20), (u 21), .ref 368, .int tm10, .ref 369, .ref 370, .ref 371, (u 27)].getD j .null) (K.fi [359] rfl rfl)) ?_
        rintro r h9 ⟨rfl, K9⟩
        have K : KN h9 [(359, .inl (10, [.int ((m_gives th sst (nI i)).2.1), .ref 360, .ref 361, .ref 362, .ref 363, .ref 364, .ref 365, .ref 366, .ref 367, (u 9), .int ((m_gives th sst (nI i)).2.2), (u 11), (u 12), .int acs, (u 14), (u 15), (u 16), (u 17), (u 18), (u 19), (u 20), (u 21), .ref 368, .int tm10, .ref 369, .ref 370, .ref 371, (u 27)])), (360, .inr (.inl (0, w))), (362, .inr (.inl (0, sd10))), (363, .inr (.inl (0, ot10))), (364, .inr (.inl (0, kp))), (368, .inr (.inl (0, tk10))), (369, .inr (.inl (0, od))), (370, .inr (.inl (0, be)))] h0 := K.mg K9 rfl rfl
        clear K9
        show j_V jP _ 272 67 lv [.int ((m_gives th sst (nI i)).1)] h9 _
        refine j_V.ri mt4_M mt4_67 ?_
        rw [show (m_qslack_l38 n th sst w x1 v2 (f + 1) i) = _ from ((if_pos c53_0).trans (rfl))]
        exact ⟨rfl, sd10, ot10, tk10, tm10, hd10, ho10, K⟩
      · replace c53_0 : ¬ (v2 < (m_price (m_toTheEnd n (m_puts w x1 10 ((gA w 201) + ((nI i) + 1))) 1))) := jd_gtn c53_0
        refine j_V.inL mt4_M mt4_56 (i := 3) (kl' := [(0, .ref 359), (1, .int x1), (2, .int v2), (3, .int ((nI i) + 1))]) (pcJ := 59) L rfl rfl rfl rfl (fun lv L => ?_)
        refine j_V.gto mt4_M mt4_59 (t := 38) rfl ?_
        rw [nI_one] at L
        rw [show (m_qslack_l38 n th sst w x1 v2 (f + 1) i) = _ from ((if_neg c53_0).trans (rfl))]
        exact ih (i + 1)  (by omega) hd10 ho10 L K
def m_qslack (n : Nat) (th : Int32) (sst : Int32) (w : List Int32) (x1 : Int32) : Int32 × Int32 × Int32 := (if (m_isTrain w x1) = 0 then (((m_refuse th sst 2).1), ((m_refuse th sst 2).2.1), ((m_refuse th sst 2).2.2)) else (if (m_of w x1 6) = 3 then (((m_refuse th sst 4).1), ((m_refuse th sst 4).2.1), ((m_refuse th sst 4).2.2)) else (m_qslack_l38 n th sst w x1 (m_price (m_toTheEnd n w 1)) 99 0)))
set_option maxRecDepth 1000000 in
theorem mt4_ok {u : Nat → Value} {n d : Nat} {h h0 : J_H} {th sst acs tm x1 : Int32} {w sd ot kp tk od be : List Int32} {I J : List Int32 → Prop} (H : m_Inv n I J) (H2 : m_Iv2 n I) (hI : I w) (hsd : sd.length = 602) (hot : ot.length = 602) (K : KN h [(359, .inl (10, [.int th, .ref 360, .ref 361, .ref 362, .ref 363, .ref 364, .ref 365, .ref 366, .ref 367, (u 9), .int sst, (u 11), (u 12), .int acs, (u 14), (u 15), (u 16), (u 17), (u 18), (u 19), (u 20), (u 21), .ref 368, .int tm, .ref 369, .ref 370, .ref 371, (u 27)])), (360, .inr (.inl (0, w))), (362, .inr (.inl (0, sd))), (363, .inr (.inl (0, ot))), (364, .inr (.inl (0, kp))), (368, .inr (.inl (0, tk))), (369, .inr (.inl (0, od))), (370, .inr (.inl (0, be)))] h0) : j_V jP d 272 0 (lv_args 0 [.ref 359, .int x1]) [] h (fun rv h' => rv = some (.int (m_qslack n th sst w x1).1) ∧ ∃ (sd' ot' tk' : List Int32) (tm' : Int32), sd'.length = 602 ∧ ot'.length = 602 ∧ KN h' [(359, .inl (10, [.int (m_qslack n th sst w x1).2.1, .ref 360, .ref 361, .ref 362, .ref 363, .ref 364, .ref 365, .ref 366, .ref 367, (u 9), .int (m_qslack n th sst w x1).2.2, (u 11), (u 12), .int acs, (u 14), (u 15), (u 16), (u 17), (u 18), (u 19), (u 20), (u 21), .ref 368, .int tm', .ref 369, .ref 370, .ref 371, (u 27)])), (360, .inr (.inl (0, w))), (362, .inr (.inl (0, sd'))), (363, .inr (.inl (0, ot'))), (364, .inr (.inl (0, kp))), (368, .inr (.inl (0, tk'))), (369, .inr (.inl (0, od))), (370, .inr (.inl (0, be)))] h0) := by
  show j_V jP d 272 0 [(0, .ref 359), (1, .int x1)] [] h _
  obtain ⟨lv, elv, L⟩ : ∃ lv, lv = [(0, .ref 359), (1, .int x1)] ∧ LK lv [(0, .ref 359), (1, .int x1)] := ⟨_, rfl, LK.rf⟩
  rw [← elv]
  clear elv
  refine j_V.ldL mt4_M mt4_0 rfl (i := 0) (kd := 2) (v := .ref 359) (pcJ := 1) rfl L rfl rfl rfl ?_
  refine j_V.ldL mt4_M mt4_1 rfl (i := 1) (kd := 0) (v := .int x1) (pcJ := 2) rfl L rfl rfl rfl ?_
  refine j_V.cl mt4_M mt4_2 rfl (md := 3) (mj := 173) rfl (by decide) md0_M (As := [.ref 359, .int x1]) (rest := []) (jk_spl3 (K.at rfl) rfl rfl rfl (Nat.le_of_ble_eq_true rfl) (Nat.le_of_ble_eq_true rfl)) (fun d => md0_ok (u := fun j => [.int th, .ref 360, .ref 361, .ref 362, .ref 363, .ref 364, .ref 365, .ref 366, .ref 367, (u 9), .int sst, (u 11), (u 12), .int acs, (u 14), (u 15), (u 16), (u 17), (u 18), (u 19), (u 20), (u 21), .ref 368, .int tm, .ref 369, .ref 370, .ref 371, (u 27)].getD j .null) (K.fi [359, 360] rfl rfl)) ?_
  rintro r hz ⟨rfl, ez⟩
  rw [ez]
  clear ez
  show j_V jP _ 272 5 lv [.int (m_isTrain w x1)] h _
  refine j_V.ifc mt4_M mt4_5 (t := 14) rfl (fun c5_0 => ?_) (fun c5_0 => ?_)
  · replace c5_0 : ¬ ((m_isTrain w x1) = 0) := jd_ne c5_0
    refine j_V.ldL mt4_M mt4_14 rfl (i := 0) (kd := 2) (v := .ref 359) (pcJ := 15) rfl L rfl rfl rfl ?_
    refine j_V.ldL mt4_M mt4_15 rfl (i := 1) (kd := 0) (v := .int x1) (pcJ := 16) rfl L rfl rfl rfl ?_
    refine j_V.one mt4_M mt4_16 (by decide) (pcJ := 18) (stJ := [.int 6, .int x1, .ref 359]) rfl ?_
    refine j_V.cl mt4_M mt4_18 rfl (md := 3) (mj := 178) rfl (by decide) ma3_M (As := [.ref 359, .int x1, .int 6]) (rest := []) (jk_spl3 (K.at rfl) rfl rfl rfl (Nat.le_of_ble_eq_true rfl) (Nat.le_of_ble_eq_true rfl)) (fun d => ma3_ok (u := fun j => [.int th, .ref 360, .ref 361, .ref 362, .ref 363, .ref 364, .ref 365, .ref 366, .ref 367, (u 9), .int sst, (u 11), (u 12), .int acs, (u 14), (u 15), (u 16), (u 17), (u 18), (u 19), (u 20), (u 21), .ref 368, .int tm, .ref 369, .ref 370, .ref 371, (u 27)].getD j .null) (K.fi [359, 360] rfl rfl)) ?_
    rintro r hz ⟨rfl, ez⟩
    rw [ez]
    clear ez
    show j_V jP _ 272 21 lv [.int (m_of w x1 6)] h _
    refine j_V.one mt4_M mt4_21 (by decide) (pcJ := 22) (stJ := [.int 3, .int (m_of w x1 6)]) rfl ?_
    refine j_V.icmp mt4_M mt4_22 (t := 31) rfl (fun c22_1 => ?_) (fun c22_1 => ?_)
    · replace c22_1 : ¬ ((m_of w x1 6) = 3) := jd_ne c22_1
      refine j_V.ldL mt4_M mt4_31 rfl (i := 0) (kd := 2) (v := .ref 359) (pcJ := 32) rfl L rfl rfl rfl ?_
      refine j_V.cl mt4_M mt4_32 rfl (md := 3) (mj := 269) rfl (by decide) mt1_M (As := [.ref 359]) (rest := []) (jk_spl3 (K.at rfl) rfl rfl rfl (Nat.le_of_ble_eq_true rfl) (Nat.le_of_ble_eq_true rfl)) (fun d => mt1_ok (u := u) H H2 hI hsd hot  K) ?_
      rintro r h9 ⟨rfl, sd11, ot11, tk11, tm11, hd11, ho11, K⟩
      show j_V jP _ 272 35 lv [.int (m_price (m_toTheEnd n w 1))] h9 _
      refine j_V.stL mt4_M mt4_35 rfl (i := 2) (kd := 0) (kl' := [(0, .ref 359), (1, .int x1), (2, .int (m_price (m_toTheEnd n w 1)))]) (pcJ := 36) rfl L rfl (by decide) rfl rfl rfl (fun lv L => ?_)
      refine j_V.one mt4_M mt4_36 (by decide) (pcJ := 37) (stJ := [.int 0]) rfl ?_
      refine j_V.stL mt4_M mt4_37 rfl (i := 3) (kd := 0) (kl' := [(0, .ref 359), (1, .int x1), (2, .int (m_price (m_toTheEnd n w 1))), (3, .int 0)]) (pcJ := 38) rfl L rfl (by decide) rfl rfl rfl (fun lv L => ?_)
      have L : LK lv [(0, .ref 359), (1, .int x1), (2, .int (m_price (m_toTheEnd n w 1))), (3, .int (nI 0))] := L
      rw [show (m_qslack n th sst w x1) = (m_qslack_l38 n th sst w x1 (m_price (m_toTheEnd n w 1)) 99 0) from ((if_neg c5_0).trans ((if_neg c22_1).trans (rfl)))]
      exact mt4_ok_l38 H H2 hI c5_0 99 0  rfl hd11 ho11 L K
    · replace c22_1 : (m_of w x1 6) = 3 := jd_nen c22_1
      refine j_V.ldL mt4_M mt4_25 rfl (i := 0) (kd := 2) (v := .ref 359) (pcJ := 26) rfl L rfl rfl rfl ?_
      refine j_V.one mt4_M mt4_26 (by decide) (pcJ := 27) (stJ := [.int 4, .ref 359]) rfl ?_
      refine j_V.cl mt4_M mt4_27 rfl (md := 3) (mj := 169) rfl (by decide) mo0_M (As := [.ref 359, .int 4]) (rest := []) (jk_spl3 (K.at rfl) rfl rfl rfl (Nat.le_of_ble_eq_true rfl) (Nat.le_of_ble_eq_true rfl)) (fun d => mo0_ok (u := fun j => [.int th, .ref 360, .ref 361, .ref 362, .ref 363, .ref 364, .ref 365, .ref 366, .ref 367, (u 9), .int sst, (u 11), (u 12), .int acs, (u 14), (u 15), (u 16), (u 17), (u 18), (u 19), (u 20), (u 21), .ref 368, .int tm, .ref 369, .ref 370, .ref 371, (u 27)].getD j .null) (K.fi [359] rfl rfl)) ?_
      rintro r h9 ⟨rfl, K9⟩
      have K : KN h9 [(359, .inl (10, [.int ((m_refuse th sst 4).2.1), .ref 360, .ref 361, .ref 362, .ref 363, .ref 364, .ref 365, .ref 366, .ref 367, (u 9), .int ((m_refuse th sst 4).2.2), (u 11), (u 12), .int acs, (u 14), (u 15), (u 16), (u 17), (u 18), (u 19), (u 20), (u 21), .ref 368, .int tm, .ref 369, .ref 370, .ref 371, (u 27)])), (360, .inr (.inl (0, w))), (362, .inr (.inl (0, sd))), (363, .inr (.inl (0, ot))), (364, .inr (.inl (0, kp))), (368, .inr (.inl (0, tk))), (369, .inr (.inl (0, od))), (370, .inr (.inl (0, be)))] h0 := K.mg K9 rfl rfl
      clear K9
      show j_V jP _ 272 30 lv [.int ((m_refuse th sst 4).1)] h9 _
      refine j_V.ri mt4_M mt4_30 ?_
      rw [show (m_qslack n th sst w x1) = _ from ((if_neg c5_0).trans ((if_pos c22_1).trans (rfl)))]
      exact ⟨rfl, sd, ot, tk, tm, hsd, hot, K⟩
  · replace c5_0 : (m_isTrain w x1) = 0 := jd_nen c5_0
    refine j_V.ldL mt4_M mt4_8 rfl (i := 0) (kd := 2) (v := .ref 359) (pcJ := 9) rfl L rfl rfl rfl ?_
    refine j_V.one mt4_M mt4_9 (by decide) (pcJ := 10) (stJ := [.int 2, .ref 359]) rfl ?_
    refine j_V.cl mt4_M mt4_10 rfl (md := 3) (mj := 169) rfl (by decide) mo0_M (As := [.ref 359, .int 2]) (rest := []) (jk_spl3 (K.at rfl) rfl rfl rfl (Nat.le_of_ble_eq_true rfl) (Nat.le_of_ble_eq_true rfl)) (fun d => mo0_ok (u := fun j => [.int th, .ref 360, .ref 361, .ref 362, .ref 363, .ref 364, .ref 365, .ref 366, .ref 367, (u 9), .int sst, (u 11), (u 12), .int acs, (u 14), (u 15), (u 16), (u 17), (u 18), (u 19), (u 20), (u 21), .ref 368, .int tm, .ref 369, .ref 370, .ref 371, (u 27)].getD j .null) (K.fi [359] rfl rfl)) ?_
    rintro r h9 ⟨rfl, K9⟩
    have K : KN h9 [(359, .inl (10, [.int ((m_refuse th sst 2).2.1), .ref 360, .ref 361, .ref 362, .ref 363, .ref 364, .ref 365, .ref 366, .ref 367, (u 9), .int ((m_refuse th sst 2).2.2), (u 11), (u 12), .int acs, (u 14), (u 15), (u 16), (u 17), (u 18), (u 19), (u 20), (u 21), .ref 368, .int tm, .ref 369, .ref 370, .ref 371, (u 27)])), (360, .inr (.inl (0, w))), (362, .inr (.inl (0, sd))), (363, .inr (.inl (0, ot))), (364, .inr (.inl (0, kp))), (368, .inr (.inl (0, tk))), (369, .inr (.inl (0, od))), (370, .inr (.inl (0, be)))] h0 := K.mg K9 rfl rfl
    clear K9
    show j_V jP _ 272 13 lv [.int ((m_refuse th sst 2).1)] h9 _
    refine j_V.ri mt4_M mt4_13 ?_
    rw [show (m_qslack n th sst w x1) = _ from ((if_pos c5_0).trans (rfl))]
    exact ⟨rfl, sd, ot, tk, tm, hsd, hot, K⟩
set_option maxRecDepth 100000 in
theorem mt5_M : j_meth jP 273 = some (yX10_swap, cX10_swap, 7, (some .int), 2, false, 10) := rfl
set_option maxRecDepth 100000 in
theorem mt5_0 : j_code jP 273 0 = some (.aload_n 0) := rfl
set_option maxRecDepth 100000 in
theorem mt5_1 : j_code jP 273 1 = some (.iload_n 1) := rfl
set_option maxRecDepth 100000 in
theorem mt5_2 : j_code jP 273 2 = some (.invokevirtual 310) := rfl
set_option maxRecDepth 100000 in
theorem mt5_5 : j_code jP 273 5 = some (.ifCond .eq 11) := rfl
set_option maxRecDepth 100000 in
theorem mt5_8 : j_code jP 273 8 = some (.aload_n 0) := rfl
set_option maxRecDepth 100000 in
theorem mt5_9 : j_code jP 273 9 = some (.iload_n 2) := rfl
set_option maxRecDepth 100000 in
theorem mt5_10 : j_code jP 273 10 = some (.invokevirtual 310) := rfl
set_option maxRecDepth 100000 in
theorem mt5_13 : j_code jP 273 13 = some (.ifCond .ne 9) := rfl
set_option maxRecDepth 100000 in
theorem mt5_16 : j_code jP 273 16 = some (.aload_n 0) := rfl
set_option maxRecDepth 100000 in
theorem mt5_17 : j_code jP 273 17 = some (.iconst 2) := rfl
set_option maxRecDepth 100000 in
theorem mt5_18 : j_code jP 273 18 = some (.invokevirtual 179) := rfl
set_option maxRecDepth 100000 in
theorem mt5_21 : j_code jP 273 21 = some (.ireturn) := rfl
set_option maxRecDepth 100000 in
theorem mt5_22 : j_code jP 273 22 = some (.iload_n 1) := rfl
set_option maxRecDepth 100000 in
theorem mt5_23 : j_code jP 273 23 = some (.iload_n 2) := rfl
set_option maxRecDepth 100000 in
theorem mt5_24 : j_code jP 273 24 = some (.if_icmp .ne 9) := rfl
set_option maxRecDepth 100000 in
theorem mt5_27 : j_code jP 273 27 = some (.aload_n 0) := rfl
set_option maxRecDepth 100000 in
theorem mt5_28 : j_code jP 273 28 = some (.iconst 4) := rfl
set_option maxRecDepth 100000 in
theorem mt5_29 : j_code jP 273 29 = some (.invokevirtual 179) := rfl
set_option maxRecDepth 100000 in
theorem mt5_32 : j_code jP 273 32 = some (.ireturn) := rfl
set_option maxRecDepth 100000 in
theorem mt5_33 : j_code jP 273 33 = some (.aload_n 0) := rfl
set_option maxRecDepth 100000 in
theorem mt5_34 : j_code jP 273 34 = some (.invokevirtual 347) := rfl
set_option maxRecDepth 100000 in
theorem mt5_37 : j_code jP 273 37 = some (.istore_n 3) := rfl
set_option maxRecDepth 100000 in
theorem mt5_38 : j_code jP 273 38 = some (.aload_n 0) := rfl
set_option maxRecDepth 100000 in
theorem mt5_39 : j_code jP 273 39 = some (.getfield 7) := rfl
set_option maxRecDepth 100000 in
theorem mt5_42 : j_code jP 273 42 = some (.aload_n 0) := rfl
set_option maxRecDepth 100000 in
theorem mt5_43 : j_code jP 273 43 = some (.getfield 16) := rfl
set_option maxRecDepth 100000 in
theorem mt5_46 : j_code jP 273 46 = some (.invokestatic 188) := rfl
set_option maxRecDepth 100000 in
theorem mt5_49 : j_code jP 273 49 = some (.aload_n 0) := rfl
set_option maxRecDepth 100000 in
theorem mt5_50 : j_code jP 273 50 = some (.iload_n 1) := rfl
set_option maxRecDepth 100000 in
theorem mt5_51 : j_code jP 273 51 = some (.invokevirtual 317) := rfl
set_option maxRecDepth 100000 in
theorem mt5_54 : j_code jP 273 54 = some (.istore 4) := rfl
set_option maxRecDepth 100000 in
theorem mt5_56 : j_code jP 273 56 = some (.aload_n 0) := rfl
set_option maxRecDepth 100000 in
theorem mt5_57 : j_code jP 273 57 = some (.iload_n 2) := rfl
set_option maxRecDepth 100000 in
theorem mt5_58 : j_code jP 273 58 = some (.invokevirtual 317) := rfl
set_option maxRecDepth 100000 in
theorem mt5_61 : j_code jP 273 61 = some (.istore 5) := rfl
set_option maxRecDepth 100000 in
theorem mt5_63 : j_code jP 273 63 = some (.aload_n 0) := rfl
set_option maxRecDepth 100000 in
theorem mt5_64 : j_code jP 273 64 = some (.getfield 7) := rfl
set_option maxRecDepth 100000 in
theorem mt5_67 : j_code jP 273 67 = some (.sipush 196) := rfl
set_option maxRecDepth 100000 in
theorem mt5_70 : j_code jP 273 70 = some (.iload 4) := rfl
set_option maxRecDepth 100000 in
theorem mt5_72 : j_code jP 273 72 = some (.iadd) := rfl
set_option maxRecDepth 100000 in
theorem mt5_73 : j_code jP 273 73 = some (.iload_n 2) := rfl
set_option maxRecDepth 100000 in
theorem mt5_74 : j_code jP 273 74 = some (.iastore) := rfl
set_option maxRecDepth 100000 in
theorem mt5_75 : j_code jP 273 75 = some (.aload_n 0) := rfl
set_option maxRecDepth 100000 in
theorem mt5_76 : j_code jP 273 76 = some (.getfield 7) := rfl
set_option maxRecDepth 100000 in
theorem mt5_79 : j_code jP 273 79 = some (.sipush 196) := rfl
set_option maxRecDepth 100000 in
theorem mt5_82 : j_code jP 273 82 = some (.iload 5) := rfl
set_option maxRecDepth 100000 in
theorem mt5_84 : j_code jP 273 84 = some (.iadd) := rfl
set_option maxRecDepth 100000 in
theorem mt5_85 : j_code jP 273 85 = some (.iload_n 1) := rfl
set_option maxRecDepth 100000 in
theorem mt5_86 : j_code jP 273 86 = some (.iastore) := rfl
set_option maxRecDepth 100000 in
theorem mt5_87 : j_code jP 273 87 = some (.aload_n 0) := rfl
set_option maxRecDepth 100000 in
theorem mt5_88 : j_code jP 273 88 = some (.invokevirtual 341) := rfl
set_option maxRecDepth 100000 in
theorem mt5_91 : j_code jP 273 91 = some (.istore 6) := rfl
set_option maxRecDepth 100000 in
theorem mt5_93 : j_code jP 273 93 = some (.aload_n 0) := rfl
set_option maxRecDepth 100000 in
theorem mt5_94 : j_code jP 273 94 = some (.iload_n 3) := rfl
set_option maxRecDepth 100000 in
theorem mt5_95 : j_code jP 273 95 = some (.iload 6) := rfl
set_option maxRecDepth 100000 in
theorem mt5_97 : j_code jP 273 97 = some (.isub) := rfl
set_option maxRecDepth 100000 in
theorem mt5_98 : j_code jP 273 98 = some (.invokevirtual 329) := rfl
set_option maxRecDepth 100000 in
theorem mt5_101 : j_code jP 273 101 = some (.ireturn) := rfl
def m_qswap (n : Nat) (th : Int32) (sst : Int32) (w : List Int32) (x1 : Int32) (x2 : Int32) : Int32 × Int32 × Int32 := (if (m_isTrain w x1) = 0 then (((m_refuse th sst 2).1), ((m_refuse th sst 2).2.1), ((m_refuse th sst 2).2.2)) else (if (m_isTrain w x2) = 0 then (((m_refuse th sst 2).1), ((m_refuse th sst 2).2.1), ((m_refuse th sst 2).2.2)) else (if x1 = x2 then (((m_refuse th sst 4).1), ((m_refuse th sst 4).2.1), ((m_refuse th sst 4).2.2)) else (((m_gives th sst ((m_price (m_toTheEnd n w 1)) - (m_price (m_toTheEnd n (sA (sA w (196 + (m_rankOf w x1)) x2) (196 + (m_rankOf w x2)) x1) 1)))).1), ((m_gives th sst ((m_price (m_toTheEnd n w 1)) - (m_price (m_toTheEnd n (sA (sA w (196 + (m_rankOf w x1)) x2) (196 + (m_rankOf w x2)) x1) 1)))).2.1), ((m_gives th sst ((m_price (m_toTheEnd n w 1)) - (m_price (m_toTheEnd n (sA (sA w (196 + (m_rankOf w x1)) x2) (196 + (m_rankOf w x2)) x1) 1)))).2.2)))))
set_option maxRecDepth 1000000 in
theorem mt5_ok {u : Nat → Value} {n d : Nat} {h h0 : J_H} {th sst acs tm x1 x2 : Int32} {w sd ot kp tk od be : List Int32} {I J : List Int32 → Prop} (H : m_Inv n I J) (H2 : m_Iv2 n I) (hI : I w) (hsd : sd.length = 602) (hot : ot.length = 602) (K : KN h [(359, .inl (10, [.int th, .ref 360, .ref 361, .ref 362, .ref 363, .ref 364, .ref 365, .ref 366, .ref 367, (u 9), .int sst, (u 11), (u 12), .int acs, (u 14), (u 15), (u 16), (u 17), (u 18), (u 19), (u 20), (u 21), .ref 368, .int tm, .ref 369, .ref 370, .ref 371, (u 27)])), (360, .inr (.inl (0, w))), (362, .inr (.inl (0, sd))), (363, .inr (.inl (0, ot))), (364, .inr (.inl (0, kp))), (368, .inr (.inl (0, tk))), (369, .inr (.inl (0, od))), (370, .inr (.inl (0, be)))] h0) : j_V jP d 273 0 (lv_args 0 [.ref 359, .int x1, .int x2]) [] h (fun rv h' => rv = some (.int (m_qswap n th sst w x1 x2).1) ∧ ∃ (sd' ot' tk' : List Int32) (tm' : Int32), sd'.length = 602 ∧ ot'.length = 602 ∧ KN h' [(359, .inl (10, [.int (m_qswap n th sst w x1 x2).2.1, .ref 360, .ref 361, .ref 362, .ref 363, .ref 364, .ref 365, .ref 366, .ref 367, (u 9), .int (m_qswap n th sst w x1 x2).2.2, (u 11), (u 12), .int acs, (u 14), (u 15), (u 16), (u 17), (u 18), (u 19), (u 20), (u 21), .ref 368, .int tm', .ref 369, .ref 370, .ref 371, (u 27)])), (360, .inr (.inl (0, w))), (362, .inr (.inl (0, sd'))), (363, .inr (.inl (0, ot'))), (364, .inr (.inl (0, kp))), (368, .inr (.inl (0, tk'))), (369, .inr (.inl (0, od))), (370, .inr (.inl (0, be)))] h0) := by
  show j_V jP d 273 0 [(0, .ref 359), (1, .int x1), (2, .int x2)] [] h _
  obtain ⟨lv, elv, L⟩ : ∃ lv, lv = [(0, .ref 359), (1, .int x1), (2, .int x2)] ∧ LK lv [(0, .ref 359), (1, .int x1), (2, .int x2)] := ⟨_, rfl, LK.rf⟩
  rw [← elv]
  clear elv
  refine j_V.ldL mt5_M mt5_0 rfl (i := 0) (kd := 2) (v := .ref 359) (pcJ := 1) rfl L rfl rfl rfl ?_
  refine j_V.ldL mt5_M mt5_1 rfl (i := 1) (kd := 0) (v := .int x1) (pcJ := 2) rfl L rfl rfl rfl ?_
  refine j_V.cl mt5_M mt5_2 rfl (md := 3) (mj := 173) rfl (by decide) md0_M (As := [.ref 359, .int x1]) (rest := []) (jk_spl3 (K.at rfl) rfl rfl rfl (Nat.le_of_ble_eq_true rfl) (Nat.le_of_ble_eq_true rfl)) (fun d => md0_ok (u := fun j => [.int th, .ref 360, .ref 361, .ref 362, .ref 363, .ref 364, .ref 365, .ref 366, .ref 367, (u 9), .int sst, (u 11), (u 12), .int acs, (u 14), (u 15), (u 16), (u 17), (u 18), (u 19), (u 20), (u 21), .ref 368, .int tm, .ref 369, .ref 370, .ref 371, (u 27)].getD j .null) (K.fi [359, 360] rfl rfl)) ?_
  rintro r hz ⟨rfl, ez⟩
  rw [ez]
  clear ez
  show j_V jP _ 273 5 lv [.int (m_isTrain w x1)] h _
  refine j_V.ifc mt5_M mt5_5 (t := 16) rfl (fun c5_0 => ?_) (fun c5_0 => ?_)
  · replace c5_0 : (m_isTrain w x1) = 0 := jd_eq c5_0
    refine j_V.ldL mt5_M mt5_16 rfl (i := 0) (kd := 2) (v := .ref 359) (pcJ := 17) rfl L rfl rfl rfl ?_
    refine j_V.one mt5_M mt5_17 (by decide) (pcJ := 18) (stJ := [.int 2, .ref 359]) rfl ?_
    refine j_V.cl mt5_M mt5_18 rfl (md := 3) (mj := 169) rfl (by decide) mo0_M (As := [.ref 359, .int 2]) (rest := []) (jk_spl3 (K.at rfl) rfl rfl rfl (Nat.le_of_ble_eq_true rfl) (Nat.le_of_ble_eq_true rfl)) (fun d => mo0_ok (u := fun j => [.int th, .ref 360, .ref 361, .ref 362, .ref 363, .ref 364, .ref 365, .ref 366, .ref 367, (u 9), .int sst, (u 11), (u 12), .int acs, (u 14), (u 15), (u 16), (u 17), (u 18), (u 19), (u 20), (u 21), .ref 368, .int tm, .ref 369, .ref 370, .ref 371, (u 27)].getD j .null) (K.fi [359] rfl rfl)) ?_
    rintro r h9 ⟨rfl, K9⟩
    have K : KN h9 [(359, .inl (10, [.int ((m_refuse th sst 2).2.1), .ref 360, .ref 361, .ref 362, .ref 363, .ref 364, .ref 365, .ref 366, .ref 367, (u 9), .int ((m_refuse th sst 2).2.2), (u 11), (u 12), .int acs, (u 14), (u 15), (u 16), (u 17), (u 18), (u 19), (u 20), (u 21), .ref 368, .int tm, .ref 369, .ref 370, .ref 371, (u 27)])), (360, .inr (.inl (0, w))), (362, .inr (.inl (0, sd))), (363, .inr (.inl (0, ot))), (364, .inr (.inl (0, kp))), (368, .inr (.inl (0, tk))), (369, .inr (.inl (0, od))), (370, .inr (.inl (0, be)))] h0 := K.mg K9 rfl rfl
    clear K9
    show j_V jP _ 273 21 lv [.int ((m_refuse th sst 2).1)] h9 _
    refine j_V.ri mt5_M mt5_21 ?_
    rw [show (m_qswap n th sst w x1 x2) = _ from ((if_pos c5_0).trans (rfl))]
    exact ⟨rfl, sd, ot, tk, tm, hsd, hot, K⟩
  · replace c5_0 : ¬ ((m_isTrain w x1) = 0) := jd_eqn c5_0
    refine j_V.ldL mt5_M mt5_8 rfl (i := 0) (kd := 2) (v := .ref 359) (pcJ := 9) rfl L rfl rfl rfl ?_
    refine j_V.ldL mt5_M mt5_9 rfl (i := 2) (kd := 0) (v := .int x2) (pcJ := 10) rfl L rfl rfl rfl ?_
    refine j_V.cl mt5_M mt5_10 rfl (md := 3) (mj := 173) rfl (by decide) md0_M (As := [.ref 359, .int x2]) (rest := []) (jk_spl3 (K.at rfl) rfl rfl rfl (Nat.le_of_ble_eq_true rfl) (Nat.le_of_ble_eq_true rfl)) (fun d => md0_ok (u := fun j => [.int th, .ref 360, .ref 361, .ref 362, .ref 363, .ref 364, .ref 365, .ref 366, .ref 367, (u 9), .int sst, (u 11), (u 12), .int acs, (u 14), (u 15), (u 16), (u 17), (u 18), (u 19), (u 20), (u 21), .ref 368, .int tm, .ref 369, .ref 370, .ref 371, (u 27)].getD j .null) (K.fi [359, 360] rfl rfl)) ?_
    rintro r hz ⟨rfl, ez⟩
    rw [ez]
    clear ez
    show j_V jP _ 273 13 lv [.int (m_isTrain w x2)] h _
    refine j_V.ifc mt5_M mt5_13 (t := 22) rfl (fun c13_1 => ?_) (fun c13_1 => ?_)
    · replace c13_1 : ¬ ((m_isTrain w x2) = 0) := jd_ne c13_1
      refine j_V.ldL mt5_M mt5_22 rfl (i := 1) (kd := 0) (v := .int x1) (pcJ := 23) rfl L rfl rfl rfl ?_
      refine j_V.ldL mt5_M mt5_23 rfl (i := 2) (kd := 0) (v := .int x2) (pcJ := 24) rfl L rfl rfl rfl ?_
      refine j_V.icmp mt5_M mt5_24 (t := 33) rfl (fun c24_2 => ?_) (fun c24_2 => ?_)
      · replace c24_2 : ¬ (x1 = x2) := jd_ne c24_2
        refine j_V.ldL mt5_M mt5_33 rfl (i := 0) (kd := 2) (v := .ref 359) (pcJ := 34) rfl L rfl rfl rfl ?_
        refine j_V.cl mt5_M mt5_34 rfl (md := 3) (mj := 269) rfl (by decide) mt1_M (As := [.ref 359]) (rest := []) (jk_spl3 (K.at rfl) rfl rfl rfl (Nat.le_of_ble_eq_true rfl) (Nat.le_of_ble_eq_true rfl)) (fun d => mt1_ok (u := u) H H2 hI hsd hot  K) ?_
        rintro r h9 ⟨rfl, sd12, ot12, tk12, tm12, hd12, ho12, K⟩
        show j_V jP _ 273 37 lv [.int (m_price (m_toTheEnd n w 1))] h9 _
        refine j_V.stL mt5_M mt5_37 rfl (i := 3) (kd := 0) (kl' := [(0, .ref 359), (1, .int x1), (2, .int x2), (3, .int (m_price (m_toTheEnd n w 1)))]) (pcJ := 38) rfl L rfl (by decide) rfl rfl rfl (fun lv L => ?_)
        refine j_V.ldL mt5_M mt5_38 rfl (i := 0) (kd := 2) (v := .ref 359) (pcJ := 39) rfl L rfl rfl rfl ?_
        refine j_V.getK mt5_M mt5_39 (ci := 10) (j := 1) rfl K rfl rfl ?_
        refine j_V.ldL mt5_M mt5_42 rfl (i := 0) (kd := 2) (v := .ref 359) (pcJ := 43) rfl L rfl rfl rfl ?_
        refine j_V.getK mt5_M mt5_43 (ci := 10) (j := 3) rfl K rfl rfl ?_
        refine j_V.cl mt5_M mt5_46 rfl (md := 2) (mj := 201) rfl (by decide) mi2_M (As := [.ref 360, .ref 362]) (rest := []) (jk_spl2 rfl rfl (Nat.le_of_ble_eq_true rfl) (Nat.le_of_ble_eq_true rfl)) (fun d => mi2_ok (K.fi [360, 362] rfl rfl)) ?_
        rintro r h9 ⟨rfl, K9⟩
        have K : KN h9 [(359, .inl (10, [.int th, .ref 360, .ref 361, .ref 362, .ref 363, .ref 364, .ref 365, .ref 366, .ref 367, (u 9), .int sst, (u 11), (u 12), .int acs, (u 14), (u 15), (u 16), (u 17), (u 18), (u 19), (u 20), (u 21), .ref 368, .int tm12, .ref 369, .ref 370, .ref 371, (u 27)])), (360, .inr (.inl (0, w))), (362, .inr (.inl (0, ((m_copies w sd12))))), (363, .inr (.inl (0, ot12))), (364, .inr (.inl (0, kp))), (368, .inr (.inl (0, tk12))), (369, .inr (.inl (0, od))), (370, .inr (.inl (0, be)))] h0 := K.mg K9 rfl rfl
        clear K9
        show j_V jP _ 273 49 lv [] h9 _
        rw [m_cp (H.I1 _ hI).1 hd12] at K
        refine j_V.ldL mt5_M mt5_49 rfl (i := 0) (kd := 2) (v := .ref 359) (pcJ := 50) rfl L rfl rfl rfl ?_
        refine j_V.ldL mt5_M mt5_50 rfl (i := 1) (kd := 0) (v := .int x1) (pcJ := 51) rfl L rfl rfl rfl ?_
        refine j_V.cl mt5_M mt5_51 rfl (md := 3) (mj := 238) rfl (by decide) mr6_M (As := [.ref 359, .int x1]) (rest := []) (jk_spl3 (K.at rfl) rfl rfl rfl (Nat.le_of_ble_eq_true rfl) (Nat.le_of_ble_eq_true rfl)) (fun d => mr6_ok (u := fun j => [.int th, .ref 360, .ref 361, .ref 362, .ref 363, .ref 364, .ref 365, .ref 366, .ref 367, (u 9), .int sst, (u 11), (u 12), .int acs, (u 14), (u 15), (u 16), (u 17), (u 18), (u 19), (u 20), (u 21), .ref 368, .int tm12, .ref 369, .ref 370, .ref 371, (u 27)].getD j .null) (H.RK _ _ hI c5_0) (K.fi [359, 360] rfl rfl)) ?_
        rintro r hz ⟨rfl, ez⟩
        rw [ez]
        clear ez
        show j_V jP _ 273 54 lv [.int (m_rankOf w x1)] h9 _
        refine j_V.stL mt5_M mt5_54 rfl (i := 4) (kd := 0) (kl' := [(0, .ref 359), (1, .int x1), (2, .int x2), (3, .int (m_price (m_toTheEnd n w 1))), (4, .int (m_rankOf w x1))]) (pcJ := 56) rfl L rfl (by decide) rfl rfl rfl (fun lv L => ?_)
        refine j_V.ldL mt5_M mt5_56 rfl (i := 0) (kd := 2) (v := .ref 359) (pcJ := 57) rfl L rfl rfl rfl ?_
        refine j_V.ldL mt5_M mt5_57 rfl (i := 2) (kd := 0) (v := .int x2) (pcJ := 58) rfl L rfl rfl rfl ?_
        refine j_V.cl mt5_M mt5_58 rfl (md := 3) (mj := 238) rfl (by decide) mr6_M (As := [.ref 359, .int x2]) (rest := []) (jk_spl3 (K.at rfl) rfl rfl rfl (Nat.le_of_ble_eq_true rfl) (Nat.le_of_ble_eq_true rfl)) (fun d => mr6_ok (u := fun j => [.int th, .ref 360, .ref 361, .ref 362, .ref 363, .ref 364, .ref 365, .ref 366, .ref 367, (u 9), .int sst, (u 11), (u 12), .int acs, (u 14), (u 15), (u 16), (u 17), (u 18), (u 19), (u 20), (u 21), .ref 368, .int tm12, .ref 369, .ref 370, .ref 371, (u 27)].getD j .null) (H.RK _ _ hI c13_1) (K.fi [359, 360] rfl rfl)) ?_
        rintro r hz ⟨rfl, ez⟩
        rw [ez]
        clear ez
        show j_V jP _ 273 61 lv [.int (m_rankOf w x2)] h9 _
        refine j_V.stL mt5_M mt5_61 rfl (i := 5) (kd := 0) (kl' := [(0, .ref 359), (1, .int x1), (2, .int x2), (3, .int (m_price (m_toTheEnd n w 1))), (4, .int (m_rankOf w x1)), (5, .int (m_rankOf w x2))]) (pcJ := 63) rfl L rfl (by decide) rfl rfl rfl (fun lv L => ?_)
        refine j_V.ldL mt5_M mt5_63 rfl (i := 0) (kd := 2) (v := .ref 359) (pcJ := 64) rfl L rfl rfl rfl ?_
        refine j_V.getK mt5_M mt5_64 (ci := 10) (j := 1) rfl K rfl rfl ?_
        refine j_V.one mt5_M mt5_67 (by decide) (pcJ := 70) (stJ := [.int 196, .ref 360]) rfl ?_
        refine j_V.ldL mt5_M mt5_70 rfl (i := 4) (kd := 0) (v := .int (m_rankOf w x1)) (pcJ := 72) rfl L rfl rfl rfl ?_
        refine j_V.one mt5_M mt5_72 (by decide) (pcJ := 73) (stJ := [.int (196 + (m_rankOf w x1)), .ref 360]) rfl ?_
        refine j_V.ldL mt5_M mt5_73 rfl (i := 2) (kd := 0) (v := .int x2) (pcJ := 74) rfl L rfl rfl rfl ?_
        refine j_V.isA mt5_M mt5_74 (k' := [(359, .inl (10, [.int th, .ref 360, .ref 361, .ref 362, .ref 363, .ref 364, .ref 365, .ref 366, .ref 367, (u 9), .int sst, (u 11), (u 12), .int acs, (u 14), (u 15), (u 16), (u 17), (u 18), (u 19), (u 20), (u 21), .ref 368, .int tm12, .ref 369, .ref 370, .ref 371, (u 27)])), (360, .inr (.inl (0, (sA w (196 + (m_rankOf w x1)) x2)))), (362, .inr (.inl (0, w))), (363, .inr (.inl (0, ot12))), (364, .inr (.inl (0, kp))), (368, .inr (.inl (0, tk12))), (369, .inr (.inl (0, od))), (370, .inr (.inl (0, be)))]) K rfl rfl (fun h K => ?_)
        refine j_V.ldL mt5_M mt5_75 rfl (i := 0) (kd := 2) (v := .ref 359) (pcJ := 76) rfl L rfl rfl rfl ?_
        refine j_V.getK mt5_M mt5_76 (ci := 10) (j := 1) rfl K rfl rfl ?_
        refine j_V.one mt5_M mt5_79 (by decide) (pcJ := 82) (stJ := [.int 196, .ref 360]) rfl ?_
        refine j_V.ldL mt5_M mt5_82 rfl (i := 5) (kd := 0) (v := .int (m_rankOf w x2)) (pcJ := 84) rfl L rfl rfl rfl ?_
        refine j_V.one mt5_M mt5_84 (by decide) (pcJ := 85) (stJ := [.int (196 + (m_rankOf w x2)), .ref 360]) rfl ?_
        refine j_V.ldL mt5_M mt5_85 rfl (i := 1) (kd := 0) (v := .int x1) (pcJ := 86) rfl L rfl rfl rfl ?_
        refine j_V.isA mt5_M mt5_86 (k' := [(359, .inl (10, [.int th, .ref 360, .ref 361, .ref 362, .ref 363, .ref 364, .ref 365, .ref 366, .ref 367, (u 9), .int sst, (u 11), (u 12), .int acs, (u 14), (u 15), (u 16), (u 17), (u 18), (u 19), (u 20), (u 21), .ref 368, .int tm12, .ref 369, .ref 370, .ref 371, (u 27)])), (360, .inr (.inl (0, (sA (sA w (196 + (m_rankOf w x1)) x2) (196 + (m_rankOf w x2)) x1)))), (362, .inr (.inl (0, w))), (363, .inr (.inl (0, ot12))), (364, .inr (.inl (0, kp))), (368, .inr (.inl (0, tk12))), (369, .inr (.inl (0, od))), (370, .inr (.inl (0, be)))]) K rfl rfl (fun h K => ?_)
        refine j_V.ldL mt5_M mt5_87 rfl (i := 0) (kd := 2) (v := .ref 359) (pcJ := 88) rfl L rfl rfl rfl ?_
        refine j_V.cl mt5_M mt5_88 rfl (md := 3) (mj := 232) rfl (by decide) ms1_M (As := [.ref 359]) (rest := []) (jk_spl3 (K.at rfl) rfl rfl rfl (Nat.le_of_ble_eq_true rfl) (Nat.le_of_ble_eq_true rfl)) (fun d => ms19_ok (u := fun j => [.int th, .ref 360, .ref 361, .ref 362, .ref 363, .ref 364, .ref 365, .ref 366, .ref 367, (u 9), .int sst, (u 11), (u 12), .int acs, (u 14), (u 15), (u 16), (u 17), (u 18), (u 19), (u 20), (u 21), .ref 368, .int tm12, .ref 369, .ref 370, .ref 371, (u 27)].getD j .null) H (H2.SW _ _ _ hI c5_0 c13_1 c24_2) ho12 (K.fi [359, 360, 363, 368] rfl rfl)) ?_
        rintro r h9 ⟨rfl, hI13, ot13, tk13, tm13, ho13, K9⟩
        have K : KN h9 [(359, .inl (10, [.int th, .ref 360, .ref 361, .ref 362, .ref 363, .ref 364, .ref 365, .ref 366, .ref 367, (u 9), .int sst, (u 11), (u 12), .int acs, (u 14), (u 15), (u 16), (u 17), (u 18), (u 19), (u 20), (u 21), .ref 368, .int tm13, .ref 369, .ref 370, .ref 371, (u 27)])), (360, .inr (.inl (0, (m_toTheEnd n (sA (sA w (196 + (m_rankOf w x1)) x2) (196 + (m_rankOf w x2)) x1) 1)))), (362, .inr (.inl (0, w))), (363, .inr (.inl (0, ot13))), (364, .inr (.inl (0, kp))), (368, .inr (.inl (0, tk13))), (369, .inr (.inl (0, od))), (370, .inr (.inl (0, be)))] h0 := K.mg K9 rfl rfl
        clear K9
        show j_V jP _ 273 91 lv [.int (m_price (m_toTheEnd n (sA (sA w (196 + (m_rankOf w x1)) x2) (196 + (m_rankOf w x2)) x1) 1))] h9 _
        refine j_V.stL mt5_M mt5_91 rfl (i := 6) (kd := 0) (kl' := [(0, .ref 359), (1, .int x1), (2, .int x2), (3, .int (m_price (m_toTheEnd n w 1))), (4, .int (m_rankOf w x1)), (5, .int (m_rankOf w x2)), (6, .int (m_price (m_toTheEnd n (sA (sA w (196 + (m_rankOf w x1)) x2) (196 + (m_rankOf w x2)) x1) 1)))]) (pcJ := 93) rfl L rfl (by decide) rfl rfl rfl (fun lv L => ?_)
        refine j_V.ldL mt5_M mt5_93 rfl (i := 0) (kd := 2) (v := .ref 359) (pcJ := 94) rfl L rfl rfl rfl ?_
        refine j_V.ldL mt5_M mt5_94 rfl (i := 3) (kd := 0) (v := .int (m_price (m_toTheEnd n w 1))) (pcJ := 95) rfl L rfl rfl rfl ?_
        refine j_V.ldL mt5_M mt5_95 rfl (i := 6) (kd := 0) (v := .int (m_price (m_toTheEnd n (sA (sA w (196 + (m_rankOf w x1)) x2) (196 + (m_rankOf w x2)) x1) 1))) (pcJ := 97) rfl L rfl rfl rfl ?_
        refine j_V.one mt5_M mt5_97 (by decide) (pcJ := 98) (stJ := [.int ((m_price (m_toTheEnd n w 1)) - (m_price (m_toTheEnd n (sA (sA w (196 + (m_rankOf w x1)) x2) (196 + (m_rankOf w x2)) x1) 1))), .ref 359]) rfl ?_
        refine j_V.cl mt5_M mt5_98 rfl (md := 3) (mj := 261) rfl (by decide) ms2_M (As := [.ref 359, .int ((m_price (m_toTheEnd n w 1)) - (m_price (m_toTheEnd n (sA (sA w (196 + (m_rankOf w x1)) x2) (196 + (m_rankOf w x2)) x1) 1)))]) (rest := []) (jk_spl3 (K.at rfl) rfl rfl rfl (Nat.le_of_ble_eq_true rfl) (Nat.le_of_ble_eq_true rfl)) (fun d => ms2_ok (u := fun j => [.int th, .ref 360, .ref 361, .ref 362, .ref 363, .ref 364, .ref 365, .ref 366, .ref 367, (u 9), .int sst, (u 11), (u 12), .int acs, (u 14), (u 15), (u 16), (u 17), (u 18), (u 19), (u 20), (u 21), .ref 368, .int tm13, .ref 369, .ref 370, .ref 371, (u 27)].getD j .null) (H.I1 _ hI13).1 (H.I1 _ hI).1 (K.fi [359, 360, 362] rfl rfl)) ?_
        rintro r h9 ⟨rfl, K9⟩
        have K : KN h9 [(359, .inl (10, [.int ((m_gives th sst ((m_price (m_toTheEnd n w 1)) - (m_price (m_toTheEnd n (sA (sA w (196 + (m_rankOf w x1)) x2) (196 + (m_rankOf w x2)) x1) 1)))).2.1), .ref 360, .ref 361, .ref 362, .ref 363, .ref 364, .ref 365, .ref 366, .ref 367, (u 9), .int ((m_gives th sst ((m_price (m_toTheEnd n w 1)) - (m_price (m_toTheEnd n (sA (sA w (196 + (m_rankOf w x1)) x2) (196 + (m_rankOf w x2)) x1) 1)))).2.2), (u 11), (u 12), .int acs, (u 14), (u 15), (u 16), (u 17), (u 18), (u 19), (u 20), (u 21), .ref 368, .int tm13, .ref 369, .ref 370, .ref 371, (u 27)])), (360, .inr (.inl (0, w))), (362, .inr (.inl (0, w))), (363, .inr (.inl (0, ot13))), (364, .inr (.inl (0, kp))), (368, .inr (.inl (0, tk13))), (369, .inr (.inl (0, od))), (370, .inr (.inl (0, be)))] h0 := K.mg K9 rfl rfl
        clear K9
        show j_V jP _ 273 101 lv [.int ((m_gives th sst ((m_price (m_toTheEnd n w 1)) - (m_price (m_toTheEnd n (sA (sA w (196 + (m_rankOf w x1)) x2) (196 + (m_rankOf w x2)) x1) 1)))).1)] h9 _
        refine j_V.ri mt5_M mt5_101 ?_
        rw [show (m_qswap n th sst w x1 x2) = _ from ((if_neg c5_0).trans ((if_neg c13_1).trans ((if_neg c24_2).trans (rfl))))]
        exact ⟨rfl, w, ot13, tk13, tm13, (H.I1 _ hI).1, ho13, K⟩
      · replace c24_2 : x1 = x2 := jd_nen c24_2
        refine j_V.ldL mt5_M mt5_27 rfl (i := 0) (kd := 2) (v := .ref 359) (pcJ := 28) rfl L rfl rfl rfl ?_
        refine j_V.one mt5_M mt5_28 (by decide) (pcJ := 29) (stJ := [.int 4, .ref 359]) rfl ?_
        refine j_V.cl mt5_M mt5_29 rfl (md := 3) (mj := 169) rfl (by decide) mo0_M (As := [.ref 359, .int 4]) (rest := []) (jk_spl3 (K.at rfl) rfl rfl rfl (Nat.le_of_ble_eq_true rfl) (Nat.le_of_ble_eq_true rfl)) (fun d => mo0_ok (u := fun j => [.int th, .ref 360, .ref 361, .ref 362, .ref 363, .ref 364, .ref 365, .ref 366, .ref 367, (u 9), .int sst, (u 11), (u 12), .int acs, (u 14), (u 15), (u 16), (u 17), (u 18), (u 19), (u 20), (u 21), .ref 368, .int tm, .ref 369, .ref 370, .ref 371, (u 27)].getD j .null) (K.fi [359] rfl rfl)) ?_
        rintro r h9 ⟨rfl, K9⟩
        have K : KN h9 [(359, .inl (10, [.int ((m_refuse th sst 4).2.1), .ref 360, .ref 361, .ref 362, .ref 363, .ref 364, .ref 365, .ref 366, .ref 367, (u 9), .int ((m_refuse th sst 4).2.2), (u 11), (u 12), .int acs, (u 14), (u 15), (u 16), (u 17), (u 18), (u 19), (u 20), (u 21), .ref 368, .int tm, .ref 369, .ref 370, .ref 371, (u 27)])), (360, .inr (.inl (0, w))), (362, .inr (.inl (0, sd))), (363, .inr (.inl (0, ot))), (364, .inr (.inl (0, kp))), (368, .inr (.inl (0, tk))), (369, .inr (.inl (0, od))), (370, .inr (.inl (0, be)))] h0 := K.mg K9 rfl rfl
        clear K9
        show j_V jP _ 273 32 lv [.int ((m_refuse th sst 4).1)] h9 _
        refine j_V.ri mt5_M mt5_32 ?_
        rw [show (m_qswap n th sst w x1 x2) = _ from ((if_neg c5_0).trans ((if_neg c13_1).trans ((if_pos c24_2).trans (rfl))))]
        exact ⟨rfl, sd, ot, tk, tm, hsd, hot, K⟩
    · replace c13_1 : (m_isTrain w x2) = 0 := jd_nen c13_1
      refine j_V.ldL mt5_M mt5_16 rfl (i := 0) (kd := 2) (v := .ref 359) (pcJ := 17) rfl L rfl rfl rfl ?_
      refine j_V.one mt5_M mt5_17 (by decide) (pcJ := 18) (stJ := [.int 2, .ref 359]) rfl ?_
      refine j_V.cl mt5_M mt5_18 rfl (md := 3) (mj := 169) rfl (by decide) mo0_M (As := [.ref 359, .int 2]) (rest := []) (jk_spl3 (K.at rfl) rfl rfl rfl (Nat.le_of_ble_eq_true rfl) (Nat.le_of_ble_eq_true rfl)) (fun d => mo0_ok (u := fun j => [.int th, .ref 360, .ref 361, .ref 362, .ref 363, .ref 364, .ref 365, .ref 366, .ref 367, (u 9), .int sst, (u 11), (u 12), .int acs, (u 14), (u 15), (u 16), (u 17), (u 18), (u 19), (u 20), (u 21), .ref 368, .int tm, .ref 369, .ref 370, .ref 371, (u 27)].getD j .null) (K.fi [359] rfl rfl)) ?_
      rintro r h9 ⟨rfl, K9⟩
      have K : KN h9 [(359, .inl (10, [.int ((m_refuse th sst 2).2.1), .ref 360, .ref 361, .ref 362, .ref 363, .ref 364, .ref 365, .ref 366, .ref 367, (u 9), .int ((m_refuse th sst 2).2.2), (u 11), (u 12), .int acs, (u 14), (u 15), (u 16), (u 17), (u 18), (u 19), (u 20), (u 21), .ref 368, .int tm, .ref 369, .ref 370, .ref 371, (u 27)])), (360, .inr (.inl (0, w))), (362, .inr (.inl (0, sd))), (363, .inr (.inl (0, ot))), (364, .inr (.inl (0, kp))), (368, .inr (.inl (0, tk))), (369, .inr (.inl (0, od))), (370, .inr (.inl (0, be)))] h0 := K.mg K9 rfl rfl
      clear K9
      show j_V jP _ 273 21 lv [.int ((m_refuse th sst 2).1)] h9 _
      refine j_V.ri mt5_M mt5_21 ?_
      rw [show (m_qswap n th sst w x1 x2) = _ from ((if_neg c5_0).trans ((if_pos c13_1).trans (rfl)))]
      exact ⟨rfl, sd, ot, tk, tm, hsd, hot, K⟩
set_option maxRecDepth 100000 in
theorem mt6_M : j_meth jP 278 = some (yX10_priceWith, cX10_priceWith, 4, (some .int), 2, false, 10) := rfl
set_option maxRecDepth 100000 in
theorem mt6_0 : j_code jP 278 0 = some (.aload_n 0) := rfl
set_option maxRecDepth 100000 in
theorem mt6_1 : j_code jP 278 1 = some (.getfield 7) := rfl
set_option maxRecDepth 100000 in
theorem mt6_4 : j_code jP 278 4 = some (.aload_n 0) := rfl
set_option maxRecDepth 100000 in
theorem mt6_5 : j_code jP 278 5 = some (.getfield 16) := rfl
set_option maxRecDepth 100000 in
theorem mt6_8 : j_code jP 278 8 = some (.invokestatic 188) := rfl
set_option maxRecDepth 100000 in
theorem mt6_11 : j_code jP 278 11 = some (.aload_n 0) := rfl
set_option maxRecDepth 100000 in
theorem mt6_12 : j_code jP 278 12 = some (.getfield 7) := rfl
set_option maxRecDepth 100000 in
theorem mt6_15 : j_code jP 278 15 = some (.bipush 8) := rfl
set_option maxRecDepth 100000 in
theorem mt6_17 : j_code jP 278 17 = some (.iload_n 1) := rfl
set_option maxRecDepth 100000 in
theorem mt6_18 : j_code jP 278 18 = some (.imul) := rfl
set_option maxRecDepth 100000 in
theorem mt6_19 : j_code jP 278 19 = some (.iconst 2) := rfl
set_option maxRecDepth 100000 in
theorem mt6_20 : j_code jP 278 20 = some (.iadd) := rfl
set_option maxRecDepth 100000 in
theorem mt6_21 : j_code jP 278 21 = some (.aload_n 0) := rfl
set_option maxRecDepth 100000 in
theorem mt6_22 : j_code jP 278 22 = some (.iload_n 1) := rfl
set_option maxRecDepth 100000 in
theorem mt6_23 : j_code jP 278 23 = some (.iconst 1) := rfl
set_option maxRecDepth 100000 in
theorem mt6_24 : j_code jP 278 24 = some (.invokevirtual 69) := rfl
set_option maxRecDepth 100000 in
theorem mt6_27 : j_code jP 278 27 = some (.iadd) := rfl
set_option maxRecDepth 100000 in
theorem mt6_28 : j_code jP 278 28 = some (.iload_n 2) := rfl
set_option maxRecDepth 100000 in
theorem mt6_29 : j_code jP 278 29 = some (.iastore) := rfl
set_option maxRecDepth 100000 in
theorem mt6_30 : j_code jP 278 30 = some (.aload_n 0) := rfl
set_option maxRecDepth 100000 in
theorem mt6_31 : j_code jP 278 31 = some (.getfield 7) := rfl
set_option maxRecDepth 100000 in
theorem mt6_34 : j_code jP 278 34 = some (.bipush 8) := rfl
set_option maxRecDepth 100000 in
theorem mt6_36 : j_code jP 278 36 = some (.iload_n 1) := rfl
set_option maxRecDepth 100000 in
theorem mt6_37 : j_code jP 278 37 = some (.imul) := rfl
set_option maxRecDepth 100000 in
theorem mt6_38 : j_code jP 278 38 = some (.iconst 1) := rfl
set_option maxRecDepth 100000 in
theorem mt6_39 : j_code jP 278 39 = some (.iadd) := rfl
set_option maxRecDepth 100000 in
theorem mt6_40 : j_code jP 278 40 = some (.dup2) := rfl
set_option maxRecDepth 100000 in
theorem mt6_41 : j_code jP 278 41 = some (.iaload) := rfl
set_option maxRecDepth 100000 in
theorem mt6_42 : j_code jP 278 42 = some (.iconst 1) := rfl
set_option maxRecDepth 100000 in
theorem mt6_43 : j_code jP 278 43 = some (.iadd) := rfl
set_option maxRecDepth 100000 in
theorem mt6_44 : j_code jP 278 44 = some (.iastore) := rfl
set_option maxRecDepth 100000 in
theorem mt6_45 : j_code jP 278 45 = some (.aload_n 0) := rfl
set_option maxRecDepth 100000 in
theorem mt6_46 : j_code jP 278 46 = some (.invokevirtual 341) := rfl
set_option maxRecDepth 100000 in
theorem mt6_49 : j_code jP 278 49 = some (.istore_n 3) := rfl
set_option maxRecDepth 100000 in
theorem mt6_50 : j_code jP 278 50 = some (.aload_n 0) := rfl
set_option maxRecDepth 100000 in
theorem mt6_51 : j_code jP 278 51 = some (.getfield 16) := rfl
set_option maxRecDepth 100000 in
theorem mt6_54 : j_code jP 278 54 = some (.aload_n 0) := rfl
set_option maxRecDepth 100000 in
theorem mt6_55 : j_code jP 278 55 = some (.getfield 7) := rfl
set_option maxRecDepth 100000 in
theorem mt6_58 : j_code jP 278 58 = some (.invokestatic 188) := rfl
set_option maxRecDepth 100000 in
theorem mt6_61 : j_code jP 278 61 = some (.iload_n 3) := rfl
set_option maxRecDepth 100000 in
theorem mt6_62 : j_code jP 278 62 = some (.ireturn) := rfl
set_option maxRecDepth 1000000 in
theorem mt6_ok {u : Nat → Value} {n d : Nat} {h h0 : J_H} {th sst acs tm x1 x2 : Int32} {w sd ot kp tk od be : List Int32} {I J : List Int32 → Prop} (H : m_Inv n I J) (H2 : m_Iv2 n I) (hI : I w) (hsd : sd.length = 602) (hot : ot.length = 602) (hP : I (m_addTrack w x1 x2)) (K : KN h [(359, .inl (10, [.int th, .ref 360, .ref 361, .ref 362, .ref 363, .ref 364, .ref 365, .ref 366, .ref 367, (u 9), .int sst, (u 11), (u 12), .int acs, (u 14), (u 15), (u 16), (u 17), (u 18), (u 19), (u 20), (u 21), .ref 368, .int tm, .ref 369, .ref 370, .ref 371, (u 27)])), (360, .inr (.inl (0, w))), (362, .inr (.inl (0, sd))), (363, .inr (.inl (0, ot))), (364, .inr (.inl (0, kp))), (368, .inr (.inl (0, tk))), (369, .inr (.inl (0, od))), (370, .inr (.inl (0, be)))] h0) : j_V jP d 278 0 (lv_args 0 [.ref 359, .int x1, .int x2]) [] h (fun rv h' => rv = some (.int (m_price (m_toTheEnd n (m_addTrack w x1 x2) 1))) ∧ ∃ (sd' ot' tk' : List Int32) (tm' : Int32), sd'.length = 602 ∧ ot'.length = 602 ∧ KN h' [(359, .inl (10, [.int th, .ref 360, .ref 361, .ref 362, .ref 363, .ref 364, .ref 365, .ref 366, .ref 367, (u 9), .int sst, (u 11), (u 12), .int acs, (u 14), (u 15), (u 16), (u 17), (u 18), (u 19), (u 20), (u 21), .ref 368, .int tm', .ref 369, .ref 370, .ref 371, (u 27)])), (360, .inr (.inl (0, w))), (362, .inr (.inl (0, sd'))), (363, .inr (.inl (0, ot'))), (364, .inr (.inl (0, kp))), (368, .inr (.inl (0, tk'))), (369, .inr (.inl (0, od))), (370, .inr (.inl (0, be)))] h0) := by
  show j_V jP d 278 0 [(0, .ref 359), (1, .int x1), (2, .int x2)] [] h _
  obtain ⟨lv, elv, L⟩ : ∃ lv, lv = [(0, .ref 359), (1, .int x1), (2, .int x2)] ∧ LK lv [(0, .ref 359), (1, .int x1), (2, .int x2)] := ⟨_, rfl, LK.rf⟩
  rw [← elv]
  clear elv
  refine j_V.ldL mt6_M mt6_0 rfl (i := 0) (kd := 2) (v := .ref 359) (pcJ := 1) rfl L rfl rfl rfl ?_
  refine j_V.getK mt6_M mt6_1 (ci := 10) (j := 1) rfl K rfl rfl ?_
  refine j_V.ldL mt6_M mt6_4 rfl (i := 0) (kd := 2) (v := .ref 359) (pcJ := 5) rfl L rfl rfl rfl ?_
  refine j_V.getK mt6_M mt6_5 (ci := 10) (j := 3) rfl K rfl rfl ?_
  refine j_V.cl mt6_M mt6_8 rfl (md := 2) (mj := 201) rfl (by decide) mi2_M (As := [.ref 360, .ref 362]) (rest := []) (jk_spl2 rfl rfl (Nat.le_of_ble_eq_true rfl) (Nat.le_of_ble_eq_true rfl)) (fun d => mi2_ok (K.fi [360, 362] rfl rfl)) ?_
  rintro r h9 ⟨rfl, K9⟩
  have K : KN h9 [(359, .inl (10, [.int th, .ref 360, .ref 361, .ref 362, .ref 363, .ref 364, .ref 365, .ref 366, .ref 367, (u 9), .int sst, (u 11), (u 12), .int acs, (u 14), (u 15), (u 16), (u 17), (u 18), (u 19), (u 20), (u 21), .ref 368, .int tm, .ref 369, .ref 370, .ref 371, (u 27)])), (360, .inr (.inl (0, w))), (362, .inr (.inl (0, ((m_copies w sd))))), (363, .inr (.inl (0, ot))), (364, .inr (.inl (0, kp))), (368, .inr (.inl (0, tk))), (369, .inr (.inl (0, od))), (370, .inr (.inl (0, be)))] h0 := K.mg K9 rfl rfl
  clear K9
  show j_V jP _ 278 11 lv [] h9 _
  rw [m_cp (H.I1 _ hI).1 hsd] at K
  refine j_V.ldL mt6_M mt6_11 rfl (i := 0) (kd := 2) (v := .ref 359) (pcJ := 12) rfl L rfl rfl rfl ?_
  refine j_V.getK mt6_M mt6_12 (ci := 10) (j := 1) rfl K rfl rfl ?_
  refine j_V.one mt6_M mt6_15 (by decide) (pcJ := 17) (stJ := [.int 8, .ref 360]) rfl ?_
  refine j_V.ldL mt6_M mt6_17 rfl (i := 1) (kd := 0) (v := .int x1) (pcJ := 18) rfl L rfl rfl rfl ?_
  refine j_V.one mt6_M mt6_18 (by decide) (pcJ := 19) (stJ := [.int (8 * x1), .ref 360]) rfl ?_
  refine j_V.one mt6_M mt6_19 (by decide) (pcJ := 20) (stJ := [.int 2, .int (8 * x1), .ref 360]) rfl ?_
  refine j_V.one mt6_M mt6_20 (by decide) (pcJ := 21) (stJ := [.int ((8 * x1) + 2), .ref 360]) rfl ?_
  refine j_V.ldL mt6_M mt6_21 rfl (i := 0) (kd := 2) (v := .ref 359) (pcJ := 22) rfl L rfl rfl rfl ?_
  refine j_V.ldL mt6_M mt6_22 rfl (i := 1) (kd := 0) (v := .int x1) (pcJ := 23) rfl L rfl rfl rfl ?_
  refine j_V.one mt6_M mt6_23 (by decide) (pcJ := 24) (stJ := [.int 1, .int x1, .ref 359, .int ((8 * x1) + 2), .ref 360]) rfl ?_
  refine j_V.cl mt6_M mt6_24 rfl (md := 3) (mj := 176) rfl (by decide) ma1_M (As := [.ref 359, .int x1, .int 1]) (rest := [.int ((8 * x1) + 2), .ref 360]) (jk_spl3 (K.at rfl) rfl rfl rfl (Nat.le_of_ble_eq_true rfl) (Nat.le_of_ble_eq_true rfl)) (fun d => ma1_ok (u := fun j => [.int th, .ref 360, .ref 361, .ref 362, .ref 363, .ref 364, .ref 365, .ref 366, .ref 367, (u 9), .int sst, (u 11), (u 12), .int acs, (u 14), (u 15), (u 16), (u 17), (u 18), (u 19), (u 20), (u 21), .ref 368, .int tm, .ref 369, .ref 370, .ref 371, (u 27)].getD j .null) (K.fi [359, 360] rfl rfl)) ?_
  rintro r hz ⟨rfl, ez⟩
  rw [ez]
  clear ez
  show j_V jP _ 278 27 lv [.int (m_st w x1 1), .int ((8 * x1) + 2), .ref 360] h9 _
  refine j_V.one mt6_M mt6_27 (by decide) (pcJ := 28) (stJ := [.int (((8 * x1) + 2) + (m_st w x1 1)), .ref 360]) rfl ?_
  refine j_V.ldL mt6_M mt6_28 rfl (i := 2) (kd := 0) (v := .int x2) (pcJ := 29) rfl L rfl rfl rfl ?_
  refine j_V.isA mt6_M mt6_29 (k' := [(359, .inl (10, [.int th, .ref 360, .ref 361, .ref 362, .ref 363, .ref 364, .ref 365, .ref 366, .ref 367, (u 9), .int sst, (u 11), (u 12), .int acs, (u 14), (u 15), (u 16), (u 17), (u 18), (u 19), (u 20), (u 21), .ref 368, .int tm, .ref 369, .ref 370, .ref 371, (u 27)])), (360, .inr (.inl (0, (sA w (((8 * x1) + 2) + (m_st w x1 1)) x2)))), (362, .inr (.inl (0, w))), (363, .inr (.inl (0, ot))), (364, .inr (.inl (0, kp))), (368, .inr (.inl (0, tk))), (369, .inr (.inl (0, od))), (370, .inr (.inl (0, be)))]) K rfl rfl (fun h K => ?_)
  refine j_V.ldL mt6_M mt6_30 rfl (i := 0) (kd := 2) (v := .ref 359) (pcJ := 31) rfl L rfl rfl rfl ?_
  refine j_V.getK mt6_M mt6_31 (ci := 10) (j := 1) rfl K rfl rfl ?_
  refine j_V.one mt6_M mt6_34 (by decide) (pcJ := 36) (stJ := [.int 8, .ref 360]) rfl ?_
  refine j_V.ldL mt6_M mt6_36 rfl (i := 1) (kd := 0) (v := .int x1) (pcJ := 37) rfl L rfl rfl rfl ?_
  refine j_V.one mt6_M mt6_37 (by decide) (pcJ := 38) (stJ := [.int (8 * x1), .ref 360]) rfl ?_
  refine j_V.one mt6_M mt6_38 (by decide) (pcJ := 39) (stJ := [.int 1, .int (8 * x1), .ref 360]) rfl ?_
  refine j_V.one mt6_M mt6_39 (by decide) (pcJ := 40) (stJ := [.int ((8 * x1) + 1), .ref 360]) rfl ?_
  refine j_V.one mt6_M mt6_40 (by decide) (pcJ := 41) (stJ := [.int ((8 * x1) + 1), .ref 360, .int ((8 * x1) + 1), .ref 360]) rfl ?_
  refine j_V.iaA mt6_M mt6_41 K rfl ?_
  refine j_V.one mt6_M mt6_42 (by decide) (pcJ := 43) (stJ := [.int 1, .int (gA (sA w (((8 * x1) + 2) + (m_st w x1 1)) x2) ((8 * x1) + 1)), .int ((8 * x1) + 1), .ref 360]) rfl ?_
  refine j_V.one mt6_M mt6_43 (by decide) (pcJ := 44) (stJ := [.int ((gA (sA w (((8 * x1) + 2) + (m_st w x1 1)) x2) ((8 * x1) + 1)) + 1), .int ((8 * x1) + 1), .ref 360]) rfl ?_
  refine j_V.isA mt6_M mt6_44 (k' := [(359, .inl (10, [.int th, .ref 360, .ref 361, .ref 362, .ref 363, .ref 364, .ref 365, .ref 366, .ref 367, (u 9), .int sst, (u 11), (u 12), .int acs, (u 14), (u 15), (u 16), (u 17), (u 18), (u 19), (u 20), (u 21), .ref 368, .int tm, .ref 369, .ref 370, .ref 371, (u 27)])), (360, .inr (.inl (0, (sA (sA w (((8 * x1) + 2) + (m_st w x1 1)) x2) ((8 * x1) + 1) ((gA (sA w (((8 * x1) + 2) + (m_st w x1 1)) x2) ((8 * x1) + 1)) + 1))))), (362, .inr (.inl (0, w))), (363, .inr (.inl (0, ot))), (364, .inr (.inl (0, kp))), (368, .inr (.inl (0, tk))), (369, .inr (.inl (0, od))), (370, .inr (.inl (0, be)))]) K rfl rfl (fun h K => ?_)
  rw [show (sA (sA w (((8 * x1) + 2) + (m_st w x1 1)) x2) ((8 * x1) + 1) ((gA (sA w (((8 * x1) + 2) + (m_st w x1 1)) x2) ((8 * x1) + 1)) + 1)) = m_addTrack w x1 x2 from rfl] at K
  refine j_V.ldL mt6_M mt6_45 rfl (i := 0) (kd := 2) (v := .ref 359) (pcJ := 46) rfl L rfl rfl rfl ?_
  refine j_V.cl mt6_M mt6_46 rfl (md := 3) (mj := 232) rfl (by decide) ms1_M (As := [.ref 359]) (rest := []) (jk_spl3 (K.at rfl) rfl rfl rfl (Nat.le_of_ble_eq_true rfl) (Nat.le_of_ble_eq_true rfl)) (fun d => ms19_ok (u := fun j => [.int th, .ref 360, .ref 361, .ref 362, .ref 363, .ref 364, .ref 365, .ref 366, .ref 367, (u 9), .int sst, (u 11), (u 12), .int acs, (u 14), (u 15), (u 16), (u 17), (u 18), (u 19), (u 20), (u 21), .ref 368, .int tm, .ref 369, .ref 370, .ref 371, (u 27)].getD j .null) H hP hot (K.fi [359, 360, 363, 368] rfl rfl)) ?_
  rintro r h9 ⟨rfl, hI14, ot14, tk14, tm14, ho14, K9⟩
  have K : KN h9 [(359, .inl (10, [.int th, .ref 360, .ref 361, .ref 362, .ref 363, .ref 364, .ref 365, .ref 366, .ref 367, (u 9), .int sst, (u 11), (u 12), .int acs, (u 14), (u 15), (u 16), (u 17), (u 18), (u 19), (u 20), (u 21), .ref 368, .int tm14, .ref 369, .ref 370, .ref 371, (u 27)])), (360, .inr (.inl (0, (m_toTheEnd n (m_addTrack w x1 x2) 1)))), (362, .inr (.inl (0, w))), (363, .inr (.inl (0, ot14))), (364, .inr (.inl (0, kp))), (368, .inr (.inl (0, tk14))), (369, .inr (.inl (0, od))), (370, .inr (.inl (0, be)))] h0 := K.mg K9 rfl rfl
  clear K9
  show j_V jP _ 278 49 lv [.int (m_price (m_toTheEnd n (m_addTrack w x1 x2) 1))] h9 _
  refine j_V.stL mt6_M mt6_49 rfl (i := 3) (kd := 0) (kl' := [(0, .ref 359), (1, .int x1), (2, .int x2), (3, .int (m_price (m_toTheEnd n (m_addTrack w x1 x2) 1)))]) (pcJ := 50) rfl L rfl (by decide) rfl rfl rfl (fun lv L => ?_)
  refine j_V.ldL mt6_M mt6_50 rfl (i := 0) (kd := 2) (v := .ref 359) (pcJ := 51) rfl L rfl rfl rfl ?_
  refine j_V.getK mt6_M mt6_51 (ci := 10) (j := 3) rfl K rfl rfl ?_
  refine j_V.ldL mt6_M mt6_54 rfl (i := 0) (kd := 2) (v := .ref 359) (pcJ := 55) rfl L rfl rfl rfl ?_
  refine j_V.getK mt6_M mt6_55 (ci := 10) (j := 1) rfl K rfl rfl ?_
  refine j_V.cl mt6_M mt6_58 rfl (md := 2) (mj := 201) rfl (by decide) mi3_M (As := [.ref 362, .ref 360]) (rest := []) (jk_spl2 rfl rfl (Nat.le_of_ble_eq_true rfl) (Nat.le_of_ble_eq_true rfl)) (fun d => mi3_ok (K.fi [360, 362] rfl rfl)) ?_
  rintro r h9 ⟨rfl, K9⟩
  have K : KN h9 [(359, .inl (10, [.int th, .ref 360, .ref 361, .ref 362, .ref 363, .ref 364, .ref 365, .ref 366, .ref 367, (u 9), .int sst, (u 11), (u 12), .int acs, (u 14), (u 15), (u 16), (u 17), (u 18), (u 19), (u 20), (u 21), .ref 368, .int tm14, .ref 369, .ref 370, .ref 371, (u 27)])), (360, .inr (.inl (0, ((m_copies w (m_toTheEnd n (m_addTrack w x1 x2) 1)))))), (362, .inr (.inl (0, w))), (363, .inr (.inl (0, ot14))), (364, .inr (.inl (0, kp))), (368, .inr (.inl (0, tk14))), (369, .inr (.inl (0, od))), (370, .inr (.inl (0, be)))] h0 := K.mg K9 rfl rfl
  clear K9
  show j_V jP _ 278 61 lv [] h9 _
  rw [m_cp (H.I1 _ hI).1 (H.I1 _ hI14).1] at K
  refine j_V.ldL mt6_M mt6_61 rfl (i := 3) (kd := 0) (v := .int (m_price (m_toTheEnd n (m_addTrack w x1 x2) 1))) (pcJ := 62) rfl L rfl rfl rfl ?_
  exact j_V.ri mt6_M mt6_62 ⟨rfl, w, ot14, tk14, tm14, (H.I1 _ hI).1, ho14, K⟩
set_option maxRecDepth 100000 in
theorem mt7_M : j_meth jP 279 = some (yX10_loop, cX10_loop, 4, (some .int), 2, false, 10) := rfl
set_option maxRecDepth 100000 in
theorem mt7_0 : j_code jP 279 0 = some (.iload_n 2) := rfl
set_option maxRecDepth 100000 in
theorem mt7_1 : j_code jP 279 1 = some (.iconst 1) := rfl
set_option maxRecDepth 100000 in
theorem mt7_2 : j_code jP 279 2 = some (.bipush 99) := rfl
set_option maxRecDepth 100000 in
theorem mt7_4 : j_code jP 279 4 = some (.invokestatic 61) := rfl
set_option maxRecDepth 100000 in
theorem mt7_7 : j_code jP 279 7 = some (.ifCond .ne 9) := rfl
set_option maxRecDepth 100000 in
theorem mt7_10 : j_code jP 279 10 = some (.aload_n 0) := rfl
set_option maxRecDepth 100000 in
theorem mt7_11 : j_code jP 279 11 = some (.iconst 1) := rfl
set_option maxRecDepth 100000 in
theorem mt7_12 : j_code jP 279 12 = some (.invokevirtual 179) := rfl
set_option maxRecDepth 100000 in
theorem mt7_15 : j_code jP 279 15 = some (.ireturn) := rfl
set_option maxRecDepth 100000 in
theorem mt7_16 : j_code jP 279 16 = some (.aload_n 0) := rfl
set_option maxRecDepth 100000 in
theorem mt7_17 : j_code jP 279 17 = some (.iload_n 1) := rfl
set_option maxRecDepth 100000 in
theorem mt7_18 : j_code jP 279 18 = some (.invokevirtual 65) := rfl
set_option maxRecDepth 100000 in
theorem mt7_21 : j_code jP 279 21 = some (.ifCond .ne 9) := rfl
set_option maxRecDepth 100000 in
theorem mt7_24 : j_code jP 279 24 = some (.aload_n 0) := rfl
set_option maxRecDepth 100000 in
theorem mt7_25 : j_code jP 279 25 = some (.iconst 2) := rfl
set_option maxRecDepth 100000 in
theorem mt7_26 : j_code jP 279 26 = some (.invokevirtual 179) := rfl
set_option maxRecDepth 100000 in
theorem mt7_29 : j_code jP 279 29 = some (.ireturn) := rfl
set_option maxRecDepth 100000 in
theorem mt7_30 : j_code jP 279 30 = some (.aload_n 0) := rfl
set_option maxRecDepth 100000 in
theorem mt7_31 : j_code jP 279 31 = some (.iload_n 1) := rfl
set_option maxRecDepth 100000 in
theorem mt7_32 : j_code jP 279 32 = some (.iconst 1) := rfl
set_option maxRecDepth 100000 in
theorem mt7_33 : j_code jP 279 33 = some (.invokevirtual 69) := rfl
set_option maxRecDepth 100000 in
theorem mt7_36 : j_code jP 279 36 = some (.iconst 3) := rfl
set_option maxRecDepth 100000 in
theorem mt7_37 : j_code jP 279 37 = some (.if_icmp .ne 9) := rfl
set_option maxRecDepth 100000 in
theorem mt7_40 : j_code jP 279 40 = some (.aload_n 0) := rfl
set_option maxRecDepth 100000 in
theorem mt7_41 : j_code jP 279 41 = some (.iconst 3) := rfl
set_option maxRecDepth 100000 in
theorem mt7_42 : j_code jP 279 42 = some (.invokevirtual 179) := rfl
set_option maxRecDepth 100000 in
theorem mt7_45 : j_code jP 279 45 = some (.ireturn) := rfl
set_option maxRecDepth 100000 in
theorem mt7_46 : j_code jP 279 46 = some (.aload_n 0) := rfl
set_option maxRecDepth 100000 in
theorem mt7_47 : j_code jP 279 47 = some (.invokevirtual 347) := rfl
set_option maxRecDepth 100000 in
theorem mt7_50 : j_code jP 279 50 = some (.istore_n 3) := rfl
set_option maxRecDepth 100000 in
theorem mt7_51 : j_code jP 279 51 = some (.aload_n 0) := rfl
set_option maxRecDepth 100000 in
theorem mt7_52 : j_code jP 279 52 = some (.iload_n 3) := rfl
set_option maxRecDepth 100000 in
theorem mt7_53 : j_code jP 279 53 = some (.aload_n 0) := rfl
set_option maxRecDepth 100000 in
theorem mt7_54 : j_code jP 279 54 = some (.iload_n 1) := rfl
set_option maxRecDepth 100000 in
theorem mt7_55 : j_code jP 279 55 = some (.iload_n 2) := rfl
set_option maxRecDepth 100000 in
theorem mt7_56 : j_code jP 279 56 = some (.invokevirtual 359) := rfl
set_option maxRecDepth 100000 in
theorem mt7_59 : j_code jP 279 59 = some (.isub) := rfl
set_option maxRecDepth 100000 in
theorem mt7_60 : j_code jP 279 60 = some (.invokevirtual 195) := rfl
set_option maxRecDepth 100000 in
theorem mt7_63 : j_code jP 279 63 = some (.ireturn) := rfl
def m_qloop (n : Nat) (th : Int32) (sst : Int32) (w : List Int32) (x1 : Int32) (x2 : Int32) : Int32 × Int32 × Int32 := (if (m_isFrom x2 1 99) = 0 then (((m_refuse th sst 1).1), ((m_refuse th sst 1).2.1), ((m_refuse th sst 1).2.2)) else (if (m_isStation w x1) = 0 then (((m_refuse th sst 2).1), ((m_refuse th sst 2).2.1), ((m_refuse th sst 2).2.2)) else (if (m_st w x1 1) = 3 then (((m_refuse th sst 3).1), ((m_refuse th sst 3).2.1), ((m_refuse th sst 3).2.2)) else (((m_gives th sst ((m_price (m_toTheEnd n w 1)) - (m_price (m_toTheEnd n (m_addTrack w x1 x2) 1)))).1), ((m_gives th sst ((m_price (m_toTheEnd n w 1)) - (m_price (m_toTheEnd n (m_addTrack w x1 x2) 1)))).2.1), ((m_gives th sst ((m_price (m_toTheEnd n w 1)) - (m_price (m_toTheEnd n (m_addTrack w x1 x2) 1)))).2.2)))))
set_option maxRecDepth 1000000 in
theorem mt7_ok {u : Nat → Value} {n d : Nat} {h h0 : J_H} {th sst acs tm x1 x2 : Int32} {w sd ot kp tk od be : List Int32} {I J : List Int32 → Prop} (H : m_Inv n I J) (H2 : m_Iv2 n I) (hI : I w) (hsd : sd.length = 602) (hot : ot.length = 602) (K : KN h [(359, .inl (10, [.int th, .ref 360, .ref 361, .ref 362, .ref 363, .ref 364, .ref 365, .ref 366, .ref 367, (u 9), .int sst, (u 11), (u 12), .int acs, (u 14), (u 15), (u 16), (u 17), (u 18), (u 19), (u 20), (u 21), .ref 368, .int tm, .ref 369, .ref 370, .ref 371, (u 27)])), (360, .inr (.inl (0, w))), (362, .inr (.inl (0, sd))), (363, .inr (.inl (0, ot))), (364, .inr (.inl (0, kp))), (368, .inr (.inl (0, tk))), (369, .inr (.inl (0, od))), (370, .inr (.inl (0, be)))] h0) : j_V jP d 279 0 (lv_args 0 [.ref 359, .int x1, .int x2]) [] h (fun rv h' => rv = some (.int (m_qloop n th sst w x1 x2).1) ∧ ∃ (sd' ot' tk' : List Int32) (tm' : Int32), sd'.length = 602 ∧ ot'.length = 602 ∧ KN h' [(359, .inl (10, [.int (m_qloop n th sst w x1 x2).2.1, .ref 360, .ref 361, .ref 362, .ref 363, .ref 364, .ref 365, .ref 366, .ref 367, (u 9), .int (m_qloop n th sst w x1 x2).2.2, (u 11), (u 12), .int acs, (u 14), (u 15), (u 16), (u 17), (u 18), (u 19), (u 20), (u 21), .ref 368, .int tm', .ref 369, .ref 370, .ref 371, (u 27)])), (360, .inr (.inl (0, w))), (362, .inr (.inl (0, sd'))), (363, .inr (.inl (0, ot'))), (364, .inr (.inl (0, kp))), (368, .inr (.inl (0, tk'))), (369, .inr (.inl (0, od))), (370, .inr (.inl (0, be)))] h0) := by
  show j_V jP d 279 0 [(0, .ref 359), (1, .int x1), (2, .int x2)] [] h _
  obtain ⟨lv, elv, L⟩ : ∃ lv, lv = [(0, .ref 359), (1, .int x1), (2, .int x2)] ∧ LK lv [(0, .ref 359), (1, .int x1), (2, .int x2)] := ⟨_, rfl, LK.rf⟩
  rw [← elv]
  clear elv
  refine j_V.ldL mt7_M mt7_0 rfl (i := 2) (kd := 0) (v := .int x2) (pcJ := 1) rfl L rfl rfl rfl ?_
  refine j_V.one mt7_M mt7_1 (by decide) (pcJ := 2) (stJ := [.int 1, .int x2]) rfl ?_
  refine j_V.one mt7_M mt7_2 (by decide) (pcJ := 4) (stJ := [.int 99, .int 1, .int x2]) rfl ?_
  refine j_V.cl mt7_M mt7_4 rfl (md := 2) (mj := 171) rfl (by decide) ma0_M (As := [.int x2, .int 1, .int 99]) (rest := []) (jk_spl2 rfl rfl (Nat.le_of_ble_eq_true rfl) (Nat.le_of_ble_eq_true rfl)) (fun d => ma0_ok (K.fi [] rfl rfl)) ?_
  rintro r hz ⟨rfl, ez⟩
  rw [ez]
  clear ez
  show j_V jP _ 279 7 lv [.int (m_isFrom x2 1 99)] h _
  refine j_V.ifc mt7_M mt7_7 (t := 16) rfl (fun c7_0 => ?_) (fun c7_0 => ?_)
  · replace c7_0 : ¬ ((m_isFrom x2 1 99) = 0) := jd_ne c7_0
    refine j_V.ldL mt7_M mt7_16 rfl (i := 0) (kd := 2) (v := .ref 359) (pcJ := 17) rfl L rfl rfl rfl ?_
    refine j_V.ldL mt7_M mt7_17 rfl (i := 1) (kd := 0) (v := .int x1) (pcJ := 18) rfl L rfl rfl rfl ?_
    refine j_V.cl mt7_M mt7_18 rfl (md := 3) (mj := 172) rfl (by decide) mc9_M (As := [.ref 359, .int x1]) (rest := []) (jk_spl3 (K.at rfl) rfl rfl rfl (Nat.le_of_ble_eq_true rfl) (Nat.le_of_ble_eq_true rfl)) (fun d => mc9_ok (u := fun j => [.int th, .ref 360, .ref 361, .ref 362, .ref 363, .ref 364, .ref 365, .ref 366, .ref 367, (u 9), .int sst, (u 11), (u 12), .int acs, (u 14), (u 15), (u 16), (u 17), (u 18), (u 19), (u 20), (u 21), .ref 368, .int tm, .ref 369, .ref 370, .ref 371, (u 27)].getD j .null) (K.fi [359, 360] rfl rfl)) ?_
    rintro r hz ⟨rfl, ez⟩
    rw [ez]
    clear ez
    show j_V jP _ 279 21 lv [.int (m_isStation w x1)] h _
    refine j_V.ifc mt7_M mt7_21 (t := 30) rfl (fun c21_1 => ?_) (fun c21_1 => ?_)
    · replace c21_1 : ¬ ((m_isStation w x1) = 0) := jd_ne c21_1
      refine j_V.ldL mt7_M mt7_30 rfl (i := 0) (kd := 2) (v := .ref 359) (pcJ := 31) rfl L rfl rfl rfl ?_
      refine j_V.ldL mt7_M mt7_31 rfl (i := 1) (kd := 0) (v := .int x1) (pcJ := 32) rfl L rfl rfl rfl ?_
      refine j_V.one mt7_M mt7_32 (by decide) (pcJ := 33) (stJ := [.int 1, .int x1, .ref 359]) rfl ?_
      refine j_V.cl mt7_M mt7_33 rfl (md := 3) (mj := 176) rfl (by decide) ma1_M (As := [.ref 359, .int x1, .int 1]) (rest := []) (jk_spl3 (K.at rfl) rfl rfl rfl (Nat.le_of_ble_eq_true rfl) (Nat.le_of_ble_eq_true rfl)) (fun d => ma1_ok (u := fun j => [.int th, .ref 360, .ref 361, .ref 362, .ref 363, .ref 364, .ref 365, .ref 366, .ref 367, (u 9), .int sst, (u 11), (u 12), .int acs, (u 14), (u 15), (u 16), (u 17), (u 18), (u 19), (u 20), (u 21), .ref 368, .int tm, .ref 369, .ref 370, .ref 371, (u 27)].getD j .null) (K.fi [359, 360] rfl rfl)) ?_
      rintro r hz ⟨rfl, ez⟩
      rw [ez]
      clear ez
      show j_V jP _ 279 36 lv [.int (m_st w x1 1)] h _
      refine j_V.one mt7_M mt7_36 (by decide) (pcJ := 37) (stJ := [.int 3, .int (m_st w x1 1)]) rfl ?_
      refine j_V.icmp mt7_M mt7_37 (t := 46) rfl (fun c37_2 => ?_) (fun c37_2 => ?_)
      · replace c37_2 : ¬ ((m_st w x1 1) = 3) := jd_ne c37_2
        refine j_V.ldL mt7_M mt7_46 rfl (i := 0) (kd := 2) (v := .ref 359) (pcJ := 47) rfl L rfl rfl rfl ?_
        refine j_V.cl mt7_M mt7_47 rfl (md := 3) (mj := 269) rfl (by decide) mt1_M (As := [.ref 359]) (rest := []) (jk_spl3 (K.at rfl) rfl rfl rfl (Nat.le_of_ble_eq_true rfl) (Nat.le_of_ble_eq_true rfl)) (fun d => mt1_ok (u := u) H H2 hI hsd hot  K) ?_
        rintro r h9 ⟨rfl, sd15, ot15, tk15, tm15, hd15, ho15, K⟩
        show j_V jP _ 279 50 lv [.int (m_price (m_toTheEnd n w 1))] h9 _
        refine j_V.stL mt7_M mt7_50 rfl (i := 3) (kd := 0) (kl' := [(0, .ref 359), (1, .int x1), (2, .int x2), (3, .int (m_price (m_toTheEnd n w 1)))]) (pcJ := 51) rfl L rfl (by decide) rfl rfl rfl (fun lv L => ?_)
        refine j_V.ldL mt7_M mt7_51 rfl (i := 0) (kd := 2) (v := .ref 359) (pcJ := 52) rfl L rfl rfl rfl ?_
        refine j_V.ldL mt7_M mt7_52 rfl (i := 3) (kd := 0) (v := .int (m_price (m_toTheEnd n w 1))) (pcJ := 53) rfl L rfl rfl rfl ?_
        refine j_V.ldL mt7_M mt7_53 rfl (i := 0) (kd := 2) (v := .ref 359) (pcJ := 54) rfl L rfl rfl rfl ?_
        refine j_V.ldL mt7_M mt7_54 rfl (i := 1) (kd := 0) (v := .int x1) (pcJ := 55) rfl L rfl rfl rfl ?_
        refine j_V.ldL mt7_M mt7_55 rfl (i := 2) (kd := 0) (v := .int x2) (pcJ := 56) rfl L rfl rfl rfl ?_
        refine j_V.cl mt7_M mt7_56 rfl (md := 3) (mj := 278) rfl (by decide) mt6_M (As := [.ref 359, .int x1, .int x2]) (rest := [.int (m_price (m_toTheEnd n w 1)), .ref 359]) (jk_spl3 (K.at rfl) rfl rfl rfl (Nat.le_of_ble_eq_true rfl) (Nat.le_of_ble_eq_true rfl)) (fun d => mt6_ok (u := u) H H2 hI hd15 ho15 (H2.W _ _ _ hI c21_1 c37_2 c7_0) K) ?_
        rintro r h9 ⟨rfl, sd16, ot16, tk16, tm16, hd16, ho16, K⟩
        show j_V jP _ 279 59 lv [.int (m_price (m_toTheEnd n (m_addTrack w x1 x2) 1)), .int (m_price (m_toTheEnd n w 1)), .ref 359] h9 _
        refine j_V.one mt7_M mt7_59 (by decide) (pcJ := 60) (stJ := [.int ((m_price (m_toTheEnd n w 1)) - (m_price (m_toTheEnd n (m_addTrack w x1 x2) 1))), .ref 359]) rfl ?_
        refine j_V.cl mt7_M mt7_60 rfl (md := 3) (mj := 170) rfl (by decide) mo1_M (As := [.ref 359, .int ((m_price (m_toTheEnd n w 1)) - (m_price (m_toTheEnd n (m_addTrack w x1 x2) 1)))]) (rest := []) (jk_spl3 (K.at rfl) rfl rfl rfl (Nat.le_of_ble_eq_true rfl) (Nat.le_of_ble_eq_true rfl)) (fun d => mo1_ok (u := fun j => [.int th, .ref 360, .ref 361, .ref 362, .ref 363, .ref 364, .ref 365, .ref 366, .ref 367, (u 9), .int sst, (u 11), (u 12), .int acs, (u 14), (u 15), (u 16), (u 17), (u 18), (u 19), (u 20), (u 21), .ref 368, .int tm16, .ref 369, .ref 370, .ref 371, (u 27)].getD j .null) (K.fi [359] rfl rfl)) ?_
        rintro r h9 ⟨rfl, K9⟩
        have K : KN h9 [(359, .inl (10, [.int ((m_gives th sst ((m_price (m_toTheEnd n w 1)) - (m_price (m_toTheEnd n (m_addTrack w x1 x2) 1)))).2.1), .ref 360, .ref 361, .ref 362, .ref 363, .ref 364, .ref 365, .ref 366, .ref 367, (u 9), .int ((m_gives th sst ((m_price (m_toTheEnd n w 1)) - (m_price (m_toTheEnd n (m_addTrack w x1 x2) 1)))).2.2), (u 11), (u 12), .int acs, (u 14), (u 15), (u 16), (u 17), (u 18), (u 19), (u 20), (u 21), .ref 368, .int tm16, .ref 369, .ref 370, .ref 371, (u 27)])), (360, .inr (.inl (0, w))), (362, .inr (.inl (0, sd16))), (363, .inr (.inl (0, ot16))), (364, .inr (.inl (0, kp))), (368, .inr (.inl (0, tk16))), (369, .inr (.inl (0, od))), (370, .inr (.inl (0, be)))] h0 := K.mg K9 rfl rfl
        clear K9
        show j_V jP _ 279 63 lv [.int ((m_gives th sst ((m_price (m_toTheEnd n w 1)) - (m_price (m_toTheEnd n (m_addTrack w x1 x2) 1)))).1)] h9 _
        refine j_V.ri mt7_M mt7_63 ?_
        rw [show (m_qloop n th sst w x1 x2) = _ from ((if_neg c7_0).trans ((if_neg c21_1).trans ((if_neg c37_2).trans (rfl))))]
        exact ⟨rfl, sd16, ot16, tk16, tm16, hd16, ho16, K⟩
      · replace c37_2 : (m_st w x1 1) = 3 := jd_nen c37_2
        refine j_V.ldL mt7_M mt7_40 rfl (i := 0) (kd := 2) (v := .ref 359) (pcJ := 41) rfl L rfl rfl rfl ?_
        refine j_V.one mt7_M mt7_41 (by decide) (pcJ := 42) (stJ := [.int 3, .ref 359]) rfl ?_
        refine j_V.cl mt7_M mt7_42 rfl (md := 3) (mj := 169) rfl (by decide) mo0_M (As := [.ref 359, .int 3]) (rest := []) (jk_spl3 (K.at rfl) rfl rfl rfl (Nat.le_of_ble_eq_true rfl) (Nat.le_of_ble_eq_true rfl)) (fun d => mo0_ok (u := fun j => [.int th, .ref 360, .ref 361, .ref 362, .ref 363, .ref 364, .ref 365, .ref 366, .ref 367, (u 9), .int sst, (u 11), (u 12), .int acs, (u 14), (u 15), (u 16), (u 17), (u 18), (u 19), (u 20), (u 21), .ref 368, .int tm, .ref 369, .ref 370, .ref 371, (u 27)].getD j .null) (K.fi [359] rfl rfl)) ?_
        rintro r h9 ⟨rfl, K9⟩
        have K : KN h9 [(359, .inl (10, [.int ((m_refuse th sst 3).2.1), .ref 360, .ref 361, .ref 362, .ref 363, .ref 364, .ref 365, .ref 366, .ref 367, (u 9), .int ((m_refuse th sst 3).2.2), (u 11), (u 12), .int acs, (u 14), (u 15), (u 16), (u 17), (u 18), (u 19), (u 20), (u 21), .ref 368, .int tm, .ref 369, .ref 370, .ref 371, (u 27)])), (360, .inr (.inl (0, w))), (362, .inr (.inl (0, sd))), (363, .inr (.inl (0, ot))), (364, .inr (.inl (0, kp))), (368, .inr (.inl (0, tk))), (369, .inr (.inl (0, od))), (370, .inr (.inl (0, be)))] h0 := K.mg K9 rfl rfl
        clear K9
        show j_V jP _ 279 45 lv [.int ((m_refuse th sst 3).1)] h9 _
        refine j_V.ri mt7_M mt7_45 ?_
        rw [show (m_qloop n th sst w x1 x2) = _ from ((if_neg c7_0).trans ((if_neg c21_1).trans ((if_pos c37_2).trans (rfl))))]
        exact ⟨rfl, sd, ot, tk, tm, hsd, hot, K⟩
    · replace c21_1 : (m_isStation w x1) = 0 := jd_nen c21_1
      refine j_V.ldL mt7_M mt7_24 rfl (i := 0) (kd := 2) (v := .ref 359) (pcJ := 25) rfl L rfl rfl rfl ?_
      refine j_V.one mt7_M mt7_25 (by decide) (pcJ := 26) (stJ := [.int 2, .ref 359]) rfl ?_
      refine j_V.cl mt7_M mt7_26 rfl (md := 3) (mj := 169) rfl (by decide) mo0_M (As := [.ref 359, .int 2]) (rest := []) (jk_spl3 (K.at rfl) rfl rfl rfl (Nat.le_of_ble_eq_true rfl) (Nat.le_of_ble_eq_true rfl)) (fun d => mo0_ok (u := fun j => [.int th, .ref 360, .ref 361, .ref 362, .ref 363, .ref 364, .ref 365, .ref 366, .ref 367, (u 9), .int sst, (u 11), (u 12), .int acs, (u 14), (u 15), (u 16), (u 17), (u 18), (u 19), (u 20), (u 21), .ref 368, .int tm, .ref 369, .ref 370, .ref 371, (u 27)].getD j .null) (K.fi [359] rfl rfl)) ?_
      rintro r h9 ⟨rfl, K9⟩
      have K : KN h9 [(359, .inl (10, [.int ((m_refuse th sst 2).2.1), .ref 360, .ref 361, .ref 362, .ref 363, .ref 364, .ref 365, .ref 366, .ref 367, (u 9), .int ((m_refuse th sst 2).2.2), (u 11), (u 12), .int acs, (u 14), (u 15), (u 16), (u 17), (u 18), (u 19), (u 20), (u 21), .ref 368, .int tm, .ref 369, .ref 370, .ref 371, (u 27)])), (360, .inr (.inl (0, w))), (362, .inr (.inl (0, sd))), (363, .inr (.inl (0, ot))), (364, .inr (.inl (0, kp))), (368, .inr (.inl (0, tk))), (369, .inr (.inl (0, od))), (370, .inr (.inl (0, be)))] h0 := K.mg K9 rfl rfl
      clear K9
      show j_V jP _ 279 29 lv [.int ((m_refuse th sst 2).1)] h9 _
      refine j_V.ri mt7_M mt7_29 ?_
      rw [show (m_qloop n th sst w x1 x2) = _ from ((if_neg c7_0).trans ((if_pos c21_1).trans (rfl)))]
      exact ⟨rfl, sd, ot, tk, tm, hsd, hot, K⟩
  · replace c7_0 : (m_isFrom x2 1 99) = 0 := jd_nen c7_0
    refine j_V.ldL mt7_M mt7_10 rfl (i := 0) (kd := 2) (v := .ref 359) (pcJ := 11) rfl L rfl rfl rfl ?_
    refine j_V.one mt7_M mt7_11 (by decide) (pcJ := 12) (stJ := [.int 1, .ref 359]) rfl ?_
    refine j_V.cl mt7_M mt7_12 rfl (md := 3) (mj := 169) rfl (by decide) mo0_M (As := [.ref 359, .int 1]) (rest := []) (jk_spl3 (K.at rfl) rfl rfl rfl (Nat.le_of_ble_eq_true rfl) (Nat.le_of_ble_eq_true rfl)) (fun d => mo0_ok (u := fun j => [.int th, .ref 360, .ref 361, .ref 362, .ref 363, .ref 364, .ref 365, .ref 366, .ref 367, (u 9), .int sst, (u 11), (u 12), .int acs, (u 14), (u 15), (u 16), (u 17), (u 18), (u 19), (u 20), (u 21), .ref 368, .int tm, .ref 369, .ref 370, .ref 371, (u 27)].getD j .null) (K.fi [359] rfl rfl)) ?_
    rintro r h9 ⟨rfl, K9⟩
    have K : KN h9 [(359, .inl (10, [.int ((m_refuse th sst 1).2.1), .ref 360, .ref 361, .ref 362, .ref 363, .ref 364, .ref 365, .ref 366, .ref 367, (u 9), .int ((m_refuse th sst 1).2.2), (u 11), (u 12), .int acs, (u 14), (u 15), (u 16), (u 17), (u 18), (u 19), (u 20), (u 21), .ref 368, .int tm, .ref 369, .ref 370, .ref 371, (u 27)])), (360, .inr (.inl (0, w))), (362, .inr (.inl (0, sd))), (363, .inr (.inl (0, ot))), (364, .inr (.inl (0, kp))), (368, .inr (.inl (0, tk))), (369, .inr (.inl (0, od))), (370, .inr (.inl (0, be)))] h0 := K.mg K9 rfl rfl
    clear K9
    show j_V jP _ 279 15 lv [.int ((m_refuse th sst 1).1)] h9 _
    refine j_V.ri mt7_M mt7_15 ?_
    rw [show (m_qloop n th sst w x1 x2) = _ from ((if_pos c7_0).trans (rfl))]
    exact ⟨rfl, sd, ot, tk, tm, hsd, hot, K⟩
set_option maxRecDepth 100000 in
theorem mt8_M : j_meth jP 280 = some (yX10_build, cX10_build, 5, (some .int), 0, false, 10) := rfl
set_option maxRecDepth 100000 in
theorem mt8_0 : j_code jP 280 0 = some (.iconst (-1)) := rfl
set_option maxRecDepth 100000 in
theorem mt8_1 : j_code jP 280 1 = some (.istore_n 1) := rfl
set_option maxRecDepth 100000 in
theorem mt8_2 : j_code jP 280 2 = some (.ldc_w 340) := rfl
set_option maxRecDepth 100000 in
theorem mt8_5 : j_code jP 280 5 = some (.istore_n 2) := rfl
set_option maxRecDepth 100000 in
theorem mt8_6 : j_code jP 280 6 = some (.iconst 0) := rfl
set_option maxRecDepth 100000 in
theorem mt8_7 : j_code jP 280 7 = some (.istore_n 3) := rfl
set_option maxRecDepth 100000 in
theorem mt8_8 : j_code jP 280 8 = some (.iload_n 3) := rfl
set_option maxRecDepth 100000 in
theorem mt8_9 : j_code jP 280 9 = some (.aload_n 0) := rfl
set_option maxRecDepth 100000 in
theorem mt8_10 : j_code jP 280 10 = some (.getfield 7) := rfl
set_option maxRecDepth 100000 in
theorem mt8_13 : j_code jP 280 13 = some (.sipush 202) := rfl
set_option maxRecDepth 100000 in
theorem mt8_16 : j_code jP 280 16 = some (.iaload) := rfl
set_option maxRecDepth 100000 in
theorem mt8_17 : j_code jP 280 17 = some (.if_icmp .ge 50) := rfl
set_option maxRecDepth 100000 in
theorem mt8_20 : j_code jP 280 20 = some (.aload_n 0) := rfl
set_option maxRecDepth 100000 in
theorem mt8_21 : j_code jP 280 21 = some (.iload_n 3) := rfl
set_option maxRecDepth 100000 in
theorem mt8_22 : j_code jP 280 22 = some (.iconst 1) := rfl
set_option maxRecDepth 100000 in
theorem mt8_23 : j_code jP 280 23 = some (.invokevirtual 69) := rfl
set_option maxRecDepth 100000 in
theorem mt8_26 : j_code jP 280 26 = some (.iconst 3) := rfl
set_option maxRecDepth 100000 in
theorem mt8_27 : j_code jP 280 27 = some (.if_icmp .ne 6) := rfl
set_option maxRecDepth 100000 in
theorem mt8_30 : j_code jP 280 30 = some (.goto 31) := rfl
set_option maxRecDepth 100000 in
theorem mt8_33 : j_code jP 280 33 = some (.aload_n 0) := rfl
set_option maxRecDepth 100000 in
theorem mt8_34 : j_code jP 280 34 = some (.iload_n 3) := rfl
set_option maxRecDepth 100000 in
theorem mt8_35 : j_code jP 280 35 = some (.bipush 99) := rfl
set_option maxRecDepth 100000 in
theorem mt8_37 : j_code jP 280 37 = some (.invokevirtual 359) := rfl
set_option maxRecDepth 100000 in
theorem mt8_40 : j_code jP 280 40 = some (.istore 4) := rfl
set_option maxRecDepth 100000 in
theorem mt8_42 : j_code jP 280 42 = some (.iload 4) := rfl
set_option maxRecDepth 100000 in
theorem mt8_44 : j_code jP 280 44 = some (.iload_n 2) := rfl
set_option maxRecDepth 100000 in
theorem mt8_45 : j_code jP 280 45 = some (.if_icmp .ge 7) := rfl
set_option maxRecDepth 100000 in
theorem mt8_48 : j_code jP 280 48 = some (.iload_n 3) := rfl
set_option maxRecDepth 100000 in
theorem mt8_49 : j_code jP 280 49 = some (.goto 4) := rfl
set_option maxRecDepth 100000 in
theorem mt8_52 : j_code jP 280 52 = some (.iload_n 1) := rfl
set_option maxRecDepth 100000 in
theorem mt8_53 : j_code jP 280 53 = some (.istore_n 1) := rfl
set_option maxRecDepth 100000 in
theorem mt8_54 : j_code jP 280 54 = some (.iload_n 2) := rfl
set_option maxRecDepth 100000 in
theorem mt8_55 : j_code jP 280 55 = some (.iload 4) := rfl
set_option maxRecDepth 100000 in
theorem mt8_57 : j_code jP 280 57 = some (.invokestatic 161) := rfl
set_option maxRecDepth 100000 in
theorem mt8_60 : j_code jP 280 60 = some (.istore_n 2) := rfl
set_option maxRecDepth 100000 in
theorem mt8_61 : j_code jP 280 61 = some (.iinc 3 1) := rfl
set_option maxRecDepth 100000 in
theorem mt8_64 : j_code jP 280 64 = some (.goto (-56)) := rfl
set_option maxRecDepth 100000 in
theorem mt8_67 : j_code jP 280 67 = some (.iload_n 1) := rfl
set_option maxRecDepth 100000 in
theorem mt8_68 : j_code jP 280 68 = some (.iconst (-1)) := rfl
set_option maxRecDepth 100000 in
theorem mt8_69 : j_code jP 280 69 = some (.if_icmp .ne 11) := rfl
set_option maxRecDepth 100000 in
theorem mt8_72 : j_code jP 280 72 = some (.aload_n 0) := rfl
set_option maxRecDepth 100000 in
theorem mt8_73 : j_code jP 280 73 = some (.iconst 5) := rfl
set_option maxRecDepth 100000 in
theorem mt8_74 : j_code jP 280 74 = some (.invokevirtual 179) := rfl
set_option maxRecDepth 100000 in
theorem mt8_77 : j_code jP 280 77 = some (.goto 8) := rfl
set_option maxRecDepth 100000 in
theorem mt8_80 : j_code jP 280 80 = some (.aload_n 0) := rfl
set_option maxRecDepth 100000 in
theorem mt8_81 : j_code jP 280 81 = some (.iload_n 1) := rfl
set_option maxRecDepth 100000 in
theorem mt8_82 : j_code jP 280 82 = some (.invokevirtual 195) := rfl
set_option maxRecDepth 100000 in
theorem mt8_85 : j_code jP 280 85 = some (.ireturn) := rfl
def m_qbuild_l8 (n : Nat) (th : Int32) (sst : Int32) (w : List Int32) : Nat → Nat → Int32 → Int32 → Int32 × Int32 × Int32
  | 0, i, v1, v2 => (if v1 = (-1) then (((m_refuse th sst 5).1), ((m_refuse th sst 5).2.1), ((m_refuse th sst 5).2.2)) else (((m_gives th sst v1).1), ((m_gives th sst v1).2.1), ((m_gives th sst v1).2.2)))
  | f + 1, i, v1, v2 => (if (m_st w (nI i) 1) = 3 then (m_qbuild_l8 n th sst w f (i + 1) v1 v2) else (if (m_price (m_toTheEnd n (m_addTrack w (nI i) 99) 1)) < v2 then (m_qbuild_l8 n th sst w f (i + 1) (nI i) (iMn v2 (m_price (m_toTheEnd n (m_addTrack w (nI i) 99) 1)))) else (m_qbuild_l8 n th sst w f (i + 1) v1 (iMn v2 (m_price (m_toTheEnd n (m_addTrack w (nI i) 99) 1))))))
set_option maxRecDepth 1000000 in
theorem mt8_ok_l8 {u : Nat → Value} {n d : Nat} {h0 : J_H} {th sst acs  : Int32} {w kp od be : List Int32}  {I J : List Int32 → Prop} (H : m_Inv n I J) (H2 : m_Iv2 n I) (hI : I w)  : ∀ (f i : Nat) (v1 v2 : Int32) {sd ot tk : List Int32} {tm : Int32} {lv : J_L} {h : J_H}, (lpN (gA w 202) (nI i) = f ∧ i + f < 2147483648) → sd.length = 602 → ot.length = 602 → LK lv [(0, .ref 359), (1, .int v1), (2, .int v2), (3, .int (nI i))] → KN h [(359, .inl (10, [.int th, .ref 360, .ref 361, .ref 362, .ref 363, .ref 364, .ref 365, .ref 366, .ref 367, (u 9), .int sst, (u 11), (u 12), .int acs, (u 14), (u 15), (u 16), (u 17), (u 18), (u 19), (u 20), (u 21), .ref 368, .int tm, .ref 369, .ref 370, .ref 371, (u 27)])), (360, .inr (.inl (0, w))), (362, .inr (.inl (0, sd))), (363, .inr (.inl (0, ot))), (364, .inr (.inl (0, kp))), (368, .inr (.inl (0, tk))), (369, .inr (.inl (0, od))), (370, .inr (.inl (0, be)))] h0 → j_V jP d 280 8 lv [] h (fun rv h' => rv = some (.int (m_qbuild_l8 n th sst w f i v1 v2).1) ∧ ∃ (sd' ot' tk' : List Int32) (tm' : Int32), sd'.length = 602 ∧ ot'.length = 602 ∧ KN h' [(359, .inl (10, [.int (m_qbuild_l8 n th sst w f i v1 v2).2.1, .ref 360, .ref 361, .ref 362, .ref 363, .ref 364, .ref 365, .ref 366, .ref 367, (u 9), .int (m_qbuild_l8 n th sst w f i v1 v2).2.2, (u 11), (u 12), .int acs, (u 14), (u 15), (u 16), (u 17), (u 18), (u 19), (u 20), (u 21), .ref 368, .int tm', .ref 369, .ref 370, .ref 371, (u 27)])), (360, .inr (.inl (0, w))), (362, .inr (.inl (0, sd'))), (363, .inr (.inl (0, ot'))), (364, .inr (.inl (0, kp))), (368, .inr (.inl (0, tk'))), (369, .inr (.inl (0, od))), (370, .inr (.inl (0, be)))] h0) := by
  have hn5 := H.n5
  intro f
  induction f with
  | zero =>
    intro i v1 v2 sd ot tk tm lv h e hsd hot L K
    refine j_V.ldL mt8_M mt8_8 rfl (i := 3) (kd := 0) (v := .int (nI i)) (pcJ := 9) rfl L rfl rfl rfl ?_
    refine j_V.ldL mt8_M mt8_9 rfl (i := 0) (kd := 2) (v := .ref 359) (pcJ := 10) rfl L rfl rfl rfl ?_
    refine j_V.getK mt8_M mt8_10 (ci := 10) (j := 1) rfl K rfl rfl ?_
    refine j_V.one mt8_M mt8_13 (by decide) (pcJ := 16) (stJ := [.int 202, .ref 360, .int (nI i)]) rfl ?_
    refine j_V.iaA mt8_M mt8_16 K rfl ?_
    refine j_V.icmp mt8_M mt8_17 (t := 67) rfl (fun c17_0 => ?_) (fun c17_0 => ?_)
    · replace c17_0 : ¬ ((nI i) < (gA w 202)) := jd_ge c17_0
      refine j_V.ldL mt8_M mt8_67 rfl (i := 1) (kd := 0) (v := .int v1) (pcJ := 68) rfl L rfl rfl rfl ?_
      refine j_V.one mt8_M mt8_68 (by decide) (pcJ := 69) (stJ := [.int (-1), .int v1]) rfl ?_
      refine j_V.icmp mt8_M mt8_69 (t := 80) rfl (fun c69_0 => ?_) (fun c69_0 => ?_)
      · replace c69_0 : ¬ (v1 = (-1)) := jd_ne c69_0
        refine j_V.ldL mt8_M mt8_80 rfl (i := 0) (kd := 2) (v := .ref 359) (pcJ := 81) rfl L rfl rfl rfl ?_
        refine j_V.ldL mt8_M mt8_81 rfl (i := 1) (kd := 0) (v := .int v1) (pcJ := 82) rfl L rfl rfl rfl ?_
        refine j_V.cl mt8_M mt8_82 rfl (md := 3) (mj := 170) rfl (by decide) mo1_M (As := [.ref 359, .int v1]) (rest := []) (jk_spl3 (K.at rfl) rfl rfl rfl (Nat.le_of_ble_eq_true rfl) (Nat.le_of_ble_eq_true rfl)) (fun d => mo1_ok (u := fun j => [.int th, .ref 360, .ref 361, .ref 362, .ref 363, .ref 364, .ref 365, .ref 366, .ref 367, (u 9), .int sst, (u 11), (u 12), .int acs, (u 14), (u 15), (u 16), (u 17), (u 18), (u 19), (u 20), (u 21), .ref 368, .int tm, .ref 369, .ref 370, .ref 371, (u 27)].getD j .null) (K.fi [359] rfl rfl)) ?_
        rintro r h9 ⟨rfl, K9⟩
        have K : KN h9 [(359, .inl (10, [.int ((m_gives th sst v1).2.1), .ref 360, .ref 361, .ref 362, .ref 363, .ref 364, .ref 365, .ref 366, .ref 367, (u 9), .int ((m_gives th sst v1).2.2), (u 11), (u 12), .int acs, (u 14), (u 15), (u 16), (u 17), (u 18), (u 19), (u 20), (u 21), .ref 368, .int tm, .ref 369, .ref 370, .ref 371, (u 27)])), (360, .inr (.inl (0, w))), (362, .inr (.inl (0, sd))), (363, .inr (.inl (0, ot))), (364, .inr (.inl (0, kp))), (368, .inr (.inl (0, tk))), (369, .inr (.inl (0, od))), (370, .inr (.inl (0, be)))] h0 := K.mg K9 rfl rfl
        clear K9
        show j_V jP _ 280 85 lv [.int ((m_gives th sst v1).1)] h9 _
        refine j_V.ri mt8_M mt8_85 ?_
        rw [show (m_qbuild_l8 n th sst w 0 i v1 v2) = _ from ((if_neg c69_0).trans (rfl))]
        exact ⟨rfl, sd, ot, tk, tm, hsd, hot, K⟩
      · replace c69_0 : v1 = (-1) := jd_nen c69_0
        refine j_V.ldL mt8_M mt8_72 rfl (i := 0) (kd := 2) (v := .ref 359) (pcJ := 73) rfl L rfl rfl rfl ?_
        refine j_V.one mt8_M mt8_73 (by decide) (pcJ := 74) (stJ := [.int 5, .ref 359]) rfl ?_
        refine j_V.cl mt8_M mt8_74 rfl (md := 3) (mj := 169) rfl (by decide) mo0_M (As := [.ref 359, .int 5]) (rest := []) (jk_spl3 (K.at rfl) rfl rfl rfl (Nat.le_of_ble_eq_true rfl) (Nat.le_of_ble_eq_true rfl)) (fun d => mo0_ok (u := fun j => [.int th, .ref 360, .ref 361, .ref 362, .ref 363, .ref 364, .ref 365, .ref 366, .ref 367, (u 9), .int sst, (u 11), (u 12), .int acs, (u 14), (u 15), (u 16), (u 17), (u 18), (u 19), (u 20), (u 21), .ref 368, .int tm, .ref 369, .ref 370, .ref 371, (u 27)].getD j .null) (K.fi [359] rfl rfl)) ?_
        rintro r h9 ⟨rfl, K9⟩
        have K : KN h9 [(359, .inl (10, [.int ((m_refuse th sst 5).2.1), .ref 360, .ref 361, .ref 362, .ref 363, .ref 364, .ref 365, .ref 366, .ref 367, (u 9), .int ((m_refuse th sst 5).2.2), (u 11), (u 12), .int acs, (u 14), (u 15), (u 16), (u 17), (u 18), (u 19), (u 20), (u 21), .ref 368, .int tm, .ref 369, .ref 370, .ref 371, (u 27)])), (360, .inr (.inl (0, w))), (362, .inr (.inl (0, sd))), (363, .inr (.inl (0, ot))), (364, .inr (.inl (0, kp))), (368, .inr (.inl (0, tk))), (369, .inr (.inl (0, od))), (370, .inr (.inl (0, be)))] h0 := K.mg K9 rfl rfl
        clear K9
        show j_V jP _ 280 77 lv [.int ((m_refuse th sst 5).1)] h9 _
        refine j_V.gto mt8_M mt8_77 (t := 85) rfl ?_
        refine j_V.ri mt8_M mt8_85 ?_
        rw [show (m_qbuild_l8 n th sst w 0 i v1 v2) = _ from ((if_pos c69_0).trans (rfl))]
        exact ⟨rfl, sd, ot, tk, tm, hsd, hot, K⟩
    · replace c17_0 : (nI i) < (gA w 202) := jd_gen c17_0
      exact absurd c17_0 (lpN_z e.1)
  | succ f ih =>
    intro i v1 v2 sd ot tk tm lv h e hsd hot L K
    refine j_V.ldL mt8_M mt8_8 rfl (i := 3) (kd := 0) (v := .int (nI i)) (pcJ := 9) rfl L rfl rfl rfl ?_
    refine j_V.ldL mt8_M mt8_9 rfl (i := 0) (kd := 2) (v := .ref 359) (pcJ := 10) rfl L rfl rfl rfl ?_
    refine j_V.getK mt8_M mt8_10 (ci := 10) (j := 1) rfl K rfl rfl ?_
    refine j_V.one mt8_M mt8_13 (by decide) (pcJ := 16) (stJ := [.int 202, .ref 360, .int (nI i)]) rfl ?_
    refine j_V.iaA mt8_M mt8_16 K rfl ?_
    refine j_V.icmp mt8_M mt8_17 (t := 67) rfl (fun c17_0 => ?_) (fun c17_0 => ?_)
    · replace c17_0 : ¬ ((nI i) < (gA w 202)) := jd_ge c17_0
      exact absurd (lpN_s e.1) c17_0
    · replace c17_0 : (nI i) < (gA w 202) := jd_gen c17_0
      refine j_V.ldL mt8_M mt8_20 rfl (i := 0) (kd := 2) (v := .ref 359) (pcJ := 21) rfl L rfl rfl rfl ?_
      refine j_V.ldL mt8_M mt8_21 rfl (i := 3) (kd := 0) (v := .int (nI i)) (pcJ := 22) rfl L rfl rfl rfl ?_
      refine j_V.one mt8_M mt8_22 (by decide) (pcJ := 23) (stJ := [.int 1, .int (nI i), .ref 359]) rfl ?_
      refine j_V.cl mt8_M mt8_23 rfl (md := 3) (mj := 176) rfl (by decide) ma1_M (As := [.ref 359, .int (nI i), .int 1]) (rest := []) (jk_spl3 (K.at rfl) rfl rfl rfl (Nat.le_of_ble_eq_true rfl) (Nat.le_of_ble_eq_true rfl)) (fun d => ma1_ok (u := fun j => [.int th, .ref 360, .ref 361, .ref 362, .ref 363, .ref 364, .ref 365, .ref 366, .ref 367, (u 9), .int sst, (u 11), (u 12), .int acs, (u 14), (u 15), (u 16), (u 17), (u 18), (u 19), (u 20), (u 21), .ref 368, .int tm, .ref 369, .ref 370, .ref 371, (u 27)].getD j .null) (K.fi [359, 360] rfl rfl)) ?_
      rintro r hz ⟨rfl, ez⟩
      rw [ez]
      clear ez
      show j_V jP _ 280 26 lv [.int (m_st w (nI i) 1)] h _
      refine j_V.one mt8_M mt8_26 (by decide) (pcJ := 27) (stJ := [.int 3, .int (m_st w (nI i) 1)]) rfl ?_
      refine j_V.icmp mt8_M mt8_27 (t := 33) rfl (fun c27_0 => ?_) (fun c27_0 => ?_)
      · replace c27_0 : ¬ ((m_st w (nI i) 1) = 3) := jd_ne c27_0
        refine j_V.ldL mt8_M mt8_33 rfl (i := 0) (kd := 2) (v := .ref 359) (pcJ := 34) rfl L rfl rfl rfl ?_
        refine j_V.ldL mt8_M mt8_34 rfl (i := 3) (kd := 0) (v := .int (nI i)) (pcJ := 35) rfl L rfl rfl rfl ?_
        refine j_V.one mt8_M mt8_35 (by decide) (pcJ := 37) (stJ := [.int 99, .int (nI i), .ref 359]) rfl ?_
        refine j_V.cl mt8_M mt8_37 rfl (md := 3) (mj := 278) rfl (by decide) mt6_M (As := [.ref 359, .int (nI i), .int 99]) (rest := []) (jk_spl3 (K.at rfl) rfl rfl rfl (Nat.le_of_ble_eq_true rfl) (Nat.le_of_ble_eq_true rfl)) (fun d => mt6_ok (u := u) H H2 hI hsd hot (H2.W _ _ _ hI (H2.TS _ _ hI (by omega) (lpN_s e.1)) c27_0 (show ¬ m_isFrom 99 1 99 = 0 by decide)) K) ?_
        rintro r h9 ⟨rfl, sd17, ot17, tk17, tm17, hd17, ho17, K⟩
        show j_V jP _ 280 40 lv [.int (m_price (m_toTheEnd n (m_addTrack w (nI i) 99) 1))] h9 _
        refine j_V.stL mt8_M mt8_40 rfl (i := 4) (kd := 0) (kl' := [(0, .ref 359), (1, .int v1), (2, .int v2), (3, .int (nI i)), (4, .int (m_price (m_toTheEnd n (m_addTrack w (nI i) 99) 1)))]) (pcJ := 42) rfl L rfl (by decide) rfl rfl rfl (fun lv L => ?_)
        refine j_V.ldL mt8_M mt8_42 rfl (i := 4) (kd := 0) (v := .int (m_price (m_toTheEnd n (m_addTrack w (nI i) 99) 1))) (pcJ := 44) rfl L rfl rfl rfl ?_
        refine j_V.ldL mt8_M mt8_44 rfl (i := 2) (kd := 0) (v := .int v2) (pcJ := 45) rfl L rfl rfl rfl ?_
        refine j_V.icmp mt8_M mt8_45 (t := 52) rfl (fun c45_1 => ?_) (fun c45_1 => ?_)
        · replace c45_1 : ¬ ((m_price (m_toTheEnd n (m_addTrack w (nI i) 99) 1)) < v2) := jd_ge c45_1
          refine j_V.ldL mt8_M mt8_52 rfl (i := 1) (kd := 0) (v := .int v1) (pcJ := 53) rfl L rfl rfl rfl ?_
          refine j_V.stL mt8_M mt8_53 rfl (i := 1) (kd := 0) (kl' := [(0, .ref 359), (1, .int v1), (2, .int v2), (3, .int (nI i)), (4, .int (m_price (m_toTheEnd n (m_addTrack w (nI i) 99) 1)))]) (pcJ := 54) rfl L rfl (by decide) rfl rfl rfl (fun lv L => ?_)
          refine j_V.ldL mt8_M mt8_54 rfl (i := 2) (kd := 0) (v := .int v2) (pcJ := 55) rfl L rfl rfl rfl ?_
          refine j_V.ldL mt8_M mt8_55 rfl (i := 4) (kd := 0) (v := .int (m_price (m_toTheEnd n (m_addTrack w (nI i) 99) 1))) (pcJ := 57) rfl L rfl rfl rfl ?_
          refine j_V.mn mt8_M mt8_57 rfl rfl (Nat.le_of_ble_eq_true rfl) ?_
          refine j_V.stL mt8_M mt8_60 rfl (i := 2) (kd := 0) (kl' := [(0, .ref 359), (1, .int v1), (2, .int (iMn v2 (m_price (m_toTheEnd n (m_addTrack w (nI i) 99) 1)))), (3, .int (nI i)), (4, .int (m_price (m_toTheEnd n (m_addTrack w (nI i) 99) 1)))]) (pcJ := 61) rfl L rfl (by decide) rfl rfl rfl (fun lv L => ?_)
          refine j_V.inL mt8_M mt8_61 (i := 3) (kl' := [(0, .ref 359), (1, .int v1), (2, .int (iMn v2 (m_price (m_toTheEnd n (m_addTrack w (nI i) 99) 1)))), (3, .int ((nI i) + 1)), (4, .int (m_price (m_toTheEnd n (m_addTrack w (nI i) 99) 1)))]) (pcJ := 64) L rfl rfl rfl rfl (fun lv L => ?_)
          refine j_V.gto mt8_M mt8_64 (t := 8) rfl ?_
          rw [nI_one] at L
          rw [show (m_qbuild_l8 n th sst w (f + 1) i v1 v2) = _ from ((if_neg c27_0).trans ((if_neg c45_1).trans (rfl)))]
          exact ih (i + 1) _ _ ⟨by rw [← nI_one]; exact lpN_n e.1, by omega⟩ hd17 ho17 (L.sub ⟨rfl, rfl, rfl, rfl, trivial⟩) K
        · replace c45_1 : (m_price (m_toTheEnd n (m_addTrack w (nI i) 99) 1)) < v2 := jd_gen c45_1
          refine j_V.ldL mt8_M mt8_48 rfl (i := 3) (kd := 0) (v := .int (nI i)) (pcJ := 49) rfl L rfl rfl rfl ?_
          refine j_V.gto mt8_M mt8_49 (t := 53) rfl ?_
          refine j_V.stL mt8_M mt8_53 rfl (i := 1) (kd := 0) (kl' := [(0, .ref 359), (1, .int (nI i)), (2, .int v2), (3, .int (nI i)), (4, .int (m_price (m_toTheEnd n (m_addTrack w (nI i) 99) 1)))]) (pcJ := 54) rfl L rfl (by decide) rfl rfl rfl (fun lv L => ?_)
          refine j_V.ldL mt8_M mt8_54 rfl (i := 2) (kd := 0) (v := .int v2) (pcJ := 55) rfl L rfl rfl rfl ?_
          refine j_V.ldL mt8_M mt8_55 rfl (i := 4) (kd := 0) (v := .int (m_price (m_toTheEnd n (m_addTrack w (nI i) 99) 1))) (pcJ := 57) rfl L rfl rfl rfl ?_
          refine j_V.mn mt8_M mt8_57 rfl rfl (Nat.le_of_ble_eq_true rfl) ?_
          refine j_V.stL mt8_M mt8_60 rfl (i := 2) (kd := 0) (kl' := [(0, .ref 359), (1, .int (nI i)), (2, .int (iMn v2 (m_price (m_toTheEnd n (m_addTrack w (nI i) 99) 1)))), (3, .int (nI i)), (4, .int (m_price (m_toTheEnd n (m_addTrack w (nI i) 99) 1)))]) (pcJ := 61) rfl L rfl (by decide) rfl rfl rfl (fun lv L => ?_)
          refine j_V.inL mt8_M mt8_61 (i := 3) (kl' := [(0, .ref 359), (1, .int (nI i)), (2, .int (iMn v2 (m_price (m_toTheEnd n (m_addTrack w (nI i) 99) 1)))), (3, .int ((nI i) + 1)), (4, .int (m_price (m_toTheEnd n (m_addTrack w (nI i) 99) 1)))]) (pcJ := 64) L rfl rfl rfl rfl (fun lv L => ?_)
          refine j_V.gto mt8_M mt8_64 (t := 8) rfl ?_
          rw [nI_one] at L
          rw [show (m_qbuild_l8 n th sst w (f + 1) i v1 v2) = _ from ((if_neg c27_0).trans ((if_pos c45_1).trans (rfl)))]
          exact ih (i + 1) _ _ ⟨by rw [← nI_one]; exact lpN_n e.1, by omega⟩ hd17 ho17 (L.sub ⟨rfl, rfl, rfl, rfl, trivial⟩) K
      · replace c27_0 : (m_st w (nI i) 1) = 3 := jd_nen c27_0
        refine j_V.gto mt8_M mt8_30 (t := 61) rfl ?_
        refine j_V.inL mt8_M mt8_61 (i := 3) (kl' := [(0, .ref 359), (1, .int v1), (2, .int v2), (3, .int ((nI i) + 1))]) (pcJ := 64) L rfl rfl rfl rfl (fun lv L => ?_)
        refine j_V.gto mt8_M mt8_64 (t := 8) rfl ?_
        rw [nI_one] at L
        rw [show (m_qbuild_l8 n th sst w (f + 1) i v1 v2) = _ from ((if_pos c27_0).trans (rfl))]
        exact ih (i + 1) _ _ ⟨by rw [← nI_one]; exact lpN_n e.1, by omega⟩ hsd hot L K
def m_qbuild (n : Nat) (th : Int32) (sst : Int32) (w : List Int32) : Int32 × Int32 × Int32 := (m_qbuild_l8 n th sst w (lpN (gA w 202) (nI 0)) 0 (-1) (2147483647 : Int32))
set_option maxRecDepth 1000000 in
theorem mt8_ok {u : Nat → Value} {n d : Nat} {h h0 : J_H} {th sst acs tm  : Int32} {w sd ot kp tk od be : List Int32} {I J : List Int32 → Prop} (H : m_Inv n I J) (H2 : m_Iv2 n I) (hI : I w) (hsd : sd.length = 602) (hot : ot.length = 602) (K : KN h [(359, .inl (10, [.int th, .ref 360, .ref 361, .ref 362, .ref 363, .ref 364, .ref 365, .ref 366, .ref 367, (u 9), .int sst, (u 11), (u 12), .int acs, (u 14), (u 15), (u 16), (u 17), (u 18), (u 19), (u 20), (u 21), .ref 368, .int tm, .ref 369, .ref 370, .ref 371, (u 27)])), (360, .inr (.inl (0, w))), (362, .inr (.inl (0, sd))), (363, .inr (.inl (0, ot))), (364, .inr (.inl (0, kp))), (368, .inr (.inl (0, tk))), (369, .inr (.inl (0, od))), (370, .inr (.inl (0, be)))] h0) : j_V jP d 280 0 (lv_args 0 [.ref 359]) [] h (fun rv h' => rv = some (.int (m_qbuild n th sst w).1) ∧ ∃ (sd' ot' tk' : List Int32) (tm' : Int32), sd'.length = 602 ∧ ot'.length = 602 ∧ KN h' [(359, .inl (10, [.int (m_qbuild n th sst w).2.1, .ref 360, .ref 361, .ref 362, .ref 363, .ref 364, .ref 365, .ref 366, .ref 367, (u 9), .int (m_qbuild n th sst w).2.2, (u 11), (u 12), .int acs, (u 14), (u 15), (u 16), (u 17), (u 18), (u 19), (u 20), (u 21), .ref 368, .int tm', .ref 369, .ref 370, .ref 371, (u 27)])), (360, .inr (.inl (0, w))), (362, .inr (.inl (0, sd'))), (363, .inr (.inl (0, ot'))), (364, .inr (.inl (0, kp))), (368, .inr (.inl (0, tk'))), (369, .inr (.inl (0, od))), (370, .inr (.inl (0, be)))] h0) := by
  show j_V jP d 280 0 [(0, .ref 359)] [] h _
  obtain ⟨lv, elv, L⟩ : ∃ lv, lv = [(0, .ref 359)] ∧ LK lv [(0, .ref 359)] := ⟨_, rfl, LK.rf⟩
  rw [← elv]
  clear elv
  refine j_V.one mt8_M mt8_0 (by decide) (pcJ := 1) (stJ := [.int (-1)]) rfl ?_
  refine j_V.stL mt8_M mt8_1 rfl (i := 1) (kd := 0) (kl' := [(0, .ref 359), (1, .int (-1))]) (pcJ := 2) rfl L rfl (by decide) rfl rfl rfl (fun lv L => ?_)
  refine j_V.one mt8_M mt8_2 (by decide) (pcJ := 5) (stJ := [.int (2147483647 : Int32)]) rfl ?_
  refine j_V.stL mt8_M mt8_5 rfl (i := 2) (kd := 0) (kl' := [(0, .ref 359), (1, .int (-1)), (2, .int (2147483647 : Int32))]) (pcJ := 6) rfl L rfl (by decide) rfl rfl rfl (fun lv L => ?_)
  refine j_V.one mt8_M mt8_6 (by decide) (pcJ := 7) (stJ := [.int 0]) rfl ?_
  refine j_V.stL mt8_M mt8_7 rfl (i := 3) (kd := 0) (kl' := [(0, .ref 359), (1, .int (-1)), (2, .int (2147483647 : Int32)), (3, .int 0)]) (pcJ := 8) rfl L rfl (by decide) rfl rfl rfl (fun lv L => ?_)
  have L : LK lv [(0, .ref 359), (1, .int (-1)), (2, .int (2147483647 : Int32)), (3, .int (nI 0))] := L
  rw [show (m_qbuild n th sst w) = (m_qbuild_l8 n th sst w (lpN (gA w 202) (nI 0)) 0 (-1) (2147483647 : Int32)) from (rfl)]
  exact mt8_ok_l8 H H2 hI  (lpN (gA w 202) (nI 0)) 0 (-1) (2147483647 : Int32) ⟨rfl, lpN_lt⟩ hsd hot L K
set_option maxRecDepth 100000 in
theorem mt9_M : j_meth jP 249 = some (yX10_risks, cX10_risks, 4, (some .int), 0, false, 10) := rfl
set_option maxRecDepth 100000 in
theorem mt9_0 : j_code jP 249 0 = some (.iconst 0) := rfl
set_option maxRecDepth 100000 in
theorem mt9_1 : j_code jP 249 1 = some (.istore_n 1) := rfl
set_option maxRecDepth 100000 in
theorem mt9_2 : j_code jP 249 2 = some (.iconst 0) := rfl
set_option maxRecDepth 100000 in
theorem mt9_3 : j_code jP 249 3 = some (.istore_n 2) := rfl
set_option maxRecDepth 100000 in
theorem mt9_4 : j_code jP 249 4 = some (.iload_n 2) := rfl
set_option maxRecDepth 100000 in
theorem mt9_5 : j_code jP 249 5 = some (.aload_n 0) := rfl
set_option maxRecDepth 100000 in
theorem mt9_6 : j_code jP 249 6 = some (.getfield 7) := rfl
set_option maxRecDepth 100000 in
theorem mt9_9 : j_code jP 249 9 = some (.sipush 203) := rfl
set_option maxRecDepth 100000 in
theorem mt9_12 : j_code jP 249 12 = some (.iaload) := rfl
set_option maxRecDepth 100000 in
theorem mt9_13 : j_code jP 249 13 = some (.if_icmp .ge 66) := rfl
set_option maxRecDepth 100000 in
theorem mt9_16 : j_code jP 249 16 = some (.aload_n 0) := rfl
set_option maxRecDepth 100000 in
theorem mt9_17 : j_code jP 249 17 = some (.iload_n 2) := rfl
set_option maxRecDepth 100000 in
theorem mt9_18 : j_code jP 249 18 = some (.invokevirtual 250) := rfl
set_option maxRecDepth 100000 in
theorem mt9_21 : j_code jP 249 21 = some (.ifCond .eq 6) := rfl
set_option maxRecDepth 100000 in
theorem mt9_24 : j_code jP 249 24 = some (.goto 49) := rfl
set_option maxRecDepth 100000 in
theorem mt9_27 : j_code jP 249 27 = some (.aload_n 0) := rfl
set_option maxRecDepth 100000 in
theorem mt9_28 : j_code jP 249 28 = some (.getfield 7) := rfl
set_option maxRecDepth 100000 in
theorem mt9_31 : j_code jP 249 31 = some (.aload_n 0) := rfl
set_option maxRecDepth 100000 in
theorem mt9_32 : j_code jP 249 32 = some (.getfield 19) := rfl
set_option maxRecDepth 100000 in
theorem mt9_35 : j_code jP 249 35 = some (.invokestatic 188) := rfl
set_option maxRecDepth 100000 in
theorem mt9_38 : j_code jP 249 38 = some (.aload_n 0) := rfl
set_option maxRecDepth 100000 in
theorem mt9_39 : j_code jP 249 39 = some (.iload_n 2) := rfl
set_option maxRecDepth 100000 in
theorem mt9_40 : j_code jP 249 40 = some (.invokevirtual 253) := rfl
set_option maxRecDepth 100000 in
theorem mt9_43 : j_code jP 249 43 = some (.aload_n 0) := rfl
set_option maxRecDepth 100000 in
theorem mt9_44 : j_code jP 249 44 = some (.invokevirtual 256) := rfl
set_option maxRecDepth 100000 in
theorem mt9_47 : j_code jP 249 47 = some (.istore_n 3) := rfl
set_option maxRecDepth 100000 in
theorem mt9_48 : j_code jP 249 48 = some (.aload_n 0) := rfl
set_option maxRecDepth 100000 in
theorem mt9_49 : j_code jP 249 49 = some (.getfield 19) := rfl
set_option maxRecDepth 100000 in
theorem mt9_52 : j_code jP 249 52 = some (.aload_n 0) := rfl
set_option maxRecDepth 100000 in
theorem mt9_53 : j_code jP 249 53 = some (.getfield 7) := rfl
set_option maxRecDepth 100000 in
theorem mt9_56 : j_code jP 249 56 = some (.invokestatic 188) := rfl
set_option maxRecDepth 100000 in
theorem mt9_59 : j_code jP 249 59 = some (.iload_n 1) := rfl
set_option maxRecDepth 100000 in
theorem mt9_60 : j_code jP 249 60 = some (.iload_n 3) := rfl
set_option maxRecDepth 100000 in
theorem mt9_61 : j_code jP 249 61 = some (.ifCond .eq 7) := rfl
set_option maxRecDepth 100000 in
theorem mt9_64 : j_code jP 249 64 = some (.iconst 0) := rfl
set_option maxRecDepth 100000 in
theorem mt9_65 : j_code jP 249 65 = some (.goto 6) := rfl
set_option maxRecDepth 100000 in
theorem mt9_68 : j_code jP 249 68 = some (.iconst 1) := rfl
set_option maxRecDepth 100000 in
theorem mt9_69 : j_code jP 249 69 = some (.iload_n 2) := rfl
set_option maxRecDepth 100000 in
theorem mt9_70 : j_code jP 249 70 = some (.ishl) := rfl
set_option maxRecDepth 100000 in
theorem mt9_71 : j_code jP 249 71 = some (.ior) := rfl
set_option maxRecDepth 100000 in
theorem mt9_72 : j_code jP 249 72 = some (.istore_n 1) := rfl
set_option maxRecDepth 100000 in
theorem mt9_73 : j_code jP 249 73 = some (.iinc 2 1) := rfl
set_option maxRecDepth 100000 in
theorem mt9_76 : j_code jP 249 76 = some (.goto (-72)) := rfl
set_option maxRecDepth 100000 in
theorem mt9_79 : j_code jP 249 79 = some (.aload_n 0) := rfl
set_option maxRecDepth 100000 in
theorem mt9_80 : j_code jP 249 80 = some (.iload_n 1) := rfl
set_option maxRecDepth 100000 in
theorem mt9_81 : j_code jP 249 81 = some (.invokevirtual 195) := rfl
set_option maxRecDepth 100000 in
theorem mt9_84 : j_code jP 249 84 = some (.ireturn) := rfl
def m_qrisks_l4 (n : Nat) (th : Int32) (sst : Int32) (w : List Int32) : Nat → Nat → Int32 → Int32 × Int32 × Int32
  | 0, i, v1 => (((m_gives th sst v1).1), ((m_gives th sst v1).2.1), ((m_gives th sst v1).2.2))
  | f + 1, i, v1 => (if (m_whyNot w (nI i)) = 0 then (if (m_isSafe (m_sets w (nI i)) n) = 0 then (m_qrisks_l4 n th sst w f (i + 1) (v1 ||| (1 <<< ((nI i) &&& 31)))) else (m_qrisks_l4 n th sst w f (i + 1) (v1 ||| 0))) else (m_qrisks_l4 n th sst w f (i + 1) v1))
set_option maxRecDepth 1000000 in
theorem mt9_ok_l4 {u : Nat → Value} {n d : Nat} {h0 : J_H} {th sst acs  : Int32} {w kp od be : List Int32}  {I J : List Int32 → Prop} (H : m_Inv n I J) (H2 : m_Iv2 n I) (hI : I w)  : ∀ (f i : Nat) (v1 : Int32) {sd ot tk : List Int32} {tm : Int32} {lv : J_L} {h : J_H}, i + f = n → sd.length = 602 → ot.length = 602 → LK lv [(0, .ref 359), (1, .int v1), (2, .int (nI i))] → KN h [(359, .inl (10, [.int th, .ref 360, .ref 361, .ref 362, .ref 363, .ref 364, .ref 365, .ref 366, .ref 367, (u 9), .int sst, (u 11), (u 12), .int acs, (u 14), (u 15), (u 16), (u 17), (u 18), (u 19), (u 20), (u 21), .ref 368, .int tm, .ref 369, .ref 370, .ref 371, (u 27)])), (360, .inr (.inl (0, w))), (362, .inr (.inl (0, sd))), (363, .inr (.inl (0, ot))), (364, .inr (.inl (0, kp))), (368, .inr (.inl (0, tk))), (369, .inr (.inl (0, od))), (370, .inr (.inl (0, be)))] h0 → j_V jP d 249 4 lv [] h (fun rv h' => rv = some (.int (m_qrisks_l4 n th sst w f i v1).1) ∧ ∃ (sd' ot' tk' : List Int32) (tm' : Int32), sd'.length = 602 ∧ ot'.length = 602 ∧ KN h' [(359, .inl (10, [.int (m_qrisks_l4 n th sst w f i v1).2.1, .ref 360, .ref 361, .ref 362, .ref 363, .ref 364, .ref 365, .ref 366, .ref 367, (u 9), .int (m_qrisks_l4 n th sst w f i v1).2.2, (u 11), (u 12), .int acs, (u 14), (u 15), (u 16), (u 17), (u 18), (u 19), (u 20), (u 21), .ref 368, .int tm', .ref 369, .ref 370, .ref 371, (u 27)])), (360, .inr (.inl (0, w))), (362, .inr (.inl (0, sd'))), (363, .inr (.inl (0, ot'))), (364, .inr (.inl (0, kp))), (368, .inr (.inl (0, tk'))), (369, .inr (.inl (0, od))), (370, .inr (.inl (0, be)))] h0) := by
  have hn5 := H.n5
  intro f
  induction f with
  | zero =>
    intro i v1 sd ot tk tm lv h e hsd hot L K
    refine j_V.ldL mt9_M mt9_4 rfl (i := 2) (kd := 0) (v := .int (nI i)) (pcJ := 5) rfl L rfl rfl rfl ?_
    refine j_V.ldL mt9_M mt9_5 rfl (i := 0) (kd := 2) (v := .ref 359) (pcJ := 6) rfl L rfl rfl rfl ?_
    refine j_V.getK mt9_M mt9_6 (ci := 10) (j := 1) rfl K rfl rfl ?_
    refine j_V.one mt9_M mt9_9 (by decide) (pcJ := 12) (stJ := [.int 203, .ref 360, .int (nI i)]) rfl ?_
    refine j_V.iaA mt9_M mt9_12 K rfl ?_
    refine j_V.icmp mt9_M mt9_13 (t := 79) rfl (fun c13_0 => ?_) (fun c13_0 => ?_)
    · replace c13_0 : ¬ ((nI i) < (gA w 203)) := jd_ge c13_0
      refine j_V.ldL mt9_M mt9_79 rfl (i := 0) (kd := 2) (v := .ref 359) (pcJ := 80) rfl L rfl rfl rfl ?_
      refine j_V.ldL mt9_M mt9_80 rfl (i := 1) (kd := 0) (v := .int v1) (pcJ := 81) rfl L rfl rfl rfl ?_
      refine j_V.cl mt9_M mt9_81 rfl (md := 3) (mj := 170) rfl (by decide) mo1_M (As := [.ref 359, .int v1]) (rest := []) (jk_spl3 (K.at rfl) rfl rfl rfl (Nat.le_of_ble_eq_true rfl) (Nat.le_of_ble_eq_true rfl)) (fun d => mo1_ok (u := fun j => [.int th, .ref 360, .ref 361, .ref 362, .ref 363, .ref 364, .ref 365, .ref 366, .ref 367, (u 9), .int sst, (u 11), (u 12), .int acs, (u 14), (u 15), (u 16), (u 17), (u 18), (u 19), (u 20), (u 21), .ref 368, .int tm, .ref 369, .ref 370, .ref 371, (u 27)].getD j .null) (K.fi [359] rfl rfl)) ?_
      rintro r h9 ⟨rfl, K9⟩
      have K : KN h9 [(359, .inl (10, [.int ((m_gives th sst v1).2.1), .ref 360, .ref 361, .ref 362, .ref 363, .ref 364, .ref 365, .ref 366, .ref 367, (u 9), .int ((m_gives th sst v1).2.2), (u 11), (u 12), .int acs, (u 14), (u 15), (u 16), (u 17), (u 18), (u 19), (u 20), (u 21), .ref 368, .int tm, .ref 369, .ref 370, .ref 371, (u 27)])), (360, .inr (.inl (0, w))), (362, .inr (.inl (0, sd))), (363, .inr (.inl (0, ot))), (364, .inr (.inl (0, kp))), (368, .inr (.inl (0, tk))), (369, .inr (.inl (0, od))), (370, .inr (.inl (0, be)))] h0 := K.mg K9 rfl rfl
      clear K9
      show j_V jP _ 249 84 lv [.int ((m_gives th sst v1).1)] h9 _
      refine j_V.ri mt9_M mt9_84 ?_
      rw [show (m_qrisks_l4 n th sst w 0 i v1) = _ from (rfl)]
      exact ⟨rfl, sd, ot, tk, tm, hsd, hot, K⟩
    · replace c13_0 : (nI i) < (gA w 203) := jd_gen c13_0
      exact absurd c13_0 (by rw [(H.I1 _ hI).2, nI_lt9 (by omega) (by omega)]; omega)
  | succ f ih =>
    intro i v1 sd ot tk tm lv h e hsd hot L K
    refine j_V.ldL mt9_M mt9_4 rfl (i := 2) (kd := 0) (v := .int (nI i)) (pcJ := 5) rfl L rfl rfl rfl ?_
    refine j_V.ldL mt9_M mt9_5 rfl (i := 0) (kd := 2) (v := .ref 359) (pcJ := 6) rfl L rfl rfl rfl ?_
    refine j_V.getK mt9_M mt9_6 (ci := 10) (j := 1) rfl K rfl rfl ?_
    refine j_V.one mt9_M mt9_9 (by decide) (pcJ := 12) (stJ := [.int 203, .ref 360, .int (nI i)]) rfl ?_
    refine j_V.iaA mt9_M mt9_12 K rfl ?_
    refine j_V.icmp mt9_M mt9_13 (t := 79) rfl (fun c13_0 => ?_) (fun c13_0 => ?_)
    · replace c13_0 : ¬ ((nI i) < (gA w 203)) := jd_ge c13_0
      exact absurd (show nI i < gA w 203 by rw [(H.I1 _ hI).2, nI_lt9 (by omega) (by omega)]; omega) c13_0
    · replace c13_0 : (nI i) < (gA w 203) := jd_gen c13_0
      refine j_V.ldL mt9_M mt9_16 rfl (i := 0) (kd := 2) (v := .ref 359) (pcJ := 17) rfl L rfl rfl rfl ?_
      refine j_V.ldL mt9_M mt9_17 rfl (i := 2) (kd := 0) (v := .int (nI i)) (pcJ := 18) rfl L rfl rfl rfl ?_
      refine j_V.cl mt9_M mt9_18 rfl (md := 3) (mj := 214) rfl (by decide) mb5_M (As := [.ref 359, .int (nI i)]) (rest := []) (jk_spl3 (K.at rfl) rfl rfl rfl (Nat.le_of_ble_eq_true rfl) (Nat.le_of_ble_eq_true rfl)) (fun d => mb5_ok (u := fun j => [.int th, .ref 360, .ref 361, .ref 362, .ref 363, .ref 364, .ref 365, .ref 366, .ref 367, (u 9), .int sst, (u 11), (u 12), .int acs, (u 14), (u 15), (u 16), (u 17), (u 18), (u 19), (u 20), (u 21), .ref 368, .int tm, .ref 369, .ref 370, .ref 371, (u 27)].getD j .null) (K.fi [359, 360] rfl rfl)) ?_
      rintro r hz ⟨rfl, ez⟩
      rw [ez]
      clear ez
      show j_V jP _ 249 21 lv [.int (m_whyNot w (nI i))] h _
      refine j_V.ifc mt9_M mt9_21 (t := 27) rfl (fun c21_0 => ?_) (fun c21_0 => ?_)
      · replace c21_0 : (m_whyNot w (nI i)) = 0 := jd_eq c21_0
        refine j_V.ldL mt9_M mt9_27 rfl (i := 0) (kd := 2) (v := .ref 359) (pcJ := 28) rfl L rfl rfl rfl ?_
        refine j_V.getK mt9_M mt9_28 (ci := 10) (j := 1) rfl K rfl rfl ?_
        refine j_V.ldL mt9_M mt9_31 rfl (i := 0) (kd := 2) (v := .ref 359) (pcJ := 32) rfl L rfl rfl rfl ?_
        refine j_V.getK mt9_M mt9_32 (ci := 10) (j := 4) rfl K rfl rfl ?_
        refine j_V.cl mt9_M mt9_35 rfl (md := 2) (mj := 201) rfl (by decide) mi0_M (As := [.ref 360, .ref 363]) (rest := []) (jk_spl2 rfl rfl (Nat.le_of_ble_eq_true rfl) (Nat.le_of_ble_eq_true rfl)) (fun d => mi0_ok (K.fi [360, 363] rfl rfl)) ?_
        rintro r h9 ⟨rfl, K9⟩
        have K : KN h9 [(359, .inl (10, [.int th, .ref 360, .ref 361, .ref 362, .ref 363, .ref 364, .ref 365, .ref 366, .ref 367, (u 9), .int sst, (u 11), (u 12), .int acs, (u 14), (u 15), (u 16), (u 17), (u 18), (u 19), (u 20), (u 21), .ref 368, .int tm, .ref 369, .ref 370, .ref 371, (u 27)])), (360, .inr (.inl (0, w))), (362, .inr (.inl (0, sd))), (363, .inr (.inl (0, ((m_copies w ot))))), (364, .inr (.inl (0, kp))), (368, .inr (.inl (0, tk))), (369, .inr (.inl (0, od))), (370, .inr (.inl (0, be)))] h0 := K.mg K9 rfl rfl
        clear K9
        show j_V jP _ 249 38 lv [] h9 _
        rw [m_cp (H.I1 _ hI).1 hot] at K
        refine j_V.ldL mt9_M mt9_38 rfl (i := 0) (kd := 2) (v := .ref 359) (pcJ := 39) rfl L rfl rfl rfl ?_
        refine j_V.ldL mt9_M mt9_39 rfl (i := 2) (kd := 0) (v := .int (nI i)) (pcJ := 40) rfl L rfl rfl rfl ?_
        refine j_V.cl mt9_M mt9_40 rfl (md := 3) (mj := 216) rfl (by decide) me2_M (As := [.ref 359, .int (nI i)]) (rest := []) (jk_spl3 (K.at rfl) rfl rfl rfl (Nat.le_of_ble_eq_true rfl) (Nat.le_of_ble_eq_true rfl)) (fun d => me2_ok (u := fun j => [.int th, .ref 360, .ref 361, .ref 362, .ref 363, .ref 364, .ref 365, .ref 366, .ref 367, (u 9), .int sst, (u 11), (u 12), .int acs, (u 14), (u 15), (u 16), (u 17), (u 18), (u 19), (u 20), (u 21), .ref 368, .int tm, .ref 369, .ref 370, .ref 371, (u 27)].getD j .null) (K.fi [359, 360] rfl rfl)) ?_
        rintro r h9 ⟨rfl, K9⟩
        have K : KN h9 [(359, .inl (10, [.int th, .ref 360, .ref 361, .ref 362, .ref 363, .ref 364, .ref 365, .ref 366, .ref 367, (u 9), .int sst, (u 11), (u 12), .int acs, (u 14), (u 15), (u 16), (u 17), (u 18), (u 19), (u 20), (u 21), .ref 368, .int tm, .ref 369, .ref 370, .ref 371, (u 27)])), (360, .inr (.inl (0, (m_sets w (nI i))))), (362, .inr (.inl (0, sd))), (363, .inr (.inl (0, w))), (364, .inr (.inl (0, kp))), (368, .inr (.inl (0, tk))), (369, .inr (.inl (0, od))), (370, .inr (.inl (0, be)))] h0 := K.mg K9 rfl rfl
        clear K9
        show j_V jP _ 249 43 lv [] h9 _
        refine j_V.ldL mt9_M mt9_43 rfl (i := 0) (kd := 2) (v := .ref 359) (pcJ := 44) rfl L rfl rfl rfl ?_
        refine j_V.cl mt9_M mt9_44 rfl (md := 3) (mj := 219) rfl (by decide) mh1_M (As := [.ref 359]) (rest := []) (jk_spl3 (K.at rfl) rfl rfl rfl (Nat.le_of_ble_eq_true rfl) (Nat.le_of_ble_eq_true rfl)) (fun d => mh1_ok (u := fun j => [.int th, .ref 360, .ref 361, .ref 362, .ref 363, .ref 364, .ref 365, .ref 366, .ref 367, (u 9), .int sst, (u 11), (u 12), .int acs, (u 14), (u 15), (u 16), (u 17), (u 18), (u 19), (u 20), (u 21), .ref 368, .int tm, .ref 369, .ref 370, .ref 371, (u 27)].getD j .null) (H.S2 _ _ hI (H2.TT _ _ (by omega) hI) c21_0) (K.fi [359, 360, 368] rfl rfl)) ?_
        rintro r h9 ⟨rfl, K9⟩
        have K : KN h9 [(359, .inl (10, [.int th, .ref 360, .ref 361, .ref 362, .ref 363, .ref 364, .ref 365, .ref 366, .ref 367, (u 9), .int sst, (u 11), (u 12), .int acs, (u 14), (u 15), (u 16), (u 17), (u 18), (u 19), (u 20), (u 21), .ref 368, .int (m_sf (m_sets w (nI i)) n tk).2.2, .ref 369, .ref 370, .ref 371, (u 27)])), (360, .inr (.inl (0, (m_sets w (nI i))))), (362, .inr (.inl (0, sd))), (363, .inr (.inl (0, w))), (364, .inr (.inl (0, kp))), (368, .inr (.inl (0, (m_sf (m_sets w (nI i)) n tk).2.1))), (369, .inr (.inl (0, od))), (370, .inr (.inl (0, be)))] h0 := K.mg K9 rfl rfl
        clear K9
        show j_V jP _ 249 47 lv [.int (m_isSafe (m_sets w (nI i)) n)] h9 _
        refine j_V.stL mt9_M mt9_47 rfl (i := 3) (kd := 0) (kl' := [(0, .ref 359), (1, .int v1), (2, .int (nI i)), (3, .int (m_isSafe (m_sets w (nI i)) n))]) (pcJ := 48) rfl L rfl (by decide) rfl rfl rfl (fun lv L => ?_)
        refine j_V.ldL mt9_M mt9_48 rfl (i := 0) (kd := 2) (v := .ref 359) (pcJ := 49) rfl L rfl rfl rfl ?_
        refine j_V.getK mt9_M mt9_49 (ci := 10) (j := 4) rfl K rfl rfl ?_
        refine j_V.ldL mt9_M mt9_52 rfl (i := 0) (kd := 2) (v := .ref 359) (pcJ := 53) rfl L rfl rfl rfl ?_
        refine j_V.getK mt9_M mt9_53 (ci := 10) (j := 1) rfl K rfl rfl ?_
        refine j_V.cl mt9_M mt9_56 rfl (md := 2) (mj := 201) rfl (by decide) mi1_M (As := [.ref 363, .ref 360]) (rest := []) (jk_spl2 rfl rfl (Nat.le_of_ble_eq_true rfl) (Nat.le_of_ble_eq_true rfl)) (fun d => mi1_ok (K.fi [360, 363] rfl rfl)) ?_
        rintro r h9 ⟨rfl, K9⟩
        have K : KN h9 [(359, .inl (10, [.int th, .ref 360, .ref 361, .ref 362, .ref 363, .ref 364, .ref 365, .ref 366, .ref 367, (u 9), .int sst, (u 11), (u 12), .int acs, (u 14), (u 15), (u 16), (u 17), (u 18), (u 19), (u 20), (u 21), .ref 368, .int (m_sf (m_sets w (nI i)) n tk).2.2, .ref 369, .ref 370, .ref 371, (u 27)])), (360, .inr (.inl (0, ((m_copies w (m_sets w (nI i))))))), (362, .inr (.inl (0, sd))), (363, .inr (.inl (0, w))), (364, .inr (.inl (0, kp))), (368, .inr (.inl (0, (m_sf (m_sets w (nI i)) n tk).2.1))), (369, .inr (.inl (0, od))), (370, .inr (.inl (0, be)))] h0 := K.mg K9 rfl rfl
        clear K9
        show j_V jP _ 249 59 lv [] h9 _
        rw [m_cp (H.I1 _ hI).1 (by rw [m_sets_len]; exact (H.I1 _ hI).1)] at K
        refine j_V.ldL mt9_M mt9_59 rfl (i := 1) (kd := 0) (v := .int v1) (pcJ := 60) rfl L rfl rfl rfl ?_
        refine j_V.ldL mt9_M mt9_60 rfl (i := 3) (kd := 0) (v := .int (m_isSafe (m_sets w (nI i)) n)) (pcJ := 61) rfl L rfl rfl rfl ?_
        refine j_V.ifc mt9_M mt9_61 (t := 68) rfl (fun c61_1 => ?_) (fun c61_1 => ?_)
        · replace c61_1 : (m_isSafe (m_sets w (nI i)) n) = 0 := jd_eq c61_1
          refine j_V.one mt9_M mt9_68 (by decide) (pcJ := 69) (stJ := [.int 1, .int v1]) rfl ?_
          refine j_V.ldL mt9_M mt9_69 rfl (i := 2) (kd := 0) (v := .int (nI i)) (pcJ := 70) rfl L rfl rfl rfl ?_
          refine j_V.one mt9_M mt9_70 (by decide) (pcJ := 71) (stJ := [.int (1 <<< ((nI i) &&& 31)), .int v1]) rfl ?_
          refine j_V.one mt9_M mt9_71 (by decide) (pcJ := 72) (stJ := [.int (v1 ||| (1 <<< ((nI i) &&& 31)))]) rfl ?_
          refine j_V.stL mt9_M mt9_72 rfl (i := 1) (kd := 0) (kl' := [(0, .ref 359), (1, .int (v1 ||| (1 <<< ((nI i) &&& 31)))), (2, .int (nI i)), (3, .int (m_isSafe (m_sets w (nI i)) n))]) (pcJ := 73) rfl L rfl (by decide) rfl rfl rfl (fun lv L => ?_)
          refine j_V.inL mt9_M mt9_73 (i := 2) (kl' := [(0, .ref 359), (1, .int (v1 ||| (1 <<< ((nI i) &&& 31)))), (2, .int ((nI i) + 1)), (3, .int (m_isSafe (m_sets w (nI i)) n))]) (pcJ := 76) L rfl rfl rfl rfl (fun lv L => ?_)
          refine j_V.gto mt9_M mt9_76 (t := 4) rfl ?_
          rw [nI_one] at L
          rw [show (m_qrisks_l4 n th sst w (f + 1) i v1) = _ from ((if_pos c21_0).trans ((if_pos c61_1).trans (rfl)))]
          exact ih (i + 1) _ (by omega) hsd (H.I1 _ hI).1 (L.sub ⟨rfl, rfl, rfl, trivial⟩) K
        · replace c61_1 : ¬ ((m_isSafe (m_sets w (nI i)) n) = 0) := jd_eqn c61_1
          refine j_V.one mt9_M mt9_64 (by decide) (pcJ := 65) (stJ := [.int 0, .int v1]) rfl ?_
          refine j_V.gto mt9_M mt9_65 (t := 71) rfl ?_
          refine j_V.one mt9_M mt9_71 (by decide) (pcJ := 72) (stJ := [.int (v1 ||| 0)]) rfl ?_
          refine j_V.stL mt9_M mt9_72 rfl (i := 1) (kd := 0) (kl' := [(0, .ref 359), (1, .int (v1 ||| 0)), (2, .int (nI i)), (3, .int (m_isSafe (m_sets w (nI i)) n))]) (pcJ := 73) rfl L rfl (by decide) rfl rfl rfl (fun lv L => ?_)
          refine j_V.inL mt9_M mt9_73 (i := 2) (kl' := [(0, .ref 359), (1, .int (v1 ||| 0)), (2, .int ((nI i) + 1)), (3, .int (m_isSafe (m_sets w (nI i)) n))]) (pcJ := 76) L rfl rfl rfl rfl (fun lv L => ?_)
          refine j_V.gto mt9_M mt9_76 (t := 4) rfl ?_
          rw [nI_one] at L
          rw [show (m_qrisks_l4 n th sst w (f + 1) i v1) = _ from ((if_pos c21_0).trans ((if_neg c61_1).trans (rfl)))]
          exact ih (i + 1) _ (by omega) hsd (H.I1 _ hI).1 (L.sub ⟨rfl, rfl, rfl, trivial⟩) K
      · replace c21_0 : ¬ ((m_whyNot w (nI i)) = 0) := jd_eqn c21_0
        refine j_V.gto mt9_M mt9_24 (t := 73) rfl ?_
        refine j_V.inL mt9_M mt9_73 (i := 2) (kl' := [(0, .ref 359), (1, .int v1), (2, .int ((nI i) + 1))]) (pcJ := 76) L rfl rfl rfl rfl (fun lv L => ?_)
        refine j_V.gto mt9_M mt9_76 (t := 4) rfl ?_
        rw [nI_one] at L
        rw [show (m_qrisks_l4 n th sst w (f + 1) i v1) = _ from ((if_neg c21_0).trans (rfl))]
        exact ih (i + 1) _ (by omega) hsd hot L K
def m_qrisks (n : Nat) (th : Int32) (sst : Int32) (w : List Int32) : Int32 × Int32 × Int32 := (m_qrisks_l4 n th sst w n 0 0)
set_option maxRecDepth 1000000 in
theorem mt9_ok {u : Nat → Value} {n d : Nat} {h h0 : J_H} {th sst acs tm  : Int32} {w sd ot kp tk od be : List Int32} {I J : List Int32 → Prop} (H : m_Inv n I J) (H2 : m_Iv2 n I) (hI : I w) (hsd : sd.length = 602) (hot : ot.length = 602) (K : KN h [(359, .inl (10, [.int th, .ref 360, .ref 361, .ref 362, .ref 363, .ref 364, .ref 365, .ref 366, .ref 367, (u 9), .int sst, (u 11), (u 12), .int acs, (u 14), (u 15), (u 16), (u 17), (u 18), (u 19), (u 20), (u 21), .ref 368, .int tm, .ref 369, .ref 370, .ref 371, (u 27)])), (360, .inr (.inl (0, w))), (362, .inr (.inl (0, sd))), (363, .inr (.inl (0, ot))), (364, .inr (.inl (0, kp))), (368, .inr (.inl (0, tk))), (369, .inr (.inl (0, od))), (370, .inr (.inl (0, be)))] h0) : j_V jP d 249 0 (lv_args 0 [.ref 359]) [] h (fun rv h' => rv = some (.int (m_qrisks n th sst w).1) ∧ ∃ (sd' ot' tk' : List Int32) (tm' : Int32), sd'.length = 602 ∧ ot'.length = 602 ∧ KN h' [(359, .inl (10, [.int (m_qrisks n th sst w).2.1, .ref 360, .ref 361, .ref 362, .ref 363, .ref 364, .ref 365, .ref 366, .ref 367, (u 9), .int (m_qrisks n th sst w).2.2, (u 11), (u 12), .int acs, (u 14), (u 15), (u 16), (u 17), (u 18), (u 19), (u 20), (u 21), .ref 368, .int tm', .ref 369, .ref 370, .ref 371, (u 27)])), (360, .inr (.inl (0, w))), (362, .inr (.inl (0, sd'))), (363, .inr (.inl (0, ot'))), (364, .inr (.inl (0, kp))), (368, .inr (.inl (0, tk'))), (369, .inr (.inl (0, od))), (370, .inr (.inl (0, be)))] h0) := by
  show j_V jP d 249 0 [(0, .ref 359)] [] h _
  obtain ⟨lv, elv, L⟩ : ∃ lv, lv = [(0, .ref 359)] ∧ LK lv [(0, .ref 359)] := ⟨_, rfl, LK.rf⟩
  rw [← elv]
  clear elv
  refine j_V.one mt9_M mt9_0 (by decide) (pcJ := 1) (stJ := [.int 0]) rfl ?_
  refine j_V.stL mt9_M mt9_1 rfl (i := 1) (kd := 0) (kl' := [(0, .ref 359), (1, .int 0)]) (pcJ := 2) rfl L rfl (by decide) rfl rfl rfl (fun lv L => ?_)
  refine j_V.one mt9_M mt9_2 (by decide) (pcJ := 3) (stJ := [.int 0]) rfl ?_
  refine j_V.stL mt9_M mt9_3 rfl (i := 2) (kd := 0) (kl' := [(0, .ref 359), (1, .int 0), (2, .int 0)]) (pcJ := 4) rfl L rfl (by decide) rfl rfl rfl (fun lv L => ?_)
  have L : LK lv [(0, .ref 359), (1, .int 0), (2, .int (nI 0))] := L
  rw [show (m_qrisks n th sst w) = (m_qrisks_l4 n th sst w n 0 0) from (rfl)]
  exact mt9_ok_l4 H H2 hI  n 0 0 (Nat.zero_add n) hsd hot L K

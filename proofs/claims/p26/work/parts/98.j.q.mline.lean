/-! the reference's lines: written by wip/jk/gen_mline.py -/
set_option maxRecDepth 100000 in
theorem ma_M : j_meth jP 177 = some (yX10_at, cX10_at, 2, (some .int), 2, false, 10) := rfl
set_option maxRecDepth 100000 in
theorem ma_0 : j_code jP 177 0 = some (.bipush 56) := rfl
set_option maxRecDepth 100000 in
theorem ma_2 : j_code jP 177 2 = some (.bipush 28) := rfl
set_option maxRecDepth 100000 in
theorem ma_4 : j_code jP 177 4 = some (.iload_n 0) := rfl
set_option maxRecDepth 100000 in
theorem ma_5 : j_code jP 177 5 = some (.imul) := rfl
set_option maxRecDepth 100000 in
theorem ma_6 : j_code jP 177 6 = some (.iadd) := rfl
set_option maxRecDepth 100000 in
theorem ma_7 : j_code jP 177 7 = some (.iload_n 1) := rfl
set_option maxRecDepth 100000 in
theorem ma_8 : j_code jP 177 8 = some (.iadd) := rfl
set_option maxRecDepth 100000 in
theorem ma_9 : j_code jP 177 9 = some (.ireturn) := rfl
theorem ma_ok {d t w j : Nat} {h : J_H} (hj : 56 + 28 * t + w = j) : j_W jP d 177 0 (lv_args 0 [.int (nI t), .int (nI w)]) [] h (fun rv h' => rv = some (.int (nI j)) ∧ h' = h) := by
  subst hj
  show j_W jP d 177 0 [(0, .int (nI t)), (1, .int (nI w))] [] h _
  refine j_W.one ma_M ma_0 (by decide) (pcJ := 2) (stJ := [.int 56]) rfl ?_
  refine j_W.one ma_M ma_2 (by decide) (pcJ := 4) (stJ := [.int 28, .int 56]) rfl ?_
  refine j_W.one ma_M ma_4 (by decide) (pcJ := 5) (stJ := [.int (nI t), .int 28, .int 56]) rfl ?_
  refine j_W.one ma_M ma_5 (by decide) (pcJ := 6) (stJ := [.int (nI (28 * t)), .int 56]) (by rw [← mi_mul 28 t]; rfl) ?_
  refine j_W.one ma_M ma_6 (by decide) (pcJ := 7) (stJ := [.int (nI (56 + 28 * t))]) (by rw [← mi_add 56 (28 * t)]; rfl) ?_
  refine j_W.one ma_M ma_7 (by decide) (pcJ := 8) (stJ := [.int (nI w), .int (nI (56 + 28 * t))]) rfl ?_
  refine j_W.one ma_M ma_8 (by decide) (pcJ := 9) (stJ := [.int (nI (56 + 28 * t + w))]) (by rw [← mi_add (56 + 28 * t) w]; rfl) ?_
  refine j_W.ret ma_M ma_9 rfl rfl ⟨rfl, rfl⟩
set_option maxRecDepth 100000 in
theorem ms_M : j_meth jP 195 = some (yX10_readStation, cX10_readStation, 3, (some .boolean), 0, false, 10) := rfl
set_option maxRecDepth 100000 in
theorem ms_0 : j_code jP 195 0 = some (.aload_n 0) := rfl
set_option maxRecDepth 100000 in
theorem ms_1 : j_code jP 195 1 = some (.getfield 13) := rfl
set_option maxRecDepth 100000 in
theorem ms_4 : j_code jP 195 4 = some (.sipush 202) := rfl
set_option maxRecDepth 100000 in
theorem ms_7 : j_code jP 195 7 = some (.iaload) := rfl
set_option maxRecDepth 100000 in
theorem ms_8 : j_code jP 195 8 = some (.istore_n 1) := rfl
set_option maxRecDepth 100000 in
theorem ms_9 : j_code jP 195 9 = some (.iload_n 1) := rfl
set_option maxRecDepth 100000 in
theorem ms_10 : j_code jP 195 10 = some (.bipush 7) := rfl
set_option maxRecDepth 100000 in
theorem ms_12 : j_code jP 195 12 = some (.if_icmp .ne 9) := rfl
set_option maxRecDepth 100000 in
theorem ms_15 : j_code jP 195 15 = some (.aload_n 0) := rfl
set_option maxRecDepth 100000 in
theorem ms_16 : j_code jP 195 16 = some (.iconst 5) := rfl
set_option maxRecDepth 100000 in
theorem ms_17 : j_code jP 195 17 = some (.invokevirtual 141) := rfl
set_option maxRecDepth 100000 in
theorem ms_20 : j_code jP 195 20 = some (.ireturn) := rfl
set_option maxRecDepth 100000 in
theorem ms_21 : j_code jP 195 21 = some (.aload_n 0) := rfl
set_option maxRecDepth 100000 in
theorem ms_22 : j_code jP 195 22 = some (.invokevirtual 144) := rfl
set_option maxRecDepth 100000 in
theorem ms_25 : j_code jP 195 25 = some (.aload_n 0) := rfl
set_option maxRecDepth 100000 in
theorem ms_26 : j_code jP 195 26 = some (.iload_n 1) := rfl
set_option maxRecDepth 100000 in
theorem ms_27 : j_code jP 195 27 = some (.invokevirtual 155) := rfl
set_option maxRecDepth 100000 in
theorem ms_30 : j_code jP 195 30 = some (.ifCond .eq 27) := rfl
set_option maxRecDepth 100000 in
theorem ms_33 : j_code jP 195 33 = some (.aload_n 0) := rfl
set_option maxRecDepth 100000 in
theorem ms_34 : j_code jP 195 34 = some (.bipush 8) := rfl
set_option maxRecDepth 100000 in
theorem ms_36 : j_code jP 195 36 = some (.iload_n 1) := rfl
set_option maxRecDepth 100000 in
theorem ms_37 : j_code jP 195 37 = some (.imul) := rfl
set_option maxRecDepth 100000 in
theorem ms_38 : j_code jP 195 38 = some (.iconst 0) := rfl
set_option maxRecDepth 100000 in
theorem ms_39 : j_code jP 195 39 = some (.iadd) := rfl
set_option maxRecDepth 100000 in
theorem ms_40 : j_code jP 195 40 = some (.iload_n 1) := rfl
set_option maxRecDepth 100000 in
theorem ms_41 : j_code jP 195 41 = some (.ifCond .ne 7) := rfl
set_option maxRecDepth 100000 in
theorem ms_44 : j_code jP 195 44 = some (.iconst 0) := rfl
set_option maxRecDepth 100000 in
theorem ms_45 : j_code jP 195 45 = some (.goto 4) := rfl
set_option maxRecDepth 100000 in
theorem ms_48 : j_code jP 195 48 = some (.iconst 1) := rfl
set_option maxRecDepth 100000 in
theorem ms_49 : j_code jP 195 49 = some (.bipush 30) := rfl
set_option maxRecDepth 100000 in
theorem ms_51 : j_code jP 195 51 = some (.invokevirtual 158) := rfl
set_option maxRecDepth 100000 in
theorem ms_54 : j_code jP 195 54 = some (.ifCond .ne 5) := rfl
set_option maxRecDepth 100000 in
theorem ms_57 : j_code jP 195 57 = some (.iconst 0) := rfl
set_option maxRecDepth 100000 in
theorem ms_58 : j_code jP 195 58 = some (.ireturn) := rfl
set_option maxRecDepth 100000 in
theorem ms_59 : j_code jP 195 59 = some (.iconst 0) := rfl
set_option maxRecDepth 100000 in
theorem ms_60 : j_code jP 195 60 = some (.istore_n 2) := rfl
set_option maxRecDepth 100000 in
theorem ms_61 : j_code jP 195 61 = some (.iload_n 2) := rfl
set_option maxRecDepth 100000 in
theorem ms_62 : j_code jP 195 62 = some (.ifCond .eq 11) := rfl
set_option maxRecDepth 100000 in
theorem ms_65 : j_code jP 195 65 = some (.aload_n 0) := rfl
set_option maxRecDepth 100000 in
theorem ms_66 : j_code jP 195 66 = some (.getfield 96) := rfl
set_option maxRecDepth 100000 in
theorem ms_69 : j_code jP 195 69 = some (.iconst 3) := rfl
set_option maxRecDepth 100000 in
theorem ms_70 : j_code jP 195 70 = some (.if_icmp .ne 57) := rfl
set_option maxRecDepth 100000 in
theorem ms_73 : j_code jP 195 73 = some (.iload_n 2) := rfl
set_option maxRecDepth 100000 in
theorem ms_74 : j_code jP 195 74 = some (.iconst 3) := rfl
set_option maxRecDepth 100000 in
theorem ms_75 : j_code jP 195 75 = some (.if_icmp .ne 22) := rfl
set_option maxRecDepth 100000 in
theorem ms_78 : j_code jP 195 78 = some (.aload_n 0) := rfl
set_option maxRecDepth 100000 in
theorem ms_79 : j_code jP 195 79 = some (.getfield 111) := rfl
set_option maxRecDepth 100000 in
theorem ms_82 : j_code jP 195 82 = some (.iconst 1) := rfl
set_option maxRecDepth 100000 in
theorem ms_83 : j_code jP 195 83 = some (.bipush 99) := rfl
set_option maxRecDepth 100000 in
theorem ms_85 : j_code jP 195 85 = some (.invokestatic 61) := rfl
set_option maxRecDepth 100000 in
theorem ms_88 : j_code jP 195 88 = some (.ifCond .eq 9) := rfl
set_option maxRecDepth 100000 in
theorem ms_91 : j_code jP 195 91 = some (.aload_n 0) := rfl
set_option maxRecDepth 100000 in
theorem ms_92 : j_code jP 195 92 = some (.iconst 5) := rfl
set_option maxRecDepth 100000 in
theorem ms_93 : j_code jP 195 93 = some (.invokevirtual 141) := rfl
set_option maxRecDepth 100000 in
theorem ms_96 : j_code jP 195 96 = some (.ireturn) := rfl
set_option maxRecDepth 100000 in
theorem ms_97 : j_code jP 195 97 = some (.aload_n 0) := rfl
set_option maxRecDepth 100000 in
theorem ms_98 : j_code jP 195 98 = some (.bipush 8) := rfl
set_option maxRecDepth 100000 in
theorem ms_100 : j_code jP 195 100 = some (.iload_n 1) := rfl
set_option maxRecDepth 100000 in
theorem ms_101 : j_code jP 195 101 = some (.imul) := rfl
set_option maxRecDepth 100000 in
theorem ms_102 : j_code jP 195 102 = some (.iconst 2) := rfl
set_option maxRecDepth 100000 in
theorem ms_103 : j_code jP 195 103 = some (.iadd) := rfl
set_option maxRecDepth 100000 in
theorem ms_104 : j_code jP 195 104 = some (.iload_n 2) := rfl
set_option maxRecDepth 100000 in
theorem ms_105 : j_code jP 195 105 = some (.iconst 2) := rfl
set_option maxRecDepth 100000 in
theorem ms_106 : j_code jP 195 106 = some (.invokestatic 161) := rfl
set_option maxRecDepth 100000 in
theorem ms_109 : j_code jP 195 109 = some (.iadd) := rfl
set_option maxRecDepth 100000 in
theorem ms_110 : j_code jP 195 110 = some (.iconst 1) := rfl
set_option maxRecDepth 100000 in
theorem ms_111 : j_code jP 195 111 = some (.bipush 99) := rfl
set_option maxRecDepth 100000 in
theorem ms_113 : j_code jP 195 113 = some (.invokevirtual 158) := rfl
set_option maxRecDepth 100000 in
theorem ms_116 : j_code jP 195 116 = some (.ifCond .ne 5) := rfl
set_option maxRecDepth 100000 in
theorem ms_119 : j_code jP 195 119 = some (.iconst 0) := rfl
set_option maxRecDepth 100000 in
theorem ms_120 : j_code jP 195 120 = some (.ireturn) := rfl
set_option maxRecDepth 100000 in
theorem ms_121 : j_code jP 195 121 = some (.iinc 2 1) := rfl
set_option maxRecDepth 100000 in
theorem ms_124 : j_code jP 195 124 = some (.goto (-63)) := rfl
set_option maxRecDepth 100000 in
theorem ms_127 : j_code jP 195 127 = some (.aload_n 0) := rfl
set_option maxRecDepth 100000 in
theorem ms_128 : j_code jP 195 128 = some (.getfield 13) := rfl
set_option maxRecDepth 100000 in
theorem ms_131 : j_code jP 195 131 = some (.bipush 8) := rfl
set_option maxRecDepth 100000 in
theorem ms_133 : j_code jP 195 133 = some (.iload_n 1) := rfl
set_option maxRecDepth 100000 in
theorem ms_134 : j_code jP 195 134 = some (.imul) := rfl
set_option maxRecDepth 100000 in
theorem ms_135 : j_code jP 195 135 = some (.iconst 1) := rfl
set_option maxRecDepth 100000 in
theorem ms_136 : j_code jP 195 136 = some (.iadd) := rfl
set_option maxRecDepth 100000 in
theorem ms_137 : j_code jP 195 137 = some (.iload_n 2) := rfl
set_option maxRecDepth 100000 in
theorem ms_138 : j_code jP 195 138 = some (.iastore) := rfl
set_option maxRecDepth 100000 in
theorem ms_139 : j_code jP 195 139 = some (.aload_n 0) := rfl
set_option maxRecDepth 100000 in
theorem ms_140 : j_code jP 195 140 = some (.getfield 13) := rfl
set_option maxRecDepth 100000 in
theorem ms_143 : j_code jP 195 143 = some (.sipush 202) := rfl
set_option maxRecDepth 100000 in
theorem ms_146 : j_code jP 195 146 = some (.dup2) := rfl
set_option maxRecDepth 100000 in
theorem ms_147 : j_code jP 195 147 = some (.iaload) := rfl
set_option maxRecDepth 100000 in
theorem ms_148 : j_code jP 195 148 = some (.iconst 1) := rfl
set_option maxRecDepth 100000 in
theorem ms_149 : j_code jP 195 149 = some (.iadd) := rfl
set_option maxRecDepth 100000 in
theorem ms_150 : j_code jP 195 150 = some (.iastore) := rfl
set_option maxRecDepth 100000 in
theorem ms_151 : j_code jP 195 151 = some (.aload_n 0) := rfl
set_option maxRecDepth 100000 in
theorem ms_152 : j_code jP 195 152 = some (.invokevirtual 166) := rfl
set_option maxRecDepth 100000 in
theorem ms_155 : j_code jP 195 155 = some (.ireturn) := rfl
theorem ms_f {u : Nat → Value} {e : Nat} {m : List Int32} {h h0 : J_H} {d : Nat} {F : Int32 × Int32} {y : rK} {rd : List Int32} {rn : List Int64} {ns n : Nat} (hm : m.length = 700) (he : e ≤ 700) (hb : ∀ k, k < e → 0 ≤ (m.getD k 0).toInt) (hp : y.1 ≤ e) (hr : rd.length = 602) (hn : rn.length = 12) (hs : rd.getD 202 0 = nI ns) (h6 : ns < 7) (K : KN h [(359, .inl (10, [(u 0), (u 1), .ref 361, (u 3), (u 4), (u 5), .ref 365, (u 7), .ref 367, (u 9), (u 10), (u 11), (u 12), (u 13), .int (nI e), .int y.2.2.1, .int (nI y.1), .int y.2.1, .int y.2.2.2.2, .int F.1, .int F.2, .long y.2.2.2.1, (u 22), (u 23), (u 24), (u 25), (u 26), (u 27)])), (361, .inr (.inl (0, rd))), (365, .inr (.inl (0, m))), (367, .inr (.inr (.inl rn)))] h0) : j_W jP (d + 1 + 1 + 1) 195 127 [(2, .int (nI n)), (1, .int (nI ns)), (0, .ref 359)] [] h (PN u e m h0 (mFin m e ns n F y rd rn)) := by
  unfold mFin
  refine j_W.one ms_M ms_127 (by decide) (pcJ := 128) (stJ := [.ref 359]) rfl ?_
  refine j_W.getK ms_M ms_128 (ci := 10) (j := 2) rfl K rfl rfl ?_
  refine j_W.one ms_M ms_131 (by decide) (pcJ := 133) (stJ := [.int 8, .ref 361]) rfl ?_
  refine j_W.one ms_M ms_133 (by decide) (pcJ := 134) (stJ := [.int (nI ns), .int 8, .ref 361]) rfl ?_
  refine j_W.one ms_M ms_134 (by decide) (pcJ := 135) (stJ := [.int (nI (8 * ns)), .ref 361]) (by rw [← mi_mul 8 ns]; rfl) ?_
  refine j_W.one ms_M ms_135 (by decide) (pcJ := 136) (stJ := [.int 1, .int (nI (8 * ns)), .ref 361]) rfl ?_
  refine j_W.one ms_M ms_136 (by decide) (pcJ := 137) (stJ := [.int (nI (8 * ns + 1)), .ref 361]) (by rw [← mi_add (8 * ns) 1]; rfl) ?_
  refine j_W.one ms_M ms_137 (by decide) (pcJ := 138) (stJ := [.int (nI n), .int (nI (8 * ns + 1)), .ref 361]) rfl ?_
  refine j_W.iastK ms_M ms_138 (n := 8 * ns + 1) (k' := [(359, .inl (10, [(u 0), (u 1), .ref 361, (u 3), (u 4), (u 5), .ref 365, (u 7), .ref 367, (u 9), (u 10), (u 11), (u 12), (u 13), .int (nI e), .int y.2.2.1, .int (nI y.1), .int y.2.1, .int y.2.2.2.2, .int F.1, .int F.2, .long y.2.2.2.1, (u 22), (u 23), (u 24), (u 25), (u 26), (u 27)])), (361, .inr (.inl (0, (rd.set (8 * ns + 1) (nI n))))), (365, .inr (.inl (0, m))), (367, .inr (.inr (.inl rn)))]) K rfl (by first | omega | (simp; omega)) (by first | omega | (simp; omega)) rfl (fun h K => ?_)
  refine j_W.one ms_M ms_139 (by decide) (pcJ := 140) (stJ := [.ref 359]) rfl ?_
  refine j_W.getK ms_M ms_140 (ci := 10) (j := 2) rfl K rfl rfl ?_
  refine j_W.one ms_M ms_143 (by decide) (pcJ := 146) (stJ := [.int 202, .ref 361]) rfl ?_
  refine j_W.one ms_M ms_146 (by decide) (pcJ := 147) (stJ := [.int 202, .ref 361, .int 202, .ref 361]) rfl ?_
  refine j_W.ialdK ms_M ms_147 K rfl (n := 202) (by simp; omega) (by simp; omega) ?_
  rw [mi_ne (by omega), hs]
  refine j_W.one ms_M ms_148 (by decide) (pcJ := 149) (stJ := [.int 1, .int (nI ns), .int 202, .ref 361]) rfl ?_
  refine j_W.one ms_M ms_149 (by decide) (pcJ := 150) (stJ := [.int (nI (ns + 1)), .int 202, .ref 361]) (by rw [nI_succ]; rfl) ?_
  refine j_W.iastK ms_M ms_150 (n := 202) (k' := [(359, .inl (10, [(u 0), (u 1), .ref 361, (u 3), (u 4), (u 5), .ref 365, (u 7), .ref 367, (u 9), (u 10), (u 11), (u 12), (u 13), .int (nI e), .int y.2.2.1, .int (nI y.1), .int y.2.1, .int y.2.2.2.2, .int F.1, .int F.2, .long y.2.2.2.1, (u 22), (u 23), (u 24), (u 25), (u 26), (u 27)])), (361, .inr (.inl (0, ((rd.set (8 * ns + 1) (nI n)).set 202 (nI (ns + 1)))))), (365, .inr (.inl (0, m))), (367, .inr (.inr (.inl rn)))]) K rfl (by first | omega | (simp; omega)) (by first | omega | (simp; omega)) rfl (fun h K => ?_)
  refine j_W.one ms_M ms_151 (by decide) (pcJ := 152) (stJ := [.ref 359]) rfl ?_
  generalize hR : mEnd m e F y ((rd.set (8 * ns + 1) (nI n)).set 202 (nI (ns + 1))) rn = R
  refine j_W.call ms_M ms_152 rfl (md := 3) (mj := 191) rfl (by decide) me_M (As := [.ref 359]) (rest := []) (jk_spl3 (K.at rfl) rfl rfl rfl (Nat.le_of_ble_eq_true rfl) (Nat.le_of_ble_eq_true rfl)) ((hR ▸ me_ok hm he hb hp (by simp [hr]) hn (K.sub ⟨rfl, rfl, rfl, rfl, trivial⟩))) ?_
  rintro r h9 ⟨rfl, K9⟩
  have K : KN h9 [(359, .inl (10, [(u 0), (u 1), .ref 361, (u 3), (u 4), (u 5), .ref 365, (u 7), .ref 367, (u 9), (u 10), (u 11), (u 12), (u 13), .int (nI e), .int R.2.2.1.2.2.1, .int (nI R.2.2.1.1), .int R.2.2.1.2.1, .int R.2.2.1.2.2.2.2, .int R.2.1.1, .int R.2.1.2, .long R.2.2.1.2.2.2.1, (u 22), (u 23), (u 24), (u 25), (u 26), (u 27)])), (361, .inr (.inl (0, R.2.2.2.1))), (365, .inr (.inl (0, m))), (367, .inr (.inr (.inl R.2.2.2.2)))] h0 := K.go K9 rfl rfl rfl
  clear K9
  show j_W jP _ 195 155 [(2, .int (nI n)), (1, .int (nI ns)), (0, .ref 359)] [.int (bif R.1 then 1 else 0)] h9 _
  refine j_W.ret ms_M ms_155 rfl (jk_retb _) ⟨rfl, K⟩
theorem ms_mn {n q : Nat} {r : Int32} (h : n < 3) : j_mm false [.int 2, .int (nI n), .int r, .ref q] = some [.int (nI n), .int r, .ref q] := by
  unfold j_mm
  dsimp only
  rw [if_pos (Nat.le_of_ble_eq_true rfl), if_neg (by decide)]
  by_cases h2 : (2 : Int32) < nI n
  · exfalso
    have h2 := Int32.lt_iff_toInt_lt.mp h2
    rw [nI_toInt (by omega), show (2 : Int32).toInt = 2 from rfl] at h2
    omega
  · rw [if_neg h2]
theorem ms_l {u : Nat → Value} {e ns nt : Nat} {m : List Int32} {h0 : J_H} {d : Nat} {F : Int32 × Int32} (hm : m.length = 700) (he : e ≤ 700) (hb : ∀ k, k < e → 0 ≤ (m.getD k 0).toInt) (h6 : ns < 7) : ∀ (f n : Nat) (y : rK) (rd : List Int32) (rn : List Int64) (h : J_H), n + f = 3 → y.1 ≤ e → rd.length = 602 → rn.length = 12 → rd.getD 202 0 = nI ns → rd.getD 203 0 = nI nt → KN h [(359, .inl (10, [(u 0), (u 1), .ref 361, (u 3), (u 4), (u 5), .ref 365, (u 7), .ref 367, (u 9), (u 10), (u 11), (u 12), (u 13), .int (nI e), .int y.2.2.1, .int (nI y.1), .int y.2.1, .int y.2.2.2.2, .int F.1, .int F.2, .long y.2.2.2.1, (u 22), (u 23), (u 24), (u 25), (u 26), (u 27)])), (361, .inr (.inl (0, rd))), (365, .inr (.inl (0, m))), (367, .inr (.inr (.inl rn)))] h0 → j_W jP (d + 1 + 1 + 1) 195 61 [(2, .int (nI n)), (1, .int (nI ns)), (0, .ref 359)] [] h (PN u e m h0 (mTr m e ns F f n y rd rn)) := by
  intro f
  induction f with
  | zero =>
    intro n y rd rn h hf hp hr hn hs ht K
    obtain rfl : n = 3 := by omega
    unfold mTr
    refine j_W.one ms_M ms_61 (by decide) (pcJ := 62) (stJ := [.int (nI 3)]) rfl ?_
    refine j_W.ifc ms_M ms_62 (t := 73) rfl (fun c => ?_) (fun c => ?_)
    · exact absurd c (by decide)
    · clear c
      refine j_W.one ms_M ms_65 (by decide) (pcJ := 66) (stJ := [.ref 359]) rfl ?_
      refine j_W.getK ms_M ms_66 (ci := 10) (j := 17) rfl K rfl rfl ?_
      refine j_W.one ms_M ms_69 (by decide) (pcJ := 70) (stJ := [.int 3, .int y.2.1]) rfl ?_
      refine j_W.icmp ms_M ms_70 (t := 127) rfl (fun c => ?_) (fun c => ?_)
      · have c : ¬ y.2.1 = 3 := by simpa [j_cond] using c
        rw [if_neg c]
        exact ms_f hm he hb hp hr hn hs h6 K
      · have c3 : y.2.1 = 3 := by simpa [j_cond] using c
        rw [if_pos c3]
        clear c
        refine j_W.one ms_M ms_73 (by decide) (pcJ := 74) (stJ := [.int (nI 3)]) rfl ?_
        refine j_W.one ms_M ms_74 (by decide) (pcJ := 75) (stJ := [.int 3, .int (nI 3)]) rfl ?_
        refine j_W.icmp ms_M ms_75 (t := 97) rfl (fun c => ?_) (fun c => ?_)
        · exact absurd c (by decide)
        · clear c
          refine j_W.one ms_M ms_78 (by decide) (pcJ := 79) (stJ := [.ref 359]) rfl ?_
          refine j_W.getK ms_M ms_79 (ci := 10) (j := 18) rfl K rfl rfl ?_
          refine j_W.one ms_M ms_82 (by decide) (pcJ := 83) (stJ := [.int 1, .int y.2.2.2.2]) rfl ?_
          refine j_W.one ms_M ms_83 (by decide) (pcJ := 85) (stJ := [.int 99, .int 1, .int y.2.2.2.2]) rfl ?_
          refine j_W.call ms_M ms_85 rfl (md := 2) (mj := 171) rfl (by decide) mf_M (As := [.int y.2.2.2.2, .int 1, .int 99]) (rest := []) (jk_spl2 rfl rfl (Nat.le_of_ble_eq_true rfl) (Nat.le_of_ble_eq_true rfl)) (mf_ok) ?_
          rintro r hz ⟨rfl, ez⟩
          rw [ez]
          clear ez
          show j_W jP _ 195 88 [(2, .int (nI 3)), (1, .int (nI ns)), (0, .ref 359)] [.int (bif inB y.2.2.2.2 1 99 then 1 else 0)] h _
          cases hq : inB y.2.2.2.2 1 99 with
          | true =>
            show j_W jP _ 195 88 [(2, .int (nI 3)), (1, .int (nI ns)), (0, .ref 359)] [.int 1] h _
            refine j_W.ifc ms_M ms_88 (t := 97) rfl (fun c => ?_) (fun c => ?_)
            · cases c
            · clear c
              refine j_W.one ms_M ms_91 (by decide) (pcJ := 92) (stJ := [.ref 359]) rfl ?_
              refine j_W.one ms_M ms_92 (by decide) (pcJ := 93) (stJ := [.int 5, .ref 359]) rfl ?_
              refine j_W.call ms_M ms_93 rfl (md := 3) (mj := 190) rfl (by decide) mx_M (As := [.ref 359, .int 5]) (rest := []) (jk_spl3 (K.at rfl) rfl rfl rfl (Nat.le_of_ble_eq_true rfl) (Nat.le_of_ble_eq_true rfl)) (mx_ok (K.sub ⟨rfl, trivial⟩)) ?_
              rintro r h9 ⟨rfl, K9⟩
              have K : KN h9 [(359, .inl (10, [(u 0), (u 1), .ref 361, (u 3), (u 4), (u 5), .ref 365, (u 7), .ref 367, (u 9), (u 10), (u 11), (u 12), (u 13), .int (nI e), .int y.2.2.1, .int (nI y.1), .int y.2.1, .int y.2.2.2.2, .int ((bF y.2.1 5, y.2.2.1) : Int32 × Int32).1, .int ((bF y.2.1 5, y.2.2.1) : Int32 × Int32).2, .long y.2.2.2.1, (u 22), (u 23), (u 24), (u 25), (u 26), (u 27)])), (361, .inr (.inl (0, rd))), (365, .inr (.inl (0, m))), (367, .inr (.inr (.inl rn)))] h0 := K.go K9 rfl rfl rfl
              clear K9
              show j_W jP _ 195 96 [(2, .int (nI 3)), (1, .int (nI ns)), (0, .ref 359)] [.int 0] h9 _
              refine j_W.ret ms_M ms_96 rfl rfl ⟨rfl, K⟩
          | false =>
            show j_W jP _ 195 88 [(2, .int (nI 3)), (1, .int (nI ns)), (0, .ref 359)] [.int 0] h _
            refine j_W.ifc ms_M ms_88 (t := 97) rfl (fun c => ?_) (fun c => ?_)
            · clear c
              refine j_W.one ms_M ms_97 (by decide) (pcJ := 98) (stJ := [.ref 359]) rfl ?_
              refine j_W.one ms_M ms_98 (by decide) (pcJ := 100) (stJ := [.int 8, .ref 359]) rfl ?_
              refine j_W.one ms_M ms_100 (by decide) (pcJ := 101) (stJ := [.int (nI ns), .int 8, .ref 359]) rfl ?_
              refine j_W.one ms_M ms_101 (by decide) (pcJ := 102) (stJ := [.int (nI (8 * ns)), .ref 359]) (by rw [← mi_mul 8 ns]; rfl) ?_
              refine j_W.one ms_M ms_102 (by decide) (pcJ := 103) (stJ := [.int 2, .int (nI (8 * ns)), .ref 359]) rfl ?_
              refine j_W.one ms_M ms_103 (by decide) (pcJ := 104) (stJ := [.int (nI (8 * ns + 2)), .ref 359]) (by rw [← mi_add (8 * ns) 2]; rfl) ?_
              refine j_W.one ms_M ms_104 (by decide) (pcJ := 105) (stJ := [.int (nI 3), .int (nI (8 * ns + 2)), .ref 359]) rfl ?_
              refine j_W.one ms_M ms_105 (by decide) (pcJ := 106) (stJ := [.int 2, .int (nI 3), .int (nI (8 * ns + 2)), .ref 359]) rfl ?_
              refine j_W.min ms_M ms_106 rfl rfl (stJ := [.int 2, .int (nI (8 * ns + 2)), .ref 359]) rfl ?_
              refine j_W.one ms_M ms_109 (by decide) (pcJ := 110) (stJ := [.int (nI (8 * ns + 4)), .ref 359]) (by rw [← mi_add (8 * ns) 4, ← mi_add (8 * ns) 2, show nI 4 = nI 2 + 2 from rfl, ← Int32.add_assoc]; rfl) ?_
              refine j_W.one ms_M ms_110 (by decide) (pcJ := 111) (stJ := [.int 1, .int (nI (8 * ns + 4)), .ref 359]) rfl ?_
              refine j_W.one ms_M ms_111 (by decide) (pcJ := 113) (stJ := [.int 99, .int 1, .int (nI (8 * ns + 4)), .ref 359]) rfl ?_
              have e9 : mNum m e F (8 * ns + 4) 1 99 y rd rn = mBad 3 y rd rn := by unfold mNum; rw [if_pos c3, hq]; rfl
              refine j_W.call ms_M ms_113 rfl (md := 3) (mj := 192) rfl (by decide) mr_M (As := [.ref 359, .int (nI (8 * ns + 4)), .int 1, .int 99]) (rest := []) (jk_spl3 (K.at rfl) rfl rfl rfl (Nat.le_of_ble_eq_true rfl) (Nat.le_of_ble_eq_true rfl)) ((e9 ▸ mr_ok (i := 8 * ns + 4) (lo := 1) (hi := 99) hm he hb hp hr hn (by omega) (K.sub ⟨rfl, rfl, rfl, rfl, trivial⟩))) ?_
              rintro r h9 ⟨rfl, K9⟩
              have K : KN h9 [(359, .inl (10, [(u 0), (u 1), .ref 361, (u 3), (u 4), (u 5), .ref 365, (u 7), .ref 367, (u 9), (u 10), (u 11), (u 12), (u 13), .int (nI e), .int y.2.2.1, .int (nI y.1), .int y.2.1, .int y.2.2.2.2, .int ((bF y.2.1 3, y.2.2.1) : Int32 × Int32).1, .int ((bF y.2.1 3, y.2.2.1) : Int32 × Int32).2, .long y.2.2.2.1, (u 22), (u 23), (u 24), (u 25), (u 26), (u 27)])), (361, .inr (.inl (0, rd))), (365, .inr (.inl (0, m))), (367, .inr (.inr (.inl rn)))] h0 := K.go K9 rfl rfl rfl
              clear K9
              show j_W jP _ 195 116 [(2, .int (nI 3)), (1, .int (nI ns)), (0, .ref 359)] [.int 0] h9 _
              refine j_W.ifc ms_M ms_116 (t := 121) rfl (fun c => ?_) (fun c => ?_)
              · cases c
              · refine j_W.one ms_M ms_119 (by decide) (pcJ := 120) (stJ := [.int 0]) rfl ?_
                refine j_W.ret ms_M ms_120 rfl rfl ⟨rfl, K⟩
            · cases c
  | succ f ih =>
    intro n y rd rn h hf hp hr hn hs ht K
    unfold mTr
    refine j_W.one ms_M ms_61 (by decide) (pcJ := 62) (stJ := [.int (nI n)]) rfl ?_
    refine j_W.ifc ms_M ms_62 (t := 73) rfl (fun c => ?_) (fun c => ?_)
    · have c : n = 0 := by
        have c : nI n = 0 := by simpa [j_cond] using c
        have c : (nI n).toInt = 0 := by rw [c]; rfl
        rw [nI_toInt (by omega)] at c; omega
      have hc : n = 0 ∨ y.2.1 = 3 := Or.inl c
      rw [if_pos hc]
      refine j_W.one ms_M ms_73 (by decide) (pcJ := 74) (stJ := [.int (nI n)]) rfl ?_
      refine j_W.one ms_M ms_74 (by decide) (pcJ := 75) (stJ := [.int 3, .int (nI n)]) rfl ?_
      refine j_W.icmp ms_M ms_75 (t := 97) rfl (fun c => ?_) (fun c => ?_)
      · clear c
        refine j_W.one ms_M ms_97 (by decide) (pcJ := 98) (stJ := [.ref 359]) rfl ?_
        refine j_W.one ms_M ms_98 (by decide) (pcJ := 100) (stJ := [.int 8, .ref 359]) rfl ?_
        refine j_W.one ms_M ms_100 (by decide) (pcJ := 101) (stJ := [.int (nI ns), .int 8, .ref 359]) rfl ?_
        refine j_W.one ms_M ms_101 (by decide) (pcJ := 102) (stJ := [.int (nI (8 * ns)), .ref 359]) (by rw [← mi_mul 8 ns]; rfl) ?_
        refine j_W.one ms_M ms_102 (by decide) (pcJ := 103) (stJ := [.int 2, .int (nI (8 * ns)), .ref 359]) rfl ?_
        refine j_W.one ms_M ms_103 (by decide) (pcJ := 104) (stJ := [.int (nI (8 * ns + 2)), .ref 359]) (by rw [← mi_add (8 * ns) 2]; rfl) ?_
        refine j_W.one ms_M ms_104 (by decide) (pcJ := 105) (stJ := [.int (nI n), .int (nI (8 * ns + 2)), .ref 359]) rfl ?_
        refine j_W.one ms_M ms_105 (by decide) (pcJ := 106) (stJ := [.int 2, .int (nI n), .int (nI (8 * ns + 2)), .ref 359]) rfl ?_
        refine j_W.min ms_M ms_106 rfl rfl (stJ := [.int (nI n), .int (nI (8 * ns + 2)), .ref 359]) (ms_mn (by omega)) ?_
        refine j_W.one ms_M ms_109 (by decide) (pcJ := 110) (stJ := [.int (nI (8 * ns + 2 + n)), .ref 359]) (by rw [← mi_add (8 * ns + 2) n]; rfl) ?_
        refine j_W.one ms_M ms_110 (by decide) (pcJ := 111) (stJ := [.int 1, .int (nI (8 * ns + 2 + n)), .ref 359]) rfl ?_
        refine j_W.one ms_M ms_111 (by decide) (pcJ := 113) (stJ := [.int 99, .int 1, .int (nI (8 * ns + 2 + n)), .ref 359]) rfl ?_
        have hw9 := mNum_w (p := 0) (F := F) (m := m) (ns := ns) (nt := nt) (i := 8 * ns + 2 + n) (lo := 1) (hi := 99) ⟨Nat.zero_le _, hp⟩ hr hn hs ht (by omega)
        generalize hR : mNum m e F (8 * ns + 2 + n) 1 99 y rd rn = R at hw9 ⊢
        refine j_W.call ms_M ms_113 rfl (md := 3) (mj := 192) rfl (by decide) mr_M (As := [.ref 359, .int (nI (8 * ns + 2 + n)), .int 1, .int 99]) (rest := []) (jk_spl3 (K.at rfl) rfl rfl rfl (Nat.le_of_ble_eq_true rfl) (Nat.le_of_ble_eq_true rfl)) ((hR ▸ mr_ok hm he hb hp hr hn (by omega) (K.sub ⟨rfl, rfl, rfl, rfl, trivial⟩))) ?_
        rintro r h9 ⟨rfl, K9⟩
        have K : KN h9 [(359, .inl (10, [(u 0), (u 1), .ref 361, (u 3), (u 4), (u 5), .ref 365, (u 7), .ref 367, (u 9), (u 10), (u 11), (u 12), (u 13), .int (nI e), .int R.2.2.1.2.2.1, .int (nI R.2.2.1.1), .int R.2.2.1.2.1, .int R.2.2.1.2.2.2.2, .int R.2.1.1, .int R.2.1.2, .long R.2.2.1.2.2.2.1, (u 22), (u 23), (u 24), (u 25), (u 26), (u 27)])), (361, .inr (.inl (0, R.2.2.2.1))), (365, .inr (.inl (0, m))), (367, .inr (.inr (.inl R.2.2.2.2)))] h0 := K.go K9 rfl rfl rfl
        clear K9
        show j_W jP _ 195 116 [(2, .int (nI n)), (1, .int (nI ns)), (0, .ref 359)] [.int (bif R.1 then 1 else 0)] h9 _
        clear hR
        cases hb9 : R.1 with
        | true =>
          unfold mBind
          rw [hb9, cond_true, cond_true]
          show j_W jP _ 195 116 [(2, .int (nI n)), (1, .int (nI ns)), (0, .ref 359)] [.int 1] h9 _
          refine j_W.ifc ms_M ms_116 (t := 121) rfl (fun c => ?_) (fun c => ?_)
          · clear c
            rw [(hw9.2.2.2 hb9).1] at K
            have K : KN h9 [(359, .inl (10, [(u 0), (u 1), .ref 361, (u 3), (u 4), (u 5), .ref 365, (u 7), .ref 367, (u 9), (u 10), (u 11), (u 12), (u 13), .int (nI e), .int R.2.2.1.2.2.1, .int (nI R.2.2.1.1), .int R.2.2.1.2.1, .int R.2.2.1.2.2.2.2, .int F.1, .int F.2, .long R.2.2.1.2.2.2.1, (u 22), (u 23), (u 24), (u 25), (u 26), (u 27)])), (361, .inr (.inl (0, R.2.2.2.1))), (365, .inr (.inl (0, m))), (367, .inr (.inr (.inl R.2.2.2.2)))] h0 := K
            refine j_W.one ms_M ms_121 (by decide) (pcJ := 124) (lv' := [(2, .int ((nI n) + 1)), (1, .int (nI ns)), (0, .ref 359)]) (stJ := []) rfl ?_
            refine j_W.gto ms_M ms_124 (t := 61) rfl ?_
            have t9 := ih (n + 1) R.2.2.1 R.2.2.2.1 R.2.2.2.2 _ (by omega) hw9.1.2 hw9.2.1 hw9.2.2.1 (hw9.2.2.2 hb9).2.1 (hw9.2.2.2 hb9).2.2 K
            rw [nI_succ] at t9
            exact t9
          · cases c
        | false =>
          unfold mBind
          rw [hb9, cond_false, cond_false]
          show j_W jP _ 195 116 [(2, .int (nI n)), (1, .int (nI ns)), (0, .ref 359)] [.int 0] h9 _
          refine j_W.ifc ms_M ms_116 (t := 121) rfl (fun c => ?_) (fun c => ?_)
          · cases c
          · clear c
            refine j_W.one ms_M ms_119 (by decide) (pcJ := 120) (stJ := [.int 0]) rfl ?_
            refine j_W.ret ms_M ms_120 rfl rfl ⟨by rw [hb9]; rfl, K⟩
      · exfalso; have c : nI n = 3 := by simpa [j_cond] using c
        have c : (nI n).toInt = 3 := by rw [c]; rfl
        rw [nI_toInt (by omega)] at c; omega
    · have c0 : ¬ n = 0 := by intro z1; subst z1; exact absurd c (by decide)
      clear c
      refine j_W.one ms_M ms_65 (by decide) (pcJ := 66) (stJ := [.ref 359]) rfl ?_
      refine j_W.getK ms_M ms_66 (ci := 10) (j := 17) rfl K rfl rfl ?_
      refine j_W.one ms_M ms_69 (by decide) (pcJ := 70) (stJ := [.int 3, .int y.2.1]) rfl ?_
      refine j_W.icmp ms_M ms_70 (t := 127) rfl (fun c => ?_) (fun c => ?_)
      · have c : ¬ y.2.1 = 3 := by simpa [j_cond] using c
        rw [if_neg (fun z1 => z1.elim c0 c)]
        exact ms_f hm he hb hp hr hn hs h6 K
      · have c3 : y.2.1 = 3 := by simpa [j_cond] using c
        have hc : n = 0 ∨ y.2.1 = 3 := Or.inr c3
        rw [if_pos hc]
        refine j_W.one ms_M ms_73 (by decide) (pcJ := 74) (stJ := [.int (nI n)]) rfl ?_
        refine j_W.one ms_M ms_74 (by decide) (pcJ := 75) (stJ := [.int 3, .int (nI n)]) rfl ?_
        refine j_W.icmp ms_M ms_75 (t := 97) rfl (fun c => ?_) (fun c => ?_)
        · clear c
          refine j_W.one ms_M ms_97 (by decide) (pcJ := 98) (stJ := [.ref 359]) rfl ?_
          refine j_W.one ms_M ms_98 (by decide) (pcJ := 100) (stJ := [.int 8, .ref 359]) rfl ?_
          refine j_W.one ms_M ms_100 (by decide) (pcJ := 101) (stJ := [.int (nI ns), .int 8, .ref 359]) rfl ?_
          refine j_W.one ms_M ms_101 (by decide) (pcJ := 102) (stJ := [.int (nI (8 * ns)), .ref 359]) (by rw [← mi_mul 8 ns]; rfl) ?_
          refine j_W.one ms_M ms_102 (by decide) (pcJ := 103) (stJ := [.int 2, .int (nI (8 * ns)), .ref 359]) rfl ?_
          refine j_W.one ms_M ms_103 (by decide) (pcJ := 104) (stJ := [.int (nI (8 * ns + 2)), .ref 359]) (by rw [← mi_add (8 * ns) 2]; rfl) ?_
          refine j_W.one ms_M ms_104 (by decide) (pcJ := 105) (stJ := [.int (nI n), .int (nI (8 * ns + 2)), .ref 359]) rfl ?_
          refine j_W.one ms_M ms_105 (by decide) (pcJ := 106) (stJ := [.int 2, .int (nI n), .int (nI (8 * ns + 2)), .ref 359]) rfl ?_
          refine j_W.min ms_M ms_106 rfl rfl (stJ := [.int (nI n), .int (nI (8 * ns + 2)), .ref 359]) (ms_mn (by omega)) ?_
          refine j_W.one ms_M ms_109 (by decide) (pcJ := 110) (stJ := [.int (nI (8 * ns + 2 + n)), .ref 359]) (by rw [← mi_add (8 * ns + 2) n]; rfl) ?_
          refine j_W.one ms_M ms_110 (by decide) (pcJ := 111) (stJ := [.int 1, .int (nI (8 * ns + 2 + n)), .ref 359]) rfl ?_
          refine j_W.one ms_M ms_111 (by decide) (pcJ := 113) (stJ := [.int 99, .int 1, .int (nI (8 * ns + 2 + n)), .ref 359]) rfl ?_
          have hw9 := mNum_w (p := 0) (F := F) (m := m) (ns := ns) (nt := nt) (i := 8 * ns + 2 + n) (lo := 1) (hi := 99) ⟨Nat.zero_le _, hp⟩ hr hn hs ht (by omega)
          generalize hR : mNum m e F (8 * ns + 2 + n) 1 99 y rd rn = R at hw9 ⊢
          refine j_W.call ms_M ms_113 rfl (md := 3) (mj := 192) rfl (by decide) mr_M (As := [.ref 359, .int (nI (8 * ns + 2 + n)), .int 1, .int 99]) (rest := []) (jk_spl3 (K.at rfl) rfl rfl rfl (Nat.le_of_ble_eq_true rfl) (Nat.le_of_ble_eq_true rfl)) ((hR ▸ mr_ok hm he hb hp hr hn (by omega) (K.sub ⟨rfl, rfl, rfl, rfl, trivial⟩))) ?_
          rintro r h9 ⟨rfl, K9⟩
          have K : KN h9 [(359, .inl (10, [(u 0), (u 1), .ref 361, (u 3), (u 4), (u 5), .ref 365, (u 7), .ref 367, (u 9), (u 10), (u 11), (u 12), (u 13), .int (nI e), .int R.2.2.1.2.2.1, .int (nI R.2.2.1.1), .int R.2.2.1.2.1, .int R.2.2.1.2.2.2.2, .int R.2.1.1, .int R.2.1.2, .long R.2.2.1.2.2.2.1, (u 22), (u 23), (u 24), (u 25), (u 26), (u 27)])), (361, .inr (.inl (0, R.2.2.2.1))), (365, .inr (.inl (0, m))), (367, .inr (.inr (.inl R.2.2.2.2)))] h0 := K.go K9 rfl rfl rfl
          clear K9
          show j_W jP _ 195 116 [(2, .int (nI n)), (1, .int (nI ns)), (0, .ref 359)] [.int (bif R.1 then 1 else 0)] h9 _
          clear hR
          cases hb9 : R.1 with
          | true =>
            unfold mBind
            rw [hb9, cond_true, cond_true]
            show j_W jP _ 195 116 [(2, .int (nI n)), (1, .int (nI ns)), (0, .ref 359)] [.int 1] h9 _
            refine j_W.ifc ms_M ms_116 (t := 121) rfl (fun c => ?_) (fun c => ?_)
            · clear c
              rw [(hw9.2.2.2 hb9).1] at K
              have K : KN h9 [(359, .inl (10, [(u 0), (u 1), .ref 361, (u 3), (u 4), (u 5), .ref 365, (u 7), .ref 367, (u 9), (u 10), (u 11), (u 12), (u 13), .int (nI e), .int R.2.2.1.2.2.1, .int (nI R.2.2.1.1), .int R.2.2.1.2.1, .int R.2.2.1.2.2.2.2, .int F.1, .int F.2, .long R.2.2.1.2.2.2.1, (u 22), (u 23), (u 24), (u 25), (u 26), (u 27)])), (361, .inr (.inl (0, R.2.2.2.1))), (365, .inr (.inl (0, m))), (367, .inr (.inr (.inl R.2.2.2.2)))] h0 := K
              refine j_W.one ms_M ms_121 (by decide) (pcJ := 124) (lv' := [(2, .int ((nI n) + 1)), (1, .int (nI ns)), (0, .ref 359)]) (stJ := []) rfl ?_
              refine j_W.gto ms_M ms_124 (t := 61) rfl ?_
              have t9 := ih (n + 1) R.2.2.1 R.2.2.2.1 R.2.2.2.2 _ (by omega) hw9.1.2 hw9.2.1 hw9.2.2.1 (hw9.2.2.2 hb9).2.1 (hw9.2.2.2 hb9).2.2 K
              rw [nI_succ] at t9
              exact t9
            · cases c
          | false =>
            unfold mBind
            rw [hb9, cond_false, cond_false]
            show j_W jP _ 195 116 [(2, .int (nI n)), (1, .int (nI ns)), (0, .ref 359)] [.int 0] h9 _
            refine j_W.ifc ms_M ms_116 (t := 121) rfl (fun c => ?_) (fun c => ?_)
            · cases c
            · clear c
              refine j_W.one ms_M ms_119 (by decide) (pcJ := 120) (stJ := [.int 0]) rfl ?_
              refine j_W.ret ms_M ms_120 rfl rfl ⟨by rw [hb9]; rfl, K⟩
        · exfalso; have c : nI n = 3 := by simpa [j_cond] using c
          have c : (nI n).toInt = 3 := by rw [c]; rfl
          rw [nI_toInt (by omega)] at c; omega
theorem ms_n {u : Nat → Value} {e : Nat} {m : List Int32} {h h0 : J_H} {d : Nat} {F : Int32 × Int32} {y : rK} {rd : List Int32} {rn : List Int64} {ns nt : Nat} {lo : Int32} (hm : m.length = 700) (he : e ≤ 700) (hb : ∀ k, k < e → 0 ≤ (m.getD k 0).toInt) (hp : y.1 ≤ e) (hr : rd.length = 602) (hn : rn.length = 12) (hs : rd.getD 202 0 = nI ns) (ht : rd.getD 203 0 = nI nt) (h6 : ns < 7) (K : KN h [(359, .inl (10, [(u 0), (u 1), .ref 361, (u 3), (u 4), (u 5), .ref 365, (u 7), .ref 367, (u 9), (u 10), (u 11), (u 12), (u 13), .int (nI e), .int y.2.2.1, .int (nI y.1), .int y.2.1, .int y.2.2.2.2, .int F.1, .int F.2, .long y.2.2.2.1, (u 22), (u 23), (u 24), (u 25), (u 26), (u 27)])), (361, .inr (.inl (0, rd))), (365, .inr (.inl (0, m))), (367, .inr (.inr (.inl rn)))] h0) : j_W jP (d + 1 + 1 + 1 + 1) 195 49 [(1, .int (nI ns)), (0, .ref 359)] [.int lo, .int (nI (8 * ns)), .ref 359] h (PN u e m h0 (mBind (mNum m e F (8 * ns) lo 30 y rd rn) (mTr m e ns F 3 0))) := by
  refine j_W.one ms_M ms_49 (by decide) (pcJ := 51) (stJ := [.int 30, .int lo, .int (nI (8 * ns)), .ref 359]) rfl ?_
  have hw9 := mNum_w (p := 0) (F := F) (m := m) (ns := ns) (nt := nt) (i := 8 * ns) (lo := lo) (hi := 30) (y := y) ⟨Nat.zero_le _, hp⟩ hr hn hs ht (by omega)
  generalize hR : mNum m e F (8 * ns) lo 30 y rd rn = R at hw9 ⊢
  refine j_W.call ms_M ms_51 rfl (md := 3) (mj := 192) rfl (by decide) mr_M (As := [.ref 359, .int (nI (8 * ns)), .int lo, .int 30]) (rest := []) (jk_spl3 (K.at rfl) rfl rfl rfl (Nat.le_of_ble_eq_true rfl) (Nat.le_of_ble_eq_true rfl)) ((hR ▸ mr_ok (i := 8 * ns) (lo := lo) (hi := 30) hm he hb hp hr hn (by omega) (K.sub ⟨rfl, rfl, rfl, rfl, trivial⟩))) ?_
  rintro r h9 ⟨rfl, K9⟩
  have K : KN h9 [(359, .inl (10, [(u 0), (u 1), .ref 361, (u 3), (u 4), (u 5), .ref 365, (u 7), .ref 367, (u 9), (u 10), (u 11), (u 12), (u 13), .int (nI e), .int R.2.2.1.2.2.1, .int (nI R.2.2.1.1), .int R.2.2.1.2.1, .int R.2.2.1.2.2.2.2, .int R.2.1.1, .int R.2.1.2, .long R.2.2.1.2.2.2.1, (u 22), (u 23), (u 24), (u 25), (u 26), (u 27)])), (361, .inr (.inl (0, R.2.2.2.1))), (365, .inr (.inl (0, m))), (367, .inr (.inr (.inl R.2.2.2.2)))] h0 := K.go K9 rfl rfl rfl
  clear K9
  show j_W jP _ 195 54 [(1, .int (nI ns)), (0, .ref 359)] [.int (bif R.1 then 1 else 0)] h9 _
  clear hR
  cases hb9 : R.1 with
  | true =>
    unfold mBind
    rw [hb9, cond_true, cond_true]
    show j_W jP _ 195 54 [(1, .int (nI ns)), (0, .ref 359)] [.int 1] h9 _
    refine j_W.ifc ms_M ms_54 (t := 59) rfl (fun c => ?_) (fun c => ?_)
    · clear c
      rw [(hw9.2.2.2 hb9).1] at K
      have K : KN h9 [(359, .inl (10, [(u 0), (u 1), .ref 361, (u 3), (u 4), (u 5), .ref 365, (u 7), .ref 367, (u 9), (u 10), (u 11), (u 12), (u 13), .int (nI e), .int R.2.2.1.2.2.1, .int (nI R.2.2.1.1), .int R.2.2.1.2.1, .int R.2.2.1.2.2.2.2, .int F.1, .int F.2, .long R.2.2.1.2.2.2.1, (u 22), (u 23), (u 24), (u 25), (u 26), (u 27)])), (361, .inr (.inl (0, R.2.2.2.1))), (365, .inr (.inl (0, m))), (367, .inr (.inr (.inl R.2.2.2.2)))] h0 := K
      refine j_W.one ms_M ms_59 (by decide) (pcJ := 60) (stJ := [.int 0]) rfl ?_
      refine j_W.one ms_M ms_60 (by decide) (pcJ := 61) (lv' := [(2, .int 0), (1, .int (nI ns)), (0, .ref 359)]) (stJ := []) rfl ?_
      exact ms_l hm he hb h6 3 0 R.2.2.1 R.2.2.2.1 R.2.2.2.2 _ rfl hw9.1.2 hw9.2.1 hw9.2.2.1 (hw9.2.2.2 hb9).2.1 (hw9.2.2.2 hb9).2.2 K
    · cases c
  | false =>
    unfold mBind
    rw [hb9, cond_false, cond_false]
    show j_W jP _ 195 54 [(1, .int (nI ns)), (0, .ref 359)] [.int 0] h9 _
    refine j_W.ifc ms_M ms_54 (t := 59) rfl (fun c => ?_) (fun c => ?_)
    · cases c
    · clear c
      refine j_W.one ms_M ms_57 (by decide) (pcJ := 58) (stJ := [.int 0]) rfl ?_
      refine j_W.ret ms_M ms_58 rfl rfl ⟨by rw [hb9]; rfl, K⟩
theorem ms_ok {u : Nat → Value} {e : Nat} {m : List Int32} {h h0 : J_H} {d : Nat} {F : Int32 × Int32} {y : rK} {rd : List Int32} {rn : List Int64} {ns nt : Nat} (hm : m.length = 700) (he : e ≤ 700) (hb : ∀ k, k < e → 0 ≤ (m.getD k 0).toInt) (hp : y.1 ≤ e) (hr : rd.length = 602) (hn : rn.length = 12) (h7 : ns ≤ 7) (hs : rd.getD 202 0 = nI ns) (h5 : nt ≤ 5) (ht : rd.getD 203 0 = nI nt) (K : KN h [(359, .inl (10, [(u 0), (u 1), .ref 361, (u 3), (u 4), (u 5), .ref 365, (u 7), .ref 367, (u 9), (u 10), (u 11), (u 12), (u 13), .int (nI e), .int y.2.2.1, .int (nI y.1), .int y.2.1, .int y.2.2.2.2, .int F.1, .int F.2, .long y.2.2.2.1, (u 22), (u 23), (u 24), (u 25), (u 26), (u 27)])), (361, .inr (.inl (0, rd))), (365, .inr (.inl (0, m))), (367, .inr (.inr (.inl rn)))] h0) : j_W jP (d + 1 + 1 + 1 + 1 + 1) 195 0 (lv_args 0 [.ref 359]) [] h (PN u e m h0 (mSt m e ns nt F y rd rn)) := by
  show j_W jP (d + 1 + 1 + 1 + 1 + 1) 195 0 [(0, .ref 359)] [] h _
  unfold mSt
  refine j_W.one ms_M ms_0 (by decide) (pcJ := 1) (stJ := [.ref 359]) rfl ?_
  refine j_W.getK ms_M ms_1 (ci := 10) (j := 2) rfl K rfl rfl ?_
  refine j_W.one ms_M ms_4 (by decide) (pcJ := 7) (stJ := [.int 202, .ref 361]) rfl ?_
  refine j_W.ialdK ms_M ms_7 K rfl (n := 202) (by omega) (by omega) ?_
  rw [hs]
  refine j_W.one ms_M ms_8 (by decide) (pcJ := 9) (lv' := [(1, .int (nI ns)), (0, .ref 359)]) (stJ := []) rfl ?_
  refine j_W.one ms_M ms_9 (by decide) (pcJ := 10) (stJ := [.int (nI ns)]) rfl ?_
  refine j_W.one ms_M ms_10 (by decide) (pcJ := 12) (stJ := [.int 7, .int (nI ns)]) rfl ?_
  refine j_W.icmp ms_M ms_12 (t := 21) rfl (fun c => ?_) (fun c => ?_)
  · have c0 : ¬ ns = 7 := by intro z1; subst z1; exact absurd c (by decide)
    rw [if_neg c0]
    clear c
    refine j_W.one ms_M ms_21 (by decide) (pcJ := 22) (stJ := [.ref 359]) rfl ?_
    refine j_W.call ms_M ms_22 rfl (md := 3) (mj := 185) rfl (by decide) mg_M (As := [.ref 359]) (rest := []) (jk_spl3 (K.at rfl) rfl rfl rfl (Nat.le_of_ble_eq_true rfl) (Nat.le_of_ble_eq_true rfl)) (mg_ok hm he hb hp (K.sub ⟨rfl, rfl, trivial⟩)) ?_
    rintro r h9 ⟨rfl, K9⟩
    have K : KN h9 [(359, .inl (10, [(u 0), (u 1), .ref 361, (u 3), (u 4), (u 5), .ref 365, (u 7), .ref 367, (u 9), (u 10), (u 11), (u 12), (u 13), .int (nI e), .int (mT m e y).2.2.1, .int (nI (mT m e y).1), .int (mT m e y).2.1, .int (mT m e y).2.2.2.2, .int F.1, .int F.2, .long (mT m e y).2.2.2.1, (u 22), (u 23), (u 24), (u 25), (u 26), (u 27)])), (361, .inr (.inl (0, rd))), (365, .inr (.inl (0, m))), (367, .inr (.inr (.inl rn)))] h0 := K.go K9 rfl rfl rfl
    clear K9
    show j_W jP _ 195 25 [(1, .int (nI ns)), (0, .ref 359)] [] h9 _
    refine j_W.one ms_M ms_25 (by decide) (pcJ := 26) (stJ := [.ref 359]) rfl ?_
    refine j_W.one ms_M ms_26 (by decide) (pcJ := 27) (stJ := [.int (nI ns), .ref 359]) rfl ?_
    have hw9 := mName_w (p := 0) (F := F) (m := m) (ns := ns) (nt := nt) (i := ns) (y := mT m e y) ⟨Nat.zero_le _, tkN_le hp⟩ hr hn hs ht
    generalize hR : mName m e F ns nt (ns) (mT m e y) rd rn = R at hw9 ⊢
    refine j_W.call ms_M ms_27 rfl (md := 3) (mj := 194) rfl (by decide) mm_M (As := [.ref 359, .int (nI (ns))]) (rest := []) (jk_spl3 (K.at rfl) rfl rfl rfl (Nat.le_of_ble_eq_true rfl) (Nat.le_of_ble_eq_true rfl)) ((hR ▸ mm_ok (i := ns) hm he hb (tkN_le hp) hr hn h7 hs h5 ht (by omega) (K.sub ⟨rfl, rfl, rfl, rfl, trivial⟩))) ?_
    rintro r h9 ⟨rfl, K9⟩
    have K : KN h9 [(359, .inl (10, [(u 0), (u 1), .ref 361, (u 3), (u 4), (u 5), .ref 365, (u 7), .ref 367, (u 9), (u 10), (u 11), (u 12), (u 13), .int (nI e), .int R.2.2.1.2.2.1, .int (nI R.2.2.1.1), .int R.2.2.1.2.1, .int R.2.2.1.2.2.2.2, .int R.2.1.1, .int R.2.1.2, .long R.2.2.1.2.2.2.1, (u 22), (u 23), (u 24), (u 25), (u 26), (u 27)])), (361, .inr (.inl (0, R.2.2.2.1))), (365, .inr (.inl (0, m))), (367, .inr (.inr (.inl R.2.2.2.2)))] h0 := K.go K9 rfl rfl rfl
    clear K9
    show j_W jP _ 195 30 [(1, .int (nI ns)), (0, .ref 359)] [.int (bif R.1 then 1 else 0)] h9 _
    clear hR
    cases hb9 : R.1 with
    | true =>
      unfold mBind
      rw [hb9, cond_true, cond_true]
      show j_W jP _ 195 30 [(1, .int (nI ns)), (0, .ref 359)] [.int 1] h9 _
      refine j_W.ifc ms_M ms_30 (t := 57) rfl (fun c => ?_) (fun c => ?_)
      · cases c
      · clear c
        rw [(hw9.2.2.2 hb9).1] at K
        have K : KN h9 [(359, .inl (10, [(u 0), (u 1), .ref 361, (u 3), (u 4), (u 5), .ref 365, (u 7), .ref 367, (u 9), (u 10), (u 11), (u 12), (u 13), .int (nI e), .int R.2.2.1.2.2.1, .int (nI R.2.2.1.1), .int R.2.2.1.2.1, .int R.2.2.1.2.2.2.2, .int F.1, .int F.2, .long R.2.2.1.2.2.2.1, (u 22), (u 23), (u 24), (u 25), (u 26), (u 27)])), (361, .inr (.inl (0, R.2.2.2.1))), (365, .inr (.inl (0, m))), (367, .inr (.inr (.inl R.2.2.2.2)))] h0 := K
        have h6 : ns < 7 := by omega
        unfold mSt2
        refine j_W.one ms_M ms_33 (by decide) (pcJ := 34) (stJ := [.ref 359]) rfl ?_
        refine j_W.one ms_M ms_34 (by decide) (pcJ := 36) (stJ := [.int 8, .ref 359]) rfl ?_
        refine j_W.one ms_M ms_36 (by decide) (pcJ := 37) (stJ := [.int (nI ns), .int 8, .ref 359]) rfl ?_
        refine j_W.one ms_M ms_37 (by decide) (pcJ := 38) (stJ := [.int (nI (8 * ns)), .ref 359]) (by rw [← mi_mul 8 ns]; rfl) ?_
        refine j_W.one ms_M ms_38 (by decide) (pcJ := 39) (stJ := [.int 0, .int (nI (8 * ns)), .ref 359]) rfl ?_
        refine j_W.one ms_M ms_39 (by decide) (pcJ := 40) (stJ := [.int (nI (8 * ns) + 0), .ref 359]) rfl ?_
        rw [Int32.add_zero]
        refine j_W.one ms_M ms_40 (by decide) (pcJ := 41) (stJ := [.int (nI ns), .int (nI (8 * ns)), .ref 359]) rfl ?_
        refine j_W.ifc ms_M ms_41 (t := 48) rfl (fun c => ?_) (fun c => ?_)
        · have c1 : ¬ ns = 0 := by intro z1; subst z1; exact absurd c (by decide)
          rw [if_neg c1]
          refine j_W.one ms_M ms_48 (by decide) (pcJ := 49) (stJ := [.int 1, .int (nI (8 * ns)), .ref 359]) rfl ?_
          exact ms_n hm he hb hw9.1.2 hw9.2.1 hw9.2.2.1 (hw9.2.2.2 hb9).2.1 (hw9.2.2.2 hb9).2.2 h6 K
        · have c1 : ns = 0 := by
            by_cases z1 : ns = 0
            · exact z1
            · exfalso; have z2 : nI ns = 0 := by simpa [j_cond] using c
              have z3 : (nI ns).toInt = 0 := by rw [z2]; rfl
              rw [nI_toInt (by omega)] at z3; omega
          rw [if_pos c1]
          refine j_W.one ms_M ms_44 (by decide) (pcJ := 45) (stJ := [.int 0, .int (nI (8 * ns)), .ref 359]) rfl ?_
          refine j_W.gto ms_M ms_45 (t := 49) rfl ?_
          exact ms_n hm he hb hw9.1.2 hw9.2.1 hw9.2.2.1 (hw9.2.2.2 hb9).2.1 (hw9.2.2.2 hb9).2.2 h6 K
    | false =>
      unfold mBind
      rw [hb9, cond_false, cond_false]
      show j_W jP _ 195 30 [(1, .int (nI ns)), (0, .ref 359)] [.int 0] h9 _
      refine j_W.ifc ms_M ms_30 (t := 57) rfl (fun c => ?_) (fun c => ?_)
      · clear c
        refine j_W.one ms_M ms_57 (by decide) (pcJ := 58) (stJ := [.int 0]) rfl ?_
        refine j_W.ret ms_M ms_58 rfl rfl ⟨by rw [hb9]; rfl, K⟩
      · cases c
  · have c : ns = 7 := by
      have c : nI ns = 7 := by simpa [j_cond] using c
      have c : (nI ns).toInt = 7 := by rw [c]; rfl
      rw [nI_toInt (by omega)] at c; omega
    rw [if_pos c]
    refine j_W.one ms_M ms_15 (by decide) (pcJ := 16) (stJ := [.ref 359]) rfl ?_
    refine j_W.one ms_M ms_16 (by decide) (pcJ := 17) (stJ := [.int 5, .ref 359]) rfl ?_
    refine j_W.call ms_M ms_17 rfl (md := 3) (mj := 190) rfl (by decide) mx_M (As := [.ref 359, .int 5]) (rest := []) (jk_spl3 (K.at rfl) rfl rfl rfl (Nat.le_of_ble_eq_true rfl) (Nat.le_of_ble_eq_true rfl)) (mx_ok (K.sub ⟨rfl, trivial⟩)) ?_
    rintro r h9 ⟨rfl, K9⟩
    have K : KN h9 [(359, .inl (10, [(u 0), (u 1), .ref 361, (u 3), (u 4), (u 5), .ref 365, (u 7), .ref 367, (u 9), (u 10), (u 11), (u 12), (u 13), .int (nI e), .int y.2.2.1, .int (nI y.1), .int y.2.1, .int y.2.2.2.2, .int ((bF y.2.1 5, y.2.2.1) : Int32 × Int32).1, .int ((bF y.2.1 5, y.2.2.1) : Int32 × Int32).2, .long y.2.2.2.1, (u 22), (u 23), (u 24), (u 25), (u 26), (u 27)])), (361, .inr (.inl (0, rd))), (365, .inr (.inl (0, m))), (367, .inr (.inr (.inl rn)))] h0 := K.go K9 rfl rfl rfl
    clear K9
    show j_W jP _ 195 20 [(1, .int (nI ns)), (0, .ref 359)] [.int 0] h9 _
    refine j_W.ret ms_M ms_20 rfl rfl ⟨rfl, K⟩
set_option maxRecDepth 100000 in
theorem mv_M : j_meth jP 197 = some (yX10_readTrain, cX10_readTrain, 3, (some .boolean), 0, false, 10) := rfl
set_option maxRecDepth 100000 in
theorem mv_0 : j_code jP 197 0 = some (.aload_n 0) := rfl
set_option maxRecDepth 100000 in
theorem mv_1 : j_code jP 197 1 = some (.getfield 13) := rfl
set_option maxRecDepth 100000 in
theorem mv_4 : j_code jP 197 4 = some (.sipush 203) := rfl
set_option maxRecDepth 100000 in
theorem mv_7 : j_code jP 197 7 = some (.iaload) := rfl
set_option maxRecDepth 100000 in
theorem mv_8 : j_code jP 197 8 = some (.istore_n 1) := rfl
set_option maxRecDepth 100000 in
theorem mv_9 : j_code jP 197 9 = some (.iload_n 1) := rfl
set_option maxRecDepth 100000 in
theorem mv_10 : j_code jP 197 10 = some (.iconst 5) := rfl
set_option maxRecDepth 100000 in
theorem mv_11 : j_code jP 197 11 = some (.if_icmp .ne 9) := rfl
set_option maxRecDepth 100000 in
theorem mv_14 : j_code jP 197 14 = some (.aload_n 0) := rfl
set_option maxRecDepth 100000 in
theorem mv_15 : j_code jP 197 15 = some (.iconst 5) := rfl
set_option maxRecDepth 100000 in
theorem mv_16 : j_code jP 197 16 = some (.invokevirtual 141) := rfl
set_option maxRecDepth 100000 in
theorem mv_19 : j_code jP 197 19 = some (.ireturn) := rfl
set_option maxRecDepth 100000 in
theorem mv_20 : j_code jP 197 20 = some (.aload_n 0) := rfl
set_option maxRecDepth 100000 in
theorem mv_21 : j_code jP 197 21 = some (.invokevirtual 144) := rfl
set_option maxRecDepth 100000 in
theorem mv_24 : j_code jP 197 24 = some (.aload_n 0) := rfl
set_option maxRecDepth 100000 in
theorem mv_25 : j_code jP 197 25 = some (.bipush 7) := rfl
set_option maxRecDepth 100000 in
theorem mv_27 : j_code jP 197 27 = some (.iload_n 1) := rfl
set_option maxRecDepth 100000 in
theorem mv_28 : j_code jP 197 28 = some (.iadd) := rfl
set_option maxRecDepth 100000 in
theorem mv_29 : j_code jP 197 29 = some (.invokevirtual 155) := rfl
set_option maxRecDepth 100000 in
theorem mv_32 : j_code jP 197 32 = some (.ifCond .eq 69) := rfl
set_option maxRecDepth 100000 in
theorem mv_35 : j_code jP 197 35 = some (.aload_n 0) := rfl
set_option maxRecDepth 100000 in
theorem mv_36 : j_code jP 197 36 = some (.iload_n 1) := rfl
set_option maxRecDepth 100000 in
theorem mv_37 : j_code jP 197 37 = some (.iconst 0) := rfl
set_option maxRecDepth 100000 in
theorem mv_38 : j_code jP 197 38 = some (.invokestatic 73) := rfl
set_option maxRecDepth 100000 in
theorem mv_41 : j_code jP 197 41 = some (.iconst 1) := rfl
set_option maxRecDepth 100000 in
theorem mv_42 : j_code jP 197 42 = some (.bipush 99) := rfl
set_option maxRecDepth 100000 in
theorem mv_44 : j_code jP 197 44 = some (.invokevirtual 158) := rfl
set_option maxRecDepth 100000 in
theorem mv_47 : j_code jP 197 47 = some (.ifCond .eq 54) := rfl
set_option maxRecDepth 100000 in
theorem mv_50 : j_code jP 197 50 = some (.aload_n 0) := rfl
set_option maxRecDepth 100000 in
theorem mv_51 : j_code jP 197 51 = some (.iload_n 1) := rfl
set_option maxRecDepth 100000 in
theorem mv_52 : j_code jP 197 52 = some (.iconst 1) := rfl
set_option maxRecDepth 100000 in
theorem mv_53 : j_code jP 197 53 = some (.invokestatic 73) := rfl
set_option maxRecDepth 100000 in
theorem mv_56 : j_code jP 197 56 = some (.iconst (-1)) := rfl
set_option maxRecDepth 100000 in
theorem mv_57 : j_code jP 197 57 = some (.invokevirtual 169) := rfl
set_option maxRecDepth 100000 in
theorem mv_60 : j_code jP 197 60 = some (.ifCond .eq 41) := rfl
set_option maxRecDepth 100000 in
theorem mv_63 : j_code jP 197 63 = some (.aload_n 0) := rfl
set_option maxRecDepth 100000 in
theorem mv_64 : j_code jP 197 64 = some (.iload_n 1) := rfl
set_option maxRecDepth 100000 in
theorem mv_65 : j_code jP 197 65 = some (.iconst 2) := rfl
set_option maxRecDepth 100000 in
theorem mv_66 : j_code jP 197 66 = some (.invokestatic 73) := rfl
set_option maxRecDepth 100000 in
theorem mv_69 : j_code jP 197 69 = some (.aload_n 0) := rfl
set_option maxRecDepth 100000 in
theorem mv_70 : j_code jP 197 70 = some (.getfield 13) := rfl
set_option maxRecDepth 100000 in
theorem mv_73 : j_code jP 197 73 = some (.iload_n 1) := rfl
set_option maxRecDepth 100000 in
theorem mv_74 : j_code jP 197 74 = some (.iconst 1) := rfl
set_option maxRecDepth 100000 in
theorem mv_75 : j_code jP 197 75 = some (.invokestatic 73) := rfl
set_option maxRecDepth 100000 in
theorem mv_78 : j_code jP 197 78 = some (.iaload) := rfl
set_option maxRecDepth 100000 in
theorem mv_79 : j_code jP 197 79 = some (.invokevirtual 169) := rfl
set_option maxRecDepth 100000 in
theorem mv_82 : j_code jP 197 82 = some (.ifCond .eq 19) := rfl
set_option maxRecDepth 100000 in
theorem mv_85 : j_code jP 197 85 = some (.aload_n 0) := rfl
set_option maxRecDepth 100000 in
theorem mv_86 : j_code jP 197 86 = some (.iload_n 1) := rfl
set_option maxRecDepth 100000 in
theorem mv_87 : j_code jP 197 87 = some (.iconst 3) := rfl
set_option maxRecDepth 100000 in
theorem mv_88 : j_code jP 197 88 = some (.invokestatic 73) := rfl
set_option maxRecDepth 100000 in
theorem mv_91 : j_code jP 197 91 = some (.iconst 0) := rfl
set_option maxRecDepth 100000 in
theorem mv_92 : j_code jP 197 92 = some (.sipush 199) := rfl
set_option maxRecDepth 100000 in
theorem mv_95 : j_code jP 197 95 = some (.invokevirtual 158) := rfl
set_option maxRecDepth 100000 in
theorem mv_98 : j_code jP 197 98 = some (.ifCond .ne 5) := rfl
set_option maxRecDepth 100000 in
theorem mv_101 : j_code jP 197 101 = some (.iconst 0) := rfl
set_option maxRecDepth 100000 in
theorem mv_102 : j_code jP 197 102 = some (.ireturn) := rfl
set_option maxRecDepth 100000 in
theorem mv_103 : j_code jP 197 103 = some (.aload_n 0) := rfl
set_option maxRecDepth 100000 in
theorem mv_104 : j_code jP 197 104 = some (.getfield 13) := rfl
set_option maxRecDepth 100000 in
theorem mv_107 : j_code jP 197 107 = some (.iload_n 1) := rfl
set_option maxRecDepth 100000 in
theorem mv_108 : j_code jP 197 108 = some (.iconst 4) := rfl
set_option maxRecDepth 100000 in
theorem mv_109 : j_code jP 197 109 = some (.invokestatic 73) := rfl
set_option maxRecDepth 100000 in
theorem mv_112 : j_code jP 197 112 = some (.iconst 0) := rfl
set_option maxRecDepth 100000 in
theorem mv_113 : j_code jP 197 113 = some (.iastore) := rfl
set_option maxRecDepth 100000 in
theorem mv_114 : j_code jP 197 114 = some (.aload_n 0) := rfl
set_option maxRecDepth 100000 in
theorem mv_115 : j_code jP 197 115 = some (.getfield 13) := rfl
set_option maxRecDepth 100000 in
theorem mv_118 : j_code jP 197 118 = some (.iload_n 1) := rfl
set_option maxRecDepth 100000 in
theorem mv_119 : j_code jP 197 119 = some (.iconst 5) := rfl
set_option maxRecDepth 100000 in
theorem mv_120 : j_code jP 197 120 = some (.invokestatic 73) := rfl
set_option maxRecDepth 100000 in
theorem mv_123 : j_code jP 197 123 = some (.iconst 1) := rfl
set_option maxRecDepth 100000 in
theorem mv_124 : j_code jP 197 124 = some (.iastore) := rfl
set_option maxRecDepth 100000 in
theorem mv_125 : j_code jP 197 125 = some (.aload_n 0) := rfl
set_option maxRecDepth 100000 in
theorem mv_126 : j_code jP 197 126 = some (.iconst 2) := rfl
set_option maxRecDepth 100000 in
theorem mv_127 : j_code jP 197 127 = some (.invokevirtual 132) := rfl
set_option maxRecDepth 100000 in
theorem mv_130 : j_code jP 197 130 = some (.ifCond .eq 23) := rfl
set_option maxRecDepth 100000 in
theorem mv_133 : j_code jP 197 133 = some (.aload_n 0) := rfl
set_option maxRecDepth 100000 in
theorem mv_134 : j_code jP 197 134 = some (.invokevirtual 144) := rfl
set_option maxRecDepth 100000 in
theorem mv_137 : j_code jP 197 137 = some (.aload_n 0) := rfl
set_option maxRecDepth 100000 in
theorem mv_138 : j_code jP 197 138 = some (.iload_n 1) := rfl
set_option maxRecDepth 100000 in
theorem mv_139 : j_code jP 197 139 = some (.iconst 4) := rfl
set_option maxRecDepth 100000 in
theorem mv_140 : j_code jP 197 140 = some (.invokestatic 73) := rfl
set_option maxRecDepth 100000 in
theorem mv_143 : j_code jP 197 143 = some (.iconst 0) := rfl
set_option maxRecDepth 100000 in
theorem mv_144 : j_code jP 197 144 = some (.iconst 3) := rfl
set_option maxRecDepth 100000 in
theorem mv_145 : j_code jP 197 145 = some (.invokevirtual 158) := rfl
set_option maxRecDepth 100000 in
theorem mv_148 : j_code jP 197 148 = some (.ifCond .ne 5) := rfl
set_option maxRecDepth 100000 in
theorem mv_151 : j_code jP 197 151 = some (.iconst 0) := rfl
set_option maxRecDepth 100000 in
theorem mv_152 : j_code jP 197 152 = some (.ireturn) := rfl
set_option maxRecDepth 100000 in
theorem mv_153 : j_code jP 197 153 = some (.aload_n 0) := rfl
set_option maxRecDepth 100000 in
theorem mv_154 : j_code jP 197 154 = some (.iconst 3) := rfl
set_option maxRecDepth 100000 in
theorem mv_155 : j_code jP 197 155 = some (.invokevirtual 132) := rfl
set_option maxRecDepth 100000 in
theorem mv_158 : j_code jP 197 158 = some (.ifCond .eq 24) := rfl
set_option maxRecDepth 100000 in
theorem mv_161 : j_code jP 197 161 = some (.aload_n 0) := rfl
set_option maxRecDepth 100000 in
theorem mv_162 : j_code jP 197 162 = some (.invokevirtual 144) := rfl
set_option maxRecDepth 100000 in
theorem mv_165 : j_code jP 197 165 = some (.aload_n 0) := rfl
set_option maxRecDepth 100000 in
theorem mv_166 : j_code jP 197 166 = some (.iload_n 1) := rfl
set_option maxRecDepth 100000 in
theorem mv_167 : j_code jP 197 167 = some (.iconst 5) := rfl
set_option maxRecDepth 100000 in
theorem mv_168 : j_code jP 197 168 = some (.invokestatic 73) := rfl
set_option maxRecDepth 100000 in
theorem mv_171 : j_code jP 197 171 = some (.iconst 1) := rfl
set_option maxRecDepth 100000 in
theorem mv_172 : j_code jP 197 172 = some (.bipush 9) := rfl
set_option maxRecDepth 100000 in
theorem mv_174 : j_code jP 197 174 = some (.invokevirtual 158) := rfl
set_option maxRecDepth 100000 in
theorem mv_177 : j_code jP 197 177 = some (.ifCond .ne 5) := rfl
set_option maxRecDepth 100000 in
theorem mv_180 : j_code jP 197 180 = some (.iconst 0) := rfl
set_option maxRecDepth 100000 in
theorem mv_181 : j_code jP 197 181 = some (.ireturn) := rfl
set_option maxRecDepth 100000 in
theorem mv_182 : j_code jP 197 182 = some (.iconst 0) := rfl
set_option maxRecDepth 100000 in
theorem mv_183 : j_code jP 197 183 = some (.istore_n 2) := rfl
set_option maxRecDepth 100000 in
theorem mv_184 : j_code jP 197 184 = some (.iload_n 2) := rfl
set_option maxRecDepth 100000 in
theorem mv_185 : j_code jP 197 185 = some (.bipush 7) := rfl
set_option maxRecDepth 100000 in
theorem mv_187 : j_code jP 197 187 = some (.if_icmp .ge 37) := rfl
set_option maxRecDepth 100000 in
theorem mv_190 : j_code jP 197 190 = some (.aload_n 0) := rfl
set_option maxRecDepth 100000 in
theorem mv_191 : j_code jP 197 191 = some (.getfield 13) := rfl
set_option maxRecDepth 100000 in
theorem mv_194 : j_code jP 197 194 = some (.iload_n 1) := rfl
set_option maxRecDepth 100000 in
theorem mv_195 : j_code jP 197 195 = some (.bipush 13) := rfl
set_option maxRecDepth 100000 in
theorem mv_197 : j_code jP 197 197 = some (.invokestatic 73) := rfl
set_option maxRecDepth 100000 in
theorem mv_200 : j_code jP 197 200 = some (.iload_n 2) := rfl
set_option maxRecDepth 100000 in
theorem mv_201 : j_code jP 197 201 = some (.iadd) := rfl
set_option maxRecDepth 100000 in
theorem mv_202 : j_code jP 197 202 = some (.iconst (-1)) := rfl
set_option maxRecDepth 100000 in
theorem mv_203 : j_code jP 197 203 = some (.iastore) := rfl
set_option maxRecDepth 100000 in
theorem mv_204 : j_code jP 197 204 = some (.aload_n 0) := rfl
set_option maxRecDepth 100000 in
theorem mv_205 : j_code jP 197 205 = some (.getfield 13) := rfl
set_option maxRecDepth 100000 in
theorem mv_208 : j_code jP 197 208 = some (.iload_n 1) := rfl
set_option maxRecDepth 100000 in
theorem mv_209 : j_code jP 197 209 = some (.bipush 20) := rfl
set_option maxRecDepth 100000 in
theorem mv_211 : j_code jP 197 211 = some (.invokestatic 73) := rfl
set_option maxRecDepth 100000 in
theorem mv_214 : j_code jP 197 214 = some (.iload_n 2) := rfl
set_option maxRecDepth 100000 in
theorem mv_215 : j_code jP 197 215 = some (.iadd) := rfl
set_option maxRecDepth 100000 in
theorem mv_216 : j_code jP 197 216 = some (.iconst (-1)) := rfl
set_option maxRecDepth 100000 in
theorem mv_217 : j_code jP 197 217 = some (.iastore) := rfl
set_option maxRecDepth 100000 in
theorem mv_218 : j_code jP 197 218 = some (.iinc 2 1) := rfl
set_option maxRecDepth 100000 in
theorem mv_221 : j_code jP 197 221 = some (.goto (-37)) := rfl
set_option maxRecDepth 100000 in
theorem mv_224 : j_code jP 197 224 = some (.aload_n 0) := rfl
set_option maxRecDepth 100000 in
theorem mv_225 : j_code jP 197 225 = some (.getfield 13) := rfl
set_option maxRecDepth 100000 in
theorem mv_228 : j_code jP 197 228 = some (.sipush 203) := rfl
set_option maxRecDepth 100000 in
theorem mv_231 : j_code jP 197 231 = some (.dup2) := rfl
set_option maxRecDepth 100000 in
theorem mv_232 : j_code jP 197 232 = some (.iaload) := rfl
set_option maxRecDepth 100000 in
theorem mv_233 : j_code jP 197 233 = some (.iconst 1) := rfl
set_option maxRecDepth 100000 in
theorem mv_234 : j_code jP 197 234 = some (.iadd) := rfl
set_option maxRecDepth 100000 in
theorem mv_235 : j_code jP 197 235 = some (.iastore) := rfl
set_option maxRecDepth 100000 in
theorem mv_236 : j_code jP 197 236 = some (.aload_n 0) := rfl
set_option maxRecDepth 100000 in
theorem mv_237 : j_code jP 197 237 = some (.invokevirtual 166) := rfl
set_option maxRecDepth 100000 in
theorem mv_240 : j_code jP 197 240 = some (.ireturn) := rfl
theorem mv_l {u : Nat → Value} {e nt : Nat} {m : List Int32} {h0 : J_H} {d : Nat} {F : Int32 × Int32} {y : rK} {rn : List Int64} {Q : Option Value → J_H → Prop} (h4 : nt < 5) : ∀ (f s : Nat) (rd : List Int32) (h : J_H), s + f = 7 → rd.length = 602 → KN h [(359, .inl (10, [(u 0), (u 1), .ref 361, (u 3), (u 4), (u 5), .ref 365, (u 7), .ref 367, (u 9), (u 10), (u 11), (u 12), (u 13), .int (nI e), .int y.2.2.1, .int (nI y.1), .int y.2.1, .int y.2.2.2.2, .int F.1, .int F.2, .long y.2.2.2.1, (u 22), (u 23), (u 24), (u 25), (u 26), (u 27)])), (361, .inr (.inl (0, rd))), (365, .inr (.inl (0, m))), (367, .inr (.inr (.inl rn)))] h0 → (∀ h, KN h [(359, .inl (10, [(u 0), (u 1), .ref 361, (u 3), (u 4), (u 5), .ref 365, (u 7), .ref 367, (u 9), (u 10), (u 11), (u 12), (u 13), .int (nI e), .int y.2.2.1, .int (nI y.1), .int y.2.1, .int y.2.2.2.2, .int F.1, .int F.2, .long y.2.2.2.1, (u 22), (u 23), (u 24), (u 25), (u 26), (u 27)])), (361, .inr (.inl (0, (mCw nt f s rd)))), (365, .inr (.inl (0, m))), (367, .inr (.inr (.inl rn)))] h0 → j_W jP (d + 1) 197 224 [(2, .int (nI 7)), (1, .int (nI nt)), (0, .ref 359)] [] h Q) → j_W jP (d + 1) 197 184 [(2, .int (nI s)), (1, .int (nI nt)), (0, .ref 359)] [] h Q := by
  intro f
  induction f with
  | zero =>
    intro s rd h hf hr K k
    obtain rfl : s = 7 := by omega
    refine j_W.one mv_M mv_184 (by decide) (pcJ := 185) (stJ := [.int (nI 7)]) rfl ?_
    refine j_W.one mv_M mv_185 (by decide) (pcJ := 187) (stJ := [.int 7, .int (nI 7)]) rfl ?_
    refine j_W.icmp mv_M mv_187 (t := 224) rfl (fun c => ?_) (fun c => ?_)
    · exact k _ K
    · exact absurd c (by decide)
  | succ f ih =>
    intro s rd h hf hr K k
    refine j_W.one mv_M mv_184 (by decide) (pcJ := 185) (stJ := [.int (nI s)]) rfl ?_
    refine j_W.one mv_M mv_185 (by decide) (pcJ := 187) (stJ := [.int 7, .int (nI s)]) rfl ?_
    refine j_W.icmp mv_M mv_187 (t := 224) rfl (fun c => ?_) (fun c => ?_)
    · exfalso; rw [jk_ge] at c; have c := of_decide_eq_true c; rw [nI_toInt (by omega), show (7 : Int32).toInt = 7 from rfl] at c; omega
    · clear c
      refine j_W.one mv_M mv_190 (by decide) (pcJ := 191) (stJ := [.ref 359]) rfl ?_
      refine j_W.getK mv_M mv_191 (ci := 10) (j := 2) rfl K rfl rfl ?_
      refine j_W.one mv_M mv_194 (by decide) (pcJ := 195) (stJ := [.int (nI nt), .ref 361]) rfl ?_
      refine j_W.one mv_M mv_195 (by decide) (pcJ := 197) (stJ := [.int 13, .int (nI nt), .ref 361]) rfl ?_
      refine j_W.call mv_M mv_197 rfl (md := 2) (mj := 177) rfl (by decide) ma_M (As := [.int (nI nt), .int (nI 13)]) (rest := [.ref 361]) (jk_spl2 rfl rfl (Nat.le_of_ble_eq_true rfl) (Nat.le_of_ble_eq_true rfl)) (ma_ok (j := 69 + 28 * nt) (by omega)) ?_
      rintro r hz ⟨rfl, ez⟩
      rw [ez]
      clear ez
      show j_W jP _ 197 200 [(2, .int (nI s)), (1, .int (nI nt)), (0, .ref 359)] [.int (nI (69 + 28 * nt)), .ref 361] h _
      refine j_W.one mv_M mv_200 (by decide) (pcJ := 201) (stJ := [.int (nI s), .int (nI (69 + 28 * nt)), .ref 361]) rfl ?_
      refine j_W.one mv_M mv_201 (by decide) (pcJ := 202) (stJ := [.int (nI (69 + 28 * nt + s)), .ref 361]) (by rw [← mi_add (69 + 28 * nt) s]; rfl) ?_
      refine j_W.one mv_M mv_202 (by decide) (pcJ := 203) (stJ := [.int (-1), .int (nI (69 + 28 * nt + s)), .ref 361]) rfl ?_
      refine j_W.iastK mv_M mv_203 (n := 69 + 28 * nt + s) (k' := [(359, .inl (10, [(u 0), (u 1), .ref 361, (u 3), (u 4), (u 5), .ref 365, (u 7), .ref 367, (u 9), (u 10), (u 11), (u 12), (u 13), .int (nI e), .int y.2.2.1, .int (nI y.1), .int y.2.1, .int y.2.2.2.2, .int F.1, .int F.2, .long y.2.2.2.1, (u 22), (u 23), (u 24), (u 25), (u 26), (u 27)])), (361, .inr (.inl (0, (rd.set (69 + 28 * nt + s) (-1))))), (365, .inr (.inl (0, m))), (367, .inr (.inr (.inl rn)))]) K rfl (by first | omega | (simp; omega)) (by first | omega | (simp; omega)) rfl (fun h K => ?_)
      refine j_W.one mv_M mv_204 (by decide) (pcJ := 205) (stJ := [.ref 359]) rfl ?_
      refine j_W.getK mv_M mv_205 (ci := 10) (j := 2) rfl K rfl rfl ?_
      refine j_W.one mv_M mv_208 (by decide) (pcJ := 209) (stJ := [.int (nI nt), .ref 361]) rfl ?_
      refine j_W.one mv_M mv_209 (by decide) (pcJ := 211) (stJ := [.int 20, .int (nI nt), .ref 361]) rfl ?_
      refine j_W.call mv_M mv_211 rfl (md := 2) (mj := 177) rfl (by decide) ma_M (As := [.int (nI nt), .int (nI 20)]) (rest := [.ref 361]) (jk_spl2 rfl rfl (Nat.le_of_ble_eq_true rfl) (Nat.le_of_ble_eq_true rfl)) (ma_ok (j := 76 + 28 * nt) (by omega)) ?_
      rintro r hz ⟨rfl, ez⟩
      rw [ez]
      clear ez
      show j_W jP _ 197 214 [(2, .int (nI s)), (1, .int (nI nt)), (0, .ref 359)] [.int (nI (76 + 28 * nt)), .ref 361] h _
      refine j_W.one mv_M mv_214 (by decide) (pcJ := 215) (stJ := [.int (nI s), .int (nI (76 + 28 * nt)), .ref 361]) rfl ?_
      refine j_W.one mv_M mv_215 (by decide) (pcJ := 216) (stJ := [.int (nI (76 + 28 * nt + s)), .ref 361]) (by rw [← mi_add (76 + 28 * nt) s]; rfl) ?_
      refine j_W.one mv_M mv_216 (by decide) (pcJ := 217) (stJ := [.int (-1), .int (nI (76 + 28 * nt + s)), .ref 361]) rfl ?_
      refine j_W.iastK mv_M mv_217 (n := 76 + 28 * nt + s) (k' := [(359, .inl (10, [(u 0), (u 1), .ref 361, (u 3), (u 4), (u 5), .ref 365, (u 7), .ref 367, (u 9), (u 10), (u 11), (u 12), (u 13), .int (nI e), .int y.2.2.1, .int (nI y.1), .int y.2.1, .int y.2.2.2.2, .int F.1, .int F.2, .long y.2.2.2.1, (u 22), (u 23), (u 24), (u 25), (u 26), (u 27)])), (361, .inr (.inl (0, ((rd.set (69 + 28 * nt + s) (-1)).set (76 + 28 * nt + s) (-1))))), (365, .inr (.inl (0, m))), (367, .inr (.inr (.inl rn)))]) K rfl (by first | omega | (simp; omega)) (by first | omega | (simp; omega)) rfl (fun h K => ?_)
      refine j_W.one mv_M mv_218 (by decide) (pcJ := 221) (lv' := [(2, .int ((nI s) + 1)), (1, .int (nI nt)), (0, .ref 359)]) (stJ := []) rfl ?_
      refine j_W.gto mv_M mv_221 (t := 184) rfl ?_
      have t9 := ih (s + 1) _ _ (by omega) (by simp [hr]) K (fun h K => k h K)
      rw [nI_succ] at t9
      exact t9
theorem mv_e {u : Nat → Value} {e : Nat} {m : List Int32} {h h0 : J_H} {d : Nat} {F : Int32 × Int32} {y : rK} {rd : List Int32} {rn : List Int64} {ns nt : Nat} (hm : m.length = 700) (he : e ≤ 700) (hb : ∀ k, k < e → 0 ≤ (m.getD k 0).toInt) (hp : y.1 ≤ e) (hr : rd.length = 602) (hn : rn.length = 12) (h7 : ns ≤ 7) (hs : rd.getD 202 0 = nI ns) (ht : rd.getD 203 0 = nI nt) (h4 : nt < 5) (K : KN h [(359, .inl (10, [(u 0), (u 1), .ref 361, (u 3), (u 4), (u 5), .ref 365, (u 7), .ref 367, (u 9), (u 10), (u 11), (u 12), (u 13), .int (nI e), .int y.2.2.1, .int (nI y.1), .int y.2.1, .int y.2.2.2.2, .int F.1, .int F.2, .long y.2.2.2.1, (u 22), (u 23), (u 24), (u 25), (u 26), (u 27)])), (361, .inr (.inl (0, rd))), (365, .inr (.inl (0, m))), (367, .inr (.inr (.inl rn)))] h0) : j_W jP (d + 1 + 1 + 1) 197 182 [(1, .int (nI nt)), (0, .ref 359)] [] h (PN u e m h0 (mTe m e nt F y rd rn)) := by
  unfold mTe
  refine j_W.one mv_M mv_182 (by decide) (pcJ := 183) (stJ := [.int 0]) rfl ?_
  refine j_W.one mv_M mv_183 (by decide) (pcJ := 184) (lv' := [(2, .int 0), (1, .int (nI nt)), (0, .ref 359)]) (stJ := []) rfl ?_
  refine mv_l h4 7 0 rd h (by omega) hr K ?_
  clear K
  intro h K
  have e1 : (mCw nt 7 0 rd).length = 602 := (mCw_len 7 0 rd).trans hr
  have e2 : (mCw nt 7 0 rd).getD 203 0 = nI nt := (mCw_at (fun s hs => by omega) 7 0 rd rfl).trans ht
  generalize mCw nt 7 0 rd = rd at e1 e2 K ⊢
  refine j_W.one mv_M mv_224 (by decide) (pcJ := 225) (stJ := [.ref 359]) rfl ?_
  refine j_W.getK mv_M mv_225 (ci := 10) (j := 2) rfl K rfl rfl ?_
  refine j_W.one mv_M mv_228 (by decide) (pcJ := 231) (stJ := [.int 203, .ref 361]) rfl ?_
  refine j_W.one mv_M mv_231 (by decide) (pcJ := 232) (stJ := [.int 203, .ref 361, .int 203, .ref 361]) rfl ?_
  refine j_W.ialdK mv_M mv_232 K rfl (n := 203) (by omega) (by omega) ?_
  rw [e2]
  refine j_W.one mv_M mv_233 (by decide) (pcJ := 234) (stJ := [.int 1, .int (nI nt), .int 203, .ref 361]) rfl ?_
  refine j_W.one mv_M mv_234 (by decide) (pcJ := 235) (stJ := [.int (nI (nt + 1)), .int 203, .ref 361]) (by rw [show nI (nt + 1) = nI nt + 1 from Int32.ofNat_add nt 1]; rfl) ?_
  refine j_W.iastK mv_M mv_235 (n := 203) (k' := [(359, .inl (10, [(u 0), (u 1), .ref 361, (u 3), (u 4), (u 5), .ref 365, (u 7), .ref 367, (u 9), (u 10), (u 11), (u 12), (u 13), .int (nI e), .int y.2.2.1, .int (nI y.1), .int y.2.1, .int y.2.2.2.2, .int F.1, .int F.2, .long y.2.2.2.1, (u 22), (u 23), (u 24), (u 25), (u 26), (u 27)])), (361, .inr (.inl (0, (rd.set 203 (nI (nt + 1)))))), (365, .inr (.inl (0, m))), (367, .inr (.inr (.inl rn)))]) K rfl (by first | omega | (simp; omega)) (by first | omega | (simp; omega)) rfl (fun h K => ?_)
  refine j_W.one mv_M mv_236 (by decide) (pcJ := 237) (stJ := [.ref 359]) rfl ?_
  generalize hR : mEnd m e F y (rd.set 203 (nI (nt + 1))) rn = R
  refine j_W.call mv_M mv_237 rfl (md := 3) (mj := 191) rfl (by decide) me_M (As := [.ref 359]) (rest := []) (jk_spl3 (K.at rfl) rfl rfl rfl (Nat.le_of_ble_eq_true rfl) (Nat.le_of_ble_eq_true rfl)) ((hR ▸ me_ok hm he hb hp (by simp [e1]) hn (K.sub ⟨rfl, rfl, rfl, rfl, trivial⟩))) ?_
  rintro r h9 ⟨rfl, K9⟩
  have K : KN h9 [(359, .inl (10, [(u 0), (u 1), .ref 361, (u 3), (u 4), (u 5), .ref 365, (u 7), .ref 367, (u 9), (u 10), (u 11), (u 12), (u 13), .int (nI e), .int R.2.2.1.2.2.1, .int (nI R.2.2.1.1), .int R.2.2.1.2.1, .int R.2.2.1.2.2.2.2, .int R.2.1.1, .int R.2.1.2, .long R.2.2.1.2.2.2.1, (u 22), (u 23), (u 24), (u 25), (u 26), (u 27)])), (361, .inr (.inl (0, R.2.2.2.1))), (365, .inr (.inl (0, m))), (367, .inr (.inr (.inl R.2.2.2.2)))] h0 := K.go K9 rfl rfl rfl
  clear K9
  show j_W jP _ 197 240 [(2, .int (nI 7)), (1, .int (nI nt)), (0, .ref 359)] [.int (bif R.1 then 1 else 0)] h9 _
  refine j_W.ret mv_M mv_240 rfl (jk_retb _) ⟨rfl, K⟩
theorem mv_w {u : Nat → Value} {e : Nat} {m : List Int32} {h h0 : J_H} {d : Nat} {F : Int32 × Int32} {y : rK} {rd : List Int32} {rn : List Int64} {ns nt : Nat} (hm : m.length = 700) (he : e ≤ 700) (hb : ∀ k, k < e → 0 ≤ (m.getD k 0).toInt) (hp : y.1 ≤ e) (hr : rd.length = 602) (hn : rn.length = 12) (h7 : ns ≤ 7) (hs : rd.getD 202 0 = nI ns) (ht : rd.getD 203 0 = nI nt) (h4 : nt < 5) (K : KN h [(359, .inl (10, [(u 0), (u 1), .ref 361, (u 3), (u 4), (u 5), .ref 365, (u 7), .ref 367, (u 9), (u 10), (u 11), (u 12), (u 13), .int (nI e), .int y.2.2.1, .int (nI y.1), .int y.2.1, .int y.2.2.2.2, .int F.1, .int F.2, .long y.2.2.2.1, (u 22), (u 23), (u 24), (u 25), (u 26), (u 27)])), (361, .inr (.inl (0, rd))), (365, .inr (.inl (0, m))), (367, .inr (.inr (.inl rn)))] h0) : j_W jP (d + 1 + 1 + 1 + 1) 197 153 [(1, .int (nI nt)), (0, .ref 359)] [] h (PN u e m h0 (mTw m e nt F y rd rn)) := by
  unfold mTw
  refine j_W.one mv_M mv_153 (by decide) (pcJ := 154) (stJ := [.ref 359]) rfl ?_
  refine j_W.one mv_M mv_154 (by decide) (pcJ := 155) (stJ := [.int 3, .ref 359]) rfl ?_
  refine j_W.call mv_M mv_155 rfl (md := 3) (mj := 188) rfl (by decide) mo_M (As := [.ref 359, .int 3]) (rest := []) (jk_spl3 (K.at rfl) rfl rfl rfl (Nat.le_of_ble_eq_true rfl) (Nat.le_of_ble_eq_true rfl)) (mo_ok3 (K.sub ⟨rfl, trivial⟩)) ?_
  rintro r hz ⟨rfl, ez⟩
  rw [ez]
  clear ez
  show j_W jP _ 197 158 [(1, .int (nI nt)), (0, .ref 359)] [.int (if y.2.1 = 2 ∧ y.2.2.2.1 = W3 then 1 else 0)] h _
  rcases Decidable.em (y.2.1 = 2 ∧ y.2.2.2.1 = W3) with hw | hw
  · rw [if_pos hw, if_pos hw]
    refine j_W.ifc mv_M mv_158 (t := 182) rfl (fun c => ?_) (fun c => ?_)
    · cases c
    · clear c
      refine j_W.one mv_M mv_161 (by decide) (pcJ := 162) (stJ := [.ref 359]) rfl ?_
      refine j_W.call mv_M mv_162 rfl (md := 3) (mj := 185) rfl (by decide) mg_M (As := [.ref 359]) (rest := []) (jk_spl3 (K.at rfl) rfl rfl rfl (Nat.le_of_ble_eq_true rfl) (Nat.le_of_ble_eq_true rfl)) (mg_ok hm he hb hp (K.sub ⟨rfl, rfl, trivial⟩)) ?_
      rintro r h9 ⟨rfl, K9⟩
      have K : KN h9 [(359, .inl (10, [(u 0), (u 1), .ref 361, (u 3), (u 4), (u 5), .ref 365, (u 7), .ref 367, (u 9), (u 10), (u 11), (u 12), (u 13), .int (nI e), .int (mT m e y).2.2.1, .int (nI (mT m e y).1), .int (mT m e y).2.1, .int (mT m e y).2.2.2.2, .int F.1, .int F.2, .long (mT m e y).2.2.2.1, (u 22), (u 23), (u 24), (u 25), (u 26), (u 27)])), (361, .inr (.inl (0, rd))), (365, .inr (.inl (0, m))), (367, .inr (.inr (.inl rn)))] h0 := K.go K9 rfl rfl rfl
      clear K9
      show j_W jP _ 197 165 [(1, .int (nI nt)), (0, .ref 359)] [] h9 _
      refine j_W.one mv_M mv_165 (by decide) (pcJ := 166) (stJ := [.ref 359]) rfl ?_
      refine j_W.one mv_M mv_166 (by decide) (pcJ := 167) (stJ := [.int (nI nt), .ref 359]) rfl ?_
      refine j_W.one mv_M mv_167 (by decide) (pcJ := 168) (stJ := [.int 5, .int (nI nt), .ref 359]) rfl ?_
      refine j_W.call mv_M mv_168 rfl (md := 2) (mj := 177) rfl (by decide) ma_M (As := [.int (nI nt), .int (nI 5)]) (rest := [.ref 359]) (jk_spl2 rfl rfl (Nat.le_of_ble_eq_true rfl) (Nat.le_of_ble_eq_true rfl)) (ma_ok (j := 61 + 28 * nt) (by omega)) ?_
      rintro r hz ⟨rfl, ez⟩
      rw [ez]
      clear ez
      show j_W jP _ 197 171 [(1, .int (nI nt)), (0, .ref 359)] [.int (nI (61 + 28 * nt)), .ref 359] h9 _
      refine j_W.one mv_M mv_171 (by decide) (pcJ := 172) (stJ := [.int 1, .int (nI (61 + 28 * nt)), .ref 359]) rfl ?_
      refine j_W.one mv_M mv_172 (by decide) (pcJ := 174) (stJ := [.int 9, .int 1, .int (nI (61 + 28 * nt)), .ref 359]) rfl ?_
      have hw9 := mNum_w (p := 0) (F := F) (m := m) (ns := ns) (nt := nt) (i := 61 + 28 * nt) (lo := 1) (hi := 9) (y := (mT m e y)) ⟨Nat.zero_le _, (tkN_le hp)⟩ hr hn hs ht (by omega)
      generalize hR : mNum m e F (61 + 28 * nt) 1 9 (mT m e y) rd rn = R at hw9 ⊢
      refine j_W.call mv_M mv_174 rfl (md := 3) (mj := 192) rfl (by decide) mr_M (As := [.ref 359, .int (nI (61 + 28 * nt)), .int 1, .int 9]) (rest := []) (jk_spl3 (K.at rfl) rfl rfl rfl (Nat.le_of_ble_eq_true rfl) (Nat.le_of_ble_eq_true rfl)) ((hR ▸ mr_ok (i := 61 + 28 * nt) (lo := 1) (hi := 9) hm he hb (tkN_le hp) hr hn (by omega) (K.sub ⟨rfl, rfl, rfl, rfl, trivial⟩))) ?_
      rintro r h9 ⟨rfl, K9⟩
      have K : KN h9 [(359, .inl (10, [(u 0), (u 1), .ref 361, (u 3), (u 4), (u 5), .ref 365, (u 7), .ref 367, (u 9), (u 10), (u 11), (u 12), (u 13), .int (nI e), .int R.2.2.1.2.2.1, .int (nI R.2.2.1.1), .int R.2.2.1.2.1, .int R.2.2.1.2.2.2.2, .int R.2.1.1, .int R.2.1.2, .long R.2.2.1.2.2.2.1, (u 22), (u 23), (u 24), (u 25), (u 26), (u 27)])), (361, .inr (.inl (0, R.2.2.2.1))), (365, .inr (.inl (0, m))), (367, .inr (.inr (.inl R.2.2.2.2)))] h0 := K.go K9 rfl rfl rfl
      clear K9
      show j_W jP _ 197 177 [(1, .int (nI nt)), (0, .ref 359)] [.int (bif R.1 then 1 else 0)] h9 _
      clear hR
      cases hb9 : R.1 with
      | true =>
        unfold mBind
        rw [hb9, cond_true, cond_true]
        show j_W jP _ 197 177 [(1, .int (nI nt)), (0, .ref 359)] [.int 1] h9 _
        refine j_W.ifc mv_M mv_177 (t := 182) rfl (fun c => ?_) (fun c => ?_)
        · clear c
          rw [(hw9.2.2.2 hb9).1] at K
          have K : KN h9 [(359, .inl (10, [(u 0), (u 1), .ref 361, (u 3), (u 4), (u 5), .ref 365, (u 7), .ref 367, (u 9), (u 10), (u 11), (u 12), (u 13), .int (nI e), .int R.2.2.1.2.2.1, .int (nI R.2.2.1.1), .int R.2.2.1.2.1, .int R.2.2.1.2.2.2.2, .int F.1, .int F.2, .long R.2.2.1.2.2.2.1, (u 22), (u 23), (u 24), (u 25), (u 26), (u 27)])), (361, .inr (.inl (0, R.2.2.2.1))), (365, .inr (.inl (0, m))), (367, .inr (.inr (.inl R.2.2.2.2)))] h0 := K
          exact mv_e hm he hb hw9.1.2 hw9.2.1 hw9.2.2.1 h7 (hw9.2.2.2 hb9).2.1 (hw9.2.2.2 hb9).2.2 h4 K
        · cases c
      | false =>
        unfold mBind
        rw [hb9, cond_false, cond_false]
        show j_W jP _ 197 177 [(1, .int (nI nt)), (0, .ref 359)] [.int 0] h9 _
        refine j_W.ifc mv_M mv_177 (t := 182) rfl (fun c => ?_) (fun c => ?_)
        · cases c
        · clear c
          refine j_W.one mv_M mv_180 (by decide) (pcJ := 181) (stJ := [.int 0]) rfl ?_
          refine j_W.ret mv_M mv_181 rfl rfl ⟨by rw [hb9]; rfl, K⟩
  · rw [if_neg hw, if_neg hw]
    refine j_W.ifc mv_M mv_158 (t := 182) rfl (fun c => ?_) (fun c => ?_)
    · clear c
      exact mv_e hm he hb hp hr hn h7 hs ht h4 K
    · cases c
theorem mv_s {u : Nat → Value} {e : Nat} {m : List Int32} {h h0 : J_H} {d : Nat} {F : Int32 × Int32} {y : rK} {rd : List Int32} {rn : List Int64} {ns nt : Nat} (hm : m.length = 700) (he : e ≤ 700) (hb : ∀ k, k < e → 0 ≤ (m.getD k 0).toInt) (hp : y.1 ≤ e) (hr : rd.length = 602) (hn : rn.length = 12) (h7 : ns ≤ 7) (hs : rd.getD 202 0 = nI ns) (ht : rd.getD 203 0 = nI nt) (h4 : nt < 5) (K : KN h [(359, .inl (10, [(u 0), (u 1), .ref 361, (u 3), (u 4), (u 5), .ref 365, (u 7), .ref 367, (u 9), (u 10), (u 11), (u 12), (u 13), .int (nI e), .int y.2.2.1, .int (nI y.1), .int y.2.1, .int y.2.2.2.2, .int F.1, .int F.2, .long y.2.2.2.1, (u 22), (u 23), (u 24), (u 25), (u 26), (u 27)])), (361, .inr (.inl (0, rd))), (365, .inr (.inl (0, m))), (367, .inr (.inr (.inl rn)))] h0) : j_W jP (d + 1 + 1 + 1 + 1) 197 125 [(1, .int (nI nt)), (0, .ref 359)] [] h (PN u e m h0 (mTs m e nt F y rd rn)) := by
  unfold mTs
  refine j_W.one mv_M mv_125 (by decide) (pcJ := 126) (stJ := [.ref 359]) rfl ?_
  refine j_W.one mv_M mv_126 (by decide) (pcJ := 127) (stJ := [.int 2, .ref 359]) rfl ?_
  refine j_W.call mv_M mv_127 rfl (md := 3) (mj := 188) rfl (by decide) mo_M (As := [.ref 359, .int 2]) (rest := []) (jk_spl3 (K.at rfl) rfl rfl rfl (Nat.le_of_ble_eq_true rfl) (Nat.le_of_ble_eq_true rfl)) (mo_ok2 (K.sub ⟨rfl, trivial⟩)) ?_
  rintro r hz ⟨rfl, ez⟩
  rw [ez]
  clear ez
  show j_W jP _ 197 130 [(1, .int (nI nt)), (0, .ref 359)] [.int (if y.2.1 = 2 ∧ y.2.2.2.1 = W2 then 1 else 0)] h _
  rcases Decidable.em (y.2.1 = 2 ∧ y.2.2.2.1 = W2) with hw | hw
  · rw [if_pos hw, if_pos hw]
    refine j_W.ifc mv_M mv_130 (t := 153) rfl (fun c => ?_) (fun c => ?_)
    · cases c
    · clear c
      refine j_W.one mv_M mv_133 (by decide) (pcJ := 134) (stJ := [.ref 359]) rfl ?_
      refine j_W.call mv_M mv_134 rfl (md := 3) (mj := 185) rfl (by decide) mg_M (As := [.ref 359]) (rest := []) (jk_spl3 (K.at rfl) rfl rfl rfl (Nat.le_of_ble_eq_true rfl) (Nat.le_of_ble_eq_true rfl)) (mg_ok hm he hb hp (K.sub ⟨rfl, rfl, trivial⟩)) ?_
      rintro r h9 ⟨rfl, K9⟩
      have K : KN h9 [(359, .inl (10, [(u 0), (u 1), .ref 361, (u 3), (u 4), (u 5), .ref 365, (u 7), .ref 367, (u 9), (u 10), (u 11), (u 12), (u 13), .int (nI e), .int (mT m e y).2.2.1, .int (nI (mT m e y).1), .int (mT m e y).2.1, .int (mT m e y).2.2.2.2, .int F.1, .int F.2, .long (mT m e y).2.2.2.1, (u 22), (u 23), (u 24), (u 25), (u 26), (u 27)])), (361, .inr (.inl (0, rd))), (365, .inr (.inl (0, m))), (367, .inr (.inr (.inl rn)))] h0 := K.go K9 rfl rfl rfl
      clear K9
      show j_W jP _ 197 137 [(1, .int (nI nt)), (0, .ref 359)] [] h9 _
      refine j_W.one mv_M mv_137 (by decide) (pcJ := 138) (stJ := [.ref 359]) rfl ?_
      refine j_W.one mv_M mv_138 (by decide) (pcJ := 139) (stJ := [.int (nI nt), .ref 359]) rfl ?_
      refine j_W.one mv_M mv_139 (by decide) (pcJ := 140) (stJ := [.int 4, .int (nI nt), .ref 359]) rfl ?_
      refine j_W.call mv_M mv_140 rfl (md := 2) (mj := 177) rfl (by decide) ma_M (As := [.int (nI nt), .int (nI 4)]) (rest := [.ref 359]) (jk_spl2 rfl rfl (Nat.le_of_ble_eq_true rfl) (Nat.le_of_ble_eq_true rfl)) (ma_ok (j := 60 + 28 * nt) (by omega)) ?_
      rintro r hz ⟨rfl, ez⟩
      rw [ez]
      clear ez
      show j_W jP _ 197 143 [(1, .int (nI nt)), (0, .ref 359)] [.int (nI (60 + 28 * nt)), .ref 359] h9 _
      refine j_W.one mv_M mv_143 (by decide) (pcJ := 144) (stJ := [.int 0, .int (nI (60 + 28 * nt)), .ref 359]) rfl ?_
      refine j_W.one mv_M mv_144 (by decide) (pcJ := 145) (stJ := [.int 3, .int 0, .int (nI (60 + 28 * nt)), .ref 359]) rfl ?_
      have hw9 := mNum_w (p := 0) (F := F) (m := m) (ns := ns) (nt := nt) (i := 60 + 28 * nt) (lo := 0) (hi := 3) (y := (mT m e y)) ⟨Nat.zero_le _, (tkN_le hp)⟩ hr hn hs ht (by omega)
      generalize hR : mNum m e F (60 + 28 * nt) 0 3 (mT m e y) rd rn = R at hw9 ⊢
      refine j_W.call mv_M mv_145 rfl (md := 3) (mj := 192) rfl (by decide) mr_M (As := [.ref 359, .int (nI (60 + 28 * nt)), .int 0, .int 3]) (rest := []) (jk_spl3 (K.at rfl) rfl rfl rfl (Nat.le_of_ble_eq_true rfl) (Nat.le_of_ble_eq_true rfl)) ((hR ▸ mr_ok (i := 60 + 28 * nt) (lo := 0) (hi := 3) hm he hb (tkN_le hp) hr hn (by omega) (K.sub ⟨rfl, rfl, rfl, rfl, trivial⟩))) ?_
      rintro r h9 ⟨rfl, K9⟩
      have K : KN h9 [(359, .inl (10, [(u 0), (u 1), .ref 361, (u 3), (u 4), (u 5), .ref 365, (u 7), .ref 367, (u 9), (u 10), (u 11), (u 12), (u 13), .int (nI e), .int R.2.2.1.2.2.1, .int (nI R.2.2.1.1), .int R.2.2.1.2.1, .int R.2.2.1.2.2.2.2, .int R.2.1.1, .int R.2.1.2, .long R.2.2.1.2.2.2.1, (u 22), (u 23), (u 24), (u 25), (u 26), (u 27)])), (361, .inr (.inl (0, R.2.2.2.1))), (365, .inr (.inl (0, m))), (367, .inr (.inr (.inl R.2.2.2.2)))] h0 := K.go K9 rfl rfl rfl
      clear K9
      show j_W jP _ 197 148 [(1, .int (nI nt)), (0, .ref 359)] [.int (bif R.1 then 1 else 0)] h9 _
      clear hR
      cases hb9 : R.1 with
      | true =>
        unfold mBind
        rw [hb9, cond_true, cond_true]
        show j_W jP _ 197 148 [(1, .int (nI nt)), (0, .ref 359)] [.int 1] h9 _
        refine j_W.ifc mv_M mv_148 (t := 153) rfl (fun c => ?_) (fun c => ?_)
        · clear c
          rw [(hw9.2.2.2 hb9).1] at K
          have K : KN h9 [(359, .inl (10, [(u 0), (u 1), .ref 361, (u 3), (u 4), (u 5), .ref 365, (u 7), .ref 367, (u 9), (u 10), (u 11), (u 12), (u 13), .int (nI e), .int R.2.2.1.2.2.1, .int (nI R.2.2.1.1), .int R.2.2.1.2.1, .int R.2.2.1.2.2.2.2, .int F.1, .int F.2, .long R.2.2.1.2.2.2.1, (u 22), (u 23), (u 24), (u 25), (u 26), (u 27)])), (361, .inr (.inl (0, R.2.2.2.1))), (365, .inr (.inl (0, m))), (367, .inr (.inr (.inl R.2.2.2.2)))] h0 := K
          exact mv_w hm he hb hw9.1.2 hw9.2.1 hw9.2.2.1 h7 (hw9.2.2.2 hb9).2.1 (hw9.2.2.2 hb9).2.2 h4 K
        · cases c
      | false =>
        unfold mBind
        rw [hb9, cond_false, cond_false]
        show j_W jP _ 197 148 [(1, .int (nI nt)), (0, .ref 359)] [.int 0] h9 _
        refine j_W.ifc mv_M mv_148 (t := 153) rfl (fun c => ?_) (fun c => ?_)
        · cases c
        · clear c
          refine j_W.one mv_M mv_151 (by decide) (pcJ := 152) (stJ := [.int 0]) rfl ?_
          refine j_W.ret mv_M mv_152 rfl rfl ⟨by rw [hb9]; rfl, K⟩
  · rw [if_neg hw, if_neg hw]
    refine j_W.ifc mv_M mv_130 (t := 153) rfl (fun c => ?_) (fun c => ?_)
    · clear c
      exact mv_w hm he hb hp hr hn h7 hs ht h4 K
    · cases c
theorem mv_m {u : Nat → Value} {e : Nat} {m : List Int32} {h h0 : J_H} {d : Nat} {F : Int32 × Int32} {y : rK} {rd : List Int32} {rn : List Int64} {ns nt : Nat} (hm : m.length = 700) (he : e ≤ 700) (hb : ∀ k, k < e → 0 ≤ (m.getD k 0).toInt) (hp : y.1 ≤ e) (hr : rd.length = 602) (hn : rn.length = 12) (h7 : ns ≤ 7) (hs : rd.getD 202 0 = nI ns) (ht : rd.getD 203 0 = nI nt) (h4 : nt < 5) (K : KN h [(359, .inl (10, [(u 0), (u 1), .ref 361, (u 3), (u 4), (u 5), .ref 365, (u 7), .ref 367, (u 9), (u 10), (u 11), (u 12), (u 13), .int (nI e), .int y.2.2.1, .int (nI y.1), .int y.2.1, .int y.2.2.2.2, .int F.1, .int F.2, .long y.2.2.2.1, (u 22), (u 23), (u 24), (u 25), (u 26), (u 27)])), (361, .inr (.inl (0, rd))), (365, .inr (.inl (0, m))), (367, .inr (.inr (.inl rn)))] h0) : j_W jP (d + 1 + 1 + 1 + 1) 197 103 [(1, .int (nI nt)), (0, .ref 359)] [] h (PN u e m h0 (mTm m e nt F y rd rn)) := by
  unfold mTm
  refine j_W.one mv_M mv_103 (by decide) (pcJ := 104) (stJ := [.ref 359]) rfl ?_
  refine j_W.getK mv_M mv_104 (ci := 10) (j := 2) rfl K rfl rfl ?_
  refine j_W.one mv_M mv_107 (by decide) (pcJ := 108) (stJ := [.int (nI nt), .ref 361]) rfl ?_
  refine j_W.one mv_M mv_108 (by decide) (pcJ := 109) (stJ := [.int 4, .int (nI nt), .ref 361]) rfl ?_
  refine j_W.call mv_M mv_109 rfl (md := 2) (mj := 177) rfl (by decide) ma_M (As := [.int (nI nt), .int (nI 4)]) (rest := [.ref 361]) (jk_spl2 rfl rfl (Nat.le_of_ble_eq_true rfl) (Nat.le_of_ble_eq_true rfl)) (ma_ok (j := 60 + 28 * nt) (by omega)) ?_
  rintro r hz ⟨rfl, ez⟩
  rw [ez]
  clear ez
  show j_W jP _ 197 112 [(1, .int (nI nt)), (0, .ref 359)] [.int (nI (60 + 28 * nt)), .ref 361] h _
  refine j_W.one mv_M mv_112 (by decide) (pcJ := 113) (stJ := [.int 0, .int (nI (60 + 28 * nt)), .ref 361]) rfl ?_
  refine j_W.iastK mv_M mv_113 (n := 60 + 28 * nt) (k' := [(359, .inl (10, [(u 0), (u 1), .ref 361, (u 3), (u 4), (u 5), .ref 365, (u 7), .ref 367, (u 9), (u 10), (u 11), (u 12), (u 13), .int (nI e), .int y.2.2.1, .int (nI y.1), .int y.2.1, .int y.2.2.2.2, .int F.1, .int F.2, .long y.2.2.2.1, (u 22), (u 23), (u 24), (u 25), (u 26), (u 27)])), (361, .inr (.inl (0, (rd.set (60 + 28 * nt) 0)))), (365, .inr (.inl (0, m))), (367, .inr (.inr (.inl rn)))]) K rfl (by first | omega | (simp; omega)) (by first | omega | (simp; omega)) rfl (fun h K => ?_)
  refine j_W.one mv_M mv_114 (by decide) (pcJ := 115) (stJ := [.ref 359]) rfl ?_
  refine j_W.getK mv_M mv_115 (ci := 10) (j := 2) rfl K rfl rfl ?_
  refine j_W.one mv_M mv_118 (by decide) (pcJ := 119) (stJ := [.int (nI nt), .ref 361]) rfl ?_
  refine j_W.one mv_M mv_119 (by decide) (pcJ := 120) (stJ := [.int 5, .int (nI nt), .ref 361]) rfl ?_
  refine j_W.call mv_M mv_120 rfl (md := 2) (mj := 177) rfl (by decide) ma_M (As := [.int (nI nt), .int (nI 5)]) (rest := [.ref 361]) (jk_spl2 rfl rfl (Nat.le_of_ble_eq_true rfl) (Nat.le_of_ble_eq_true rfl)) (ma_ok (j := 61 + 28 * nt) (by omega)) ?_
  rintro r hz ⟨rfl, ez⟩
  rw [ez]
  clear ez
  show j_W jP _ 197 123 [(1, .int (nI nt)), (0, .ref 359)] [.int (nI (61 + 28 * nt)), .ref 361] h _
  refine j_W.one mv_M mv_123 (by decide) (pcJ := 124) (stJ := [.int 1, .int (nI (61 + 28 * nt)), .ref 361]) rfl ?_
  refine j_W.iastK mv_M mv_124 (n := 61 + 28 * nt) (k' := [(359, .inl (10, [(u 0), (u 1), .ref 361, (u 3), (u 4), (u 5), .ref 365, (u 7), .ref 367, (u 9), (u 10), (u 11), (u 12), (u 13), .int (nI e), .int y.2.2.1, .int (nI y.1), .int y.2.1, .int y.2.2.2.2, .int F.1, .int F.2, .long y.2.2.2.1, (u 22), (u 23), (u 24), (u 25), (u 26), (u 27)])), (361, .inr (.inl (0, ((rd.set (60 + 28 * nt) 0).set (61 + 28 * nt) 1)))), (365, .inr (.inl (0, m))), (367, .inr (.inr (.inl rn)))]) K rfl (by first | omega | (simp; omega)) (by first | omega | (simp; omega)) rfl (fun h K => ?_)
  exact mv_s hm he hb hp (by simp [hr]) hn h7 ((mi_ne (by omega)).trans ((mi_ne (by omega)).trans hs)) ((mi_ne (by omega)).trans ((mi_ne (by omega)).trans ht)) h4 K
theorem mv_k5 {u : Nat → Value} {e : Nat} {m : List Int32} {h h0 : J_H} {d : Nat} {F : Int32 × Int32} {y : rK} {rd : List Int32} {rn : List Int64} {ns nt : Nat} (hm : m.length = 700) (he : e ≤ 700) (hb : ∀ k, k < e → 0 ≤ (m.getD k 0).toInt) (hp : y.1 ≤ e) (hr : rd.length = 602) (hn : rn.length = 12) (h7 : ns ≤ 7) (hs : rd.getD 202 0 = nI ns) (ht : rd.getD 203 0 = nI nt) (h4 : nt < 5) (K : KN h [(359, .inl (10, [(u 0), (u 1), .ref 361, (u 3), (u 4), (u 5), .ref 365, (u 7), .ref 367, (u 9), (u 10), (u 11), (u 12), (u 13), .int (nI e), .int y.2.2.1, .int (nI y.1), .int y.2.1, .int y.2.2.2.2, .int F.1, .int F.2, .long y.2.2.2.1, (u 22), (u 23), (u 24), (u 25), (u 26), (u 27)])), (361, .inr (.inl (0, rd))), (365, .inr (.inl (0, m))), (367, .inr (.inr (.inl rn)))] h0) : j_W jP (d + 1 + 1 + 1 + 1) 197 85 [(1, .int (nI nt)), (0, .ref 359)] [] h (PN u e m h0 (mTn5 m e nt F y rd rn)) := by
  unfold mTn5
  refine j_W.one mv_M mv_85 (by decide) (pcJ := 86) (stJ := [.ref 359]) rfl ?_
  refine j_W.one mv_M mv_86 (by decide) (pcJ := 87) (stJ := [.int (nI nt), .ref 359]) rfl ?_
  refine j_W.one mv_M mv_87 (by decide) (pcJ := 88) (stJ := [.int 3, .int (nI nt), .ref 359]) rfl ?_
  refine j_W.call mv_M mv_88 rfl (md := 2) (mj := 177) rfl (by decide) ma_M (As := [.int (nI nt), .int (nI 3)]) (rest := [.ref 359]) (jk_spl2 rfl rfl (Nat.le_of_ble_eq_true rfl) (Nat.le_of_ble_eq_true rfl)) (ma_ok (j := 59 + 28 * nt) (by omega)) ?_
  rintro r hz ⟨rfl, ez⟩
  rw [ez]
  clear ez
  show j_W jP _ 197 91 [(1, .int (nI nt)), (0, .ref 359)] [.int (nI (59 + 28 * nt)), .ref 359] h _
  refine j_W.one mv_M mv_91 (by decide) (pcJ := 92) (stJ := [.int 0, .int (nI (59 + 28 * nt)), .ref 359]) rfl ?_
  refine j_W.one mv_M mv_92 (by decide) (pcJ := 95) (stJ := [.int 199, .int 0, .int (nI (59 + 28 * nt)), .ref 359]) rfl ?_
  have hw9 := mNum_w (p := 0) (F := F) (m := m) (ns := ns) (nt := nt) (i := 59 + 28 * nt) (lo := 0) (hi := 199) (y := y) ⟨Nat.zero_le _, hp⟩ hr hn hs ht (by omega)
  generalize hR : mNum m e F (59 + 28 * nt) 0 199 y rd rn = R at hw9 ⊢
  refine j_W.call mv_M mv_95 rfl (md := 3) (mj := 192) rfl (by decide) mr_M (As := [.ref 359, .int (nI (59 + 28 * nt)), .int 0, .int 199]) (rest := []) (jk_spl3 (K.at rfl) rfl rfl rfl (Nat.le_of_ble_eq_true rfl) (Nat.le_of_ble_eq_true rfl)) ((hR ▸ mr_ok (i := 59 + 28 * nt) (lo := 0) (hi := 199) hm he hb hp hr hn (by omega) (K.sub ⟨rfl, rfl, rfl, rfl, trivial⟩))) ?_
  rintro r h9 ⟨rfl, K9⟩
  have K : KN h9 [(359, .inl (10, [(u 0), (u 1), .ref 361, (u 3), (u 4), (u 5), .ref 365, (u 7), .ref 367, (u 9), (u 10), (u 11), (u 12), (u 13), .int (nI e), .int R.2.2.1.2.2.1, .int (nI R.2.2.1.1), .int R.2.2.1.2.1, .int R.2.2.1.2.2.2.2, .int R.2.1.1, .int R.2.1.2, .long R.2.2.1.2.2.2.1, (u 22), (u 23), (u 24), (u 25), (u 26), (u 27)])), (361, .inr (.inl (0, R.2.2.2.1))), (365, .inr (.inl (0, m))), (367, .inr (.inr (.inl R.2.2.2.2)))] h0 := K.go K9 rfl rfl rfl
  clear K9
  show j_W jP _ 197 98 [(1, .int (nI nt)), (0, .ref 359)] [.int (bif R.1 then 1 else 0)] h9 _
  clear hR
  cases hb9 : R.1 with
  | true =>
    unfold mBind
    rw [hb9, cond_true, cond_true]
    show j_W jP _ 197 98 [(1, .int (nI nt)), (0, .ref 359)] [.int 1] h9 _
    refine j_W.ifc mv_M mv_98 (t := 103) rfl (fun c => ?_) (fun c => ?_)
    · clear c
      rw [(hw9.2.2.2 hb9).1] at K
      have K : KN h9 [(359, .inl (10, [(u 0), (u 1), .ref 361, (u 3), (u 4), (u 5), .ref 365, (u 7), .ref 367, (u 9), (u 10), (u 11), (u 12), (u 13), .int (nI e), .int R.2.2.1.2.2.1, .int (nI R.2.2.1.1), .int R.2.2.1.2.1, .int R.2.2.1.2.2.2.2, .int F.1, .int F.2, .long R.2.2.1.2.2.2.1, (u 22), (u 23), (u 24), (u 25), (u 26), (u 27)])), (361, .inr (.inl (0, R.2.2.2.1))), (365, .inr (.inl (0, m))), (367, .inr (.inr (.inl R.2.2.2.2)))] h0 := K
      exact mv_m hm he hb hw9.1.2 hw9.2.1 hw9.2.2.1 h7 (hw9.2.2.2 hb9).2.1 (hw9.2.2.2 hb9).2.2 h4 K
    · cases c
  | false =>
    unfold mBind
    rw [hb9, cond_false, cond_false]
    show j_W jP _ 197 98 [(1, .int (nI nt)), (0, .ref 359)] [.int 0] h9 _
    refine j_W.ifc mv_M mv_98 (t := 103) rfl (fun c => ?_) (fun c => ?_)
    · cases c
    · clear c
      refine j_W.one mv_M mv_101 (by decide) (pcJ := 102) (stJ := [.int 0]) rfl ?_
      refine j_W.ret mv_M mv_102 rfl rfl ⟨by rw [hb9]; rfl, K⟩
theorem mv_k4 {u : Nat → Value} {e : Nat} {m : List Int32} {h h0 : J_H} {d : Nat} {F : Int32 × Int32} {y : rK} {rd : List Int32} {rn : List Int64} {ns nt : Nat} (hm : m.length = 700) (he : e ≤ 700) (hb : ∀ k, k < e → 0 ≤ (m.getD k 0).toInt) (hp : y.1 ≤ e) (hr : rd.length = 602) (hn : rn.length = 12) (h7 : ns ≤ 7) (hs : rd.getD 202 0 = nI ns) (ht : rd.getD 203 0 = nI nt) (h4 : nt < 5) (K : KN h [(359, .inl (10, [(u 0), (u 1), .ref 361, (u 3), (u 4), (u 5), .ref 365, (u 7), .ref 367, (u 9), (u 10), (u 11), (u 12), (u 13), .int (nI e), .int y.2.2.1, .int (nI y.1), .int y.2.1, .int y.2.2.2.2, .int F.1, .int F.2, .long y.2.2.2.1, (u 22), (u 23), (u 24), (u 25), (u 26), (u 27)])), (361, .inr (.inl (0, rd))), (365, .inr (.inl (0, m))), (367, .inr (.inr (.inl rn)))] h0) : j_W jP (d + 1 + 1 + 1 + 1 + 1) 197 63 [(1, .int (nI nt)), (0, .ref 359)] [] h (PN u e m h0 (mTn4 m e ns nt F y rd rn)) := by
  unfold mTn4
  refine j_W.one mv_M mv_63 (by decide) (pcJ := 64) (stJ := [.ref 359]) rfl ?_
  refine j_W.one mv_M mv_64 (by decide) (pcJ := 65) (stJ := [.int (nI nt), .ref 359]) rfl ?_
  refine j_W.one mv_M mv_65 (by decide) (pcJ := 66) (stJ := [.int 2, .int (nI nt), .ref 359]) rfl ?_
  refine j_W.call mv_M mv_66 rfl (md := 2) (mj := 177) rfl (by decide) ma_M (As := [.int (nI nt), .int (nI 2)]) (rest := [.ref 359]) (jk_spl2 rfl rfl (Nat.le_of_ble_eq_true rfl) (Nat.le_of_ble_eq_true rfl)) (ma_ok (j := 58 + 28 * nt) (by omega)) ?_
  rintro r hz ⟨rfl, ez⟩
  rw [ez]
  clear ez
  show j_W jP _ 197 69 [(1, .int (nI nt)), (0, .ref 359)] [.int (nI (58 + 28 * nt)), .ref 359] h _
  refine j_W.one mv_M mv_69 (by decide) (pcJ := 70) (stJ := [.ref 359, .int (nI (58 + 28 * nt)), .ref 359]) rfl ?_
  refine j_W.getK mv_M mv_70 (ci := 10) (j := 2) rfl K rfl rfl ?_
  refine j_W.one mv_M mv_73 (by decide) (pcJ := 74) (stJ := [.int (nI nt), .ref 361, .int (nI (58 + 28 * nt)), .ref 359]) rfl ?_
  refine j_W.one mv_M mv_74 (by decide) (pcJ := 75) (stJ := [.int 1, .int (nI nt), .ref 361, .int (nI (58 + 28 * nt)), .ref 359]) rfl ?_
  refine j_W.call mv_M mv_75 rfl (md := 2) (mj := 177) rfl (by decide) ma_M (As := [.int (nI nt), .int (nI 1)]) (rest := [.ref 361, .int (nI (58 + 28 * nt)), .ref 359]) (jk_spl2 rfl rfl (Nat.le_of_ble_eq_true rfl) (Nat.le_of_ble_eq_true rfl)) (ma_ok (j := 57 + 28 * nt) (by omega)) ?_
  rintro r hz ⟨rfl, ez⟩
  rw [ez]
  clear ez
  show j_W jP _ 197 78 [(1, .int (nI nt)), (0, .ref 359)] [.int (nI (57 + 28 * nt)), .ref 361, .int (nI (58 + 28 * nt)), .ref 359] h _
  refine j_W.ialdK mv_M mv_78 K rfl (n := 57 + 28 * nt) (by omega) (by omega) ?_
  have hw9 := mKnown_w (p := 0) (F := F) (m := m) (ns := ns) (nt := nt) (i := 58 + 28 * nt) (u := (rd.getD (57 + 28 * nt) 0)) (y := y) ⟨Nat.zero_le _, hp⟩ hr hn hs ht (by omega)
  generalize hR : mKnown m e F ns (58 + 28 * nt) (rd.getD (57 + 28 * nt) 0) y rd rn = R at hw9 ⊢
  refine j_W.call mv_M mv_79 rfl (md := 3) (mj := 196) rfl (by decide) mk_M (As := [.ref 359, .int (nI (58 + 28 * nt)), .int (rd.getD (57 + 28 * nt) 0)]) (rest := []) (jk_spl3 (K.at rfl) rfl rfl rfl (Nat.le_of_ble_eq_true rfl) (Nat.le_of_ble_eq_true rfl)) ((hR ▸ mk_ok (i := 58 + 28 * nt) (v := (rd.getD (57 + 28 * nt) 0)) hm he hb hp hr hn h7 hs (by omega) (K.sub ⟨rfl, rfl, rfl, rfl, trivial⟩))) ?_
  rintro r h9 ⟨rfl, K9⟩
  have K : KN h9 [(359, .inl (10, [(u 0), (u 1), .ref 361, (u 3), (u 4), (u 5), .ref 365, (u 7), .ref 367, (u 9), (u 10), (u 11), (u 12), (u 13), .int (nI e), .int R.2.2.1.2.2.1, .int (nI R.2.2.1.1), .int R.2.2.1.2.1, .int R.2.2.1.2.2.2.2, .int R.2.1.1, .int R.2.1.2, .long R.2.2.1.2.2.2.1, (u 22), (u 23), (u 24), (u 25), (u 26), (u 27)])), (361, .inr (.inl (0, R.2.2.2.1))), (365, .inr (.inl (0, m))), (367, .inr (.inr (.inl R.2.2.2.2)))] h0 := K.go K9 rfl rfl rfl
  clear K9
  show j_W jP _ 197 82 [(1, .int (nI nt)), (0, .ref 359)] [.int (bif R.1 then 1 else 0)] h9 _
  clear hR
  cases hb9 : R.1 with
  | true =>
    unfold mBind
    rw [hb9, cond_true, cond_true]
    show j_W jP _ 197 82 [(1, .int (nI nt)), (0, .ref 359)] [.int 1] h9 _
    refine j_W.ifc mv_M mv_82 (t := 101) rfl (fun c => ?_) (fun c => ?_)
    · cases c
    · clear c
      rw [(hw9.2.2.2 hb9).1] at K
      have K : KN h9 [(359, .inl (10, [(u 0), (u 1), .ref 361, (u 3), (u 4), (u 5), .ref 365, (u 7), .ref 367, (u 9), (u 10), (u 11), (u 12), (u 13), .int (nI e), .int R.2.2.1.2.2.1, .int (nI R.2.2.1.1), .int R.2.2.1.2.1, .int R.2.2.1.2.2.2.2, .int F.1, .int F.2, .long R.2.2.1.2.2.2.1, (u 22), (u 23), (u 24), (u 25), (u 26), (u 27)])), (361, .inr (.inl (0, R.2.2.2.1))), (365, .inr (.inl (0, m))), (367, .inr (.inr (.inl R.2.2.2.2)))] h0 := K
      exact mv_k5 hm he hb hw9.1.2 hw9.2.1 hw9.2.2.1 h7 (hw9.2.2.2 hb9).2.1 (hw9.2.2.2 hb9).2.2 h4 K
  | false =>
    unfold mBind
    rw [hb9, cond_false, cond_false]
    show j_W jP _ 197 82 [(1, .int (nI nt)), (0, .ref 359)] [.int 0] h9 _
    refine j_W.ifc mv_M mv_82 (t := 101) rfl (fun c => ?_) (fun c => ?_)
    · clear c
      refine j_W.one mv_M mv_101 (by decide) (pcJ := 102) (stJ := [.int 0]) rfl ?_
      refine j_W.ret mv_M mv_102 rfl rfl ⟨by rw [hb9]; rfl, K⟩
    · cases c
theorem mv_k3 {u : Nat → Value} {e : Nat} {m : List Int32} {h h0 : J_H} {d : Nat} {F : Int32 × Int32} {y : rK} {rd : List Int32} {rn : List Int64} {ns nt : Nat} (hm : m.length = 700) (he : e ≤ 700) (hb : ∀ k, k < e → 0 ≤ (m.getD k 0).toInt) (hp : y.1 ≤ e) (hr : rd.length = 602) (hn : rn.length = 12) (h7 : ns ≤ 7) (hs : rd.getD 202 0 = nI ns) (ht : rd.getD 203 0 = nI nt) (h4 : nt < 5) (K : KN h [(359, .inl (10, [(u 0), (u 1), .ref 361, (u 3), (u 4), (u 5), .ref 365, (u 7), .ref 367, (u 9), (u 10), (u 11), (u 12), (u 13), .int (nI e), .int y.2.2.1, .int (nI y.1), .int y.2.1, .int y.2.2.2.2, .int F.1, .int F.2, .long y.2.2.2.1, (u 22), (u 23), (u 24), (u 25), (u 26), (u 27)])), (361, .inr (.inl (0, rd))), (365, .inr (.inl (0, m))), (367, .inr (.inr (.inl rn)))] h0) : j_W jP (d + 1 + 1 + 1 + 1 + 1) 197 50 [(1, .int (nI nt)), (0, .ref 359)] [] h (PN u e m h0 (mTn3 m e ns nt F y rd rn)) := by
  unfold mTn3
  refine j_W.one mv_M mv_50 (by decide) (pcJ := 51) (stJ := [.ref 359]) rfl ?_
  refine j_W.one mv_M mv_51 (by decide) (pcJ := 52) (stJ := [.int (nI nt), .ref 359]) rfl ?_
  refine j_W.one mv_M mv_52 (by decide) (pcJ := 53) (stJ := [.int 1, .int (nI nt), .ref 359]) rfl ?_
  refine j_W.call mv_M mv_53 rfl (md := 2) (mj := 177) rfl (by decide) ma_M (As := [.int (nI nt), .int (nI 1)]) (rest := [.ref 359]) (jk_spl2 rfl rfl (Nat.le_of_ble_eq_true rfl) (Nat.le_of_ble_eq_true rfl)) (ma_ok (j := 57 + 28 * nt) (by omega)) ?_
  rintro r hz ⟨rfl, ez⟩
  rw [ez]
  clear ez
  show j_W jP _ 197 56 [(1, .int (nI nt)), (0, .ref 359)] [.int (nI (57 + 28 * nt)), .ref 359] h _
  refine j_W.one mv_M mv_56 (by decide) (pcJ := 57) (stJ := [.int (-1), .int (nI (57 + 28 * nt)), .ref 359]) rfl ?_
  have hw9 := mKnown_w (p := 0) (F := F) (m := m) (ns := ns) (nt := nt) (i := 57 + 28 * nt) (u := (-1)) (y := y) ⟨Nat.zero_le _, hp⟩ hr hn hs ht (by omega)
  generalize hR : mKnown m e F ns (57 + 28 * nt) (-1) y rd rn = R at hw9 ⊢
  refine j_W.call mv_M mv_57 rfl (md := 3) (mj := 196) rfl (by decide) mk_M (As := [.ref 359, .int (nI (57 + 28 * nt)), .int (-1)]) (rest := []) (jk_spl3 (K.at rfl) rfl rfl rfl (Nat.le_of_ble_eq_true rfl) (Nat.le_of_ble_eq_true rfl)) ((hR ▸ mk_ok (i := 57 + 28 * nt) (v := (-1)) hm he hb hp hr hn h7 hs (by omega) (K.sub ⟨rfl, rfl, rfl, rfl, trivial⟩))) ?_
  rintro r h9 ⟨rfl, K9⟩
  have K : KN h9 [(359, .inl (10, [(u 0), (u 1), .ref 361, (u 3), (u 4), (u 5), .ref 365, (u 7), .ref 367, (u 9), (u 10), (u 11), (u 12), (u 13), .int (nI e), .int R.2.2.1.2.2.1, .int (nI R.2.2.1.1), .int R.2.2.1.2.1, .int R.2.2.1.2.2.2.2, .int R.2.1.1, .int R.2.1.2, .long R.2.2.1.2.2.2.1, (u 22), (u 23), (u 24), (u 25), (u 26), (u 27)])), (361, .inr (.inl (0, R.2.2.2.1))), (365, .inr (.inl (0, m))), (367, .inr (.inr (.inl R.2.2.2.2)))] h0 := K.go K9 rfl rfl rfl
  clear K9
  show j_W jP _ 197 60 [(1, .int (nI nt)), (0, .ref 359)] [.int (bif R.1 then 1 else 0)] h9 _
  clear hR
  cases hb9 : R.1 with
  | true =>
    unfold mBind
    rw [hb9, cond_true, cond_true]
    show j_W jP _ 197 60 [(1, .int (nI nt)), (0, .ref 359)] [.int 1] h9 _
    refine j_W.ifc mv_M mv_60 (t := 101) rfl (fun c => ?_) (fun c => ?_)
    · cases c
    · clear c
      rw [(hw9.2.2.2 hb9).1] at K
      have K : KN h9 [(359, .inl (10, [(u 0), (u 1), .ref 361, (u 3), (u 4), (u 5), .ref 365, (u 7), .ref 367, (u 9), (u 10), (u 11), (u 12), (u 13), .int (nI e), .int R.2.2.1.2.2.1, .int (nI R.2.2.1.1), .int R.2.2.1.2.1, .int R.2.2.1.2.2.2.2, .int F.1, .int F.2, .long R.2.2.1.2.2.2.1, (u 22), (u 23), (u 24), (u 25), (u 26), (u 27)])), (361, .inr (.inl (0, R.2.2.2.1))), (365, .inr (.inl (0, m))), (367, .inr (.inr (.inl R.2.2.2.2)))] h0 := K
      exact mv_k4 hm he hb hw9.1.2 hw9.2.1 hw9.2.2.1 h7 (hw9.2.2.2 hb9).2.1 (hw9.2.2.2 hb9).2.2 h4 K
  | false =>
    unfold mBind
    rw [hb9, cond_false, cond_false]
    show j_W jP _ 197 60 [(1, .int (nI nt)), (0, .ref 359)] [.int 0] h9 _
    refine j_W.ifc mv_M mv_60 (t := 101) rfl (fun c => ?_) (fun c => ?_)
    · clear c
      refine j_W.one mv_M mv_101 (by decide) (pcJ := 102) (stJ := [.int 0]) rfl ?_
      refine j_W.ret mv_M mv_102 rfl rfl ⟨by rw [hb9]; rfl, K⟩
    · cases c
theorem mv_k2 {u : Nat → Value} {e : Nat} {m : List Int32} {h h0 : J_H} {d : Nat} {F : Int32 × Int32} {y : rK} {rd : List Int32} {rn : List Int64} {ns nt : Nat} (hm : m.length = 700) (he : e ≤ 700) (hb : ∀ k, k < e → 0 ≤ (m.getD k 0).toInt) (hp : y.1 ≤ e) (hr : rd.length = 602) (hn : rn.length = 12) (h7 : ns ≤ 7) (hs : rd.getD 202 0 = nI ns) (ht : rd.getD 203 0 = nI nt) (h4 : nt < 5) (K : KN h [(359, .inl (10, [(u 0), (u 1), .ref 361, (u 3), (u 4), (u 5), .ref 365, (u 7), .ref 367, (u 9), (u 10), (u 11), (u 12), (u 13), .int (nI e), .int y.2.2.1, .int (nI y.1), .int y.2.1, .int y.2.2.2.2, .int F.1, .int F.2, .long y.2.2.2.1, (u 22), (u 23), (u 24), (u 25), (u 26), (u 27)])), (361, .inr (.inl (0, rd))), (365, .inr (.inl (0, m))), (367, .inr (.inr (.inl rn)))] h0) : j_W jP (d + 1 + 1 + 1 + 1 + 1) 197 35 [(1, .int (nI nt)), (0, .ref 359)] [] h (PN u e m h0 (mTn2 m e ns nt F y rd rn)) := by
  unfold mTn2
  refine j_W.one mv_M mv_35 (by decide) (pcJ := 36) (stJ := [.ref 359]) rfl ?_
  refine j_W.one mv_M mv_36 (by decide) (pcJ := 37) (stJ := [.int (nI nt), .ref 359]) rfl ?_
  refine j_W.one mv_M mv_37 (by decide) (pcJ := 38) (stJ := [.int 0, .int (nI nt), .ref 359]) rfl ?_
  refine j_W.call mv_M mv_38 rfl (md := 2) (mj := 177) rfl (by decide) ma_M (As := [.int (nI nt), .int (nI 0)]) (rest := [.ref 359]) (jk_spl2 rfl rfl (Nat.le_of_ble_eq_true rfl) (Nat.le_of_ble_eq_true rfl)) (ma_ok (j := 56 + 28 * nt) (by omega)) ?_
  rintro r hz ⟨rfl, ez⟩
  rw [ez]
  clear ez
  show j_W jP _ 197 41 [(1, .int (nI nt)), (0, .ref 359)] [.int (nI (56 + 28 * nt)), .ref 359] h _
  refine j_W.one mv_M mv_41 (by decide) (pcJ := 42) (stJ := [.int 1, .int (nI (56 + 28 * nt)), .ref 359]) rfl ?_
  refine j_W.one mv_M mv_42 (by decide) (pcJ := 44) (stJ := [.int 99, .int 1, .int (nI (56 + 28 * nt)), .ref 359]) rfl ?_
  have hw9 := mNum_w (p := 0) (F := F) (m := m) (ns := ns) (nt := nt) (i := 56 + 28 * nt) (lo := 1) (hi := 99) (y := y) ⟨Nat.zero_le _, hp⟩ hr hn hs ht (by omega)
  generalize hR : mNum m e F (56 + 28 * nt) 1 99 y rd rn = R at hw9 ⊢
  refine j_W.call mv_M mv_44 rfl (md := 3) (mj := 192) rfl (by decide) mr_M (As := [.ref 359, .int (nI (56 + 28 * nt)), .int 1, .int 99]) (rest := []) (jk_spl3 (K.at rfl) rfl rfl rfl (Nat.le_of_ble_eq_true rfl) (Nat.le_of_ble_eq_true rfl)) ((hR ▸ mr_ok (i := 56 + 28 * nt) (lo := 1) (hi := 99) hm he hb hp hr hn (by omega) (K.sub ⟨rfl, rfl, rfl, rfl, trivial⟩))) ?_
  rintro r h9 ⟨rfl, K9⟩
  have K : KN h9 [(359, .inl (10, [(u 0), (u 1), .ref 361, (u 3), (u 4), (u 5), .ref 365, (u 7), .ref 367, (u 9), (u 10), (u 11), (u 12), (u 13), .int (nI e), .int R.2.2.1.2.2.1, .int (nI R.2.2.1.1), .int R.2.2.1.2.1, .int R.2.2.1.2.2.2.2, .int R.2.1.1, .int R.2.1.2, .long R.2.2.1.2.2.2.1, (u 22), (u 23), (u 24), (u 25), (u 26), (u 27)])), (361, .inr (.inl (0, R.2.2.2.1))), (365, .inr (.inl (0, m))), (367, .inr (.inr (.inl R.2.2.2.2)))] h0 := K.go K9 rfl rfl rfl
  clear K9
  show j_W jP _ 197 47 [(1, .int (nI nt)), (0, .ref 359)] [.int (bif R.1 then 1 else 0)] h9 _
  clear hR
  cases hb9 : R.1 with
  | true =>
    unfold mBind
    rw [hb9, cond_true, cond_true]
    show j_W jP _ 197 47 [(1, .int (nI nt)), (0, .ref 359)] [.int 1] h9 _
    refine j_W.ifc mv_M mv_47 (t := 101) rfl (fun c => ?_) (fun c => ?_)
    · cases c
    · clear c
      rw [(hw9.2.2.2 hb9).1] at K
      have K : KN h9 [(359, .inl (10, [(u 0), (u 1), .ref 361, (u 3), (u 4), (u 5), .ref 365, (u 7), .ref 367, (u 9), (u 10), (u 11), (u 12), (u 13), .int (nI e), .int R.2.2.1.2.2.1, .int (nI R.2.2.1.1), .int R.2.2.1.2.1, .int R.2.2.1.2.2.2.2, .int F.1, .int F.2, .long R.2.2.1.2.2.2.1, (u 22), (u 23), (u 24), (u 25), (u 26), (u 27)])), (361, .inr (.inl (0, R.2.2.2.1))), (365, .inr (.inl (0, m))), (367, .inr (.inr (.inl R.2.2.2.2)))] h0 := K
      exact mv_k3 hm he hb hw9.1.2 hw9.2.1 hw9.2.2.1 h7 (hw9.2.2.2 hb9).2.1 (hw9.2.2.2 hb9).2.2 h4 K
  | false =>
    unfold mBind
    rw [hb9, cond_false, cond_false]
    show j_W jP _ 197 47 [(1, .int (nI nt)), (0, .ref 359)] [.int 0] h9 _
    refine j_W.ifc mv_M mv_47 (t := 101) rfl (fun c => ?_) (fun c => ?_)
    · clear c
      refine j_W.one mv_M mv_101 (by decide) (pcJ := 102) (stJ := [.int 0]) rfl ?_
      refine j_W.ret mv_M mv_102 rfl rfl ⟨by rw [hb9]; rfl, K⟩
    · cases c
theorem mv_ok {u : Nat → Value} {e : Nat} {m : List Int32} {h h0 : J_H} {d : Nat} {F : Int32 × Int32} {y : rK} {rd : List Int32} {rn : List Int64} {ns nt : Nat} (hm : m.length = 700) (he : e ≤ 700) (hb : ∀ k, k < e → 0 ≤ (m.getD k 0).toInt) (hp : y.1 ≤ e) (hr : rd.length = 602) (hn : rn.length = 12) (h7 : ns ≤ 7) (hs : rd.getD 202 0 = nI ns) (h5 : nt ≤ 5) (ht : rd.getD 203 0 = nI nt) (K : KN h [(359, .inl (10, [(u 0), (u 1), .ref 361, (u 3), (u 4), (u 5), .ref 365, (u 7), .ref 367, (u 9), (u 10), (u 11), (u 12), (u 13), .int (nI e), .int y.2.2.1, .int (nI y.1), .int y.2.1, .int y.2.2.2.2, .int F.1, .int F.2, .long y.2.2.2.1, (u 22), (u 23), (u 24), (u 25), (u 26), (u 27)])), (361, .inr (.inl (0, rd))), (365, .inr (.inl (0, m))), (367, .inr (.inr (.inl rn)))] h0) : j_W jP (d + 1 + 1 + 1 + 1 + 1) 197 0 (lv_args 0 [.ref 359]) [] h (PN u e m h0 (mTn m e ns nt F y rd rn)) := by
  show j_W jP (d + 1 + 1 + 1 + 1 + 1) 197 0 [(0, .ref 359)] [] h _
  unfold mTn
  refine j_W.one mv_M mv_0 (by decide) (pcJ := 1) (stJ := [.ref 359]) rfl ?_
  refine j_W.getK mv_M mv_1 (ci := 10) (j := 2) rfl K rfl rfl ?_
  refine j_W.one mv_M mv_4 (by decide) (pcJ := 7) (stJ := [.int 203, .ref 361]) rfl ?_
  refine j_W.ialdK mv_M mv_7 K rfl (n := 203) (by omega) (by omega) ?_
  rw [ht]
  refine j_W.one mv_M mv_8 (by decide) (pcJ := 9) (lv' := [(1, .int (nI nt)), (0, .ref 359)]) (stJ := []) rfl ?_
  refine j_W.one mv_M mv_9 (by decide) (pcJ := 10) (stJ := [.int (nI nt)]) rfl ?_
  refine j_W.one mv_M mv_10 (by decide) (pcJ := 11) (stJ := [.int 5, .int (nI nt)]) rfl ?_
  refine j_W.icmp mv_M mv_11 (t := 20) rfl (fun c => ?_) (fun c => ?_)
  · have c0 : ¬ nt = 5 := by intro z1; subst z1; exact absurd c (by decide)
    rw [if_neg c0]
    have h4 : nt < 5 := by omega
    clear c
    refine j_W.one mv_M mv_20 (by decide) (pcJ := 21) (stJ := [.ref 359]) rfl ?_
    refine j_W.call mv_M mv_21 rfl (md := 3) (mj := 185) rfl (by decide) mg_M (As := [.ref 359]) (rest := []) (jk_spl3 (K.at rfl) rfl rfl rfl (Nat.le_of_ble_eq_true rfl) (Nat.le_of_ble_eq_true rfl)) (mg_ok hm he hb hp (K.sub ⟨rfl, rfl, trivial⟩)) ?_
    rintro r h9 ⟨rfl, K9⟩
    have K : KN h9 [(359, .inl (10, [(u 0), (u 1), .ref 361, (u 3), (u 4), (u 5), .ref 365, (u 7), .ref 367, (u 9), (u 10), (u 11), (u 12), (u 13), .int (nI e), .int (mT m e y).2.2.1, .int (nI (mT m e y).1), .int (mT m e y).2.1, .int (mT m e y).2.2.2.2, .int F.1, .int F.2, .long (mT m e y).2.2.2.1, (u 22), (u 23), (u 24), (u 25), (u 26), (u 27)])), (361, .inr (.inl (0, rd))), (365, .inr (.inl (0, m))), (367, .inr (.inr (.inl rn)))] h0 := K.go K9 rfl rfl rfl
    clear K9
    show j_W jP _ 197 24 [(1, .int (nI nt)), (0, .ref 359)] [] h9 _
    refine j_W.one mv_M mv_24 (by decide) (pcJ := 25) (stJ := [.ref 359]) rfl ?_
    refine j_W.one mv_M mv_25 (by decide) (pcJ := 27) (stJ := [.int 7, .ref 359]) rfl ?_
    refine j_W.one mv_M mv_27 (by decide) (pcJ := 28) (stJ := [.int (nI nt), .int 7, .ref 359]) rfl ?_
    refine j_W.one mv_M mv_28 (by decide) (pcJ := 29) (stJ := [.int (nI (7 + nt)), .ref 359]) (by rw [← mi_add 7 nt]; rfl) ?_
    have hw9 := mName_w (p := 0) (F := F) (m := m) (ns := ns) (nt := nt) (i := 7 + nt) (y := mT m e y) ⟨Nat.zero_le _, tkN_le hp⟩ hr hn hs ht
    generalize hR : mName m e F ns nt (7 + nt) (mT m e y) rd rn = R at hw9 ⊢
    refine j_W.call mv_M mv_29 rfl (md := 3) (mj := 194) rfl (by decide) mm_M (As := [.ref 359, .int (nI (7 + nt))]) (rest := []) (jk_spl3 (K.at rfl) rfl rfl rfl (Nat.le_of_ble_eq_true rfl) (Nat.le_of_ble_eq_true rfl)) ((hR ▸ mm_ok (i := 7 + nt) hm he hb (tkN_le hp) hr hn h7 hs h5 ht (by omega) (K.sub ⟨rfl, rfl, rfl, rfl, trivial⟩))) ?_
    rintro r h9 ⟨rfl, K9⟩
    have K : KN h9 [(359, .inl (10, [(u 0), (u 1), .ref 361, (u 3), (u 4), (u 5), .ref 365, (u 7), .ref 367, (u 9), (u 10), (u 11), (u 12), (u 13), .int (nI e), .int R.2.2.1.2.2.1, .int (nI R.2.2.1.1), .int R.2.2.1.2.1, .int R.2.2.1.2.2.2.2, .int R.2.1.1, .int R.2.1.2, .long R.2.2.1.2.2.2.1, (u 22), (u 23), (u 24), (u 25), (u 26), (u 27)])), (361, .inr (.inl (0, R.2.2.2.1))), (365, .inr (.inl (0, m))), (367, .inr (.inr (.inl R.2.2.2.2)))] h0 := K.go K9 rfl rfl rfl
    clear K9
    show j_W jP _ 197 32 [(1, .int (nI nt)), (0, .ref 359)] [.int (bif R.1 then 1 else 0)] h9 _
    clear hR
    cases hb9 : R.1 with
    | true =>
      unfold mBind
      rw [hb9, cond_true, cond_true]
      show j_W jP _ 197 32 [(1, .int (nI nt)), (0, .ref 359)] [.int 1] h9 _
      refine j_W.ifc mv_M mv_32 (t := 101) rfl (fun c => ?_) (fun c => ?_)
      · cases c
      · clear c
        rw [(hw9.2.2.2 hb9).1] at K
        have K : KN h9 [(359, .inl (10, [(u 0), (u 1), .ref 361, (u 3), (u 4), (u 5), .ref 365, (u 7), .ref 367, (u 9), (u 10), (u 11), (u 12), (u 13), .int (nI e), .int R.2.2.1.2.2.1, .int (nI R.2.2.1.1), .int R.2.2.1.2.1, .int R.2.2.1.2.2.2.2, .int F.1, .int F.2, .long R.2.2.1.2.2.2.1, (u 22), (u 23), (u 24), (u 25), (u 26), (u 27)])), (361, .inr (.inl (0, R.2.2.2.1))), (365, .inr (.inl (0, m))), (367, .inr (.inr (.inl R.2.2.2.2)))] h0 := K
        exact mv_k2 hm he hb hw9.1.2 hw9.2.1 hw9.2.2.1 h7 (hw9.2.2.2 hb9).2.1 (hw9.2.2.2 hb9).2.2 h4 K
    | false =>
      unfold mBind
      rw [hb9, cond_false, cond_false]
      show j_W jP _ 197 32 [(1, .int (nI nt)), (0, .ref 359)] [.int 0] h9 _
      refine j_W.ifc mv_M mv_32 (t := 101) rfl (fun c => ?_) (fun c => ?_)
      · clear c
        refine j_W.one mv_M mv_101 (by decide) (pcJ := 102) (stJ := [.int 0]) rfl ?_
        refine j_W.ret mv_M mv_102 rfl rfl ⟨by rw [hb9]; rfl, K⟩
      · cases c
  · have c : nt = 5 := by
      have c : nI nt = 5 := by simpa [j_cond] using c
      have c : (nI nt).toInt = 5 := by rw [c]; rfl
      rw [nI_toInt (by omega)] at c; omega
    rw [if_pos c]
    refine j_W.one mv_M mv_14 (by decide) (pcJ := 15) (stJ := [.ref 359]) rfl ?_
    refine j_W.one mv_M mv_15 (by decide) (pcJ := 16) (stJ := [.int 5, .ref 359]) rfl ?_
    refine j_W.call mv_M mv_16 rfl (md := 3) (mj := 190) rfl (by decide) mx_M (As := [.ref 359, .int 5]) (rest := []) (jk_spl3 (K.at rfl) rfl rfl rfl (Nat.le_of_ble_eq_true rfl) (Nat.le_of_ble_eq_true rfl)) (mx_ok (K.sub ⟨rfl, trivial⟩)) ?_
    rintro r h9 ⟨rfl, K9⟩
    have K : KN h9 [(359, .inl (10, [(u 0), (u 1), .ref 361, (u 3), (u 4), (u 5), .ref 365, (u 7), .ref 367, (u 9), (u 10), (u 11), (u 12), (u 13), .int (nI e), .int y.2.2.1, .int (nI y.1), .int y.2.1, .int y.2.2.2.2, .int ((bF y.2.1 5, y.2.2.1) : Int32 × Int32).1, .int ((bF y.2.1 5, y.2.2.1) : Int32 × Int32).2, .long y.2.2.2.1, (u 22), (u 23), (u 24), (u 25), (u 26), (u 27)])), (361, .inr (.inl (0, rd))), (365, .inr (.inl (0, m))), (367, .inr (.inr (.inl rn)))] h0 := K.go K9 rfl rfl rfl
    clear K9
    show j_W jP _ 197 19 [(1, .int (nI nt)), (0, .ref 359)] [.int 0] h9 _
    refine j_W.ret mv_M mv_19 rfl rfl ⟨rfl, K⟩
set_option maxRecDepth 100000 in
theorem mz_M : j_meth jP 198 = some (yX10_readLine, cX10_readLine, 1, (some .boolean), 0, false, 10) := rfl
set_option maxRecDepth 100000 in
theorem mz_0 : j_code jP 198 0 = some (.aload_n 0) := rfl
set_option maxRecDepth 100000 in
theorem mz_1 : j_code jP 198 1 = some (.iconst 0) := rfl
set_option maxRecDepth 100000 in
theorem mz_2 : j_code jP 198 2 = some (.invokevirtual 132) := rfl
set_option maxRecDepth 100000 in
theorem mz_5 : j_code jP 198 5 = some (.ifCond .eq 8) := rfl
set_option maxRecDepth 100000 in
theorem mz_8 : j_code jP 198 8 = some (.aload_n 0) := rfl
set_option maxRecDepth 100000 in
theorem mz_9 : j_code jP 198 9 = some (.invokevirtual 173) := rfl
set_option maxRecDepth 100000 in
theorem mz_12 : j_code jP 198 12 = some (.ireturn) := rfl
set_option maxRecDepth 100000 in
theorem mz_13 : j_code jP 198 13 = some (.aload_n 0) := rfl
set_option maxRecDepth 100000 in
theorem mz_14 : j_code jP 198 14 = some (.iconst 1) := rfl
set_option maxRecDepth 100000 in
theorem mz_15 : j_code jP 198 15 = some (.invokevirtual 132) := rfl
set_option maxRecDepth 100000 in
theorem mz_18 : j_code jP 198 18 = some (.ifCond .eq 10) := rfl
set_option maxRecDepth 100000 in
theorem mz_21 : j_code jP 198 21 = some (.aload_n 0) := rfl
set_option maxRecDepth 100000 in
theorem mz_22 : j_code jP 198 22 = some (.invokevirtual 176) := rfl
set_option maxRecDepth 100000 in
theorem mz_25 : j_code jP 198 25 = some (.goto 8) := rfl
set_option maxRecDepth 100000 in
theorem mz_28 : j_code jP 198 28 = some (.aload_n 0) := rfl
set_option maxRecDepth 100000 in
theorem mz_29 : j_code jP 198 29 = some (.iconst 2) := rfl
set_option maxRecDepth 100000 in
theorem mz_30 : j_code jP 198 30 = some (.invokevirtual 141) := rfl
set_option maxRecDepth 100000 in
theorem mz_33 : j_code jP 198 33 = some (.ireturn) := rfl
theorem mz_ok {u : Nat → Value} {e : Nat} {m : List Int32} {h h0 : J_H} {d : Nat} {F : Int32 × Int32} {y : rK} {rd : List Int32} {rn : List Int64} {ns nt : Nat} (hm : m.length = 700) (he : e ≤ 700) (hb : ∀ k, k < e → 0 ≤ (m.getD k 0).toInt) (hp : y.1 ≤ e) (hr : rd.length = 602) (hn : rn.length = 12) (h7 : ns ≤ 7) (hs : rd.getD 202 0 = nI ns) (h5 : nt ≤ 5) (ht : rd.getD 203 0 = nI nt) (K : KN h [(359, .inl (10, [(u 0), (u 1), .ref 361, (u 3), (u 4), (u 5), .ref 365, (u 7), .ref 367, (u 9), (u 10), (u 11), (u 12), (u 13), .int (nI e), .int y.2.2.1, .int (nI y.1), .int y.2.1, .int y.2.2.2.2, .int F.1, .int F.2, .long y.2.2.2.1, (u 22), (u 23), (u 24), (u 25), (u 26), (u 27)])), (361, .inr (.inl (0, rd))), (365, .inr (.inl (0, m))), (367, .inr (.inr (.inl rn)))] h0) : j_W jP (d + 1 + 1 + 1 + 1 + 1 + 1) 198 0 (lv_args 0 [.ref 359]) [] h (PN u e m h0 (mLn m e ns nt F y rd rn)) := by
  show j_W jP (d + 1 + 1 + 1 + 1 + 1 + 1) 198 0 [(0, .ref 359)] [] h _
  unfold mLn
  refine j_W.one mz_M mz_0 (by decide) (pcJ := 1) (stJ := [.ref 359]) rfl ?_
  refine j_W.one mz_M mz_1 (by decide) (pcJ := 2) (stJ := [.int 0, .ref 359]) rfl ?_
  refine j_W.call mz_M mz_2 rfl (md := 3) (mj := 188) rfl (by decide) mo_M (As := [.ref 359, .int 0]) (rest := []) (jk_spl3 (K.at rfl) rfl rfl rfl (Nat.le_of_ble_eq_true rfl) (Nat.le_of_ble_eq_true rfl)) (mo_ok0 (K.sub ⟨rfl, trivial⟩)) ?_
  rintro r hz ⟨rfl, ez⟩
  rw [ez]
  clear ez
  show j_W jP _ 198 5 [(0, .ref 359)] [.int (if y.2.1 = 2 ∧ y.2.2.2.1 = W0 then 1 else 0)] h _
  rcases Decidable.em (y.2.1 = 2 ∧ y.2.2.2.1 = W0) with hw | hw
  · rw [if_pos hw, if_pos hw]
    refine j_W.ifc mz_M mz_5 (t := 13) rfl (fun c => ?_) (fun c => ?_)
    · cases c
    · clear c
      refine j_W.one mz_M mz_8 (by decide) (pcJ := 9) (stJ := [.ref 359]) rfl ?_
      generalize hR : mSt m e ns nt F y rd rn = R
      refine j_W.call mz_M mz_9 rfl (md := 3) (mj := 195) rfl (by decide) ms_M (As := [.ref 359]) (rest := []) (jk_spl3 (K.at rfl) rfl rfl rfl (Nat.le_of_ble_eq_true rfl) (Nat.le_of_ble_eq_true rfl)) ((hR ▸ ms_ok hm he hb hp hr hn h7 hs h5 ht (K.sub ⟨rfl, rfl, rfl, rfl, trivial⟩))) ?_
      rintro r h9 ⟨rfl, K9⟩
      have K : KN h9 [(359, .inl (10, [(u 0), (u 1), .ref 361, (u 3), (u 4), (u 5), .ref 365, (u 7), .ref 367, (u 9), (u 10), (u 11), (u 12), (u 13), .int (nI e), .int R.2.2.1.2.2.1, .int (nI R.2.2.1.1), .int R.2.2.1.2.1, .int R.2.2.1.2.2.2.2, .int R.2.1.1, .int R.2.1.2, .long R.2.2.1.2.2.2.1, (u 22), (u 23), (u 24), (u 25), (u 26), (u 27)])), (361, .inr (.inl (0, R.2.2.2.1))), (365, .inr (.inl (0, m))), (367, .inr (.inr (.inl R.2.2.2.2)))] h0 := K.go K9 rfl rfl rfl
      clear K9
      show j_W jP _ 198 12 [(0, .ref 359)] [.int (bif R.1 then 1 else 0)] h9 _
      refine j_W.ret mz_M mz_12 rfl (jk_retb _) ⟨rfl, K⟩
  · rw [if_neg hw, if_neg hw]
    refine j_W.ifc mz_M mz_5 (t := 13) rfl (fun c => ?_) (fun c => ?_)
    · clear c
      clear hw
      refine j_W.one mz_M mz_13 (by decide) (pcJ := 14) (stJ := [.ref 359]) rfl ?_
      refine j_W.one mz_M mz_14 (by decide) (pcJ := 15) (stJ := [.int 1, .ref 359]) rfl ?_
      refine j_W.call mz_M mz_15 rfl (md := 3) (mj := 188) rfl (by decide) mo_M (As := [.ref 359, .int 1]) (rest := []) (jk_spl3 (K.at rfl) rfl rfl rfl (Nat.le_of_ble_eq_true rfl) (Nat.le_of_ble_eq_true rfl)) (mo_ok1 (K.sub ⟨rfl, trivial⟩)) ?_
      rintro r hz ⟨rfl, ez⟩
      rw [ez]
      clear ez
      show j_W jP _ 198 18 [(0, .ref 359)] [.int (if y.2.1 = 2 ∧ y.2.2.2.1 = W1 then 1 else 0)] h _
      rcases Decidable.em (y.2.1 = 2 ∧ y.2.2.2.1 = W1) with hw | hw
      · rw [if_pos hw, if_pos hw]
        refine j_W.ifc mz_M mz_18 (t := 28) rfl (fun c => ?_) (fun c => ?_)
        · cases c
        · clear c
          refine j_W.one mz_M mz_21 (by decide) (pcJ := 22) (stJ := [.ref 359]) rfl ?_
          generalize hR : mTn m e ns nt F y rd rn = R
          refine j_W.call mz_M mz_22 rfl (md := 3) (mj := 197) rfl (by decide) mv_M (As := [.ref 359]) (rest := []) (jk_spl3 (K.at rfl) rfl rfl rfl (Nat.le_of_ble_eq_true rfl) (Nat.le_of_ble_eq_true rfl)) ((hR ▸ mv_ok hm he hb hp hr hn h7 hs h5 ht (K.sub ⟨rfl, rfl, rfl, rfl, trivial⟩))) ?_
          rintro r h9 ⟨rfl, K9⟩
          have K : KN h9 [(359, .inl (10, [(u 0), (u 1), .ref 361, (u 3), (u 4), (u 5), .ref 365, (u 7), .ref 367, (u 9), (u 10), (u 11), (u 12), (u 13), .int (nI e), .int R.2.2.1.2.2.1, .int (nI R.2.2.1.1), .int R.2.2.1.2.1, .int R.2.2.1.2.2.2.2, .int R.2.1.1, .int R.2.1.2, .long R.2.2.1.2.2.2.1, (u 22), (u 23), (u 24), (u 25), (u 26), (u 27)])), (361, .inr (.inl (0, R.2.2.2.1))), (365, .inr (.inl (0, m))), (367, .inr (.inr (.inl R.2.2.2.2)))] h0 := K.go K9 rfl rfl rfl
          clear K9
          show j_W jP _ 198 25 [(0, .ref 359)] [.int (bif R.1 then 1 else 0)] h9 _
          refine j_W.gto mz_M mz_25 (t := 33) rfl ?_
          refine j_W.ret mz_M mz_33 rfl (jk_retb _) ⟨rfl, K⟩
      · rw [if_neg hw, if_neg hw]
        refine j_W.ifc mz_M mz_18 (t := 28) rfl (fun c => ?_) (fun c => ?_)
        · clear c
          refine j_W.one mz_M mz_28 (by decide) (pcJ := 29) (stJ := [.ref 359]) rfl ?_
          refine j_W.one mz_M mz_29 (by decide) (pcJ := 30) (stJ := [.int 2, .ref 359]) rfl ?_
          refine j_W.call mz_M mz_30 rfl (md := 3) (mj := 190) rfl (by decide) mx_M (As := [.ref 359, .int 2]) (rest := []) (jk_spl3 (K.at rfl) rfl rfl rfl (Nat.le_of_ble_eq_true rfl) (Nat.le_of_ble_eq_true rfl)) (mx_ok (K.sub ⟨rfl, trivial⟩)) ?_
          rintro r h9 ⟨rfl, K9⟩
          have K : KN h9 [(359, .inl (10, [(u 0), (u 1), .ref 361, (u 3), (u 4), (u 5), .ref 365, (u 7), .ref 367, (u 9), (u 10), (u 11), (u 12), (u 13), .int (nI e), .int y.2.2.1, .int (nI y.1), .int y.2.1, .int y.2.2.2.2, .int ((bF y.2.1 2, y.2.2.1) : Int32 × Int32).1, .int ((bF y.2.1 2, y.2.2.1) : Int32 × Int32).2, .long y.2.2.2.1, (u 22), (u 23), (u 24), (u 25), (u 26), (u 27)])), (361, .inr (.inl (0, rd))), (365, .inr (.inl (0, m))), (367, .inr (.inr (.inl rn)))] h0 := K.go K9 rfl rfl rfl
          clear K9
          show j_W jP _ 198 33 [(0, .ref 359)] [.int 0] h9 _
          refine j_W.ret mz_M mz_33 rfl rfl ⟨rfl, K⟩
        · cases c
    · cases c

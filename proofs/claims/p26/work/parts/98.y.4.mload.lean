/-! the reference's load: with the data told: written by wip/py/gen_mload2.py -/
/-- the reference's object, with what load leaves alone -/
def mu9 (u : Nat → Value) : Nat → Value
  | 0 => u 0
  | 1 => .ref 360
  | 2 => u 2
  | 3 => u 3
  | 4 => u 4
  | 5 => u 5
  | 6 => u 6
  | 7 => .ref 366
  | 8 => u 8
  | 9 => .int 0
  | k => u k
set_option maxRecDepth 100000 in
theorem mq_M : j_meth jP 200 = some (yX10_load, cX10_load, 4, (some .int), 1, false, 10) := rfl
set_option maxRecDepth 100000 in
theorem mq_0 : j_code jP 200 0 = some (.iload_n 1) := rfl
set_option maxRecDepth 100000 in
theorem mq_1 : j_code jP 200 1 = some (.iconst 0) := rfl
set_option maxRecDepth 100000 in
theorem mq_2 : j_code jP 200 2 = some (.aload_n 0) := rfl
set_option maxRecDepth 100000 in
theorem mq_3 : j_code jP 200 3 = some (.getfield 76) := rfl
set_option maxRecDepth 100000 in
theorem mq_6 : j_code jP 200 6 = some (.invokestatic 61) := rfl
set_option maxRecDepth 100000 in
theorem mq_9 : j_code jP 200 9 = some (.ifCond .ne 9) := rfl
set_option maxRecDepth 100000 in
theorem mq_12 : j_code jP 200 12 = some (.aload_n 0) := rfl
set_option maxRecDepth 100000 in
theorem mq_13 : j_code jP 200 13 = some (.iconst 1) := rfl
set_option maxRecDepth 100000 in
theorem mq_14 : j_code jP 200 14 = some (.invokevirtual 179) := rfl
set_option maxRecDepth 100000 in
theorem mq_17 : j_code jP 200 17 = some (.ireturn) := rfl
set_option maxRecDepth 100000 in
theorem mq_18 : j_code jP 200 18 = some (.aload_n 0) := rfl
set_option maxRecDepth 100000 in
theorem mq_19 : j_code jP 200 19 = some (.iload_n 1) := rfl
set_option maxRecDepth 100000 in
theorem mq_20 : j_code jP 200 20 = some (.putfield 83) := rfl
set_option maxRecDepth 100000 in
theorem mq_23 : j_code jP 200 23 = some (.aload_n 0) := rfl
set_option maxRecDepth 100000 in
theorem mq_24 : j_code jP 200 24 = some (.iconst 0) := rfl
set_option maxRecDepth 100000 in
theorem mq_25 : j_code jP 200 25 = some (.putfield 76) := rfl
set_option maxRecDepth 100000 in
theorem mq_28 : j_code jP 200 28 = some (.aload_n 0) := rfl
set_option maxRecDepth 100000 in
theorem mq_29 : j_code jP 200 29 = some (.iconst 0) := rfl
set_option maxRecDepth 100000 in
theorem mq_30 : j_code jP 200 30 = some (.putfield 86) := rfl
set_option maxRecDepth 100000 in
theorem mq_33 : j_code jP 200 33 = some (.aload_n 0) := rfl
set_option maxRecDepth 100000 in
theorem mq_34 : j_code jP 200 34 = some (.iconst 0) := rfl
set_option maxRecDepth 100000 in
theorem mq_35 : j_code jP 200 35 = some (.putfield 135) := rfl
set_option maxRecDepth 100000 in
theorem mq_38 : j_code jP 200 38 = some (.aload_n 0) := rfl
set_option maxRecDepth 100000 in
theorem mq_39 : j_code jP 200 39 = some (.iconst (-1)) := rfl
set_option maxRecDepth 100000 in
theorem mq_40 : j_code jP 200 40 = some (.putfield 138) := rfl
set_option maxRecDepth 100000 in
theorem mq_43 : j_code jP 200 43 = some (.iconst 0) := rfl
set_option maxRecDepth 100000 in
theorem mq_44 : j_code jP 200 44 = some (.istore_n 2) := rfl
set_option maxRecDepth 100000 in
theorem mq_45 : j_code jP 200 45 = some (.iload_n 2) := rfl
set_option maxRecDepth 100000 in
theorem mq_46 : j_code jP 200 46 = some (.sipush 602) := rfl
set_option maxRecDepth 100000 in
theorem mq_49 : j_code jP 200 49 = some (.if_icmp .ge 34) := rfl
set_option maxRecDepth 100000 in
theorem mq_52 : j_code jP 200 52 = some (.aload_n 0) := rfl
set_option maxRecDepth 100000 in
theorem mq_53 : j_code jP 200 53 = some (.getfield 13) := rfl
set_option maxRecDepth 100000 in
theorem mq_56 : j_code jP 200 56 = some (.iload_n 2) := rfl
set_option maxRecDepth 100000 in
theorem mq_57 : j_code jP 200 57 = some (.iload_n 2) := rfl
set_option maxRecDepth 100000 in
theorem mq_58 : j_code jP 200 58 = some (.sipush 246) := rfl
set_option maxRecDepth 100000 in
theorem mq_61 : j_code jP 200 61 = some (.if_icmp .lt 14) := rfl
set_option maxRecDepth 100000 in
theorem mq_64 : j_code jP 200 64 = some (.iload_n 2) := rfl
set_option maxRecDepth 100000 in
theorem mq_65 : j_code jP 200 65 = some (.sipush 296) := rfl
set_option maxRecDepth 100000 in
theorem mq_68 : j_code jP 200 68 = some (.if_icmp .ge 7) := rfl
set_option maxRecDepth 100000 in
theorem mq_71 : j_code jP 200 71 = some (.iconst (-1)) := rfl
set_option maxRecDepth 100000 in
theorem mq_72 : j_code jP 200 72 = some (.goto 4) := rfl
set_option maxRecDepth 100000 in
theorem mq_75 : j_code jP 200 75 = some (.iconst 0) := rfl
set_option maxRecDepth 100000 in
theorem mq_76 : j_code jP 200 76 = some (.iastore) := rfl
set_option maxRecDepth 100000 in
theorem mq_77 : j_code jP 200 77 = some (.iinc 2 1) := rfl
set_option maxRecDepth 100000 in
theorem mq_80 : j_code jP 200 80 = some (.goto (-35)) := rfl
set_option maxRecDepth 100000 in
theorem mq_83 : j_code jP 200 83 = some (.aload_n 0) := rfl
set_option maxRecDepth 100000 in
theorem mq_84 : j_code jP 200 84 = some (.invokevirtual 144) := rfl
set_option maxRecDepth 100000 in
theorem mq_87 : j_code jP 200 87 = some (.iconst 1) := rfl
set_option maxRecDepth 100000 in
theorem mq_88 : j_code jP 200 88 = some (.istore_n 2) := rfl
set_option maxRecDepth 100000 in
theorem mq_89 : j_code jP 200 89 = some (.iload_n 2) := rfl
set_option maxRecDepth 100000 in
theorem mq_90 : j_code jP 200 90 = some (.ifCond .eq 18) := rfl
set_option maxRecDepth 100000 in
theorem mq_93 : j_code jP 200 93 = some (.aload_n 0) := rfl
set_option maxRecDepth 100000 in
theorem mq_94 : j_code jP 200 94 = some (.getfield 96) := rfl
set_option maxRecDepth 100000 in
theorem mq_97 : j_code jP 200 97 = some (.ifCond .eq 11) := rfl
set_option maxRecDepth 100000 in
theorem mq_100 : j_code jP 200 100 = some (.aload_n 0) := rfl
set_option maxRecDepth 100000 in
theorem mq_101 : j_code jP 200 101 = some (.invokevirtual 182) := rfl
set_option maxRecDepth 100000 in
theorem mq_104 : j_code jP 200 104 = some (.istore_n 2) := rfl
set_option maxRecDepth 100000 in
theorem mq_105 : j_code jP 200 105 = some (.goto (-16)) := rfl
set_option maxRecDepth 100000 in
theorem mq_108 : j_code jP 200 108 = some (.aload_n 0) := rfl
set_option maxRecDepth 100000 in
theorem mq_109 : j_code jP 200 109 = some (.aload_n 0) := rfl
set_option maxRecDepth 100000 in
theorem mq_110 : j_code jP 200 110 = some (.getfield 135) := rfl
set_option maxRecDepth 100000 in
theorem mq_113 : j_code jP 200 113 = some (.putfield 35) := rfl
set_option maxRecDepth 100000 in
theorem mq_116 : j_code jP 200 116 = some (.aload_n 0) := rfl
set_option maxRecDepth 100000 in
theorem mq_117 : j_code jP 200 117 = some (.aload_n 0) := rfl
set_option maxRecDepth 100000 in
theorem mq_118 : j_code jP 200 118 = some (.getfield 138) := rfl
set_option maxRecDepth 100000 in
theorem mq_121 : j_code jP 200 121 = some (.putfield 39) := rfl
set_option maxRecDepth 100000 in
theorem mq_124 : j_code jP 200 124 = some (.iload_n 2) := rfl
set_option maxRecDepth 100000 in
theorem mq_125 : j_code jP 200 125 = some (.ifCond .ne 10) := rfl
set_option maxRecDepth 100000 in
theorem mq_128 : j_code jP 200 128 = some (.aload_n 0) := rfl
set_option maxRecDepth 100000 in
theorem mq_129 : j_code jP 200 129 = some (.bipush 9) := rfl
set_option maxRecDepth 100000 in
theorem mq_131 : j_code jP 200 131 = some (.invokevirtual 179) := rfl
set_option maxRecDepth 100000 in
theorem mq_134 : j_code jP 200 134 = some (.ireturn) := rfl
set_option maxRecDepth 100000 in
theorem mq_135 : j_code jP 200 135 = some (.aload_n 0) := rfl
set_option maxRecDepth 100000 in
theorem mq_136 : j_code jP 200 136 = some (.invokevirtual 185) := rfl
set_option maxRecDepth 100000 in
theorem mq_139 : j_code jP 200 139 = some (.aload_n 0) := rfl
set_option maxRecDepth 100000 in
theorem mq_140 : j_code jP 200 140 = some (.getfield 13) := rfl
set_option maxRecDepth 100000 in
theorem mq_143 : j_code jP 200 143 = some (.aload_n 0) := rfl
set_option maxRecDepth 100000 in
theorem mq_144 : j_code jP 200 144 = some (.getfield 7) := rfl
set_option maxRecDepth 100000 in
theorem mq_147 : j_code jP 200 147 = some (.invokestatic 188) := rfl
set_option maxRecDepth 100000 in
theorem mq_150 : j_code jP 200 150 = some (.iconst 0) := rfl
set_option maxRecDepth 100000 in
theorem mq_151 : j_code jP 200 151 = some (.istore_n 3) := rfl
set_option maxRecDepth 100000 in
theorem mq_152 : j_code jP 200 152 = some (.iload_n 3) := rfl
set_option maxRecDepth 100000 in
theorem mq_153 : j_code jP 200 153 = some (.bipush 12) := rfl
set_option maxRecDepth 100000 in
theorem mq_155 : j_code jP 200 155 = some (.if_icmp .ge 21) := rfl
set_option maxRecDepth 100000 in
theorem mq_158 : j_code jP 200 158 = some (.aload_n 0) := rfl
set_option maxRecDepth 100000 in
theorem mq_159 : j_code jP 200 159 = some (.getfield 28) := rfl
set_option maxRecDepth 100000 in
theorem mq_162 : j_code jP 200 162 = some (.iload_n 3) := rfl
set_option maxRecDepth 100000 in
theorem mq_163 : j_code jP 200 163 = some (.aload_n 0) := rfl
set_option maxRecDepth 100000 in
theorem mq_164 : j_code jP 200 164 = some (.getfield 32) := rfl
set_option maxRecDepth 100000 in
theorem mq_167 : j_code jP 200 167 = some (.iload_n 3) := rfl
set_option maxRecDepth 100000 in
theorem mq_168 : j_code jP 200 168 = some (.laload) := rfl
set_option maxRecDepth 100000 in
theorem mq_169 : j_code jP 200 169 = some (.lastore) := rfl
set_option maxRecDepth 100000 in
theorem mq_170 : j_code jP 200 170 = some (.iinc 3 1) := rfl
set_option maxRecDepth 100000 in
theorem mq_173 : j_code jP 200 173 = some (.goto (-21)) := rfl
set_option maxRecDepth 100000 in
theorem mq_176 : j_code jP 200 176 = some (.aload_n 0) := rfl
set_option maxRecDepth 100000 in
theorem mq_177 : j_code jP 200 177 = some (.iconst 0) := rfl
set_option maxRecDepth 100000 in
theorem mq_178 : j_code jP 200 178 = some (.putfield 192) := rfl
set_option maxRecDepth 100000 in
theorem mq_181 : j_code jP 200 181 = some (.aload_n 0) := rfl
set_option maxRecDepth 100000 in
theorem mq_182 : j_code jP 200 182 = some (.aload_n 0) := rfl
set_option maxRecDepth 100000 in
theorem mq_183 : j_code jP 200 183 = some (.getfield 7) := rfl
set_option maxRecDepth 100000 in
theorem mq_186 : j_code jP 200 186 = some (.sipush 203) := rfl
set_option maxRecDepth 100000 in
theorem mq_189 : j_code jP 200 189 = some (.iaload) := rfl
set_option maxRecDepth 100000 in
theorem mq_190 : j_code jP 200 190 = some (.invokevirtual 195) := rfl
set_option maxRecDepth 100000 in
theorem mq_193 : j_code jP 200 193 = some (.ireturn) := rfl
theorem mq_l {u : Nat → Value} {e : Nat} {l m : List Int32} {h0 : J_H} {d : Nat} {n : Int32} {Q : Option Value → J_H → Prop} (hm : m.length = 700) (he : e ≤ 700) (hb : ∀ k, k < e → 0 ≤ (m.getD k 0).toInt) (hR : bR l m e) : ∀ (f : Nat) (z : rK) (s : rSP) (t : rTP) (y : rK) (rd : List Int32) (rn : List Int64) (h : J_H), e + 1 ≤ f + z.1 → z.1 ≤ e → tR (aT l e z) y → wS s → w9T t → rd.length = 602 → rn.length = 12 → rd.getD 202 0 = nI s.1 → rd.getD 203 0 = nI t.1 → NR s.2.1 t.2.1 rn s.1 t.1 → dR rd s t → KN h [(359, .inl (10, [(u 0), (u 1), .ref 361, (u 3), (u 4), (u 5), .ref 365, (u 7), .ref 367, (u 9), (u 10), (u 11), (u 12), (u 13), .int (nI e), .int y.2.2.1, .int (nI y.1), .int y.2.1, .int y.2.2.2.2, .int ((0, -1) : Int32 × Int32).1, .int ((0, -1) : Int32 × Int32).2, .long y.2.2.2.1, (u 22), (u 23), (u 24), (u 25), (u 26), (u 27)])), (361, .inr (.inl (0, rd))), (365, .inr (.inl (0, m))), (367, .inr (.inr (.inl rn)))] h0 → (∀ (h : J_H) (y' : rK) (rd' : List Int32) (rn' : List Int64) (g : Bool) (F' : Int32 × Int32), ((g = true ∧ (rdL l e (-1) f z s t).1.1 = 0 ∧ rd'.getD 202 0 = nI (rdL l e (-1) f z s t).2.2.1.1 ∧ rd'.getD 203 0 = nI (rdL l e (-1) f z s t).2.2.2.1 ∧ (rdL l e (-1) f z s t).2.2.2.1 ≤ 5 ∧ dR rd' (rdL l e (-1) f z s t).2.2.1 (rdL l e (-1) f z s t).2.2.2 ∧ NR (rdL l e (-1) f z s t).2.2.1.2.1 (rdL l e (-1) f z s t).2.2.2.2.1 rn' (rdL l e (-1) f z s t).2.2.1.1 (rdL l e (-1) f z s t).2.2.2.1 ∧ wS (rdL l e (-1) f z s t).2.2.1 ∧ w9T (rdL l e (-1) f z s t).2.2.2) ∨ (g = false ∧ (rdL l e (-1) f z s t).1.1 ≠ 0)) ∧ F' = (rdL l e (-1) f z s t).1 ∧ rd'.length = 602 ∧ rn'.length = 12 → KN h [(359, .inl (10, [(u 0), (u 1), .ref 361, (u 3), (u 4), (u 5), .ref 365, (u 7), .ref 367, (u 9), (u 10), (u 11), (u 12), (u 13), .int (nI e), .int y'.2.2.1, .int (nI y'.1), .int y'.2.1, .int y'.2.2.2.2, .int F'.1, .int F'.2, .long y'.2.2.2.1, (u 22), (u 23), (u 24), (u 25), (u 26), (u 27)])), (361, .inr (.inl (0, rd'))), (365, .inr (.inl (0, m))), (367, .inr (.inr (.inl rn')))] h0 → j_W jP (d + 1 + 1 + 1 + 1 + 1 + 1 + 1) 200 108 [(2, .int (bif g then 1 else 0)), (0, .ref 359), (1, .int n)] [] h Q) → j_W jP (d + 1 + 1 + 1 + 1 + 1 + 1 + 1) 200 89 [(2, .int 1), (0, .ref 359), (1, .int n)] [] h Q := by
  intro f
  induction f with
  | zero => intro z s t y rd rn h hf hz; exfalso; omega
  | succ f ih =>
    intro z s t y rd rn h hf hz h1 hS hT hr hn hs ht hN hD K kk
    have hz1 : (aT l e z).1 ≤ e := tkN_le hz
    have hp : y.1 ≤ e := by rw [h1.1]; exact hz1
    have e0 : rdL l e (-1) (f + 1) z s t = rdB l e (-1) (rdL l e (-1) f) (aT l e z) s t := rfl
    rw [e0] at kk
    have hst : ¬ (aT l e z).2.1 = 0 → z.1 < (aT l e z).1 := fun q => tk_step (c := cX l) hz q
    generalize aT l e z = z1 at h1 hz1 kk hst
    refine j_W.one mq_M mq_89 (by decide) (pcJ := 90) (stJ := [.int 1]) rfl ?_
    refine j_W.ifc mq_M mq_90 (t := 108) rfl (fun c => ?_) (fun c => ?_)
    · exact absurd c (by decide)
    · clear c
      refine j_W.one mq_M mq_93 (by decide) (pcJ := 94) (stJ := [.ref 359]) rfl ?_
      refine j_W.getK mq_M mq_94 (ci := 10) (j := 17) rfl K rfl rfl ?_
      refine j_W.ifc mq_M mq_97 (t := 108) rfl (fun c => ?_) (fun c => ?_)
      · have c : y.2.1 = 0 := by simpa [j_cond] using c
        have c := h1.k0.mp c
        rw [show rdB l e (-1) (rdL l e (-1) f) z1 s t = ((0, -1), z1, s, t) from if_pos c] at kk
        exact kk _ y rd rn true (0, -1) ⟨Or.inl ⟨rfl, rfl, hs, ht, hT.1, hD, hN, hS, hT⟩, rfl, hr, hn⟩ K
      · have c : ¬ y.2.1 = 0 := by simpa [j_cond] using c
        have c0 : ¬ z1.2.1 = 0 := fun q => c (h1.k0.mpr q)
        clear c
        obtain ⟨g, Fc, z', s', t', r1, r2, r3, r4⟩ := ln_R hR h1 c0 hz1 hS hT hr hn hs ht hN (m := m) (pa := -1)
        rw [r1] at kk
        refine j_W.one mq_M mq_100 (by decide) (pcJ := 101) (stJ := [.ref 359]) rfl ?_
        generalize hL9 : mLn m e s.1 t.1 (0, -1) y rd rn = R at r2
        refine j_W.call mq_M mq_101 rfl (md := 3) (mj := 198) rfl (by decide) mz_M (As := [.ref 359]) (rest := []) (jk_spl3 (K.at rfl) rfl rfl rfl (Nat.le_of_ble_eq_true rfl) (Nat.le_of_ble_eq_true rfl)) ((hL9 ▸ mz_ok (F := (0, -1)) hm he hb hp hr hn hS.1 hs hT.1 ht (K.sub ⟨rfl, rfl, rfl, rfl, trivial⟩))) ?_
        rintro r h9 ⟨rfl, K9⟩
        have K : KN h9 [(359, .inl (10, [(u 0), (u 1), .ref 361, (u 3), (u 4), (u 5), .ref 365, (u 7), .ref 367, (u 9), (u 10), (u 11), (u 12), (u 13), .int (nI e), .int R.2.2.1.2.2.1, .int (nI R.2.2.1.1), .int R.2.2.1.2.1, .int R.2.2.1.2.2.2.2, .int R.2.1.1, .int R.2.1.2, .long R.2.2.1.2.2.2.1, (u 22), (u 23), (u 24), (u 25), (u 26), (u 27)])), (361, .inr (.inl (0, R.2.2.2.1))), (365, .inr (.inl (0, m))), (367, .inr (.inr (.inl R.2.2.2.2)))] h0 := K.go K9 rfl rfl rfl
        clear K9
        show j_W jP _ 200 104 [(2, .int 1), (0, .ref 359), (1, .int n)] [.int (bif R.1 then 1 else 0)] h9 _
        clear hL9
        obtain ⟨⟨q1, q2, q3⟩, q4, q5, q6⟩ := r2
        refine j_W.one mq_M mq_104 (by decide) (pcJ := 105) (lv' := [(2, .int (bif R.1 then 1 else 0)), (0, .ref 359), (1, .int n)]) (stJ := []) rfl ?_
        rw [q4]
        cases g with
        | true =>
          show j_W jP _ 200 105 [(2, .int 1), (0, .ref 359), (1, .int n)] [] h9 _
          obtain ⟨a1, a2, ⟨a3, a4⟩, a5, a6⟩ := q5 rfl
          obtain ⟨b1, b2, b3, b4⟩ := r3 rfl
          rw [a1] at K
          refine j_W.gto mq_M mq_105 (t := 89) rfl ?_
          exact ih z' s' t' R.2.2.1 R.2.2.2.1 R.2.2.2.2 _ (by have := hst c0; omega) b2 a2 b3 b4 q2 q3 a3 a4 a5 (a6 hD) K kk
        | false =>
          show j_W jP _ 200 105 [(2, .int 0), (0, .ref 359), (1, .int n)] [] h9 _
          rw [q6 rfl] at K
          refine j_W.gto mq_M mq_105 (t := 89) rfl ?_
          refine j_W.one mq_M mq_89 (by decide) (pcJ := 90) (stJ := [.int 0]) rfl ?_
          refine j_W.ifc mq_M mq_90 (t := 108) rfl (fun c => ?_) (fun c => ?_)
          · exact kk _ R.2.2.1 R.2.2.2.1 R.2.2.2.2 false Fc ⟨Or.inr ⟨rfl, r4 rfl⟩, rfl, q2, q3⟩ K
          · exact absurd c (by decide)
def mzV (k : Nat) : Int32 := if 246 ≤ k ∧ k < 296 then -1 else 0
def mZ : Nat → Nat → List Int32 → List Int32
  | 0, _, rd => rd
  | f + 1, k, rd => mZ f (k + 1) (rd.set k (mzV k))
theorem mZ_len : ∀ (f k : Nat) (rd : List Int32), (mZ f k rd).length = rd.length
  | 0, _, _ => rfl
  | f + 1, k, rd => by
    show (mZ f (k + 1) _).length = _
    rw [mZ_len f (k + 1)]
    simp
theorem mZ_at {j : Nat} : ∀ (f k : Nat) (rd : List Int32), rd.length = k + f → j < k + f → (k ≤ j ∨ rd.getD j 0 = mzV j) → (mZ f k rd).getD j 0 = mzV j
  | 0, k, rd, hl, hj, h => h.resolve_left (by omega)
  | f + 1, k, rd, hl, hj, h => by
    refine mZ_at f (k + 1) _ (by simp [hl]; omega) (by omega) ?_
    by_cases e : k = j
    · subst e
      exact Or.inr (jk_gs _ _ _ _ (by omega))
    · rcases h with h | h
      · exact Or.inl (by omega)
      · exact Or.inr ((jk_gn e).trans h)
def mM : Nat → Nat → List Int64 → List Int64 → List Int64
  | 0, _, _, nm => nm
  | f + 1, k, rn, nm => mM f (k + 1) rn (nm.set k (rn.getD k 0))
theorem mq_z {u : Nat → Value} {e : Nat} {h0 : J_H} {d : Nat} {n : Int32} {Q : Option Value → J_H → Prop} : ∀ (f k : Nat) (rd : List Int32) (h : J_H), k + f = 602 → rd.length = 602 → KN h [(359, .inl (10, [(u 0), .ref 360, .ref 361, (u 3), (u 4), (u 5), .ref 365, .ref 366, .ref 367, .int 0, (u 10), (u 11), (u 12), (u 13), .int (nI e), (u 15), .int 0, (u 17), (u 18), .int 0, .int (-1), (u 21), (u 22), (u 23), (u 24), (u 25), (u 26), (u 27)])), (361, .inr (.inl (0, rd)))] h0 → (∀ h, KN h [(359, .inl (10, [(u 0), .ref 360, .ref 361, (u 3), (u 4), (u 5), .ref 365, .ref 366, .ref 367, .int 0, (u 10), (u 11), (u 12), (u 13), .int (nI e), (u 15), .int 0, (u 17), (u 18), .int 0, .int (-1), (u 21), (u 22), (u 23), (u 24), (u 25), (u 26), (u 27)])), (361, .inr (.inl (0, (mZ f k rd))))] h0 → j_W jP d 200 83 [(2, .int (nI 602)), (0, .ref 359), (1, .int n)] [] h Q) → j_W jP d 200 45 [(2, .int (nI k)), (0, .ref 359), (1, .int n)] [] h Q := by
  intro f
  induction f with
  | zero =>
    intro k rd h hf hr K kk
    obtain rfl : k = 602 := by omega
    refine j_W.one mq_M mq_45 (by decide) (pcJ := 46) (stJ := [.int (nI 602)]) rfl ?_
    refine j_W.one mq_M mq_46 (by decide) (pcJ := 49) (stJ := [.int 602, .int (nI 602)]) rfl ?_
    refine j_W.icmp mq_M mq_49 (t := 83) rfl (fun c => ?_) (fun c => ?_)
    · exact kk _ K
    · exact absurd c (by decide)
  | succ f ih =>
    intro k rd h hf hr K kk
    refine j_W.one mq_M mq_45 (by decide) (pcJ := 46) (stJ := [.int (nI k)]) rfl ?_
    refine j_W.one mq_M mq_46 (by decide) (pcJ := 49) (stJ := [.int 602, .int (nI k)]) rfl ?_
    refine j_W.icmp mq_M mq_49 (t := 83) rfl (fun c => ?_) (fun c => ?_)
    · exfalso; rw [jk_ge] at c; have c := of_decide_eq_true c; rw [nI_toInt (by omega), show (602 : Int32).toInt = 602 from rfl] at c; omega
    · clear c
      refine j_W.one mq_M mq_52 (by decide) (pcJ := 53) (stJ := [.ref 359]) rfl ?_
      refine j_W.getK mq_M mq_53 (ci := 10) (j := 2) rfl K rfl rfl ?_
      refine j_W.one mq_M mq_56 (by decide) (pcJ := 57) (stJ := [.int (nI k), .ref 361]) rfl ?_
      refine j_W.one mq_M mq_57 (by decide) (pcJ := 58) (stJ := [.int (nI k), .int (nI k), .ref 361]) rfl ?_
      refine j_W.one mq_M mq_58 (by decide) (pcJ := 61) (stJ := [.int 246, .int (nI k), .int (nI k), .ref 361]) rfl ?_
      refine j_W.icmp mq_M mq_61 (t := 75) rfl (fun c => ?_) (fun c => ?_)
      · rw [sk_lt] at c; have c := of_decide_eq_true c; rw [nI_toInt (by omega), show (246 : Int32).toInt = 246 from rfl] at c
        refine j_W.one mq_M mq_75 (by decide) (pcJ := 76) (stJ := [.int 0, .int (nI k), .ref 361]) rfl ?_
        have e9 : mzV k = 0 := if_neg (by omega)
        refine j_W.iastK mq_M mq_76 (n := k) (k' := [(359, .inl (10, [(u 0), .ref 360, .ref 361, (u 3), (u 4), (u 5), .ref 365, .ref 366, .ref 367, .int 0, (u 10), (u 11), (u 12), (u 13), .int (nI e), (u 15), .int 0, (u 17), (u 18), .int 0, .int (-1), (u 21), (u 22), (u 23), (u 24), (u 25), (u 26), (u 27)])), (361, .inr (.inl (0, (rd.set k 0))))]) K rfl (by omega) (by omega) rfl (fun h K => ?_)
        refine j_W.one mq_M mq_77 (by decide) (pcJ := 80) (lv' := [(2, .int ((nI k) + 1)), (0, .ref 359), (1, .int n)]) (stJ := []) rfl ?_
        refine j_W.gto mq_M mq_80 (t := 45) rfl ?_
        have t9 := ih (k + 1) _ _ (by omega) (by simp [hr]) K (fun h K => kk h (by show KN h _ h0; simp only [mZ]; rw [e9]; exact K))
        rw [nI_succ] at t9
        exact t9
      · rw [sk_lt] at c; have c := of_decide_eq_false c; rw [nI_toInt (by omega), show (246 : Int32).toInt = 246 from rfl] at c
        have c1 := c
        clear c
        refine j_W.one mq_M mq_64 (by decide) (pcJ := 65) (stJ := [.int (nI k), .int (nI k), .ref 361]) rfl ?_
        refine j_W.one mq_M mq_65 (by decide) (pcJ := 68) (stJ := [.int 296, .int (nI k), .int (nI k), .ref 361]) rfl ?_
        refine j_W.icmp mq_M mq_68 (t := 75) rfl (fun c => ?_) (fun c => ?_)
        · rw [jk_ge] at c; have c := of_decide_eq_true c; rw [nI_toInt (by omega), show (296 : Int32).toInt = 296 from rfl] at c
          refine j_W.one mq_M mq_75 (by decide) (pcJ := 76) (stJ := [.int 0, .int (nI k), .ref 361]) rfl ?_
          have e9 : mzV k = 0 := if_neg (by omega)
          refine j_W.iastK mq_M mq_76 (n := k) (k' := [(359, .inl (10, [(u 0), .ref 360, .ref 361, (u 3), (u 4), (u 5), .ref 365, .ref 366, .ref 367, .int 0, (u 10), (u 11), (u 12), (u 13), .int (nI e), (u 15), .int 0, (u 17), (u 18), .int 0, .int (-1), (u 21), (u 22), (u 23), (u 24), (u 25), (u 26), (u 27)])), (361, .inr (.inl (0, (rd.set k 0))))]) K rfl (by omega) (by omega) rfl (fun h K => ?_)
          refine j_W.one mq_M mq_77 (by decide) (pcJ := 80) (lv' := [(2, .int ((nI k) + 1)), (0, .ref 359), (1, .int n)]) (stJ := []) rfl ?_
          refine j_W.gto mq_M mq_80 (t := 45) rfl ?_
          have t9 := ih (k + 1) _ _ (by omega) (by simp [hr]) K (fun h K => kk h (by show KN h _ h0; simp only [mZ]; rw [e9]; exact K))
          rw [nI_succ] at t9
          exact t9
        · rw [jk_ge] at c; have c := of_decide_eq_false c; rw [nI_toInt (by omega), show (296 : Int32).toInt = 296 from rfl] at c
          refine j_W.one mq_M mq_71 (by decide) (pcJ := 72) (stJ := [.int (-1), .int (nI k), .ref 361]) rfl ?_
          refine j_W.gto mq_M mq_72 (t := 76) rfl ?_
          have e9 : mzV k = (-1) := if_pos (by omega)
          refine j_W.iastK mq_M mq_76 (n := k) (k' := [(359, .inl (10, [(u 0), .ref 360, .ref 361, (u 3), (u 4), (u 5), .ref 365, .ref 366, .ref 367, .int 0, (u 10), (u 11), (u 12), (u 13), .int (nI e), (u 15), .int 0, (u 17), (u 18), .int 0, .int (-1), (u 21), (u 22), (u 23), (u 24), (u 25), (u 26), (u 27)])), (361, .inr (.inl (0, (rd.set k (-1)))))]) K rfl (by omega) (by omega) rfl (fun h K => ?_)
          refine j_W.one mq_M mq_77 (by decide) (pcJ := 80) (lv' := [(2, .int ((nI k) + 1)), (0, .ref 359), (1, .int n)]) (stJ := []) rfl ?_
          refine j_W.gto mq_M mq_80 (t := 45) rfl ?_
          have t9 := ih (k + 1) _ _ (by omega) (by simp [hr]) K (fun h K => kk h (by show KN h _ h0; simp only [mZ]; rw [e9]; exact K))
          rw [nI_succ] at t9
          exact t9
theorem mq_n {v : Nat → Value} {rn : List Int64} {h0 : J_H} {d : Nat} {n : Int32} {Q : Option Value → J_H → Prop} (hn : rn.length = 12) : ∀ (f k : Nat) (nm : List Int64) (h : J_H), k + f = 12 → nm.length = 12 → KN h [(359, .inl (10, [(v 0), (v 1), (v 2), (v 3), (v 4), (v 5), (v 6), .ref 366, .ref 367, (v 9), (v 10), (v 11), (v 12), (v 13), (v 14), (v 15), (v 16), (v 17), (v 18), (v 19), (v 20), (v 21), (v 22), (v 23), (v 24), (v 25), (v 26), (v 27)])), (366, .inr (.inr (.inl nm))), (367, .inr (.inr (.inl rn)))] h0 → (∀ h, KN h [(359, .inl (10, [(v 0), (v 1), (v 2), (v 3), (v 4), (v 5), (v 6), .ref 366, .ref 367, (v 9), (v 10), (v 11), (v 12), (v 13), (v 14), (v 15), (v 16), (v 17), (v 18), (v 19), (v 20), (v 21), (v 22), (v 23), (v 24), (v 25), (v 26), (v 27)])), (366, .inr (.inr (.inl (mM f k rn nm)))), (367, .inr (.inr (.inl rn)))] h0 → j_W jP d 200 176 [(3, .int (nI 12)), (2, .int 1), (0, .ref 359), (1, .int n)] [] h Q) → j_W jP d 200 152 [(3, .int (nI k)), (2, .int 1), (0, .ref 359), (1, .int n)] [] h Q := by
  intro f
  induction f with
  | zero =>
    intro k nm h hf hr K kk
    obtain rfl : k = 12 := by omega
    refine j_W.one mq_M mq_152 (by decide) (pcJ := 153) (stJ := [.int (nI 12)]) rfl ?_
    refine j_W.one mq_M mq_153 (by decide) (pcJ := 155) (stJ := [.int 12, .int (nI 12)]) rfl ?_
    refine j_W.icmp mq_M mq_155 (t := 176) rfl (fun c => ?_) (fun c => ?_)
    · exact kk _ K
    · exact absurd c (by decide)
  | succ f ih =>
    intro k nm h hf hr K kk
    refine j_W.one mq_M mq_152 (by decide) (pcJ := 153) (stJ := [.int (nI k)]) rfl ?_
    refine j_W.one mq_M mq_153 (by decide) (pcJ := 155) (stJ := [.int 12, .int (nI k)]) rfl ?_
    refine j_W.icmp mq_M mq_155 (t := 176) rfl (fun c => ?_) (fun c => ?_)
    · exfalso; rw [jk_ge] at c; have c := of_decide_eq_true c; rw [nI_toInt (by omega), show (12 : Int32).toInt = 12 from rfl] at c; omega
    · clear c
      refine j_W.one mq_M mq_158 (by decide) (pcJ := 159) (stJ := [.ref 359]) rfl ?_
      refine j_W.getK mq_M mq_159 (ci := 10) (j := 7) rfl K rfl rfl ?_
      refine j_W.one mq_M mq_162 (by decide) (pcJ := 163) (stJ := [.int (nI k), .ref 366]) rfl ?_
      refine j_W.one mq_M mq_163 (by decide) (pcJ := 164) (stJ := [.ref 359, .int (nI k), .ref 366]) rfl ?_
      refine j_W.getK mq_M mq_164 (ci := 10) (j := 8) rfl K rfl rfl ?_
      refine j_W.one mq_M mq_167 (by decide) (pcJ := 168) (stJ := [.int (nI k), .ref 367, .int (nI k), .ref 366]) rfl ?_
      refine j_W.laldK mq_M mq_168 K rfl (n := k) (by omega) (by omega) ?_
      refine j_W.lastK mq_M mq_169 (n := k) (k' := [(359, .inl (10, [(v 0), (v 1), (v 2), (v 3), (v 4), (v 5), (v 6), .ref 366, .ref 367, (v 9), (v 10), (v 11), (v 12), (v 13), (v 14), (v 15), (v 16), (v 17), (v 18), (v 19), (v 20), (v 21), (v 22), (v 23), (v 24), (v 25), (v 26), (v 27)])), (366, .inr (.inr (.inl (nm.set k (rn.getD k 0))))), (367, .inr (.inr (.inl rn)))]) K rfl (by omega) (by omega) rfl (fun h K => ?_)
      refine j_W.one mq_M mq_170 (by decide) (pcJ := 173) (lv' := [(3, .int ((nI k) + 1)), (2, .int 1), (0, .ref 359), (1, .int n)]) (stJ := []) rfl ?_
      refine j_W.gto mq_M mq_173 (t := 152) rfl ?_
      have t9 := ih (k + 1) _ _ (by omega) (by simp [hr]) K kk
      rw [nI_succ] at t9
      exact t9
set_option maxRecDepth 100000 in
theorem mj_M : j_meth jP 169 = some (yX10_refuse, cX10_refuse, 2, (some .int), 1, false, 10) := rfl
set_option maxRecDepth 100000 in
theorem mj_0 : j_code jP 169 0 = some (.aload_n 0) := rfl
set_option maxRecDepth 100000 in
theorem mj_1 : j_code jP 169 1 = some (.iconst 0) := rfl
set_option maxRecDepth 100000 in
theorem mj_2 : j_code jP 169 2 = some (.putfield 55) := rfl
set_option maxRecDepth 100000 in
theorem mj_5 : j_code jP 169 5 = some (.aload_n 0) := rfl
set_option maxRecDepth 100000 in
theorem mj_6 : j_code jP 169 6 = some (.iload_n 1) := rfl
set_option maxRecDepth 100000 in
theorem mj_7 : j_code jP 169 7 = some (.putfield 58) := rfl
set_option maxRecDepth 100000 in
theorem mj_10 : j_code jP 169 10 = some (.iconst (-1)) := rfl
set_option maxRecDepth 100000 in
theorem mj_11 : j_code jP 169 11 = some (.ireturn) := rfl
theorem mj_ok {v : Nat → Value} {k : Int32} {d : Nat} {h h0 : J_H} (K : KN h [(359, .inl (10, [(v 0), (v 1), (v 2), (v 3), (v 4), (v 5), (v 6), (v 7), (v 8), (v 9), (v 10), (v 11), (v 12), (v 13), (v 14), (v 15), (v 16), (v 17), (v 18), (v 19), (v 20), (v 21), (v 22), (v 23), (v 24), (v 25), (v 26), (v 27)]))] h0) : j_W jP d 169 0 (lv_args 0 [.ref 359, .int k]) [] h (fun rv h' => rv = some (.int (-1)) ∧ KN h' [(359, .inl (10, [.int 0, (v 1), (v 2), (v 3), (v 4), (v 5), (v 6), (v 7), (v 8), (v 9), .int k, (v 11), (v 12), (v 13), (v 14), (v 15), (v 16), (v 17), (v 18), (v 19), (v 20), (v 21), (v 22), (v 23), (v 24), (v 25), (v 26), (v 27)]))] h0) := by
  show j_W jP d 169 0 [(0, .ref 359), (1, .int k)] [] h _
  refine j_W.one mj_M mj_0 (by decide) (pcJ := 1) (stJ := [.ref 359]) rfl ?_
  refine j_W.one mj_M mj_1 (by decide) (pcJ := 2) (stJ := [.int 0, .ref 359]) rfl ?_
  refine j_W.putK mj_M mj_2 (ci := 10) (j := 0) (k' := [(359, .inl (10, [.int 0, (v 1), (v 2), (v 3), (v 4), (v 5), (v 6), (v 7), (v 8), (v 9), (v 10), (v 11), (v 12), (v 13), (v 14), (v 15), (v 16), (v 17), (v 18), (v 19), (v 20), (v 21), (v 22), (v 23), (v 24), (v 25), (v 26), (v 27)]))]) rfl K rfl (Nat.le_of_ble_eq_true rfl) rfl (Or.inl rfl) rfl rfl (fun h K => ?_)
  refine j_W.one mj_M mj_5 (by decide) (pcJ := 6) (stJ := [.ref 359]) rfl ?_
  refine j_W.one mj_M mj_6 (by decide) (pcJ := 7) (stJ := [.int k, .ref 359]) rfl ?_
  refine j_W.putK mj_M mj_7 (ci := 10) (j := 10) (k' := [(359, .inl (10, [.int 0, (v 1), (v 2), (v 3), (v 4), (v 5), (v 6), (v 7), (v 8), (v 9), .int k, (v 11), (v 12), (v 13), (v 14), (v 15), (v 16), (v 17), (v 18), (v 19), (v 20), (v 21), (v 22), (v 23), (v 24), (v 25), (v 26), (v 27)]))]) rfl K rfl (Nat.le_of_ble_eq_true rfl) rfl (Or.inl rfl) rfl rfl (fun h K => ?_)
  refine j_W.one mj_M mj_10 (by decide) (pcJ := 11) (stJ := [.int (-1)]) rfl ?_
  refine j_W.ret mj_M mj_11 rfl rfl ⟨rfl, K⟩
set_option maxRecDepth 100000 in
theorem ml_M : j_meth jP 170 = some (yX10_gives, cX10_gives, 2, (some .int), 1, false, 10) := rfl
set_option maxRecDepth 100000 in
theorem ml_0 : j_code jP 170 0 = some (.aload_n 0) := rfl
set_option maxRecDepth 100000 in
theorem ml_1 : j_code jP 170 1 = some (.iconst 0) := rfl
set_option maxRecDepth 100000 in
theorem ml_2 : j_code jP 170 2 = some (.putfield 55) := rfl
set_option maxRecDepth 100000 in
theorem ml_5 : j_code jP 170 5 = some (.aload_n 0) := rfl
set_option maxRecDepth 100000 in
theorem ml_6 : j_code jP 170 6 = some (.iconst 0) := rfl
set_option maxRecDepth 100000 in
theorem ml_7 : j_code jP 170 7 = some (.putfield 58) := rfl
set_option maxRecDepth 100000 in
theorem ml_10 : j_code jP 170 10 = some (.iload_n 1) := rfl
set_option maxRecDepth 100000 in
theorem ml_11 : j_code jP 170 11 = some (.ireturn) := rfl
theorem ml_ok {v : Nat → Value} {k : Int32} {d : Nat} {h h0 : J_H} (K : KN h [(359, .inl (10, [(v 0), (v 1), (v 2), (v 3), (v 4), (v 5), (v 6), (v 7), (v 8), (v 9), (v 10), (v 11), (v 12), (v 13), (v 14), (v 15), (v 16), (v 17), (v 18), (v 19), (v 20), (v 21), (v 22), (v 23), (v 24), (v 25), (v 26), (v 27)]))] h0) : j_W jP d 170 0 (lv_args 0 [.ref 359, .int k]) [] h (fun rv h' => rv = some (.int k) ∧ KN h' [(359, .inl (10, [.int 0, (v 1), (v 2), (v 3), (v 4), (v 5), (v 6), (v 7), (v 8), (v 9), .int 0, (v 11), (v 12), (v 13), (v 14), (v 15), (v 16), (v 17), (v 18), (v 19), (v 20), (v 21), (v 22), (v 23), (v 24), (v 25), (v 26), (v 27)]))] h0) := by
  show j_W jP d 170 0 [(0, .ref 359), (1, .int k)] [] h _
  refine j_W.one ml_M ml_0 (by decide) (pcJ := 1) (stJ := [.ref 359]) rfl ?_
  refine j_W.one ml_M ml_1 (by decide) (pcJ := 2) (stJ := [.int 0, .ref 359]) rfl ?_
  refine j_W.putK ml_M ml_2 (ci := 10) (j := 0) (k' := [(359, .inl (10, [.int 0, (v 1), (v 2), (v 3), (v 4), (v 5), (v 6), (v 7), (v 8), (v 9), (v 10), (v 11), (v 12), (v 13), (v 14), (v 15), (v 16), (v 17), (v 18), (v 19), (v 20), (v 21), (v 22), (v 23), (v 24), (v 25), (v 26), (v 27)]))]) rfl K rfl (Nat.le_of_ble_eq_true rfl) rfl (Or.inl rfl) rfl rfl (fun h K => ?_)
  refine j_W.one ml_M ml_5 (by decide) (pcJ := 6) (stJ := [.ref 359]) rfl ?_
  refine j_W.one ml_M ml_6 (by decide) (pcJ := 7) (stJ := [.int 0, .ref 359]) rfl ?_
  refine j_W.putK ml_M ml_7 (ci := 10) (j := 10) (k' := [(359, .inl (10, [.int 0, (v 1), (v 2), (v 3), (v 4), (v 5), (v 6), (v 7), (v 8), (v 9), .int 0, (v 11), (v 12), (v 13), (v 14), (v 15), (v 16), (v 17), (v 18), (v 19), (v 20), (v 21), (v 22), (v 23), (v 24), (v 25), (v 26), (v 27)]))]) rfl K rfl (Nat.le_of_ble_eq_true rfl) rfl (Or.inl rfl) rfl rfl (fun h K => ?_)
  refine j_W.one ml_M ml_10 (by decide) (pcJ := 11) (stJ := [.int k]) rfl ?_
  refine j_W.ret ml_M ml_11 rfl rfl ⟨rfl, K⟩
/-- what load comes to -/
def PL2 (u : Nat → Value) (h0 : J_H) (m nw : List Int32) (nm : List Int64) (e : Nat) (C : rY) (rv : Option Value) (h' : J_H) : Prop := (C.1.1 = 0 ∧ rv = some (.int (nI C.2.2.2.1)) ∧ ∃ (rd : List Int32) (rn : List Int64) (a15 a16 a17 a18 : Int32) (a21 : Int64), (rd.length = 602 ∧ rn.length = 12 ∧ rd.getD 202 0 = nI C.2.2.1.1 ∧ rd.getD 203 0 = nI C.2.2.2.1) ∧ (dR rd C.2.2.1 C.2.2.2 ∧ NR C.2.2.1.2.1 C.2.2.2.2.1 rn C.2.2.1.1 C.2.2.2.1 ∧ wS C.2.2.1 ∧ w9T C.2.2.2) ∧ KN h' [(359, .inl (10, [.int 0, .ref 360, .ref 361, (u 3), (u 4), (u 5), .ref 365, .ref 366, .ref 367, .int 0, .int 0, .int C.1.1, .int C.1.2, .int 0, .int (nI e), .int a15, .int a16, .int a17, .int a18, .int C.1.1, .int C.1.2, .long a21, (u 22), (u 23), (u 24), (u 25), (u 26), (u 27)])), (361, .inr (.inl (0, ldW C.2.2.2.1 rd))), (365, .inr (.inl (0, m))), (367, .inr (.inr (.inl rn))), (360, .inr (.inl (0, ldW C.2.2.2.1 rd))), (366, .inr (.inr (.inl (mM 12 0 rn nm))))] h0) ∨ (C.1.1 ≠ 0 ∧ rv = some (.int (-1)) ∧ ∃ (rd : List Int32) (rn : List Int64) (a15 a16 a17 a18 : Int32) (a21 : Int64), KN h' [(359, .inl (10, [.int 0, .ref 360, .ref 361, (u 3), (u 4), (u 5), .ref 365, .ref 366, .ref 367, .int 0, .int 9, .int C.1.1, .int C.1.2, (u 13), .int (nI e), .int a15, .int a16, .int a17, .int a18, .int C.1.1, .int C.1.2, .long a21, (u 22), (u 23), (u 24), (u 25), (u 26), (u 27)])), (361, .inr (.inl (0, rd))), (365, .inr (.inl (0, m))), (367, .inr (.inr (.inl rn))), (360, .inr (.inl (0, nw))), (366, .inr (.inr (.inl nm)))] h0)
theorem mq_fr {n a : Nat} (h1 : n ≤ a) : True := trivial
theorem mq_ok {u : Nat → Value} {a e : Nat} {l m rd nw : List Int32} {rn nm : List Int64} {u15 u16 u17 u18 u19 u20 : Int32} {u21 : Int64} {z : rK} {s : rSP} {t : rTP} {h h0 : J_H} {d : Nat} (hm : m.length = 700) (he : e ≤ 700) (hb : ∀ k, k < e → 0 ≤ (m.getD k 0).toInt) (hR : bR l m e) (hr : rd.length = 602) (hn : rn.length = 12) (hw : nw.length = 602) (hnm : nm.length = 12) (ha : e ≤ a) (ha7 : a ≤ 700) (hze : z.1 = 0) (hS : wS s) (hT : w9T t) (hs0 : s.1 = 0) (ht0 : t.1 = 0) (K : KN h [(359, .inl (10, [(u 0), .ref 360, .ref 361, (u 3), (u 4), (u 5), .ref 365, .ref 366, .ref 367, .int (nI a), (u 10), (u 11), (u 12), (u 13), (u 14), .int u15, .int u16, .int u17, .int u18, .int u19, .int u20, .long u21, (u 22), (u 23), (u 24), (u 25), (u 26), (u 27)])), (361, .inr (.inl (0, rd))), (365, .inr (.inl (0, m))), (367, .inr (.inr (.inl rn))), (360, .inr (.inl (0, nw))), (366, .inr (.inr (.inl nm)))] h0) : j_W jP (d + 1 + 1 + 1 + 1 + 1 + 1 + 1) 200 0 (lv_args 0 [.ref 359, .int (nI e)]) [] h (PL2 u h0 m nw nm e (rdL l e (-1) (e + 1) z s t)) := by
  have K0 := K
  show j_W jP (d + 1 + 1 + 1 + 1 + 1 + 1 + 1) 200 0 [(0, .ref 359), (1, .int (nI e))] [] h _
  refine j_W.one mq_M mq_0 (by decide) (pcJ := 1) (stJ := [.int (nI e)]) rfl ?_
  refine j_W.one mq_M mq_1 (by decide) (pcJ := 2) (stJ := [.int 0, .int (nI e)]) rfl ?_
  refine j_W.one mq_M mq_2 (by decide) (pcJ := 3) (stJ := [.ref 359, .int 0, .int (nI e)]) rfl ?_
  refine j_W.getK mq_M mq_3 (ci := 10) (j := 9) rfl K rfl rfl ?_
  refine j_W.call mq_M mq_6 rfl (md := 2) (mj := 171) rfl (by decide) mf_M (As := [.int (nI e), .int 0, .int (nI a)]) (rest := []) (jk_spl2 rfl rfl (Nat.le_of_ble_eq_true rfl) (Nat.le_of_ble_eq_true rfl)) (mf_ok) ?_
  rintro r hz ⟨rfl, ez⟩
  rw [ez]
  clear ez
  show j_W jP _ 200 9 [(0, .ref 359), (1, .int (nI e))] [.int (bif inB (nI e) 0 (nI a) then 1 else 0)] h _
  rw [show inB (nI e) 0 (nI a) = true by unfold inB; rw [nI_toInt (by omega), nI_toInt (by omega), decide_eq_true (show (0 : Int32).toInt ≤ (e : Int) from Int.natCast_nonneg _), decide_eq_true (show (e : Int) ≤ (a : Int) by omega)]; rfl]
  refine j_W.ifc mq_M mq_9 (t := 18) rfl (fun c => ?_) (fun c => ?_)
  · clear c
    refine j_W.one mq_M mq_18 (by decide) (pcJ := 19) (stJ := [.ref 359]) rfl ?_
    refine j_W.one mq_M mq_19 (by decide) (pcJ := 20) (stJ := [.int (nI e), .ref 359]) rfl ?_
    refine j_W.putK mq_M mq_20 (ci := 10) (j := 14) (k' := [(359, .inl (10, [(u 0), .ref 360, .ref 361, (u 3), (u 4), (u 5), .ref 365, .ref 366, .ref 367, .int (nI a), (u 10), (u 11), (u 12), (u 13), .int (nI e), .int u15, .int u16, .int u17, .int u18, .int u19, .int u20, .long u21, (u 22), (u 23), (u 24), (u 25), (u 26), (u 27)])), (361, .inr (.inl (0, rd))), (365, .inr (.inl (0, m))), (367, .inr (.inr (.inl rn))), (360, .inr (.inl (0, nw))), (366, .inr (.inr (.inl nm)))]) rfl K rfl (Nat.le_of_ble_eq_true rfl) rfl (Or.inl rfl) rfl rfl (fun h K => ?_)
    refine j_W.one mq_M mq_23 (by decide) (pcJ := 24) (stJ := [.ref 359]) rfl ?_
    refine j_W.one mq_M mq_24 (by decide) (pcJ := 25) (stJ := [.int 0, .ref 359]) rfl ?_
    refine j_W.putK mq_M mq_25 (ci := 10) (j := 9) (k' := [(359, .inl (10, [(u 0), .ref 360, .ref 361, (u 3), (u 4), (u 5), .ref 365, .ref 366, .ref 367, .int 0, (u 10), (u 11), (u 12), (u 13), .int (nI e), .int u15, .int u16, .int u17, .int u18, .int u19, .int u20, .long u21, (u 22), (u 23), (u 24), (u 25), (u 26), (u 27)])), (361, .inr (.inl (0, rd))), (365, .inr (.inl (0, m))), (367, .inr (.inr (.inl rn))), (360, .inr (.inl (0, nw))), (366, .inr (.inr (.inl nm)))]) rfl K rfl (Nat.le_of_ble_eq_true rfl) rfl (Or.inl rfl) rfl rfl (fun h K => ?_)
    refine j_W.one mq_M mq_28 (by decide) (pcJ := 29) (stJ := [.ref 359]) rfl ?_
    refine j_W.one mq_M mq_29 (by decide) (pcJ := 30) (stJ := [.int 0, .ref 359]) rfl ?_
    refine j_W.putK mq_M mq_30 (ci := 10) (j := 16) (k' := [(359, .inl (10, [(u 0), .ref 360, .ref 361, (u 3), (u 4), (u 5), .ref 365, .ref 366, .ref 367, .int 0, (u 10), (u 11), (u 12), (u 13), .int (nI e), .int u15, .int 0, .int u17, .int u18, .int u19, .int u20, .long u21, (u 22), (u 23), (u 24), (u 25), (u 26), (u 27)])), (361, .inr (.inl (0, rd))), (365, .inr (.inl (0, m))), (367, .inr (.inr (.inl rn))), (360, .inr (.inl (0, nw))), (366, .inr (.inr (.inl nm)))]) rfl K rfl (Nat.le_of_ble_eq_true rfl) rfl (Or.inl rfl) rfl rfl (fun h K => ?_)
    refine j_W.one mq_M mq_33 (by decide) (pcJ := 34) (stJ := [.ref 359]) rfl ?_
    refine j_W.one mq_M mq_34 (by decide) (pcJ := 35) (stJ := [.int 0, .ref 359]) rfl ?_
    refine j_W.putK mq_M mq_35 (ci := 10) (j := 19) (k' := [(359, .inl (10, [(u 0), .ref 360, .ref 361, (u 3), (u 4), (u 5), .ref 365, .ref 366, .ref 367, .int 0, (u 10), (u 11), (u 12), (u 13), .int (nI e), .int u15, .int 0, .int u17, .int u18, .int 0, .int u20, .long u21, (u 22), (u 23), (u 24), (u 25), (u 26), (u 27)])), (361, .inr (.inl (0, rd))), (365, .inr (.inl (0, m))), (367, .inr (.inr (.inl rn))), (360, .inr (.inl (0, nw))), (366, .inr (.inr (.inl nm)))]) rfl K rfl (Nat.le_of_ble_eq_true rfl) rfl (Or.inl rfl) rfl rfl (fun h K => ?_)
    refine j_W.one mq_M mq_38 (by decide) (pcJ := 39) (stJ := [.ref 359]) rfl ?_
    refine j_W.one mq_M mq_39 (by decide) (pcJ := 40) (stJ := [.int (-1), .ref 359]) rfl ?_
    refine j_W.putK mq_M mq_40 (ci := 10) (j := 20) (k' := [(359, .inl (10, [(u 0), .ref 360, .ref 361, (u 3), (u 4), (u 5), .ref 365, .ref 366, .ref 367, .int 0, (u 10), (u 11), (u 12), (u 13), .int (nI e), .int u15, .int 0, .int u17, .int u18, .int 0, .int (-1), .long u21, (u 22), (u 23), (u 24), (u 25), (u 26), (u 27)])), (361, .inr (.inl (0, rd))), (365, .inr (.inl (0, m))), (367, .inr (.inr (.inl rn))), (360, .inr (.inl (0, nw))), (366, .inr (.inr (.inl nm)))]) rfl K rfl (Nat.le_of_ble_eq_true rfl) rfl (Or.inl rfl) rfl rfl (fun h K => ?_)
    refine j_W.one mq_M mq_43 (by decide) (pcJ := 44) (stJ := [.int 0]) rfl ?_
    refine j_W.one mq_M mq_44 (by decide) (pcJ := 45) (lv' := [(2, .int 0), (0, .ref 359), (1, .int (nI e))]) (stJ := []) rfl ?_
    refine mq_z (u := (fun j => [(u 0), .ref 360, .ref 361, (u 3), (u 4), (u 5), .ref 365, .ref 366, .ref 367, .int 0, (u 10), (u 11), (u 12), (u 13), .int (nI e), .int u15, .int 0, .int u17, .int u18, .int 0, .int (-1), .long u21, (u 22), (u 23), (u 24), (u 25), (u 26), (u 27)].getD j .null)) 602 0 rd _ rfl hr (K.sub ⟨rfl, rfl, trivial⟩) ?_
    intro h9 K9
    have K : KN h9 [(359, .inl (10, [(u 0), .ref 360, .ref 361, (u 3), (u 4), (u 5), .ref 365, .ref 366, .ref 367, .int 0, (u 10), (u 11), (u 12), (u 13), .int (nI e), .int u15, .int 0, .int u17, .int u18, .int 0, .int (-1), .long u21, (u 22), (u 23), (u 24), (u 25), (u 26), (u 27)])), (361, .inr (.inl (0, (mZ 602 0 rd)))), (365, .inr (.inl (0, m))), (367, .inr (.inr (.inl rn))), (360, .inr (.inl (0, nw))), (366, .inr (.inr (.inl nm)))] h0 := K.go K9 rfl rfl rfl
    clear K9
    have z1 : (mZ 602 0 rd).length = 602 := (mZ_len 602 0 rd).trans hr
    have z2 : (mZ 602 0 rd).getD 202 0 = 0 := mZ_at 602 0 rd hr (by omega) (Or.inl (Nat.zero_le _))
    have z3 : (mZ 602 0 rd).getD 203 0 = 0 := mZ_at 602 0 rd hr (by omega) (Or.inl (Nat.zero_le _))
    have z4 : ∀ j, j < 602 → gN (mZ 602 0 rd) j = mzV j := fun j hj => mZ_at 602 0 rd hr (by omega) (Or.inl (Nat.zero_le _))
    generalize mZ 602 0 rd = rd at z1 z2 z3 z4 K
    have K : KN h9 [(359, .inl (10, [(mu9 u 0), (mu9 u 1), .ref 361, (mu9 u 3), (mu9 u 4), (mu9 u 5), .ref 365, (mu9 u 7), .ref 367, (mu9 u 9), (mu9 u 10), (mu9 u 11), (mu9 u 12), (mu9 u 13), .int (nI e), .int ((0, u17, u15, u21, u18) : rK).2.2.1, .int (nI ((0, u17, u15, u21, u18) : rK).1), .int ((0, u17, u15, u21, u18) : rK).2.1, .int ((0, u17, u15, u21, u18) : rK).2.2.2.2, .int ((0, -1) : Int32 × Int32).1, .int ((0, -1) : Int32 × Int32).2, .long ((0, u17, u15, u21, u18) : rK).2.2.2.1, (mu9 u 22), (mu9 u 23), (mu9 u 24), (mu9 u 25), (mu9 u 26), (mu9 u 27)])), (361, .inr (.inl (0, rd))), (365, .inr (.inl (0, m))), (367, .inr (.inr (.inl rn))), (360, .inr (.inl (0, nw))), (366, .inr (.inr (.inl nm)))] h0 := K
    refine j_W.one mq_M mq_83 (by decide) (pcJ := 84) (stJ := [.ref 359]) rfl ?_
    refine j_W.call mq_M mq_84 rfl (md := 3) (mj := 185) rfl (by decide) mg_M (As := [.ref 359]) (rest := []) (jk_spl3 (K.at rfl) rfl rfl rfl (Nat.le_of_ble_eq_true rfl) (Nat.le_of_ble_eq_true rfl)) (mg_ok (u := mu9 u) (p := 0) hm he hb (Nat.zero_le _) (K.sub ⟨rfl, rfl, trivial⟩)) ?_
    rintro r h9 ⟨rfl, K9⟩
    have K : KN h9 [(359, .inl (10, [(mu9 u 0), (mu9 u 1), .ref 361, (mu9 u 3), (mu9 u 4), (mu9 u 5), .ref 365, (mu9 u 7), .ref 367, (mu9 u 9), (mu9 u 10), (mu9 u 11), (mu9 u 12), (mu9 u 13), .int (nI e), .int (mT m e ((0, u17, u15, u21, u18) : rK)).2.2.1, .int (nI (mT m e ((0, u17, u15, u21, u18) : rK)).1), .int (mT m e ((0, u17, u15, u21, u18) : rK)).2.1, .int (mT m e ((0, u17, u15, u21, u18) : rK)).2.2.2.2, .int ((0, -1) : Int32 × Int32).1, .int ((0, -1) : Int32 × Int32).2, .long (mT m e ((0, u17, u15, u21, u18) : rK)).2.2.2.1, (mu9 u 22), (mu9 u 23), (mu9 u 24), (mu9 u 25), (mu9 u 26), (mu9 u 27)])), (361, .inr (.inl (0, rd))), (365, .inr (.inl (0, m))), (367, .inr (.inr (.inl rn))), (360, .inr (.inl (0, nw))), (366, .inr (.inr (.inl nm)))] h0 := K.go K9 rfl rfl rfl
    clear K9
    show j_W jP _ 200 87 [(2, .int (nI 602)), (0, .ref 359), (1, .int (nI e))] [] h9 _
    have t1 : tR (aT l e z) (mT m e ((0, u17, u15, u21, u18) : rK)) := tR.step hR (by omega) hze.symm
    generalize mT m e ((0, u17, u15, u21, u18) : rK) = y at t1 K
    refine j_W.one mq_M mq_87 (by decide) (pcJ := 88) (stJ := [.int 1]) rfl ?_
    refine j_W.one mq_M mq_88 (by decide) (pcJ := 89) (lv' := [(2, .int 1), (0, .ref 359), (1, .int (nI e))]) (stJ := []) rfl ?_
    refine mq_l (u := mu9 u) (h0 := h9) hm he hb hR (e + 1) z s t y rd rn h9 (by omega) (by omega) t1 hS hT z1 hn (by rw [hs0]; exact z2) (by rw [ht0]; exact z3) ⟨fun i hi => by omega, fun i hi => by omega⟩ ⟨fun i hi => by omega, fun j hj => by omega, fun j hj => z4 j hj.1, fun i _ h7 => (z4 _ (by omega)).trans (if_neg (by omega))⟩ (K.sub ⟨rfl, rfl, rfl, rfl, trivial⟩) ?_
    intro h8 y' rd' rn' g F' hrel K8
    have K : KN h8 [(359, .inl (10, [(mu9 u 0), (mu9 u 1), .ref 361, (mu9 u 3), (mu9 u 4), (mu9 u 5), .ref 365, (mu9 u 7), .ref 367, (mu9 u 9), (mu9 u 10), (mu9 u 11), (mu9 u 12), (mu9 u 13), .int (nI e), .int y'.2.2.1, .int (nI y'.1), .int y'.2.1, .int y'.2.2.2.2, .int F'.1, .int F'.2, .long y'.2.2.2.1, (mu9 u 22), (mu9 u 23), (mu9 u 24), (mu9 u 25), (mu9 u 26), (mu9 u 27)])), (361, .inr (.inl (0, rd'))), (365, .inr (.inl (0, m))), (367, .inr (.inr (.inl rn'))), (360, .inr (.inl (0, nw))), (366, .inr (.inr (.inl nm)))] h0 := K.go K8 rfl rfl rfl
    clear K8
    clear t1 z1 z2 z3 z4 hS hT hs0 ht0 hr
    generalize rdL l e (-1) (e + 1) z s t = R at hrel ⊢
    obtain ⟨hrel, rfl, hr, hn⟩ := hrel
    refine j_W.one mq_M mq_108 (by decide) (pcJ := 109) (stJ := [.ref 359]) rfl ?_
    refine j_W.one mq_M mq_109 (by decide) (pcJ := 110) (stJ := [.ref 359, .ref 359]) rfl ?_
    refine j_W.getK mq_M mq_110 (ci := 10) (j := 19) rfl K rfl rfl ?_
    refine j_W.putK mq_M mq_113 (ci := 10) (j := 11) (k' := [(359, .inl (10, [(mu9 u 0), (mu9 u 1), .ref 361, (mu9 u 3), (mu9 u 4), (mu9 u 5), .ref 365, (mu9 u 7), .ref 367, (mu9 u 9), (mu9 u 10), .int R.1.1, (mu9 u 12), (mu9 u 13), .int (nI e), .int y'.2.2.1, .int (nI y'.1), .int y'.2.1, .int y'.2.2.2.2, .int R.1.1, .int R.1.2, .long y'.2.2.2.1, (mu9 u 22), (mu9 u 23), (mu9 u 24), (mu9 u 25), (mu9 u 26), (mu9 u 27)])), (361, .inr (.inl (0, rd'))), (365, .inr (.inl (0, m))), (367, .inr (.inr (.inl rn'))), (360, .inr (.inl (0, nw))), (366, .inr (.inr (.inl nm)))]) rfl K rfl (Nat.le_of_ble_eq_true rfl) rfl (Or.inl rfl) rfl rfl (fun h K => ?_)
    refine j_W.one mq_M mq_116 (by decide) (pcJ := 117) (stJ := [.ref 359]) rfl ?_
    refine j_W.one mq_M mq_117 (by decide) (pcJ := 118) (stJ := [.ref 359, .ref 359]) rfl ?_
    refine j_W.getK mq_M mq_118 (ci := 10) (j := 20) rfl K rfl rfl ?_
    refine j_W.putK mq_M mq_121 (ci := 10) (j := 12) (k' := [(359, .inl (10, [(mu9 u 0), (mu9 u 1), .ref 361, (mu9 u 3), (mu9 u 4), (mu9 u 5), .ref 365, (mu9 u 7), .ref 367, (mu9 u 9), (mu9 u 10), .int R.1.1, .int R.1.2, (mu9 u 13), .int (nI e), .int y'.2.2.1, .int (nI y'.1), .int y'.2.1, .int y'.2.2.2.2, .int R.1.1, .int R.1.2, .long y'.2.2.2.1, (mu9 u 22), (mu9 u 23), (mu9 u 24), (mu9 u 25), (mu9 u 26), (mu9 u 27)])), (361, .inr (.inl (0, rd'))), (365, .inr (.inl (0, m))), (367, .inr (.inr (.inl rn'))), (360, .inr (.inl (0, nw))), (366, .inr (.inr (.inl nm)))]) rfl K rfl (Nat.le_of_ble_eq_true rfl) rfl (Or.inl rfl) rfl rfl (fun h K => ?_)
    cases g with
    | true =>
      show j_W jP _ 200 124 [(2, .int 1), (0, .ref 359), (1, .int (nI e))] [] h _
      refine j_W.one mq_M mq_124 (by decide) (pcJ := 125) (stJ := [.int 1]) rfl ?_
      refine j_W.ifc mq_M mq_125 (t := 135) rfl (fun c => ?_) (fun c => ?_)
      · clear c
        obtain ⟨-, k1, k2, k3, k4, k5⟩ := hrel.resolve_right (fun q => Bool.noConfusion q.1)
        refine j_W.one mq_M mq_135 (by decide) (pcJ := 136) (stJ := [.ref 359]) rfl ?_
        refine j_W.call mq_M mq_136 rfl (md := 3) (mj := 199) rfl (by decide) jrr_M (As := [.ref 359]) (rest := []) (jk_spl3 (K.at rfl) rfl rfl rfl (Nat.le_of_ble_eq_true rfl) (Nat.le_of_ble_eq_true rfl)) (((jrr_ok (n := R.2.2.2.1) k4 rfl (K.at (a := 359) rfl) (K.at (a := 361) rfl) hr k3).mono (fun r h' q => (⟨q.1, by rw [q.2]; exact (K.sub (l := [(361, .inr (.inl (0, rd')))]) ⟨rfl, trivial⟩).set rfl rfl⟩ : r = none ∧ KN h' [(361, .inr (.inl (0, rr_f R.2.2.2.1 R.2.2.2.1 0 rd')))] h)))) ?_
        rintro r h9 ⟨rfl, K9⟩
        have K : KN h9 [(359, .inl (10, [(mu9 u 0), (mu9 u 1), .ref 361, (mu9 u 3), (mu9 u 4), (mu9 u 5), .ref 365, (mu9 u 7), .ref 367, (mu9 u 9), (mu9 u 10), .int R.1.1, .int R.1.2, (mu9 u 13), .int (nI e), .int y'.2.2.1, .int (nI y'.1), .int y'.2.1, .int y'.2.2.2.2, .int R.1.1, .int R.1.2, .long y'.2.2.2.1, (mu9 u 22), (mu9 u 23), (mu9 u 24), (mu9 u 25), (mu9 u 26), (mu9 u 27)])), (361, .inr (.inl (0, (rr_f R.2.2.2.1 R.2.2.2.1 0 rd')))), (365, .inr (.inl (0, m))), (367, .inr (.inr (.inl rn'))), (360, .inr (.inl (0, nw))), (366, .inr (.inr (.inl nm)))] h0 := K.go K9 rfl rfl rfl
        clear K9
        show j_W jP _ 200 139 [(2, .int 1), (0, .ref 359), (1, .int (nI e))] [] h9 _
        have g1 : (rr_f R.2.2.2.1 R.2.2.2.1 0 rd').length = 602 := (rr_f_len _ _ _ _).trans hr
        have g2 : (rr_f R.2.2.2.1 R.2.2.2.1 0 rd').getD 203 0 = nI R.2.2.2.1 := by rw [List.getD_eq_getElem?_getD, rr_f_eq k4 (i := 203) (by omega) rd' R.2.2.2.1 0 (by omega), ← List.getD_eq_getElem?_getD]; exact k3
        refine j_W.one mq_M mq_139 (by decide) (pcJ := 140) (stJ := [.ref 359]) rfl ?_
        refine j_W.getK mq_M mq_140 (ci := 10) (j := 2) rfl K rfl rfl ?_
        refine j_W.one mq_M mq_143 (by decide) (pcJ := 144) (stJ := [.ref 359, .ref 361]) rfl ?_
        refine j_W.getK mq_M mq_144 (ci := 10) (j := 1) rfl K rfl rfl ?_
        refine j_W.call mq_M mq_147 rfl (md := 2) (mj := 201) rfl (by decide) jcp_M (As := [.ref 361, .ref 360]) (rest := []) (jk_spl2 rfl rfl (Nat.le_of_ble_eq_true rfl) (Nat.le_of_ble_eq_true rfl)) (((jcp_ok _ h9 361 360 _ _ (K.at (a := 361) rfl) (K.at (a := 360) rfl) g1 hw (by decide)).mono (fun r h' q => (⟨q.1, by rw [q.2]; exact (K.sub (l := [(360, .inr (.inl (0, nw)))]) ⟨rfl, trivial⟩).set rfl rfl⟩ : r = none ∧ KN h' [(360, .inr (.inl (0, rr_f R.2.2.2.1 R.2.2.2.1 0 rd')))] h9)))) ?_
        rintro r h9 ⟨rfl, K9⟩
        have K : KN h9 [(359, .inl (10, [(mu9 u 0), (mu9 u 1), .ref 361, (mu9 u 3), (mu9 u 4), (mu9 u 5), .ref 365, (mu9 u 7), .ref 367, (mu9 u 9), (mu9 u 10), .int R.1.1, .int R.1.2, (mu9 u 13), .int (nI e), .int y'.2.2.1, .int (nI y'.1), .int y'.2.1, .int y'.2.2.2.2, .int R.1.1, .int R.1.2, .long y'.2.2.2.1, (mu9 u 22), (mu9 u 23), (mu9 u 24), (mu9 u 25), (mu9 u 26), (mu9 u 27)])), (361, .inr (.inl (0, (rr_f R.2.2.2.1 R.2.2.2.1 0 rd')))), (365, .inr (.inl (0, m))), (367, .inr (.inr (.inl rn'))), (360, .inr (.inl (0, (rr_f R.2.2.2.1 R.2.2.2.1 0 rd')))), (366, .inr (.inr (.inl nm)))] h0 := K.go K9 rfl rfl rfl
        clear K9
        show j_W jP _ 200 150 [(2, .int 1), (0, .ref 359), (1, .int (nI e))] [] h9 _
        refine j_W.one mq_M mq_150 (by decide) (pcJ := 151) (stJ := [.int 0]) rfl ?_
        refine j_W.one mq_M mq_151 (by decide) (pcJ := 152) (lv' := [(3, .int 0), (2, .int 1), (0, .ref 359), (1, .int (nI e))]) (stJ := []) rfl ?_
        refine mq_n (v := (fun j => [(mu9 u 0), (mu9 u 1), .ref 361, (mu9 u 3), (mu9 u 4), (mu9 u 5), .ref 365, (mu9 u 7), .ref 367, (mu9 u 9), (mu9 u 10), .int R.1.1, .int R.1.2, (mu9 u 13), .int (nI e), .int y'.2.2.1, .int (nI y'.1), .int y'.2.1, .int y'.2.2.2.2, .int R.1.1, .int R.1.2, .long y'.2.2.2.1, (mu9 u 22), (mu9 u 23), (mu9 u 24), (mu9 u 25), (mu9 u 26), (mu9 u 27)].getD j .null)) hn 12 0 nm _ rfl hnm (K.sub ⟨rfl, rfl, rfl, trivial⟩) ?_
        intro h7 K7
        have K : KN h7 [(359, .inl (10, [(mu9 u 0), (mu9 u 1), .ref 361, (mu9 u 3), (mu9 u 4), (mu9 u 5), .ref 365, (mu9 u 7), .ref 367, (mu9 u 9), (mu9 u 10), .int R.1.1, .int R.1.2, (mu9 u 13), .int (nI e), .int y'.2.2.1, .int (nI y'.1), .int y'.2.1, .int y'.2.2.2.2, .int R.1.1, .int R.1.2, .long y'.2.2.2.1, (mu9 u 22), (mu9 u 23), (mu9 u 24), (mu9 u 25), (mu9 u 26), (mu9 u 27)])), (361, .inr (.inl (0, (rr_f R.2.2.2.1 R.2.2.2.1 0 rd')))), (365, .inr (.inl (0, m))), (367, .inr (.inr (.inl rn'))), (360, .inr (.inl (0, (rr_f R.2.2.2.1 R.2.2.2.1 0 rd')))), (366, .inr (.inr (.inl (mM 12 0 rn' nm))))] h0 := K.go K7 rfl rfl rfl
        clear K7
        refine j_W.one mq_M mq_176 (by decide) (pcJ := 177) (stJ := [.ref 359]) rfl ?_
        refine j_W.one mq_M mq_177 (by decide) (pcJ := 178) (stJ := [.int 0, .ref 359]) rfl ?_
        refine j_W.putK mq_M mq_178 (ci := 10) (j := 13) (k' := [(359, .inl (10, [(mu9 u 0), (mu9 u 1), .ref 361, (mu9 u 3), (mu9 u 4), (mu9 u 5), .ref 365, (mu9 u 7), .ref 367, (mu9 u 9), (mu9 u 10), .int R.1.1, .int R.1.2, .int 0, .int (nI e), .int y'.2.2.1, .int (nI y'.1), .int y'.2.1, .int y'.2.2.2.2, .int R.1.1, .int R.1.2, .long y'.2.2.2.1, (mu9 u 22), (mu9 u 23), (mu9 u 24), (mu9 u 25), (mu9 u 26), (mu9 u 27)])), (361, .inr (.inl (0, (rr_f R.2.2.2.1 R.2.2.2.1 0 rd')))), (365, .inr (.inl (0, m))), (367, .inr (.inr (.inl rn'))), (360, .inr (.inl (0, (rr_f R.2.2.2.1 R.2.2.2.1 0 rd')))), (366, .inr (.inr (.inl (mM 12 0 rn' nm))))]) rfl K rfl (Nat.le_of_ble_eq_true rfl) rfl (Or.inl rfl) rfl rfl (fun h K => ?_)
        refine j_W.one mq_M mq_181 (by decide) (pcJ := 182) (stJ := [.ref 359]) rfl ?_
        refine j_W.one mq_M mq_182 (by decide) (pcJ := 183) (stJ := [.ref 359, .ref 359]) rfl ?_
        refine j_W.getK mq_M mq_183 (ci := 10) (j := 1) rfl K rfl rfl ?_
        refine j_W.one mq_M mq_186 (by decide) (pcJ := 189) (stJ := [.int 203, (mu9 u 1), .ref 359]) rfl ?_
        refine j_W.ialdK mq_M mq_189 K rfl (n := 203) (by omega) (by omega) ?_
        rw [g2]
        refine j_W.call mq_M mq_190 rfl (md := 3) (mj := 170) rfl (by decide) ml_M (As := [.ref 359, .int (nI R.2.2.2.1)]) (rest := []) (jk_spl3 (K.at rfl) rfl rfl rfl (Nat.le_of_ble_eq_true rfl) (Nat.le_of_ble_eq_true rfl)) ((ml_ok (v := (fun j => [(mu9 u 0), (mu9 u 1), .ref 361, (mu9 u 3), (mu9 u 4), (mu9 u 5), .ref 365, (mu9 u 7), .ref 367, (mu9 u 9), (mu9 u 10), .int R.1.1, .int R.1.2, .int 0, .int (nI e), .int y'.2.2.1, .int (nI y'.1), .int y'.2.1, .int y'.2.2.2.2, .int R.1.1, .int R.1.2, .long y'.2.2.2.1, (mu9 u 22), (mu9 u 23), (mu9 u 24), (mu9 u 25), (mu9 u 26), (mu9 u 27)].getD j .null)) (K.sub ⟨rfl, trivial⟩))) ?_
        rintro r h9 ⟨rfl, K9⟩
        have K : KN h9 [(359, .inl (10, [.int 0, (mu9 u 1), .ref 361, (mu9 u 3), (mu9 u 4), (mu9 u 5), .ref 365, (mu9 u 7), .ref 367, (mu9 u 9), .int 0, .int R.1.1, .int R.1.2, .int 0, .int (nI e), .int y'.2.2.1, .int (nI y'.1), .int y'.2.1, .int y'.2.2.2.2, .int R.1.1, .int R.1.2, .long y'.2.2.2.1, (mu9 u 22), (mu9 u 23), (mu9 u 24), (mu9 u 25), (mu9 u 26), (mu9 u 27)])), (361, .inr (.inl (0, (rr_f R.2.2.2.1 R.2.2.2.1 0 rd')))), (365, .inr (.inl (0, m))), (367, .inr (.inr (.inl rn'))), (360, .inr (.inl (0, (rr_f R.2.2.2.1 R.2.2.2.1 0 rd')))), (366, .inr (.inr (.inl (mM 12 0 rn' nm))))] h0 := K.go K9 rfl rfl rfl
        clear K9
        show j_W jP _ 200 193 [(3, .int (nI 12)), (2, .int 1), (0, .ref 359), (1, .int (nI e))] [.int (nI R.2.2.2.1)] h9 _
        exact j_W.ret mq_M mq_193 rfl rfl (Or.inl ⟨k1, rfl, rd', rn', _, _, _, _, _, ⟨hr, hn, k2, k3⟩, k5, K⟩)
      · exact absurd c (by decide)
    | false =>
      show j_W jP _ 200 124 [(2, .int 0), (0, .ref 359), (1, .int (nI e))] [] h _
      refine j_W.one mq_M mq_124 (by decide) (pcJ := 125) (stJ := [.int 0]) rfl ?_
      refine j_W.ifc mq_M mq_125 (t := 135) rfl (fun c => ?_) (fun c => ?_)
      · exact absurd c (by decide)
      · clear c
        obtain ⟨-, k1⟩ := hrel.resolve_left (fun q => Bool.noConfusion q.1)
        refine j_W.one mq_M mq_128 (by decide) (pcJ := 129) (stJ := [.ref 359]) rfl ?_
        refine j_W.one mq_M mq_129 (by decide) (pcJ := 131) (stJ := [.int 9, .ref 359]) rfl ?_
        refine j_W.call mq_M mq_131 rfl (md := 3) (mj := 169) rfl (by decide) mj_M (As := [.ref 359, .int 9]) (rest := []) (jk_spl3 (K.at rfl) rfl rfl rfl (Nat.le_of_ble_eq_true rfl) (Nat.le_of_ble_eq_true rfl)) ((mj_ok (v := (fun j => [(mu9 u 0), (mu9 u 1), .ref 361, (mu9 u 3), (mu9 u 4), (mu9 u 5), .ref 365, (mu9 u 7), .ref 367, (mu9 u 9), (mu9 u 10), .int R.1.1, .int R.1.2, (mu9 u 13), .int (nI e), .int y'.2.2.1, .int (nI y'.1), .int y'.2.1, .int y'.2.2.2.2, .int R.1.1, .int R.1.2, .long y'.2.2.2.1, (mu9 u 22), (mu9 u 23), (mu9 u 24), (mu9 u 25), (mu9 u 26), (mu9 u 27)].getD j .null)) (K.sub ⟨rfl, trivial⟩))) ?_
        rintro r h9 ⟨rfl, K9⟩
        have K : KN h9 [(359, .inl (10, [.int 0, (mu9 u 1), .ref 361, (mu9 u 3), (mu9 u 4), (mu9 u 5), .ref 365, (mu9 u 7), .ref 367, (mu9 u 9), .int 9, .int R.1.1, .int R.1.2, (mu9 u 13), .int (nI e), .int y'.2.2.1, .int (nI y'.1), .int y'.2.1, .int y'.2.2.2.2, .int R.1.1, .int R.1.2, .long y'.2.2.2.1, (mu9 u 22), (mu9 u 23), (mu9 u 24), (mu9 u 25), (mu9 u 26), (mu9 u 27)])), (361, .inr (.inl (0, rd'))), (365, .inr (.inl (0, m))), (367, .inr (.inr (.inl rn'))), (360, .inr (.inl (0, nw))), (366, .inr (.inr (.inl nm)))] h0 := K.go K9 rfl rfl rfl
        clear K9
        show j_W jP _ 200 134 [(2, .int 0), (0, .ref 359), (1, .int (nI e))] [.int (-1)] h9 _
        exact j_W.ret mq_M mq_134 rfl rfl (Or.inr ⟨k1, rfl, _, _, _, _, _, _, _, K⟩)
  · exact absurd c (by decide)

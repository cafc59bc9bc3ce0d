/-! the reference's drops, burden, by wip/px/gen_m12.py -/
theorem m_nIs (f : Nat) : nI (f + 1) - 1 = nI f := by rw [← nI_one]; exact Int32.add_sub_cancel _ _
theorem m_nIm (f : Nat) : nI f + (-1) = nI f - 1 := (Int32.sub_eq_add_neg _ _).symm
theorem m_nI0 {f : Nat} (h : f ≤ 1000) : ¬ nI f < 0 := by
  rw [show (0 : Int32) = nI 0 from rfl, nI_lt9 (by omega) (by omega)]
  omega
set_option maxRecDepth 100000 in
theorem mv0_M : j_meth jP 275 = some (yX10_drops, cX10_drops, 5, none, 1, false, 10) := rfl
set_option maxRecDepth 100000 in
theorem mv0_0 : j_code jP 275 0 = some (.aload_n 0) := rfl
set_option maxRecDepth 100000 in
theorem mv0_1 : j_code jP 275 1 = some (.getfield 7) := rfl
set_option maxRecDepth 100000 in
theorem mv0_4 : j_code jP 275 4 = some (.sipush 296) := rfl
set_option maxRecDepth 100000 in
theorem mv0_7 : j_code jP 275 7 = some (.iaload) := rfl
set_option maxRecDepth 100000 in
theorem mv0_8 : j_code jP 275 8 = some (.iconst 1) := rfl
set_option maxRecDepth 100000 in
theorem mv0_9 : j_code jP 275 9 = some (.isub) := rfl
set_option maxRecDepth 100000 in
theorem mv0_10 : j_code jP 275 10 = some (.istore_n 2) := rfl
set_option maxRecDepth 100000 in
theorem mv0_11 : j_code jP 275 11 = some (.iload_n 2) := rfl
set_option maxRecDepth 100000 in
theorem mv0_12 : j_code jP 275 12 = some (.ifCond .lt 34) := rfl
set_option maxRecDepth 100000 in
theorem mv0_15 : j_code jP 275 15 = some (.aload_n 0) := rfl
set_option maxRecDepth 100000 in
theorem mv0_16 : j_code jP 275 16 = some (.iload_n 2) := rfl
set_option maxRecDepth 100000 in
theorem mv0_17 : j_code jP 275 17 = some (.iconst 0) := rfl
set_option maxRecDepth 100000 in
theorem mv0_18 : j_code jP 275 18 = some (.invokevirtual 259) := rfl
set_option maxRecDepth 100000 in
theorem mv0_21 : j_code jP 275 21 = some (.iload_n 1) := rfl
set_option maxRecDepth 100000 in
theorem mv0_22 : j_code jP 275 22 = some (.if_icmp .eq 13) := rfl
set_option maxRecDepth 100000 in
theorem mv0_25 : j_code jP 275 25 = some (.aload_n 0) := rfl
set_option maxRecDepth 100000 in
theorem mv0_26 : j_code jP 275 26 = some (.iload_n 2) := rfl
set_option maxRecDepth 100000 in
theorem mv0_27 : j_code jP 275 27 = some (.iconst 2) := rfl
set_option maxRecDepth 100000 in
theorem mv0_28 : j_code jP 275 28 = some (.invokevirtual 259) := rfl
set_option maxRecDepth 100000 in
theorem mv0_31 : j_code jP 275 31 = some (.iload_n 1) := rfl
set_option maxRecDepth 100000 in
theorem mv0_32 : j_code jP 275 32 = some (.if_icmp .ne 8) := rfl
set_option maxRecDepth 100000 in
theorem mv0_35 : j_code jP 275 35 = some (.aload_n 0) := rfl
set_option maxRecDepth 100000 in
theorem mv0_36 : j_code jP 275 36 = some (.iload_n 2) := rfl
set_option maxRecDepth 100000 in
theorem mv0_37 : j_code jP 275 37 = some (.invokevirtual 353) := rfl
set_option maxRecDepth 100000 in
theorem mv0_40 : j_code jP 275 40 = some (.iinc 2 (-1)) := rfl
set_option maxRecDepth 100000 in
theorem mv0_43 : j_code jP 275 43 = some (.goto (-32)) := rfl
set_option maxRecDepth 100000 in
theorem mv0_46 : j_code jP 275 46 = some (.iconst 0) := rfl
set_option maxRecDepth 100000 in
theorem mv0_47 : j_code jP 275 47 = some (.istore_n 2) := rfl
set_option maxRecDepth 100000 in
theorem mv0_48 : j_code jP 275 48 = some (.iload_n 2) := rfl
set_option maxRecDepth 100000 in
theorem mv0_49 : j_code jP 275 49 = some (.aload_n 0) := rfl
set_option maxRecDepth 100000 in
theorem mv0_50 : j_code jP 275 50 = some (.getfield 7) := rfl
set_option maxRecDepth 100000 in
theorem mv0_53 : j_code jP 275 53 = some (.sipush 296) := rfl
set_option maxRecDepth 100000 in
theorem mv0_56 : j_code jP 275 56 = some (.iaload) := rfl
set_option maxRecDepth 100000 in
theorem mv0_57 : j_code jP 275 57 = some (.if_icmp .ge 71) := rfl
set_option maxRecDepth 100000 in
theorem mv0_60 : j_code jP 275 60 = some (.aload_n 0) := rfl
set_option maxRecDepth 100000 in
theorem mv0_61 : j_code jP 275 61 = some (.getfield 7) := rfl
set_option maxRecDepth 100000 in
theorem mv0_64 : j_code jP 275 64 = some (.sipush 297) := rfl
set_option maxRecDepth 100000 in
theorem mv0_67 : j_code jP 275 67 = some (.iconst 3) := rfl
set_option maxRecDepth 100000 in
theorem mv0_68 : j_code jP 275 68 = some (.iload_n 2) := rfl
set_option maxRecDepth 100000 in
theorem mv0_69 : j_code jP 275 69 = some (.imul) := rfl
set_option maxRecDepth 100000 in
theorem mv0_70 : j_code jP 275 70 = some (.iadd) := rfl
set_option maxRecDepth 100000 in
theorem mv0_71 : j_code jP 275 71 = some (.dup2) := rfl
set_option maxRecDepth 100000 in
theorem mv0_72 : j_code jP 275 72 = some (.iaload) := rfl
set_option maxRecDepth 100000 in
theorem mv0_73 : j_code jP 275 73 = some (.aload_n 0) := rfl
set_option maxRecDepth 100000 in
theorem mv0_74 : j_code jP 275 74 = some (.iload_n 2) := rfl
set_option maxRecDepth 100000 in
theorem mv0_75 : j_code jP 275 75 = some (.iconst 0) := rfl
set_option maxRecDepth 100000 in
theorem mv0_76 : j_code jP 275 76 = some (.invokevirtual 259) := rfl
set_option maxRecDepth 100000 in
theorem mv0_79 : j_code jP 275 79 = some (.iload_n 1) := rfl
set_option maxRecDepth 100000 in
theorem mv0_80 : j_code jP 275 80 = some (.if_icmp .le 7) := rfl
set_option maxRecDepth 100000 in
theorem mv0_83 : j_code jP 275 83 = some (.iconst 1) := rfl
set_option maxRecDepth 100000 in
theorem mv0_84 : j_code jP 275 84 = some (.goto 4) := rfl
set_option maxRecDepth 100000 in
theorem mv0_87 : j_code jP 275 87 = some (.iconst 0) := rfl
set_option maxRecDepth 100000 in
theorem mv0_88 : j_code jP 275 88 = some (.isub) := rfl
set_option maxRecDepth 100000 in
theorem mv0_89 : j_code jP 275 89 = some (.iastore) := rfl
set_option maxRecDepth 100000 in
theorem mv0_90 : j_code jP 275 90 = some (.aload_n 0) := rfl
set_option maxRecDepth 100000 in
theorem mv0_91 : j_code jP 275 91 = some (.getfield 7) := rfl
set_option maxRecDepth 100000 in
theorem mv0_94 : j_code jP 275 94 = some (.sipush 297) := rfl
set_option maxRecDepth 100000 in
theorem mv0_97 : j_code jP 275 97 = some (.iconst 3) := rfl
set_option maxRecDepth 100000 in
theorem mv0_98 : j_code jP 275 98 = some (.iload_n 2) := rfl
set_option maxRecDepth 100000 in
theorem mv0_99 : j_code jP 275 99 = some (.imul) := rfl
set_option maxRecDepth 100000 in
theorem mv0_100 : j_code jP 275 100 = some (.iadd) := rfl
set_option maxRecDepth 100000 in
theorem mv0_101 : j_code jP 275 101 = some (.iconst 2) := rfl
set_option maxRecDepth 100000 in
theorem mv0_102 : j_code jP 275 102 = some (.iadd) := rfl
set_option maxRecDepth 100000 in
theorem mv0_103 : j_code jP 275 103 = some (.dup2) := rfl
set_option maxRecDepth 100000 in
theorem mv0_104 : j_code jP 275 104 = some (.iaload) := rfl
set_option maxRecDepth 100000 in
theorem mv0_105 : j_code jP 275 105 = some (.aload_n 0) := rfl
set_option maxRecDepth 100000 in
theorem mv0_106 : j_code jP 275 106 = some (.iload_n 2) := rfl
set_option maxRecDepth 100000 in
theorem mv0_107 : j_code jP 275 107 = some (.iconst 2) := rfl
set_option maxRecDepth 100000 in
theorem mv0_108 : j_code jP 275 108 = some (.invokevirtual 259) := rfl
set_option maxRecDepth 100000 in
theorem mv0_111 : j_code jP 275 111 = some (.iload_n 1) := rfl
set_option maxRecDepth 100000 in
theorem mv0_112 : j_code jP 275 112 = some (.if_icmp .le 7) := rfl
set_option maxRecDepth 100000 in
theorem mv0_115 : j_code jP 275 115 = some (.iconst 1) := rfl
set_option maxRecDepth 100000 in
theorem mv0_116 : j_code jP 275 116 = some (.goto 4) := rfl
set_option maxRecDepth 100000 in
theorem mv0_119 : j_code jP 275 119 = some (.iconst 0) := rfl
set_option maxRecDepth 100000 in
theorem mv0_120 : j_code jP 275 120 = some (.isub) := rfl
set_option maxRecDepth 100000 in
theorem mv0_121 : j_code jP 275 121 = some (.iastore) := rfl
set_option maxRecDepth 100000 in
theorem mv0_122 : j_code jP 275 122 = some (.iinc 2 1) := rfl
set_option maxRecDepth 100000 in
theorem mv0_125 : j_code jP 275 125 = some (.goto (-77)) := rfl
set_option maxRecDepth 100000 in
theorem mv0_128 : j_code jP 275 128 = some (.aload_n 0) := rfl
set_option maxRecDepth 100000 in
theorem mv0_129 : j_code jP 275 129 = some (.getfield 7) := rfl
set_option maxRecDepth 100000 in
theorem mv0_132 : j_code jP 275 132 = some (.sipush 203) := rfl
set_option maxRecDepth 100000 in
theorem mv0_135 : j_code jP 275 135 = some (.iaload) := rfl
set_option maxRecDepth 100000 in
theorem mv0_136 : j_code jP 275 136 = some (.istore_n 2) := rfl
set_option maxRecDepth 100000 in
theorem mv0_137 : j_code jP 275 137 = some (.aload_n 0) := rfl
set_option maxRecDepth 100000 in
theorem mv0_138 : j_code jP 275 138 = some (.iload_n 1) := rfl
set_option maxRecDepth 100000 in
theorem mv0_139 : j_code jP 275 139 = some (.invokevirtual 317) := rfl
set_option maxRecDepth 100000 in
theorem mv0_142 : j_code jP 275 142 = some (.istore_n 3) := rfl
set_option maxRecDepth 100000 in
theorem mv0_143 : j_code jP 275 143 = some (.iload_n 3) := rfl
set_option maxRecDepth 100000 in
theorem mv0_144 : j_code jP 275 144 = some (.istore 4) := rfl
set_option maxRecDepth 100000 in
theorem mv0_146 : j_code jP 275 146 = some (.iload 4) := rfl
set_option maxRecDepth 100000 in
theorem mv0_148 : j_code jP 275 148 = some (.iconst 1) := rfl
set_option maxRecDepth 100000 in
theorem mv0_149 : j_code jP 275 149 = some (.iadd) := rfl
set_option maxRecDepth 100000 in
theorem mv0_150 : j_code jP 275 150 = some (.iload_n 2) := rfl
set_option maxRecDepth 100000 in
theorem mv0_151 : j_code jP 275 151 = some (.if_icmp .ge 33) := rfl
set_option maxRecDepth 100000 in
theorem mv0_154 : j_code jP 275 154 = some (.aload_n 0) := rfl
set_option maxRecDepth 100000 in
theorem mv0_155 : j_code jP 275 155 = some (.getfield 7) := rfl
set_option maxRecDepth 100000 in
theorem mv0_158 : j_code jP 275 158 = some (.sipush 196) := rfl
set_option maxRecDepth 100000 in
theorem mv0_161 : j_code jP 275 161 = some (.iload 4) := rfl
set_option maxRecDepth 100000 in
theorem mv0_163 : j_code jP 275 163 = some (.iadd) := rfl
set_option maxRecDepth 100000 in
theorem mv0_164 : j_code jP 275 164 = some (.aload_n 0) := rfl
set_option maxRecDepth 100000 in
theorem mv0_165 : j_code jP 275 165 = some (.getfield 7) := rfl
set_option maxRecDepth 100000 in
theorem mv0_168 : j_code jP 275 168 = some (.sipush 196) := rfl
set_option maxRecDepth 100000 in
theorem mv0_171 : j_code jP 275 171 = some (.iload 4) := rfl
set_option maxRecDepth 100000 in
theorem mv0_173 : j_code jP 275 173 = some (.iadd) := rfl
set_option maxRecDepth 100000 in
theorem mv0_174 : j_code jP 275 174 = some (.iconst 1) := rfl
set_option maxRecDepth 100000 in
theorem mv0_175 : j_code jP 275 175 = some (.iadd) := rfl
set_option maxRecDepth 100000 in
theorem mv0_176 : j_code jP 275 176 = some (.iaload) := rfl
set_option maxRecDepth 100000 in
theorem mv0_177 : j_code jP 275 177 = some (.iastore) := rfl
set_option maxRecDepth 100000 in
theorem mv0_178 : j_code jP 275 178 = some (.iinc 4 1) := rfl
set_option maxRecDepth 100000 in
theorem mv0_181 : j_code jP 275 181 = some (.goto (-35)) := rfl
set_option maxRecDepth 100000 in
theorem mv0_184 : j_code jP 275 184 = some (.iconst 0) := rfl
set_option maxRecDepth 100000 in
theorem mv0_185 : j_code jP 275 185 = some (.istore 4) := rfl
set_option maxRecDepth 100000 in
theorem mv0_187 : j_code jP 275 187 = some (.iload 4) := rfl
set_option maxRecDepth 100000 in
theorem mv0_189 : j_code jP 275 189 = some (.iconst 1) := rfl
set_option maxRecDepth 100000 in
theorem mv0_190 : j_code jP 275 190 = some (.iadd) := rfl
set_option maxRecDepth 100000 in
theorem mv0_191 : j_code jP 275 191 = some (.iload_n 2) := rfl
set_option maxRecDepth 100000 in
theorem mv0_192 : j_code jP 275 192 = some (.if_icmp .ge 43) := rfl
set_option maxRecDepth 100000 in
theorem mv0_195 : j_code jP 275 195 = some (.aload_n 0) := rfl
set_option maxRecDepth 100000 in
theorem mv0_196 : j_code jP 275 196 = some (.getfield 7) := rfl
set_option maxRecDepth 100000 in
theorem mv0_199 : j_code jP 275 199 = some (.sipush 196) := rfl
set_option maxRecDepth 100000 in
theorem mv0_202 : j_code jP 275 202 = some (.iload 4) := rfl
set_option maxRecDepth 100000 in
theorem mv0_204 : j_code jP 275 204 = some (.iadd) := rfl
set_option maxRecDepth 100000 in
theorem mv0_205 : j_code jP 275 205 = some (.dup2) := rfl
set_option maxRecDepth 100000 in
theorem mv0_206 : j_code jP 275 206 = some (.iaload) := rfl
set_option maxRecDepth 100000 in
theorem mv0_207 : j_code jP 275 207 = some (.aload_n 0) := rfl
set_option maxRecDepth 100000 in
theorem mv0_208 : j_code jP 275 208 = some (.getfield 7) := rfl
set_option maxRecDepth 100000 in
theorem mv0_211 : j_code jP 275 211 = some (.sipush 196) := rfl
set_option maxRecDepth 100000 in
theorem mv0_214 : j_code jP 275 214 = some (.iload 4) := rfl
set_option maxRecDepth 100000 in
theorem mv0_216 : j_code jP 275 216 = some (.iadd) := rfl
set_option maxRecDepth 100000 in
theorem mv0_217 : j_code jP 275 217 = some (.iaload) := rfl
set_option maxRecDepth 100000 in
theorem mv0_218 : j_code jP 275 218 = some (.iload_n 1) := rfl
set_option maxRecDepth 100000 in
theorem mv0_219 : j_code jP 275 219 = some (.if_icmp .le 7) := rfl
set_option maxRecDepth 100000 in
theorem mv0_222 : j_code jP 275 222 = some (.iconst 1) := rfl
set_option maxRecDepth 100000 in
theorem mv0_223 : j_code jP 275 223 = some (.goto 4) := rfl
set_option maxRecDepth 100000 in
theorem mv0_226 : j_code jP 275 226 = some (.iconst 0) := rfl
set_option maxRecDepth 100000 in
theorem mv0_227 : j_code jP 275 227 = some (.isub) := rfl
set_option maxRecDepth 100000 in
theorem mv0_228 : j_code jP 275 228 = some (.iastore) := rfl
set_option maxRecDepth 100000 in
theorem mv0_229 : j_code jP 275 229 = some (.iinc 4 1) := rfl
set_option maxRecDepth 100000 in
theorem mv0_232 : j_code jP 275 232 = some (.goto (-45)) := rfl
set_option maxRecDepth 100000 in
theorem mv0_235 : j_code jP 275 235 = some (.iload_n 1) := rfl
set_option maxRecDepth 100000 in
theorem mv0_236 : j_code jP 275 236 = some (.iconst 0) := rfl
set_option maxRecDepth 100000 in
theorem mv0_237 : j_code jP 275 237 = some (.invokestatic 73) := rfl
set_option maxRecDepth 100000 in
theorem mv0_240 : j_code jP 275 240 = some (.istore 4) := rfl
set_option maxRecDepth 100000 in
theorem mv0_242 : j_code jP 275 242 = some (.iload 4) := rfl
set_option maxRecDepth 100000 in
theorem mv0_244 : j_code jP 275 244 = some (.bipush 28) := rfl
set_option maxRecDepth 100000 in
theorem mv0_246 : j_code jP 275 246 = some (.iadd) := rfl
set_option maxRecDepth 100000 in
theorem mv0_247 : j_code jP 275 247 = some (.iconst 5) := rfl
set_option maxRecDepth 100000 in
theorem mv0_248 : j_code jP 275 248 = some (.iconst 0) := rfl
set_option maxRecDepth 100000 in
theorem mv0_249 : j_code jP 275 249 = some (.invokestatic 73) := rfl
set_option maxRecDepth 100000 in
theorem mv0_252 : j_code jP 275 252 = some (.if_icmp .ge 26) := rfl
set_option maxRecDepth 100000 in
theorem mv0_255 : j_code jP 275 255 = some (.aload_n 0) := rfl
set_option maxRecDepth 100000 in
theorem mv0_256 : j_code jP 275 256 = some (.getfield 7) := rfl
set_option maxRecDepth 100000 in
theorem mv0_259 : j_code jP 275 259 = some (.iload 4) := rfl
set_option maxRecDepth 100000 in
theorem mv0_261 : j_code jP 275 261 = some (.aload_n 0) := rfl
set_option maxRecDepth 100000 in
theorem mv0_262 : j_code jP 275 262 = some (.getfield 7) := rfl
set_option maxRecDepth 100000 in
theorem mv0_265 : j_code jP 275 265 = some (.iload 4) := rfl
set_option maxRecDepth 100000 in
theorem mv0_267 : j_code jP 275 267 = some (.bipush 28) := rfl
set_option maxRecDepth 100000 in
theorem mv0_269 : j_code jP 275 269 = some (.iadd) := rfl
set_option maxRecDepth 100000 in
theorem mv0_270 : j_code jP 275 270 = some (.iaload) := rfl
set_option maxRecDepth 100000 in
theorem mv0_271 : j_code jP 275 271 = some (.iastore) := rfl
set_option maxRecDepth 100000 in
theorem mv0_272 : j_code jP 275 272 = some (.iinc 4 1) := rfl
set_option maxRecDepth 100000 in
theorem mv0_275 : j_code jP 275 275 = some (.goto (-33)) := rfl
set_option maxRecDepth 100000 in
theorem mv0_278 : j_code jP 275 278 = some (.aload_n 0) := rfl
set_option maxRecDepth 100000 in
theorem mv0_279 : j_code jP 275 279 = some (.getfield 7) := rfl
set_option maxRecDepth 100000 in
theorem mv0_282 : j_code jP 275 282 = some (.sipush 203) := rfl
set_option maxRecDepth 100000 in
theorem mv0_285 : j_code jP 275 285 = some (.dup2) := rfl
set_option maxRecDepth 100000 in
theorem mv0_286 : j_code jP 275 286 = some (.iaload) := rfl
set_option maxRecDepth 100000 in
theorem mv0_287 : j_code jP 275 287 = some (.iconst 1) := rfl
set_option maxRecDepth 100000 in
theorem mv0_288 : j_code jP 275 288 = some (.isub) := rfl
set_option maxRecDepth 100000 in
theorem mv0_289 : j_code jP 275 289 = some (.iastore) := rfl
set_option maxRecDepth 100000 in
theorem mv0_290 : j_code jP 275 290 = some (.return_) := rfl
def m_drA (x1 : Int32) : Nat → List Int32 → List Int32
  | 0, w => w
  | f + 1, w => (if (m_link0 w (nI f) 0) = x1 then (m_drA x1 f ((m_dropsLink w (nI f)))) else (if (m_link0 w (nI f) 2) = x1 then (m_drA x1 f ((m_dropsLink w (nI f)))) else (m_drA x1 f w)))
set_option maxRecDepth 1000000 in
theorem mv0_ok_l11 {u : Nat → Value} {d : Nat} {h0 : J_H} {th sst acs tm x1 : Int32} {sd ot kp tk od be : List Int32} {Q : Option Value → J_H → Prop} : ∀ (f : Nat) (w : List Int32) {lv : J_L} {h : J_H}, f ≤ 10 → LK lv [(0, .ref 359), (1, .int x1), (2, .int (nI f - 1))] → KN h [(359, .inl (10, [.int th, .ref 360, .ref 361, .ref 362, .ref 363, .ref 364, .ref 365, .ref 366, .ref 367, (u 9), .int sst, (u 11), (u 12), .int acs, (u 14), (u 15), (u 16), (u 17), (u 18), (u 19), (u 20), (u 21), .ref 368, .int tm, .ref 369, .ref 370, .ref 371, (u 27)])), (360, .inr (.inl (0, w))), (362, .inr (.inl (0, sd))), (363, .inr (.inl (0, ot))), (364, .inr (.inl (0, kp))), (368, .inr (.inl (0, tk))), (369, .inr (.inl (0, od))), (370, .inr (.inl (0, be)))] h0 → (∀ lv h, LK lv [(0, .ref 359), (1, .int x1)] → KN h [(359, .inl (10, [.int th, .ref 360, .ref 361, .ref 362, .ref 363, .ref 364, .ref 365, .ref 366, .ref 367, (u 9), .int sst, (u 11), (u 12), .int acs, (u 14), (u 15), (u 16), (u 17), (u 18), (u 19), (u 20), (u 21), .ref 368, .int tm, .ref 369, .ref 370, .ref 371, (u 27)])), (360, .inr (.inl (0, (m_drA x1 f w)))), (362, .inr (.inl (0, sd))), (363, .inr (.inl (0, ot))), (364, .inr (.inl (0, kp))), (368, .inr (.inl (0, tk))), (369, .inr (.inl (0, od))), (370, .inr (.inl (0, be)))] h0 → j_V jP d 275 46 lv [] h Q) → j_V jP d 275 11 lv [] h Q := by
  intro f
  induction f with
  | zero =>
    intro  w lv h e L K kk
    refine j_V.ldL mv0_M mv0_11 rfl (i := 2) (kd := 0) (v := .int (nI 0 - 1)) (pcJ := 12) rfl L rfl rfl rfl ?_
    refine j_V.ifc mv0_M mv0_12 (t := 46) rfl (fun c12_0 => ?_) (fun c12_0 => ?_)
    · replace c12_0 : (nI 0 - 1) < 0 := jd_lt c12_0
      exact kk _ _ (L.sub ⟨rfl, rfl, trivial⟩) K
    · replace c12_0 : ¬ ((nI 0 - 1) < 0) := jd_ltn c12_0
      exact absurd (show (nI 0 - 1 : Int32) < 0 by decide) c12_0
  | succ f ih =>
    intro  w lv h e L K kk
    rw [m_nIs] at L
    refine j_V.ldL mv0_M mv0_11 rfl (i := 2) (kd := 0) (v := .int (nI f)) (pcJ := 12) rfl L rfl rfl rfl ?_
    refine j_V.ifc mv0_M mv0_12 (t := 46) rfl (fun c12_0 => ?_) (fun c12_0 => ?_)
    · replace c12_0 : (nI f) < 0 := jd_lt c12_0
      exact absurd c12_0 (m_nI0 (by omega))
    · replace c12_0 : ¬ ((nI f) < 0) := jd_ltn c12_0
      refine j_V.ldL mv0_M mv0_15 rfl (i := 0) (kd := 2) (v := .ref 359) (pcJ := 16) rfl L rfl rfl rfl ?_
      refine j_V.ldL mv0_M mv0_16 rfl (i := 2) (kd := 0) (v := .int (nI f)) (pcJ := 17) rfl L rfl rfl rfl ?_
      refine j_V.one mv0_M mv0_17 (by decide) (pcJ := 18) (stJ := [.int 0, .int (nI f), .ref 359]) rfl ?_
      refine j_V.cl mv0_M mv0_18 rfl (md := 3) (mj := 224) rfl (by decide) mb9_M (As := [.ref 359, .int (nI f), .int 0]) (rest := []) (jk_spl3 (K.at rfl) rfl rfl rfl (Nat.le_of_ble_eq_true rfl) (Nat.le_of_ble_eq_true rfl)) (fun d => mb9_ok (u := fun j => [.int th, .ref 360, .ref 361, .ref 362, .ref 363, .ref 364, .ref 365, .ref 366, .ref 367, (u 9), .int sst, (u 11), (u 12), .int acs, (u 14), (u 15), (u 16), (u 17), (u 18), (u 19), (u 20), (u 21), .ref 368, .int tm, .ref 369, .ref 370, .ref 371, (u 27)].getD j .null) (K.fi [359, 360] rfl rfl)) ?_
      rintro r hz ⟨rfl, ez⟩
      rw [ez]
      clear ez
      show j_V jP _ 275 21 lv [.int (m_link0 w (nI f) 0)] h _
      refine j_V.ldL mv0_M mv0_21 rfl (i := 1) (kd := 0) (v := .int x1) (pcJ := 22) rfl L rfl rfl rfl ?_
      refine j_V.icmp mv0_M mv0_22 (t := 35) rfl (fun c22_0 => ?_) (fun c22_0 => ?_)
      · replace c22_0 : (m_link0 w (nI f) 0) = x1 := jd_eq c22_0
        refine j_V.ldL mv0_M mv0_35 rfl (i := 0) (kd := 2) (v := .ref 359) (pcJ := 36) rfl L rfl rfl rfl ?_
        refine j_V.ldL mv0_M mv0_36 rfl (i := 2) (kd := 0) (v := .int (nI f)) (pcJ := 37) rfl L rfl rfl rfl ?_
        refine j_V.cl mv0_M mv0_37 rfl (md := 3) (mj := 274) rfl (by decide) mo9_M (As := [.ref 359, .int (nI f)]) (rest := []) (jk_spl3 (K.at rfl) rfl rfl rfl (Nat.le_of_ble_eq_true rfl) (Nat.le_of_ble_eq_true rfl)) (fun d => mo9_ok (u := fun j => [.int th, .ref 360, .ref 361, .ref 362, .ref 363, .ref 364, .ref 365, .ref 366, .ref 367, (u 9), .int sst, (u 11), (u 12), .int acs, (u 14), (u 15), (u 16), (u 17), (u 18), (u 19), (u 20), (u 21), .ref 368, .int tm, .ref 369, .ref 370, .ref 371, (u 27)].getD j .null) (K.fi [359, 360] rfl rfl)) ?_
        rintro r h9 ⟨rfl, K9⟩
        have K : KN h9 [(359, .inl (10, [.int th, .ref 360, .ref 361, .ref 362, .ref 363, .ref 364, .ref 365, .ref 366, .ref 367, (u 9), .int sst, (u 11), (u 12), .int acs, (u 14), (u 15), (u 16), (u 17), (u 18), (u 19), (u 20), (u 21), .ref 368, .int tm, .ref 369, .ref 370, .ref 371, (u 27)])), (360, .inr (.inl (0, ((m_dropsLink w (nI f)))))), (362, .inr (.inl (0, sd))), (363, .inr (.inl (0, ot))), (364, .inr (.inl (0, kp))), (368, .inr (.inl (0, tk))), (369, .inr (.inl (0, od))), (370, .inr (.inl (0, be)))] h0 := K.mg K9 rfl rfl
        clear K9
        show j_V jP _ 275 40 lv [] h9 _
        refine j_V.inL mv0_M mv0_40 (i := 2) (kl' := [(0, .ref 359), (1, .int x1), (2, .int ((nI f) + (-1)))]) (pcJ := 43) L rfl rfl rfl rfl (fun lv L => ?_)
        refine j_V.gto mv0_M mv0_43 (t := 11) rfl ?_
        rw [m_nIm] at L
        rw [show (m_drA x1 (f + 1) w) = (m_drA x1 f ((m_dropsLink w (nI f)))) from (if_pos c22_0).trans (rfl)] at kk
        exact ih  _ (by omega) L K kk
      · replace c22_0 : ¬ ((m_link0 w (nI f) 0) = x1) := jd_eqn c22_0
        refine j_V.ldL mv0_M mv0_25 rfl (i := 0) (kd := 2) (v := .ref 359) (pcJ := 26) rfl L rfl rfl rfl ?_
        refine j_V.ldL mv0_M mv0_26 rfl (i := 2) (kd := 0) (v := .int (nI f)) (pcJ := 27) rfl L rfl rfl rfl ?_
        refine j_V.one mv0_M mv0_27 (by decide) (pcJ := 28) (stJ := [.int 2, .int (nI f), .ref 359]) rfl ?_
        refine j_V.cl mv0_M mv0_28 rfl (md := 3) (mj := 224) rfl (by decide) mb9_M (As := [.ref 359, .int (nI f), .int 2]) (rest := []) (jk_spl3 (K.at rfl) rfl rfl rfl (Nat.le_of_ble_eq_true rfl) (Nat.le_of_ble_eq_true rfl)) (fun d => mb9_ok (u := fun j => [.int th, .ref 360, .ref 361, .ref 362, .ref 363, .ref 364, .ref 365, .ref 366, .ref 367, (u 9), .int sst, (u 11), (u 12), .int acs, (u 14), (u 15), (u 16), (u 17), (u 18), (u 19), (u 20), (u 21), .ref 368, .int tm, .ref 369, .ref 370, .ref 371, (u 27)].getD j .null) (K.fi [359, 360] rfl rfl)) ?_
        rintro r hz ⟨rfl, ez⟩
        rw [ez]
        clear ez
        show j_V jP _ 275 31 lv [.int (m_link0 w (nI f) 2)] h _
        refine j_V.ldL mv0_M mv0_31 rfl (i := 1) (kd := 0) (v := .int x1) (pcJ := 32) rfl L rfl rfl rfl ?_
        refine j_V.icmp mv0_M mv0_32 (t := 40) rfl (fun c32_1 => ?_) (fun c32_1 => ?_)
        · replace c32_1 : ¬ ((m_link0 w (nI f) 2) = x1) := jd_ne c32_1
          refine j_V.inL mv0_M mv0_40 (i := 2) (kl' := [(0, .ref 359), (1, .int x1), (2, .int ((nI f) + (-1)))]) (pcJ := 43) L rfl rfl rfl rfl (fun lv L => ?_)
          refine j_V.gto mv0_M mv0_43 (t := 11) rfl ?_
          rw [m_nIm] at L
          rw [show (m_drA x1 (f + 1) w) = (m_drA x1 f w) from (if_neg c22_0).trans ((if_neg c32_1).trans (rfl))] at kk
          exact ih  _ (by omega) L K kk
        · replace c32_1 : (m_link0 w (nI f) 2) = x1 := jd_nen c32_1
          refine j_V.ldL mv0_M mv0_35 rfl (i := 0) (kd := 2) (v := .ref 359) (pcJ := 36) rfl L rfl rfl rfl ?_
          refine j_V.ldL mv0_M mv0_36 rfl (i := 2) (kd := 0) (v := .int (nI f)) (pcJ := 37) rfl L rfl rfl rfl ?_
          refine j_V.cl mv0_M mv0_37 rfl (md := 3) (mj := 274) rfl (by decide) mo9_M (As := [.ref 359, .int (nI f)]) (rest := []) (jk_spl3 (K.at rfl) rfl rfl rfl (Nat.le_of_ble_eq_true rfl) (Nat.le_of_ble_eq_true rfl)) (fun d => mo9_ok (u := fun j => [.int th, .ref 360, .ref 361, .ref 362, .ref 363, .ref 364, .ref 365, .ref 366, .ref 367, (u 9), .int sst, (u 11), (u 12), .int acs, (u 14), (u 15), (u 16), (u 17), (u 18), (u 19), (u 20), (u 21), .ref 368, .int tm, .ref 369, .ref 370, .ref 371, (u 27)].getD j .null) (K.fi [359, 360] rfl rfl)) ?_
          rintro r h9 ⟨rfl, K9⟩
          have K : KN h9 [(359, .inl (10, [.int th, .ref 360, .ref 361, .ref 362, .ref 363, .ref 364, .ref 365, .ref 366, .ref 367, (u 9), .int sst, (u 11), (u 12), .int acs, (u 14), (u 15), (u 16), (u 17), (u 18), (u 19), (u 20), (u 21), .ref 368, .int tm, .ref 369, .ref 370, .ref 371, (u 27)])), (360, .inr (.inl (0, ((m_dropsLink w (nI f)))))), (362, .inr (.inl (0, sd))), (363, .inr (.inl (0, ot))), (364, .inr (.inl (0, kp))), (368, .inr (.inl (0, tk))), (369, .inr (.inl (0, od))), (370, .inr (.inl (0, be)))] h0 := K.mg K9 rfl rfl
          clear K9
          show j_V jP _ 275 40 lv [] h9 _
          refine j_V.inL mv0_M mv0_40 (i := 2) (kl' := [(0, .ref 359), (1, .int x1), (2, .int ((nI f) + (-1)))]) (pcJ := 43) L rfl rfl rfl rfl (fun lv L => ?_)
          refine j_V.gto mv0_M mv0_43 (t := 11) rfl ?_
          rw [m_nIm] at L
          rw [show (m_drA x1 (f + 1) w) = (m_drA x1 f ((m_dropsLink w (nI f)))) from (if_neg c22_0).trans ((if_pos c32_1).trans (rfl))] at kk
          exact ih  _ (by omega) L K kk
def m_drB (x1 : Int32) : Nat → Nat → List Int32 → List Int32
  | 0, i, w => w
  | f + 1, i, w => (m_drB x1 f (i + 1) (sA (sA w (297 + (3 * (nI i))) ((gA w (297 + (3 * (nI i)))) - ((if x1 < (m_link0 w (nI i) 0) then 1 else 0) : Int32))) ((297 + (3 * (nI i))) + 2) ((gA (sA w (297 + (3 * (nI i))) ((gA w (297 + (3 * (nI i)))) - ((if x1 < (m_link0 w (nI i) 0) then 1 else 0) : Int32))) ((297 + (3 * (nI i))) + 2)) - ((if x1 < (m_link0 (sA w (297 + (3 * (nI i))) ((gA w (297 + (3 * (nI i)))) - ((if x1 < (m_link0 w (nI i) 0) then 1 else 0) : Int32))) (nI i) 2) then 1 else 0) : Int32))))
set_option maxRecDepth 1000000 in
theorem mv0_ok_l48 {u : Nat → Value} {d : Nat} {h0 : J_H} {th sst acs tm x1 : Int32} {sd ot kp tk od be : List Int32} {Q : Option Value → J_H → Prop} {m : Nat} {P : List Int32 → Prop} (hm : m ≤ 10) (hP1 : ∀ w, P w → gA w 296 = nI m) (hP2 : ∀ w i, i < m → P w → P (sA (sA w (297 + (3 * (nI i))) ((gA w (297 + (3 * (nI i)))) - ((if x1 < (m_link0 w (nI i) 0) then 1 else 0) : Int32))) ((297 + (3 * (nI i))) + 2) ((gA (sA w (297 + (3 * (nI i))) ((gA w (297 + (3 * (nI i)))) - ((if x1 < (m_link0 w (nI i) 0) then 1 else 0) : Int32))) ((297 + (3 * (nI i))) + 2)) - ((if x1 < (m_link0 (sA w (297 + (3 * (nI i))) ((gA w (297 + (3 * (nI i)))) - ((if x1 < (m_link0 w (nI i) 0) then 1 else 0) : Int32))) (nI i) 2) then 1 else 0) : Int32)))) : ∀ (f : Nat) (i : Nat) (w : List Int32) {lv : J_L} {h : J_H}, i + f = m → P w → LK lv [(0, .ref 359), (1, .int x1), (2, .int (nI i))] → KN h [(359, .inl (10, [.int th, .ref 360, .ref 361, .ref 362, .ref 363, .ref 364, .ref 365, .ref 366, .ref 367, (u 9), .int sst, (u 11), (u 12), .int acs, (u 14), (u 15), (u 16), (u 17), (u 18), (u 19), (u 20), (u 21), .ref 368, .int tm, .ref 369, .ref 370, .ref 371, (u 27)])), (360, .inr (.inl (0, w))), (362, .inr (.inl (0, sd))), (363, .inr (.inl (0, ot))), (364, .inr (.inl (0, kp))), (368, .inr (.inl (0, tk))), (369, .inr (.inl (0, od))), (370, .inr (.inl (0, be)))] h0 → (∀ lv h, LK lv [(0, .ref 359), (1, .int x1)] → KN h [(359, .inl (10, [.int th, .ref 360, .ref 361, .ref 362, .ref 363, .ref 364, .ref 365, .ref 366, .ref 367, (u 9), .int sst, (u 11), (u 12), .int acs, (u 14), (u 15), (u 16), (u 17), (u 18), (u 19), (u 20), (u 21), .ref 368, .int tm, .ref 369, .ref 370, .ref 371, (u 27)])), (360, .inr (.inl (0, (m_drB x1 f i w)))), (362, .inr (.inl (0, sd))), (363, .inr (.inl (0, ot))), (364, .inr (.inl (0, kp))), (368, .inr (.inl (0, tk))), (369, .inr (.inl (0, od))), (370, .inr (.inl (0, be)))] h0 → j_V jP d 275 128 lv [] h Q) → j_V jP d 275 48 lv [] h Q := by
  intro f
  induction f with
  | zero =>
    intro i w lv h e hP L K kk
    refine j_V.ldL mv0_M mv0_48 rfl (i := 2) (kd := 0) (v := .int (nI i)) (pcJ := 49) rfl L rfl rfl rfl ?_
    refine j_V.ldL mv0_M mv0_49 rfl (i := 0) (kd := 2) (v := .ref 359) (pcJ := 50) rfl L rfl rfl rfl ?_
    refine j_V.getK mv0_M mv0_50 (ci := 10) (j := 1) rfl K rfl rfl ?_
    refine j_V.one mv0_M mv0_53 (by decide) (pcJ := 56) (stJ := [.int 296, .ref 360, .int (nI i)]) rfl ?_
    refine j_V.iaA mv0_M mv0_56 K rfl ?_
    refine j_V.icmp mv0_M mv0_57 (t := 128) rfl (fun c57_0 => ?_) (fun c57_0 => ?_)
    · replace c57_0 : ¬ ((nI i) < (gA w 296)) := jd_ge c57_0
      exact kk _ _ (L.sub ⟨rfl, rfl, trivial⟩) K
    · replace c57_0 : (nI i) < (gA w 296) := jd_gen c57_0
      exact absurd c57_0 (by rw [hP1 _ hP, nI_lt9 (by omega) (by omega)]; omega)
  | succ f ih =>
    intro i w lv h e hP L K kk
    refine j_V.ldL mv0_M mv0_48 rfl (i := 2) (kd := 0) (v := .int (nI i)) (pcJ := 49) rfl L rfl rfl rfl ?_
    refine j_V.ldL mv0_M mv0_49 rfl (i := 0) (kd := 2) (v := .ref 359) (pcJ := 50) rfl L rfl rfl rfl ?_
    refine j_V.getK mv0_M mv0_50 (ci := 10) (j := 1) rfl K rfl rfl ?_
    refine j_V.one mv0_M mv0_53 (by decide) (pcJ := 56) (stJ := [.int 296, .ref 360, .int (nI i)]) rfl ?_
    refine j_V.iaA mv0_M mv0_56 K rfl ?_
    refine j_V.icmp mv0_M mv0_57 (t := 128) rfl (fun c57_0 => ?_) (fun c57_0 => ?_)
    · replace c57_0 : ¬ ((nI i) < (gA w 296)) := jd_ge c57_0
      exact absurd (show nI i < gA w 296 by rw [hP1 _ hP, nI_lt9 (by omega) (by omega)]; omega) c57_0
    · replace c57_0 : (nI i) < (gA w 296) := jd_gen c57_0
      refine j_V.ldL mv0_M mv0_60 rfl (i := 0) (kd := 2) (v := .ref 359) (pcJ := 61) rfl L rfl rfl rfl ?_
      refine j_V.getK mv0_M mv0_61 (ci := 10) (j := 1) rfl K rfl rfl ?_
      refine j_V.one mv0_M mv0_64 (by decide) (pcJ := 67) (stJ := [.int 297, .ref 360]) rfl ?_
      refine j_V.one mv0_M mv0_67 (by decide) (pcJ := 68) (stJ := [.int 3, .int 297, .ref 360]) rfl ?_
      refine j_V.ldL mv0_M mv0_68 rfl (i := 2) (kd := 0) (v := .int (nI i)) (pcJ := 69) rfl L rfl rfl rfl ?_
      refine j_V.one mv0_M mv0_69 (by decide) (pcJ := 70) (stJ := [.int (3 * (nI i)), .int 297, .ref 360]) rfl ?_
      refine j_V.one mv0_M mv0_70 (by decide) (pcJ := 71) (stJ := [.int (297 + (3 * (nI i))), .ref 360]) rfl ?_
      refine j_V.one mv0_M mv0_71 (by decide) (pcJ := 72) (stJ := [.int (297 + (3 * (nI i))), .ref 360, .int (297 + (3 * (nI i))), .ref 360]) rfl ?_
      refine j_V.iaA mv0_M mv0_72 K rfl ?_
      refine j_V.ldL mv0_M mv0_73 rfl (i := 0) (kd := 2) (v := .ref 359) (pcJ := 74) rfl L rfl rfl rfl ?_
      refine j_V.ldL mv0_M mv0_74 rfl (i := 2) (kd := 0) (v := .int (nI i)) (pcJ := 75) rfl L rfl rfl rfl ?_
      refine j_V.one mv0_M mv0_75 (by decide) (pcJ := 76) (stJ := [.int 0, .int (nI i), .ref 359, .int (gA w (297 + (3 * (nI i)))), .int (297 + (3 * (nI i))), .ref 360]) rfl ?_
      refine j_V.cl mv0_M mv0_76 rfl (md := 3) (mj := 224) rfl (by decide) mb9_M (As := [.ref 359, .int (nI i), .int 0]) (rest := [.int (gA w (297 + (3 * (nI i)))), .int (297 + (3 * (nI i))), .ref 360]) (jk_spl3 (K.at rfl) rfl rfl rfl (Nat.le_of_ble_eq_true rfl) (Nat.le_of_ble_eq_true rfl)) (fun d => mb9_ok (u := fun j => [.int th, .ref 360, .ref 361, .ref 362, .ref 363, .ref 364, .ref 365, .ref 366, .ref 367, (u 9), .int sst, (u 11), (u 12), .int acs, (u 14), (u 15), (u 16), (u 17), (u 18), (u 19), (u 20), (u 21), .ref 368, .int tm, .ref 369, .ref 370, .ref 371, (u 27)].getD j .null) (K.fi [359, 360] rfl rfl)) ?_
      rintro r hz ⟨rfl, ez⟩
      rw [ez]
      clear ez
      show j_V jP _ 275 79 lv [.int (m_link0 w (nI i) 0), .int (gA w (297 + (3 * (nI i)))), .int (297 + (3 * (nI i))), .ref 360] h _
      refine j_V.ldL mv0_M mv0_79 rfl (i := 1) (kd := 0) (v := .int x1) (pcJ := 80) rfl L rfl rfl rfl ?_
      refine j_V.cut (b := 88) (stJ := [.int ((if x1 < (m_link0 w (nI i) 0) then 1 else 0) : Int32), .int (gA w (297 + (3 * (nI i)))), .int (297 + (3 * (nI i))), .ref 360]) (fun v => [(0, .ref 359), (1, .int x1), (2, .int (nI i))]) ((if x1 < (m_link0 w (nI i) 0) then 1 else 0) : Int32) (fun Q kk => ?_) (fun lv L => ?_)
      · refine j_V.icmp mv0_M mv0_80 (t := 87) rfl (fun c80_0 => ?_) (fun c80_0 => ?_)
        · replace c80_0 : ¬ (x1 < (m_link0 w (nI i) 0)) := jd_le c80_0
          refine j_V.one mv0_M mv0_87 (by decide) (pcJ := 88) (stJ := [.int 0, .int (gA w (297 + (3 * (nI i)))), .int (297 + (3 * (nI i))), .ref 360]) rfl ?_
          exact Eq.subst (motive := fun z => j_V jP _ 275 88 _ (.int z :: [.int (gA w (297 + (3 * (nI i)))), .int (297 + (3 * (nI i))), .ref 360]) h Q) (show ((if x1 < (m_link0 w (nI i) 0) then 1 else 0) : Int32) = 0 from (if_neg c80_0).trans (rfl)) (kk _ L)
        · replace c80_0 : x1 < (m_link0 w (nI i) 0) := jd_len c80_0
          refine j_V.one mv0_M mv0_83 (by decide) (pcJ := 84) (stJ := [.int 1, .int (gA w (297 + (3 * (nI i)))), .int (297 + (3 * (nI i))), .ref 360]) rfl ?_
          refine j_V.gto mv0_M mv0_84 (t := 88) rfl ?_
          exact Eq.subst (motive := fun z => j_V jP _ 275 88 _ (.int z :: [.int (gA w (297 + (3 * (nI i)))), .int (297 + (3 * (nI i))), .ref 360]) h Q) (show ((if x1 < (m_link0 w (nI i) 0) then 1 else 0) : Int32) = 1 from (if_pos c80_0).trans (rfl)) (kk _ L)
      refine j_V.one mv0_M mv0_88 (by decide) (pcJ := 89) (stJ := [.int ((gA w (297 + (3 * (nI i)))) - ((if x1 < (m_link0 w (nI i) 0) then 1 else 0) : Int32)), .int (297 + (3 * (nI i))), .ref 360]) rfl ?_
      refine j_V.isA mv0_M mv0_89 (k' := [(359, .inl (10, [.int th, .ref 360, .ref 361, .ref 362, .ref 363, .ref 364, .ref 365, .ref 366, .ref 367, (u 9), .int sst, (u 11), (u 12), .int acs, (u 14), (u 15), (u 16), (u 17), (u 18), (u 19), (u 20), (u 21), .ref 368, .int tm, .ref 369, .ref 370, .ref 371, (u 27)])), (360, .inr (.inl (0, (sA w (297 + (3 * (nI i))) ((gA w (297 + (3 * (nI i)))) - ((if x1 < (m_link0 w (nI i) 0) then 1 else 0) : Int32)))))), (362, .inr (.inl (0, sd))), (363, .inr (.inl (0, ot))), (364, .inr (.inl (0, kp))), (368, .inr (.inl (0, tk))), (369, .inr (.inl (0, od))), (370, .inr (.inl (0, be)))]) K rfl rfl (fun h K => ?_)
      refine j_V.ldL mv0_M mv0_90 rfl (i := 0) (kd := 2) (v := .ref 359) (pcJ := 91) rfl L rfl rfl rfl ?_
      refine j_V.getK mv0_M mv0_91 (ci := 10) (j := 1) rfl K rfl rfl ?_
      refine j_V.one mv0_M mv0_94 (by decide) (pcJ := 97) (stJ := [.int 297, .ref 360]) rfl ?_
      refine j_V.one mv0_M mv0_97 (by decide) (pcJ := 98) (stJ := [.int 3, .int 297, .ref 360]) rfl ?_
      refine j_V.ldL mv0_M mv0_98 rfl (i := 2) (kd := 0) (v := .int (nI i)) (pcJ := 99) rfl L rfl rfl rfl ?_
      refine j_V.one mv0_M mv0_99 (by decide) (pcJ := 100) (stJ := [.int (3 * (nI i)), .int 297, .ref 360]) rfl ?_
      refine j_V.one mv0_M mv0_100 (by decide) (pcJ := 101) (stJ := [.int (297 + (3 * (nI i))), .ref 360]) rfl ?_
      refine j_V.one mv0_M mv0_101 (by decide) (pcJ := 102) (stJ := [.int 2, .int (297 + (3 * (nI i))), .ref 360]) rfl ?_
      refine j_V.one mv0_M mv0_102 (by decide) (pcJ := 103) (stJ := [.int ((297 + (3 * (nI i))) + 2), .ref 360]) rfl ?_
      refine j_V.one mv0_M mv0_103 (by decide) (pcJ := 104) (stJ := [.int ((297 + (3 * (nI i))) + 2), .ref 360, .int ((297 + (3 * (nI i))) + 2), .ref 360]) rfl ?_
      refine j_V.iaA mv0_M mv0_104 K rfl ?_
      refine j_V.ldL mv0_M mv0_105 rfl (i := 0) (kd := 2) (v := .ref 359) (pcJ := 106) rfl L rfl rfl rfl ?_
      refine j_V.ldL mv0_M mv0_106 rfl (i := 2) (kd := 0) (v := .int (nI i)) (pcJ := 107) rfl L rfl rfl rfl ?_
      refine j_V.one mv0_M mv0_107 (by decide) (pcJ := 108) (stJ := [.int 2, .int (nI i), .ref 359, .int (gA (sA w (297 + (3 * (nI i))) ((gA w (297 + (3 * (nI i)))) - ((if x1 < (m_link0 w (nI i) 0) then 1 else 0) : Int32))) ((297 + (3 * (nI i))) + 2)), .int ((297 + (3 * (nI i))) + 2), .ref 360]) rfl ?_
      refine j_V.cl mv0_M mv0_108 rfl (md := 3) (mj := 224) rfl (by decide) mb9_M (As := [.ref 359, .int (nI i), .int 2]) (rest := [.int (gA (sA w (297 + (3 * (nI i))) ((gA w (297 + (3 * (nI i)))) - ((if x1 < (m_link0 w (nI i) 0) then 1 else 0) : Int32))) ((297 + (3 * (nI i))) + 2)), .int ((297 + (3 * (nI i))) + 2), .ref 360]) (jk_spl3 (K.at rfl) rfl rfl rfl (Nat.le_of_ble_eq_true rfl) (Nat.le_of_ble_eq_true rfl)) (fun d => mb9_ok (u := fun j => [.int th, .ref 360, .ref 361, .ref 362, .ref 363, .ref 364, .ref 365, .ref 366, .ref 367, (u 9), .int sst, (u 11), (u 12), .int acs, (u 14), (u 15), (u 16), (u 17), (u 18), (u 19), (u 20), (u 21), .ref 368, .int tm, .ref 369, .ref 370, .ref 371, (u 27)].getD j .null) (K.fi [359, 360] rfl rfl)) ?_
      rintro r hz ⟨rfl, ez⟩
      rw [ez]
      clear ez
      show j_V jP _ 275 111 lv [.int (m_link0 (sA w (297 + (3 * (nI i))) ((gA w (297 + (3 * (nI i)))) - ((if x1 < (m_link0 w (nI i) 0) then 1 else 0) : Int32))) (nI i) 2), .int (gA (sA w (297 + (3 * (nI i))) ((gA w (297 + (3 * (nI i)))) - ((if x1 < (m_link0 w (nI i) 0) then 1 else 0) : Int32))) ((297 + (3 * (nI i))) + 2)), .int ((297 + (3 * (nI i))) + 2), .ref 360] h _
      refine j_V.ldL mv0_M mv0_111 rfl (i := 1) (kd := 0) (v := .int x1) (pcJ := 112) rfl L rfl rfl rfl ?_
      refine j_V.cut (b := 120) (stJ := [.int ((if x1 < (m_link0 (sA w (297 + (3 * (nI i))) ((gA w (297 + (3 * (nI i)))) - ((if x1 < (m_link0 w (nI i) 0) then 1 else 0) : Int32))) (nI i) 2) then 1 else 0) : Int32), .int (gA (sA w (297 + (3 * (nI i))) ((gA w (297 + (3 * (nI i)))) - ((if x1 < (m_link0 w (nI i) 0) then 1 else 0) : Int32))) ((297 + (3 * (nI i))) + 2)), .int ((297 + (3 * (nI i))) + 2), .ref 360]) (fun v => [(0, .ref 359), (1, .int x1), (2, .int (nI i))]) ((if x1 < (m_link0 (sA w (297 + (3 * (nI i))) ((gA w (297 + (3 * (nI i)))) - ((if x1 < (m_link0 w (nI i) 0) then 1 else 0) : Int32))) (nI i) 2) then 1 else 0) : Int32) (fun Q kk => ?_) (fun lv L => ?_)
      · refine j_V.icmp mv0_M mv0_112 (t := 119) rfl (fun c112_0 => ?_) (fun c112_0 => ?_)
        · replace c112_0 : ¬ (x1 < (m_link0 (sA w (297 + (3 * (nI i))) ((gA w (297 + (3 * (nI i)))) - ((if x1 < (m_link0 w (nI i) 0) then 1 else 0) : Int32))) (nI i) 2)) := jd_le c112_0
          refine j_V.one mv0_M mv0_119 (by decide) (pcJ := 120) (stJ := [.int 0, .int (gA (sA w (297 + (3 * (nI i))) ((gA w (297 + (3 * (nI i)))) - ((if x1 < (m_link0 w (nI i) 0) then 1 else 0) : Int32))) ((297 + (3 * (nI i))) + 2)), .int ((297 + (3 * (nI i))) + 2), .ref 360]) rfl ?_
          exact Eq.subst (motive := fun z => j_V jP _ 275 120 _ (.int z :: [.int (gA (sA w (297 + (3 * (nI i))) ((gA w (297 + (3 * (nI i)))) - ((if x1 < (m_link0 w (nI i) 0) then 1 else 0) : Int32))) ((297 + (3 * (nI i))) + 2)), .int ((297 + (3 * (nI i))) + 2), .ref 360]) h Q) (show ((if x1 < (m_link0 (sA w (297 + (3 * (nI i))) ((gA w (297 + (3 * (nI i)))) - ((if x1 < (m_link0 w (nI i) 0) then 1 else 0) : Int32))) (nI i) 2) then 1 else 0) : Int32) = 0 from (if_neg c112_0).trans (rfl)) (kk _ L)
        · replace c112_0 : x1 < (m_link0 (sA w (297 + (3 * (nI i))) ((gA w (297 + (3 * (nI i)))) - ((if x1 < (m_link0 w (nI i) 0) then 1 else 0) : Int32))) (nI i) 2) := jd_len c112_0
          refine j_V.one mv0_M mv0_115 (by decide) (pcJ := 116) (stJ := [.int 1, .int (gA (sA w (297 + (3 * (nI i))) ((gA w (297 + (3 * (nI i)))) - ((if x1 < (m_link0 w (nI i) 0) then 1 else 0) : Int32))) ((297 + (3 * (nI i))) + 2)), .int ((297 + (3 * (nI i))) + 2), .ref 360]) rfl ?_
          refine j_V.gto mv0_M mv0_116 (t := 120) rfl ?_
          exact Eq.subst (motive := fun z => j_V jP _ 275 120 _ (.int z :: [.int (gA (sA w (297 + (3 * (nI i))) ((gA w (297 + (3 * (nI i)))) - ((if x1 < (m_link0 w (nI i) 0) then 1 else 0) : Int32))) ((297 + (3 * (nI i))) + 2)), .int ((297 + (3 * (nI i))) + 2), .ref 360]) h Q) (show ((if x1 < (m_link0 (sA w (297 + (3 * (nI i))) ((gA w (297 + (3 * (nI i)))) - ((if x1 < (m_link0 w (nI i) 0) then 1 else 0) : Int32))) (nI i) 2) then 1 else 0) : Int32) = 1 from (if_pos c112_0).trans (rfl)) (kk _ L)
      refine j_V.one mv0_M mv0_120 (by decide) (pcJ := 121) (stJ := [.int ((gA (sA w (297 + (3 * (nI i))) ((gA w (297 + (3 * (nI i)))) - ((if x1 < (m_link0 w (nI i) 0) then 1 else 0) : Int32))) ((297 + (3 * (nI i))) + 2)) - ((if x1 < (m_link0 (sA w (297 + (3 * (nI i))) ((gA w (297 + (3 * (nI i)))) - ((if x1 < (m_link0 w (nI i) 0) then 1 else 0) : Int32))) (nI i) 2) then 1 else 0) : Int32)), .int ((297 + (3 * (nI i))) + 2), .ref 360]) rfl ?_
      refine j_V.isA mv0_M mv0_121 (k' := [(359, .inl (10, [.int th, .ref 360, .ref 361, .ref 362, .ref 363, .ref 364, .ref 365, .ref 366, .ref 367, (u 9), .int sst, (u 11), (u 12), .int acs, (u 14), (u 15), (u 16), (u 17), (u 18), (u 19), (u 20), (u 21), .ref 368, .int tm, .ref 369, .ref 370, .ref 371, (u 27)])), (360, .inr (.inl (0, (sA (sA w (297 + (3 * (nI i))) ((gA w (297 + (3 * (nI i)))) - ((if x1 < (m_link0 w (nI i) 0) then 1 else 0) : Int32))) ((297 + (3 * (nI i))) + 2) ((gA (sA w (297 + (3 * (nI i))) ((gA w (297 + (3 * (nI i)))) - ((if x1 < (m_link0 w (nI i) 0) then 1 else 0) : Int32))) ((297 + (3 * (nI i))) + 2)) - ((if x1 < (m_link0 (sA w (297 + (3 * (nI i))) ((gA w (297 + (3 * (nI i)))) - ((if x1 < (m_link0 w (nI i) 0) then 1 else 0) : Int32))) (nI i) 2) then 1 else 0) : Int32)))))), (362, .inr (.inl (0, sd))), (363, .inr (.inl (0, ot))), (364, .inr (.inl (0, kp))), (368, .inr (.inl (0, tk))), (369, .inr (.inl (0, od))), (370, .inr (.inl (0, be)))]) K rfl rfl (fun h K => ?_)
      refine j_V.inL mv0_M mv0_122 (i := 2) (kl' := [(0, .ref 359), (1, .int x1), (2, .int ((nI i) + 1))]) (pcJ := 125) L rfl rfl rfl rfl (fun lv L => ?_)
      refine j_V.gto mv0_M mv0_125 (t := 48) rfl ?_
      rw [nI_one] at L
      rw [show (m_drB x1 (f + 1) i w) = (m_drB x1 f (i + 1) (sA (sA w (297 + (3 * (nI i))) ((gA w (297 + (3 * (nI i)))) - ((if x1 < (m_link0 w (nI i) 0) then 1 else 0) : Int32))) ((297 + (3 * (nI i))) + 2) ((gA (sA w (297 + (3 * (nI i))) ((gA w (297 + (3 * (nI i)))) - ((if x1 < (m_link0 w (nI i) 0) then 1 else 0) : Int32))) ((297 + (3 * (nI i))) + 2)) - ((if x1 < (m_link0 (sA w (297 + (3 * (nI i))) ((gA w (297 + (3 * (nI i)))) - ((if x1 < (m_link0 w (nI i) 0) then 1 else 0) : Int32))) (nI i) 2) then 1 else 0) : Int32)))) from rfl] at kk
      exact ih (i + 1) _ (by omega) (show P (sA (sA w (297 + (3 * (nI i))) ((gA w (297 + (3 * (nI i)))) - ((if x1 < (m_link0 w (nI i) 0) then 1 else 0) : Int32))) ((297 + (3 * (nI i))) + 2) ((gA (sA w (297 + (3 * (nI i))) ((gA w (297 + (3 * (nI i)))) - ((if x1 < (m_link0 w (nI i) 0) then 1 else 0) : Int32))) ((297 + (3 * (nI i))) + 2)) - ((if x1 < (m_link0 (sA w (297 + (3 * (nI i))) ((gA w (297 + (3 * (nI i)))) - ((if x1 < (m_link0 w (nI i) 0) then 1 else 0) : Int32))) (nI i) 2) then 1 else 0) : Int32))) from hP2 w i (by omega) hP) L K kk
def m_drC : Nat → Int32 → List Int32 → List Int32
  | 0, v4, w => w
  | f + 1, v4, w => (m_drC f (v4 + 1) (sA w (196 + v4) (gA w ((196 + v4) + 1))))
set_option maxRecDepth 1000000 in
theorem mv0_ok_l146 {u : Nat → Value} {d : Nat} {h0 : J_H} {th sst acs tm x1 v2 : Int32} {sd ot kp tk od be : List Int32} {Q : Option Value → J_H → Prop} : ∀ (f : Nat) (v4 : Int32) (w : List Int32) {lv : J_L} {h : J_H}, lpN v2 (v4 + 1) = f → LK lv [(0, .ref 359), (1, .int x1), (2, .int v2), (4, .int v4)] → KN h [(359, .inl (10, [.int th, .ref 360, .ref 361, .ref 362, .ref 363, .ref 364, .ref 365, .ref 366, .ref 367, (u 9), .int sst, (u 11), (u 12), .int acs, (u 14), (u 15), (u 16), (u 17), (u 18), (u 19), (u 20), (u 21), .ref 368, .int tm, .ref 369, .ref 370, .ref 371, (u 27)])), (360, .inr (.inl (0, w))), (362, .inr (.inl (0, sd))), (363, .inr (.inl (0, ot))), (364, .inr (.inl (0, kp))), (368, .inr (.inl (0, tk))), (369, .inr (.inl (0, od))), (370, .inr (.inl (0, be)))] h0 → (∀ lv h, LK lv [(0, .ref 359), (1, .int x1), (2, .int v2)] → KN h [(359, .inl (10, [.int th, .ref 360, .ref 361, .ref 362, .ref 363, .ref 364, .ref 365, .ref 366, .ref 367, (u 9), .int sst, (u 11), (u 12), .int acs, (u 14), (u 15), (u 16), (u 17), (u 18), (u 19), (u 20), (u 21), .ref 368, .int tm, .ref 369, .ref 370, .ref 371, (u 27)])), (360, .inr (.inl (0, (m_drC f v4 w)))), (362, .inr (.inl (0, sd))), (363, .inr (.inl (0, ot))), (364, .inr (.inl (0, kp))), (368, .inr (.inl (0, tk))), (369, .inr (.inl (0, od))), (370, .inr (.inl (0, be)))] h0 → j_V jP d 275 184 lv [] h Q) → j_V jP d 275 146 lv [] h Q := by
  intro f
  induction f with
  | zero =>
    intro v4 w lv h e L K kk
    refine j_V.ldL mv0_M mv0_146 rfl (i := 4) (kd := 0) (v := .int v4) (pcJ := 148) rfl L rfl rfl rfl ?_
    refine j_V.one mv0_M mv0_148 (by decide) (pcJ := 149) (stJ := [.int 1, .int v4]) rfl ?_
    refine j_V.one mv0_M mv0_149 (by decide) (pcJ := 150) (stJ := [.int (v4 + 1)]) rfl ?_
    refine j_V.ldL mv0_M mv0_150 rfl (i := 2) (kd := 0) (v := .int v2) (pcJ := 151) rfl L rfl rfl rfl ?_
    refine j_V.icmp mv0_M mv0_151 (t := 184) rfl (fun c151_0 => ?_) (fun c151_0 => ?_)
    · replace c151_0 : ¬ ((v4 + 1) < v2) := jd_ge c151_0
      exact kk _ _ (L.sub ⟨rfl, rfl, rfl, trivial⟩) K
    · replace c151_0 : (v4 + 1) < v2 := jd_gen c151_0
      exact absurd c151_0 (lpN_z e)
  | succ f ih =>
    intro v4 w lv h e L K kk
    refine j_V.ldL mv0_M mv0_146 rfl (i := 4) (kd := 0) (v := .int v4) (pcJ := 148) rfl L rfl rfl rfl ?_
    refine j_V.one mv0_M mv0_148 (by decide) (pcJ := 149) (stJ := [.int 1, .int v4]) rfl ?_
    refine j_V.one mv0_M mv0_149 (by decide) (pcJ := 150) (stJ := [.int (v4 + 1)]) rfl ?_
    refine j_V.ldL mv0_M mv0_150 rfl (i := 2) (kd := 0) (v := .int v2) (pcJ := 151) rfl L rfl rfl rfl ?_
    refine j_V.icmp mv0_M mv0_151 (t := 184) rfl (fun c151_0 => ?_) (fun c151_0 => ?_)
    · replace c151_0 : ¬ ((v4 + 1) < v2) := jd_ge c151_0
      exact absurd (lpN_s e) c151_0
    · replace c151_0 : (v4 + 1) < v2 := jd_gen c151_0
      refine j_V.ldL mv0_M mv0_154 rfl (i := 0) (kd := 2) (v := .ref 359) (pcJ := 155) rfl L rfl rfl rfl ?_
      refine j_V.getK mv0_M mv0_155 (ci := 10) (j := 1) rfl K rfl rfl ?_
      refine j_V.one mv0_M mv0_158 (by decide) (pcJ := 161) (stJ := [.int 196, .ref 360]) rfl ?_
      refine j_V.ldL mv0_M mv0_161 rfl (i := 4) (kd := 0) (v := .int v4) (pcJ := 163) rfl L rfl rfl rfl ?_
      refine j_V.one mv0_M mv0_163 (by decide) (pcJ := 164) (stJ := [.int (196 + v4), .ref 360]) rfl ?_
      refine j_V.ldL mv0_M mv0_164 rfl (i := 0) (kd := 2) (v := .ref 359) (pcJ := 165) rfl L rfl rfl rfl ?_
      refine j_V.getK mv0_M mv0_165 (ci := 10) (j := 1) rfl K rfl rfl ?_
      refine j_V.one mv0_M mv0_168 (by decide) (pcJ := 171) (stJ := [.int 196, .ref 360, .int (196 + v4), .ref 360]) rfl ?_
      refine j_V.ldL mv0_M mv0_171 rfl (i := 4) (kd := 0) (v := .int v4) (pcJ := 173) rfl L rfl rfl rfl ?_
      refine j_V.one mv0_M mv0_173 (by decide) (pcJ := 174) (stJ := [.int (196 + v4), .ref 360, .int (196 + v4), .ref 360]) rfl ?_
      refine j_V.one mv0_M mv0_174 (by decide) (pcJ := 175) (stJ := [.int 1, .int (196 + v4), .ref 360, .int (196 + v4), .ref 360]) rfl ?_
      refine j_V.one mv0_M mv0_175 (by decide) (pcJ := 176) (stJ := [.int ((196 + v4) + 1), .ref 360, .int (196 + v4), .ref 360]) rfl ?_
      refine j_V.iaA mv0_M mv0_176 K rfl ?_
      refine j_V.isA mv0_M mv0_177 (k' := [(359, .inl (10, [.int th, .ref 360, .ref 361, .ref 362, .ref 363, .ref 364, .ref 365, .ref 366, .ref 367, (u 9), .int sst, (u 11), (u 12), .int acs, (u 14), (u 15), (u 16), (u 17), (u 18), (u 19), (u 20), (u 21), .ref 368, .int tm, .ref 369, .ref 370, .ref 371, (u 27)])), (360, .inr (.inl (0, (sA w (196 + v4) (gA w ((196 + v4) + 1)))))), (362, .inr (.inl (0, sd))), (363, .inr (.inl (0, ot))), (364, .inr (.inl (0, kp))), (368, .inr (.inl (0, tk))), (369, .inr (.inl (0, od))), (370, .inr (.inl (0, be)))]) K rfl rfl (fun h K => ?_)
      refine j_V.inL mv0_M mv0_178 (i := 4) (kl' := [(0, .ref 359), (1, .int x1), (2, .int v2), (4, .int (v4 + 1))]) (pcJ := 181) L rfl rfl rfl rfl (fun lv L => ?_)
      refine j_V.gto mv0_M mv0_181 (t := 146) rfl ?_
      rw [show (m_drC (f + 1) v4 w) = (m_drC f (v4 + 1) (sA w (196 + v4) (gA w ((196 + v4) + 1)))) from rfl] at kk
      exact ih (v4 + 1) _ (lpN_o e) L K kk
def m_drD (x1 : Int32) : Nat → Int32 → List Int32 → List Int32
  | 0, v4, w => w
  | f + 1, v4, w => (m_drD x1 f (v4 + 1) (sA w (196 + v4) ((gA w (196 + v4)) - ((if x1 < (gA w (196 + v4)) then 1 else 0) : Int32))))
set_option maxRecDepth 1000000 in
theorem mv0_ok_l187 {u : Nat → Value} {d : Nat} {h0 : J_H} {th sst acs tm x1 v2 : Int32} {sd ot kp tk od be : List Int32} {Q : Option Value → J_H → Prop} : ∀ (f : Nat) (v4 : Int32) (w : List Int32) {lv : J_L} {h : J_H}, lpN v2 (v4 + 1) = f → LK lv [(0, .ref 359), (1, .int x1), (2, .int v2), (4, .int v4)] → KN h [(359, .inl (10, [.int th, .ref 360, .ref 361, .ref 362, .ref 363, .ref 364, .ref 365, .ref 366, .ref 367, (u 9), .int sst, (u 11), (u 12), .int acs, (u 14), (u 15), (u 16), (u 17), (u 18), (u 19), (u 20), (u 21), .ref 368, .int tm, .ref 369, .ref 370, .ref 371, (u 27)])), (360, .inr (.inl (0, w))), (362, .inr (.inl (0, sd))), (363, .inr (.inl (0, ot))), (364, .inr (.inl (0, kp))), (368, .inr (.inl (0, tk))), (369, .inr (.inl (0, od))), (370, .inr (.inl (0, be)))] h0 → (∀ lv h, LK lv [(0, .ref 359), (1, .int x1), (2, .int v2)] → KN h [(359, .inl (10, [.int th, .ref 360, .ref 361, .ref 362, .ref 363, .ref 364, .ref 365, .ref 366, .ref 367, (u 9), .int sst, (u 11), (u 12), .int acs, (u 14), (u 15), (u 16), (u 17), (u 18), (u 19), (u 20), (u 21), .ref 368, .int tm, .ref 369, .ref 370, .ref 371, (u 27)])), (360, .inr (.inl (0, (m_drD x1 f v4 w)))), (362, .inr (.inl (0, sd))), (363, .inr (.inl (0, ot))), (364, .inr (.inl (0, kp))), (368, .inr (.inl (0, tk))), (369, .inr (.inl (0, od))), (370, .inr (.inl (0, be)))] h0 → j_V jP d 275 235 lv [] h Q) → j_V jP d 275 187 lv [] h Q := by
  intro f
  induction f with
  | zero =>
    intro v4 w lv h e L K kk
    refine j_V.ldL mv0_M mv0_187 rfl (i := 4) (kd := 0) (v := .int v4) (pcJ := 189) rfl L rfl rfl rfl ?_
    refine j_V.one mv0_M mv0_189 (by decide) (pcJ := 190) (stJ := [.int 1, .int v4]) rfl ?_
    refine j_V.one mv0_M mv0_190 (by decide) (pcJ := 191) (stJ := [.int (v4 + 1)]) rfl ?_
    refine j_V.ldL mv0_M mv0_191 rfl (i := 2) (kd := 0) (v := .int v2) (pcJ := 192) rfl L rfl rfl rfl ?_
    refine j_V.icmp mv0_M mv0_192 (t := 235) rfl (fun c192_0 => ?_) (fun c192_0 => ?_)
    · replace c192_0 : ¬ ((v4 + 1) < v2) := jd_ge c192_0
      exact kk _ _ (L.sub ⟨rfl, rfl, rfl, trivial⟩) K
    · replace c192_0 : (v4 + 1) < v2 := jd_gen c192_0
      exact absurd c192_0 (lpN_z e)
  | succ f ih =>
    intro v4 w lv h e L K kk
    refine j_V.ldL mv0_M mv0_187 rfl (i := 4) (kd := 0) (v := .int v4) (pcJ := 189) rfl L rfl rfl rfl ?_
    refine j_V.one mv0_M mv0_189 (by decide) (pcJ := 190) (stJ := [.int 1, .int v4]) rfl ?_
    refine j_V.one mv0_M mv0_190 (by decide) (pcJ := 191) (stJ := [.int (v4 + 1)]) rfl ?_
    refine j_V.ldL mv0_M mv0_191 rfl (i := 2) (kd := 0) (v := .int v2) (pcJ := 192) rfl L rfl rfl rfl ?_
    refine j_V.icmp mv0_M mv0_192 (t := 235) rfl (fun c192_0 => ?_) (fun c192_0 => ?_)
    · replace c192_0 : ¬ ((v4 + 1) < v2) := jd_ge c192_0
      exact absurd (lpN_s e) c192_0
    · replace c192_0 : (v4 + 1) < v2 := jd_gen c192_0
      refine j_V.ldL mv0_M mv0_195 rfl (i := 0) (kd := 2) (v := .ref 359) (pcJ := 196) rfl L rfl rfl rfl ?_
      refine j_V.getK mv0_M mv0_196 (ci := 10) (j := 1) rfl K rfl rfl ?_
      refine j_V.one mv0_M mv0_199 (by decide) (pcJ := 202) (stJ := [.int 196, .ref 360]) rfl ?_
      refine j_V.ldL mv0_M mv0_202 rfl (i := 4) (kd := 0) (v := .int v4) (pcJ := 204) rfl L rfl rfl rfl ?_
      refine j_V.one mv0_M mv0_204 (by decide) (pcJ := 205) (stJ := [.int (196 + v4), .ref 360]) rfl ?_
      refine j_V.one mv0_M mv0_205 (by decide) (pcJ := 206) (stJ := [.int (196 + v4), .ref 360, .int (196 + v4), .ref 360]) rfl ?_
      refine j_V.iaA mv0_M mv0_206 K rfl ?_
      refine j_V.ldL mv0_M mv0_207 rfl (i := 0) (kd := 2) (v := .ref 359) (pcJ := 208) rfl L rfl rfl rfl ?_
      refine j_V.getK mv0_M mv0_208 (ci := 10) (j := 1) rfl K rfl rfl ?_
      refine j_V.one mv0_M mv0_211 (by decide) (pcJ := 214) (stJ := [.int 196, .ref 360, .int (gA w (196 + v4)), .int (196 + v4), .ref 360]) rfl ?_
      refine j_V.ldL mv0_M mv0_214 rfl (i := 4) (kd := 0) (v := .int v4) (pcJ := 216) rfl L rfl rfl rfl ?_
      refine j_V.one mv0_M mv0_216 (by decide) (pcJ := 217) (stJ := [.int (196 + v4), .ref 360, .int (gA w (196 + v4)), .int (196 + v4), .ref 360]) rfl ?_
      refine j_V.iaA mv0_M mv0_217 K rfl ?_
      refine j_V.ldL mv0_M mv0_218 rfl (i := 1) (kd := 0) (v := .int x1) (pcJ := 219) rfl L rfl rfl rfl ?_
      refine j_V.cut (b := 227) (stJ := [.int ((if x1 < (gA w (196 + v4)) then 1 else 0) : Int32), .int (gA w (196 + v4)), .int (196 + v4), .ref 360]) (fun v => [(0, .ref 359), (1, .int x1), (2, .int v2), (4, .int v4)]) ((if x1 < (gA w (196 + v4)) then 1 else 0) : Int32) (fun Q kk => ?_) (fun lv L => ?_)
      · refine j_V.icmp mv0_M mv0_219 (t := 226) rfl (fun c219_0 => ?_) (fun c219_0 => ?_)
        · replace c219_0 : ¬ (x1 < (gA w (196 + v4))) := jd_le c219_0
          refine j_V.one mv0_M mv0_226 (by decide) (pcJ := 227) (stJ := [.int 0, .int (gA w (196 + v4)), .int (196 + v4), .ref 360]) rfl ?_
          exact Eq.subst (motive := fun z => j_V jP _ 275 227 _ (.int z :: [.int (gA w (196 + v4)), .int (196 + v4), .ref 360]) h Q) (show ((if x1 < (gA w (196 + v4)) then 1 else 0) : Int32) = 0 from (if_neg c219_0).trans (rfl)) (kk _ L)
        · replace c219_0 : x1 < (gA w (196 + v4)) := jd_len c219_0
          refine j_V.one mv0_M mv0_222 (by decide) (pcJ := 223) (stJ := [.int 1, .int (gA w (196 + v4)), .int (196 + v4), .ref 360]) rfl ?_
          refine j_V.gto mv0_M mv0_223 (t := 227) rfl ?_
          exact Eq.subst (motive := fun z => j_V jP _ 275 227 _ (.int z :: [.int (gA w (196 + v4)), .int (196 + v4), .ref 360]) h Q) (show ((if x1 < (gA w (196 + v4)) then 1 else 0) : Int32) = 1 from (if_pos c219_0).trans (rfl)) (kk _ L)
      refine j_V.one mv0_M mv0_227 (by decide) (pcJ := 228) (stJ := [.int ((gA w (196 + v4)) - ((if x1 < (gA w (196 + v4)) then 1 else 0) : Int32)), .int (196 + v4), .ref 360]) rfl ?_
      refine j_V.isA mv0_M mv0_228 (k' := [(359, .inl (10, [.int th, .ref 360, .ref 361, .ref 362, .ref 363, .ref 364, .ref 365, .ref 366, .ref 367, (u 9), .int sst, (u 11), (u 12), .int acs, (u 14), (u 15), (u 16), (u 17), (u 18), (u 19), (u 20), (u 21), .ref 368, .int tm, .ref 369, .ref 370, .ref 371, (u 27)])), (360, .inr (.inl (0, (sA w (196 + v4) ((gA w (196 + v4)) - ((if x1 < (gA w (196 + v4)) then 1 else 0) : Int32)))))), (362, .inr (.inl (0, sd))), (363, .inr (.inl (0, ot))), (364, .inr (.inl (0, kp))), (368, .inr (.inl (0, tk))), (369, .inr (.inl (0, od))), (370, .inr (.inl (0, be)))]) K rfl rfl (fun h K => ?_)
      refine j_V.inL mv0_M mv0_229 (i := 4) (kl' := [(0, .ref 359), (1, .int x1), (2, .int v2), (4, .int (v4 + 1))]) (pcJ := 232) L rfl rfl rfl rfl (fun lv L => ?_)
      refine j_V.gto mv0_M mv0_232 (t := 187) rfl ?_
      rw [show (m_drD x1 (f + 1) v4 w) = (m_drD x1 f (v4 + 1) (sA w (196 + v4) ((gA w (196 + v4)) - ((if x1 < (gA w (196 + v4)) then 1 else 0) : Int32)))) from rfl] at kk
      exact ih (v4 + 1) _ (lpN_o e) L K kk
def m_drE : Nat → Int32 → List Int32 → List Int32
  | 0, v4, w => w
  | f + 1, v4, w => (m_drE f (v4 + 1) (sA w v4 (gA w (v4 + 28))))
set_option maxRecDepth 1000000 in
theorem mv0_ok_l242 {u : Nat → Value} {d : Nat} {h0 : J_H} {th sst acs tm  : Int32} {sd ot kp tk od be : List Int32} {Q : Option Value → J_H → Prop} : ∀ (f : Nat) (v4 : Int32) (w : List Int32) {lv : J_L} {h : J_H}, lpN (m_at 5 0) (v4 + 28) = f → LK lv [(0, .ref 359), (4, .int v4)] → KN h [(359, .inl (10, [.int th, .ref 360, .ref 361, .ref 362, .ref 363, .ref 364, .ref 365, .ref 366, .ref 367, (u 9), .int sst, (u 11), (u 12), .int acs, (u 14), (u 15), (u 16), (u 17), (u 18), (u 19), (u 20), (u 21), .ref 368, .int tm, .ref 369, .ref 370, .ref 371, (u 27)])), (360, .inr (.inl (0, w))), (362, .inr (.inl (0, sd))), (363, .inr (.inl (0, ot))), (364, .inr (.inl (0, kp))), (368, .inr (.inl (0, tk))), (369, .inr (.inl (0, od))), (370, .inr (.inl (0, be)))] h0 → (∀ lv h, LK lv [(0, .ref 359)] → KN h [(359, .inl (10, [.int th, .ref 360, .ref 361, .ref 362, .ref 363, .ref 364, .ref 365, .ref 366, .ref 367, (u 9), .int sst, (u 11), (u 12), .int acs, (u 14), (u 15), (u 16), (u 17), (u 18), (u 19), (u 20), (u 21), .ref 368, .int tm, .ref 369, .ref 370, .ref 371, (u 27)])), (360, .inr (.inl (0, (m_drE f v4 w)))), (362, .inr (.inl (0, sd))), (363, .inr (.inl (0, ot))), (364, .inr (.inl (0, kp))), (368, .inr (.inl (0, tk))), (369, .inr (.inl (0, od))), (370, .inr (.inl (0, be)))] h0 → j_V jP d 275 278 lv [] h Q) → j_V jP d 275 242 lv [] h Q := by
  intro f
  induction f with
  | zero =>
    intro v4 w lv h e L K kk
    refine j_V.ldL mv0_M mv0_242 rfl (i := 4) (kd := 0) (v := .int v4) (pcJ := 244) rfl L rfl rfl rfl ?_
    refine j_V.one mv0_M mv0_244 (by decide) (pcJ := 246) (stJ := [.int 28, .int v4]) rfl ?_
    refine j_V.one mv0_M mv0_246 (by decide) (pcJ := 247) (stJ := [.int (v4 + 28)]) rfl ?_
    refine j_V.one mv0_M mv0_247 (by decide) (pcJ := 248) (stJ := [.int 5, .int (v4 + 28)]) rfl ?_
    refine j_V.one mv0_M mv0_248 (by decide) (pcJ := 249) (stJ := [.int 0, .int 5, .int (v4 + 28)]) rfl ?_
    refine j_V.cl mv0_M mv0_249 rfl (md := 2) (mj := 177) rfl (by decide) ma2_M (As := [.int 5, .int 0]) (rest := [.int (v4 + 28)]) (jk_spl2 rfl rfl (Nat.le_of_ble_eq_true rfl) (Nat.le_of_ble_eq_true rfl)) (fun d => ma2_ok (K.fi [] rfl rfl)) ?_
    rintro r hz ⟨rfl, ez⟩
    rw [ez]
    clear ez
    show j_V jP _ 275 252 lv [.int (m_at 5 0), .int (v4 + 28)] h _
    refine j_V.icmp mv0_M mv0_252 (t := 278) rfl (fun c252_0 => ?_) (fun c252_0 => ?_)
    · replace c252_0 : ¬ ((v4 + 28) < (m_at 5 0)) := jd_ge c252_0
      exact kk _ _ (L.sub ⟨rfl, trivial⟩) K
    · replace c252_0 : (v4 + 28) < (m_at 5 0) := jd_gen c252_0
      exact absurd c252_0 (lpN_z e)
  | succ f ih =>
    intro v4 w lv h e L K kk
    refine j_V.ldL mv0_M mv0_242 rfl (i := 4) (kd := 0) (v := .int v4) (pcJ := 244) rfl L rfl rfl rfl ?_
    refine j_V.one mv0_M mv0_244 (by decide) (pcJ := 246) (stJ := [.int 28, .int v4]) rfl ?_
    refine j_V.one mv0_M mv0_246 (by decide) (pcJ := 247) (stJ := [.int (v4 + 28)]) rfl ?_
    refine j_V.one mv0_M mv0_247 (by decide) (pcJ := 248) (stJ := [.int 5, .int (v4 + 28)]) rfl ?_
    refine j_V.one mv0_M mv0_248 (by decide) (pcJ := 249) (stJ := [.int 0, .int 5, .int (v4 + 28)]) rfl ?_
    refine j_V.cl mv0_M mv0_249 rfl (md := 2) (mj := 177) rfl (by decide) ma2_M (As := [.int 5, .int 0]) (rest := [.int (v4 + 28)]) (jk_spl2 rfl rfl (Nat.le_of_ble_eq_true rfl) (Nat.le_of_ble_eq_true rfl)) (fun d => ma2_ok (K.fi [] rfl rfl)) ?_
    rintro r hz ⟨rfl, ez⟩
    rw [ez]
    clear ez
    show j_V jP _ 275 252 lv [.int (m_at 5 0), .int (v4 + 28)] h _
    refine j_V.icmp mv0_M mv0_252 (t := 278) rfl (fun c252_0 => ?_) (fun c252_0 => ?_)
    · replace c252_0 : ¬ ((v4 + 28) < (m_at 5 0)) := jd_ge c252_0
      exact absurd (lpN_s e) c252_0
    · replace c252_0 : (v4 + 28) < (m_at 5 0) := jd_gen c252_0
      refine j_V.ldL mv0_M mv0_255 rfl (i := 0) (kd := 2) (v := .ref 359) (pcJ := 256) rfl L rfl rfl rfl ?_
      refine j_V.getK mv0_M mv0_256 (ci := 10) (j := 1) rfl K rfl rfl ?_
      refine j_V.ldL mv0_M mv0_259 rfl (i := 4) (kd := 0) (v := .int v4) (pcJ := 261) rfl L rfl rfl rfl ?_
      refine j_V.ldL mv0_M mv0_261 rfl (i := 0) (kd := 2) (v := .ref 359) (pcJ := 262) rfl L rfl rfl rfl ?_
      refine j_V.getK mv0_M mv0_262 (ci := 10) (j := 1) rfl K rfl rfl ?_
      refine j_V.ldL mv0_M mv0_265 rfl (i := 4) (kd := 0) (v := .int v4) (pcJ := 267) rfl L rfl rfl rfl ?_
      refine j_V.one mv0_M mv0_267 (by decide) (pcJ := 269) (stJ := [.int 28, .int v4, .ref 360, .int v4, .ref 360]) rfl ?_
      refine j_V.one mv0_M mv0_269 (by decide) (pcJ := 270) (stJ := [.int (v4 + 28), .ref 360, .int v4, .ref 360]) rfl ?_
      refine j_V.iaA mv0_M mv0_270 K rfl ?_
      refine j_V.isA mv0_M mv0_271 (k' := [(359, .inl (10, [.int th, .ref 360, .ref 361, .ref 362, .ref 363, .ref 364, .ref 365, .ref 366, .ref 367, (u 9), .int sst, (u 11), (u 12), .int acs, (u 14), (u 15), (u 16), (u 17), (u 18), (u 19), (u 20), (u 21), .ref 368, .int tm, .ref 369, .ref 370, .ref 371, (u 27)])), (360, .inr (.inl (0, (sA w v4 (gA w (v4 + 28)))))), (362, .inr (.inl (0, sd))), (363, .inr (.inl (0, ot))), (364, .inr (.inl (0, kp))), (368, .inr (.inl (0, tk))), (369, .inr (.inl (0, od))), (370, .inr (.inl (0, be)))]) K rfl rfl (fun h K => ?_)
      refine j_V.inL mv0_M mv0_272 (i := 4) (kl' := [(0, .ref 359), (4, .int (v4 + 1))]) (pcJ := 275) L rfl rfl rfl rfl (fun lv L => ?_)
      refine j_V.gto mv0_M mv0_275 (t := 242) rfl ?_
      rw [show (m_drE (f + 1) v4 w) = (m_drE f (v4 + 1) (sA w v4 (gA w (v4 + 28)))) from rfl] at kk
      exact ih (v4 + 1) _ (lpN_o e) L K kk
def m_drWA (w : List Int32) (t : Int32) : List Int32 := (m_drA t (lpN (gA w 296) 0) w)
def m_drWB (w : List Int32) (t : Int32) : List Int32 := (m_drB t (lpN (gA (m_drWA w t) 296) 0) 0 (m_drWA w t))
/-- what drops wants of the block -/
def m_dok (w : List Int32) (t : Int32) : Prop := lpN (gA w 296) 0 ≤ 10 ∧ gA w 296 = nI (lpN (gA w 296) 0) ∧ lpN (gA (m_drWA w t) 296) 0 ≤ 10 ∧ m_rk (m_drWB w t) t 4 0 ∧ ∃ P : List Int32 → Prop, P (m_drWA w t) ∧ (∀ w', P w' → gA w' 296 = nI (lpN (gA (m_drWA w t) 296) 0)) ∧ ∀ w' i, i < lpN (gA (m_drWA w t) 296) 0 → P w' → P (sA (sA w' (297 + (3 * (nI i))) ((gA w' (297 + (3 * (nI i)))) - ((if t < (m_link0 w' (nI i) 0) then 1 else 0) : Int32))) ((297 + (3 * (nI i))) + 2) ((gA (sA w' (297 + (3 * (nI i))) ((gA w' (297 + (3 * (nI i)))) - ((if t < (m_link0 w' (nI i) 0) then 1 else 0) : Int32))) ((297 + (3 * (nI i))) + 2)) - ((if t < (m_link0 (sA w' (297 + (3 * (nI i))) ((gA w' (297 + (3 * (nI i)))) - ((if t < (m_link0 w' (nI i) 0) then 1 else 0) : Int32))) (nI i) 2) then 1 else 0) : Int32)))
def m_drops (w : List Int32) (x1 : Int32) : List Int32 := (sA (m_drE (lpN (m_at 5 0) ((m_at x1 0) + 28)) (m_at x1 0) (m_drD x1 (lpN (gA (m_drWB w x1) 203) (0 + 1)) 0 (m_drC (lpN (gA (m_drWB w x1) 203) ((m_rankOf (m_drWB w x1) x1) + 1)) (m_rankOf (m_drWB w x1) x1) (m_drWB w x1)))) 203 ((gA (m_drE (lpN (m_at 5 0) ((m_at x1 0) + 28)) (m_at x1 0) (m_drD x1 (lpN (gA (m_drWB w x1) 203) (0 + 1)) 0 (m_drC (lpN (gA (m_drWB w x1) 203) ((m_rankOf (m_drWB w x1) x1) + 1)) (m_rankOf (m_drWB w x1) x1) (m_drWB w x1)))) 203) - 1))
set_option maxRecDepth 1000000 in
theorem mv0_ok {u : Nat → Value} {d : Nat} {h h0 : J_H} {th sst acs tm x1 : Int32} {w sd ot kp tk od be : List Int32} (hd : m_dok w x1) (K : KN h [(359, .inl (10, [.int th, .ref 360, .ref 361, .ref 362, .ref 363, .ref 364, .ref 365, .ref 366, .ref 367, (u 9), .int sst, (u 11), (u 12), .int acs, (u 14), (u 15), (u 16), (u 17), (u 18), (u 19), (u 20), (u 21), .ref 368, .int tm, .ref 369, .ref 370, .ref 371, (u 27)])), (360, .inr (.inl (0, w))), (362, .inr (.inl (0, sd))), (363, .inr (.inl (0, ot))), (364, .inr (.inl (0, kp))), (368, .inr (.inl (0, tk))), (369, .inr (.inl (0, od))), (370, .inr (.inl (0, be)))] h0) : j_V jP d 275 0 (lv_args 0 [.ref 359, .int x1]) [] h (fun rv h' => rv = none ∧ KN h' [(359, .inl (10, [.int th, .ref 360, .ref 361, .ref 362, .ref 363, .ref 364, .ref 365, .ref 366, .ref 367, (u 9), .int sst, (u 11), (u 12), .int acs, (u 14), (u 15), (u 16), (u 17), (u 18), (u 19), (u 20), (u 21), .ref 368, .int tm, .ref 369, .ref 370, .ref 371, (u 27)])), (360, .inr (.inl (0, (m_drops w x1)))), (362, .inr (.inl (0, sd))), (363, .inr (.inl (0, ot))), (364, .inr (.inl (0, kp))), (368, .inr (.inl (0, tk))), (369, .inr (.inl (0, od))), (370, .inr (.inl (0, be)))] h0) := by
  show j_V jP d 275 0 [(0, .ref 359), (1, .int x1)] [] h _
  obtain ⟨lv, elv, L⟩ : ∃ lv, lv = [(0, .ref 359), (1, .int x1)] ∧ LK lv [(0, .ref 359), (1, .int x1)] := ⟨_, rfl, LK.rf⟩
  rw [← elv]
  clear elv
  obtain ⟨hA1, hA2, hB1, hR, P, hP0, hP1, hP2⟩ := hd
  refine j_V.ldL mv0_M mv0_0 rfl (i := 0) (kd := 2) (v := .ref 359) (pcJ := 1) rfl L rfl rfl rfl ?_
  refine j_V.getK mv0_M mv0_1 (ci := 10) (j := 1) rfl K rfl rfl ?_
  refine j_V.one mv0_M mv0_4 (by decide) (pcJ := 7) (stJ := [.int 296, .ref 360]) rfl ?_
  refine j_V.iaA mv0_M mv0_7 K rfl ?_
  refine j_V.one mv0_M mv0_8 (by decide) (pcJ := 9) (stJ := [.int 1, .int (gA w 296)]) rfl ?_
  refine j_V.one mv0_M mv0_9 (by decide) (pcJ := 10) (stJ := [.int ((gA w 296) - 1)]) rfl ?_
  refine j_V.stL mv0_M mv0_10 rfl (i := 2) (kd := 0) (kl' := [(0, .ref 359), (1, .int x1), (2, .int ((gA w 296) - 1))]) (pcJ := 11) rfl L rfl (by decide) rfl rfl rfl (fun lv L => ?_)
  have L : LK lv [(0, .ref 359), (1, .int x1), (2, .int (nI (lpN (gA w 296) 0) - 1))] := by rw [hA2] at L; exact L
  refine mv0_ok_l11  (lpN (gA w 296) 0)  w (by omega) L K (fun lv h L K => ?_)
  have K : KN h [(359, .inl (10, [.int th, .ref 360, .ref 361, .ref 362, .ref 363, .ref 364, .ref 365, .ref 366, .ref 367, (u 9), .int sst, (u 11), (u 12), .int acs, (u 14), (u 15), (u 16), (u 17), (u 18), (u 19), (u 20), (u 21), .ref 368, .int tm, .ref 369, .ref 370, .ref 371, (u 27)])), (360, .inr (.inl (0, (m_drWA w x1)))), (362, .inr (.inl (0, sd))), (363, .inr (.inl (0, ot))), (364, .inr (.inl (0, kp))), (368, .inr (.inl (0, tk))), (369, .inr (.inl (0, od))), (370, .inr (.inl (0, be)))] h0 := K
  refine j_V.one mv0_M mv0_46 (by decide) (pcJ := 47) (stJ := [.int 0]) rfl ?_
  refine j_V.stL mv0_M mv0_47 rfl (i := 2) (kd := 0) (kl' := [(0, .ref 359), (1, .int x1), (2, .int 0)]) (pcJ := 48) rfl L rfl (by decide) rfl rfl rfl (fun lv L => ?_)
  have L : LK lv [(0, .ref 359), (1, .int x1), (2, .int (nI 0))] := L
  refine mv0_ok_l48 hB1 hP1 hP2 (lpN (gA (m_drWA w x1) 296) 0) 0 (m_drWA w x1) (Nat.zero_add _) hP0 L K (fun lv h L K => ?_)
  have K : KN h [(359, .inl (10, [.int th, .ref 360, .ref 361, .ref 362, .ref 363, .ref 364, .ref 365, .ref 366, .ref 367, (u 9), .int sst, (u 11), (u 12), .int acs, (u 14), (u 15), (u 16), (u 17), (u 18), (u 19), (u 20), (u 21), .ref 368, .int tm, .ref 369, .ref 370, .ref 371, (u 27)])), (360, .inr (.inl (0, (m_drWB w x1)))), (362, .inr (.inl (0, sd))), (363, .inr (.inl (0, ot))), (364, .inr (.inl (0, kp))), (368, .inr (.inl (0, tk))), (369, .inr (.inl (0, od))), (370, .inr (.inl (0, be)))] h0 := K
  refine j_V.ldL mv0_M mv0_128 rfl (i := 0) (kd := 2) (v := .ref 359) (pcJ := 129) rfl L rfl rfl rfl ?_
  refine j_V.getK mv0_M mv0_129 (ci := 10) (j := 1) rfl K rfl rfl ?_
  refine j_V.one mv0_M mv0_132 (by decide) (pcJ := 135) (stJ := [.int 203, .ref 360]) rfl ?_
  refine j_V.iaA mv0_M mv0_135 K rfl ?_
  refine j_V.stL mv0_M mv0_136 rfl (i := 2) (kd := 0) (kl' := [(0, .ref 359), (1, .int x1), (2, .int (gA (m_drWB w x1) 203))]) (pcJ := 137) rfl L rfl (by decide) rfl rfl rfl (fun lv L => ?_)
  refine j_V.ldL mv0_M mv0_137 rfl (i := 0) (kd := 2) (v := .ref 359) (pcJ := 138) rfl L rfl rfl rfl ?_
  refine j_V.ldL mv0_M mv0_138 rfl (i := 1) (kd := 0) (v := .int x1) (pcJ := 139) rfl L rfl rfl rfl ?_
  refine j_V.cl mv0_M mv0_139 rfl (md := 3) (mj := 238) rfl (by decide) mr6_M (As := [.ref 359, .int x1]) (rest := []) (jk_spl3 (K.at rfl) rfl rfl rfl (Nat.le_of_ble_eq_true rfl) (Nat.le_of_ble_eq_true rfl)) (fun d => mr6_ok (u := fun j => [.int th, .ref 360, .ref 361, .ref 362, .ref 363, .ref 364, .ref 365, .ref 366, .ref 367, (u 9), .int sst, (u 11), (u 12), .int acs, (u 14), (u 15), (u 16), (u 17), (u 18), (u 19), (u 20), (u 21), .ref 368, .int tm, .ref 369, .ref 370, .ref 371, (u 27)].getD j .null) hR (K.fi [359, 360] rfl rfl)) ?_
  rintro r hz ⟨rfl, ez⟩
  rw [ez]
  clear ez
  show j_V jP _ 275 142 lv [.int (m_rankOf (m_drWB w x1) x1)] h _
  refine j_V.stL mv0_M mv0_142 rfl (i := 3) (kd := 0) (kl' := [(0, .ref 359), (1, .int x1), (2, .int (gA (m_drWB w x1) 203)), (3, .int (m_rankOf (m_drWB w x1) x1))]) (pcJ := 143) rfl L rfl (by decide) rfl rfl rfl (fun lv L => ?_)
  refine j_V.ldL mv0_M mv0_143 rfl (i := 3) (kd := 0) (v := .int (m_rankOf (m_drWB w x1) x1)) (pcJ := 144) rfl L rfl rfl rfl ?_
  refine j_V.stL mv0_M mv0_144 rfl (i := 4) (kd := 0) (kl' := [(0, .ref 359), (1, .int x1), (2, .int (gA (m_drWB w x1) 203)), (3, .int (m_rankOf (m_drWB w x1) x1)), (4, .int (m_rankOf (m_drWB w x1) x1))]) (pcJ := 146) rfl L rfl (by decide) rfl rfl rfl (fun lv L => ?_)
  have L : LK lv [(0, .ref 359), (1, .int x1), (2, .int (gA (m_drWB w x1) 203)), (4, .int (m_rankOf (m_drWB w x1) x1))] := (L.sub ⟨rfl, rfl, rfl, rfl, trivial⟩)
  refine mv0_ok_l146  (lpN (gA (m_drWB w x1) 203) ((m_rankOf (m_drWB w x1) x1) + 1)) (m_rankOf (m_drWB w x1) x1) (m_drWB w x1) rfl L K (fun lv h L K => ?_)
  refine j_V.one mv0_M mv0_184 (by decide) (pcJ := 185) (stJ := [.int 0]) rfl ?_
  refine j_V.stL mv0_M mv0_185 rfl (i := 4) (kd := 0) (kl' := [(0, .ref 359), (1, .int x1), (2, .int (gA (m_drWB w x1) 203)), (4, .int 0)]) (pcJ := 187) rfl L rfl (by decide) rfl rfl rfl (fun lv L => ?_)
  have L : LK lv [(0, .ref 359), (1, .int x1), (2, .int (gA (m_drWB w x1) 203)), (4, .int 0)] := L
  refine mv0_ok_l187  (lpN (gA (m_drWB w x1) 203) (0 + 1)) 0 (m_drC (lpN (gA (m_drWB w x1) 203) ((m_rankOf (m_drWB w x1) x1) + 1)) (m_rankOf (m_drWB w x1) x1) (m_drWB w x1)) rfl L K (fun lv h L K => ?_)
  refine j_V.ldL mv0_M mv0_235 rfl (i := 1) (kd := 0) (v := .int x1) (pcJ := 236) rfl L rfl rfl rfl ?_
  refine j_V.one mv0_M mv0_236 (by decide) (pcJ := 237) (stJ := [.int 0, .int x1]) rfl ?_
  refine j_V.cl mv0_M mv0_237 rfl (md := 2) (mj := 177) rfl (by decide) ma2_M (As := [.int x1, .int 0]) (rest := []) (jk_spl2 rfl rfl (Nat.le_of_ble_eq_true rfl) (Nat.le_of_ble_eq_true rfl)) (fun d => ma2_ok (K.fi [] rfl rfl)) ?_
  rintro r hz ⟨rfl, ez⟩
  rw [ez]
  clear ez
  show j_V jP _ 275 240 lv [.int (m_at x1 0)] h _
  refine j_V.stL mv0_M mv0_240 rfl (i := 4) (kd := 0) (kl' := [(0, .ref 359), (1, .int x1), (2, .int (gA (m_drWB w x1) 203)), (4, .int (m_at x1 0))]) (pcJ := 242) rfl L rfl (by decide) rfl rfl rfl (fun lv L => ?_)
  have L : LK lv [(0, .ref 359), (4, .int (m_at x1 0))] := (L.sub ⟨rfl, rfl, trivial⟩)
  refine mv0_ok_l242  (lpN (m_at 5 0) ((m_at x1 0) + 28)) (m_at x1 0) (m_drD x1 (lpN (gA (m_drWB w x1) 203) (0 + 1)) 0 (m_drC (lpN (gA (m_drWB w x1) 203) ((m_rankOf (m_drWB w x1) x1) + 1)) (m_rankOf (m_drWB w x1) x1) (m_drWB w x1))) rfl L K (fun lv h L K => ?_)
  refine j_V.ldL mv0_M mv0_278 rfl (i := 0) (kd := 2) (v := .ref 359) (pcJ := 279) rfl L rfl rfl rfl ?_
  refine j_V.getK mv0_M mv0_279 (ci := 10) (j := 1) rfl K rfl rfl ?_
  refine j_V.one mv0_M mv0_282 (by decide) (pcJ := 285) (stJ := [.int 203, .ref 360]) rfl ?_
  refine j_V.one mv0_M mv0_285 (by decide) (pcJ := 286) (stJ := [.int 203, .ref 360, .int 203, .ref 360]) rfl ?_
  refine j_V.iaA mv0_M mv0_286 K rfl ?_
  refine j_V.one mv0_M mv0_287 (by decide) (pcJ := 288) (stJ := [.int 1, .int (gA (m_drE (lpN (m_at 5 0) ((m_at x1 0) + 28)) (m_at x1 0) (m_drD x1 (lpN (gA (m_drWB w x1) 203) (0 + 1)) 0 (m_drC (lpN (gA (m_drWB w x1) 203) ((m_rankOf (m_drWB w x1) x1) + 1)) (m_rankOf (m_drWB w x1) x1) (m_drWB w x1)))) 203), .int 203, .ref 360]) rfl ?_
  refine j_V.one mv0_M mv0_288 (by decide) (pcJ := 289) (stJ := [.int ((gA (m_drE (lpN (m_at 5 0) ((m_at x1 0) + 28)) (m_at x1 0) (m_drD x1 (lpN (gA (m_drWB w x1) 203) (0 + 1)) 0 (m_drC (lpN (gA (m_drWB w x1) 203) ((m_rankOf (m_drWB w x1) x1) + 1)) (m_rankOf (m_drWB w x1) x1) (m_drWB w x1)))) 203) - 1), .int 203, .ref 360]) rfl ?_
  refine j_V.isA mv0_M mv0_289 (k' := [(359, .inl (10, [.int th, .ref 360, .ref 361, .ref 362, .ref 363, .ref 364, .ref 365, .ref 366, .ref 367, (u 9), .int sst, (u 11), (u 12), .int acs, (u 14), (u 15), (u 16), (u 17), (u 18), (u 19), (u 20), (u 21), .ref 368, .int tm, .ref 369, .ref 370, .ref 371, (u 27)])), (360, .inr (.inl (0, (sA (m_drE (lpN (m_at 5 0) ((m_at x1 0) + 28)) (m_at x1 0) (m_drD x1 (lpN (gA (m_drWB w x1) 203) (0 + 1)) 0 (m_drC (lpN (gA (m_drWB w x1) 203) ((m_rankOf (m_drWB w x1) x1) + 1)) (m_rankOf (m_drWB w x1) x1) (m_drWB w x1)))) 203 ((gA (m_drE (lpN (m_at 5 0) ((m_at x1 0) + 28)) (m_at x1 0) (m_drD x1 (lpN (gA (m_drWB w x1) 203) (0 + 1)) 0 (m_drC (lpN (gA (m_drWB w x1) 203) ((m_rankOf (m_drWB w x1) x1) + 1)) (m_rankOf (m_drWB w x1) x1) (m_drWB w x1)))) 203) - 1))))), (362, .inr (.inl (0, sd))), (363, .inr (.inl (0, ot))), (364, .inr (.inl (0, kp))), (368, .inr (.inl (0, tk))), (369, .inr (.inl (0, od))), (370, .inr (.inl (0, be)))]) K rfl rfl (fun h K => ?_)
  exact j_V.ret mv0_M mv0_290 rfl rfl ⟨rfl, K⟩
set_option maxRecDepth 100000 in
theorem mv1_M : j_meth jP 276 = some (yX10_burden, cX10_burden, 7, (some .int), 1, false, 10) := rfl
set_option maxRecDepth 100000 in
theorem mv1_0 : j_code jP 276 0 = some (.aload_n 0) := rfl
set_option maxRecDepth 100000 in
theorem mv1_1 : j_code jP 276 1 = some (.getfield 7) := rfl
set_option maxRecDepth 100000 in
theorem mv1_4 : j_code jP 276 4 = some (.sipush 203) := rfl
set_option maxRecDepth 100000 in
theorem mv1_7 : j_code jP 276 7 = some (.iaload) := rfl
set_option maxRecDepth 100000 in
theorem mv1_8 : j_code jP 276 8 = some (.istore_n 2) := rfl
set_option maxRecDepth 100000 in
theorem mv1_9 : j_code jP 276 9 = some (.iload_n 2) := rfl
set_option maxRecDepth 100000 in
theorem mv1_10 : j_code jP 276 10 = some (.ifCond .ne 9) := rfl
set_option maxRecDepth 100000 in
theorem mv1_13 : j_code jP 276 13 = some (.aload_n 0) := rfl
set_option maxRecDepth 100000 in
theorem mv1_14 : j_code jP 276 14 = some (.iconst 5) := rfl
set_option maxRecDepth 100000 in
theorem mv1_15 : j_code jP 276 15 = some (.invokevirtual 179) := rfl
set_option maxRecDepth 100000 in
theorem mv1_18 : j_code jP 276 18 = some (.ireturn) := rfl
set_option maxRecDepth 100000 in
theorem mv1_19 : j_code jP 276 19 = some (.iconst (-1)) := rfl
set_option maxRecDepth 100000 in
theorem mv1_20 : j_code jP 276 20 = some (.istore_n 3) := rfl
set_option maxRecDepth 100000 in
theorem mv1_21 : j_code jP 276 21 = some (.ldc_w 340) := rfl
set_option maxRecDepth 100000 in
theorem mv1_24 : j_code jP 276 24 = some (.istore 4) := rfl
set_option maxRecDepth 100000 in
theorem mv1_26 : j_code jP 276 26 = some (.aload_n 0) := rfl
set_option maxRecDepth 100000 in
theorem mv1_27 : j_code jP 276 27 = some (.getfield 7) := rfl
set_option maxRecDepth 100000 in
theorem mv1_30 : j_code jP 276 30 = some (.aload_n 0) := rfl
set_option maxRecDepth 100000 in
theorem mv1_31 : j_code jP 276 31 = some (.getfield 16) := rfl
set_option maxRecDepth 100000 in
theorem mv1_34 : j_code jP 276 34 = some (.invokestatic 188) := rfl
set_option maxRecDepth 100000 in
theorem mv1_37 : j_code jP 276 37 = some (.iconst 0) := rfl
set_option maxRecDepth 100000 in
theorem mv1_38 : j_code jP 276 38 = some (.istore 5) := rfl
set_option maxRecDepth 100000 in
theorem mv1_40 : j_code jP 276 40 = some (.iload 5) := rfl
set_option maxRecDepth 100000 in
theorem mv1_42 : j_code jP 276 42 = some (.iload_n 2) := rfl
set_option maxRecDepth 100000 in
theorem mv1_43 : j_code jP 276 43 = some (.if_icmp .ge 55) := rfl
set_option maxRecDepth 100000 in
theorem mv1_46 : j_code jP 276 46 = some (.aload_n 0) := rfl
set_option maxRecDepth 100000 in
theorem mv1_47 : j_code jP 276 47 = some (.getfield 16) := rfl
set_option maxRecDepth 100000 in
theorem mv1_50 : j_code jP 276 50 = some (.aload_n 0) := rfl
set_option maxRecDepth 100000 in
theorem mv1_51 : j_code jP 276 51 = some (.getfield 7) := rfl
set_option maxRecDepth 100000 in
theorem mv1_54 : j_code jP 276 54 = some (.invokestatic 188) := rfl
set_option maxRecDepth 100000 in
theorem mv1_57 : j_code jP 276 57 = some (.aload_n 0) := rfl
set_option maxRecDepth 100000 in
theorem mv1_58 : j_code jP 276 58 = some (.iload 5) := rfl
set_option maxRecDepth 100000 in
theorem mv1_60 : j_code jP 276 60 = some (.invokevirtual 356) := rfl
set_option maxRecDepth 100000 in
theorem mv1_63 : j_code jP 276 63 = some (.aload_n 0) := rfl
set_option maxRecDepth 100000 in
theorem mv1_64 : j_code jP 276 64 = some (.invokevirtual 341) := rfl
set_option maxRecDepth 100000 in
theorem mv1_67 : j_code jP 276 67 = some (.istore 6) := rfl
set_option maxRecDepth 100000 in
theorem mv1_69 : j_code jP 276 69 = some (.iload 6) := rfl
set_option maxRecDepth 100000 in
theorem mv1_71 : j_code jP 276 71 = some (.iload 4) := rfl
set_option maxRecDepth 100000 in
theorem mv1_73 : j_code jP 276 73 = some (.if_icmp .ge 8) := rfl
set_option maxRecDepth 100000 in
theorem mv1_76 : j_code jP 276 76 = some (.iload 5) := rfl
set_option maxRecDepth 100000 in
theorem mv1_78 : j_code jP 276 78 = some (.goto 4) := rfl
set_option maxRecDepth 100000 in
theorem mv1_81 : j_code jP 276 81 = some (.iload_n 3) := rfl
set_option maxRecDepth 100000 in
theorem mv1_82 : j_code jP 276 82 = some (.istore_n 3) := rfl
set_option maxRecDepth 100000 in
theorem mv1_83 : j_code jP 276 83 = some (.iload 4) := rfl
set_option maxRecDepth 100000 in
theorem mv1_85 : j_code jP 276 85 = some (.iload 6) := rfl
set_option maxRecDepth 100000 in
theorem mv1_87 : j_code jP 276 87 = some (.invokestatic 161) := rfl
set_option maxRecDepth 100000 in
theorem mv1_90 : j_code jP 276 90 = some (.istore 4) := rfl
set_option maxRecDepth 100000 in
theorem mv1_92 : j_code jP 276 92 = some (.iinc 5 1) := rfl
set_option maxRecDepth 100000 in
theorem mv1_95 : j_code jP 276 95 = some (.goto (-55)) := rfl
set_option maxRecDepth 100000 in
theorem mv1_98 : j_code jP 276 98 = some (.aload_n 0) := rfl
set_option maxRecDepth 100000 in
theorem mv1_99 : j_code jP 276 99 = some (.iload_n 1) := rfl
set_option maxRecDepth 100000 in
theorem mv1_100 : j_code jP 276 100 = some (.ifCond .eq 8) := rfl
set_option maxRecDepth 100000 in
theorem mv1_103 : j_code jP 276 103 = some (.iload 4) := rfl
set_option maxRecDepth 100000 in
theorem mv1_105 : j_code jP 276 105 = some (.goto 4) := rfl
set_option maxRecDepth 100000 in
theorem mv1_108 : j_code jP 276 108 = some (.iload_n 3) := rfl
set_option maxRecDepth 100000 in
theorem mv1_109 : j_code jP 276 109 = some (.invokevirtual 329) := rfl
set_option maxRecDepth 100000 in
theorem mv1_112 : j_code jP 276 112 = some (.ireturn) := rfl
def m_qburden_l40 (n : Nat) (th : Int32) (sst : Int32) (w : List Int32) (x1 : Int32) : Nat → Nat → Int32 → Int32 → Int32 × Int32 × Int32
  | 0, i, v3, v4 => (if x1 = 0 then (((m_gives th sst v3).1), ((m_gives th sst v3).2.1), ((m_gives th sst v3).2.2)) else (((m_gives th sst v4).1), ((m_gives th sst v4).2.1), ((m_gives th sst v4).2.2)))
  | f + 1, i, v3, v4 => (if (m_price (m_toTheEnd (n - 1) (m_drops w (nI i)) 1)) < v4 then (m_qburden_l40 n th sst w x1 f (i + 1) (nI i) (iMn v4 (m_price (m_toTheEnd (n - 1) (m_drops w (nI i)) 1)))) else (m_qburden_l40 n th sst w x1 f (i + 1) v3 (iMn v4 (m_price (m_toTheEnd (n - 1) (m_drops w (nI i)) 1)))))
set_option maxRecDepth 1000000 in
theorem mv1_ok_l40 {u : Nat → Value} {n d : Nat} {h0 : J_H} {th sst acs x1 : Int32} {w kp od be : List Int32}  {I J : List Int32 → Prop} (H : m_Inv n I J) (H2 : m_Iv2 n I) (hI : I w) {I' J' : List Int32 → Prop} (H' : m_Inv (n - 1) I' J') (hD : ∀ w t, t < n → I w → m_dok w (nI t) ∧ I' (m_drops w (nI t))) : ∀ (f i : Nat) (v3 v4 : Int32) {wn ot tk : List Int32} {tm : Int32} {lv : J_L} {h : J_H}, i + f = n → wn.length = 602 → ot.length = 602 → LK lv [(0, .ref 359), (1, .int x1), (2, .int (gA w 203)), (3, .int v3), (4, .int v4), (5, .int (nI i))] → KN h [(359, .inl (10, [.int th, .ref 360, .ref 361, .ref 362, .ref 363, .ref 364, .ref 365, .ref 366, .ref 367, (u 9), .int sst, (u 11), (u 12), .int acs, (u 14), (u 15), (u 16), (u 17), (u 18), (u 19), (u 20), (u 21), .ref 368, .int tm, .ref 369, .ref 370, .ref 371, (u 27)])), (360, .inr (.inl (0, wn))), (362, .inr (.inl (0, w))), (363, .inr (.inl (0, ot))), (364, .inr (.inl (0, kp))), (368, .inr (.inl (0, tk))), (369, .inr (.inl (0, od))), (370, .inr (.inl (0, be)))] h0 → j_V jP d 276 40 lv [] h (fun rv h' => rv = some (.int (m_qburden_l40 n th sst w x1 f i v3 v4).1) ∧ ∃ (sd' ot' tk' : List Int32) (tm' : Int32), sd'.length = 602 ∧ ot'.length = 602 ∧ KN h' [(359, .inl (10, [.int (m_qburden_l40 n th sst w x1 f i v3 v4).2.1, .ref 360, .ref 361, .ref 362, .ref 363, .ref 364, .ref 365, .ref 366, .ref 367, (u 9), .int (m_qburden_l40 n th sst w x1 f i v3 v4).2.2, (u 11), (u 12), .int acs, (u 14), (u 15), (u 16), (u 17), (u 18), (u 19), (u 20), (u 21), .ref 368, .int tm', .ref 369, .ref 370, .ref 371, (u 27)])), (360, .inr (.inl (0, w))), (362, .inr (.inl (0, sd'))), (363, .inr (.inl (0, ot'))), (364, .inr (.inl (0, kp))), (368, .inr (.inl (0, tk'))), (369, .inr (.inl (0, od))), (370, .inr (.inl (0, be)))] h0) := by
  have hn5 := H.n5
  intro f
  induction f with
  | zero =>
    intro i v3 v4 wn ot tk tm lv h e hwn hot L K
    refine j_V.ldL mv1_M mv1_40 rfl (i := 5) (kd := 0) (v := .int (nI i)) (pcJ := 42) rfl L rfl rfl rfl ?_
    refine j_V.ldL mv1_M mv1_42 rfl (i := 2) (kd := 0) (v := .int (gA w 203)) (pcJ := 43) rfl L rfl rfl rfl ?_
    refine j_V.icmp mv1_M mv1_43 (t := 98) rfl (fun c43_0 => ?_) (fun c43_0 => ?_)
    · replace c43_0 : ¬ ((nI i) < (gA w 203)) := jd_ge c43_0
      refine j_V.ldL mv1_M mv1_98 rfl (i := 0) (kd := 2) (v := .ref 359) (pcJ := 99) rfl L rfl rfl rfl ?_
      refine j_V.ldL mv1_M mv1_99 rfl (i := 1) (kd := 0) (v := .int x1) (pcJ := 100) rfl L rfl rfl rfl ?_
      refine j_V.ifc mv1_M mv1_100 (t := 108) rfl (fun c100_0 => ?_) (fun c100_0 => ?_)
      · replace c100_0 : x1 = 0 := jd_eq c100_0
        refine j_V.ldL mv1_M mv1_108 rfl (i := 3) (kd := 0) (v := .int v3) (pcJ := 109) rfl L rfl rfl rfl ?_
        refine j_V.cl mv1_M mv1_109 rfl (md := 3) (mj := 261) rfl (by decide) ms2_M (As := [.ref 359, .int v3]) (rest := []) (jk_spl3 (K.at rfl) rfl rfl rfl (Nat.le_of_ble_eq_true rfl) (Nat.le_of_ble_eq_true rfl)) (fun d => ms2_ok (u := fun j => [.int th, .ref 360, .ref 361, .ref 362, .ref 363, .ref 364, .ref 365, .ref 366, .ref 367, (u 9), .int sst, (u 11), (u 12), .int acs, (u 14), (u 15), (u 16), (u 17), (u 18), (u 19), (u 20), (u 21), .ref 368, .int tm, .ref 369, .ref 370, .ref 371, (u 27)].getD j .null) hwn (H.I1 _ hI).1 (K.fi [359, 360, 362] rfl rfl)) ?_
        rintro r h9 ⟨rfl, K9⟩
        have K : KN h9 [(359, .inl (10, [.int ((m_gives th sst v3).2.1), .ref 360, .ref 361, .ref 362, .ref 363, .ref 364, .ref 365, .ref 366, .ref 367, (u 9), .int ((m_gives th sst v3).2.2), (u 11), (u 12), .int acs, (u 14), (u 15), (u 16), (u 17), (u 18), (u 19), (u 20), (u 21), .ref 368, .int tm, .ref 369, .ref 370, .ref 371, (u 27)])), (360, .inr (.inl (0, w))), (362, .inr (.inl (0, w))), (363, .inr (.inl (0, ot))), (364, .inr (.inl (0, kp))), (368, .inr (.inl (0, tk))), (369, .inr (.inl (0, od))), (370, .inr (.inl (0, be)))] h0 := K.mg K9 rfl rfl
        clear K9
        show j_V jP _ 276 112 lv [.int ((m_gives th sst v3).1)] h9 _
        refine j_V.ri mv1_M mv1_112 ?_
        rw [show (m_qburden_l40 n th sst w x1 0 i v3 v4) = _ from ((if_pos c100_0).trans (rfl))]
        exact ⟨rfl, w, ot, tk, tm, (H.I1 _ hI).1, hot, K⟩
      · replace c100_0 : ¬ (x1 = 0) := jd_eqn c100_0
        refine j_V.ldL mv1_M mv1_103 rfl (i := 4) (kd := 0) (v := .int v4) (pcJ := 105) rfl L rfl rfl rfl ?_
        refine j_V.gto mv1_M mv1_105 (t := 109) rfl ?_
        refine j_V.cl mv1_M mv1_109 rfl (md := 3) (mj := 261) rfl (by decide) ms2_M (As := [.ref 359, .int v4]) (rest := []) (jk_spl3 (K.at rfl) rfl rfl rfl (Nat.le_of_ble_eq_true rfl) (Nat.le_of_ble_eq_true rfl)) (fun d => ms2_ok (u := fun j => [.int th, .ref 360, .ref 361, .ref 362, .ref 363, .ref 364, .ref 365, .ref 366, .ref 367, (u 9), .int sst, (u 11), (u 12), .int acs, (u 14), (u 15), (u 16), (u 17), (u 18), (u 19), (u 20), (u 21), .ref 368, .int tm, .ref 369, .ref 370, .ref 371, (u 27)].getD j .null) hwn (H.I1 _ hI).1 (K.fi [359, 360, 362] rfl rfl)) ?_
        rintro r h9 ⟨rfl, K9⟩
        have K : KN h9 [(359, .inl (10, [.int ((m_gives th sst v4).2.1), .ref 360, .ref 361, .ref 362, .ref 363, .ref 364, .ref 365, .ref 366, .ref 367, (u 9), .int ((m_gives th sst v4).2.2), (u 11), (u 12), .int acs, (u 14), (u 15), (u 16), (u 17), (u 18), (u 19), (u 20), (u 21), .ref 368, .int tm, .ref 369, .ref 370, .ref 371, (u 27)])), (360, .inr (.inl (0, w))), (362, .inr (.inl (0, w))), (363, .inr (.inl (0, ot))), (364, .inr (.inl (0, kp))), (368, .inr (.inl (0, tk))), (369, .inr (.inl (0, od))), (370, .inr (.inl (0, be)))] h0 := K.mg K9 rfl rfl
        clear K9
        show j_V jP _ 276 112 lv [.int ((m_gives th sst v4).1)] h9 _
        refine j_V.ri mv1_M mv1_112 ?_
        rw [show (m_qburden_l40 n th sst w x1 0 i v3 v4) = _ from ((if_neg c100_0).trans (rfl))]
        exact ⟨rfl, w, ot, tk, tm, (H.I1 _ hI).1, hot, K⟩
    · replace c43_0 : (nI i) < (gA w 203) := jd_gen c43_0
      exact absurd c43_0 (by rw [(H.I1 _ hI).2, nI_lt9 (by omega) (by omega)]; omega)
  | succ f ih =>
    intro i v3 v4 wn ot tk tm lv h e hwn hot L K
    refine j_V.ldL mv1_M mv1_40 rfl (i := 5) (kd := 0) (v := .int (nI i)) (pcJ := 42) rfl L rfl rfl rfl ?_
    refine j_V.ldL mv1_M mv1_42 rfl (i := 2) (kd := 0) (v := .int (gA w 203)) (pcJ := 43) rfl L rfl rfl rfl ?_
    refine j_V.icmp mv1_M mv1_43 (t := 98) rfl (fun c43_0 => ?_) (fun c43_0 => ?_)
    · replace c43_0 : ¬ ((nI i) < (gA w 203)) := jd_ge c43_0
      exact absurd (show nI i < gA w 203 by rw [(H.I1 _ hI).2, nI_lt9 (by omega) (by omega)]; omega) c43_0
    · replace c43_0 : (nI i) < (gA w 203) := jd_gen c43_0
      refine j_V.ldL mv1_M mv1_46 rfl (i := 0) (kd := 2) (v := .ref 359) (pcJ := 47) rfl L rfl rfl rfl ?_
      refine j_V.getK mv1_M mv1_47 (ci := 10) (j := 3) rfl K rfl rfl ?_
      refine j_V.ldL mv1_M mv1_50 rfl (i := 0) (kd := 2) (v := .ref 359) (pcJ := 51) rfl L rfl rfl rfl ?_
      refine j_V.getK mv1_M mv1_51 (ci := 10) (j := 1) rfl K rfl rfl ?_
      refine j_V.cl mv1_M mv1_54 rfl (md := 2) (mj := 201) rfl (by decide) mi3_M (As := [.ref 362, .ref 360]) (rest := []) (jk_spl2 rfl rfl (Nat.le_of_ble_eq_true rfl) (Nat.le_of_ble_eq_true rfl)) (fun d => mi3_ok (K.fi [360, 362] rfl rfl)) ?_
      rintro r h9 ⟨rfl, K9⟩
      have K : KN h9 [(359, .inl (10, [.int th, .ref 360, .ref 361, .ref 362, .ref 363, .ref 364, .ref 365, .ref 366, .ref 367, (u 9), .int sst, (u 11), (u 12), .int acs, (u 14), (u 15), (u 16), (u 17), (u 18), (u 19), (u 20), (u 21), .ref 368, .int tm, .ref 369, .ref 370, .ref 371, (u 27)])), (360, .inr (.inl (0, ((m_copies w wn))))), (362, .inr (.inl (0, w))), (363, .inr (.inl (0, ot))), (364, .inr (.inl (0, kp))), (368, .inr (.inl (0, tk))), (369, .inr (.inl (0, od))), (370, .inr (.inl (0, be)))] h0 := K.mg K9 rfl rfl
      clear K9
      show j_V jP _ 276 57 lv [] h9 _
      rw [m_cp (H.I1 _ hI).1 hwn] at K
      refine j_V.ldL mv1_M mv1_57 rfl (i := 0) (kd := 2) (v := .ref 359) (pcJ := 58) rfl L rfl rfl rfl ?_
      refine j_V.ldL mv1_M mv1_58 rfl (i := 5) (kd := 0) (v := .int (nI i)) (pcJ := 60) rfl L rfl rfl rfl ?_
      refine j_V.cl mv1_M mv1_60 rfl (md := 3) (mj := 275) rfl (by decide) mv0_M (As := [.ref 359, .int (nI i)]) (rest := []) (jk_spl3 (K.at rfl) rfl rfl rfl (Nat.le_of_ble_eq_true rfl) (Nat.le_of_ble_eq_true rfl)) (fun d => mv0_ok (u := u) (hD _ _ (by omega) hI).1 (K.fi [359, 360, 362, 363, 364, 368, 369, 370] rfl rfl)) ?_
      rintro r h9 ⟨rfl, K9⟩
      have K : KN h9 [(359, .inl (10, [.int th, .ref 360, .ref 361, .ref 362, .ref 363, .ref 364, .ref 365, .ref 366, .ref 367, (u 9), .int sst, (u 11), (u 12), .int acs, (u 14), (u 15), (u 16), (u 17), (u 18), (u 19), (u 20), (u 21), .ref 368, .int tm, .ref 369, .ref 370, .ref 371, (u 27)])), (360, .inr (.inl (0, (m_drops w (nI i))))), (362, .inr (.inl (0, w))), (363, .inr (.inl (0, ot))), (364, .inr (.inl (0, kp))), (368, .inr (.inl (0, tk))), (369, .inr (.inl (0, od))), (370, .inr (.inl (0, be)))] h0 := K.mg K9 rfl rfl
      clear K9
      show j_V jP _ 276 63 lv [] h9 _
      refine j_V.ldL mv1_M mv1_63 rfl (i := 0) (kd := 2) (v := .ref 359) (pcJ := 64) rfl L rfl rfl rfl ?_
      refine j_V.cl mv1_M mv1_64 rfl (md := 3) (mj := 232) rfl (by decide) ms1_M (As := [.ref 359]) (rest := []) (jk_spl3 (K.at rfl) rfl rfl rfl (Nat.le_of_ble_eq_true rfl) (Nat.le_of_ble_eq_true rfl)) (fun d => ms19_ok (u := fun j => [.int th, .ref 360, .ref 361, .ref 362, .ref 363, .ref 364, .ref 365, .ref 366, .ref 367, (u 9), .int sst, (u 11), (u 12), .int acs, (u 14), (u 15), (u 16), (u 17), (u 18), (u 19), (u 20), (u 21), .ref 368, .int tm, .ref 369, .ref 370, .ref 371, (u 27)].getD j .null) H' (hD _ _ (by omega) hI).2 hot (K.fi [359, 360, 363, 368] rfl rfl)) ?_
      rintro r h9 ⟨rfl, hI20, ot20, tk20, tm20, ho20, K9⟩
      have K : KN h9 [(359, .inl (10, [.int th, .ref 360, .ref 361, .ref 362, .ref 363, .ref 364, .ref 365, .ref 366, .ref 367, (u 9), .int sst, (u 11), (u 12), .int acs, (u 14), (u 15), (u 16), (u 17), (u 18), (u 19), (u 20), (u 21), .ref 368, .int tm20, .ref 369, .ref 370, .ref 371, (u 27)])), (360, .inr (.inl (0, (m_toTheEnd (n - 1) (m_drops w (nI i)) 1)))), (362, .inr (.inl (0, w))), (363, .inr (.inl (0, ot20))), (364, .inr (.inl (0, kp))), (368, .inr (.inl (0, tk20))), (369, .inr (.inl (0, od))), (370, .inr (.inl (0, be)))] h0 := K.mg K9 rfl rfl
      clear K9
      show j_V jP _ 276 67 lv [.int (m_price (m_toTheEnd (n - 1) (m_drops w (nI i)) 1))] h9 _
      refine j_V.stL mv1_M mv1_67 rfl (i := 6) (kd := 0) (kl' := [(0, .ref 359), (1, .int x1), (2, .int (gA w 203)), (3, .int v3), (4, .int v4), (5, .int (nI i)), (6, .int (m_price (m_toTheEnd (n - 1) (m_drops w (nI i)) 1)))]) (pcJ := 69) rfl L rfl (by decide) rfl rfl rfl (fun lv L => ?_)
      refine j_V.ldL mv1_M mv1_69 rfl (i := 6) (kd := 0) (v := .int (m_price (m_toTheEnd (n - 1) (m_drops w (nI i)) 1))) (pcJ := 71) rfl L rfl rfl rfl ?_
      refine j_V.ldL mv1_M mv1_71 rfl (i := 4) (kd := 0) (v := .int v4) (pcJ := 73) rfl L rfl rfl rfl ?_
      refine j_V.icmp mv1_M mv1_73 (t := 81) rfl (fun c73_0 => ?_) (fun c73_0 => ?_)
      · replace c73_0 : ¬ ((m_price (m_toTheEnd (n - 1) (m_drops w (nI i)) 1)) < v4) := jd_ge c73_0
        refine j_V.ldL mv1_M mv1_81 rfl (i := 3) (kd := 0) (v := .int v3) (pcJ := 82) rfl L rfl rfl rfl ?_
        refine j_V.stL mv1_M mv1_82 rfl (i := 3) (kd := 0) (kl' := [(0, .ref 359), (1, .int x1), (2, .int (gA w 203)), (3, .int v3), (4, .int v4), (5, .int (nI i)), (6, .int (m_price (m_toTheEnd (n - 1) (m_drops w (nI i)) 1)))]) (pcJ := 83) rfl L rfl (by decide) rfl rfl rfl (fun lv L => ?_)
        refine j_V.ldL mv1_M mv1_83 rfl (i := 4) (kd := 0) (v := .int v4) (pcJ := 85) rfl L rfl rfl rfl ?_
        refine j_V.ldL mv1_M mv1_85 rfl (i := 6) (kd := 0) (v := .int (m_price (m_toTheEnd (n - 1) (m_drops w (nI i)) 1))) (pcJ := 87) rfl L rfl rfl rfl ?_
        refine j_V.mn mv1_M mv1_87 rfl rfl (Nat.le_of_ble_eq_true rfl) ?_
        refine j_V.stL mv1_M mv1_90 rfl (i := 4) (kd := 0) (kl' := [(0, .ref 359), (1, .int x1), (2, .int (gA w 203)), (3, .int v3), (4, .int (iMn v4 (m_price (m_toTheEnd (n - 1) (m_drops w (nI i)) 1)))), (5, .int (nI i)), (6, .int (m_price (m_toTheEnd (n - 1) (m_drops w (nI i)) 1)))]) (pcJ := 92) rfl L rfl (by decide) rfl rfl rfl (fun lv L => ?_)
        refine j_V.inL mv1_M mv1_92 (i := 5) (kl' := [(0, .ref 359), (1, .int x1), (2, .int (gA w 203)), (3, .int v3), (4, .int (iMn v4 (m_price (m_toTheEnd (n - 1) (m_drops w (nI i)) 1)))), (5, .int ((nI i) + 1)), (6, .int (m_price (m_toTheEnd (n - 1) (m_drops w (nI i)) 1)))]) (pcJ := 95) L rfl rfl rfl rfl (fun lv L => ?_)
        refine j_V.gto mv1_M mv1_95 (t := 40) rfl ?_
        rw [nI_one] at L
        rw [show (m_qburden_l40 n th sst w x1 (f + 1) i v3 v4) = _ from ((if_neg c73_0).trans (rfl))]
        exact ih (i + 1) _ _ (by omega) (H'.I1 _ hI20).1 ho20 (L.sub ⟨rfl, rfl, rfl, rfl, rfl, rfl, trivial⟩) K
      · replace c73_0 : (m_price (m_toTheEnd (n - 1) (m_drops w (nI i)) 1)) < v4 := jd_gen c73_0
        refine j_V.ldL mv1_M mv1_76 rfl (i := 5) (kd := 0) (v := .int (nI i)) (pcJ := 78) rfl L rfl rfl rfl ?_
        refine j_V.gto mv1_M mv1_78 (t := 82) rfl ?_
        refine j_V.stL mv1_M mv1_82 rfl (i := 3) (kd := 0) (kl' := [(0, .ref 359), (1, .int x1), (2, .int (gA w 203)), (3, .int (nI i)), (4, .int v4), (5, .int (nI i)), (6, .int (m_price (m_toTheEnd (n - 1) (m_drops w (nI i)) 1)))]) (pcJ := 83) rfl L rfl (by decide) rfl rfl rfl (fun lv L => ?_)
        refine j_V.ldL mv1_M mv1_83 rfl (i := 4) (kd := 0) (v := .int v4) (pcJ := 85) rfl L rfl rfl rfl ?_
        refine j_V.ldL mv1_M mv1_85 rfl (i := 6) (kd := 0) (v := .int (m_price (m_toTheEnd (n - 1) (m_drops w (nI i)) 1))) (pcJ := 87) rfl L rfl rfl rfl ?_
        refine j_V.mn mv1_M mv1_87 rfl rfl (Nat.le_of_ble_eq_true rfl) ?_
        refine j_V.stL mv1_M mv1_90 rfl (i := 4) (kd := 0) (kl' := [(0, .ref 359), (1, .int x1), (2, .int (gA w 203)), (3, .int (nI i)), (4, .int (iMn v4 (m_price (m_toTheEnd (n - 1) (m_drops w (nI i)) 1)))), (5, .int (nI i)), (6, .int (m_price (m_toTheEnd (n - 1) (m_drops w (nI i)) 1)))]) (pcJ := 92) rfl L rfl (by decide) rfl rfl rfl (fun lv L => ?_)
        refine j_V.inL mv1_M mv1_92 (i := 5) (kl' := [(0, .ref 359), (1, .int x1), (2, .int (gA w 203)), (3, .int (nI i)), (4, .int (iMn v4 (m_price (m_toTheEnd (n - 1) (m_drops w (nI i)) 1)))), (5, .int ((nI i) + 1)), (6, .int (m_price (m_toTheEnd (n - 1) (m_drops w (nI i)) 1)))]) (pcJ := 95) L rfl rfl rfl rfl (fun lv L => ?_)
        refine j_V.gto mv1_M mv1_95 (t := 40) rfl ?_
        rw [nI_one] at L
        rw [show (m_qburden_l40 n th sst w x1 (f + 1) i v3 v4) = _ from ((if_pos c73_0).trans (rfl))]
        exact ih (i + 1) _ _ (by omega) (H'.I1 _ hI20).1 ho20 (L.sub ⟨rfl, rfl, rfl, rfl, rfl, rfl, trivial⟩) K
def m_qburden (n : Nat) (th : Int32) (sst : Int32) (w : List Int32) (x1 : Int32) : Int32 × Int32 × Int32 := (if (gA w 203) = 0 then (((m_refuse th sst 5).1), ((m_refuse th sst 5).2.1), ((m_refuse th sst 5).2.2)) else (m_qburden_l40 n th sst w x1 n 0 (-1) (2147483647 : Int32)))
set_option maxRecDepth 1000000 in
theorem mv1_ok {u : Nat → Value} {n d : Nat} {h h0 : J_H} {th sst acs tm x1 : Int32} {w sd ot kp tk od be : List Int32} {I J : List Int32 → Prop} (H : m_Inv n I J) (H2 : m_Iv2 n I) (hI : I w) (hsd : sd.length = 602) (hot : ot.length = 602) {I' J' : List Int32 → Prop} (H' : m_Inv (n - 1) I' J') (hD : ∀ w t, t < n → I w → m_dok w (nI t) ∧ I' (m_drops w (nI t))) (K : KN h [(359, .inl (10, [.int th, .ref 360, .ref 361, .ref 362, .ref 363, .ref 364, .ref 365, .ref 366, .ref 367, (u 9), .int sst, (u 11), (u 12), .int acs, (u 14), (u 15), (u 16), (u 17), (u 18), (u 19), (u 20), (u 21), .ref 368, .int tm, .ref 369, .ref 370, .ref 371, (u 27)])), (360, .inr (.inl (0, w))), (362, .inr (.inl (0, sd))), (363, .inr (.inl (0, ot))), (364, .inr (.inl (0, kp))), (368, .inr (.inl (0, tk))), (369, .inr (.inl (0, od))), (370, .inr (.inl (0, be)))] h0) : j_V jP d 276 0 (lv_args 0 [.ref 359, .int x1]) [] h (fun rv h' => rv = some (.int (m_qburden n th sst w x1).1) ∧ ∃ (sd' ot' tk' : List Int32) (tm' : Int32), sd'.length = 602 ∧ ot'.length = 602 ∧ KN h' [(359, .inl (10, [.int (m_qburden n th sst w x1).2.1, .ref 360, .ref 361, .ref 362, .ref 363, .ref 364, .ref 365, .ref 366, .ref 367, (u 9), .int (m_qburden n th sst w x1).2.2, (u 11), (u 12), .int acs, (u 14), (u 15), (u 16), (u 17), (u 18), (u 19), (u 20), (u 21), .ref 368, .int tm', .ref 369, .ref 370, .ref 371, (u 27)])), (360, .inr (.inl (0, w))), (362, .inr (.inl (0, sd'))), (363, .inr (.inl (0, ot'))), (364, .inr (.inl (0, kp))), (368, .inr (.inl (0, tk'))), (369, .inr (.inl (0, od))), (370, .inr (.inl (0, be)))] h0) := by
  show j_V jP d 276 0 [(0, .ref 359), (1, .int x1)] [] h _
  obtain ⟨lv, elv, L⟩ : ∃ lv, lv = [(0, .ref 359), (1, .int x1)] ∧ LK lv [(0, .ref 359), (1, .int x1)] := ⟨_, rfl, LK.rf⟩
  rw [← elv]
  clear elv
  refine j_V.ldL mv1_M mv1_0 rfl (i := 0) (kd := 2) (v := .ref 359) (pcJ := 1) rfl L rfl rfl rfl ?_
  refine j_V.getK mv1_M mv1_1 (ci := 10) (j := 1) rfl K rfl rfl ?_
  refine j_V.one mv1_M mv1_4 (by decide) (pcJ := 7) (stJ := [.int 203, .ref 360]) rfl ?_
  refine j_V.iaA mv1_M mv1_7 K rfl ?_
  refine j_V.stL mv1_M mv1_8 rfl (i := 2) (kd := 0) (kl' := [(0, .ref 359), (1, .int x1), (2, .int (gA w 203))]) (pcJ := 9) rfl L rfl (by decide) rfl rfl rfl (fun lv L => ?_)
  refine j_V.ldL mv1_M mv1_9 rfl (i := 2) (kd := 0) (v := .int (gA w 203)) (pcJ := 10) rfl L rfl rfl rfl ?_
  refine j_V.ifc mv1_M mv1_10 (t := 19) rfl (fun c10_0 => ?_) (fun c10_0 => ?_)
  · replace c10_0 : ¬ ((gA w 203) = 0) := jd_ne c10_0
    refine j_V.one mv1_M mv1_19 (by decide) (pcJ := 20) (stJ := [.int (-1)]) rfl ?_
    refine j_V.stL mv1_M mv1_20 rfl (i := 3) (kd := 0) (kl' := [(0, .ref 359), (1, .int x1), (2, .int (gA w 203)), (3, .int (-1))]) (pcJ := 21) rfl L rfl (by decide) rfl rfl rfl (fun lv L => ?_)
    refine j_V.one mv1_M mv1_21 (by decide) (pcJ := 24) (stJ := [.int (2147483647 : Int32)]) rfl ?_
    refine j_V.stL mv1_M mv1_24 rfl (i := 4) (kd := 0) (kl' := [(0, .ref 359), (1, .int x1), (2, .int (gA w 203)), (3, .int (-1)), (4, .int (2147483647 : Int32))]) (pcJ := 26) rfl L rfl (by decide) rfl rfl rfl (fun lv L => ?_)
    refine j_V.ldL mv1_M mv1_26 rfl (i := 0) (kd := 2) (v := .ref 359) (pcJ := 27) rfl L rfl rfl rfl ?_
    refine j_V.getK mv1_M mv1_27 (ci := 10) (j := 1) rfl K rfl rfl ?_
    refine j_V.ldL mv1_M mv1_30 rfl (i := 0) (kd := 2) (v := .ref 359) (pcJ := 31) rfl L rfl rfl rfl ?_
    refine j_V.getK mv1_M mv1_31 (ci := 10) (j := 3) rfl K rfl rfl ?_
    refine j_V.cl mv1_M mv1_34 rfl (md := 2) (mj := 201) rfl (by decide) mi2_M (As := [.ref 360, .ref 362]) (rest := []) (jk_spl2 rfl rfl (Nat.le_of_ble_eq_true rfl) (Nat.le_of_ble_eq_true rfl)) (fun d => mi2_ok (K.fi [360, 362] rfl rfl)) ?_
    rintro r h9 ⟨rfl, K9⟩
    have K : KN h9 [(359, .inl (10, [.int th, .ref 360, .ref 361, .ref 362, .ref 363, .ref 364, .ref 365, .ref 366, .ref 367, (u 9), .int sst, (u 11), (u 12), .int acs, (u 14), (u 15), (u 16), (u 17), (u 18), (u 19), (u 20), (u 21), .ref 368, .int tm, .ref 369, .ref 370, .ref 371, (u 27)])), (360, .inr (.inl (0, w))), (362, .inr (.inl (0, ((m_copies w sd))))), (363, .inr (.inl (0, ot))), (364, .inr (.inl (0, kp))), (368, .inr (.inl (0, tk))), (369, .inr (.inl (0, od))), (370, .inr (.inl (0, be)))] h0 := K.mg K9 rfl rfl
    clear K9
    show j_V jP _ 276 37 lv [] h9 _
    rw [m_cp (H.I1 _ hI).1 hsd] at K
    refine j_V.one mv1_M mv1_37 (by decide) (pcJ := 38) (stJ := [.int 0]) rfl ?_
    refine j_V.stL mv1_M mv1_38 rfl (i := 5) (kd := 0) (kl' := [(0, .ref 359), (1, .int x1), (2, .int (gA w 203)), (3, .int (-1)), (4, .int (2147483647 : Int32)), (5, .int 0)]) (pcJ := 40) rfl L rfl (by decide) rfl rfl rfl (fun lv L => ?_)
    have L : LK lv [(0, .ref 359), (1, .int x1), (2, .int (gA w 203)), (3, .int (-1)), (4, .int (2147483647 : Int32)), (5, .int (nI 0))] := L
    rw [show (m_qburden n th sst w x1) = (m_qburden_l40 n th sst w x1 n 0 (-1) (2147483647 : Int32)) from ((if_neg c10_0).trans (rfl))]
    exact mv1_ok_l40 H H2 hI H' hD n 0 (-1) (2147483647 : Int32) (Nat.zero_add n) (H.I1 _ hI).1 hot L K
  · replace c10_0 : (gA w 203) = 0 := jd_nen c10_0
    refine j_V.ldL mv1_M mv1_13 rfl (i := 0) (kd := 2) (v := .ref 359) (pcJ := 14) rfl L rfl rfl rfl ?_
    refine j_V.one mv1_M mv1_14 (by decide) (pcJ := 15) (stJ := [.int 5, .ref 359]) rfl ?_
    refine j_V.cl mv1_M mv1_15 rfl (md := 3) (mj := 169) rfl (by decide) mo0_M (As := [.ref 359, .int 5]) (rest := []) (jk_spl3 (K.at rfl) rfl rfl rfl (Nat.le_of_ble_eq_true rfl) (Nat.le_of_ble_eq_true rfl)) (fun d => mo0_ok (u := fun j => [.int th, .ref 360, .ref 361, .ref 362, .ref 363, .ref 364, .ref 365, .ref 366, .ref 367, (u 9), .int sst, (u 11), (u 12), .int acs, (u 14), (u 15), (u 16), (u 17), (u 18), (u 19), (u 20), (u 21), .ref 368, .int tm, .ref 369, .ref 370, .ref 371, (u 27)].getD j .null) (K.fi [359] rfl rfl)) ?_
    rintro r h9 ⟨rfl, K9⟩
    have K : KN h9 [(359, .inl (10, [.int ((m_refuse th sst 5).2.1), .ref 360, .ref 361, .ref 362, .ref 363, .ref 364, .ref 365, .ref 366, .ref 367, (u 9), .int ((m_refuse th sst 5).2.2), (u 11), (u 12), .int acs, (u 14), (u 15), (u 16), (u 17), (u 18), (u 19), (u 20), (u 21), .ref 368, .int tm, .ref 369, .ref 370, .ref 371, (u 27)])), (360, .inr (.inl (0, w))), (362, .inr (.inl (0, sd))), (363, .inr (.inl (0, ot))), (364, .inr (.inl (0, kp))), (368, .inr (.inl (0, tk))), (369, .inr (.inl (0, od))), (370, .inr (.inl (0, be)))] h0 := K.mg K9 rfl rfl
    clear K9
    show j_V jP _ 276 18 lv [.int ((m_refuse th sst 5).1)] h9 _
    refine j_V.ri mv1_M mv1_18 ?_
    rw [show (m_qburden n th sst w x1) = _ from ((if_pos c10_0).trans (rfl))]
    exact ⟨rfl, sd, ot, tk, tm, hsd, hot, K⟩

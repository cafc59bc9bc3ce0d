/-! the reference's minute, by wip/px/gen_m6.py -/
set_option maxRecDepth 100000 in
theorem mj0_M : j_meth jP 227 = some (yX10_minute, cX10_minute, 5, none, 1, false, 10) := rfl
set_option maxRecDepth 100000 in
theorem mj0_0 : j_code jP 227 0 = some (.iconst 0) := rfl
set_option maxRecDepth 100000 in
theorem mj0_1 : j_code jP 227 1 = some (.istore_n 2) := rfl
set_option maxRecDepth 100000 in
theorem mj0_2 : j_code jP 227 2 = some (.iload_n 2) := rfl
set_option maxRecDepth 100000 in
theorem mj0_3 : j_code jP 227 3 = some (.aload_n 0) := rfl
set_option maxRecDepth 100000 in
theorem mj0_4 : j_code jP 227 4 = some (.getfield 7) := rfl
set_option maxRecDepth 100000 in
theorem mj0_7 : j_code jP 227 7 = some (.sipush 203) := rfl
set_option maxRecDepth 100000 in
theorem mj0_10 : j_code jP 227 10 = some (.iaload) := rfl
set_option maxRecDepth 100000 in
theorem mj0_11 : j_code jP 227 11 = some (.if_icmp .ge 43) := rfl
set_option maxRecDepth 100000 in
theorem mj0_14 : j_code jP 227 14 = some (.aload_n 0) := rfl
set_option maxRecDepth 100000 in
theorem mj0_15 : j_code jP 227 15 = some (.iload_n 2) := rfl
set_option maxRecDepth 100000 in
theorem mj0_16 : j_code jP 227 16 = some (.bipush 6) := rfl
set_option maxRecDepth 100000 in
theorem mj0_18 : j_code jP 227 18 = some (.invokevirtual 198) := rfl
set_option maxRecDepth 100000 in
theorem mj0_21 : j_code jP 227 21 = some (.iconst 2) := rfl
set_option maxRecDepth 100000 in
theorem mj0_22 : j_code jP 227 22 = some (.if_icmp .ne 26) := rfl
set_option maxRecDepth 100000 in
theorem mj0_25 : j_code jP 227 25 = some (.aload_n 0) := rfl
set_option maxRecDepth 100000 in
theorem mj0_26 : j_code jP 227 26 = some (.iload_n 2) := rfl
set_option maxRecDepth 100000 in
theorem mj0_27 : j_code jP 227 27 = some (.bipush 9) := rfl
set_option maxRecDepth 100000 in
theorem mj0_29 : j_code jP 227 29 = some (.invokevirtual 198) := rfl
set_option maxRecDepth 100000 in
theorem mj0_32 : j_code jP 227 32 = some (.aload_n 0) := rfl
set_option maxRecDepth 100000 in
theorem mj0_33 : j_code jP 227 33 = some (.getfield 7) := rfl
set_option maxRecDepth 100000 in
theorem mj0_36 : j_code jP 227 36 = some (.sipush 201) := rfl
set_option maxRecDepth 100000 in
theorem mj0_39 : j_code jP 227 39 = some (.iaload) := rfl
set_option maxRecDepth 100000 in
theorem mj0_40 : j_code jP 227 40 = some (.if_icmp .gt 8) := rfl
set_option maxRecDepth 100000 in
theorem mj0_43 : j_code jP 227 43 = some (.aload_n 0) := rfl
set_option maxRecDepth 100000 in
theorem mj0_44 : j_code jP 227 44 = some (.iload_n 2) := rfl
set_option maxRecDepth 100000 in
theorem mj0_45 : j_code jP 227 45 = some (.invokevirtual 265) := rfl
set_option maxRecDepth 100000 in
theorem mj0_48 : j_code jP 227 48 = some (.iinc 2 1) := rfl
set_option maxRecDepth 100000 in
theorem mj0_51 : j_code jP 227 51 = some (.goto (-49)) := rfl
set_option maxRecDepth 100000 in
theorem mj0_54 : j_code jP 227 54 = some (.iconst 0) := rfl
set_option maxRecDepth 100000 in
theorem mj0_55 : j_code jP 227 55 = some (.istore_n 2) := rfl
set_option maxRecDepth 100000 in
theorem mj0_56 : j_code jP 227 56 = some (.iload_n 2) := rfl
set_option maxRecDepth 100000 in
theorem mj0_57 : j_code jP 227 57 = some (.aload_n 0) := rfl
set_option maxRecDepth 100000 in
theorem mj0_58 : j_code jP 227 58 = some (.getfield 7) := rfl
set_option maxRecDepth 100000 in
theorem mj0_61 : j_code jP 227 61 = some (.sipush 203) := rfl
set_option maxRecDepth 100000 in
theorem mj0_64 : j_code jP 227 64 = some (.iaload) := rfl
set_option maxRecDepth 100000 in
theorem mj0_65 : j_code jP 227 65 = some (.if_icmp .ge 144) := rfl
set_option maxRecDepth 100000 in
theorem mj0_68 : j_code jP 227 68 = some (.aload_n 0) := rfl
set_option maxRecDepth 100000 in
theorem mj0_69 : j_code jP 227 69 = some (.getfield 7) := rfl
set_option maxRecDepth 100000 in
theorem mj0_72 : j_code jP 227 72 = some (.sipush 196) := rfl
set_option maxRecDepth 100000 in
theorem mj0_75 : j_code jP 227 75 = some (.iload_n 2) := rfl
set_option maxRecDepth 100000 in
theorem mj0_76 : j_code jP 227 76 = some (.iadd) := rfl
set_option maxRecDepth 100000 in
theorem mj0_77 : j_code jP 227 77 = some (.iaload) := rfl
set_option maxRecDepth 100000 in
theorem mj0_78 : j_code jP 227 78 = some (.istore_n 3) := rfl
set_option maxRecDepth 100000 in
theorem mj0_79 : j_code jP 227 79 = some (.aload_n 0) := rfl
set_option maxRecDepth 100000 in
theorem mj0_80 : j_code jP 227 80 = some (.iload_n 3) := rfl
set_option maxRecDepth 100000 in
theorem mj0_81 : j_code jP 227 81 = some (.invokevirtual 268) := rfl
set_option maxRecDepth 100000 in
theorem mj0_84 : j_code jP 227 84 = some (.ifCond .eq 6) := rfl
set_option maxRecDepth 100000 in
theorem mj0_87 : j_code jP 227 87 = some (.goto 116) := rfl
set_option maxRecDepth 100000 in
theorem mj0_90 : j_code jP 227 90 = some (.aload_n 0) := rfl
set_option maxRecDepth 100000 in
theorem mj0_91 : j_code jP 227 91 = some (.iload_n 3) := rfl
set_option maxRecDepth 100000 in
theorem mj0_92 : j_code jP 227 92 = some (.bipush 6) := rfl
set_option maxRecDepth 100000 in
theorem mj0_94 : j_code jP 227 94 = some (.invokevirtual 198) := rfl
set_option maxRecDepth 100000 in
theorem mj0_97 : j_code jP 227 97 = some (.ifCond .ne 28) := rfl
set_option maxRecDepth 100000 in
theorem mj0_100 : j_code jP 227 100 = some (.aload_n 0) := rfl
set_option maxRecDepth 100000 in
theorem mj0_101 : j_code jP 227 101 = some (.iload_n 3) := rfl
set_option maxRecDepth 100000 in
theorem mj0_102 : j_code jP 227 102 = some (.iconst 3) := rfl
set_option maxRecDepth 100000 in
theorem mj0_103 : j_code jP 227 103 = some (.invokevirtual 198) := rfl
set_option maxRecDepth 100000 in
theorem mj0_106 : j_code jP 227 106 = some (.aload_n 0) := rfl
set_option maxRecDepth 100000 in
theorem mj0_107 : j_code jP 227 107 = some (.getfield 7) := rfl
set_option maxRecDepth 100000 in
theorem mj0_110 : j_code jP 227 110 = some (.sipush 201) := rfl
set_option maxRecDepth 100000 in
theorem mj0_113 : j_code jP 227 113 = some (.iaload) := rfl
set_option maxRecDepth 100000 in
theorem mj0_114 : j_code jP 227 114 = some (.if_icmp .gt 7) := rfl
set_option maxRecDepth 100000 in
theorem mj0_117 : j_code jP 227 117 = some (.iconst 1) := rfl
set_option maxRecDepth 100000 in
theorem mj0_118 : j_code jP 227 118 = some (.goto 72) := rfl
set_option maxRecDepth 100000 in
theorem mj0_121 : j_code jP 227 121 = some (.iconst 0) := rfl
set_option maxRecDepth 100000 in
theorem mj0_122 : j_code jP 227 122 = some (.goto 68) := rfl
set_option maxRecDepth 100000 in
theorem mj0_125 : j_code jP 227 125 = some (.aload_n 0) := rfl
set_option maxRecDepth 100000 in
theorem mj0_126 : j_code jP 227 126 = some (.iload_n 3) := rfl
set_option maxRecDepth 100000 in
theorem mj0_127 : j_code jP 227 127 = some (.bipush 6) := rfl
set_option maxRecDepth 100000 in
theorem mj0_129 : j_code jP 227 129 = some (.invokevirtual 198) := rfl
set_option maxRecDepth 100000 in
theorem mj0_132 : j_code jP 227 132 = some (.iconst 1) := rfl
set_option maxRecDepth 100000 in
theorem mj0_133 : j_code jP 227 133 = some (.if_icmp .ne 56) := rfl
set_option maxRecDepth 100000 in
theorem mj0_136 : j_code jP 227 136 = some (.aload_n 0) := rfl
set_option maxRecDepth 100000 in
theorem mj0_137 : j_code jP 227 137 = some (.iload_n 3) := rfl
set_option maxRecDepth 100000 in
theorem mj0_138 : j_code jP 227 138 = some (.invokevirtual 271) := rfl
set_option maxRecDepth 100000 in
theorem mj0_141 : j_code jP 227 141 = some (.ifCond .ne 48) := rfl
set_option maxRecDepth 100000 in
theorem mj0_144 : j_code jP 227 144 = some (.aload_n 0) := rfl
set_option maxRecDepth 100000 in
theorem mj0_145 : j_code jP 227 145 = some (.iload_n 3) := rfl
set_option maxRecDepth 100000 in
theorem mj0_146 : j_code jP 227 146 = some (.bipush 7) := rfl
set_option maxRecDepth 100000 in
theorem mj0_148 : j_code jP 227 148 = some (.invokevirtual 198) := rfl
set_option maxRecDepth 100000 in
theorem mj0_151 : j_code jP 227 151 = some (.aload_n 0) := rfl
set_option maxRecDepth 100000 in
theorem mj0_152 : j_code jP 227 152 = some (.iload_n 3) := rfl
set_option maxRecDepth 100000 in
theorem mj0_153 : j_code jP 227 153 = some (.iconst 1) := rfl
set_option maxRecDepth 100000 in
theorem mj0_154 : j_code jP 227 154 = some (.invokevirtual 198) := rfl
set_option maxRecDepth 100000 in
theorem mj0_157 : j_code jP 227 157 = some (.if_icmp .ne 28) := rfl
set_option maxRecDepth 100000 in
theorem mj0_160 : j_code jP 227 160 = some (.aload_n 0) := rfl
set_option maxRecDepth 100000 in
theorem mj0_161 : j_code jP 227 161 = some (.iload_n 3) := rfl
set_option maxRecDepth 100000 in
theorem mj0_162 : j_code jP 227 162 = some (.bipush 13) := rfl
set_option maxRecDepth 100000 in
theorem mj0_164 : j_code jP 227 164 = some (.aload_n 0) := rfl
set_option maxRecDepth 100000 in
theorem mj0_165 : j_code jP 227 165 = some (.iload_n 3) := rfl
set_option maxRecDepth 100000 in
theorem mj0_166 : j_code jP 227 166 = some (.iconst 1) := rfl
set_option maxRecDepth 100000 in
theorem mj0_167 : j_code jP 227 167 = some (.invokevirtual 198) := rfl
set_option maxRecDepth 100000 in
theorem mj0_170 : j_code jP 227 170 = some (.iadd) := rfl
set_option maxRecDepth 100000 in
theorem mj0_171 : j_code jP 227 171 = some (.invokevirtual 198) := rfl
set_option maxRecDepth 100000 in
theorem mj0_174 : j_code jP 227 174 = some (.aload_n 0) := rfl
set_option maxRecDepth 100000 in
theorem mj0_175 : j_code jP 227 175 = some (.getfield 7) := rfl
set_option maxRecDepth 100000 in
theorem mj0_178 : j_code jP 227 178 = some (.sipush 201) := rfl
set_option maxRecDepth 100000 in
theorem mj0_181 : j_code jP 227 181 = some (.iaload) := rfl
set_option maxRecDepth 100000 in
theorem mj0_182 : j_code jP 227 182 = some (.if_icmp .eq 7) := rfl
set_option maxRecDepth 100000 in
theorem mj0_185 : j_code jP 227 185 = some (.iconst 1) := rfl
set_option maxRecDepth 100000 in
theorem mj0_186 : j_code jP 227 186 = some (.goto 4) := rfl
set_option maxRecDepth 100000 in
theorem mj0_189 : j_code jP 227 189 = some (.iconst 0) := rfl
set_option maxRecDepth 100000 in
theorem mj0_190 : j_code jP 227 190 = some (.istore 4) := rfl
set_option maxRecDepth 100000 in
theorem mj0_192 : j_code jP 227 192 = some (.iload 4) := rfl
set_option maxRecDepth 100000 in
theorem mj0_194 : j_code jP 227 194 = some (.ifCond .eq 9) := rfl
set_option maxRecDepth 100000 in
theorem mj0_197 : j_code jP 227 197 = some (.aload_n 0) := rfl
set_option maxRecDepth 100000 in
theorem mj0_198 : j_code jP 227 198 = some (.iload_n 3) := rfl
set_option maxRecDepth 100000 in
theorem mj0_199 : j_code jP 227 199 = some (.iload_n 1) := rfl
set_option maxRecDepth 100000 in
theorem mj0_200 : j_code jP 227 200 = some (.invokevirtual 274) := rfl
set_option maxRecDepth 100000 in
theorem mj0_203 : j_code jP 227 203 = some (.iinc 2 1) := rfl
set_option maxRecDepth 100000 in
theorem mj0_206 : j_code jP 227 206 = some (.goto (-150)) := rfl
set_option maxRecDepth 100000 in
theorem mj0_209 : j_code jP 227 209 = some (.iconst 0) := rfl
set_option maxRecDepth 100000 in
theorem mj0_210 : j_code jP 227 210 = some (.istore_n 2) := rfl
set_option maxRecDepth 100000 in
theorem mj0_211 : j_code jP 227 211 = some (.iload_n 2) := rfl
set_option maxRecDepth 100000 in
theorem mj0_212 : j_code jP 227 212 = some (.aload_n 0) := rfl
set_option maxRecDepth 100000 in
theorem mj0_213 : j_code jP 227 213 = some (.getfield 7) := rfl
set_option maxRecDepth 100000 in
theorem mj0_216 : j_code jP 227 216 = some (.sipush 203) := rfl
set_option maxRecDepth 100000 in
theorem mj0_219 : j_code jP 227 219 = some (.iaload) := rfl
set_option maxRecDepth 100000 in
theorem mj0_220 : j_code jP 227 220 = some (.if_icmp .ge 114) := rfl
set_option maxRecDepth 100000 in
theorem mj0_223 : j_code jP 227 223 = some (.aload_n 0) := rfl
set_option maxRecDepth 100000 in
theorem mj0_224 : j_code jP 227 224 = some (.iload_n 2) := rfl
set_option maxRecDepth 100000 in
theorem mj0_225 : j_code jP 227 225 = some (.bipush 6) := rfl
set_option maxRecDepth 100000 in
theorem mj0_227 : j_code jP 227 227 = some (.invokevirtual 198) := rfl
set_option maxRecDepth 100000 in
theorem mj0_230 : j_code jP 227 230 = some (.iconst 2) := rfl
set_option maxRecDepth 100000 in
theorem mj0_231 : j_code jP 227 231 = some (.if_icmp .ne 21) := rfl
set_option maxRecDepth 100000 in
theorem mj0_234 : j_code jP 227 234 = some (.aload_n 0) := rfl
set_option maxRecDepth 100000 in
theorem mj0_235 : j_code jP 227 235 = some (.getfield 7) := rfl
set_option maxRecDepth 100000 in
theorem mj0_238 : j_code jP 227 238 = some (.sipush 204) := rfl
set_option maxRecDepth 100000 in
theorem mj0_241 : j_code jP 227 241 = some (.aload_n 0) := rfl
set_option maxRecDepth 100000 in
theorem mj0_242 : j_code jP 227 242 = some (.iload_n 2) := rfl
set_option maxRecDepth 100000 in
theorem mj0_243 : j_code jP 227 243 = some (.invokevirtual 216) := rfl
set_option maxRecDepth 100000 in
theorem mj0_246 : j_code jP 227 246 = some (.iadd) := rfl
set_option maxRecDepth 100000 in
theorem mj0_247 : j_code jP 227 247 = some (.dup2) := rfl
set_option maxRecDepth 100000 in
theorem mj0_248 : j_code jP 227 248 = some (.iaload) := rfl
set_option maxRecDepth 100000 in
theorem mj0_249 : j_code jP 227 249 = some (.iconst 1) := rfl
set_option maxRecDepth 100000 in
theorem mj0_250 : j_code jP 227 250 = some (.iadd) := rfl
set_option maxRecDepth 100000 in
theorem mj0_251 : j_code jP 227 251 = some (.iastore) := rfl
set_option maxRecDepth 100000 in
theorem mj0_252 : j_code jP 227 252 = some (.aload_n 0) := rfl
set_option maxRecDepth 100000 in
theorem mj0_253 : j_code jP 227 253 = some (.iload_n 2) := rfl
set_option maxRecDepth 100000 in
theorem mj0_254 : j_code jP 227 254 = some (.bipush 6) := rfl
set_option maxRecDepth 100000 in
theorem mj0_256 : j_code jP 227 256 = some (.invokevirtual 198) := rfl
set_option maxRecDepth 100000 in
theorem mj0_259 : j_code jP 227 259 = some (.iconst 1) := rfl
set_option maxRecDepth 100000 in
theorem mj0_260 : j_code jP 227 260 = some (.if_icmp .eq 6) := rfl
set_option maxRecDepth 100000 in
theorem mj0_263 : j_code jP 227 263 = some (.goto 65) := rfl
set_option maxRecDepth 100000 in
theorem mj0_266 : j_code jP 227 266 = some (.aload_n 0) := rfl
set_option maxRecDepth 100000 in
theorem mj0_267 : j_code jP 227 267 = some (.iload_n 2) := rfl
set_option maxRecDepth 100000 in
theorem mj0_268 : j_code jP 227 268 = some (.bipush 12) := rfl
set_option maxRecDepth 100000 in
theorem mj0_270 : j_code jP 227 270 = some (.aload_n 0) := rfl
set_option maxRecDepth 100000 in
theorem mj0_271 : j_code jP 227 271 = some (.iload_n 2) := rfl
set_option maxRecDepth 100000 in
theorem mj0_272 : j_code jP 227 272 = some (.bipush 12) := rfl
set_option maxRecDepth 100000 in
theorem mj0_274 : j_code jP 227 274 = some (.invokevirtual 198) := rfl
set_option maxRecDepth 100000 in
theorem mj0_277 : j_code jP 227 277 = some (.iconst 1) := rfl
set_option maxRecDepth 100000 in
theorem mj0_278 : j_code jP 227 278 = some (.iadd) := rfl
set_option maxRecDepth 100000 in
theorem mj0_279 : j_code jP 227 279 = some (.invokevirtual 238) := rfl
set_option maxRecDepth 100000 in
theorem mj0_282 : j_code jP 227 282 = some (.aload_n 0) := rfl
set_option maxRecDepth 100000 in
theorem mj0_283 : j_code jP 227 283 = some (.getfield 7) := rfl
set_option maxRecDepth 100000 in
theorem mj0_286 : j_code jP 227 286 = some (.sipush 595) := rfl
set_option maxRecDepth 100000 in
theorem mj0_289 : j_code jP 227 289 = some (.aload_n 0) := rfl
set_option maxRecDepth 100000 in
theorem mj0_290 : j_code jP 227 290 = some (.iload_n 2) := rfl
set_option maxRecDepth 100000 in
theorem mj0_291 : j_code jP 227 291 = some (.bipush 7) := rfl
set_option maxRecDepth 100000 in
theorem mj0_293 : j_code jP 227 293 = some (.invokevirtual 198) := rfl
set_option maxRecDepth 100000 in
theorem mj0_296 : j_code jP 227 296 = some (.iadd) := rfl
set_option maxRecDepth 100000 in
theorem mj0_297 : j_code jP 227 297 = some (.dup2) := rfl
set_option maxRecDepth 100000 in
theorem mj0_298 : j_code jP 227 298 = some (.iaload) := rfl
set_option maxRecDepth 100000 in
theorem mj0_299 : j_code jP 227 299 = some (.iconst 1) := rfl
set_option maxRecDepth 100000 in
theorem mj0_300 : j_code jP 227 300 = some (.iadd) := rfl
set_option maxRecDepth 100000 in
theorem mj0_301 : j_code jP 227 301 = some (.iastore) := rfl
set_option maxRecDepth 100000 in
theorem mj0_302 : j_code jP 227 302 = some (.iconst 0) := rfl
set_option maxRecDepth 100000 in
theorem mj0_303 : j_code jP 227 303 = some (.istore_n 3) := rfl
set_option maxRecDepth 100000 in
theorem mj0_304 : j_code jP 227 304 = some (.iload_n 3) := rfl
set_option maxRecDepth 100000 in
theorem mj0_305 : j_code jP 227 305 = some (.aload_n 0) := rfl
set_option maxRecDepth 100000 in
theorem mj0_306 : j_code jP 227 306 = some (.getfield 7) := rfl
set_option maxRecDepth 100000 in
theorem mj0_309 : j_code jP 227 309 = some (.sipush 203) := rfl
set_option maxRecDepth 100000 in
theorem mj0_312 : j_code jP 227 312 = some (.iaload) := rfl
set_option maxRecDepth 100000 in
theorem mj0_313 : j_code jP 227 313 = some (.if_icmp .ge 15) := rfl
set_option maxRecDepth 100000 in
theorem mj0_316 : j_code jP 227 316 = some (.aload_n 0) := rfl
set_option maxRecDepth 100000 in
theorem mj0_317 : j_code jP 227 317 = some (.iload_n 2) := rfl
set_option maxRecDepth 100000 in
theorem mj0_318 : j_code jP 227 318 = some (.iload_n 3) := rfl
set_option maxRecDepth 100000 in
theorem mj0_319 : j_code jP 227 319 = some (.invokevirtual 278) := rfl
set_option maxRecDepth 100000 in
theorem mj0_322 : j_code jP 227 322 = some (.iinc 3 1) := rfl
set_option maxRecDepth 100000 in
theorem mj0_325 : j_code jP 227 325 = some (.goto (-21)) := rfl
set_option maxRecDepth 100000 in
theorem mj0_328 : j_code jP 227 328 = some (.iinc 2 1) := rfl
set_option maxRecDepth 100000 in
theorem mj0_331 : j_code jP 227 331 = some (.goto (-120)) := rfl
set_option maxRecDepth 100000 in
theorem mj0_334 : j_code jP 227 334 = some (.aload_n 0) := rfl
set_option maxRecDepth 100000 in
theorem mj0_335 : j_code jP 227 335 = some (.getfield 7) := rfl
set_option maxRecDepth 100000 in
theorem mj0_338 : j_code jP 227 338 = some (.sipush 201) := rfl
set_option maxRecDepth 100000 in
theorem mj0_341 : j_code jP 227 341 = some (.dup2) := rfl
set_option maxRecDepth 100000 in
theorem mj0_342 : j_code jP 227 342 = some (.iaload) := rfl
set_option maxRecDepth 100000 in
theorem mj0_343 : j_code jP 227 343 = some (.iconst 1) := rfl
set_option maxRecDepth 100000 in
theorem mj0_344 : j_code jP 227 344 = some (.iadd) := rfl
set_option maxRecDepth 100000 in
theorem mj0_345 : j_code jP 227 345 = some (.iastore) := rfl
set_option maxRecDepth 100000 in
theorem mj0_346 : j_code jP 227 346 = some (.return_) := rfl
def m_mA1 (w : List Int32) (t : Int32) : List Int32 := (if (m_of w t 6) = 2 then (if (gA w 201) < (m_of w t 9) then w else (m_arrives w t)) else w)
def m_mA : Nat → Nat → List Int32 → List Int32
  | 0, _, w => w
  | f + 1, t, w => m_mA f (t + 1) (m_mA1 w (nI t))
set_option maxRecDepth 1000000 in
theorem mj0_ok_l2 {u : Nat → Value} {n d : Nat} {h0 : J_H} {Q : Option Value → J_H → Prop} {ot tk : List Int32} {tm x1 : Int32} {I : List Int32 → Prop} (hn5 : n ≤ 5) (hI1 : ∀ w, I w → w.length = 602 ∧ gA w 203 = nI n) (hA : ∀ w t, t < n → I w → I (m_mA1 w (nI t))) : ∀ (f t : Nat) (w : List Int32) {lv : J_L} {h : J_H}, t + f = n → I w → LK lv [(0, .ref 359), (1, .int x1), (2, .int (nI t))] → KN h [(359, .inl (10, [(u 0), .ref 360, .ref 361, .ref 362, .ref 363, .ref 364, .ref 365, .ref 366, .ref 367, (u 9), (u 10), (u 11), (u 12), (u 13), (u 14), (u 15), (u 16), (u 17), (u 18), (u 19), (u 20), (u 21), .ref 368, .int tm, .ref 369, .ref 370, .ref 371, (u 27)])), (360, .inr (.inl (0, w))), (363, .inr (.inl (0, ot))), (368, .inr (.inl (0, tk)))] h0 → (∀ lv h (w' : List Int32), w' = m_mA f t w → I w' → LK lv [(0, .ref 359), (1, .int x1)] → KN h [(359, .inl (10, [(u 0), .ref 360, .ref 361, .ref 362, .ref 363, .ref 364, .ref 365, .ref 366, .ref 367, (u 9), (u 10), (u 11), (u 12), (u 13), (u 14), (u 15), (u 16), (u 17), (u 18), (u 19), (u 20), (u 21), .ref 368, .int tm, .ref 369, .ref 370, .ref 371, (u 27)])), (360, .inr (.inl (0, w'))), (363, .inr (.inl (0, ot))), (368, .inr (.inl (0, tk)))] h0 → j_V jP d 227 54 lv [] h Q) → j_V jP d 227 2 lv [] h Q := by
  intro f
  induction f with
  | zero =>
    intro t w lv h e hI L K kk
    refine j_V.ldL mj0_M mj0_2 rfl (i := 2) (kd := 0) (v := .int (nI t)) (pcJ := 3) rfl L rfl rfl rfl ?_
    refine j_V.ldL mj0_M mj0_3 rfl (i := 0) (kd := 2) (v := .ref 359) (pcJ := 4) rfl L rfl rfl rfl ?_
    refine j_V.getK mj0_M mj0_4 (ci := 10) (j := 1) rfl K rfl rfl ?_
    refine j_V.one mj0_M mj0_7 (by decide) (pcJ := 10) (stJ := [.int 203, .ref 360, .int (nI t)]) rfl ?_
    refine j_V.iaA mj0_M mj0_10 K rfl ?_
    refine j_V.icmp mj0_M mj0_11 (t := 54) rfl (fun c11_0 => ?_) (fun c11_0 => ?_)
    · replace c11_0 : ¬ ((nI t) < (gA w 203)) := jd_ge c11_0
      exact kk _ h _ rfl hI (L.sub ⟨rfl, rfl, trivial⟩) K
    · replace c11_0 : (nI t) < (gA w 203) := jd_gen c11_0
      exact absurd c11_0 (by rw [(hI1 _ hI).2, nI_lt9 (by omega) (by omega)]; omega)
  | succ f ih =>
    intro t w lv h e hI L K kk
    refine j_V.ldL mj0_M mj0_2 rfl (i := 2) (kd := 0) (v := .int (nI t)) (pcJ := 3) rfl L rfl rfl rfl ?_
    refine j_V.ldL mj0_M mj0_3 rfl (i := 0) (kd := 2) (v := .ref 359) (pcJ := 4) rfl L rfl rfl rfl ?_
    refine j_V.getK mj0_M mj0_4 (ci := 10) (j := 1) rfl K rfl rfl ?_
    refine j_V.one mj0_M mj0_7 (by decide) (pcJ := 10) (stJ := [.int 203, .ref 360, .int (nI t)]) rfl ?_
    refine j_V.iaA mj0_M mj0_10 K rfl ?_
    refine j_V.icmp mj0_M mj0_11 (t := 54) rfl (fun c11_0 => ?_) (fun c11_0 => ?_)
    · replace c11_0 : ¬ ((nI t) < (gA w 203)) := jd_ge c11_0
      exact absurd (show nI t < gA w 203 by rw [(hI1 _ hI).2, nI_lt9 (by omega) (by omega)]; omega) c11_0
    · replace c11_0 : (nI t) < (gA w 203) := jd_gen c11_0
      refine j_V.ldL mj0_M mj0_14 rfl (i := 0) (kd := 2) (v := .ref 359) (pcJ := 15) rfl L rfl rfl rfl ?_
      refine j_V.ldL mj0_M mj0_15 rfl (i := 2) (kd := 0) (v := .int (nI t)) (pcJ := 16) rfl L rfl rfl rfl ?_
      refine j_V.one mj0_M mj0_16 (by decide) (pcJ := 18) (stJ := [.int 6, .int (nI t), .ref 359]) rfl ?_
      refine j_V.cl mj0_M mj0_18 rfl (md := 3) (mj := 178) rfl (by decide) ma3_M (As := [.ref 359, .int (nI t), .int 6]) (rest := []) (jk_spl3 (K.at rfl) rfl rfl rfl (Nat.le_of_ble_eq_true rfl) (Nat.le_of_ble_eq_true rfl)) (fun d => ma3_ok (u := fun j => [(u 0), .ref 360, .ref 361, .ref 362, .ref 363, .ref 364, .ref 365, .ref 366, .ref 367, (u 9), (u 10), (u 11), (u 12), (u 13), (u 14), (u 15), (u 16), (u 17), (u 18), (u 19), (u 20), (u 21), .ref 368, .int tm, .ref 369, .ref 370, .ref 371, (u 27)].getD j .null) (K.fi [359, 360] rfl rfl)) ?_
      rintro r hz ⟨rfl, ez⟩
      rw [ez]
      clear ez
      show j_V jP _ 227 21 lv [.int (m_of w (nI t) 6)] h _
      refine j_V.one mj0_M mj0_21 (by decide) (pcJ := 22) (stJ := [.int 2, .int (m_of w (nI t) 6)]) rfl ?_
      refine j_V.icmp mj0_M mj0_22 (t := 48) rfl (fun c22_0 => ?_) (fun c22_0 => ?_)
      · replace c22_0 : ¬ ((m_of w (nI t) 6) = 2) := jd_ne c22_0
        refine j_V.inL mj0_M mj0_48 (i := 2) (kl' := [(0, .ref 359), (1, .int x1), (2, .int ((nI t) + 1))]) (pcJ := 51) L rfl rfl rfl rfl (fun lv L => ?_)
        refine j_V.gto mj0_M mj0_51 (t := 2) rfl ?_
        rw [nI_one] at L
        have e8 : m_mA1 w (nI t) = w := (if_neg c22_0).trans (rfl)
        have hI := hA w t (by omega) hI
        rw [e8] at hI
        exact ih (t + 1) _ (by omega) hI L K (fun lv h w9 e9 => kk lv h w9 (by rw [e9]; show _ = m_mA f (t + 1) (m_mA1 w (nI t)); rw [e8]))
      · replace c22_0 : (m_of w (nI t) 6) = 2 := jd_nen c22_0
        refine j_V.ldL mj0_M mj0_25 rfl (i := 0) (kd := 2) (v := .ref 359) (pcJ := 26) rfl L rfl rfl rfl ?_
        refine j_V.ldL mj0_M mj0_26 rfl (i := 2) (kd := 0) (v := .int (nI t)) (pcJ := 27) rfl L rfl rfl rfl ?_
        refine j_V.one mj0_M mj0_27 (by decide) (pcJ := 29) (stJ := [.int 9, .int (nI t), .ref 359]) rfl ?_
        refine j_V.cl mj0_M mj0_29 rfl (md := 3) (mj := 178) rfl (by decide) ma3_M (As := [.ref 359, .int (nI t), .int 9]) (rest := []) (jk_spl3 (K.at rfl) rfl rfl rfl (Nat.le_of_ble_eq_true rfl) (Nat.le_of_ble_eq_true rfl)) (fun d => ma3_ok (u := fun j => [(u 0), .ref 360, .ref 361, .ref 362, .ref 363, .ref 364, .ref 365, .ref 366, .ref 367, (u 9), (u 10), (u 11), (u 12), (u 13), (u 14), (u 15), (u 16), (u 17), (u 18), (u 19), (u 20), (u 21), .ref 368, .int tm, .ref 369, .ref 370, .ref 371, (u 27)].getD j .null) (K.fi [359, 360] rfl rfl)) ?_
        rintro r hz ⟨rfl, ez⟩
        rw [ez]
        clear ez
        show j_V jP _ 227 32 lv [.int (m_of w (nI t) 9)] h _
        refine j_V.ldL mj0_M mj0_32 rfl (i := 0) (kd := 2) (v := .ref 359) (pcJ := 33) rfl L rfl rfl rfl ?_
        refine j_V.getK mj0_M mj0_33 (ci := 10) (j := 1) rfl K rfl rfl ?_
        refine j_V.one mj0_M mj0_36 (by decide) (pcJ := 39) (stJ := [.int 201, .ref 360, .int (m_of w (nI t) 9)]) rfl ?_
        refine j_V.iaA mj0_M mj0_39 K rfl ?_
        refine j_V.icmp mj0_M mj0_40 (t := 48) rfl (fun c40_1 => ?_) (fun c40_1 => ?_)
        · replace c40_1 : (gA w 201) < (m_of w (nI t) 9) := jd_gt c40_1
          refine j_V.inL mj0_M mj0_48 (i := 2) (kl' := [(0, .ref 359), (1, .int x1), (2, .int ((nI t) + 1))]) (pcJ := 51) L rfl rfl rfl rfl (fun lv L => ?_)
          refine j_V.gto mj0_M mj0_51 (t := 2) rfl ?_
          rw [nI_one] at L
          have e8 : m_mA1 w (nI t) = w := (if_pos c22_0).trans ((if_pos c40_1).trans (rfl))
          have hI := hA w t (by omega) hI
          rw [e8] at hI
          exact ih (t + 1) _ (by omega) hI L K (fun lv h w9 e9 => kk lv h w9 (by rw [e9]; show _ = m_mA f (t + 1) (m_mA1 w (nI t)); rw [e8]))
        · replace c40_1 : ¬ ((gA w 201) < (m_of w (nI t) 9)) := jd_gtn c40_1
          refine j_V.ldL mj0_M mj0_43 rfl (i := 0) (kd := 2) (v := .ref 359) (pcJ := 44) rfl L rfl rfl rfl ?_
          refine j_V.ldL mj0_M mj0_44 rfl (i := 2) (kd := 0) (v := .int (nI t)) (pcJ := 45) rfl L rfl rfl rfl ?_
          refine j_V.cl mj0_M mj0_45 rfl (md := 3) (mj := 223) rfl (by decide) me3_M (As := [.ref 359, .int (nI t)]) (rest := []) (jk_spl3 (K.at rfl) rfl rfl rfl (Nat.le_of_ble_eq_true rfl) (Nat.le_of_ble_eq_true rfl)) (fun d => me3_ok (u := fun j => [(u 0), .ref 360, .ref 361, .ref 362, .ref 363, .ref 364, .ref 365, .ref 366, .ref 367, (u 9), (u 10), (u 11), (u 12), (u 13), (u 14), (u 15), (u 16), (u 17), (u 18), (u 19), (u 20), (u 21), .ref 368, .int tm, .ref 369, .ref 370, .ref 371, (u 27)].getD j .null) (K.fi [359, 360] rfl rfl)) ?_
          rintro r h9 ⟨rfl, K9⟩
          have K : KN h9 [(359, .inl (10, [(u 0), .ref 360, .ref 361, .ref 362, .ref 363, .ref 364, .ref 365, .ref 366, .ref 367, (u 9), (u 10), (u 11), (u 12), (u 13), (u 14), (u 15), (u 16), (u 17), (u 18), (u 19), (u 20), (u 21), .ref 368, .int tm, .ref 369, .ref 370, .ref 371, (u 27)])), (360, .inr (.inl (0, (m_arrives w (nI t))))), (363, .inr (.inl (0, ot))), (368, .inr (.inl (0, tk)))] h0 := K.mg K9 rfl rfl
          clear K9
          show j_V jP _ 227 48 lv [] h9 _
          refine j_V.inL mj0_M mj0_48 (i := 2) (kl' := [(0, .ref 359), (1, .int x1), (2, .int ((nI t) + 1))]) (pcJ := 51) L rfl rfl rfl rfl (fun lv L => ?_)
          refine j_V.gto mj0_M mj0_51 (t := 2) rfl ?_
          rw [nI_one] at L
          have e8 : m_mA1 w (nI t) = (m_arrives w (nI t)) := (if_pos c22_0).trans ((if_neg c40_1).trans (rfl))
          have hI := hA w t (by omega) hI
          rw [e8] at hI
          exact ih (t + 1) _ (by omega) hI L K (fun lv h w9 e9 => kk lv h w9 (by rw [e9]; show _ = m_mA f (t + 1) (m_mA1 w (nI t)); rw [e8]))
/-- whether a train may try its move in this minute -/
def m_may (w : List Int32) (t : Int32) : Int32 := ((if (m_of w t 6) = 0 then (if (gA w 201) < (m_of w t 3) then 0 else 1) else (if (m_of w t 6) = 1 then (if (m_isKept w t) = 0 then (if (m_of w t 7) = (m_of w t 1) then (if (m_of w t (13 + (m_of w t 1))) = (gA w 201) then 0 else 1) else 1) else 0) else 0)) : Int32)
def m_mM1 (w : List Int32) (n : Nat) (care k : Int32) : List Int32 := (if (m_isHeld w (gA w (196 + k))) = 0 then (if (m_may w (gA w (196 + k))) = 0 then w else (m_tries w n (gA w (196 + k)) care)) else w)
def m_mM (n : Nat) (care : Int32) : Nat → Nat → List Int32 → List Int32
  | 0, _, w => w
  | f + 1, k, w => m_mM n care f (k + 1) (m_mM1 w n care (nI k))
set_option maxRecDepth 1000000 in
theorem mj0_ok_l56 {u : Nat → Value} {n d : Nat} {h0 : J_H} {Q : Option Value → J_H → Prop} {x1 : Int32} {I : List Int32 → Prop} (hn5 : n ≤ 5) (hI1 : ∀ w, I w → w.length = 602 ∧ gA w 203 = nI n) (hM : ∀ w k, k < n → I w → I (m_mM1 w n x1 (nI k)) ∧ ((m_isHeld w (gA w (196 + (nI k)))) = 0 → ¬ (m_may w (gA w (196 + (nI k)))) = 0 → ¬ x1 = 0 → m_whyNot w (gA w (196 + (nI k))) = 0 → m_sfok (m_sets w (gA w (196 + (nI k)))) n)) : ∀ (f k : Nat) (w : List Int32) {ot tk : List Int32} {tm : Int32} {lv : J_L} {h : J_H}, k + f = n → ot.length = 602 → I w → LK lv [(0, .ref 359), (1, .int x1), (2, .int (nI k))] → KN h [(359, .inl (10, [(u 0), .ref 360, .ref 361, .ref 362, .ref 363, .ref 364, .ref 365, .ref 366, .ref 367, (u 9), (u 10), (u 11), (u 12), (u 13), (u 14), (u 15), (u 16), (u 17), (u 18), (u 19), (u 20), (u 21), .ref 368, .int tm, .ref 369, .ref 370, .ref 371, (u 27)])), (360, .inr (.inl (0, w))), (363, .inr (.inl (0, ot))), (368, .inr (.inl (0, tk)))] h0 → (∀ lv h (ot tk : List Int32) (tm : Int32) (w' : List Int32), ot.length = 602 → w' = m_mM n x1 f k w → I w' → LK lv [(0, .ref 359), (1, .int x1)] → KN h [(359, .inl (10, [(u 0), .ref 360, .ref 361, .ref 362, .ref 363, .ref 364, .ref 365, .ref 366, .ref 367, (u 9), (u 10), (u 11), (u 12), (u 13), (u 14), (u 15), (u 16), (u 17), (u 18), (u 19), (u 20), (u 21), .ref 368, .int tm, .ref 369, .ref 370, .ref 371, (u 27)])), (360, .inr (.inl (0, w'))), (363, .inr (.inl (0, ot))), (368, .inr (.inl (0, tk)))] h0 → j_V jP d 227 209 lv [] h Q) → j_V jP d 227 56 lv [] h Q := by
  intro f
  induction f with
  | zero =>
    intro k w ot tk tm lv h e ho hI L K kk
    refine j_V.ldL mj0_M mj0_56 rfl (i := 2) (kd := 0) (v := .int (nI k)) (pcJ := 57) rfl L rfl rfl rfl ?_
    refine j_V.ldL mj0_M mj0_57 rfl (i := 0) (kd := 2) (v := .ref 359) (pcJ := 58) rfl L rfl rfl rfl ?_
    refine j_V.getK mj0_M mj0_58 (ci := 10) (j := 1) rfl K rfl rfl ?_
    refine j_V.one mj0_M mj0_61 (by decide) (pcJ := 64) (stJ := [.int 203, .ref 360, .int (nI k)]) rfl ?_
    refine j_V.iaA mj0_M mj0_64 K rfl ?_
    refine j_V.icmp mj0_M mj0_65 (t := 209) rfl (fun c65_0 => ?_) (fun c65_0 => ?_)
    · replace c65_0 : ¬ ((nI k) < (gA w 203)) := jd_ge c65_0
      exact kk _ h _ _ _ _ ho rfl hI (L.sub ⟨rfl, rfl, trivial⟩) K
    · replace c65_0 : (nI k) < (gA w 203) := jd_gen c65_0
      exact absurd c65_0 (by rw [(hI1 _ hI).2, nI_lt9 (by omega) (by omega)]; omega)
  | succ f ih =>
    intro k w ot tk tm lv h e ho hI L K kk
    refine j_V.ldL mj0_M mj0_56 rfl (i := 2) (kd := 0) (v := .int (nI k)) (pcJ := 57) rfl L rfl rfl rfl ?_
    refine j_V.ldL mj0_M mj0_57 rfl (i := 0) (kd := 2) (v := .ref 359) (pcJ := 58) rfl L rfl rfl rfl ?_
    refine j_V.getK mj0_M mj0_58 (ci := 10) (j := 1) rfl K rfl rfl ?_
    refine j_V.one mj0_M mj0_61 (by decide) (pcJ := 64) (stJ := [.int 203, .ref 360, .int (nI k)]) rfl ?_
    refine j_V.iaA mj0_M mj0_64 K rfl ?_
    refine j_V.icmp mj0_M mj0_65 (t := 209) rfl (fun c65_0 => ?_) (fun c65_0 => ?_)
    · replace c65_0 : ¬ ((nI k) < (gA w 203)) := jd_ge c65_0
      exact absurd (show nI k < gA w 203 by rw [(hI1 _ hI).2, nI_lt9 (by omega) (by omega)]; omega) c65_0
    · replace c65_0 : (nI k) < (gA w 203) := jd_gen c65_0
      refine j_V.ldL mj0_M mj0_68 rfl (i := 0) (kd := 2) (v := .ref 359) (pcJ := 69) rfl L rfl rfl rfl ?_
      refine j_V.getK mj0_M mj0_69 (ci := 10) (j := 1) rfl K rfl rfl ?_
      refine j_V.one mj0_M mj0_72 (by decide) (pcJ := 75) (stJ := [.int 196, .ref 360]) rfl ?_
      refine j_V.ldL mj0_M mj0_75 rfl (i := 2) (kd := 0) (v := .int (nI k)) (pcJ := 76) rfl L rfl rfl rfl ?_
      refine j_V.one mj0_M mj0_76 (by decide) (pcJ := 77) (stJ := [.int (196 + (nI k)), .ref 360]) rfl ?_
      refine j_V.iaA mj0_M mj0_77 K rfl ?_
      refine j_V.stL mj0_M mj0_78 rfl (i := 3) (kd := 0) (kl' := [(0, .ref 359), (1, .int x1), (2, .int (nI k)), (3, .int (gA w (196 + (nI k))))]) (pcJ := 79) rfl L rfl (by decide) rfl rfl rfl (fun lv L => ?_)
      refine j_V.ldL mj0_M mj0_79 rfl (i := 0) (kd := 2) (v := .ref 359) (pcJ := 80) rfl L rfl rfl rfl ?_
      refine j_V.ldL mj0_M mj0_80 rfl (i := 3) (kd := 0) (v := .int (gA w (196 + (nI k)))) (pcJ := 81) rfl L rfl rfl rfl ?_
      refine j_V.cl mj0_M mj0_81 rfl (md := 3) (mj := 221) rfl (by decide) mb8_M (As := [.ref 359, .int (gA w (196 + (nI k)))]) (rest := []) (jk_spl3 (K.at rfl) rfl rfl rfl (Nat.le_of_ble_eq_true rfl) (Nat.le_of_ble_eq_true rfl)) (fun d => mb8_ok (u := fun j => [(u 0), .ref 360, .ref 361, .ref 362, .ref 363, .ref 364, .ref 365, .ref 366, .ref 367, (u 9), (u 10), (u 11), (u 12), (u 13), (u 14), (u 15), (u 16), (u 17), (u 18), (u 19), (u 20), (u 21), .ref 368, .int tm, .ref 369, .ref 370, .ref 371, (u 27)].getD j .null) (K.fi [359, 360] rfl rfl)) ?_
      rintro r hz ⟨rfl, ez⟩
      rw [ez]
      clear ez
      show j_V jP _ 227 84 lv [.int (m_isHeld w (gA w (196 + (nI k))))] h _
      refine j_V.ifc mj0_M mj0_84 (t := 90) rfl (fun c84_0 => ?_) (fun c84_0 => ?_)
      · replace c84_0 : (m_isHeld w (gA w (196 + (nI k)))) = 0 := jd_eq c84_0
        refine j_V.ldL mj0_M mj0_90 rfl (i := 0) (kd := 2) (v := .ref 359) (pcJ := 91) rfl L rfl rfl rfl ?_
        refine j_V.ldL mj0_M mj0_91 rfl (i := 3) (kd := 0) (v := .int (gA w (196 + (nI k)))) (pcJ := 92) rfl L rfl rfl rfl ?_
        refine j_V.one mj0_M mj0_92 (by decide) (pcJ := 94) (stJ := [.int 6, .int (gA w (196 + (nI k))), .ref 359]) rfl ?_
        refine j_V.cl mj0_M mj0_94 rfl (md := 3) (mj := 178) rfl (by decide) ma3_M (As := [.ref 359, .int (gA w (196 + (nI k))), .int 6]) (rest := []) (jk_spl3 (K.at rfl) rfl rfl rfl (Nat.le_of_ble_eq_true rfl) (Nat.le_of_ble_eq_true rfl)) (fun d => ma3_ok (u := fun j => [(u 0), .ref 360, .ref 361, .ref 362, .ref 363, .ref 364, .ref 365, .ref 366, .ref 367, (u 9), (u 10), (u 11), (u 12), (u 13), (u 14), (u 15), (u 16), (u 17), (u 18), (u 19), (u 20), (u 21), .ref 368, .int tm, .ref 369, .ref 370, .ref 371, (u 27)].getD j .null) (K.fi [359, 360] rfl rfl)) ?_
        rintro r hz ⟨rfl, ez⟩
        rw [ez]
        clear ez
        show j_V jP _ 227 97 lv [.int (m_of w (gA w (196 + (nI k))) 6)] h _
        refine j_V.cut (b := 190) (stJ := [.int ((if (m_of w (gA w (196 + (nI k))) 6) = 0 then (if (gA w 201) < (m_of w (gA w (196 + (nI k))) 3) then 0 else 1) else (if (m_of w (gA w (196 + (nI k))) 6) = 1 then (if (m_isKept w (gA w (196 + (nI k)))) = 0 then (if (m_of w (gA w (196 + (nI k))) 7) = (m_of w (gA w (196 + (nI k))) 1) then (if (m_of w (gA w (196 + (nI k))) (13 + (m_of w (gA w (196 + (nI k))) 1))) = (gA w 201) then 0 else 1) else 1) else 0) else 0)) : Int32)]) (fun v => [(0, .ref 359), (1, .int x1), (2, .int (nI k)), (3, .int (gA w (196 + (nI k))))]) ((if (m_of w (gA w (196 + (nI k))) 6) = 0 then (if (gA w 201) < (m_of w (gA w (196 + (nI k))) 3) then 0 else 1) else (if (m_of w (gA w (196 + (nI k))) 6) = 1 then (if (m_isKept w (gA w (196 + (nI k)))) = 0 then (if (m_of w (gA w (196 + (nI k))) 7) = (m_of w (gA w (196 + (nI k))) 1) then (if (m_of w (gA w (196 + (nI k))) (13 + (m_of w (gA w (196 + (nI k))) 1))) = (gA w 201) then 0 else 1) else 1) else 0) else 0)) : Int32) (fun Q kk => ?_) (fun lv L => ?_)
        · refine j_V.ifc mj0_M mj0_97 (t := 125) rfl (fun c97_0 => ?_) (fun c97_0 => ?_)
          · replace c97_0 : ¬ ((m_of w (gA w (196 + (nI k))) 6) = 0) := jd_ne c97_0
            refine j_V.ldL mj0_M mj0_125 rfl (i := 0) (kd := 2) (v := .ref 359) (pcJ := 126) rfl L rfl rfl rfl ?_
            refine j_V.ldL mj0_M mj0_126 rfl (i := 3) (kd := 0) (v := .int (gA w (196 + (nI k)))) (pcJ := 127) rfl L rfl rfl rfl ?_
            refine j_V.one mj0_M mj0_127 (by decide) (pcJ := 129) (stJ := [.int 6, .int (gA w (196 + (nI k))), .ref 359]) rfl ?_
            refine j_V.cl mj0_M mj0_129 rfl (md := 3) (mj := 178) rfl (by decide) ma3_M (As := [.ref 359, .int (gA w (196 + (nI k))), .int 6]) (rest := []) (jk_spl3 (K.at rfl) rfl rfl rfl (Nat.le_of_ble_eq_true rfl) (Nat.le_of_ble_eq_true rfl)) (fun d => ma3_ok (u := fun j => [(u 0), .ref 360, .ref 361, .ref 362, .ref 363, .ref 364, .ref 365, .ref 366, .ref 367, (u 9), (u 10), (u 11), (u 12), (u 13), (u 14), (u 15), (u 16), (u 17), (u 18), (u 19), (u 20), (u 21), .ref 368, .int tm, .ref 369, .ref 370, .ref 371, (u 27)].getD j .null) (K.fi [359, 360] rfl rfl)) ?_
            rintro r hz ⟨rfl, ez⟩
            rw [ez]
            clear ez
            show j_V jP _ 227 132 lv [.int (m_of w (gA w (196 + (nI k))) 6)] h _
            refine j_V.one mj0_M mj0_132 (by decide) (pcJ := 133) (stJ := [.int 1, .int (m_of w (gA w (196 + (nI k))) 6)]) rfl ?_
            refine j_V.icmp mj0_M mj0_133 (t := 189) rfl (fun c133_1 => ?_) (fun c133_1 => ?_)
            · replace c133_1 : ¬ ((m_of w (gA w (196 + (nI k))) 6) = 1) := jd_ne c133_1
              refine j_V.one mj0_M mj0_189 (by decide) (pcJ := 190) (stJ := [.int 0]) rfl ?_
              exact Eq.subst (motive := fun z => j_V jP _ 227 190 _ (.int z :: []) h Q) (show ((if (m_of w (gA w (196 + (nI k))) 6) = 0 then (if (gA w 201) < (m_of w (gA w (196 + (nI k))) 3) then 0 else 1) else (if (m_of w (gA w (196 + (nI k))) 6) = 1 then (if (m_isKept w (gA w (196 + (nI k)))) = 0 then (if (m_of w (gA w (196 + (nI k))) 7) = (m_of w (gA w (196 + (nI k))) 1) then (if (m_of w (gA w (196 + (nI k))) (13 + (m_of w (gA w (196 + (nI k))) 1))) = (gA w 201) then 0 else 1) else 1) else 0) else 0)) : Int32) = 0 from (if_neg c97_0).trans ((if_neg c133_1).trans (rfl))) (kk _ L)
            · replace c133_1 : (m_of w (gA w (196 + (nI k))) 6) = 1 := jd_nen c133_1
              refine j_V.ldL mj0_M mj0_136 rfl (i := 0) (kd := 2) (v := .ref 359) (pcJ := 137) rfl L rfl rfl rfl ?_
              refine j_V.ldL mj0_M mj0_137 rfl (i := 3) (kd := 0) (v := .int (gA w (196 + (nI k)))) (pcJ := 138) rfl L rfl rfl rfl ?_
              refine j_V.cl mj0_M mj0_138 rfl (md := 3) (mj := 226) rfl (by decide) mc1_M (As := [.ref 359, .int (gA w (196 + (nI k)))]) (rest := []) (jk_spl3 (K.at rfl) rfl rfl rfl (Nat.le_of_ble_eq_true rfl) (Nat.le_of_ble_eq_true rfl)) (fun d => mc1_ok (u := fun j => [(u 0), .ref 360, .ref 361, .ref 362, .ref 363, .ref 364, .ref 365, .ref 366, .ref 367, (u 9), (u 10), (u 11), (u 12), (u 13), (u 14), (u 15), (u 16), (u 17), (u 18), (u 19), (u 20), (u 21), .ref 368, .int tm, .ref 369, .ref 370, .ref 371, (u 27)].getD j .null) (K.fi [359, 360] rfl rfl)) ?_
              rintro r hz ⟨rfl, ez⟩
              rw [ez]
              clear ez
              show j_V jP _ 227 141 lv [.int (m_isKept w (gA w (196 + (nI k))))] h _
              refine j_V.ifc mj0_M mj0_141 (t := 189) rfl (fun c141_2 => ?_) (fun c141_2 => ?_)
              · replace c141_2 : ¬ ((m_isKept w (gA w (196 + (nI k)))) = 0) := jd_ne c141_2
                refine j_V.one mj0_M mj0_189 (by decide) (pcJ := 190) (stJ := [.int 0]) rfl ?_
                exact Eq.subst (motive := fun z => j_V jP _ 227 190 _ (.int z :: []) h Q) (show ((if (m_of w (gA w (196 + (nI k))) 6) = 0 then (if (gA w 201) < (m_of w (gA w (196 + (nI k))) 3) then 0 else 1) else (if (m_of w (gA w (196 + (nI k))) 6) = 1 then (if (m_isKept w (gA w (196 + (nI k)))) = 0 then (if (m_of w (gA w (196 + (nI k))) 7) = (m_of w (gA w (196 + (nI k))) 1) then (if (m_of w (gA w (196 + (nI k))) (13 + (m_of w (gA w (196 + (nI k))) 1))) = (gA w 201) then 0 else 1) else 1) else 0) else 0)) : Int32) = 0 from (if_neg c97_0).trans ((if_pos c133_1).trans ((if_neg c141_2).trans (rfl)))) (kk _ L)
              · replace c141_2 : (m_isKept w (gA w (196 + (nI k)))) = 0 := jd_nen c141_2
                refine j_V.ldL mj0_M mj0_144 rfl (i := 0) (kd := 2) (v := .ref 359) (pcJ := 145) rfl L rfl rfl rfl ?_
                refine j_V.ldL mj0_M mj0_145 rfl (i := 3) (kd := 0) (v := .int (gA w (196 + (nI k)))) (pcJ := 146) rfl L rfl rfl rfl ?_
                refine j_V.one mj0_M mj0_146 (by decide) (pcJ := 148) (stJ := [.int 7, .int (gA w (196 + (nI k))), .ref 359]) rfl ?_
                refine j_V.cl mj0_M mj0_148 rfl (md := 3) (mj := 178) rfl (by decide) ma3_M (As := [.ref 359, .int (gA w (196 + (nI k))), .int 7]) (rest := []) (jk_spl3 (K.at rfl) rfl rfl rfl (Nat.le_of_ble_eq_true rfl) (Nat.le_of_ble_eq_true rfl)) (fun d => ma3_ok (u := fun j => [(u 0), .ref 360, .ref 361, .ref 362, .ref 363, .ref 364, .ref 365, .ref 366, .ref 367, (u 9), (u 10), (u 11), (u 12), (u 13), (u 14), (u 15), (u 16), (u 17), (u 18), (u 19), (u 20), (u 21), .ref 368, .int tm, .ref 369, .ref 370, .ref 371, (u 27)].getD j .null) (K.fi [359, 360] rfl rfl)) ?_
                rintro r hz ⟨rfl, ez⟩
                rw [ez]
                clear ez
                show j_V jP _ 227 151 lv [.int (m_of w (gA w (196 + (nI k))) 7)] h _
                refine j_V.ldL mj0_M mj0_151 rfl (i := 0) (kd := 2) (v := .ref 359) (pcJ := 152) rfl L rfl rfl rfl ?_
                refine j_V.ldL mj0_M mj0_152 rfl (i := 3) (kd := 0) (v := .int (gA w (196 + (nI k)))) (pcJ := 153) rfl L rfl rfl rfl ?_
                refine j_V.one mj0_M mj0_153 (by decide) (pcJ := 154) (stJ := [.int 1, .int (gA w (196 + (nI k))), .ref 359, .int (m_of w (gA w (196 + (nI k))) 7)]) rfl ?_
                refine j_V.cl mj0_M mj0_154 rfl (md := 3) (mj := 178) rfl (by decide) ma3_M (As := [.ref 359, .int (gA w (196 + (nI k))), .int 1]) (rest := [.int (m_of w (gA w (196 + (nI k))) 7)]) (jk_spl3 (K.at rfl) rfl rfl rfl (Nat.le_of_ble_eq_true rfl) (Nat.le_of_ble_eq_true rfl)) (fun d => ma3_ok (u := fun j => [(u 0), .ref 360, .ref 361, .ref 362, .ref 363, .ref 364, .ref 365, .ref 366, .ref 367, (u 9), (u 10), (u 11), (u 12), (u 13), (u 14), (u 15), (u 16), (u 17), (u 18), (u 19), (u 20), (u 21), .ref 368, .int tm, .ref 369, .ref 370, .ref 371, (u 27)].getD j .null) (K.fi [359, 360] rfl rfl)) ?_
                rintro r hz ⟨rfl, ez⟩
                rw [ez]
                clear ez
                show j_V jP _ 227 157 lv [.int (m_of w (gA w (196 + (nI k))) 1), .int (m_of w (gA w (196 + (nI k))) 7)] h _
                refine j_V.icmp mj0_M mj0_157 (t := 185) rfl (fun c157_3 => ?_) (fun c157_3 => ?_)
                · replace c157_3 : ¬ ((m_of w (gA w (196 + (nI k))) 7) = (m_of w (gA w (196 + (nI k))) 1)) := jd_ne c157_3
                  refine j_V.one mj0_M mj0_185 (by decide) (pcJ := 186) (stJ := [.int 1]) rfl ?_
                  refine j_V.gto mj0_M mj0_186 (t := 190) rfl ?_
                  exact Eq.subst (motive := fun z => j_V jP _ 227 190 _ (.int z :: []) h Q) (show ((if (m_of w (gA w (196 + (nI k))) 6) = 0 then (if (gA w 201) < (m_of w (gA w (196 + (nI k))) 3) then 0 else 1) else (if (m_of w (gA w (196 + (nI k))) 6) = 1 then (if (m_isKept w (gA w (196 + (nI k)))) = 0 then (if (m_of w (gA w (196 + (nI k))) 7) = (m_of w (gA w (196 + (nI k))) 1) then (if (m_of w (gA w (196 + (nI k))) (13 + (m_of w (gA w (196 + (nI k))) 1))) = (gA w 201) then 0 else 1) else 1) else 0) else 0)) : Int32) = 1 from (if_neg c97_0).trans ((if_pos c133_1).trans ((if_pos c141_2).trans ((if_neg c157_3).trans (rfl))))) (kk _ L)
                · replace c157_3 : (m_of w (gA w (196 + (nI k))) 7) = (m_of w (gA w (196 + (nI k))) 1) := jd_nen c157_3
                  refine j_V.ldL mj0_M mj0_160 rfl (i := 0) (kd := 2) (v := .ref 359) (pcJ := 161) rfl L rfl rfl rfl ?_
                  refine j_V.ldL mj0_M mj0_161 rfl (i := 3) (kd := 0) (v := .int (gA w (196 + (nI k)))) (pcJ := 162) rfl L rfl rfl rfl ?_
                  refine j_V.one mj0_M mj0_162 (by decide) (pcJ := 164) (stJ := [.int 13, .int (gA w (196 + (nI k))), .ref 359]) rfl ?_
                  refine j_V.ldL mj0_M mj0_164 rfl (i := 0) (kd := 2) (v := .ref 359) (pcJ := 165) rfl L rfl rfl rfl ?_
                  refine j_V.ldL mj0_M mj0_165 rfl (i := 3) (kd := 0) (v := .int (gA w (196 + (nI k)))) (pcJ := 166) rfl L rfl rfl rfl ?_
                  refine j_V.one mj0_M mj0_166 (by decide) (pcJ := 167) (stJ := [.int 1, .int (gA w (196 + (nI k))), .ref 359, .int 13, .int (gA w (196 + (nI k))), .ref 359]) rfl ?_
                  refine j_V.cl mj0_M mj0_167 rfl (md := 3) (mj := 178) rfl (by decide) ma3_M (As := [.ref 359, .int (gA w (196 + (nI k))), .int 1]) (rest := [.int 13, .int (gA w (196 + (nI k))), .ref 359]) (jk_spl3 (K.at rfl) rfl rfl rfl (Nat.le_of_ble_eq_true rfl) (Nat.le_of_ble_eq_true rfl)) (fun d => ma3_ok (u := fun j => [(u 0), .ref 360, .ref 361, .ref 362, .ref 363, .ref 364, .ref 365, .ref 366, .ref 367, (u 9), (u 10), (u 11), (u 12), (u 13), (u 14), (u 15), (u 16), (u 17), (u 18), (u 19), (u 20), (u 21), .ref 368, .int tm, .ref 369, .ref 370, .ref 371, (u 27)].getD j .null) (K.fi [359, 360] rfl rfl)) ?_
                  rintro r hz ⟨rfl, ez⟩
                  rw [ez]
                  clear ez
                  show j_V jP _ 227 170 lv [.int (m_of w (gA w (196 + (nI k))) 1), .int 13, .int (gA w (196 + (nI k))), .ref 359] h _
                  refine j_V.one mj0_M mj0_170 (by decide) (pcJ := 171) (stJ := [.int (13 + (m_of w (gA w (196 + (nI k))) 1)), .int (gA w (196 + (nI k))), .ref 359]) rfl ?_
                  refine j_V.cl mj0_M mj0_171 rfl (md := 3) (mj := 178) rfl (by decide) ma3_M (As := [.ref 359, .int (gA w (196 + (nI k))), .int (13 + (m_of w (gA w (196 + (nI k))) 1))]) (rest := []) (jk_spl3 (K.at rfl) rfl rfl rfl (Nat.le_of_ble_eq_true rfl) (Nat.le_of_ble_eq_true rfl)) (fun d => ma3_ok (u := fun j => [(u 0), .ref 360, .ref 361, .ref 362, .ref 363, .ref 364, .ref 365, .ref 366, .ref 367, (u 9), (u 10), (u 11), (u 12), (u 13), (u 14), (u 15), (u 16), (u 17), (u 18), (u 19), (u 20), (u 21), .ref 368, .int tm, .ref 369, .ref 370, .ref 371, (u 27)].getD j .null) (K.fi [359, 360] rfl rfl)) ?_
                  rintro r hz ⟨rfl, ez⟩
                  rw [ez]
                  clear ez
                  show j_V jP _ 227 174 lv [.int (m_of w (gA w (196 + (nI k))) (13 + (m_of w (gA w (196 + (nI k))) 1)))] h _
                  refine j_V.ldL mj0_M mj0_174 rfl (i := 0) (kd := 2) (v := .ref 359) (pcJ := 175) rfl L rfl rfl rfl ?_
                  refine j_V.getK mj0_M mj0_175 (ci := 10) (j := 1) rfl K rfl rfl ?_
                  refine j_V.one mj0_M mj0_178 (by decide) (pcJ := 181) (stJ := [.int 201, .ref 360, .int (m_of w (gA w (196 + (nI k))) (13 + (m_of w (gA w (196 + (nI k))) 1)))]) rfl ?_
                  refine j_V.iaA mj0_M mj0_181 K rfl ?_
                  refine j_V.icmp mj0_M mj0_182 (t := 189) rfl (fun c182_4 => ?_) (fun c182_4 => ?_)
                  · replace c182_4 : (m_of w (gA w (196 + (nI k))) (13 + (m_of w (gA w (196 + (nI k))) 1))) = (gA w 201) := jd_eq c182_4
                    refine j_V.one mj0_M mj0_189 (by decide) (pcJ := 190) (stJ := [.int 0]) rfl ?_
                    exact Eq.subst (motive := fun z => j_V jP _ 227 190 _ (.int z :: []) h Q) (show ((if (m_of w (gA w (196 + (nI k))) 6) = 0 then (if (gA w 201) < (m_of w (gA w (196 + (nI k))) 3) then 0 else 1) else (if (m_of w (gA w (196 + (nI k))) 6) = 1 then (if (m_isKept w (gA w (196 + (nI k)))) = 0 then (if (m_of w (gA w (196 + (nI k))) 7) = (m_of w (gA w (196 + (nI k))) 1) then (if (m_of w (gA w (196 + (nI k))) (13 + (m_of w (gA w (196 + (nI k))) 1))) = (gA w 201) then 0 else 1) else 1) else 0) else 0)) : Int32) = 0 from (if_neg c97_0).trans ((if_pos c133_1).trans ((if_pos c141_2).trans ((if_pos c157_3).trans ((if_pos c182_4).trans (rfl)))))) (kk _ L)
                  · replace c182_4 : ¬ ((m_of w (gA w (196 + (nI k))) (13 + (m_of w (gA w (196 + (nI k))) 1))) = (gA w 201)) := jd_eqn c182_4
                    refine j_V.one mj0_M mj0_185 (by decide) (pcJ := 186) (stJ := [.int 1]) rfl ?_
                    refine j_V.gto mj0_M mj0_186 (t := 190) rfl ?_
                    exact Eq.subst (motive := fun z => j_V jP _ 227 190 _ (.int z :: []) h Q) (show ((if (m_of w (gA w (196 + (nI k))) 6) = 0 then (if (gA w 201) < (m_of w (gA w (196 + (nI k))) 3) then 0 else 1) else (if (m_of w (gA w (196 + (nI k))) 6) = 1 then (if (m_isKept w (gA w (196 + (nI k)))) = 0 then (if (m_of w (gA w (196 + (nI k))) 7) = (m_of w (gA w (196 + (nI k))) 1) then (if (m_of w (gA w (196 + (nI k))) (13 + (m_of w (gA w (196 + (nI k))) 1))) = (gA w 201) then 0 else 1) else 1) else 0) else 0)) : Int32) = 1 from (if_neg c97_0).trans ((if_pos c133_1).trans ((if_pos c141_2).trans ((if_pos c157_3).trans ((if_neg c182_4).trans (rfl)))))) (kk _ L)
          · replace c97_0 : (m_of w (gA w (196 + (nI k))) 6) = 0 := jd_nen c97_0
            refine j_V.ldL mj0_M mj0_100 rfl (i := 0) (kd := 2) (v := .ref 359) (pcJ := 101) rfl L rfl rfl rfl ?_
            refine j_V.ldL mj0_M mj0_101 rfl (i := 3) (kd := 0) (v := .int (gA w (196 + (nI k)))) (pcJ := 102) rfl L rfl rfl rfl ?_
            refine j_V.one mj0_M mj0_102 (by decide) (pcJ := 103) (stJ := [.int 3, .int (gA w (196 + (nI k))), .ref 359]) rfl ?_
            refine j_V.cl mj0_M mj0_103 rfl (md := 3) (mj := 178) rfl (by decide) ma3_M (As := [.ref 359, .int (gA w (196 + (nI k))), .int 3]) (rest := []) (jk_spl3 (K.at rfl) rfl rfl rfl (Nat.le_of_ble_eq_true rfl) (Nat.le_of_ble_eq_true rfl)) (fun d => ma3_ok (u := fun j => [(u 0), .ref 360, .ref 361, .ref 362, .ref 363, .ref 364, .ref 365, .ref 366, .ref 367, (u 9), (u 10), (u 11), (u 12), (u 13), (u 14), (u 15), (u 16), (u 17), (u 18), (u 19), (u 20), (u 21), .ref 368, .int tm, .ref 369, .ref 370, .ref 371, (u 27)].getD j .null) (K.fi [359, 360] rfl rfl)) ?_
            rintro r hz ⟨rfl, ez⟩
            rw [ez]
            clear ez
            show j_V jP _ 227 106 lv [.int (m_of w (gA w (196 + (nI k))) 3)] h _
            refine j_V.ldL mj0_M mj0_106 rfl (i := 0) (kd := 2) (v := .ref 359) (pcJ := 107) rfl L rfl rfl rfl ?_
            refine j_V.getK mj0_M mj0_107 (ci := 10) (j := 1) rfl K rfl rfl ?_
            refine j_V.one mj0_M mj0_110 (by decide) (pcJ := 113) (stJ := [.int 201, .ref 360, .int (m_of w (gA w (196 + (nI k))) 3)]) rfl ?_
            refine j_V.iaA mj0_M mj0_113 K rfl ?_
            refine j_V.icmp mj0_M mj0_114 (t := 121) rfl (fun c114_1 => ?_) (fun c114_1 => ?_)
            · replace c114_1 : (gA w 201) < (m_of w (gA w (196 + (nI k))) 3) := jd_gt c114_1
              refine j_V.one mj0_M mj0_121 (by decide) (pcJ := 122) (stJ := [.int 0]) rfl ?_
              refine j_V.gto mj0_M mj0_122 (t := 190) rfl ?_
              exact Eq.subst (motive := fun z => j_V jP _ 227 190 _ (.int z :: []) h Q) (show ((if (m_of w (gA w (196 + (nI k))) 6) = 0 then (if (gA w 201) < (m_of w (gA w (196 + (nI k))) 3) then 0 else 1) else (if (m_of w (gA w (196 + (nI k))) 6) = 1 then (if (m_isKept w (gA w (196 + (nI k)))) = 0 then (if (m_of w (gA w (196 + (nI k))) 7) = (m_of w (gA w (196 + (nI k))) 1) then (if (m_of w (gA w (196 + (nI k))) (13 + (m_of w (gA w (196 + (nI k))) 1))) = (gA w 201) then 0 else 1) else 1) else 0) else 0)) : Int32) = 0 from (if_pos c97_0).trans ((if_pos c114_1).trans (rfl))) (kk _ L)
            · replace c114_1 : ¬ ((gA w 201) < (m_of w (gA w (196 + (nI k))) 3)) := jd_gtn c114_1
              refine j_V.one mj0_M mj0_117 (by decide) (pcJ := 118) (stJ := [.int 1]) rfl ?_
              refine j_V.gto mj0_M mj0_118 (t := 190) rfl ?_
              exact Eq.subst (motive := fun z => j_V jP _ 227 190 _ (.int z :: []) h Q) (show ((if (m_of w (gA w (196 + (nI k))) 6) = 0 then (if (gA w 201) < (m_of w (gA w (196 + (nI k))) 3) then 0 else 1) else (if (m_of w (gA w (196 + (nI k))) 6) = 1 then (if (m_isKept w (gA w (196 + (nI k)))) = 0 then (if (m_of w (gA w (196 + (nI k))) 7) = (m_of w (gA w (196 + (nI k))) 1) then (if (m_of w (gA w (196 + (nI k))) (13 + (m_of w (gA w (196 + (nI k))) 1))) = (gA w 201) then 0 else 1) else 1) else 0) else 0)) : Int32) = 1 from (if_pos c97_0).trans ((if_neg c114_1).trans (rfl))) (kk _ L)
        refine j_V.stL mj0_M mj0_190 rfl (i := 4) (kd := 0) (kl' := [(0, .ref 359), (1, .int x1), (2, .int (nI k)), (3, .int (gA w (196 + (nI k)))), (4, .int ((if (m_of w (gA w (196 + (nI k))) 6) = 0 then (if (gA w 201) < (m_of w (gA w (196 + (nI k))) 3) then 0 else 1) else (if (m_of w (gA w (196 + (nI k))) 6) = 1 then (if (m_isKept w (gA w (196 + (nI k)))) = 0 then (if (m_of w (gA w (196 + (nI k))) 7) = (m_of w (gA w (196 + (nI k))) 1) then (if (m_of w (gA w (196 + (nI k))) (13 + (m_of w (gA w (196 + (nI k))) 1))) = (gA w 201) then 0 else 1) else 1) else 0) else 0)) : Int32))]) (pcJ := 192) rfl L rfl (by decide) rfl rfl rfl (fun lv L => ?_)
        refine j_V.ldL mj0_M mj0_192 rfl (i := 4) (kd := 0) (v := .int ((if (m_of w (gA w (196 + (nI k))) 6) = 0 then (if (gA w 201) < (m_of w (gA w (196 + (nI k))) 3) then 0 else 1) else (if (m_of w (gA w (196 + (nI k))) 6) = 1 then (if (m_isKept w (gA w (196 + (nI k)))) = 0 then (if (m_of w (gA w (196 + (nI k))) 7) = (m_of w (gA w (196 + (nI k))) 1) then (if (m_of w (gA w (196 + (nI k))) (13 + (m_of w (gA w (196 + (nI k))) 1))) = (gA w 201) then 0 else 1) else 1) else 0) else 0)) : Int32)) (pcJ := 194) rfl L rfl rfl rfl ?_
        refine j_V.ifc mj0_M mj0_194 (t := 203) rfl (fun c194_1 => ?_) (fun c194_1 => ?_)
        · replace c194_1 : ((if (m_of w (gA w (196 + (nI k))) 6) = 0 then (if (gA w 201) < (m_of w (gA w (196 + (nI k))) 3) then 0 else 1) else (if (m_of w (gA w (196 + (nI k))) 6) = 1 then (if (m_isKept w (gA w (196 + (nI k)))) = 0 then (if (m_of w (gA w (196 + (nI k))) 7) = (m_of w (gA w (196 + (nI k))) 1) then (if (m_of w (gA w (196 + (nI k))) (13 + (m_of w (gA w (196 + (nI k))) 1))) = (gA w 201) then 0 else 1) else 1) else 0) else 0)) : Int32) = 0 := jd_eq c194_1
          refine j_V.inL mj0_M mj0_203 (i := 2) (kl' := [(0, .ref 359), (1, .int x1), (2, .int ((nI k) + 1)), (3, .int (gA w (196 + (nI k)))), (4, .int ((if (m_of w (gA w (196 + (nI k))) 6) = 0 then (if (gA w 201) < (m_of w (gA w (196 + (nI k))) 3) then 0 else 1) else (if (m_of w (gA w (196 + (nI k))) 6) = 1 then (if (m_isKept w (gA w (196 + (nI k)))) = 0 then (if (m_of w (gA w (196 + (nI k))) 7) = (m_of w (gA w (196 + (nI k))) 1) then (if (m_of w (gA w (196 + (nI k))) (13 + (m_of w (gA w (196 + (nI k))) 1))) = (gA w 201) then 0 else 1) else 1) else 0) else 0)) : Int32))]) (pcJ := 206) L rfl rfl rfl rfl (fun lv L => ?_)
          refine j_V.gto mj0_M mj0_206 (t := 56) rfl ?_
          rw [nI_one] at L
          have e8 : m_mM1 w n x1 (nI k) = w := (if_pos c84_0).trans ((if_pos c194_1).trans (rfl))
          have hT := hM w k (by omega) hI
          have hI := hT.1
          rw [e8] at hI
          exact ih (k + 1) _ (by omega) ho hI (L.sub ⟨rfl, rfl, rfl, trivial⟩) K (fun lv h a b c w9 hq e9 => kk lv h a b c w9 hq (by rw [e9]; show _ = m_mM n x1 f (k + 1) (m_mM1 w n x1 (nI k)); rw [e8]))
        · replace c194_1 : ¬ (((if (m_of w (gA w (196 + (nI k))) 6) = 0 then (if (gA w 201) < (m_of w (gA w (196 + (nI k))) 3) then 0 else 1) else (if (m_of w (gA w (196 + (nI k))) 6) = 1 then (if (m_isKept w (gA w (196 + (nI k)))) = 0 then (if (m_of w (gA w (196 + (nI k))) 7) = (m_of w (gA w (196 + (nI k))) 1) then (if (m_of w (gA w (196 + (nI k))) (13 + (m_of w (gA w (196 + (nI k))) 1))) = (gA w 201) then 0 else 1) else 1) else 0) else 0)) : Int32) = 0) := jd_eqn c194_1
          refine j_V.ldL mj0_M mj0_197 rfl (i := 0) (kd := 2) (v := .ref 359) (pcJ := 198) rfl L rfl rfl rfl ?_
          refine j_V.ldL mj0_M mj0_198 rfl (i := 3) (kd := 0) (v := .int (gA w (196 + (nI k)))) (pcJ := 199) rfl L rfl rfl rfl ?_
          refine j_V.ldL mj0_M mj0_199 rfl (i := 1) (kd := 0) (v := .int x1) (pcJ := 200) rfl L rfl rfl rfl ?_
          have hT := hM w k (by omega) hI
          refine j_V.cl mj0_M mj0_200 rfl (md := 3) (mj := 222) rfl (by decide) mi4_M (As := [.ref 359, .int (gA w (196 + (nI k))), .int x1]) (rest := []) (jk_spl3 (K.at rfl) rfl rfl rfl (Nat.zero_le _) (Nat.le_of_ble_eq_true rfl)) (fun d => mi4_ok (u := u) (hI1 _ hI).1 ho (hT.2 c84_0 c194_1) (K.fi [359, 360, 363, 368] rfl rfl)) ?_
          rintro r h9 ⟨rfl, ot', tk', tm', ho', K9⟩
          have K := K.mg K9 rfl rfl
          clear K9
          show j_V jP _ 227 203 lv [] h9 _
          have K : KN h9 [(359, .inl (10, [(u 0), .ref 360, .ref 361, .ref 362, .ref 363, .ref 364, .ref 365, .ref 366, .ref 367, (u 9), (u 10), (u 11), (u 12), (u 13), (u 14), (u 15), (u 16), (u 17), (u 18), (u 19), (u 20), (u 21), .ref 368, .int tm', .ref 369, .ref 370, .ref 371, (u 27)])), (360, .inr (.inl (0, (m_tries w n (gA w (196 + (nI k))) x1)))), (363, .inr (.inl (0, ot'))), (368, .inr (.inl (0, tk')))] h0 := K
          refine j_V.inL mj0_M mj0_203 (i := 2) (kl' := [(0, .ref 359), (1, .int x1), (2, .int ((nI k) + 1)), (3, .int (gA w (196 + (nI k)))), (4, .int ((if (m_of w (gA w (196 + (nI k))) 6) = 0 then (if (gA w 201) < (m_of w (gA w (196 + (nI k))) 3) then 0 else 1) else (if (m_of w (gA w (196 + (nI k))) 6) = 1 then (if (m_isKept w (gA w (196 + (nI k)))) = 0 then (if (m_of w (gA w (196 + (nI k))) 7) = (m_of w (gA w (196 + (nI k))) 1) then (if (m_of w (gA w (196 + (nI k))) (13 + (m_of w (gA w (196 + (nI k))) 1))) = (gA w 201) then 0 else 1) else 1) else 0) else 0)) : Int32))]) (pcJ := 206) L rfl rfl rfl rfl (fun lv L => ?_)
          refine j_V.gto mj0_M mj0_206 (t := 56) rfl ?_
          rw [nI_one] at L
          have e8 : m_mM1 w n x1 (nI k) = (m_tries w n (gA w (196 + (nI k))) x1) := (if_pos c84_0).trans ((if_neg c194_1).trans (rfl))
          have hI := hT.1
          rw [e8] at hI
          exact ih (k + 1) _ (by omega) ho' hI (L.sub ⟨rfl, rfl, rfl, trivial⟩) K (fun lv h a b c w9 hq e9 => kk lv h a b c w9 hq (by rw [e9]; show _ = m_mM n x1 f (k + 1) (m_mM1 w n x1 (nI k)); rw [e8]))
      · replace c84_0 : ¬ ((m_isHeld w (gA w (196 + (nI k)))) = 0) := jd_eqn c84_0
        refine j_V.gto mj0_M mj0_87 (t := 203) rfl ?_
        refine j_V.inL mj0_M mj0_203 (i := 2) (kl' := [(0, .ref 359), (1, .int x1), (2, .int ((nI k) + 1)), (3, .int (gA w (196 + (nI k))))]) (pcJ := 206) L rfl rfl rfl rfl (fun lv L => ?_)
        refine j_V.gto mj0_M mj0_206 (t := 56) rfl ?_
        rw [nI_one] at L
        have e8 : m_mM1 w n x1 (nI k) = w := (if_neg c84_0).trans (rfl)
        have hT := hM w k (by omega) hI
        have hI := hT.1
        rw [e8] at hI
        exact ih (k + 1) _ (by omega) ho hI (L.sub ⟨rfl, rfl, rfl, trivial⟩) K (fun lv h a b c w9 hq e9 => kk lv h a b c w9 hq (by rw [e9]; show _ = m_mM n x1 f (k + 1) (m_mM1 w n x1 (nI k)); rw [e8]))
def m_mQ (t : Int32) : Nat → Nat → List Int32 → List Int32
  | 0, _, w => w
  | f + 1, q, w => m_mQ t f (q + 1) (m_meets w t (nI q))
set_option maxRecDepth 1000000 in
theorem mj0_ok_l304 {u : Nat → Value} {n d : Nat} {h0 : J_H} {Q : Option Value → J_H → Prop} {ot tk : List Int32} {tm x1 : Int32} {t : Nat} {J : List Int32 → Prop} (hn5 : n ≤ 5) (hJ1 : ∀ w, J w → w.length = 602 ∧ gA w 203 = nI n) (hQ : ∀ w t q, t < n → q < n → J w → J (m_meets w (nI t) (nI q))) (ht : t < n) : ∀ (f q : Nat) (w : List Int32) {lv : J_L} {h : J_H}, q + f = n → J w → LK lv [(0, .ref 359), (1, .int x1), (2, .int (nI t)), (3, .int (nI q))] → KN h [(359, .inl (10, [(u 0), .ref 360, .ref 361, .ref 362, .ref 363, .ref 364, .ref 365, .ref 366, .ref 367, (u 9), (u 10), (u 11), (u 12), (u 13), (u 14), (u 15), (u 16), (u 17), (u 18), (u 19), (u 20), (u 21), .ref 368, .int tm, .ref 369, .ref 370, .ref 371, (u 27)])), (360, .inr (.inl (0, w))), (363, .inr (.inl (0, ot))), (368, .inr (.inl (0, tk)))] h0 → (∀ lv h (w' : List Int32), w' = m_mQ (nI t) f q w → J w' → LK lv [(0, .ref 359), (1, .int x1), (2, .int (nI t))] → KN h [(359, .inl (10, [(u 0), .ref 360, .ref 361, .ref 362, .ref 363, .ref 364, .ref 365, .ref 366, .ref 367, (u 9), (u 10), (u 11), (u 12), (u 13), (u 14), (u 15), (u 16), (u 17), (u 18), (u 19), (u 20), (u 21), .ref 368, .int tm, .ref 369, .ref 370, .ref 371, (u 27)])), (360, .inr (.inl (0, w'))), (363, .inr (.inl (0, ot))), (368, .inr (.inl (0, tk)))] h0 → j_V jP d 227 328 lv [] h Q) → j_V jP d 227 304 lv [] h Q := by
  intro f
  induction f with
  | zero =>
    intro q w lv h e hJ L K kk
    refine j_V.ldL mj0_M mj0_304 rfl (i := 3) (kd := 0) (v := .int (nI q)) (pcJ := 305) rfl L rfl rfl rfl ?_
    refine j_V.ldL mj0_M mj0_305 rfl (i := 0) (kd := 2) (v := .ref 359) (pcJ := 306) rfl L rfl rfl rfl ?_
    refine j_V.getK mj0_M mj0_306 (ci := 10) (j := 1) rfl K rfl rfl ?_
    refine j_V.one mj0_M mj0_309 (by decide) (pcJ := 312) (stJ := [.int 203, .ref 360, .int (nI q)]) rfl ?_
    refine j_V.iaA mj0_M mj0_312 K rfl ?_
    refine j_V.icmp mj0_M mj0_313 (t := 328) rfl (fun c313_0 => ?_) (fun c313_0 => ?_)
    · replace c313_0 : ¬ ((nI q) < (gA w 203)) := jd_ge c313_0
      exact kk _ h _ rfl hJ (L.sub ⟨rfl, rfl, rfl, trivial⟩) K
    · replace c313_0 : (nI q) < (gA w 203) := jd_gen c313_0
      exact absurd c313_0 (by rw [(hJ1 _ hJ).2, nI_lt9 (by omega) (by omega)]; omega)
  | succ f ih =>
    intro q w lv h e hJ L K kk
    refine j_V.ldL mj0_M mj0_304 rfl (i := 3) (kd := 0) (v := .int (nI q)) (pcJ := 305) rfl L rfl rfl rfl ?_
    refine j_V.ldL mj0_M mj0_305 rfl (i := 0) (kd := 2) (v := .ref 359) (pcJ := 306) rfl L rfl rfl rfl ?_
    refine j_V.getK mj0_M mj0_306 (ci := 10) (j := 1) rfl K rfl rfl ?_
    refine j_V.one mj0_M mj0_309 (by decide) (pcJ := 312) (stJ := [.int 203, .ref 360, .int (nI q)]) rfl ?_
    refine j_V.iaA mj0_M mj0_312 K rfl ?_
    refine j_V.icmp mj0_M mj0_313 (t := 328) rfl (fun c313_0 => ?_) (fun c313_0 => ?_)
    · replace c313_0 : ¬ ((nI q) < (gA w 203)) := jd_ge c313_0
      exact absurd (show nI q < gA w 203 by rw [(hJ1 _ hJ).2, nI_lt9 (by omega) (by omega)]; omega) c313_0
    · replace c313_0 : (nI q) < (gA w 203) := jd_gen c313_0
      refine j_V.ldL mj0_M mj0_316 rfl (i := 0) (kd := 2) (v := .ref 359) (pcJ := 317) rfl L rfl rfl rfl ?_
      refine j_V.ldL mj0_M mj0_317 rfl (i := 2) (kd := 0) (v := .int (nI t)) (pcJ := 318) rfl L rfl rfl rfl ?_
      refine j_V.ldL mj0_M mj0_318 rfl (i := 3) (kd := 0) (v := .int (nI q)) (pcJ := 319) rfl L rfl rfl rfl ?_
      refine j_V.cl mj0_M mj0_319 rfl (md := 3) (mj := 228) rfl (by decide) me4_M (As := [.ref 359, .int (nI t), .int (nI q)]) (rest := []) (jk_spl3 (K.at rfl) rfl rfl rfl (Nat.le_of_ble_eq_true rfl) (Nat.le_of_ble_eq_true rfl)) (fun d => me4_ok (u := fun j => [(u 0), .ref 360, .ref 361, .ref 362, .ref 363, .ref 364, .ref 365, .ref 366, .ref 367, (u 9), (u 10), (u 11), (u 12), (u 13), (u 14), (u 15), (u 16), (u 17), (u 18), (u 19), (u 20), (u 21), .ref 368, .int tm, .ref 369, .ref 370, .ref 371, (u 27)].getD j .null) (K.fi [359, 360] rfl rfl)) ?_
      rintro r h9 ⟨rfl, K9⟩
      have K : KN h9 [(359, .inl (10, [(u 0), .ref 360, .ref 361, .ref 362, .ref 363, .ref 364, .ref 365, .ref 366, .ref 367, (u 9), (u 10), (u 11), (u 12), (u 13), (u 14), (u 15), (u 16), (u 17), (u 18), (u 19), (u 20), (u 21), .ref 368, .int tm, .ref 369, .ref 370, .ref 371, (u 27)])), (360, .inr (.inl (0, (m_meets w (nI t) (nI q))))), (363, .inr (.inl (0, ot))), (368, .inr (.inl (0, tk)))] h0 := K.mg K9 rfl rfl
      clear K9
      show j_V jP _ 227 322 lv [] h9 _
      refine j_V.inL mj0_M mj0_322 (i := 3) (kl' := [(0, .ref 359), (1, .int x1), (2, .int (nI t)), (3, .int ((nI q) + 1))]) (pcJ := 325) L rfl rfl rfl rfl (fun lv L => ?_)
      refine j_V.gto mj0_M mj0_325 (t := 304) rfl ?_
      rw [nI_one] at L
      exact ih (q + 1) _ (by omega) (hQ w t q ht (by omega) hJ) L K (fun lv h w9 e9 => kk lv h w9 (by rw [e9]; rfl))
def m_mE0 (w : List Int32) (t : Int32) : List Int32 := (if (m_of w t 6) = 2 then (sA w (204 + (m_sectionOf w t)) ((gA w (204 + (m_sectionOf w t))) + 1)) else w)
def m_mS (w : List Int32) (t : Int32) : List Int32 := (sA (m_puts w t 12 ((m_of w t 12) + 1)) (595 + (m_of (m_puts w t 12 ((m_of w t 12) + 1)) t 7)) ((gA (m_puts w t 12 ((m_of w t 12) + 1)) (595 + (m_of (m_puts w t 12 ((m_of w t 12) + 1)) t 7))) + 1))
def m_mE1 (n : Nat) (w : List Int32) (t : Int32) : List Int32 := (if (m_of (m_mE0 w t) t 6) = 1 then (m_mQ t n 0 (m_mS (m_mE0 w t) t)) else (m_mE0 w t))
def m_mE (n : Nat) : Nat → Nat → List Int32 → List Int32
  | 0, _, w => w
  | f + 1, t, w => m_mE n f (t + 1) (m_mE1 n w (nI t))
set_option maxRecDepth 1000000 in
theorem mj0_ok_l211 {u : Nat → Value} {n d : Nat} {h0 : J_H} {Q : Option Value → J_H → Prop} {ot tk : List Int32} {tm x1 : Int32} {J : List Int32 → Prop} (hn5 : n ≤ 5) (hJ1 : ∀ w, J w → w.length = 602 ∧ gA w 203 = nI n) (hQ : ∀ w t q, t < n → q < n → J w → J (m_meets w (nI t) (nI q))) (hU : ∀ w t, t < n → J w → J (m_mE0 w (nI t))) (hS : ∀ w t, t < n → J w → (m_of w (nI t) 6) = 1 → J (m_mS w (nI t))) : ∀ (f t : Nat) (w : List Int32) {lv : J_L} {h : J_H}, t + f = n → J w → LK lv [(0, .ref 359), (1, .int x1), (2, .int (nI t))] → KN h [(359, .inl (10, [(u 0), .ref 360, .ref 361, .ref 362, .ref 363, .ref 364, .ref 365, .ref 366, .ref 367, (u 9), (u 10), (u 11), (u 12), (u 13), (u 14), (u 15), (u 16), (u 17), (u 18), (u 19), (u 20), (u 21), .ref 368, .int tm, .ref 369, .ref 370, .ref 371, (u 27)])), (360, .inr (.inl (0, w))), (363, .inr (.inl (0, ot))), (368, .inr (.inl (0, tk)))] h0 → (∀ lv h (w' : List Int32), w' = m_mE n f t w → J w' → LK lv [(0, .ref 359), (1, .int x1)] → KN h [(359, .inl (10, [(u 0), .ref 360, .ref 361, .ref 362, .ref 363, .ref 364, .ref 365, .ref 366, .ref 367, (u 9), (u 10), (u 11), (u 12), (u 13), (u 14), (u 15), (u 16), (u 17), (u 18), (u 19), (u 20), (u 21), .ref 368, .int tm, .ref 369, .ref 370, .ref 371, (u 27)])), (360, .inr (.inl (0, w'))), (363, .inr (.inl (0, ot))), (368, .inr (.inl (0, tk)))] h0 → j_V jP d 227 334 lv [] h Q) → j_V jP d 227 211 lv [] h Q := by
  intro f
  induction f with
  | zero =>
    intro t w lv h e hJ L K kk
    refine j_V.ldL mj0_M mj0_211 rfl (i := 2) (kd := 0) (v := .int (nI t)) (pcJ := 212) rfl L rfl rfl rfl ?_
    refine j_V.ldL mj0_M mj0_212 rfl (i := 0) (kd := 2) (v := .ref 359) (pcJ := 213) rfl L rfl rfl rfl ?_
    refine j_V.getK mj0_M mj0_213 (ci := 10) (j := 1) rfl K rfl rfl ?_
    refine j_V.one mj0_M mj0_216 (by decide) (pcJ := 219) (stJ := [.int 203, .ref 360, .int (nI t)]) rfl ?_
    refine j_V.iaA mj0_M mj0_219 K rfl ?_
    refine j_V.icmp mj0_M mj0_220 (t := 334) rfl (fun c220_0 => ?_) (fun c220_0 => ?_)
    · replace c220_0 : ¬ ((nI t) < (gA w 203)) := jd_ge c220_0
      exact kk _ h _ rfl hJ (L.sub ⟨rfl, rfl, trivial⟩) K
    · replace c220_0 : (nI t) < (gA w 203) := jd_gen c220_0
      exact absurd c220_0 (by rw [(hJ1 _ hJ).2, nI_lt9 (by omega) (by omega)]; omega)
  | succ f ih =>
    intro t w lv h e hJ L K kk
    refine j_V.ldL mj0_M mj0_211 rfl (i := 2) (kd := 0) (v := .int (nI t)) (pcJ := 212) rfl L rfl rfl rfl ?_
    refine j_V.ldL mj0_M mj0_212 rfl (i := 0) (kd := 2) (v := .ref 359) (pcJ := 213) rfl L rfl rfl rfl ?_
    refine j_V.getK mj0_M mj0_213 (ci := 10) (j := 1) rfl K rfl rfl ?_
    refine j_V.one mj0_M mj0_216 (by decide) (pcJ := 219) (stJ := [.int 203, .ref 360, .int (nI t)]) rfl ?_
    refine j_V.iaA mj0_M mj0_219 K rfl ?_
    refine j_V.icmp mj0_M mj0_220 (t := 334) rfl (fun c220_0 => ?_) (fun c220_0 => ?_)
    · replace c220_0 : ¬ ((nI t) < (gA w 203)) := jd_ge c220_0
      exact absurd (show nI t < gA w 203 by rw [(hJ1 _ hJ).2, nI_lt9 (by omega) (by omega)]; omega) c220_0
    · replace c220_0 : (nI t) < (gA w 203) := jd_gen c220_0
      refine j_V.ldL mj0_M mj0_223 rfl (i := 0) (kd := 2) (v := .ref 359) (pcJ := 224) rfl L rfl rfl rfl ?_
      refine j_V.ldL mj0_M mj0_224 rfl (i := 2) (kd := 0) (v := .int (nI t)) (pcJ := 225) rfl L rfl rfl rfl ?_
      refine j_V.one mj0_M mj0_225 (by decide) (pcJ := 227) (stJ := [.int 6, .int (nI t), .ref 359]) rfl ?_
      refine j_V.cl mj0_M mj0_227 rfl (md := 3) (mj := 178) rfl (by decide) ma3_M (As := [.ref 359, .int (nI t), .int 6]) (rest := []) (jk_spl3 (K.at rfl) rfl rfl rfl (Nat.le_of_ble_eq_true rfl) (Nat.le_of_ble_eq_true rfl)) (fun d => ma3_ok (u := fun j => [(u 0), .ref 360, .ref 361, .ref 362, .ref 363, .ref 364, .ref 365, .ref 366, .ref 367, (u 9), (u 10), (u 11), (u 12), (u 13), (u 14), (u 15), (u 16), (u 17), (u 18), (u 19), (u 20), (u 21), .ref 368, .int tm, .ref 369, .ref 370, .ref 371, (u 27)].getD j .null) (K.fi [359, 360] rfl rfl)) ?_
      rintro r hz ⟨rfl, ez⟩
      rw [ez]
      clear ez
      show j_V jP _ 227 230 lv [.int (m_of w (nI t) 6)] h _
      refine j_V.one mj0_M mj0_230 (by decide) (pcJ := 231) (stJ := [.int 2, .int (m_of w (nI t) 6)]) rfl ?_
      refine j_V.icmp mj0_M mj0_231 (t := 252) rfl (fun c231_0 => ?_) (fun c231_0 => ?_)
      · replace c231_0 : ¬ ((m_of w (nI t) 6) = 2) := jd_ne c231_0
        refine j_V.ldL mj0_M mj0_252 rfl (i := 0) (kd := 2) (v := .ref 359) (pcJ := 253) rfl L rfl rfl rfl ?_
        refine j_V.ldL mj0_M mj0_253 rfl (i := 2) (kd := 0) (v := .int (nI t)) (pcJ := 254) rfl L rfl rfl rfl ?_
        refine j_V.one mj0_M mj0_254 (by decide) (pcJ := 256) (stJ := [.int 6, .int (nI t), .ref 359]) rfl ?_
        refine j_V.cl mj0_M mj0_256 rfl (md := 3) (mj := 178) rfl (by decide) ma3_M (As := [.ref 359, .int (nI t), .int 6]) (rest := []) (jk_spl3 (K.at rfl) rfl rfl rfl (Nat.le_of_ble_eq_true rfl) (Nat.le_of_ble_eq_true rfl)) (fun d => ma3_ok (u := fun j => [(u 0), .ref 360, .ref 361, .ref 362, .ref 363, .ref 364, .ref 365, .ref 366, .ref 367, (u 9), (u 10), (u 11), (u 12), (u 13), (u 14), (u 15), (u 16), (u 17), (u 18), (u 19), (u 20), (u 21), .ref 368, .int tm, .ref 369, .ref 370, .ref 371, (u 27)].getD j .null) (K.fi [359, 360] rfl rfl)) ?_
        rintro r hz ⟨rfl, ez⟩
        rw [ez]
        clear ez
        show j_V jP _ 227 259 lv [.int (m_of w (nI t) 6)] h _
        refine j_V.one mj0_M mj0_259 (by decide) (pcJ := 260) (stJ := [.int 1, .int (m_of w (nI t) 6)]) rfl ?_
        refine j_V.icmp mj0_M mj0_260 (t := 266) rfl (fun c260_1 => ?_) (fun c260_1 => ?_)
        · replace c260_1 : (m_of w (nI t) 6) = 1 := jd_eq c260_1
          refine j_V.ldL mj0_M mj0_266 rfl (i := 0) (kd := 2) (v := .ref 359) (pcJ := 267) rfl L rfl rfl rfl ?_
          refine j_V.ldL mj0_M mj0_267 rfl (i := 2) (kd := 0) (v := .int (nI t)) (pcJ := 268) rfl L rfl rfl rfl ?_
          refine j_V.one mj0_M mj0_268 (by decide) (pcJ := 270) (stJ := [.int 12, .int (nI t), .ref 359]) rfl ?_
          refine j_V.ldL mj0_M mj0_270 rfl (i := 0) (kd := 2) (v := .ref 359) (pcJ := 271) rfl L rfl rfl rfl ?_
          refine j_V.ldL mj0_M mj0_271 rfl (i := 2) (kd := 0) (v := .int (nI t)) (pcJ := 272) rfl L rfl rfl rfl ?_
          refine j_V.one mj0_M mj0_272 (by decide) (pcJ := 274) (stJ := [.int 12, .int (nI t), .ref 359, .int 12, .int (nI t), .ref 359]) rfl ?_
          refine j_V.cl mj0_M mj0_274 rfl (md := 3) (mj := 178) rfl (by decide) ma3_M (As := [.ref 359, .int (nI t), .int 12]) (rest := [.int 12, .int (nI t), .ref 359]) (jk_spl3 (K.at rfl) rfl rfl rfl (Nat.le_of_ble_eq_true rfl) (Nat.le_of_ble_eq_true rfl)) (fun d => ma3_ok (u := fun j => [(u 0), .ref 360, .ref 361, .ref 362, .ref 363, .ref 364, .ref 365, .ref 366, .ref 367, (u 9), (u 10), (u 11), (u 12), (u 13), (u 14), (u 15), (u 16), (u 17), (u 18), (u 19), (u 20), (u 21), .ref 368, .int tm, .ref 369, .ref 370, .ref 371, (u 27)].getD j .null) (K.fi [359, 360] rfl rfl)) ?_
          rintro r hz ⟨rfl, ez⟩
          rw [ez]
          clear ez
          show j_V jP _ 227 277 lv [.int (m_of w (nI t) 12), .int 12, .int (nI t), .ref 359] h _
          refine j_V.one mj0_M mj0_277 (by decide) (pcJ := 278) (stJ := [.int 1, .int (m_of w (nI t) 12), .int 12, .int (nI t), .ref 359]) rfl ?_
          refine j_V.one mj0_M mj0_278 (by decide) (pcJ := 279) (stJ := [.int ((m_of w (nI t) 12) + 1), .int 12, .int (nI t), .ref 359]) rfl ?_
          refine j_V.cl mj0_M mj0_279 rfl (md := 3) (mj := 179) rfl (by decide) me0_M (As := [.ref 359, .int (nI t), .int 12, .int ((m_of w (nI t) 12) + 1)]) (rest := []) (jk_spl3 (K.at rfl) rfl rfl rfl (Nat.le_of_ble_eq_true rfl) (Nat.le_of_ble_eq_true rfl)) (fun d => me0_ok (u := fun j => [(u 0), .ref 360, .ref 361, .ref 362, .ref 363, .ref 364, .ref 365, .ref 366, .ref 367, (u 9), (u 10), (u 11), (u 12), (u 13), (u 14), (u 15), (u 16), (u 17), (u 18), (u 19), (u 20), (u 21), .ref 368, .int tm, .ref 369, .ref 370, .ref 371, (u 27)].getD j .null) (K.fi [359, 360] rfl rfl)) ?_
          rintro r h9 ⟨rfl, K9⟩
          have K : KN h9 [(359, .inl (10, [(u 0), .ref 360, .ref 361, .ref 362, .ref 363, .ref 364, .ref 365, .ref 366, .ref 367, (u 9), (u 10), (u 11), (u 12), (u 13), (u 14), (u 15), (u 16), (u 17), (u 18), (u 19), (u 20), (u 21), .ref 368, .int tm, .ref 369, .ref 370, .ref 371, (u 27)])), (360, .inr (.inl (0, (m_puts w (nI t) 12 ((m_of w (nI t) 12) + 1))))), (363, .inr (.inl (0, ot))), (368, .inr (.inl (0, tk)))] h0 := K.mg K9 rfl rfl
          clear K9
          show j_V jP _ 227 282 lv [] h9 _
          refine j_V.ldL mj0_M mj0_282 rfl (i := 0) (kd := 2) (v := .ref 359) (pcJ := 283) rfl L rfl rfl rfl ?_
          refine j_V.getK mj0_M mj0_283 (ci := 10) (j := 1) rfl K rfl rfl ?_
          refine j_V.one mj0_M mj0_286 (by decide) (pcJ := 289) (stJ := [.int 595, .ref 360]) rfl ?_
          refine j_V.ldL mj0_M mj0_289 rfl (i := 0) (kd := 2) (v := .ref 359) (pcJ := 290) rfl L rfl rfl rfl ?_
          refine j_V.ldL mj0_M mj0_290 rfl (i := 2) (kd := 0) (v := .int (nI t)) (pcJ := 291) rfl L rfl rfl rfl ?_
          refine j_V.one mj0_M mj0_291 (by decide) (pcJ := 293) (stJ := [.int 7, .int (nI t), .ref 359, .int 595, .ref 360]) rfl ?_
          refine j_V.cl mj0_M mj0_293 rfl (md := 3) (mj := 178) rfl (by decide) ma3_M (As := [.ref 359, .int (nI t), .int 7]) (rest := [.int 595, .ref 360]) (jk_spl3 (K.at rfl) rfl rfl rfl (Nat.le_of_ble_eq_true rfl) (Nat.le_of_ble_eq_true rfl)) (fun d => ma3_ok (u := fun j => [(u 0), .ref 360, .ref 361, .ref 362, .ref 363, .ref 364, .ref 365, .ref 366, .ref 367, (u 9), (u 10), (u 11), (u 12), (u 13), (u 14), (u 15), (u 16), (u 17), (u 18), (u 19), (u 20), (u 21), .ref 368, .int tm, .ref 369, .ref 370, .ref 371, (u 27)].getD j .null) (K.fi [359, 360] rfl rfl)) ?_
          rintro r hz ⟨rfl, ez⟩
          rw [ez]
          clear ez
          show j_V jP _ 227 296 lv [.int (m_of (m_puts w (nI t) 12 ((m_of w (nI t) 12) + 1)) (nI t) 7), .int 595, .ref 360] h9 _
          refine j_V.one mj0_M mj0_296 (by decide) (pcJ := 297) (stJ := [.int (595 + (m_of (m_puts w (nI t) 12 ((m_of w (nI t) 12) + 1)) (nI t) 7)), .ref 360]) rfl ?_
          refine j_V.one mj0_M mj0_297 (by decide) (pcJ := 298) (stJ := [.int (595 + (m_of (m_puts w (nI t) 12 ((m_of w (nI t) 12) + 1)) (nI t) 7)), .ref 360, .int (595 + (m_of (m_puts w (nI t) 12 ((m_of w (nI t) 12) + 1)) (nI t) 7)), .ref 360]) rfl ?_
          refine j_V.iaA mj0_M mj0_298 K rfl ?_
          refine j_V.one mj0_M mj0_299 (by decide) (pcJ := 300) (stJ := [.int 1, .int (gA (m_puts w (nI t) 12 ((m_of w (nI t) 12) + 1)) (595 + (m_of (m_puts w (nI t) 12 ((m_of w (nI t) 12) + 1)) (nI t) 7))), .int (595 + (m_of (m_puts w (nI t) 12 ((m_of w (nI t) 12) + 1)) (nI t) 7)), .ref 360]) rfl ?_
          refine j_V.one mj0_M mj0_300 (by decide) (pcJ := 301) (stJ := [.int ((gA (m_puts w (nI t) 12 ((m_of w (nI t) 12) + 1)) (595 + (m_of (m_puts w (nI t) 12 ((m_of w (nI t) 12) + 1)) (nI t) 7))) + 1), .int (595 + (m_of (m_puts w (nI t) 12 ((m_of w (nI t) 12) + 1)) (nI t) 7)), .ref 360]) rfl ?_
          refine j_V.isA mj0_M mj0_301 (k' := [(359, .inl (10, [(u 0), .ref 360, .ref 361, .ref 362, .ref 363, .ref 364, .ref 365, .ref 366, .ref 367, (u 9), (u 10), (u 11), (u 12), (u 13), (u 14), (u 15), (u 16), (u 17), (u 18), (u 19), (u 20), (u 21), .ref 368, .int tm, .ref 369, .ref 370, .ref 371, (u 27)])), (360, .inr (.inl (0, (sA (m_puts w (nI t) 12 ((m_of w (nI t) 12) + 1)) (595 + (m_of (m_puts w (nI t) 12 ((m_of w (nI t) 12) + 1)) (nI t) 7)) ((gA (m_puts w (nI t) 12 ((m_of w (nI t) 12) + 1)) (595 + (m_of (m_puts w (nI t) 12 ((m_of w (nI t) 12) + 1)) (nI t) 7))) + 1))))), (363, .inr (.inl (0, ot))), (368, .inr (.inl (0, tk)))]) K rfl rfl (fun h K => ?_)
          refine j_V.one mj0_M mj0_302 (by decide) (pcJ := 303) (stJ := [.int 0]) rfl ?_
          refine j_V.stL mj0_M mj0_303 rfl (i := 3) (kd := 0) (kl' := [(0, .ref 359), (1, .int x1), (2, .int (nI t)), (3, .int 0)]) (pcJ := 304) rfl L rfl (by decide) rfl rfl rfl (fun lv L => ?_)
          have e0 : m_mE0 w (nI t) = w := (if_neg c231_0).trans (rfl)
          have hJ := hU w t (by omega) hJ
          have e8 : m_mE1 n w (nI t) = m_mQ (nI t) n 0 (m_mS (m_mE0 w (nI t)) (nI t)) := if_pos (by rw [e0]; exact c260_1)
          have hJ := hS _ t (by omega) hJ (by rw [e0]; exact c260_1)
          rw [e0] at e8 hJ
          refine mj0_ok_l304 (x1 := x1) hn5 hJ1 hQ (t := t) (by omega) n 0 _ (Nat.zero_add n) hJ L K (fun lv h w9 e9 hJ L K => ?_)
          refine j_V.inL mj0_M mj0_328 (i := 2) (kl' := [(0, .ref 359), (1, .int x1), (2, .int ((nI t) + 1))]) (pcJ := 331) L rfl rfl rfl rfl (fun lv L => ?_)
          refine j_V.gto mj0_M mj0_331 (t := 211) rfl ?_
          rw [nI_one] at L
          exact ih (t + 1) _ (by omega) hJ L K (fun lv h v9 z9 => kk lv h v9 (by rw [z9]; show _ = m_mE n f (t + 1) (m_mE1 n w (nI t)); rw [e8, e9]))
        · replace c260_1 : ¬ ((m_of w (nI t) 6) = 1) := jd_eqn c260_1
          refine j_V.gto mj0_M mj0_263 (t := 328) rfl ?_
          refine j_V.inL mj0_M mj0_328 (i := 2) (kl' := [(0, .ref 359), (1, .int x1), (2, .int ((nI t) + 1))]) (pcJ := 331) L rfl rfl rfl rfl (fun lv L => ?_)
          refine j_V.gto mj0_M mj0_331 (t := 211) rfl ?_
          rw [nI_one] at L
          have e0 : m_mE0 w (nI t) = w := (if_neg c231_0).trans (rfl)
          have hJ := hU w t (by omega) hJ
          have e8 : m_mE1 n w (nI t) = m_mE0 w (nI t) := if_neg (by rw [e0]; exact c260_1)
          rw [e0] at e8 hJ
          exact ih (t + 1) _ (by omega) hJ L K (fun lv h w9 e9 => kk lv h w9 (by rw [e9]; show _ = m_mE n f (t + 1) (m_mE1 n w (nI t)); rw [e8]))
      · replace c231_0 : (m_of w (nI t) 6) = 2 := jd_nen c231_0
        refine j_V.ldL mj0_M mj0_234 rfl (i := 0) (kd := 2) (v := .ref 359) (pcJ := 235) rfl L rfl rfl rfl ?_
        refine j_V.getK mj0_M mj0_235 (ci := 10) (j := 1) rfl K rfl rfl ?_
        refine j_V.one mj0_M mj0_238 (by decide) (pcJ := 241) (stJ := [.int 204, .ref 360]) rfl ?_
        refine j_V.ldL mj0_M mj0_241 rfl (i := 0) (kd := 2) (v := .ref 359) (pcJ := 242) rfl L rfl rfl rfl ?_
        refine j_V.ldL mj0_M mj0_242 rfl (i := 2) (kd := 0) (v := .int (nI t)) (pcJ := 243) rfl L rfl rfl rfl ?_
        refine j_V.cl mj0_M mj0_243 rfl (md := 3) (mj := 209) rfl (by decide) mb0_M (As := [.ref 359, .int (nI t)]) (rest := [.int 204, .ref 360]) (jk_spl3 (K.at rfl) rfl rfl rfl (Nat.le_of_ble_eq_true rfl) (Nat.le_of_ble_eq_true rfl)) (fun d => mb0_ok (u := fun j => [(u 0), .ref 360, .ref 361, .ref 362, .ref 363, .ref 364, .ref 365, .ref 366, .ref 367, (u 9), (u 10), (u 11), (u 12), (u 13), (u 14), (u 15), (u 16), (u 17), (u 18), (u 19), (u 20), (u 21), .ref 368, .int tm, .ref 369, .ref 370, .ref 371, (u 27)].getD j .null) (K.fi [359, 360] rfl rfl)) ?_
        rintro r hz ⟨rfl, ez⟩
        rw [ez]
        clear ez
        show j_V jP _ 227 246 lv [.int (m_sectionOf w (nI t)), .int 204, .ref 360] h _
        refine j_V.one mj0_M mj0_246 (by decide) (pcJ := 247) (stJ := [.int (204 + (m_sectionOf w (nI t))), .ref 360]) rfl ?_
        refine j_V.one mj0_M mj0_247 (by decide) (pcJ := 248) (stJ := [.int (204 + (m_sectionOf w (nI t))), .ref 360, .int (204 + (m_sectionOf w (nI t))), .ref 360]) rfl ?_
        refine j_V.iaA mj0_M mj0_248 K rfl ?_
        refine j_V.one mj0_M mj0_249 (by decide) (pcJ := 250) (stJ := [.int 1, .int (gA w (204 + (m_sectionOf w (nI t)))), .int (204 + (m_sectionOf w (nI t))), .ref 360]) rfl ?_
        refine j_V.one mj0_M mj0_250 (by decide) (pcJ := 251) (stJ := [.int ((gA w (204 + (m_sectionOf w (nI t)))) + 1), .int (204 + (m_sectionOf w (nI t))), .ref 360]) rfl ?_
        refine j_V.isA mj0_M mj0_251 (k' := [(359, .inl (10, [(u 0), .ref 360, .ref 361, .ref 362, .ref 363, .ref 364, .ref 365, .ref 366, .ref 367, (u 9), (u 10), (u 11), (u 12), (u 13), (u 14), (u 15), (u 16), (u 17), (u 18), (u 19), (u 20), (u 21), .ref 368, .int tm, .ref 369, .ref 370, .ref 371, (u 27)])), (360, .inr (.inl (0, (sA w (204 + (m_sectionOf w (nI t))) ((gA w (204 + (m_sectionOf w (nI t)))) + 1))))), (363, .inr (.inl (0, ot))), (368, .inr (.inl (0, tk)))]) K rfl rfl (fun h K => ?_)
        refine j_V.ldL mj0_M mj0_252 rfl (i := 0) (kd := 2) (v := .ref 359) (pcJ := 253) rfl L rfl rfl rfl ?_
        refine j_V.ldL mj0_M mj0_253 rfl (i := 2) (kd := 0) (v := .int (nI t)) (pcJ := 254) rfl L rfl rfl rfl ?_
        refine j_V.one mj0_M mj0_254 (by decide) (pcJ := 256) (stJ := [.int 6, .int (nI t), .ref 359]) rfl ?_
        refine j_V.cl mj0_M mj0_256 rfl (md := 3) (mj := 178) rfl (by decide) ma3_M (As := [.ref 359, .int (nI t), .int 6]) (rest := []) (jk_spl3 (K.at rfl) rfl rfl rfl (Nat.le_of_ble_eq_true rfl) (Nat.le_of_ble_eq_true rfl)) (fun d => ma3_ok (u := fun j => [(u 0), .ref 360, .ref 361, .ref 362, .ref 363, .ref 364, .ref 365, .ref 366, .ref 367, (u 9), (u 10), (u 11), (u 12), (u 13), (u 14), (u 15), (u 16), (u 17), (u 18), (u 19), (u 20), (u 21), .ref 368, .int tm, .ref 369, .ref 370, .ref 371, (u 27)].getD j .null) (K.fi [359, 360] rfl rfl)) ?_
        rintro r hz ⟨rfl, ez⟩
        rw [ez]
        clear ez
        show j_V jP _ 227 259 lv [.int (m_of (sA w (204 + (m_sectionOf w (nI t))) ((gA w (204 + (m_sectionOf w (nI t)))) + 1)) (nI t) 6)] h _
        refine j_V.one mj0_M mj0_259 (by decide) (pcJ := 260) (stJ := [.int 1, .int (m_of (sA w (204 + (m_sectionOf w (nI t))) ((gA w (204 + (m_sectionOf w (nI t)))) + 1)) (nI t) 6)]) rfl ?_
        refine j_V.icmp mj0_M mj0_260 (t := 266) rfl (fun c260_1 => ?_) (fun c260_1 => ?_)
        · replace c260_1 : (m_of (sA w (204 + (m_sectionOf w (nI t))) ((gA w (204 + (m_sectionOf w (nI t)))) + 1)) (nI t) 6) = 1 := jd_eq c260_1
          refine j_V.ldL mj0_M mj0_266 rfl (i := 0) (kd := 2) (v := .ref 359) (pcJ := 267) rfl L rfl rfl rfl ?_
          refine j_V.ldL mj0_M mj0_267 rfl (i := 2) (kd := 0) (v := .int (nI t)) (pcJ := 268) rfl L rfl rfl rfl ?_
          refine j_V.one mj0_M mj0_268 (by decide) (pcJ := 270) (stJ := [.int 12, .int (nI t), .ref 359]) rfl ?_
          refine j_V.ldL mj0_M mj0_270 rfl (i := 0) (kd := 2) (v := .ref 359) (pcJ := 271) rfl L rfl rfl rfl ?_
          refine j_V.ldL mj0_M mj0_271 rfl (i := 2) (kd := 0) (v := .int (nI t)) (pcJ := 272) rfl L rfl rfl rfl ?_
          refine j_V.one mj0_M mj0_272 (by decide) (pcJ := 274) (stJ := [.int 12, .int (nI t), .ref 359, .int 12, .int (nI t), .ref 359]) rfl ?_
          refine j_V.cl mj0_M mj0_274 rfl (md := 3) (mj := 178) rfl (by decide) ma3_M (As := [.ref 359, .int (nI t), .int 12]) (rest := [.int 12, .int (nI t), .ref 359]) (jk_spl3 (K.at rfl) rfl rfl rfl (Nat.le_of_ble_eq_true rfl) (Nat.le_of_ble_eq_true rfl)) (fun d => ma3_ok (u := fun j => [(u 0), .ref 360, .ref 361, .ref 362, .ref 363, .ref 364, .ref 365, .ref 366, .ref 367, (u 9), (u 10), (u 11), (u 12), (u 13), (u 14), (u 15), (u 16), (u 17), (u 18), (u 19), (u 20), (u 21), .ref 368, .int tm, .ref 369, .ref 370, .ref 371, (u 27)].getD j .null) (K.fi [359, 360] rfl rfl)) ?_
          rintro r hz ⟨rfl, ez⟩
          rw [ez]
          clear ez
          show j_V jP _ 227 277 lv [.int (m_of (sA w (204 + (m_sectionOf w (nI t))) ((gA w (204 + (m_sectionOf w (nI t)))) + 1)) (nI t) 12), .int 12, .int (nI t), .ref 359] h _
          refine j_V.one mj0_M mj0_277 (by decide) (pcJ := 278) (stJ := [.int 1, .int (m_of (sA w (204 + (m_sectionOf w (nI t))) ((gA w (204 + (m_sectionOf w (nI t)))) + 1)) (nI t) 12), .int 12, .int (nI t), .ref 359]) rfl ?_
          refine j_V.one mj0_M mj0_278 (by decide) (pcJ := 279) (stJ := [.int ((m_of (sA w (204 + (m_sectionOf w (nI t))) ((gA w (204 + (m_sectionOf w (nI t)))) + 1)) (nI t) 12) + 1), .int 12, .int (nI t), .ref 359]) rfl ?_
          refine j_V.cl mj0_M mj0_279 rfl (md := 3) (mj := 179) rfl (by decide) me0_M (As := [.ref 359, .int (nI t), .int 12, .int ((m_of (sA w (204 + (m_sectionOf w (nI t))) ((gA w (204 + (m_sectionOf w (nI t)))) + 1)) (nI t) 12) + 1)]) (rest := []) (jk_spl3 (K.at rfl) rfl rfl rfl (Nat.le_of_ble_eq_true rfl) (Nat.le_of_ble_eq_true rfl)) (fun d => me0_ok (u := fun j => [(u 0), .ref 360, .ref 361, .ref 362, .ref 363, .ref 364, .ref 365, .ref 366, .ref 367, (u 9), (u 10), (u 11), (u 12), (u 13), (u 14), (u 15), (u 16), (u 17), (u 18), (u 19), (u 20), (u 21), .ref 368, .int tm, .ref 369, .ref 370, .ref 371, (u 27)].getD j .null) (K.fi [359, 360] rfl rfl)) ?_
          rintro r h9 ⟨rfl, K9⟩
          have K : KN h9 [(359, .inl (10, [(u 0), .ref 360, .ref 361, .ref 362, .ref 363, .ref 364, .ref 365, .ref 366, .ref 367, (u 9), (u 10), (u 11), (u 12), (u 13), (u 14), (u 15), (u 16), (u 17), (u 18), (u 19), (u 20), (u 21), .ref 368, .int tm, .ref 369, .ref 370, .ref 371, (u 27)])), (360, .inr (.inl (0, (m_puts (sA w (204 + (m_sectionOf w (nI t))) ((gA w (204 + (m_sectionOf w (nI t)))) + 1)) (nI t) 12 ((m_of (sA w (204 + (m_sectionOf w (nI t))) ((gA w (204 + (m_sectionOf w (nI t)))) + 1)) (nI t) 12) + 1))))), (363, .inr (.inl (0, ot))), (368, .inr (.inl (0, tk)))] h0 := K.mg K9 rfl rfl
          clear K9
          show j_V jP _ 227 282 lv [] h9 _
          refine j_V.ldL mj0_M mj0_282 rfl (i := 0) (kd := 2) (v := .ref 359) (pcJ := 283) rfl L rfl rfl rfl ?_
          refine j_V.getK mj0_M mj0_283 (ci := 10) (j := 1) rfl K rfl rfl ?_
          refine j_V.one mj0_M mj0_286 (by decide) (pcJ := 289) (stJ := [.int 595, .ref 360]) rfl ?_
          refine j_V.ldL mj0_M mj0_289 rfl (i := 0) (kd := 2) (v := .ref 359) (pcJ := 290) rfl L rfl rfl rfl ?_
          refine j_V.ldL mj0_M mj0_290 rfl (i := 2) (kd := 0) (v := .int (nI t)) (pcJ := 291) rfl L rfl rfl rfl ?_
          refine j_V.one mj0_M mj0_291 (by decide) (pcJ := 293) (stJ := [.int 7, .int (nI t), .ref 359, .int 595, .ref 360]) rfl ?_
          refine j_V.cl mj0_M mj0_293 rfl (md := 3) (mj := 178) rfl (by decide) ma3_M (As := [.ref 359, .int (nI t), .int 7]) (rest := [.int 595, .ref 360]) (jk_spl3 (K.at rfl) rfl rfl rfl (Nat.le_of_ble_eq_true rfl) (Nat.le_of_ble_eq_true rfl)) (fun d => ma3_ok (u := fun j => [(u 0), .ref 360, .ref 361, .ref 362, .ref 363, .ref 364, .ref 365, .ref 366, .ref 367, (u 9), (u 10), (u 11), (u 12), (u 13), (u 14), (u 15), (u 16), (u 17), (u 18), (u 19), (u 20), (u 21), .ref 368, .int tm, .ref 369, .ref 370, .ref 371, (u 27)].getD j .null) (K.fi [359, 360] rfl rfl)) ?_
          rintro r hz ⟨rfl, ez⟩
          rw [ez]
          clear ez
          show j_V jP _ 227 296 lv [.int (m_of (m_puts (sA w (204 + (m_sectionOf w (nI t))) ((gA w (204 + (m_sectionOf w (nI t)))) + 1)) (nI t) 12 ((m_of (sA w (204 + (m_sectionOf w (nI t))) ((gA w (204 + (m_sectionOf w (nI t)))) + 1)) (nI t) 12) + 1)) (nI t) 7), .int 595, .ref 360] h9 _
          refine j_V.one mj0_M mj0_296 (by decide) (pcJ := 297) (stJ := [.int (595 + (m_of (m_puts (sA w (204 + (m_sectionOf w (nI t))) ((gA w (204 + (m_sectionOf w (nI t)))) + 1)) (nI t) 12 ((m_of (sA w (204 + (m_sectionOf w (nI t))) ((gA w (204 + (m_sectionOf w (nI t)))) + 1)) (nI t) 12) + 1)) (nI t) 7)), .ref 360]) rfl ?_
          refine j_V.one mj0_M mj0_297 (by decide) (pcJ := 298) (stJ := [.int (595 + (m_of (m_puts (sA w (204 + (m_sectionOf w (nI t))) ((gA w (204 + (m_sectionOf w (nI t)))) + 1)) (nI t) 12 ((m_of (sA w (204 + (m_sectionOf w (nI t))) ((gA w (204 + (m_sectionOf w (nI t)))) + 1)) (nI t) 12) + 1)) (nI t) 7)), .ref 360, .int (595 + (m_of (m_puts (sA w (204 + (m_sectionOf w (nI t))) ((gA w (204 + (m_sectionOf w (nI t)))) + 1)) (nI t) 12 ((m_of (sA w (204 + (m_sectionOf w (nI t))) ((gA w (204 + (m_sectionOf w (nI t)))) + 1)) (nI t) 12) + 1)) (nI t) 7)), .ref 360]) rfl ?_
          refine j_V.iaA mj0_M mj0_298 K rfl ?_
          refine j_V.one mj0_M mj0_299 (by decide) (pcJ := 300) (stJ := [.int 1, .int (gA (m_puts (sA w (204 + (m_sectionOf w (nI t))) ((gA w (204 + (m_sectionOf w (nI t)))) + 1)) (nI t) 12 ((m_of (sA w (204 + (m_sectionOf w (nI t))) ((gA w (204 + (m_sectionOf w (nI t)))) + 1)) (nI t) 12) + 1)) (595 + (m_of (m_puts (sA w (204 + (m_sectionOf w (nI t))) ((gA w (204 + (m_sectionOf w (nI t)))) + 1)) (nI t) 12 ((m_of (sA w (204 + (m_sectionOf w (nI t))) ((gA w (204 + (m_sectionOf w (nI t)))) + 1)) (nI t) 12) + 1)) (nI t) 7))), .int (595 + (m_of (m_puts (sA w (204 + (m_sectionOf w (nI t))) ((gA w (204 + (m_sectionOf w (nI t)))) + 1)) (nI t) 12 ((m_of (sA w (204 + (m_sectionOf w (nI t))) ((gA w (204 + (m_sectionOf w (nI t)))) + 1)) (nI t) 12) + 1)) (nI t) 7)), .ref 360]) rfl ?_
          refine j_V.one mj0_M mj0_300 (by decide) (pcJ := 301) (stJ := [.int ((gA (m_puts (sA w (204 + (m_sectionOf w (nI t))) ((gA w (204 + (m_sectionOf w (nI t)))) + 1)) (nI t) 12 ((m_of (sA w (204 + (m_sectionOf w (nI t))) ((gA w (204 + (m_sectionOf w (nI t)))) + 1)) (nI t) 12) + 1)) (595 + (m_of (m_puts (sA w (204 + (m_sectionOf w (nI t))) ((gA w (204 + (m_sectionOf w (nI t)))) + 1)) (nI t) 12 ((m_of (sA w (204 + (m_sectionOf w (nI t))) ((gA w (204 + (m_sectionOf w (nI t)))) + 1)) (nI t) 12) + 1)) (nI t) 7))) + 1), .int (595 + (m_of (m_puts (sA w (204 + (m_sectionOf w (nI t))) ((gA w (204 + (m_sectionOf w (nI t)))) + 1)) (nI t) 12 ((m_of (sA w (204 + (m_sectionOf w (nI t))) ((gA w (204 + (m_sectionOf w (nI t)))) + 1)) (nI t) 12) + 1)) (nI t) 7)), .ref 360]) rfl ?_
          refine j_V.isA mj0_M mj0_301 (k' := [(359, .inl (10, [(u 0), .ref 360, .ref 361, .ref 362, .ref 363, .ref 364, .ref 365, .ref 366, .ref 367, (u 9), (u 10), (u 11), (u 12), (u 13), (u 14), (u 15), (u 16), (u 17), (u 18), (u 19), (u 20), (u 21), .ref 368, .int tm, .ref 369, .ref 370, .ref 371, (u 27)])), (360, .inr (.inl (0, (sA (m_puts (sA w (204 + (m_sectionOf w (nI t))) ((gA w (204 + (m_sectionOf w (nI t)))) + 1)) (nI t) 12 ((m_of (sA w (204 + (m_sectionOf w (nI t))) ((gA w (204 + (m_sectionOf w (nI t)))) + 1)) (nI t) 12) + 1)) (595 + (m_of (m_puts (sA w (204 + (m_sectionOf w (nI t))) ((gA w (204 + (m_sectionOf w (nI t)))) + 1)) (nI t) 12 ((m_of (sA w (204 + (m_sectionOf w (nI t))) ((gA w (204 + (m_sectionOf w (nI t)))) + 1)) (nI t) 12) + 1)) (nI t) 7)) ((gA (m_puts (sA w (204 + (m_sectionOf w (nI t))) ((gA w (204 + (m_sectionOf w (nI t)))) + 1)) (nI t) 12 ((m_of (sA w (204 + (m_sectionOf w (nI t))) ((gA w (204 + (m_sectionOf w (nI t)))) + 1)) (nI t) 12) + 1)) (595 + (m_of (m_puts (sA w (204 + (m_sectionOf w (nI t))) ((gA w (204 + (m_sectionOf w (nI t)))) + 1)) (nI t) 12 ((m_of (sA w (204 + (m_sectionOf w (nI t))) ((gA w (204 + (m_sectionOf w (nI t)))) + 1)) (nI t) 12) + 1)) (nI t) 7))) + 1))))), (363, .inr (.inl (0, ot))), (368, .inr (.inl (0, tk)))]) K rfl rfl (fun h K => ?_)
          refine j_V.one mj0_M mj0_302 (by decide) (pcJ := 303) (stJ := [.int 0]) rfl ?_
          refine j_V.stL mj0_M mj0_303 rfl (i := 3) (kd := 0) (kl' := [(0, .ref 359), (1, .int x1), (2, .int (nI t)), (3, .int 0)]) (pcJ := 304) rfl L rfl (by decide) rfl rfl rfl (fun lv L => ?_)
          have e0 : m_mE0 w (nI t) = (sA w (204 + (m_sectionOf w (nI t))) ((gA w (204 + (m_sectionOf w (nI t)))) + 1)) := (if_pos c231_0).trans (rfl)
          have hJ := hU w t (by omega) hJ
          have e8 : m_mE1 n w (nI t) = m_mQ (nI t) n 0 (m_mS (m_mE0 w (nI t)) (nI t)) := if_pos (by rw [e0]; exact c260_1)
          have hJ := hS _ t (by omega) hJ (by rw [e0]; exact c260_1)
          rw [e0] at e8 hJ
          refine mj0_ok_l304 (x1 := x1) hn5 hJ1 hQ (t := t) (by omega) n 0 _ (Nat.zero_add n) hJ L K (fun lv h w9 e9 hJ L K => ?_)
          refine j_V.inL mj0_M mj0_328 (i := 2) (kl' := [(0, .ref 359), (1, .int x1), (2, .int ((nI t) + 1))]) (pcJ := 331) L rfl rfl rfl rfl (fun lv L => ?_)
          refine j_V.gto mj0_M mj0_331 (t := 211) rfl ?_
          rw [nI_one] at L
          exact ih (t + 1) _ (by omega) hJ L K (fun lv h v9 z9 => kk lv h v9 (by rw [z9]; show _ = m_mE n f (t + 1) (m_mE1 n w (nI t)); rw [e8, e9]))
        · replace c260_1 : ¬ ((m_of (sA w (204 + (m_sectionOf w (nI t))) ((gA w (204 + (m_sectionOf w (nI t)))) + 1)) (nI t) 6) = 1) := jd_eqn c260_1
          refine j_V.gto mj0_M mj0_263 (t := 328) rfl ?_
          refine j_V.inL mj0_M mj0_328 (i := 2) (kl' := [(0, .ref 359), (1, .int x1), (2, .int ((nI t) + 1))]) (pcJ := 331) L rfl rfl rfl rfl (fun lv L => ?_)
          refine j_V.gto mj0_M mj0_331 (t := 211) rfl ?_
          rw [nI_one] at L
          have e0 : m_mE0 w (nI t) = (sA w (204 + (m_sectionOf w (nI t))) ((gA w (204 + (m_sectionOf w (nI t)))) + 1)) := (if_pos c231_0).trans (rfl)
          have hJ := hU w t (by omega) hJ
          have e8 : m_mE1 n w (nI t) = m_mE0 w (nI t) := if_neg (by rw [e0]; exact c260_1)
          rw [e0] at e8 hJ
          exact ih (t + 1) _ (by omega) hJ L K (fun lv h w9 e9 => kk lv h w9 (by rw [e9]; show _ = m_mE n f (t + 1) (m_mE1 n w (nI t)); rw [e8]))
def m_mT (w : List Int32) : List Int32 := sA w 201 ((gA w 201) + 1)
/-- one minute -/
def m_minute (n : Nat) (w : List Int32) (care : Int32) : List Int32 := m_mT (m_mE n n 0 (m_mM n care n 0 (m_mA n 0 w)))
set_option maxRecDepth 1000000 in
theorem mj0_ok {u : Nat → Value} {n d : Nat} {h h0 : J_H} {w ot tk : List Int32} {tm x1 : Int32} {I J : List Int32 → Prop} (hn5 : n ≤ 5) (hI1 : ∀ w, I w → w.length = 602 ∧ gA w 203 = nI n) (hA : ∀ w t, t < n → I w → I (m_mA1 w (nI t))) (hM : ∀ w k, k < n → I w → I (m_mM1 w n x1 (nI k)) ∧ ((m_isHeld w (gA w (196 + (nI k)))) = 0 → ¬ (m_may w (gA w (196 + (nI k)))) = 0 → ¬ x1 = 0 → m_whyNot w (gA w (196 + (nI k))) = 0 → m_sfok (m_sets w (gA w (196 + (nI k)))) n)) (hJ1 : ∀ w, J w → w.length = 602 ∧ gA w 203 = nI n) (hIJ : ∀ w, I w → J w) (hQ : ∀ w t q, t < n → q < n → J w → J (m_meets w (nI t) (nI q))) (hU : ∀ w t, t < n → J w → J (m_mE0 w (nI t))) (hS : ∀ w t, t < n → J w → (m_of w (nI t) 6) = 1 → J (m_mS w (nI t))) (hI : I w) (ho : ot.length = 602) (K : KN h [(359, .inl (10, [(u 0), .ref 360, .ref 361, .ref 362, .ref 363, .ref 364, .ref 365, .ref 366, .ref 367, (u 9), (u 10), (u 11), (u 12), (u 13), (u 14), (u 15), (u 16), (u 17), (u 18), (u 19), (u 20), (u 21), .ref 368, .int tm, .ref 369, .ref 370, .ref 371, (u 27)])), (360, .inr (.inl (0, w))), (363, .inr (.inl (0, ot))), (368, .inr (.inl (0, tk)))] h0) : j_V jP d 227 0 (lv_args 0 [.ref 359, .int x1]) [] h (fun rv h' => rv = none ∧ ∃ (ot' tk' : List Int32) (tm' : Int32), ot'.length = 602 ∧ KN h' [(359, .inl (10, [(u 0), .ref 360, .ref 361, .ref 362, .ref 363, .ref 364, .ref 365, .ref 366, .ref 367, (u 9), (u 10), (u 11), (u 12), (u 13), (u 14), (u 15), (u 16), (u 17), (u 18), (u 19), (u 20), (u 21), .ref 368, .int tm', .ref 369, .ref 370, .ref 371, (u 27)])), (360, .inr (.inl (0, (m_minute n w x1)))), (363, .inr (.inl (0, ot'))), (368, .inr (.inl (0, tk')))] h0) := by
  show j_V jP d 227 0 [(0, .ref 359), (1, .int x1)] [] h _
  obtain ⟨lv, elv, L⟩ : ∃ lv, lv = [(0, .ref 359), (1, .int x1)] ∧ LK lv [(0, .ref 359), (1, .int x1)] := ⟨_, rfl, LK.rf⟩
  rw [← elv]
  clear elv
  refine j_V.one mj0_M mj0_0 (by decide) (pcJ := 1) (stJ := [.int 0]) rfl ?_
  refine j_V.stL mj0_M mj0_1 rfl (i := 2) (kd := 0) (kl' := [(0, .ref 359), (1, .int x1), (2, .int 0)]) (pcJ := 2) rfl L rfl (by decide) rfl rfl rfl (fun lv L => ?_)
  have L : LK lv [(0, .ref 359), (1, .int x1), (2, .int (nI 0))] := L
  refine mj0_ok_l2 hn5 hI1 hA n 0 w (Nat.zero_add n) hI L K (fun lv h w1 e1 hI L K => ?_)
  refine j_V.one mj0_M mj0_54 (by decide) (pcJ := 55) (stJ := [.int 0]) rfl ?_
  refine j_V.stL mj0_M mj0_55 rfl (i := 2) (kd := 0) (kl' := [(0, .ref 359), (1, .int x1), (2, .int 0)]) (pcJ := 56) rfl L rfl (by decide) rfl rfl rfl (fun lv L => ?_)
  have L : LK lv [(0, .ref 359), (1, .int x1), (2, .int (nI 0))] := L
  refine mj0_ok_l56 hn5 hI1 hM n 0 w1 (Nat.zero_add n) ho hI L K (fun lv h ot tk tm w2 ho e2 hI L K => ?_)
  refine j_V.one mj0_M mj0_209 (by decide) (pcJ := 210) (stJ := [.int 0]) rfl ?_
  refine j_V.stL mj0_M mj0_210 rfl (i := 2) (kd := 0) (kl' := [(0, .ref 359), (1, .int x1), (2, .int 0)]) (pcJ := 211) rfl L rfl (by decide) rfl rfl rfl (fun lv L => ?_)
  have L : LK lv [(0, .ref 359), (1, .int x1), (2, .int (nI 0))] := L
  refine mj0_ok_l211 hn5 hJ1 hQ hU hS n 0 w2 (Nat.zero_add n) (hIJ _ hI) L K (fun lv h w3 e3 hJ L K => ?_)
  refine j_V.ldL mj0_M mj0_334 rfl (i := 0) (kd := 2) (v := .ref 359) (pcJ := 335) rfl L rfl rfl rfl ?_
  refine j_V.getK mj0_M mj0_335 (ci := 10) (j := 1) rfl K rfl rfl ?_
  refine j_V.one mj0_M mj0_338 (by decide) (pcJ := 341) (stJ := [.int 201, .ref 360]) rfl ?_
  refine j_V.one mj0_M mj0_341 (by decide) (pcJ := 342) (stJ := [.int 201, .ref 360, .int 201, .ref 360]) rfl ?_
  refine j_V.iaA mj0_M mj0_342 K rfl ?_
  refine j_V.one mj0_M mj0_343 (by decide) (pcJ := 344) (stJ := [.int 1, .int (gA w3 201), .int 201, .ref 360]) rfl ?_
  refine j_V.one mj0_M mj0_344 (by decide) (pcJ := 345) (stJ := [.int ((gA w3 201) + 1), .int 201, .ref 360]) rfl ?_
  refine j_V.isA mj0_M mj0_345 (k' := [(359, .inl (10, [(u 0), .ref 360, .ref 361, .ref 362, .ref 363, .ref 364, .ref 365, .ref 366, .ref 367, (u 9), (u 10), (u 11), (u 12), (u 13), (u 14), (u 15), (u 16), (u 17), (u 18), (u 19), (u 20), (u 21), .ref 368, .int tm, .ref 369, .ref 370, .ref 371, (u 27)])), (360, .inr (.inl (0, (sA w3 201 ((gA w3 201) + 1))))), (363, .inr (.inl (0, ot))), (368, .inr (.inl (0, tk)))]) K rfl rfl (fun h K => ?_)
  refine j_V.ret mj0_M mj0_346 rfl rfl ⟨rfl, ot, tk, tm, ho, ?_⟩
  rw [show m_minute n w x1 = m_mT w3 by rw [e3, e2, e1]; rfl]
  exact K

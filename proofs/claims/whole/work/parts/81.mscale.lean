/-! ===== the reference: divides, the scaling ===== -/
theorem sc_step {X F : Nat → Int} {k : Nat} {w f v : Int} (hE : mg 268435456 X k + w * 268435456 ^ k = f * mg 268435456 F k) (hv : f * F k + w = v) : mg 268435456 (upF X k (v % 268435456)) (k + 1) + v / 268435456 * 268435456 ^ (k + 1) = f * mg 268435456 F (k + 1) := by
  have hmd := Int.emod_add_mul_ediv v 268435456
  simp only [mg]
  rw [mg_upF, upF_self, Int.pow_succ, Int.mul_add, ← hE, ← Int.mul_assoc f]
  generalize (268435456 : Int) ^ k = P
  generalize v / 268435456 = q at hmd ⊢
  generalize v % 268435456 = r at hmd ⊢
  have e2 : q * (P * 268435456) = 268435456 * q * P := by
    rw [Int.mul_comm P 268435456, ← Int.mul_assoc, Int.mul_comm q 268435456]
  have e3 : (r + 268435456 * q) * P = (f * F k + w) * P := by rw [hmd, hv]
  rw [Int.add_mul, Int.add_mul] at e3
  rw [e2]
  omega
theorem sc_bd {w f b : Int} (hw : 0 ≤ w ∧ w < 268435456) (hf : 0 ≤ f ∧ f < 268435456) (hb : 0 ≤ b ∧ b < 268435456) : 0 ≤ f * b + w ∧ f * b + w < 72057594037927936 := by
  have := mu_bd (c := 0) (r := w) (by omega) hf hb hw
  omega
abbrev mX6_divides : MI := (yX6_divides, cX6_divides, 18, none, noX)
theorem dX6_divides_0 : decode cX6_divides 0 = .ok (.aload_n 0, 1) := by decide +kernel
theorem dX6_divides_1 : decode cX6_divides 1 = .ok (.getfield 14, 3) := by decide +kernel
theorem dX6_divides_4 : decode cX6_divides 4 = .ok (.iload_n 2, 1) := by decide +kernel
theorem dX6_divides_5 : decode cX6_divides 5 = .ok (.iaload, 1) := by decide +kernel
theorem dX6_divides_6 : decode cX6_divides 6 = .ok (.istore 4, 2) := by decide +kernel
theorem dX6_divides_8 : decode cX6_divides 8 = .ok (.aload_n 0, 1) := by decide +kernel
theorem dX6_divides_9 : decode cX6_divides 9 = .ok (.getfield 14, 3) := by decide +kernel
theorem dX6_divides_12 : decode cX6_divides 12 = .ok (.iload_n 1, 1) := by decide +kernel
theorem dX6_divides_13 : decode cX6_divides 13 = .ok (.iaload, 1) := by decide +kernel
theorem dX6_divides_14 : decode cX6_divides 14 = .ok (.istore 5, 2) := by decide +kernel
theorem dX6_divides_16 : decode cX6_divides 16 = .ok (.aload_n 0, 1) := by decide +kernel
theorem dX6_divides_17 : decode cX6_divides 17 = .ok (.getfield 17, 3) := by decide +kernel
theorem dX6_divides_20 : decode cX6_divides 20 = .ok (.iload_n 1, 1) := by decide +kernel
theorem dX6_divides_21 : decode cX6_divides 21 = .ok (.iaload, 1) := by decide +kernel
theorem dX6_divides_22 : decode cX6_divides 22 = .ok (.aload_n 0, 1) := by decide +kernel
theorem dX6_divides_23 : decode cX6_divides 23 = .ok (.getfield 17, 3) := by decide +kernel
theorem dX6_divides_26 : decode cX6_divides 26 = .ok (.iload_n 2, 1) := by decide +kernel
theorem dX6_divides_27 : decode cX6_divides 27 = .ok (.iaload, 1) := by decide +kernel
theorem dX6_divides_28 : decode cX6_divides 28 = .ok (.imul, 1) := by decide +kernel
theorem dX6_divides_29 : decode cX6_divides 29 = .ok (.istore 6, 2) := by decide +kernel
theorem dX6_divides_31 : decode cX6_divides 31 = .ok (.aload_n 0, 1) := by decide +kernel
theorem dX6_divides_32 : decode cX6_divides 32 = .ok (.iload_n 1, 1) := by decide +kernel
theorem dX6_divides_33 : decode cX6_divides 33 = .ok (.iload_n 2, 1) := by decide +kernel
theorem dX6_divides_34 : decode cX6_divides 34 = .ok (.invokevirtual 71, 3) := by decide +kernel
theorem dX6_divides_37 : decode cX6_divides 37 = .ok (.ifCond .ge 41, 3) := by decide +kernel
theorem dX6_divides_40 : decode cX6_divides 40 = .ok (.iconst 0, 1) := by decide +kernel
theorem dX6_divides_41 : decode cX6_divides 41 = .ok (.istore 7, 2) := by decide +kernel
theorem dX6_divides_43 : decode cX6_divides 43 = .ok (.iload 7, 2) := by decide +kernel
theorem dX6_divides_45 : decode cX6_divides 45 = .ok (.iload 4, 2) := by decide +kernel
theorem dX6_divides_47 : decode cX6_divides 47 = .ok (.if_icmp .ge 24, 3) := by decide +kernel
theorem dX6_divides_50 : decode cX6_divides 50 = .ok (.aload_n 0, 1) := by decide +kernel
theorem dX6_divides_51 : decode cX6_divides 51 = .ok (.getfield 20, 3) := by decide +kernel
theorem dX6_divides_54 : decode cX6_divides 54 = .ok (.iload 7, 2) := by decide +kernel
theorem dX6_divides_56 : decode cX6_divides 56 = .ok (.aload_n 0, 1) := by decide +kernel
theorem dX6_divides_57 : decode cX6_divides 57 = .ok (.iload_n 1, 1) := by decide +kernel
theorem dX6_divides_58 : decode cX6_divides 58 = .ok (.iload 7, 2) := by decide +kernel
theorem dX6_divides_60 : decode cX6_divides 60 = .ok (.invokevirtual 75, 3) := by decide +kernel
theorem dX6_divides_63 : decode cX6_divides 63 = .ok (.i2l, 1) := by decide +kernel
theorem dX6_divides_64 : decode cX6_divides 64 = .ok (.lastore, 1) := by decide +kernel
theorem dX6_divides_65 : decode cX6_divides 65 = .ok (.iinc 7 1, 3) := by decide +kernel
theorem dX6_divides_68 : decode cX6_divides 68 = .ok (.goto (-25), 3) := by decide +kernel
theorem dX6_divides_71 : decode cX6_divides 71 = .ok (.aload_n 0, 1) := by decide +kernel
theorem dX6_divides_72 : decode cX6_divides 72 = .ok (.iload_n 3, 1) := by decide +kernel
theorem dX6_divides_73 : decode cX6_divides 73 = .ok (.lconst 0, 1) := by decide +kernel
theorem dX6_divides_74 : decode cX6_divides 74 = .ok (.invokevirtual 83, 3) := by decide +kernel
theorem dX6_divides_77 : decode cX6_divides 77 = .ok (.return_, 1) := by decide +kernel
theorem dX6_divides_78 : decode cX6_divides 78 = .ok (.ldc 78, 2) := by decide +kernel
theorem dX6_divides_80 : decode cX6_divides 80 = .ok (.aload_n 0, 1) := by decide +kernel
theorem dX6_divides_81 : decode cX6_divides 81 = .ok (.getfield 8, 3) := by decide +kernel
theorem dX6_divides_84 : decode cX6_divides 84 = .ok (.bipush 100, 2) := by decide +kernel
theorem dX6_divides_86 : decode cX6_divides 86 = .ok (.iload_n 2, 1) := by decide +kernel
theorem dX6_divides_87 : decode cX6_divides 87 = .ok (.imul, 1) := by decide +kernel
theorem dX6_divides_88 : decode cX6_divides 88 = .ok (.iload 4, 2) := by decide +kernel
theorem dX6_divides_90 : decode cX6_divides 90 = .ok (.iadd, 1) := by decide +kernel
theorem dX6_divides_91 : decode cX6_divides 91 = .ok (.iconst 1, 1) := by decide +kernel
theorem dX6_divides_92 : decode cX6_divides 92 = .ok (.isub, 1) := by decide +kernel
theorem dX6_divides_93 : decode cX6_divides 93 = .ok (.iaload, 1) := by decide +kernel
theorem dX6_divides_94 : decode cX6_divides 94 = .ok (.iconst 1, 1) := by decide +kernel
theorem dX6_divides_95 : decode cX6_divides 95 = .ok (.iadd, 1) := by decide +kernel
theorem dX6_divides_96 : decode cX6_divides 96 = .ok (.idiv, 1) := by decide +kernel
theorem dX6_divides_97 : decode cX6_divides 97 = .ok (.i2l, 1) := by decide +kernel
theorem dX6_divides_98 : decode cX6_divides 98 = .ok (.lstore 7, 2) := by decide +kernel
theorem dX6_divides_100 : decode cX6_divides 100 = .ok (.lconst 0, 1) := by decide +kernel
theorem dX6_divides_101 : decode cX6_divides 101 = .ok (.lstore 9, 2) := by decide +kernel
theorem dX6_divides_103 : decode cX6_divides 103 = .ok (.iconst 0, 1) := by decide +kernel
theorem dX6_divides_104 : decode cX6_divides 104 = .ok (.istore 11, 2) := by decide +kernel
theorem dX6_divides_106 : decode cX6_divides 106 = .ok (.iload 11, 2) := by decide +kernel
theorem dX6_divides_108 : decode cX6_divides 108 = .ok (.iload 4, 2) := by decide +kernel
theorem dX6_divides_110 : decode cX6_divides 110 = .ok (.if_icmp .ge 51, 3) := by decide +kernel
theorem dX6_divides_113 : decode cX6_divides 113 = .ok (.lload 7, 2) := by decide +kernel
theorem dX6_divides_115 : decode cX6_divides 115 = .ok (.aload_n 0, 1) := by decide +kernel
theorem dX6_divides_116 : decode cX6_divides 116 = .ok (.getfield 8, 3) := by decide +kernel
theorem dX6_divides_119 : decode cX6_divides 119 = .ok (.bipush 100, 2) := by decide +kernel
theorem dX6_divides_121 : decode cX6_divides 121 = .ok (.iload_n 2, 1) := by decide +kernel
theorem dX6_divides_122 : decode cX6_divides 122 = .ok (.imul, 1) := by decide +kernel
theorem dX6_divides_123 : decode cX6_divides 123 = .ok (.iload 11, 2) := by decide +kernel
theorem dX6_divides_125 : decode cX6_divides 125 = .ok (.iadd, 1) := by decide +kernel
theorem dX6_divides_126 : decode cX6_divides 126 = .ok (.iaload, 1) := by decide +kernel
theorem dX6_divides_127 : decode cX6_divides 127 = .ok (.i2l, 1) := by decide +kernel
theorem dX6_divides_128 : decode cX6_divides 128 = .ok (.lmul, 1) := by decide +kernel
theorem dX6_divides_129 : decode cX6_divides 129 = .ok (.lload 9, 2) := by decide +kernel
theorem dX6_divides_131 : decode cX6_divides 131 = .ok (.ladd, 1) := by decide +kernel
theorem dX6_divides_132 : decode cX6_divides 132 = .ok (.lstore 12, 2) := by decide +kernel
theorem dX6_divides_134 : decode cX6_divides 134 = .ok (.aload_n 0, 1) := by decide +kernel
theorem dX6_divides_135 : decode cX6_divides 135 = .ok (.getfield 24, 3) := by decide +kernel
theorem dX6_divides_138 : decode cX6_divides 138 = .ok (.iload 11, 2) := by decide +kernel
theorem dX6_divides_140 : decode cX6_divides 140 = .ok (.lload 12, 2) := by decide +kernel
theorem dX6_divides_142 : decode cX6_divides 142 = .ok (.ldc2_w 65, 3) := by decide +kernel
theorem dX6_divides_145 : decode cX6_divides 145 = .ok (.lrem, 1) := by decide +kernel
theorem dX6_divides_146 : decode cX6_divides 146 = .ok (.lastore, 1) := by decide +kernel
theorem dX6_divides_147 : decode cX6_divides 147 = .ok (.lload 12, 2) := by decide +kernel
theorem dX6_divides_149 : decode cX6_divides 149 = .ok (.ldc2_w 65, 3) := by decide +kernel
theorem dX6_divides_152 : decode cX6_divides 152 = .ok (.ldiv, 1) := by decide +kernel
theorem dX6_divides_153 : decode cX6_divides 153 = .ok (.lstore 9, 2) := by decide +kernel
theorem dX6_divides_155 : decode cX6_divides 155 = .ok (.iinc 11 1, 3) := by decide +kernel
theorem dX6_divides_158 : decode cX6_divides 158 = .ok (.goto (-52), 3) := by decide +kernel
theorem dX6_divides_161 : decode cX6_divides 161 = .ok (.lconst 0, 1) := by decide +kernel
theorem dX6_divides_162 : decode cX6_divides 162 = .ok (.lstore 9, 2) := by decide +kernel
theorem dX6_divides_164 : decode cX6_divides 164 = .ok (.iconst 0, 1) := by decide +kernel
theorem dX6_divides_165 : decode cX6_divides 165 = .ok (.istore 11, 2) := by decide +kernel
theorem dX6_divides_167 : decode cX6_divides 167 = .ok (.iload 11, 2) := by decide +kernel
theorem dX6_divides_169 : decode cX6_divides 169 = .ok (.iload 5, 2) := by decide +kernel
theorem dX6_divides_171 : decode cX6_divides 171 = .ok (.if_icmp .ge 51, 3) := by decide +kernel
theorem dX6_divides_174 : decode cX6_divides 174 = .ok (.lload 7, 2) := by decide +kernel
theorem dX6_divides_176 : decode cX6_divides 176 = .ok (.aload_n 0, 1) := by decide +kernel
theorem dX6_divides_177 : decode cX6_divides 177 = .ok (.getfield 8, 3) := by decide +kernel
theorem dX6_divides_180 : decode cX6_divides 180 = .ok (.bipush 100, 2) := by decide +kernel
theorem dX6_divides_182 : decode cX6_divides 182 = .ok (.iload_n 1, 1) := by decide +kernel
theorem dX6_divides_183 : decode cX6_divides 183 = .ok (.imul, 1) := by decide +kernel
theorem dX6_divides_184 : decode cX6_divides 184 = .ok (.iload 11, 2) := by decide +kernel
theorem dX6_divides_186 : decode cX6_divides 186 = .ok (.iadd, 1) := by decide +kernel
theorem dX6_divides_187 : decode cX6_divides 187 = .ok (.iaload, 1) := by decide +kernel
theorem dX6_divides_188 : decode cX6_divides 188 = .ok (.i2l, 1) := by decide +kernel
theorem dX6_divides_189 : decode cX6_divides 189 = .ok (.lmul, 1) := by decide +kernel
theorem dX6_divides_190 : decode cX6_divides 190 = .ok (.lload 9, 2) := by decide +kernel
theorem dX6_divides_192 : decode cX6_divides 192 = .ok (.ladd, 1) := by decide +kernel
theorem dX6_divides_193 : decode cX6_divides 193 = .ok (.lstore 12, 2) := by decide +kernel
theorem dX6_divides_195 : decode cX6_divides 195 = .ok (.aload_n 0, 1) := by decide +kernel
theorem dX6_divides_196 : decode cX6_divides 196 = .ok (.getfield 20, 3) := by decide +kernel
theorem dX6_divides_199 : decode cX6_divides 199 = .ok (.iload 11, 2) := by decide +kernel
theorem dX6_divides_201 : decode cX6_divides 201 = .ok (.lload 12, 2) := by decide +kernel
theorem dX6_divides_203 : decode cX6_divides 203 = .ok (.ldc2_w 65, 3) := by decide +kernel
theorem dX6_divides_206 : decode cX6_divides 206 = .ok (.lrem, 1) := by decide +kernel
theorem dX6_divides_207 : decode cX6_divides 207 = .ok (.lastore, 1) := by decide +kernel
theorem dX6_divides_208 : decode cX6_divides 208 = .ok (.lload 12, 2) := by decide +kernel
theorem dX6_divides_210 : decode cX6_divides 210 = .ok (.ldc2_w 65, 3) := by decide +kernel
theorem dX6_divides_213 : decode cX6_divides 213 = .ok (.ldiv, 1) := by decide +kernel
theorem dX6_divides_214 : decode cX6_divides 214 = .ok (.lstore 9, 2) := by decide +kernel
theorem dX6_divides_216 : decode cX6_divides 216 = .ok (.iinc 11 1, 3) := by decide +kernel
theorem dX6_divides_219 : decode cX6_divides 219 = .ok (.goto (-52), 3) := by decide +kernel
theorem dX6_divides_222 : decode cX6_divides 222 = .ok (.aload_n 0, 1) := by decide +kernel
theorem dX6_divides_223 : decode cX6_divides 223 = .ok (.getfield 20, 3) := by decide +kernel
theorem dX6_divides_226 : decode cX6_divides 226 = .ok (.iload 5, 2) := by decide +kernel
theorem dX6_divides_228 : decode cX6_divides 228 = .ok (.lload 9, 2) := by decide +kernel
theorem dX6_divides_230 : decode cX6_divides 230 = .ok (.lastore, 1) := by decide +kernel
theorem dX6_divides_231 : decode cX6_divides 231 = .ok (.iload 5, 2) := by decide +kernel
theorem dX6_divides_233 : decode cX6_divides 233 = .ok (.iload 4, 2) := by decide +kernel
theorem dX6_divides_235 : decode cX6_divides 235 = .ok (.isub, 1) := by decide +kernel
theorem dX6_divides_236 : decode cX6_divides 236 = .ok (.istore 11, 2) := by decide +kernel
theorem dX6_divides_238 : decode cX6_divides 238 = .ok (.iload 11, 2) := by decide +kernel
theorem dX6_divides_240 : decode cX6_divides 240 = .ok (.ifCond .lt 171, 3) := by decide +kernel
theorem dX6_divides_243 : decode cX6_divides 243 = .ok (.aload_n 0, 1) := by decide +kernel
theorem dX6_divides_244 : decode cX6_divides 244 = .ok (.getfield 20, 3) := by decide +kernel
theorem dX6_divides_247 : decode cX6_divides 247 = .ok (.iload 11, 2) := by decide +kernel
theorem dX6_divides_249 : decode cX6_divides 249 = .ok (.iload 4, 2) := by decide +kernel
theorem dX6_divides_251 : decode cX6_divides 251 = .ok (.iadd, 1) := by decide +kernel
theorem dX6_divides_252 : decode cX6_divides 252 = .ok (.laload, 1) := by decide +kernel
theorem dX6_divides_253 : decode cX6_divides 253 = .ok (.ldc2_w 65, 3) := by decide +kernel
theorem dX6_divides_256 : decode cX6_divides 256 = .ok (.lmul, 1) := by decide +kernel
theorem dX6_divides_257 : decode cX6_divides 257 = .ok (.aload_n 0, 1) := by decide +kernel
theorem dX6_divides_258 : decode cX6_divides 258 = .ok (.getfield 20, 3) := by decide +kernel
theorem dX6_divides_261 : decode cX6_divides 261 = .ok (.iload 11, 2) := by decide +kernel
theorem dX6_divides_263 : decode cX6_divides 263 = .ok (.iload 4, 2) := by decide +kernel
theorem dX6_divides_265 : decode cX6_divides 265 = .ok (.iadd, 1) := by decide +kernel
theorem dX6_divides_266 : decode cX6_divides 266 = .ok (.iconst 1, 1) := by decide +kernel
theorem dX6_divides_267 : decode cX6_divides 267 = .ok (.isub, 1) := by decide +kernel
theorem dX6_divides_268 : decode cX6_divides 268 = .ok (.laload, 1) := by decide +kernel
theorem dX6_divides_269 : decode cX6_divides 269 = .ok (.ladd, 1) := by decide +kernel
theorem dX6_divides_270 : decode cX6_divides 270 = .ok (.lstore 12, 2) := by decide +kernel
theorem dX6_divides_272 : decode cX6_divides 272 = .ok (.lload 12, 2) := by decide +kernel
theorem dX6_divides_274 : decode cX6_divides 274 = .ok (.aload_n 0, 1) := by decide +kernel
theorem dX6_divides_275 : decode cX6_divides 275 = .ok (.getfield 24, 3) := by decide +kernel
theorem dX6_divides_278 : decode cX6_divides 278 = .ok (.iload 4, 2) := by decide +kernel
theorem dX6_divides_280 : decode cX6_divides 280 = .ok (.iconst 1, 1) := by decide +kernel
theorem dX6_divides_281 : decode cX6_divides 281 = .ok (.isub, 1) := by decide +kernel
theorem dX6_divides_282 : decode cX6_divides 282 = .ok (.laload, 1) := by decide +kernel
theorem dX6_divides_283 : decode cX6_divides 283 = .ok (.ldiv, 1) := by decide +kernel
theorem dX6_divides_284 : decode cX6_divides 284 = .ok (.lstore 14, 2) := by decide +kernel
theorem dX6_divides_286 : decode cX6_divides 286 = .ok (.lload 12, 2) := by decide +kernel
theorem dX6_divides_288 : decode cX6_divides 288 = .ok (.aload_n 0, 1) := by decide +kernel
theorem dX6_divides_289 : decode cX6_divides 289 = .ok (.getfield 24, 3) := by decide +kernel
theorem dX6_divides_292 : decode cX6_divides 292 = .ok (.iload 4, 2) := by decide +kernel
theorem dX6_divides_294 : decode cX6_divides 294 = .ok (.iconst 1, 1) := by decide +kernel
theorem dX6_divides_295 : decode cX6_divides 295 = .ok (.isub, 1) := by decide +kernel
theorem dX6_divides_296 : decode cX6_divides 296 = .ok (.laload, 1) := by decide +kernel
theorem dX6_divides_297 : decode cX6_divides 297 = .ok (.lrem, 1) := by decide +kernel
theorem dX6_divides_298 : decode cX6_divides 298 = .ok (.lstore 16, 2) := by decide +kernel
theorem dX6_divides_300 : decode cX6_divides 300 = .ok (.lload 14, 2) := by decide +kernel
theorem dX6_divides_302 : decode cX6_divides 302 = .ok (.ldc2_w 65, 3) := by decide +kernel
theorem dX6_divides_305 : decode cX6_divides 305 = .ok (.lcmp, 1) := by decide +kernel
theorem dX6_divides_306 : decode cX6_divides 306 = .ok (.ifCond .ge 44, 3) := by decide +kernel
theorem dX6_divides_309 : decode cX6_divides 309 = .ok (.iload 4, 2) := by decide +kernel
theorem dX6_divides_311 : decode cX6_divides 311 = .ok (.iconst 1, 1) := by decide +kernel
theorem dX6_divides_312 : decode cX6_divides 312 = .ok (.if_icmp .le 70, 3) := by decide +kernel
theorem dX6_divides_315 : decode cX6_divides 315 = .ok (.lload 14, 2) := by decide +kernel
theorem dX6_divides_317 : decode cX6_divides 317 = .ok (.aload_n 0, 1) := by decide +kernel
theorem dX6_divides_318 : decode cX6_divides 318 = .ok (.getfield 24, 3) := by decide +kernel
theorem dX6_divides_321 : decode cX6_divides 321 = .ok (.iload 4, 2) := by decide +kernel
theorem dX6_divides_323 : decode cX6_divides 323 = .ok (.iconst 2, 1) := by decide +kernel
theorem dX6_divides_324 : decode cX6_divides 324 = .ok (.isub, 1) := by decide +kernel
theorem dX6_divides_325 : decode cX6_divides 325 = .ok (.laload, 1) := by decide +kernel
theorem dX6_divides_326 : decode cX6_divides 326 = .ok (.lmul, 1) := by decide +kernel
theorem dX6_divides_327 : decode cX6_divides 327 = .ok (.lload 16, 2) := by decide +kernel
theorem dX6_divides_329 : decode cX6_divides 329 = .ok (.ldc2_w 65, 3) := by decide +kernel
theorem dX6_divides_332 : decode cX6_divides 332 = .ok (.lmul, 1) := by decide +kernel
theorem dX6_divides_333 : decode cX6_divides 333 = .ok (.aload_n 0, 1) := by decide +kernel
theorem dX6_divides_334 : decode cX6_divides 334 = .ok (.getfield 20, 3) := by decide +kernel
theorem dX6_divides_337 : decode cX6_divides 337 = .ok (.iload 11, 2) := by decide +kernel
theorem dX6_divides_339 : decode cX6_divides 339 = .ok (.iload 4, 2) := by decide +kernel
theorem dX6_divides_341 : decode cX6_divides 341 = .ok (.iadd, 1) := by decide +kernel
theorem dX6_divides_342 : decode cX6_divides 342 = .ok (.iconst 2, 1) := by decide +kernel
theorem dX6_divides_343 : decode cX6_divides 343 = .ok (.isub, 1) := by decide +kernel
theorem dX6_divides_344 : decode cX6_divides 344 = .ok (.laload, 1) := by decide +kernel
theorem dX6_divides_345 : decode cX6_divides 345 = .ok (.ladd, 1) := by decide +kernel
theorem dX6_divides_346 : decode cX6_divides 346 = .ok (.lcmp, 1) := by decide +kernel
theorem dX6_divides_347 : decode cX6_divides 347 = .ok (.ifCond .le 35, 3) := by decide +kernel
theorem dX6_divides_350 : decode cX6_divides 350 = .ok (.lload 14, 2) := by decide +kernel
theorem dX6_divides_352 : decode cX6_divides 352 = .ok (.lconst 1, 1) := by decide +kernel
theorem dX6_divides_353 : decode cX6_divides 353 = .ok (.lsub, 1) := by decide +kernel
theorem dX6_divides_354 : decode cX6_divides 354 = .ok (.lstore 14, 2) := by decide +kernel
theorem dX6_divides_356 : decode cX6_divides 356 = .ok (.lload 16, 2) := by decide +kernel
theorem dX6_divides_358 : decode cX6_divides 358 = .ok (.aload_n 0, 1) := by decide +kernel
theorem dX6_divides_359 : decode cX6_divides 359 = .ok (.getfield 24, 3) := by decide +kernel
theorem dX6_divides_362 : decode cX6_divides 362 = .ok (.iload 4, 2) := by decide +kernel
theorem dX6_divides_364 : decode cX6_divides 364 = .ok (.iconst 1, 1) := by decide +kernel
theorem dX6_divides_365 : decode cX6_divides 365 = .ok (.isub, 1) := by decide +kernel
theorem dX6_divides_366 : decode cX6_divides 366 = .ok (.laload, 1) := by decide +kernel
theorem dX6_divides_367 : decode cX6_divides 367 = .ok (.ladd, 1) := by decide +kernel
theorem dX6_divides_368 : decode cX6_divides 368 = .ok (.lstore 16, 2) := by decide +kernel
theorem dX6_divides_370 : decode cX6_divides 370 = .ok (.lload 16, 2) := by decide +kernel
theorem dX6_divides_372 : decode cX6_divides 372 = .ok (.ldc2_w 65, 3) := by decide +kernel
theorem dX6_divides_375 : decode cX6_divides 375 = .ok (.lcmp, 1) := by decide +kernel
theorem dX6_divides_376 : decode cX6_divides 376 = .ok (.ifCond .lt (-76), 3) := by decide +kernel
theorem dX6_divides_379 : decode cX6_divides 379 = .ok (.goto 3, 3) := by decide +kernel
theorem dX6_divides_382 : decode cX6_divides 382 = .ok (.aload_n 0, 1) := by decide +kernel
theorem dX6_divides_383 : decode cX6_divides 383 = .ok (.getfield 8, 3) := by decide +kernel
theorem dX6_divides_386 : decode cX6_divides 386 = .ok (.bipush 100, 2) := by decide +kernel
theorem dX6_divides_388 : decode cX6_divides 388 = .ok (.iload_n 3, 1) := by decide +kernel
theorem dX6_divides_389 : decode cX6_divides 389 = .ok (.imul, 1) := by decide +kernel
theorem dX6_divides_390 : decode cX6_divides 390 = .ok (.iload 11, 2) := by decide +kernel
theorem dX6_divides_392 : decode cX6_divides 392 = .ok (.iadd, 1) := by decide +kernel
theorem dX6_divides_393 : decode cX6_divides 393 = .ok (.aload_n 0, 1) := by decide +kernel
theorem dX6_divides_394 : decode cX6_divides 394 = .ok (.iload 11, 2) := by decide +kernel
theorem dX6_divides_396 : decode cX6_divides 396 = .ok (.iload 4, 2) := by decide +kernel
theorem dX6_divides_398 : decode cX6_divides 398 = .ok (.lload 14, 2) := by decide +kernel
theorem dX6_divides_400 : decode cX6_divides 400 = .ok (.invokevirtual 87, 3) := by decide +kernel
theorem dX6_divides_403 : decode cX6_divides 403 = .ok (.l2i, 1) := by decide +kernel
theorem dX6_divides_404 : decode cX6_divides 404 = .ok (.iastore, 1) := by decide +kernel
theorem dX6_divides_405 : decode cX6_divides 405 = .ok (.iinc 11 (-1), 3) := by decide +kernel
theorem dX6_divides_408 : decode cX6_divides 408 = .ok (.goto (-170), 3) := by decide +kernel
theorem dX6_divides_411 : decode cX6_divides 411 = .ok (.lconst 0, 1) := by decide +kernel
theorem dX6_divides_412 : decode cX6_divides 412 = .ok (.lstore 9, 2) := by decide +kernel
theorem dX6_divides_414 : decode cX6_divides 414 = .ok (.iload 4, 2) := by decide +kernel
theorem dX6_divides_416 : decode cX6_divides 416 = .ok (.iconst 1, 1) := by decide +kernel
theorem dX6_divides_417 : decode cX6_divides 417 = .ok (.isub, 1) := by decide +kernel
theorem dX6_divides_418 : decode cX6_divides 418 = .ok (.istore 11, 2) := by decide +kernel
theorem dX6_divides_420 : decode cX6_divides 420 = .ok (.iload 11, 2) := by decide +kernel
theorem dX6_divides_422 : decode cX6_divides 422 = .ok (.ifCond .lt 44, 3) := by decide +kernel
theorem dX6_divides_425 : decode cX6_divides 425 = .ok (.lload 9, 2) := by decide +kernel
theorem dX6_divides_427 : decode cX6_divides 427 = .ok (.ldc2_w 65, 3) := by decide +kernel
theorem dX6_divides_430 : decode cX6_divides 430 = .ok (.lmul, 1) := by decide +kernel
theorem dX6_divides_431 : decode cX6_divides 431 = .ok (.aload_n 0, 1) := by decide +kernel
theorem dX6_divides_432 : decode cX6_divides 432 = .ok (.getfield 20, 3) := by decide +kernel
theorem dX6_divides_435 : decode cX6_divides 435 = .ok (.iload 11, 2) := by decide +kernel
theorem dX6_divides_437 : decode cX6_divides 437 = .ok (.laload, 1) := by decide +kernel
theorem dX6_divides_438 : decode cX6_divides 438 = .ok (.ladd, 1) := by decide +kernel
theorem dX6_divides_439 : decode cX6_divides 439 = .ok (.lstore 12, 2) := by decide +kernel
theorem dX6_divides_441 : decode cX6_divides 441 = .ok (.aload_n 0, 1) := by decide +kernel
theorem dX6_divides_442 : decode cX6_divides 442 = .ok (.getfield 20, 3) := by decide +kernel
theorem dX6_divides_445 : decode cX6_divides 445 = .ok (.iload 11, 2) := by decide +kernel
theorem dX6_divides_447 : decode cX6_divides 447 = .ok (.lload 12, 2) := by decide +kernel
theorem dX6_divides_449 : decode cX6_divides 449 = .ok (.lload 7, 2) := by decide +kernel
theorem dX6_divides_451 : decode cX6_divides 451 = .ok (.ldiv, 1) := by decide +kernel
theorem dX6_divides_452 : decode cX6_divides 452 = .ok (.lastore, 1) := by decide +kernel
theorem dX6_divides_453 : decode cX6_divides 453 = .ok (.lload 12, 2) := by decide +kernel
theorem dX6_divides_455 : decode cX6_divides 455 = .ok (.lload 7, 2) := by decide +kernel
theorem dX6_divides_457 : decode cX6_divides 457 = .ok (.lrem, 1) := by decide +kernel
theorem dX6_divides_458 : decode cX6_divides 458 = .ok (.lstore 9, 2) := by decide +kernel
theorem dX6_divides_460 : decode cX6_divides 460 = .ok (.iinc 11 (-1), 3) := by decide +kernel
theorem dX6_divides_463 : decode cX6_divides 463 = .ok (.goto (-43), 3) := by decide +kernel
theorem dX6_divides_466 : decode cX6_divides 466 = .ok (.aload_n 0, 1) := by decide +kernel
theorem dX6_divides_467 : decode cX6_divides 467 = .ok (.iload_n 3, 1) := by decide +kernel
theorem dX6_divides_468 : decode cX6_divides 468 = .ok (.iload 5, 2) := by decide +kernel
theorem dX6_divides_470 : decode cX6_divides 470 = .ok (.iload 4, 2) := by decide +kernel
theorem dX6_divides_472 : decode cX6_divides 472 = .ok (.isub, 1) := by decide +kernel
theorem dX6_divides_473 : decode cX6_divides 473 = .ok (.iconst 1, 1) := by decide +kernel
theorem dX6_divides_474 : decode cX6_divides 474 = .ok (.iadd, 1) := by decide +kernel
theorem dX6_divides_475 : decode cX6_divides 475 = .ok (.iload 6, 2) := by decide +kernel
theorem dX6_divides_477 : decode cX6_divides 477 = .ok (.invokevirtual 79, 3) := by decide +kernel
theorem dX6_divides_480 : decode cX6_divides 480 = .ok (.return_, 1) := by decide +kernel
theorem sc_loop (d : Nat) {g : GX} {mo sz : Nat} {rk kn ar ac : Int} {D LN SG O1 : Nat → Int} {V0 : AH} {a e c na ne : Nat} {s f : Int} {Q : AQ} (he : e < 460) (hne : ne ≤ 100) (hf : 0 ≤ f ∧ f < 268435456) (hFe : ∀ i, i < ne → 0 ≤ dg D e i ∧ dg D e i < 268435456)
    (hKK : ∀ {V : AH} {X : Nat → Int} {w : Int}, V mo = some (moO mo rk kn ar ac) → MA g mo V D LN SG O1 X → (∀ a, ¬ EN mo a → V a = V0 a) → (∀ i, i < ne → 0 ≤ X i ∧ X i < 268435456) → (0 ≤ w ∧ w < 268435456) → mg 268435456 X ne + w * 268435456 ^ ne = f * mg 268435456 (dg D e) ne → AW g mX6_divides d 161 [(9, .long (jZ w)), (7, .long (jZ f)), (6, .int (iZ s)), (5, .int (iZ na)), (4, .int (iZ ne)), (0, .ref mo), (1, .int (iZ a)), (2, .int (iZ e)), (3, .int (iZ c))] [] V sz Q) : ∀ (y k : Nat), k + y = ne → ∀ {V : AH} {X : Nat → Int} {w : Int}, V mo = some (moO mo rk kn ar ac) → MA g mo V D LN SG O1 X → (∀ a, ¬ EN mo a → V a = V0 a) → (∀ i, i < k → 0 ≤ X i ∧ X i < 268435456) → (0 ≤ w ∧ w < 268435456) → mg 268435456 X k + w * 268435456 ^ k = f * mg 268435456 (dg D e) k → AW g mX6_divides d 106 [(11, .int (iZ k)), (9, .long (jZ w)), (7, .long (jZ f)), (6, .int (iZ s)), (5, .int (iZ na)), (4, .int (iZ ne)), (0, .ref mo), (1, .int (iZ a)), (2, .int (iZ e)), (3, .int (iZ c))] [] V sz Q
  | 0, k, hy, V, X, w, hmo, hA, hV, hF, hw, hE => by
    refine aw_iload dX6_divides_106 (by rfl) ?_
    refine aw_iload dX6_divides_108 (by rfl) ?_
    refine aw_icmp_geZ (tgt := 161) dX6_divides_110 (by decide) (by omega) (by omega) (fun hc_110 => ?_) (fun hc_110 => ?_)
    · obtain rfl : k = ne := by omega
      exact aw_pk [9, 7, 6, 5, 4, 0, 1, 2, 3] (by rfl) (hKK hmo hA hV hF hw hE)
    · exact absurd hc_110 (by omega)
  | y + 1, k, hy, V, X, w, hmo, hA, hV, hF, hw, hE => by
    have IH := fun k hk => @sc_loop d g mo sz rk kn ar ac D LN SG O1 V0 a e c na ne s f Q he hne hf hFe hKK y k hk
    clear hKK
    obtain ⟨v, hv0⟩ : ∃ v, f * dg D e k + w = v := ⟨_, rfl⟩
    have hvb := sc_bd hw hf (hFe k (by omega))
    rw [hv0] at hvb
    refine aw_iload dX6_divides_106 (by rfl) ?_
    refine aw_iload dX6_divides_108 (by rfl) ?_
    refine aw_icmp_geZ (tgt := 161) dX6_divides_110 (by decide) (by omega) (by omega) (fun hc_110 => ?_) (fun hc_110 => ?_)
    · exact absurd hc_110 (by omega)
    · refine aw_lload dX6_divides_113 (by rfl) ?_
      refine aw_aload_n dX6_divides_115 (by rfl) (Or.inr ⟨_, rfl⟩) ?_
      refine aw_get fX6_8 dX6_divides_116 hmo (by rfl) ?_
      refine aw_bipushZ dX6_divides_119 (by decide) ?_
      refine aw_iload_n dX6_divides_121 (by rfl) ?_
      refine aw_imulZ dX6_divides_122 ?_
      refine aw_iload dX6_divides_123 (by rfl) ?_
      refine aw_iaddZ dX6_divides_125 ?_
      refine aw_ialdZ (100 * e + k) dX6_divides_126 hA.1 (by omega) (by omega) (by omega) ?_
      refine aw_i2lZ dX6_divides_127 (by have := hFe k (by omega); unfold dg at this; omega) ?_
      refine aw_lmulZ dX6_divides_128 ?_
      refine aw_lload dX6_divides_129 (by rfl) ?_
      refine aw_laddZ dX6_divides_131 ?_
      refine aw_topl (y := v) hv0 ?_
      refine aw_lstore dX6_divides_132 (by decide) ?_
      refine aw_aload_n dX6_divides_134 (by rfl) (Or.inr ⟨_, rfl⟩) ?_
      refine aw_get fX6_24 dX6_divides_135 hmo (by rfl) ?_
      refine aw_iload dX6_divides_138 (by rfl) ?_
      refine aw_lload dX6_divides_140 (by rfl) ?_
      refine aw_ldc2Z (z := 268435456) qX6_65 dX6_divides_142 (by decide) ?_
      refine aw_lremZ dX6_divides_145 (by omega) (by omega) (by omega) (by omega) ?_
      rw [Int.tmod_eq_emod_of_nonneg (by omega)]
      refine aw_lastZ (k) dX6_divides_146 hA.2.2.2.2 (by omega) (by omega) (by omega) ?_
      refine aw_lload dX6_divides_147 (by rfl) ?_
      refine aw_ldc2Z (z := 268435456) qX6_65 dX6_divides_149 (by decide) ?_
      refine aw_ldivZ dX6_divides_152 (by omega) (by omega) (by omega) (by omega) ?_
      rw [Int.tdiv_eq_ediv_of_nonneg (by omega)]
      refine aw_lstore dX6_divides_153 (by decide) ?_
      refine aw_iincZ dX6_divides_155 (by rfl) (by decide) ?_
      refine aw_goto (tgt := 106) dX6_divides_158 (by decide) ?_
      rw [show ((k : Int) + 1) = ((k + 1 : Nat) : Int) by omega]
      refine aw_pk [11, 9, 7, 6, 5, 4, 0, 1, 2, 3] (by rfl) ?_
      exact IH (k + 1) (by omega) ((AHu_ne (by omega)).trans hmo) hA.o2 (fun a ha => (AHu_ne (fun z => ha (by unfold EN; omega))).trans (hV a ha)) (fun i hi => by
        unfold upF; split
        · omega
        · exact hF i (by omega)) (by omega) (sc_step hE hv0)

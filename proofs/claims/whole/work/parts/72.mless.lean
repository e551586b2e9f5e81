/-! ===== the reference: less ===== -/
def SmM (z : Int) : Prop := (z.natAbs : Int) < 268435456 ^ 100
theorem mg_lin {B : Int} (F G : Nat → Int) (p q : Int) : ∀ n, mg B (fun k => p * F k + q * G k) n = p * mg B F n + q * mg B G n
  | 0 => by simp [mg]
  | n + 1 => by
    simp only [mg]
    rw [mg_lin F G p q n, Int.mul_add, Int.mul_add, Int.add_mul, Int.mul_assoc, Int.mul_assoc]
    omega
/-- how two digits come together: added, or one less the other -/
def fxL (az ov : Int) (F G : Nat → Int) : Nat → Int := fun k => if az = 0 then (if ov < 0 then G k - F k else F k - G k) else F k + G k
theorem fx_mg (az ov : Int) (F G : Nat → Int) (n : Nat) : mg 268435456 (fxL az ov F G) n = if az = 0 then (if ov < 0 then mg 268435456 G n - mg 268435456 F n else mg 268435456 F n - mg 268435456 G n) else mg 268435456 F n + mg 268435456 G n := by
  by_cases h : az = 0
  · rw [if_pos h]
    by_cases h2 : ov < 0
    · rw [if_pos h2]
      have := mg_lin (B := 268435456) F G (-1) 1 n
      rw [mg_congr (G := fun k => -1 * F k + 1 * G k) (fun k _ => by unfold fxL; rw [if_pos h, if_pos h2]; omega), this]
      omega
    · rw [if_neg h2]
      have := mg_lin (B := 268435456) F G 1 (-1) n
      rw [mg_congr (G := fun k => 1 * F k + -1 * G k) (fun k _ => by unfold fxL; rw [if_pos h, if_neg h2]; omega), this]
      omega
  · rw [if_neg h]
    have := mg_lin (B := 268435456) F G 1 1 n
    rw [mg_congr (G := fun k => 1 * F k + 1 * G k) (fun k _ => by unfold fxL; rw [if_neg h]; omega), this]
    omega
theorem ls_E {D : Nat → Int} {c k : Nat} {w cr cr' x : Int} (hE : mg 268435456 (dg D c) k + cr * 268435456 ^ k = w) : mg 268435456 (dg (upF D (100 * c + k) (x + cr - cr' * 268435456)) c) (k + 1) + cr' * 268435456 ^ (k + 1) = w + x * 268435456 ^ k := by
  simp only [mg]
  have e1 : mg 268435456 (dg (upF D (100 * c + k) (x + cr - cr' * 268435456)) c) k = mg 268435456 (dg D c) k := mg_congr (fun j hj => upF_ne _ _ (by omega))
  have e2 : dg (upF D (100 * c + k) (x + cr - cr' * 268435456)) c k = x + cr - cr' * 268435456 := upF_self _ _ _
  rw [e1, e2, Int.pow_succ]
  generalize (268435456 : Int) ^ k = P at *
  have e3 : cr' * (P * 268435456) = cr' * 268435456 * P := by rw [Int.mul_comm P, ← Int.mul_assoc]
  rw [e3, Int.sub_mul, Int.add_mul]
  omega
abbrev mX6_less : MI := (yX6_less, cX6_less, 13, none, noX)
theorem dX6_less_0 : decode cX6_less 0 = .ok (.aload_n 0, 1) := by decide +kernel
theorem dX6_less_1 : decode cX6_less 1 = .ok (.getfield 17, 3) := by decide +kernel
theorem dX6_less_4 : decode cX6_less 4 = .ok (.iload_n 2, 1) := by decide +kernel
theorem dX6_less_5 : decode cX6_less 5 = .ok (.iaload, 1) := by decide +kernel
theorem dX6_less_6 : decode cX6_less 6 = .ok (.ifCond .ne 10, 3) := by decide +kernel
theorem dX6_less_9 : decode cX6_less 9 = .ok (.aload_n 0, 1) := by decide +kernel
theorem dX6_less_10 : decode cX6_less 10 = .ok (.iload_n 1, 1) := by decide +kernel
theorem dX6_less_11 : decode cX6_less 11 = .ok (.iload_n 3, 1) := by decide +kernel
theorem dX6_less_12 : decode cX6_less 12 = .ok (.invokevirtual 67, 3) := by decide +kernel
theorem dX6_less_15 : decode cX6_less 15 = .ok (.return_, 1) := by decide +kernel
theorem dX6_less_16 : decode cX6_less 16 = .ok (.aload_n 0, 1) := by decide +kernel
theorem dX6_less_17 : decode cX6_less 17 = .ok (.getfield 14, 3) := by decide +kernel
theorem dX6_less_20 : decode cX6_less 20 = .ok (.iload_n 1, 1) := by decide +kernel
theorem dX6_less_21 : decode cX6_less 21 = .ok (.iaload, 1) := by decide +kernel
theorem dX6_less_22 : decode cX6_less 22 = .ok (.aload_n 0, 1) := by decide +kernel
theorem dX6_less_23 : decode cX6_less 23 = .ok (.getfield 14, 3) := by decide +kernel
theorem dX6_less_26 : decode cX6_less 26 = .ok (.iload_n 2, 1) := by decide +kernel
theorem dX6_less_27 : decode cX6_less 27 = .ok (.iaload, 1) := by decide +kernel
theorem dX6_less_28 : decode cX6_less 28 = .ok (.if_icmp .le 12, 3) := by decide +kernel
theorem dX6_less_31 : decode cX6_less 31 = .ok (.aload_n 0, 1) := by decide +kernel
theorem dX6_less_32 : decode cX6_less 32 = .ok (.getfield 14, 3) := by decide +kernel
theorem dX6_less_35 : decode cX6_less 35 = .ok (.iload_n 1, 1) := by decide +kernel
theorem dX6_less_36 : decode cX6_less 36 = .ok (.iaload, 1) := by decide +kernel
theorem dX6_less_37 : decode cX6_less 37 = .ok (.goto 9, 3) := by decide +kernel
theorem dX6_less_40 : decode cX6_less 40 = .ok (.aload_n 0, 1) := by decide +kernel
theorem dX6_less_41 : decode cX6_less 41 = .ok (.getfield 14, 3) := by decide +kernel
theorem dX6_less_44 : decode cX6_less 44 = .ok (.iload_n 2, 1) := by decide +kernel
theorem dX6_less_45 : decode cX6_less 45 = .ok (.iaload, 1) := by decide +kernel
theorem dX6_less_46 : decode cX6_less 46 = .ok (.istore 4, 2) := by decide +kernel
theorem dX6_less_48 : decode cX6_less 48 = .ok (.aload_n 0, 1) := by decide +kernel
theorem dX6_less_49 : decode cX6_less 49 = .ok (.getfield 17, 3) := by decide +kernel
theorem dX6_less_52 : decode cX6_less 52 = .ok (.iload_n 1, 1) := by decide +kernel
theorem dX6_less_53 : decode cX6_less 53 = .ok (.iaload, 1) := by decide +kernel
theorem dX6_less_54 : decode cX6_less 54 = .ok (.istore 5, 2) := by decide +kernel
theorem dX6_less_56 : decode cX6_less 56 = .ok (.iload 5, 2) := by decide +kernel
theorem dX6_less_58 : decode cX6_less 58 = .ok (.aload_n 0, 1) := by decide +kernel
theorem dX6_less_59 : decode cX6_less 59 = .ok (.getfield 17, 3) := by decide +kernel
theorem dX6_less_62 : decode cX6_less 62 = .ok (.iload_n 2, 1) := by decide +kernel
theorem dX6_less_63 : decode cX6_less 63 = .ok (.iaload, 1) := by decide +kernel
theorem dX6_less_64 : decode cX6_less 64 = .ok (.if_icmp .eq 7, 3) := by decide +kernel
theorem dX6_less_67 : decode cX6_less 67 = .ok (.iconst 1, 1) := by decide +kernel
theorem dX6_less_68 : decode cX6_less 68 = .ok (.goto 4, 3) := by decide +kernel
theorem dX6_less_71 : decode cX6_less 71 = .ok (.iconst 0, 1) := by decide +kernel
theorem dX6_less_72 : decode cX6_less 72 = .ok (.istore 6, 2) := by decide +kernel
theorem dX6_less_74 : decode cX6_less 74 = .ok (.aload_n 0, 1) := by decide +kernel
theorem dX6_less_75 : decode cX6_less 75 = .ok (.iload_n 1, 1) := by decide +kernel
theorem dX6_less_76 : decode cX6_less 76 = .ok (.iload_n 2, 1) := by decide +kernel
theorem dX6_less_77 : decode cX6_less 77 = .ok (.invokevirtual 71, 3) := by decide +kernel
theorem dX6_less_80 : decode cX6_less 80 = .ok (.istore 7, 2) := by decide +kernel
theorem dX6_less_82 : decode cX6_less 82 = .ok (.iconst 0, 1) := by decide +kernel
theorem dX6_less_83 : decode cX6_less 83 = .ok (.istore 8, 2) := by decide +kernel
theorem dX6_less_85 : decode cX6_less 85 = .ok (.iconst 0, 1) := by decide +kernel
theorem dX6_less_86 : decode cX6_less 86 = .ok (.istore 9, 2) := by decide +kernel
theorem dX6_less_88 : decode cX6_less 88 = .ok (.iload 9, 2) := by decide +kernel
theorem dX6_less_90 : decode cX6_less 90 = .ok (.iload 4, 2) := by decide +kernel
theorem dX6_less_92 : decode cX6_less 92 = .ok (.if_icmp .ge 109, 3) := by decide +kernel
theorem dX6_less_95 : decode cX6_less 95 = .ok (.aload_n 0, 1) := by decide +kernel
theorem dX6_less_96 : decode cX6_less 96 = .ok (.iload_n 1, 1) := by decide +kernel
theorem dX6_less_97 : decode cX6_less 97 = .ok (.iload 9, 2) := by decide +kernel
theorem dX6_less_99 : decode cX6_less 99 = .ok (.invokevirtual 75, 3) := by decide +kernel
theorem dX6_less_102 : decode cX6_less 102 = .ok (.istore 10, 2) := by decide +kernel
theorem dX6_less_104 : decode cX6_less 104 = .ok (.aload_n 0, 1) := by decide +kernel
theorem dX6_less_105 : decode cX6_less 105 = .ok (.iload_n 2, 1) := by decide +kernel
theorem dX6_less_106 : decode cX6_less 106 = .ok (.iload 9, 2) := by decide +kernel
theorem dX6_less_108 : decode cX6_less 108 = .ok (.invokevirtual 75, 3) := by decide +kernel
theorem dX6_less_111 : decode cX6_less 111 = .ok (.istore 11, 2) := by decide +kernel
theorem dX6_less_113 : decode cX6_less 113 = .ok (.iload 6, 2) := by decide +kernel
theorem dX6_less_115 : decode cX6_less 115 = .ok (.ifCond .eq 14, 3) := by decide +kernel
theorem dX6_less_118 : decode cX6_less 118 = .ok (.iload 10, 2) := by decide +kernel
theorem dX6_less_120 : decode cX6_less 120 = .ok (.iload 11, 2) := by decide +kernel
theorem dX6_less_122 : decode cX6_less 122 = .ok (.iadd, 1) := by decide +kernel
theorem dX6_less_123 : decode cX6_less 123 = .ok (.iload 8, 2) := by decide +kernel
theorem dX6_less_125 : decode cX6_less 125 = .ok (.iadd, 1) := by decide +kernel
theorem dX6_less_126 : decode cX6_less 126 = .ok (.goto 24, 3) := by decide +kernel
theorem dX6_less_129 : decode cX6_less 129 = .ok (.iload 7, 2) := by decide +kernel
theorem dX6_less_131 : decode cX6_less 131 = .ok (.ifCond .ge 11, 3) := by decide +kernel
theorem dX6_less_134 : decode cX6_less 134 = .ok (.iload 11, 2) := by decide +kernel
theorem dX6_less_136 : decode cX6_less 136 = .ok (.iload 10, 2) := by decide +kernel
theorem dX6_less_138 : decode cX6_less 138 = .ok (.isub, 1) := by decide +kernel
theorem dX6_less_139 : decode cX6_less 139 = .ok (.goto 8, 3) := by decide +kernel
theorem dX6_less_142 : decode cX6_less 142 = .ok (.iload 10, 2) := by decide +kernel
theorem dX6_less_144 : decode cX6_less 144 = .ok (.iload 11, 2) := by decide +kernel
theorem dX6_less_146 : decode cX6_less 146 = .ok (.isub, 1) := by decide +kernel
theorem dX6_less_147 : decode cX6_less 147 = .ok (.iload 8, 2) := by decide +kernel
theorem dX6_less_149 : decode cX6_less 149 = .ok (.iadd, 1) := by decide +kernel
theorem dX6_less_150 : decode cX6_less 150 = .ok (.istore 12, 2) := by decide +kernel
theorem dX6_less_152 : decode cX6_less 152 = .ok (.iload 12, 2) := by decide +kernel
theorem dX6_less_154 : decode cX6_less 154 = .ok (.ifCond .ge 7, 3) := by decide +kernel
theorem dX6_less_157 : decode cX6_less 157 = .ok (.iconst (-1), 1) := by decide +kernel
theorem dX6_less_158 : decode cX6_less 158 = .ok (.goto 15, 3) := by decide +kernel
theorem dX6_less_161 : decode cX6_less 161 = .ok (.iload 12, 2) := by decide +kernel
theorem dX6_less_163 : decode cX6_less 163 = .ok (.ldc 78, 2) := by decide +kernel
theorem dX6_less_165 : decode cX6_less 165 = .ok (.if_icmp .lt 7, 3) := by decide +kernel
theorem dX6_less_168 : decode cX6_less 168 = .ok (.iconst 1, 1) := by decide +kernel
theorem dX6_less_169 : decode cX6_less 169 = .ok (.goto 4, 3) := by decide +kernel
theorem dX6_less_172 : decode cX6_less 172 = .ok (.iconst 0, 1) := by decide +kernel
theorem dX6_less_173 : decode cX6_less 173 = .ok (.istore 8, 2) := by decide +kernel
theorem dX6_less_175 : decode cX6_less 175 = .ok (.aload_n 0, 1) := by decide +kernel
theorem dX6_less_176 : decode cX6_less 176 = .ok (.getfield 8, 3) := by decide +kernel
theorem dX6_less_179 : decode cX6_less 179 = .ok (.bipush 100, 2) := by decide +kernel
theorem dX6_less_181 : decode cX6_less 181 = .ok (.iload_n 3, 1) := by decide +kernel
theorem dX6_less_182 : decode cX6_less 182 = .ok (.imul, 1) := by decide +kernel
theorem dX6_less_183 : decode cX6_less 183 = .ok (.iload 9, 2) := by decide +kernel
theorem dX6_less_185 : decode cX6_less 185 = .ok (.iadd, 1) := by decide +kernel
theorem dX6_less_186 : decode cX6_less 186 = .ok (.iload 12, 2) := by decide +kernel
theorem dX6_less_188 : decode cX6_less 188 = .ok (.iload 8, 2) := by decide +kernel
theorem dX6_less_190 : decode cX6_less 190 = .ok (.ldc 78, 2) := by decide +kernel
theorem dX6_less_192 : decode cX6_less 192 = .ok (.imul, 1) := by decide +kernel
theorem dX6_less_193 : decode cX6_less 193 = .ok (.isub, 1) := by decide +kernel
theorem dX6_less_194 : decode cX6_less 194 = .ok (.iastore, 1) := by decide +kernel
theorem dX6_less_195 : decode cX6_less 195 = .ok (.iinc 9 1, 3) := by decide +kernel
theorem dX6_less_198 : decode cX6_less 198 = .ok (.goto (-110), 3) := by decide +kernel
theorem dX6_less_201 : decode cX6_less 201 = .ok (.iload 8, 2) := by decide +kernel
theorem dX6_less_203 : decode cX6_less 203 = .ok (.ifCond .le 17, 3) := by decide +kernel
theorem dX6_less_206 : decode cX6_less 206 = .ok (.aload_n 0, 1) := by decide +kernel
theorem dX6_less_207 : decode cX6_less 207 = .ok (.getfield 8, 3) := by decide +kernel
theorem dX6_less_210 : decode cX6_less 210 = .ok (.bipush 100, 2) := by decide +kernel
theorem dX6_less_212 : decode cX6_less 212 = .ok (.iload_n 3, 1) := by decide +kernel
theorem dX6_less_213 : decode cX6_less 213 = .ok (.imul, 1) := by decide +kernel
theorem dX6_less_214 : decode cX6_less 214 = .ok (.iload 4, 2) := by decide +kernel
theorem dX6_less_216 : decode cX6_less 216 = .ok (.iadd, 1) := by decide +kernel
theorem dX6_less_217 : decode cX6_less 217 = .ok (.iload 8, 2) := by decide +kernel
theorem dX6_less_219 : decode cX6_less 219 = .ok (.iastore, 1) := by decide +kernel
theorem dX6_less_220 : decode cX6_less 220 = .ok (.aload_n 0, 1) := by decide +kernel
theorem dX6_less_221 : decode cX6_less 221 = .ok (.iload_n 3, 1) := by decide +kernel
theorem dX6_less_222 : decode cX6_less 222 = .ok (.iload 8, 2) := by decide +kernel
theorem dX6_less_224 : decode cX6_less 224 = .ok (.ifCond .le 10, 3) := by decide +kernel
theorem dX6_less_227 : decode cX6_less 227 = .ok (.iload 4, 2) := by decide +kernel
theorem dX6_less_229 : decode cX6_less 229 = .ok (.iconst 1, 1) := by decide +kernel
theorem dX6_less_230 : decode cX6_less 230 = .ok (.iadd, 1) := by decide +kernel
theorem dX6_less_231 : decode cX6_less 231 = .ok (.goto 5, 3) := by decide +kernel
theorem dX6_less_234 : decode cX6_less 234 = .ok (.iload 4, 2) := by decide +kernel
theorem dX6_less_236 : decode cX6_less 236 = .ok (.iload 6, 2) := by decide +kernel
theorem dX6_less_238 : decode cX6_less 238 = .ok (.ifCond .eq 23, 3) := by decide +kernel
theorem dX6_less_241 : decode cX6_less 241 = .ok (.iload 5, 2) := by decide +kernel
theorem dX6_less_243 : decode cX6_less 243 = .ok (.ifCond .ne 13, 3) := by decide +kernel
theorem dX6_less_246 : decode cX6_less 246 = .ok (.aload_n 0, 1) := by decide +kernel
theorem dX6_less_247 : decode cX6_less 247 = .ok (.getfield 17, 3) := by decide +kernel
theorem dX6_less_250 : decode cX6_less 250 = .ok (.iload_n 2, 1) := by decide +kernel
theorem dX6_less_251 : decode cX6_less 251 = .ok (.iaload, 1) := by decide +kernel
theorem dX6_less_252 : decode cX6_less 252 = .ok (.ineg, 1) := by decide +kernel
theorem dX6_less_253 : decode cX6_less 253 = .ok (.goto 21, 3) := by decide +kernel
theorem dX6_less_256 : decode cX6_less 256 = .ok (.iload 5, 2) := by decide +kernel
theorem dX6_less_258 : decode cX6_less 258 = .ok (.goto 16, 3) := by decide +kernel
theorem dX6_less_261 : decode cX6_less 261 = .ok (.iload 7, 2) := by decide +kernel
theorem dX6_less_263 : decode cX6_less 263 = .ok (.ifCond .ge 9, 3) := by decide +kernel
theorem dX6_less_266 : decode cX6_less 266 = .ok (.iload 5, 2) := by decide +kernel
theorem dX6_less_268 : decode cX6_less 268 = .ok (.ineg, 1) := by decide +kernel
theorem dX6_less_269 : decode cX6_less 269 = .ok (.goto 5, 3) := by decide +kernel
theorem dX6_less_272 : decode cX6_less 272 = .ok (.iload 5, 2) := by decide +kernel
theorem dX6_less_274 : decode cX6_less 274 = .ok (.invokevirtual 79, 3) := by decide +kernel
theorem dX6_less_277 : decode cX6_less 277 = .ok (.return_, 1) := by decide +kernel
set_option maxRecDepth 20000 in
theorem ls_loop (d : Nat) {g : GX} {mo sz : Nat} {rk kn ar ac : Int} {D0 LN SG O1 O2 : Nat → Int} {V0 : AH} {a e c n na ne : Nat} {ov az s : Int} {Q : AQ} (ha : a < 460) (he : e < 460) (hc : c < 460) (hn : n ≤ 100) (hna : LN a = (na : Int) ∧ na ≤ n) (hne : LN e = (ne : Int) ∧ ne ≤ n) (hFa : ∀ k, k < na → 0 ≤ dg D0 a k ∧ dg D0 a k < 268435456) (hFe : ∀ k, k < ne → 0 ≤ dg D0 e k ∧ dg D0 e k < 268435456) (hov : R32 ov) (haz : az = 0 ∨ az = 1)
    (hKK : ∀ {V : AH} {D : Nat → Int} {cr : Int}, V mo = some (moO mo rk kn ar ac) → MA g mo V D LN SG O1 O2 → (∀ q, ¬ EN mo q → V q = V0 q) → (∀ q, q < 100 * c ∨ 100 * c + 100 ≤ q → D q = D0 q) → (∀ q, n ≤ q → q < 100 → D (100 * c + q) = D0 (100 * c + q)) → (∀ q, q < n → 0 ≤ dg D c q ∧ dg D c q < 268435456) → (-1 ≤ cr ∧ cr ≤ 1) → mg 268435456 (dg D c) n + cr * 268435456 ^ n = mg 268435456 (fxL az ov (pad (dg D0 a) na) (pad (dg D0 e) ne)) n → AW g mX6_less (d + 1) 201 [(8, .int (iZ cr)), (7, .int (iZ ov)), (6, .int (iZ az)), (5, .int (iZ s)), (4, .int (iZ n)), (0, .ref mo), (1, .int (iZ a)), (2, .int (iZ e)), (3, .int (iZ c))] [] V sz Q) : ∀ (y k : Nat), k + y = n → ∀ {V : AH} {D : Nat → Int} {cr : Int}, V mo = some (moO mo rk kn ar ac) → MA g mo V D LN SG O1 O2 → (∀ q, ¬ EN mo q → V q = V0 q) → (∀ q, q < 100 * c ∨ 100 * c + 100 ≤ q → D q = D0 q) → (∀ q, k ≤ q → q < 100 → D (100 * c + q) = D0 (100 * c + q)) → (∀ q, q < k → 0 ≤ dg D c q ∧ dg D c q < 268435456) → (-1 ≤ cr ∧ cr ≤ 1) → mg 268435456 (dg D c) k + cr * 268435456 ^ k = mg 268435456 (fxL az ov (pad (dg D0 a) na) (pad (dg D0 e) ne)) k → AW g mX6_less (d + 1) 88 [(9, .int (iZ k)), (8, .int (iZ cr)), (7, .int (iZ ov)), (6, .int (iZ az)), (5, .int (iZ s)), (4, .int (iZ n)), (0, .ref mo), (1, .int (iZ a)), (2, .int (iZ e)), (3, .int (iZ c))] [] V sz Q
  | 0, k, hy, V, D, cr, hmo, hA, hV, hD, hK2, hF, hcr, hE => by
    refine aw_iload dX6_less_88 (by rfl) ?_
    refine aw_iload dX6_less_90 (by rfl) ?_
    refine aw_icmp_geZ (tgt := 201) dX6_less_92 (by decide) (by omega) (by omega) (fun hc_92 => ?_) (fun hc_92 => ?_)
    · obtain rfl : k = n := by omega
      exact aw_pk [8, 7, 6, 5, 4, 0, 1, 2, 3] (by rfl) (hKK hmo hA hV hD hK2 hF hcr hE)
    · exact absurd hc_92 (by omega)
  | y + 1, k, hy, V, D, cr, hmo, hA, hV, hD, hK2, hF, hcr, hE => by
    have IH := fun k hk => @ls_loop d g mo sz rk kn ar ac D0 LN SG O1 O2 V0 a e c n na ne ov az s Q ha he hc hn hna hne hFa hFe hov haz hKK y k hk
    clear hKK
    have hpa : pad (dg D a) na k = pad (dg D0 a) na k := by
      unfold pad
      by_cases z : k < na
      · rw [if_pos z, if_pos z]
        by_cases y : a = c
        · subst y; exact hK2 k (Nat.le_refl _) (by omega)
        · exact hD _ (by omega)
      · rw [if_neg z, if_neg z]
    have hpe : pad (dg D e) ne k = pad (dg D0 e) ne k := by
      unfold pad
      by_cases z : k < ne
      · rw [if_pos z, if_pos z]
        by_cases y : e = c
        · subst y; exact hK2 k (Nat.le_refl _) (by omega)
        · exact hD _ (by omega)
      · rw [if_neg z, if_neg z]
    have hba : 0 ≤ pad (dg D0 a) na k ∧ pad (dg D0 a) na k < 268435456 := by
      unfold pad; split
      · exact hFa k (by omega)
      · omega
    have hbe : 0 ≤ pad (dg D0 e) ne k ∧ pad (dg D0 e) ne k < 268435456 := by
      unfold pad; split
      · exact hFe k (by omega)
      · omega
    obtain ⟨x, hx0⟩ : ∃ x, (fxL az ov (pad (dg D0 a) na) (pad (dg D0 e) ne)) k = x := ⟨_, rfl⟩
    have hxb : -268435456 < x ∧ x < 536870911 := by
      rw [← hx0]; unfold fxL; split
      · split <;> omega
      · omega
    have J150 : AW g mX6_less (d + 1) 150 [(9, .int (iZ k)), (8, .int (iZ cr)), (7, .int (iZ ov)), (6, .int (iZ az)), (5, .int (iZ s)), (4, .int (iZ n)), (0, .ref mo), (1, .int (iZ a)), (2, .int (iZ e)), (3, .int (iZ c))] [.int (iZ (x + cr))] V sz Q := by
      clear hpa hpe hba hbe hFa hFe
      refine aw_istore dX6_less_150 (by decide) ?_
      refine aw_iload dX6_less_152 (by rfl) ?_
      refine aw_if_geZ (tgt := 161) dX6_less_154 (by decide) (by omega) (fun hc_154 => ?_) (fun hc_154 => ?_)
      · refine aw_iload dX6_less_161 (by rfl) ?_
        refine aw_ldcZ (z := 268435456) qX6_78 dX6_less_163 (by decide) ?_
        refine aw_icmp_ltZ (tgt := 172) dX6_less_165 (by decide) (by omega) (by omega) (fun hc_165 => ?_) (fun hc_165 => ?_)
        · refine aw_iconstZ dX6_less_172 ?_
          refine aw_istore dX6_less_173 (by decide) ?_
          refine aw_aload_n dX6_less_175 (by rfl) (Or.inr ⟨_, rfl⟩) ?_
          refine aw_get fX6_8 dX6_less_176 hmo (by rfl) ?_
          refine aw_bipushZ dX6_less_179 (by decide) ?_
          refine aw_iload_n dX6_less_181 (by rfl) ?_
          refine aw_imulZ dX6_less_182 ?_
          refine aw_iload dX6_less_183 (by rfl) ?_
          refine aw_iaddZ dX6_less_185 ?_
          refine aw_iload dX6_less_186 (by rfl) ?_
          refine aw_iload dX6_less_188 (by rfl) ?_
          refine aw_ldcZ (z := 268435456) qX6_78 dX6_less_190 (by decide) ?_
          refine aw_imulZ dX6_less_192 ?_
          refine aw_isubZ dX6_less_193 ?_
          refine aw_iastZ (100 * c + k) dX6_less_194 hA.1 (by omega) (by omega) (by omega) ?_
          refine aw_iincZ dX6_less_195 (by rfl) (by decide) ?_
          refine aw_goto (tgt := 88) dX6_less_198 (by decide) ?_
          rw [show ((k : Int) + 1) = ((k + 1 : Nat) : Int) by omega]
          refine aw_pk [9, 8, 7, 6, 5, 4, 0, 1, 2, 3] (by rfl) ?_
          exact IH (k + 1) (by omega) ((AHu_ne (by omega)).trans hmo) hA.d (fun q hq => (AHu_ne (fun z => hq (by unfold EN; omega))).trans (hV q hq)) (fun q hq => by rw [upF_ne _ _ (by omega)]; exact hD q hq) (fun q h1 h2 => by rw [upF_ne _ _ (by omega)]; exact hK2 q (by omega) h2) (fun q hq => by
            show 0 ≤ upF D (100 * c + k) _ (100 * c + q) ∧ upF D (100 * c + k) _ (100 * c + q) < _
            unfold upF; split
            · omega
            · exact hF q (by omega)) (by omega) ((ls_E hE).trans (by rw [← hx0]; rfl))
        · refine aw_iconstZ dX6_less_168 ?_
          refine aw_goto (tgt := 173) dX6_less_169 (by decide) ?_
          refine aw_istore dX6_less_173 (by decide) ?_
          refine aw_aload_n dX6_less_175 (by rfl) (Or.inr ⟨_, rfl⟩) ?_
          refine aw_get fX6_8 dX6_less_176 hmo (by rfl) ?_
          refine aw_bipushZ dX6_less_179 (by decide) ?_
          refine aw_iload_n dX6_less_181 (by rfl) ?_
          refine aw_imulZ dX6_less_182 ?_
          refine aw_iload dX6_less_183 (by rfl) ?_
          refine aw_iaddZ dX6_less_185 ?_
          refine aw_iload dX6_less_186 (by rfl) ?_
          refine aw_iload dX6_less_188 (by rfl) ?_
          refine aw_ldcZ (z := 268435456) qX6_78 dX6_less_190 (by decide) ?_
          refine aw_imulZ dX6_less_192 ?_
          refine aw_isubZ dX6_less_193 ?_
          refine aw_iastZ (100 * c + k) dX6_less_194 hA.1 (by omega) (by omega) (by omega) ?_
          refine aw_iincZ dX6_less_195 (by rfl) (by decide) ?_
          refine aw_goto (tgt := 88) dX6_less_198 (by decide) ?_
          rw [show ((k : Int) + 1) = ((k + 1 : Nat) : Int) by omega]
          refine aw_pk [9, 8, 7, 6, 5, 4, 0, 1, 2, 3] (by rfl) ?_
          exact IH (k + 1) (by omega) ((AHu_ne (by omega)).trans hmo) hA.d (fun q hq => (AHu_ne (fun z => hq (by unfold EN; omega))).trans (hV q hq)) (fun q hq => by rw [upF_ne _ _ (by omega)]; exact hD q hq) (fun q h1 h2 => by rw [upF_ne _ _ (by omega)]; exact hK2 q (by omega) h2) (fun q hq => by
            show 0 ≤ upF D (100 * c + k) _ (100 * c + q) ∧ upF D (100 * c + k) _ (100 * c + q) < _
            unfold upF; split
            · omega
            · exact hF q (by omega)) (by omega) ((ls_E hE).trans (by rw [← hx0]; rfl))
      · refine aw_iconstZ dX6_less_157 ?_
        refine aw_goto (tgt := 173) dX6_less_158 (by decide) ?_
        refine aw_istore dX6_less_173 (by decide) ?_
        refine aw_aload_n dX6_less_175 (by rfl) (Or.inr ⟨_, rfl⟩) ?_
        refine aw_get fX6_8 dX6_less_176 hmo (by rfl) ?_
        refine aw_bipushZ dX6_less_179 (by decide) ?_
        refine aw_iload_n dX6_less_181 (by rfl) ?_
        refine aw_imulZ dX6_less_182 ?_
        refine aw_iload dX6_less_183 (by rfl) ?_
        refine aw_iaddZ dX6_less_185 ?_
        refine aw_iload dX6_less_186 (by rfl) ?_
        refine aw_iload dX6_less_188 (by rfl) ?_
        refine aw_ldcZ (z := 268435456) qX6_78 dX6_less_190 (by decide) ?_
        refine aw_imulZ dX6_less_192 ?_
        refine aw_isubZ dX6_less_193 ?_
        refine aw_iastZ (100 * c + k) dX6_less_194 hA.1 (by omega) (by omega) (by omega) ?_
        refine aw_iincZ dX6_less_195 (by rfl) (by decide) ?_
        refine aw_goto (tgt := 88) dX6_less_198 (by decide) ?_
        rw [show ((k : Int) + 1) = ((k + 1 : Nat) : Int) by omega]
        refine aw_pk [9, 8, 7, 6, 5, 4, 0, 1, 2, 3] (by rfl) ?_
        exact IH (k + 1) (by omega) ((AHu_ne (by omega)).trans hmo) hA.d (fun q hq => (AHu_ne (fun z => hq (by unfold EN; omega))).trans (hV q hq)) (fun q hq => by rw [upF_ne _ _ (by omega)]; exact hD q hq) (fun q h1 h2 => by rw [upF_ne _ _ (by omega)]; exact hK2 q (by omega) h2) (fun q hq => by
          show 0 ≤ upF D (100 * c + k) _ (100 * c + q) ∧ upF D (100 * c + k) _ (100 * c + q) < _
          unfold upF; split
          · omega
          · exact hF q (by omega)) (by omega) ((ls_E hE).trans (by rw [← hx0]; rfl))
    clear IH
    refine aw_iload dX6_less_88 (by rfl) ?_
    refine aw_iload dX6_less_90 (by rfl) ?_
    refine aw_icmp_geZ (tgt := 201) dX6_less_92 (by decide) (by omega) (by omega) (fun hc_92 => ?_) (fun hc_92 => ?_)
    · exact absurd hc_92 (by omega)
    · refine aw_aload_n dX6_less_95 (by rfl) (Or.inr ⟨_, rfl⟩) ?_
      refine aw_iload_n dX6_less_96 (by rfl) ?_
      refine aw_iload dX6_less_97 (by rfl) ?_
      refine aw_callv vX6_75 dX6_less_99 hmo (m_at d hmo hA ha hna.1 (by omega) (k := k) (by omega)) (by rfl) (by rfl) (by omega) (Nat.le_of_ble_eq_true rfl) ?_
      rintro _ _ _ _ _ ⟨rfl, rfl, rfl, rfl, rfl⟩ -
      refine q0 ?_
      rw [hpa]
      refine aw_istore dX6_less_102 (by decide) ?_
      refine aw_aload_n dX6_less_104 (by rfl) (Or.inr ⟨_, rfl⟩) ?_
      refine aw_iload_n dX6_less_105 (by rfl) ?_
      refine aw_iload dX6_less_106 (by rfl) ?_
      refine aw_callv vX6_75 dX6_less_108 hmo (m_at d hmo hA he hne.1 (by omega) (k := k) (by omega)) (by rfl) (by rfl) (by omega) (Nat.le_of_ble_eq_true rfl) ?_
      rintro _ _ _ _ _ ⟨rfl, rfl, rfl, rfl, rfl⟩ -
      refine q0 ?_
      rw [hpe]
      refine aw_istore dX6_less_111 (by decide) ?_
      refine aw_iload dX6_less_113 (by rfl) ?_
      refine aw_if_eqZ (tgt := 129) dX6_less_115 (by decide) (by omega) (fun hc_115 => ?_) (fun hc_115 => ?_)
      · refine aw_iload dX6_less_129 (by rfl) ?_
        refine aw_if_geZ (tgt := 142) dX6_less_131 (by decide) hov (fun hc_131 => ?_) (fun hc_131 => ?_)
        · refine aw_iload dX6_less_142 (by rfl) ?_
          refine aw_iload dX6_less_144 (by rfl) ?_
          refine aw_isubZ dX6_less_146 ?_
          refine aw_iload dX6_less_147 (by rfl) ?_
          refine aw_iaddZ dX6_less_149 ?_
          refine aw_topi (y := x + cr) (by rw [← hx0]; unfold fxL; first | (rw [if_neg hc_115]; done) | (rw [if_pos hc_115, if_neg (by omega)]; done) | (rw [if_pos hc_115, if_pos (by omega)]; done)) ?_
          exact aw_pk [9, 8, 7, 6, 5, 4, 0, 1, 2, 3] (by rfl) J150
        · refine aw_iload dX6_less_134 (by rfl) ?_
          refine aw_iload dX6_less_136 (by rfl) ?_
          refine aw_isubZ dX6_less_138 ?_
          refine aw_goto (tgt := 147) dX6_less_139 (by decide) ?_
          refine aw_iload dX6_less_147 (by rfl) ?_
          refine aw_iaddZ dX6_less_149 ?_
          refine aw_topi (y := x + cr) (by rw [← hx0]; unfold fxL; first | (rw [if_neg hc_115]; done) | (rw [if_pos hc_115, if_neg (by omega)]; done) | (rw [if_pos hc_115, if_pos (by omega)]; done)) ?_
          exact aw_pk [9, 8, 7, 6, 5, 4, 0, 1, 2, 3] (by rfl) J150
      · refine aw_iload dX6_less_118 (by rfl) ?_
        refine aw_iload dX6_less_120 (by rfl) ?_
        refine aw_iaddZ dX6_less_122 ?_
        refine aw_iload dX6_less_123 (by rfl) ?_
        refine aw_iaddZ dX6_less_125 ?_
        refine aw_goto (tgt := 150) dX6_less_126 (by decide) ?_
        refine aw_topi (y := x + cr) (by rw [← hx0]; unfold fxL; first | (rw [if_neg hc_115]; done) | (rw [if_pos hc_115, if_neg (by omega)]; done) | (rw [if_pos hc_115, if_pos (by omega)]; done)) ?_
        exact aw_pk [9, 8, 7, 6, 5, 4, 0, 1, 2, 3] (by rfl) J150

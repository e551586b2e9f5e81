/-! ===== the reference: multiplies ===== -/
theorem mu_bd {c x b r : Int} (hc : 0 ≤ c ∧ c < 268435456) (hd : 0 ≤ x ∧ x < 268435456) (hb : 0 ≤ b ∧ b < 268435456) (hr : 0 ≤ r ∧ r < 268435456) : 0 ≤ x * b + r + c ∧ x * b + r + c < 72057594037927936 := by
  have h1 : 0 ≤ x * b := Int.mul_nonneg hd.1 hb.1
  have h2 : x * b ≤ 268435455 * 268435455 := Int.mul_le_mul (by omega) (by omega) hb.1 (by omega)
  generalize x * b = e at h1 h2 ⊢
  omega
theorem mu_step {R Bv : Nat → Int} {N i k : Nat} {c x M v : Int} (hk : i + k < N) (hv : x * Bv k + R (i + k) + c = v) (hE : mg 268435456 R N + c * 268435456 ^ (i + k) = M + x * mg 268435456 Bv k * 268435456 ^ i) : mg 268435456 (upF R (i + k) (v % 268435456)) N + v / 268435456 * 268435456 ^ (i + (k + 1)) = M + x * mg 268435456 Bv (k + 1) * 268435456 ^ i := by
  have hmd := Int.emod_add_mul_ediv v 268435456
  rw [mg_upd hk, ← Nat.add_assoc, Int.pow_succ]
  have e0 : x * mg 268435456 Bv (k + 1) * 268435456 ^ i = x * mg 268435456 Bv k * 268435456 ^ i + x * Bv k * 268435456 ^ (i + k) := by
    simp only [mg]
    rw [Int.mul_add, Int.add_mul, Int.pow_add, Int.mul_comm ((268435456 : Int) ^ i) (268435456 ^ k)]
    simp only [Int.mul_assoc]
  rw [e0]
  generalize (268435456 : Int) ^ (i + k) = P at hE ⊢
  generalize v / 268435456 = q at hmd ⊢
  generalize v % 268435456 = r at hmd ⊢
  have e2 : q * (P * 268435456) = 268435456 * q * P := by
    rw [Int.mul_comm P 268435456, ← Int.mul_assoc, Int.mul_comm q 268435456]
  have e3 : (r + 268435456 * q) * P = (x * Bv k + R (i + k) + c) * P := by rw [hmd, hv]
  rw [Int.add_mul, Int.add_mul, Int.add_mul] at e3
  rw [Int.sub_mul, e2]
  omega
theorem mg_cut {F : Nat → Int} {m : Nat} : ∀ j : Nat, (∀ k, k < m + j → 0 ≤ F k ∧ F k < 268435456) → mg 268435456 F (m + j) < 268435456 ^ m → mg 268435456 F (m + j) = mg 268435456 F m
  | 0, _, _ => rfl
  | j + 1, hF, h => by
    have h1 : mg 268435456 F (m + (j + 1)) = mg 268435456 F (m + j) + F (m + j) * 268435456 ^ (m + j) := rfl
    have hb := mg_bd (show (0 : Int) < 268435456 by omega) (F := F) (n := m + j) (fun k hk => hF k (by omega))
    have hp : (268435456 : Int) ^ m ≤ 268435456 ^ (m + j) := pw_le (by omega) (by omega)
    have hp0 := pw_pos (show (0 : Int) < 268435456 by omega) (m + j)
    have h0 : F (m + j) = 0 := by
      rcases Int.lt_or_le 0 (F (m + j)) with z | z
      · have h2 := Int.mul_le_mul_of_nonneg_right (show 1 ≤ F (m + j) by omega) (Int.le_of_lt hp0)
        rw [Int.one_mul] at h2
        omega
      · have := hF (m + j) (by omega)
        omega
    rw [h0, Int.zero_mul, Int.add_zero] at h1
    rw [h1] at h ⊢
    exact mg_cut j (fun k hk => hF k (by omega)) h
theorem mu_fin {R Bv A : Nat → Int} {N i mm : Nat} {c : Int} (hk : i + mm < N) (h0 : R (i + mm) = 0) (hE : mg 268435456 R N + c * 268435456 ^ (i + mm) = mg 268435456 A i * mg 268435456 Bv mm + A i * mg 268435456 Bv mm * 268435456 ^ i) : mg 268435456 (upF R (i + mm) c) N = mg 268435456 A (i + 1) * mg 268435456 Bv mm := by
  rw [mg_upd hk, h0, Int.sub_zero, hE]
  simp only [mg]
  rw [Int.add_mul]
  congr 1
  rw [Int.mul_assoc, Int.mul_comm (mg 268435456 Bv mm), ← Int.mul_assoc]
abbrev mX6_multiplies : MI := (yX6_multiplies, cX6_multiplies, 13, none, noX)
theorem dX6_multiplies_0 : decode cX6_multiplies 0 = .ok (.aload_n 0, 1) := by decide +kernel
theorem dX6_multiplies_1 : decode cX6_multiplies 1 = .ok (.getfield 14, 3) := by decide +kernel
theorem dX6_multiplies_4 : decode cX6_multiplies 4 = .ok (.iload_n 1, 1) := by decide +kernel
theorem dX6_multiplies_5 : decode cX6_multiplies 5 = .ok (.iaload, 1) := by decide +kernel
theorem dX6_multiplies_6 : decode cX6_multiplies 6 = .ok (.aload_n 0, 1) := by decide +kernel
theorem dX6_multiplies_7 : decode cX6_multiplies 7 = .ok (.getfield 14, 3) := by decide +kernel
theorem dX6_multiplies_10 : decode cX6_multiplies 10 = .ok (.iload_n 2, 1) := by decide +kernel
theorem dX6_multiplies_11 : decode cX6_multiplies 11 = .ok (.iaload, 1) := by decide +kernel
theorem dX6_multiplies_12 : decode cX6_multiplies 12 = .ok (.iadd, 1) := by decide +kernel
theorem dX6_multiplies_13 : decode cX6_multiplies 13 = .ok (.istore 4, 2) := by decide +kernel
theorem dX6_multiplies_15 : decode cX6_multiplies 15 = .ok (.iconst 0, 1) := by decide +kernel
theorem dX6_multiplies_16 : decode cX6_multiplies 16 = .ok (.istore 5, 2) := by decide +kernel
theorem dX6_multiplies_18 : decode cX6_multiplies 18 = .ok (.iload 5, 2) := by decide +kernel
theorem dX6_multiplies_20 : decode cX6_multiplies 20 = .ok (.iload 4, 2) := by decide +kernel
theorem dX6_multiplies_22 : decode cX6_multiplies 22 = .ok (.if_icmp .ge 17, 3) := by decide +kernel
theorem dX6_multiplies_25 : decode cX6_multiplies 25 = .ok (.aload_n 0, 1) := by decide +kernel
theorem dX6_multiplies_26 : decode cX6_multiplies 26 = .ok (.getfield 20, 3) := by decide +kernel
theorem dX6_multiplies_29 : decode cX6_multiplies 29 = .ok (.iload 5, 2) := by decide +kernel
theorem dX6_multiplies_31 : decode cX6_multiplies 31 = .ok (.lconst 0, 1) := by decide +kernel
theorem dX6_multiplies_32 : decode cX6_multiplies 32 = .ok (.lastore, 1) := by decide +kernel
theorem dX6_multiplies_33 : decode cX6_multiplies 33 = .ok (.iinc 5 1, 3) := by decide +kernel
theorem dX6_multiplies_36 : decode cX6_multiplies 36 = .ok (.goto (-18), 3) := by decide +kernel
theorem dX6_multiplies_39 : decode cX6_multiplies 39 = .ok (.iconst 0, 1) := by decide +kernel
theorem dX6_multiplies_40 : decode cX6_multiplies 40 = .ok (.istore 5, 2) := by decide +kernel
theorem dX6_multiplies_42 : decode cX6_multiplies 42 = .ok (.iload 5, 2) := by decide +kernel
theorem dX6_multiplies_44 : decode cX6_multiplies 44 = .ok (.aload_n 0, 1) := by decide +kernel
theorem dX6_multiplies_45 : decode cX6_multiplies 45 = .ok (.getfield 14, 3) := by decide +kernel
theorem dX6_multiplies_48 : decode cX6_multiplies 48 = .ok (.iload_n 1, 1) := by decide +kernel
theorem dX6_multiplies_49 : decode cX6_multiplies 49 = .ok (.iaload, 1) := by decide +kernel
theorem dX6_multiplies_50 : decode cX6_multiplies 50 = .ok (.if_icmp .ge 122, 3) := by decide +kernel
theorem dX6_multiplies_53 : decode cX6_multiplies 53 = .ok (.aload_n 0, 1) := by decide +kernel
theorem dX6_multiplies_54 : decode cX6_multiplies 54 = .ok (.getfield 8, 3) := by decide +kernel
theorem dX6_multiplies_57 : decode cX6_multiplies 57 = .ok (.bipush 100, 2) := by decide +kernel
theorem dX6_multiplies_59 : decode cX6_multiplies 59 = .ok (.iload_n 1, 1) := by decide +kernel
theorem dX6_multiplies_60 : decode cX6_multiplies 60 = .ok (.imul, 1) := by decide +kernel
theorem dX6_multiplies_61 : decode cX6_multiplies 61 = .ok (.iload 5, 2) := by decide +kernel
theorem dX6_multiplies_63 : decode cX6_multiplies 63 = .ok (.iadd, 1) := by decide +kernel
theorem dX6_multiplies_64 : decode cX6_multiplies 64 = .ok (.iaload, 1) := by decide +kernel
theorem dX6_multiplies_65 : decode cX6_multiplies 65 = .ok (.i2l, 1) := by decide +kernel
theorem dX6_multiplies_66 : decode cX6_multiplies 66 = .ok (.lstore 6, 2) := by decide +kernel
theorem dX6_multiplies_68 : decode cX6_multiplies 68 = .ok (.lconst 0, 1) := by decide +kernel
theorem dX6_multiplies_69 : decode cX6_multiplies 69 = .ok (.lstore 8, 2) := by decide +kernel
theorem dX6_multiplies_71 : decode cX6_multiplies 71 = .ok (.iconst 0, 1) := by decide +kernel
theorem dX6_multiplies_72 : decode cX6_multiplies 72 = .ok (.istore 10, 2) := by decide +kernel
theorem dX6_multiplies_74 : decode cX6_multiplies 74 = .ok (.iload 10, 2) := by decide +kernel
theorem dX6_multiplies_76 : decode cX6_multiplies 76 = .ok (.aload_n 0, 1) := by decide +kernel
theorem dX6_multiplies_77 : decode cX6_multiplies 77 = .ok (.getfield 14, 3) := by decide +kernel
theorem dX6_multiplies_80 : decode cX6_multiplies 80 = .ok (.iload_n 2, 1) := by decide +kernel
theorem dX6_multiplies_81 : decode cX6_multiplies 81 = .ok (.iaload, 1) := by decide +kernel
theorem dX6_multiplies_82 : decode cX6_multiplies 82 = .ok (.if_icmp .ge 65, 3) := by decide +kernel
theorem dX6_multiplies_85 : decode cX6_multiplies 85 = .ok (.lload 6, 2) := by decide +kernel
theorem dX6_multiplies_87 : decode cX6_multiplies 87 = .ok (.aload_n 0, 1) := by decide +kernel
theorem dX6_multiplies_88 : decode cX6_multiplies 88 = .ok (.getfield 8, 3) := by decide +kernel
theorem dX6_multiplies_91 : decode cX6_multiplies 91 = .ok (.bipush 100, 2) := by decide +kernel
theorem dX6_multiplies_93 : decode cX6_multiplies 93 = .ok (.iload_n 2, 1) := by decide +kernel
theorem dX6_multiplies_94 : decode cX6_multiplies 94 = .ok (.imul, 1) := by decide +kernel
theorem dX6_multiplies_95 : decode cX6_multiplies 95 = .ok (.iload 10, 2) := by decide +kernel
theorem dX6_multiplies_97 : decode cX6_multiplies 97 = .ok (.iadd, 1) := by decide +kernel
theorem dX6_multiplies_98 : decode cX6_multiplies 98 = .ok (.iaload, 1) := by decide +kernel
theorem dX6_multiplies_99 : decode cX6_multiplies 99 = .ok (.i2l, 1) := by decide +kernel
theorem dX6_multiplies_100 : decode cX6_multiplies 100 = .ok (.lmul, 1) := by decide +kernel
theorem dX6_multiplies_101 : decode cX6_multiplies 101 = .ok (.aload_n 0, 1) := by decide +kernel
theorem dX6_multiplies_102 : decode cX6_multiplies 102 = .ok (.getfield 20, 3) := by decide +kernel
theorem dX6_multiplies_105 : decode cX6_multiplies 105 = .ok (.iload 5, 2) := by decide +kernel
theorem dX6_multiplies_107 : decode cX6_multiplies 107 = .ok (.iload 10, 2) := by decide +kernel
theorem dX6_multiplies_109 : decode cX6_multiplies 109 = .ok (.iadd, 1) := by decide +kernel
theorem dX6_multiplies_110 : decode cX6_multiplies 110 = .ok (.laload, 1) := by decide +kernel
theorem dX6_multiplies_111 : decode cX6_multiplies 111 = .ok (.ladd, 1) := by decide +kernel
theorem dX6_multiplies_112 : decode cX6_multiplies 112 = .ok (.lload 8, 2) := by decide +kernel
theorem dX6_multiplies_114 : decode cX6_multiplies 114 = .ok (.ladd, 1) := by decide +kernel
theorem dX6_multiplies_115 : decode cX6_multiplies 115 = .ok (.lstore 11, 2) := by decide +kernel
theorem dX6_multiplies_117 : decode cX6_multiplies 117 = .ok (.aload_n 0, 1) := by decide +kernel
theorem dX6_multiplies_118 : decode cX6_multiplies 118 = .ok (.getfield 20, 3) := by decide +kernel
theorem dX6_multiplies_121 : decode cX6_multiplies 121 = .ok (.iload 5, 2) := by decide +kernel
theorem dX6_multiplies_123 : decode cX6_multiplies 123 = .ok (.iload 10, 2) := by decide +kernel
theorem dX6_multiplies_125 : decode cX6_multiplies 125 = .ok (.iadd, 1) := by decide +kernel
theorem dX6_multiplies_126 : decode cX6_multiplies 126 = .ok (.lload 11, 2) := by decide +kernel
theorem dX6_multiplies_128 : decode cX6_multiplies 128 = .ok (.ldc2_w 65, 3) := by decide +kernel
theorem dX6_multiplies_131 : decode cX6_multiplies 131 = .ok (.lrem, 1) := by decide +kernel
theorem dX6_multiplies_132 : decode cX6_multiplies 132 = .ok (.lastore, 1) := by decide +kernel
theorem dX6_multiplies_133 : decode cX6_multiplies 133 = .ok (.lload 11, 2) := by decide +kernel
theorem dX6_multiplies_135 : decode cX6_multiplies 135 = .ok (.ldc2_w 65, 3) := by decide +kernel
theorem dX6_multiplies_138 : decode cX6_multiplies 138 = .ok (.ldiv, 1) := by decide +kernel
theorem dX6_multiplies_139 : decode cX6_multiplies 139 = .ok (.lstore 8, 2) := by decide +kernel
theorem dX6_multiplies_141 : decode cX6_multiplies 141 = .ok (.iinc 10 1, 3) := by decide +kernel
theorem dX6_multiplies_144 : decode cX6_multiplies 144 = .ok (.goto (-70), 3) := by decide +kernel
theorem dX6_multiplies_147 : decode cX6_multiplies 147 = .ok (.aload_n 0, 1) := by decide +kernel
theorem dX6_multiplies_148 : decode cX6_multiplies 148 = .ok (.getfield 20, 3) := by decide +kernel
theorem dX6_multiplies_151 : decode cX6_multiplies 151 = .ok (.iload 5, 2) := by decide +kernel
theorem dX6_multiplies_153 : decode cX6_multiplies 153 = .ok (.aload_n 0, 1) := by decide +kernel
theorem dX6_multiplies_154 : decode cX6_multiplies 154 = .ok (.getfield 14, 3) := by decide +kernel
theorem dX6_multiplies_157 : decode cX6_multiplies 157 = .ok (.iload_n 2, 1) := by decide +kernel
theorem dX6_multiplies_158 : decode cX6_multiplies 158 = .ok (.iaload, 1) := by decide +kernel
theorem dX6_multiplies_159 : decode cX6_multiplies 159 = .ok (.iadd, 1) := by decide +kernel
theorem dX6_multiplies_160 : decode cX6_multiplies 160 = .ok (.dup2, 1) := by decide +kernel
theorem dX6_multiplies_161 : decode cX6_multiplies 161 = .ok (.laload, 1) := by decide +kernel
theorem dX6_multiplies_162 : decode cX6_multiplies 162 = .ok (.lload 8, 2) := by decide +kernel
theorem dX6_multiplies_164 : decode cX6_multiplies 164 = .ok (.ladd, 1) := by decide +kernel
theorem dX6_multiplies_165 : decode cX6_multiplies 165 = .ok (.lastore, 1) := by decide +kernel
theorem dX6_multiplies_166 : decode cX6_multiplies 166 = .ok (.iinc 5 1, 3) := by decide +kernel
theorem dX6_multiplies_169 : decode cX6_multiplies 169 = .ok (.goto (-127), 3) := by decide +kernel
theorem dX6_multiplies_172 : decode cX6_multiplies 172 = .ok (.aload_n 0, 1) := by decide +kernel
theorem dX6_multiplies_173 : decode cX6_multiplies 173 = .ok (.getfield 17, 3) := by decide +kernel
theorem dX6_multiplies_176 : decode cX6_multiplies 176 = .ok (.iload_n 1, 1) := by decide +kernel
theorem dX6_multiplies_177 : decode cX6_multiplies 177 = .ok (.iaload, 1) := by decide +kernel
theorem dX6_multiplies_178 : decode cX6_multiplies 178 = .ok (.aload_n 0, 1) := by decide +kernel
theorem dX6_multiplies_179 : decode cX6_multiplies 179 = .ok (.getfield 17, 3) := by decide +kernel
theorem dX6_multiplies_182 : decode cX6_multiplies 182 = .ok (.iload_n 2, 1) := by decide +kernel
theorem dX6_multiplies_183 : decode cX6_multiplies 183 = .ok (.iaload, 1) := by decide +kernel
theorem dX6_multiplies_184 : decode cX6_multiplies 184 = .ok (.imul, 1) := by decide +kernel
theorem dX6_multiplies_185 : decode cX6_multiplies 185 = .ok (.istore 5, 2) := by decide +kernel
theorem dX6_multiplies_187 : decode cX6_multiplies 187 = .ok (.iconst 0, 1) := by decide +kernel
theorem dX6_multiplies_188 : decode cX6_multiplies 188 = .ok (.istore 6, 2) := by decide +kernel
theorem dX6_multiplies_190 : decode cX6_multiplies 190 = .ok (.iload 6, 2) := by decide +kernel
theorem dX6_multiplies_192 : decode cX6_multiplies 192 = .ok (.iload 4, 2) := by decide +kernel
theorem dX6_multiplies_194 : decode cX6_multiplies 194 = .ok (.if_icmp .ge 36, 3) := by decide +kernel
theorem dX6_multiplies_197 : decode cX6_multiplies 197 = .ok (.iload 6, 2) := by decide +kernel
theorem dX6_multiplies_199 : decode cX6_multiplies 199 = .ok (.bipush 100, 2) := by decide +kernel
theorem dX6_multiplies_201 : decode cX6_multiplies 201 = .ok (.if_icmp .ge 29, 3) := by decide +kernel
theorem dX6_multiplies_204 : decode cX6_multiplies 204 = .ok (.aload_n 0, 1) := by decide +kernel
theorem dX6_multiplies_205 : decode cX6_multiplies 205 = .ok (.getfield 8, 3) := by decide +kernel
theorem dX6_multiplies_208 : decode cX6_multiplies 208 = .ok (.bipush 100, 2) := by decide +kernel
theorem dX6_multiplies_210 : decode cX6_multiplies 210 = .ok (.iload_n 3, 1) := by decide +kernel
theorem dX6_multiplies_211 : decode cX6_multiplies 211 = .ok (.imul, 1) := by decide +kernel
theorem dX6_multiplies_212 : decode cX6_multiplies 212 = .ok (.iload 6, 2) := by decide +kernel
theorem dX6_multiplies_214 : decode cX6_multiplies 214 = .ok (.iadd, 1) := by decide +kernel
theorem dX6_multiplies_215 : decode cX6_multiplies 215 = .ok (.aload_n 0, 1) := by decide +kernel
theorem dX6_multiplies_216 : decode cX6_multiplies 216 = .ok (.getfield 20, 3) := by decide +kernel
theorem dX6_multiplies_219 : decode cX6_multiplies 219 = .ok (.iload 6, 2) := by decide +kernel
theorem dX6_multiplies_221 : decode cX6_multiplies 221 = .ok (.laload, 1) := by decide +kernel
theorem dX6_multiplies_222 : decode cX6_multiplies 222 = .ok (.l2i, 1) := by decide +kernel
theorem dX6_multiplies_223 : decode cX6_multiplies 223 = .ok (.iastore, 1) := by decide +kernel
theorem dX6_multiplies_224 : decode cX6_multiplies 224 = .ok (.iinc 6 1, 3) := by decide +kernel
theorem dX6_multiplies_227 : decode cX6_multiplies 227 = .ok (.goto (-37), 3) := by decide +kernel
theorem dX6_multiplies_230 : decode cX6_multiplies 230 = .ok (.aload_n 0, 1) := by decide +kernel
theorem dX6_multiplies_231 : decode cX6_multiplies 231 = .ok (.iload_n 3, 1) := by decide +kernel
theorem dX6_multiplies_232 : decode cX6_multiplies 232 = .ok (.iload 4, 2) := by decide +kernel
theorem dX6_multiplies_234 : decode cX6_multiplies 234 = .ok (.bipush 100, 2) := by decide +kernel
theorem dX6_multiplies_236 : decode cX6_multiplies 236 = .ok (.if_icmp .ge 8, 3) := by decide +kernel
theorem dX6_multiplies_239 : decode cX6_multiplies 239 = .ok (.iload 4, 2) := by decide +kernel
theorem dX6_multiplies_241 : decode cX6_multiplies 241 = .ok (.goto 5, 3) := by decide +kernel
theorem dX6_multiplies_244 : decode cX6_multiplies 244 = .ok (.bipush 100, 2) := by decide +kernel
theorem dX6_multiplies_246 : decode cX6_multiplies 246 = .ok (.iload 5, 2) := by decide +kernel
theorem dX6_multiplies_248 : decode cX6_multiplies 248 = .ok (.invokevirtual 79, 3) := by decide +kernel
theorem dX6_multiplies_251 : decode cX6_multiplies 251 = .ok (.return_, 1) := by decide +kernel
theorem mu_zero (d : Nat) {g : GX} {mo sz : Nat} {rk kn ar ac : Int} {D LN SG O2 : Nat → Int} {V0 : AH} {a e c n : Nat} {Q : AQ} (hn : n ≤ 200)
    (hKK : ∀ {V : AH} {R : Nat → Int}, V mo = some (moO mo rk kn ar ac) → MA g mo V D LN SG R O2 → (∀ q, ¬ EN mo q → V q = V0 q) → (∀ q, q < n → R q = 0) → AW g mX6_multiplies d 39 [(4, .int (iZ n)), (0, .ref mo), (1, .int (iZ a)), (2, .int (iZ e)), (3, .int (iZ c))] [] V sz Q) : ∀ (y k : Nat), k + y = n → ∀ {V : AH} {R : Nat → Int}, V mo = some (moO mo rk kn ar ac) → MA g mo V D LN SG R O2 → (∀ q, ¬ EN mo q → V q = V0 q) → (∀ q, q < k → R q = 0) → AW g mX6_multiplies d 18 [(5, .int (iZ k)), (4, .int (iZ n)), (0, .ref mo), (1, .int (iZ a)), (2, .int (iZ e)), (3, .int (iZ c))] [] V sz Q
  | 0, k, hy, V, R, hmo, hA, hV, hZ => by
    refine aw_iload dX6_multiplies_18 (by rfl) ?_
    refine aw_iload dX6_multiplies_20 (by rfl) ?_
    refine aw_icmp_geZ (tgt := 39) dX6_multiplies_22 (by decide) (by omega) (by omega) (fun hc_22 => ?_) (fun hc_22 => ?_)
    · obtain rfl : k = n := by omega
      exact aw_pk [4, 0, 1, 2, 3] (by rfl) (hKK hmo hA hV hZ)
    · exact absurd hc_22 (by omega)
  | y + 1, k, hy, V, R, hmo, hA, hV, hZ => by
    have IH := fun k hk => @mu_zero d g mo sz rk kn ar ac D LN SG O2 V0 a e c n Q hn hKK y k hk
    clear hKK
    refine aw_iload dX6_multiplies_18 (by rfl) ?_
    refine aw_iload dX6_multiplies_20 (by rfl) ?_
    refine aw_icmp_geZ (tgt := 39) dX6_multiplies_22 (by decide) (by omega) (by omega) (fun hc_22 => ?_) (fun hc_22 => ?_)
    · exact absurd hc_22 (by omega)
    · refine aw_aload_n dX6_multiplies_25 (by rfl) (Or.inr ⟨_, rfl⟩) ?_
      refine aw_get fX6_20 dX6_multiplies_26 hmo (by rfl) ?_
      refine aw_iload dX6_multiplies_29 (by rfl) ?_
      refine aw_lconstZ (z := 0) dX6_multiplies_31 (by decide) ?_
      refine aw_lastZ (k) dX6_multiplies_32 hA.2.2.2.1 (by omega) (by omega) (by omega) ?_
      refine aw_iincZ dX6_multiplies_33 (by rfl) (by decide) ?_
      refine aw_goto (tgt := 18) dX6_multiplies_36 (by decide) ?_
      rw [show ((k : Int) + 1) = ((k + 1 : Nat) : Int) by omega]
      refine aw_pk [5, 4, 0, 1, 2, 3] (by rfl) ?_
      exact IH (k + 1) (by omega) ((AHu_ne (by omega)).trans hmo) hA.o1 (fun q hq => (AHu_ne (fun z => hq (by unfold EN; omega))).trans (hV q hq)) (fun q hq => by
        unfold upF; split
        · rfl
        · exact hZ q (by omega))
theorem mu_in (d : Nat) {g : GX} {mo sz : Nat} {rk kn ar ac : Int} {D LN SG O2 : Nat → Int} {V0 : AH} {a e c n i ne : Nat} {x M : Int} {Q : AQ} (hn : n ≤ 200) (he : e < 460) (hin : i + ne < n) (hne : LN e = (ne : Int) ∧ ne ≤ 100) (hFe : ∀ k, k < ne → 0 ≤ dg D e k ∧ dg D e k < 268435456) (hx : 0 ≤ x ∧ x < 268435456)
    (hKK : ∀ {V : AH} {R : Nat → Int} {cr : Int}, V mo = some (moO mo rk kn ar ac) → MA g mo V D LN SG R O2 → (∀ q, ¬ EN mo q → V q = V0 q) → (∀ q, q < n → 0 ≤ R q ∧ R q < 268435456) → (∀ q, i + ne ≤ q → q < n → R q = 0) → (0 ≤ cr ∧ cr < 268435456) → mg 268435456 R n + cr * 268435456 ^ (i + ne) = M + x * mg 268435456 (dg D e) ne * 268435456 ^ i → AW g mX6_multiplies d 147 [(8, .long (jZ cr)), (5, .int (iZ i)), (4, .int (iZ n)), (0, .ref mo), (1, .int (iZ a)), (2, .int (iZ e)), (3, .int (iZ c))] [] V sz Q) : ∀ (y k : Nat), k + y = ne → ∀ {V : AH} {R : Nat → Int} {cr : Int}, V mo = some (moO mo rk kn ar ac) → MA g mo V D LN SG R O2 → (∀ q, ¬ EN mo q → V q = V0 q) → (∀ q, q < n → 0 ≤ R q ∧ R q < 268435456) → (∀ q, i + ne ≤ q → q < n → R q = 0) → (0 ≤ cr ∧ cr < 268435456) → mg 268435456 R n + cr * 268435456 ^ (i + k) = M + x * mg 268435456 (dg D e) k * 268435456 ^ i → AW g mX6_multiplies d 74 [(10, .int (iZ k)), (8, .long (jZ cr)), (6, .long (jZ x)), (5, .int (iZ i)), (4, .int (iZ n)), (0, .ref mo), (1, .int (iZ a)), (2, .int (iZ e)), (3, .int (iZ c))] [] V sz Q
  | 0, k, hy, V, R, cr, hmo, hA, hV, hR, hZ, hcr, hE => by
    refine aw_iload dX6_multiplies_74 (by rfl) ?_
    refine aw_aload_n dX6_multiplies_76 (by rfl) (Or.inr ⟨_, rfl⟩) ?_
    refine aw_get fX6_14 dX6_multiplies_77 hmo (by rfl) ?_
    refine aw_iload_n dX6_multiplies_80 (by rfl) ?_
    refine aw_ialdZ (e) dX6_multiplies_81 hA.2.1 (by omega) (by omega) (by omega) ?_
    refine aw_icmp_geZ (tgt := 147) dX6_multiplies_82 (by decide) (by omega) (by omega) (fun hc_82 => ?_) (fun hc_82 => ?_)
    · obtain rfl : k = ne := by omega
      exact aw_pk [8, 5, 4, 0, 1, 2, 3] (by rfl) (hKK hmo hA hV hR hZ hcr hE)
    · exact absurd hc_82 (by omega)
  | y + 1, k, hy, V, R, cr, hmo, hA, hV, hR, hZ, hcr, hE => by
    have IH := fun k hk => @mu_in d g mo sz rk kn ar ac D LN SG O2 V0 a e c n i ne x M Q hn he hin hne hFe hx hKK y k hk
    clear hKK
    obtain ⟨v, hv0⟩ : ∃ v, x * dg D e k + R (i + k) + cr = v := ⟨_, rfl⟩
    have hvb := mu_bd hcr hx (hFe k (by omega)) (hR (i + k) (by omega))
    rw [hv0] at hvb
    refine aw_iload dX6_multiplies_74 (by rfl) ?_
    refine aw_aload_n dX6_multiplies_76 (by rfl) (Or.inr ⟨_, rfl⟩) ?_
    refine aw_get fX6_14 dX6_multiplies_77 hmo (by rfl) ?_
    refine aw_iload_n dX6_multiplies_80 (by rfl) ?_
    refine aw_ialdZ (e) dX6_multiplies_81 hA.2.1 (by omega) (by omega) (by omega) ?_
    refine aw_icmp_geZ (tgt := 147) dX6_multiplies_82 (by decide) (by omega) (by omega) (fun hc_82 => ?_) (fun hc_82 => ?_)
    · exact absurd hc_82 (by omega)
    · refine aw_lload dX6_multiplies_85 (by rfl) ?_
      refine aw_aload_n dX6_multiplies_87 (by rfl) (Or.inr ⟨_, rfl⟩) ?_
      refine aw_get fX6_8 dX6_multiplies_88 hmo (by rfl) ?_
      refine aw_bipushZ dX6_multiplies_91 (by decide) ?_
      refine aw_iload_n dX6_multiplies_93 (by rfl) ?_
      refine aw_imulZ dX6_multiplies_94 ?_
      refine aw_iload dX6_multiplies_95 (by rfl) ?_
      refine aw_iaddZ dX6_multiplies_97 ?_
      refine aw_ialdZ (100 * e + k) dX6_multiplies_98 hA.1 (by omega) (by omega) (by omega) ?_
      refine aw_i2lZ dX6_multiplies_99 (by have := hFe k (by omega); unfold dg at this; omega) ?_
      refine aw_lmulZ dX6_multiplies_100 ?_
      refine aw_aload_n dX6_multiplies_101 (by rfl) (Or.inr ⟨_, rfl⟩) ?_
      refine aw_get fX6_20 dX6_multiplies_102 hmo (by rfl) ?_
      refine aw_iload dX6_multiplies_105 (by rfl) ?_
      refine aw_iload dX6_multiplies_107 (by rfl) ?_
      refine aw_iaddZ dX6_multiplies_109 ?_
      refine aw_laldZ (i + k) dX6_multiplies_110 hA.2.2.2.1 (by omega) (by omega) (by omega) ?_
      refine aw_laddZ dX6_multiplies_111 ?_
      refine aw_lload dX6_multiplies_112 (by rfl) ?_
      refine aw_laddZ dX6_multiplies_114 ?_
      refine aw_topl (y := v) hv0 ?_
      refine aw_lstore dX6_multiplies_115 (by decide) ?_
      refine aw_aload_n dX6_multiplies_117 (by rfl) (Or.inr ⟨_, rfl⟩) ?_
      refine aw_get fX6_20 dX6_multiplies_118 hmo (by rfl) ?_
      refine aw_iload dX6_multiplies_121 (by rfl) ?_
      refine aw_iload dX6_multiplies_123 (by rfl) ?_
      refine aw_iaddZ dX6_multiplies_125 ?_
      refine aw_lload dX6_multiplies_126 (by rfl) ?_
      refine aw_ldc2Z (z := 268435456) qX6_65 dX6_multiplies_128 (by decide) ?_
      refine aw_lremZ dX6_multiplies_131 (by omega) (by omega) (by omega) (by omega) ?_
      rw [Int.tmod_eq_emod_of_nonneg (by omega)]
      refine aw_lastZ (i + k) dX6_multiplies_132 hA.2.2.2.1 (by omega) (by omega) (by omega) ?_
      refine aw_lload dX6_multiplies_133 (by rfl) ?_
      refine aw_ldc2Z (z := 268435456) qX6_65 dX6_multiplies_135 (by decide) ?_
      refine aw_ldivZ dX6_multiplies_138 (by omega) (by omega) (by omega) (by omega) ?_
      rw [Int.tdiv_eq_ediv_of_nonneg (by omega)]
      refine aw_lstore dX6_multiplies_139 (by decide) ?_
      refine aw_iincZ dX6_multiplies_141 (by rfl) (by decide) ?_
      refine aw_goto (tgt := 74) dX6_multiplies_144 (by decide) ?_
      rw [show ((k : Int) + 1) = ((k + 1 : Nat) : Int) by omega]
      refine aw_pk [10, 8, 6, 5, 4, 0, 1, 2, 3] (by rfl) ?_
      exact IH (k + 1) (by omega) ((AHu_ne (by omega)).trans hmo) hA.o1 (fun q hq => (AHu_ne (fun z => hq (by unfold EN; omega))).trans (hV q hq)) (fun q hq => by
        unfold upF; split
        · omega
        · exact hR q hq) (fun q h1 h2 => by rw [upF_ne _ _ (by omega)]; exact hZ q h1 h2) (by omega) (mu_step (by omega) hv0 hE)
theorem mu_out (d : Nat) {g : GX} {mo sz : Nat} {rk kn ar ac : Int} {D LN SG O2 : Nat → Int} {V0 : AH} {a e c n na ne : Nat} {Q : AQ} (hn : n ≤ 200) (ha : a < 460) (he : e < 460) (hnn : na + ne = n) (hna : LN a = (na : Int) ∧ na ≤ 100) (hne : LN e = (ne : Int) ∧ ne ≤ 100) (hFa : ∀ k, k < na → 0 ≤ dg D a k ∧ dg D a k < 268435456) (hFe : ∀ k, k < ne → 0 ≤ dg D e k ∧ dg D e k < 268435456)
    (hKK : ∀ {V : AH} {R : Nat → Int}, V mo = some (moO mo rk kn ar ac) → MA g mo V D LN SG R O2 → (∀ q, ¬ EN mo q → V q = V0 q) → (∀ q, q < n → 0 ≤ R q ∧ R q < 268435456) → mg 268435456 R n = mg 268435456 (dg D a) na * mg 268435456 (dg D e) ne → AW g mX6_multiplies d 172 [(4, .int (iZ n)), (0, .ref mo), (1, .int (iZ a)), (2, .int (iZ e)), (3, .int (iZ c))] [] V sz Q) : ∀ (y i : Nat), i + y = na → ∀ {V : AH} {R : Nat → Int}, V mo = some (moO mo rk kn ar ac) → MA g mo V D LN SG R O2 → (∀ q, ¬ EN mo q → V q = V0 q) → (∀ q, q < n → 0 ≤ R q ∧ R q < 268435456) → (∀ q, i + ne ≤ q → q < n → R q = 0) → mg 268435456 R n = mg 268435456 (dg D a) i * mg 268435456 (dg D e) ne → AW g mX6_multiplies d 42 [(5, .int (iZ i)), (4, .int (iZ n)), (0, .ref mo), (1, .int (iZ a)), (2, .int (iZ e)), (3, .int (iZ c))] [] V sz Q
  | 0, i, hy, V, R, hmo, hA, hV, hR, hZ, hE => by
    refine aw_iload dX6_multiplies_42 (by rfl) ?_
    refine aw_aload_n dX6_multiplies_44 (by rfl) (Or.inr ⟨_, rfl⟩) ?_
    refine aw_get fX6_14 dX6_multiplies_45 hmo (by rfl) ?_
    refine aw_iload_n dX6_multiplies_48 (by rfl) ?_
    refine aw_ialdZ (a) dX6_multiplies_49 hA.2.1 (by omega) (by omega) (by omega) ?_
    refine aw_icmp_geZ (tgt := 172) dX6_multiplies_50 (by decide) (by omega) (by omega) (fun hc_50 => ?_) (fun hc_50 => ?_)
    · obtain rfl : i = na := by omega
      exact aw_pk [4, 0, 1, 2, 3] (by rfl) (hKK hmo hA hV hR hE)
    · exact absurd hc_50 (by omega)
  | y + 1, i, hy, V, R, hmo, hA, hV, hR, hZ, hE => by
    have IH := fun k hk => @mu_out d g mo sz rk kn ar ac D LN SG O2 V0 a e c n na ne Q hn ha he hnn hna hne hFa hFe hKK y k hk
    clear hKK
    have J147 : ∀ {V : AH} {R : Nat → Int} {cr : Int}, V mo = some (moO mo rk kn ar ac) → MA g mo V D LN SG R O2 → (∀ q, ¬ EN mo q → V q = V0 q) → (∀ q, q < n → 0 ≤ R q ∧ R q < 268435456) → (∀ q, i + ne ≤ q → q < n → R q = 0) → (0 ≤ cr ∧ cr < 268435456) → mg 268435456 R n + cr * 268435456 ^ (i + ne) = mg 268435456 (dg D a) i * mg 268435456 (dg D e) ne + dg D a i * mg 268435456 (dg D e) ne * 268435456 ^ i → AW g mX6_multiplies d 147 [(8, .long (jZ cr)), (5, .int (iZ i)), (4, .int (iZ n)), (0, .ref mo), (1, .int (iZ a)), (2, .int (iZ e)), (3, .int (iZ c))] [] V sz Q := fun {V R cr} hmo hA hV hR hZ hcr hE => by
      refine aw_aload_n dX6_multiplies_147 (by rfl) (Or.inr ⟨_, rfl⟩) ?_
      refine aw_get fX6_20 dX6_multiplies_148 hmo (by rfl) ?_
      refine aw_iload dX6_multiplies_151 (by rfl) ?_
      refine aw_aload_n dX6_multiplies_153 (by rfl) (Or.inr ⟨_, rfl⟩) ?_
      refine aw_get fX6_14 dX6_multiplies_154 hmo (by rfl) ?_
      refine aw_iload_n dX6_multiplies_157 (by rfl) ?_
      refine aw_ialdZ (e) dX6_multiplies_158 hA.2.1 (by omega) (by omega) (by omega) ?_
      refine aw_iaddZ dX6_multiplies_159 ?_
      refine aw_dup2 dX6_multiplies_160 rfl rfl ?_
      refine aw_laldZ (i + ne) dX6_multiplies_161 hA.2.2.2.1 (by omega) (by omega) (by omega) ?_
      refine aw_lload dX6_multiplies_162 (by rfl) ?_
      refine aw_laddZ dX6_multiplies_164 ?_
      refine aw_topl (y := cr) (by rw [hZ (i + ne) (by omega) (by omega)]; omega) ?_
      refine aw_lastZ (i + ne) dX6_multiplies_165 hA.2.2.2.1 (by omega) (by omega) (by omega) ?_
      refine aw_iincZ dX6_multiplies_166 (by rfl) (by decide) ?_
      refine aw_goto (tgt := 42) dX6_multiplies_169 (by decide) ?_
      rw [show ((i : Int) + 1) = ((i + 1 : Nat) : Int) by omega]
      refine aw_pk [5, 4, 0, 1, 2, 3] (by rfl) ?_
      exact IH (i + 1) (by omega) ((AHu_ne (by omega)).trans hmo) hA.o1 (fun q hq => (AHu_ne (fun z => hq (by unfold EN; omega))).trans (hV q hq)) (fun q hq => by
        unfold upF; split
        · omega
        · exact hR q hq) (fun q h1 h2 => by rw [upF_ne _ _ (by omega)]; exact hZ q (by omega) h2) (mu_fin (by omega) (hZ (i + ne) (by omega) (by omega)) hE)
    refine aw_iload dX6_multiplies_42 (by rfl) ?_
    refine aw_aload_n dX6_multiplies_44 (by rfl) (Or.inr ⟨_, rfl⟩) ?_
    refine aw_get fX6_14 dX6_multiplies_45 hmo (by rfl) ?_
    refine aw_iload_n dX6_multiplies_48 (by rfl) ?_
    refine aw_ialdZ (a) dX6_multiplies_49 hA.2.1 (by omega) (by omega) (by omega) ?_
    refine aw_icmp_geZ (tgt := 172) dX6_multiplies_50 (by decide) (by omega) (by omega) (fun hc_50 => ?_) (fun hc_50 => ?_)
    · exact absurd hc_50 (by omega)
    · refine aw_aload_n dX6_multiplies_53 (by rfl) (Or.inr ⟨_, rfl⟩) ?_
      refine aw_get fX6_8 dX6_multiplies_54 hmo (by rfl) ?_
      refine aw_bipushZ dX6_multiplies_57 (by decide) ?_
      refine aw_iload_n dX6_multiplies_59 (by rfl) ?_
      refine aw_imulZ dX6_multiplies_60 ?_
      refine aw_iload dX6_multiplies_61 (by rfl) ?_
      refine aw_iaddZ dX6_multiplies_63 ?_
      refine aw_ialdZ (100 * a + i) dX6_multiplies_64 hA.1 (by omega) (by omega) (by omega) ?_
      refine aw_i2lZ dX6_multiplies_65 (by have := hFa i (by omega); unfold dg at this; omega) ?_
      refine aw_lstore dX6_multiplies_66 (by decide) ?_
      refine aw_lconstZ (z := 0) dX6_multiplies_68 (by decide) ?_
      refine aw_lstore dX6_multiplies_69 (by decide) ?_
      refine aw_iconstZ dX6_multiplies_71 ?_
      refine aw_istore dX6_multiplies_72 (by decide) ?_
      refine aw_pk [10, 8, 6, 5, 4, 0, 1, 2, 3] (by rfl) ?_
      exact mu_in d (x := dg D a i) hn he (by omega) hne hFe (hFa i (by omega)) J147 ne 0 (by omega) hmo hA hV hR hZ (by omega) (by simp only [mg, Int.mul_zero, Int.zero_mul, Int.add_zero]; exact hE)
theorem mu_copy (d : Nat) {g : GX} {mo sz : Nat} {rk kn ar ac : Int} {D0 R LN SG O2 : Nat → Int} {V0 : AH} {a e c n L : Nat} {s : Int} {Q : AQ} (hn : n ≤ 200) (hc : c < 460) (hL : L = min n 100)
    (hKK : ∀ {V : AH} {D : Nat → Int}, V mo = some (moO mo rk kn ar ac) → MA g mo V D LN SG R O2 → (∀ q, ¬ EN mo q → V q = V0 q) → (∀ q, q < 100 * c ∨ 100 * c + 100 ≤ q → D q = D0 q) → (∀ q, q < L → dg D c q = R q) → AW g mX6_multiplies d 230 [(5, .int (iZ s)), (4, .int (iZ n)), (0, .ref mo), (1, .int (iZ a)), (2, .int (iZ e)), (3, .int (iZ c))] [] V sz Q) : ∀ (y k : Nat), k + y = L → ∀ {V : AH} {D : Nat → Int}, V mo = some (moO mo rk kn ar ac) → MA g mo V D LN SG R O2 → (∀ q, ¬ EN mo q → V q = V0 q) → (∀ q, q < 100 * c ∨ 100 * c + 100 ≤ q → D q = D0 q) → (∀ q, q < k → dg D c q = R q) → AW g mX6_multiplies d 190 [(6, .int (iZ k)), (5, .int (iZ s)), (4, .int (iZ n)), (0, .ref mo), (1, .int (iZ a)), (2, .int (iZ e)), (3, .int (iZ c))] [] V sz Q
  | 0, k, hy, V, D, hmo, hA, hV, hD, hK => by
    refine aw_iload dX6_multiplies_190 (by rfl) ?_
    refine aw_iload dX6_multiplies_192 (by rfl) ?_
    refine aw_icmp_geZ (tgt := 230) dX6_multiplies_194 (by decide) (by omega) (by omega) (fun hc_194 => ?_) (fun hc_194 => ?_)
    · obtain rfl : k = L := by omega
      exact aw_pk [5, 4, 0, 1, 2, 3] (by rfl) (hKK hmo hA hV hD hK)
    · refine aw_iload dX6_multiplies_197 (by rfl) ?_
      refine aw_bipushZ dX6_multiplies_199 (by decide) ?_
      refine aw_icmp_geZ (tgt := 230) dX6_multiplies_201 (by decide) (by omega) (by omega) (fun hc_201 => ?_) (fun hc_201 => ?_)
      · obtain rfl : k = L := by omega
        exact aw_pk [5, 4, 0, 1, 2, 3] (by rfl) (hKK hmo hA hV hD hK)
      · exact absurd hc_201 (by omega)
  | y + 1, k, hy, V, D, hmo, hA, hV, hD, hK => by
    have IH := fun k hk => @mu_copy d g mo sz rk kn ar ac D0 R LN SG O2 V0 a e c n L s Q hn hc hL hKK y k hk
    clear hKK
    refine aw_iload dX6_multiplies_190 (by rfl) ?_
    refine aw_iload dX6_multiplies_192 (by rfl) ?_
    refine aw_icmp_geZ (tgt := 230) dX6_multiplies_194 (by decide) (by omega) (by omega) (fun hc_194 => ?_) (fun hc_194 => ?_)
    · exact absurd hc_194 (by omega)
    · refine aw_iload dX6_multiplies_197 (by rfl) ?_
      refine aw_bipushZ dX6_multiplies_199 (by decide) ?_
      refine aw_icmp_geZ (tgt := 230) dX6_multiplies_201 (by decide) (by omega) (by omega) (fun hc_201 => ?_) (fun hc_201 => ?_)
      · exact absurd hc_201 (by omega)
      · refine aw_aload_n dX6_multiplies_204 (by rfl) (Or.inr ⟨_, rfl⟩) ?_
        refine aw_get fX6_8 dX6_multiplies_205 hmo (by rfl) ?_
        refine aw_bipushZ dX6_multiplies_208 (by decide) ?_
        refine aw_iload_n dX6_multiplies_210 (by rfl) ?_
        refine aw_imulZ dX6_multiplies_211 ?_
        refine aw_iload dX6_multiplies_212 (by rfl) ?_
        refine aw_iaddZ dX6_multiplies_214 ?_
        refine aw_aload_n dX6_multiplies_215 (by rfl) (Or.inr ⟨_, rfl⟩) ?_
        refine aw_get fX6_20 dX6_multiplies_216 hmo (by rfl) ?_
        refine aw_iload dX6_multiplies_219 (by rfl) ?_
        refine aw_laldZ (k) dX6_multiplies_221 hA.2.2.2.1 (by omega) (by omega) (by omega) ?_
        refine aw_l2iZ dX6_multiplies_222 ?_
        refine aw_iastZ (100 * c + k) dX6_multiplies_223 hA.1 (by omega) (by omega) (by omega) ?_
        refine aw_iincZ dX6_multiplies_224 (by rfl) (by decide) ?_
        refine aw_goto (tgt := 190) dX6_multiplies_227 (by decide) ?_
        rw [show ((k : Int) + 1) = ((k + 1 : Nat) : Int) by omega]
        refine aw_pk [6, 5, 4, 0, 1, 2, 3] (by rfl) ?_
        exact IH (k + 1) (by omega) ((AHu_ne (by omega)).trans hmo) hA.d (fun q hq => (AHu_ne (fun z => hq (by unfold EN; omega))).trans (hV q hq)) (fun q hq => by rw [upF_ne _ _ (by omega)]; exact hD q hq) (fun q hq => by
          show upF D (100 * c + k) (R k) (100 * c + q) = R q
          by_cases z : q = k
          · rw [z, upF_self]
          · rw [upF_ne _ _ (by omega)]; exact hK q (by omega))
theorem m_multiplies (g : GX) (d : Nat) {V : AH} {mo sz a e c : Nat} {zs : Nat → Int} (hm : moV mo V) (h : MN g mo V zs) (ha : a < 460) (he : e < 460) (hc : c < 460) (hzb : SmM (zs a * zs e)) : AMet g mX6_multiplies (d + 1) [.ref mo, .int (iZ a), .int (iZ e), .int (iZ c)] V sz (VX V sz (EN mo) (fun q V' => none = q ∧ MN g mo V' (upF zs c (zs a * zs e)))) := by
  obtain ⟨rk, kn, ar, ac, hmo⟩ := hm
  obtain ⟨D, LN, SG, O1, O2, hA, h0⟩ := h
  obtain ⟨na, a1, a2, a3, a4, a5, a6⟩ := h0 a ha
  obtain ⟨ne, b1, b2, b3, b4, b5, b6⟩ := h0 e he
  obtain ⟨n, hn⟩ : ∃ n, na + ne = n := ⟨_, rfl⟩
  have J230 : ∀ {R : Nat → Int} {W : AH} {D2 : Nat → Int}, (∀ q, q < n → 0 ≤ R q ∧ R q < 268435456) → mg 268435456 R (min n 100) = ((zs a * zs e).natAbs : Int) → W mo = some (moO mo rk kn ar ac) → MA g mo W D2 LN SG R O2 → (∀ q, q < 100 * c ∨ 100 * c + 100 ≤ q → D2 q = D q) → (∀ q, q < min n 100 → dg D2 c q = R q) → AW g mX6_multiplies (d + 1) 230 [(5, .int (iZ (zs a * zs e).sign)), (4, .int (iZ n)), (0, .ref mo), (1, .int (iZ a)), (2, .int (iZ e)), (3, .int (iZ c))] [] W sz (VX W sz (EN mo) (fun q V' => none = q ∧ MN g mo V' (upF zs c (zs a * zs e)))) := fun {R W D2} hR hz0 hmo hA hD hK => by
    have hz : mg 268435456 (dg D2 c) (min n 100) = ((zs a * zs e).natAbs : Int) := by rw [mg_congr hK]; exact hz0
    refine aw_aload_n dX6_multiplies_230 (by rfl) (Or.inr ⟨_, rfl⟩) ?_
    refine aw_iload_n dX6_multiplies_231 (by rfl) ?_
    refine aw_iload dX6_multiplies_232 (by rfl) ?_
    refine aw_bipushZ dX6_multiplies_234 (by decide) ?_
    refine aw_icmp_geZ (tgt := 244) dX6_multiplies_236 (by decide) (by omega) (by omega) (fun hc_236 => ?_) (fun hc_236 => ?_)
    · refine aw_bipushZ dX6_multiplies_244 (by decide) ?_
      refine aw_topi (y := ((min n 100 : Nat) : Int)) (by omega) ?_
      refine aw_iload dX6_multiplies_246 (by rfl) ?_
      refine aw_callv vX6_79 dX6_multiplies_248 hmo (m_ends d (z := zs a * zs e) (s := (zs a * zs e).sign) (n := min n 100) hmo hA (fun q hq hne => (h0 q hq).kept (fun k hk => hD _ (by omega)) rfl rfl) hc (by omega) (fun k hk => by rw [hK k hk]; exact hR k (by omega)) hz (fun _ => rfl) (sgn_R _)) (by rfl) (by rfl) (by omega) (Nat.le_of_ble_eq_true rfl) ?_
      rintro _ V1 _ _ _ ⟨rfl, rfl, rfl, hE, rfl, hM⟩ -
      refine VX.call hE ?_
      refine aw_ret dX6_multiplies_251 rfl ?_
      exact VX.ret ⟨rfl, hM⟩
    · refine aw_iload dX6_multiplies_239 (by rfl) ?_
      refine aw_goto (tgt := 246) dX6_multiplies_241 (by decide) ?_
      refine aw_topi (y := ((min n 100 : Nat) : Int)) (by omega) ?_
      refine aw_iload dX6_multiplies_246 (by rfl) ?_
      refine aw_callv vX6_79 dX6_multiplies_248 hmo (m_ends d (z := zs a * zs e) (s := (zs a * zs e).sign) (n := min n 100) hmo hA (fun q hq hne => (h0 q hq).kept (fun k hk => hD _ (by omega)) rfl rfl) hc (by omega) (fun k hk => by rw [hK k hk]; exact hR k (by omega)) hz (fun _ => rfl) (sgn_R _)) (by rfl) (by rfl) (by omega) (Nat.le_of_ble_eq_true rfl) ?_
      rintro _ V1 _ _ _ ⟨rfl, rfl, rfl, hE, rfl, hM⟩ -
      refine VX.call hE ?_
      refine aw_ret dX6_multiplies_251 rfl ?_
      exact VX.ret ⟨rfl, hM⟩
  have J172 : ∀ {W : AH} {R : Nat → Int}, W mo = some (moO mo rk kn ar ac) → MA g mo W D LN SG R O2 → (∀ q, ¬ EN mo q → W q = V q) → (∀ q, q < n → 0 ≤ R q ∧ R q < 268435456) → mg 268435456 R n = mg 268435456 (dg D a) na * mg 268435456 (dg D e) ne → AW g mX6_multiplies (d + 1) 172 [(4, .int (iZ n)), (0, .ref mo), (1, .int (iZ a)), (2, .int (iZ e)), (3, .int (iZ c))] [] W sz (VX V sz (EN mo) (fun q V' => none = q ∧ MN g mo V' (upF zs c (zs a * zs e)))) := fun {W R} hmo hA hV hR hE => by
    have hz : mg 268435456 R (min n 100) = ((zs a * zs e).natAbs : Int) := by
      rw [a5, b5] at hE
      have e1 : ((zs a * zs e).natAbs : Int) = ((zs a).natAbs : Int) * ((zs e).natAbs : Int) := by rw [Int.natAbs_mul]; exact Int.natCast_mul _ _
      rw [e1, ← hE]
      by_cases z : n ≤ 100
      · rw [show min n 100 = n by omega]
      · have h2 : ((zs a * zs e).natAbs : Int) < 268435456 ^ 100 := hzb
        rw [e1, ← hE] at h2
        obtain ⟨j, rfl⟩ : ∃ j, n = 100 + j := ⟨n - 100, by omega⟩
        rw [show min (100 + j) 100 = 100 by omega]
        exact (mg_cut j hR h2).symm
    refine aw_aload_n dX6_multiplies_172 (by rfl) (Or.inr ⟨_, rfl⟩) ?_
    refine aw_get fX6_17 dX6_multiplies_173 hmo (by rfl) ?_
    refine aw_iload_n dX6_multiplies_176 (by rfl) ?_
    refine aw_ialdZ (a) dX6_multiplies_177 hA.2.2.1 (by omega) (by omega) (by omega) ?_
    refine aw_aload_n dX6_multiplies_178 (by rfl) (Or.inr ⟨_, rfl⟩) ?_
    refine aw_get fX6_17 dX6_multiplies_179 hmo (by rfl) ?_
    refine aw_iload_n dX6_multiplies_182 (by rfl) ?_
    refine aw_ialdZ (e) dX6_multiplies_183 hA.2.2.1 (by omega) (by omega) (by omega) ?_
    refine aw_imulZ dX6_multiplies_184 ?_
    refine aw_topi (y := (zs a * zs e).sign) (by rw [a3, b3, Int.sign_mul]) ?_
    refine aw_istore dX6_multiplies_185 (by decide) ?_
    refine aw_iconstZ dX6_multiplies_187 ?_
    refine aw_istore dX6_multiplies_188 (by decide) ?_
    refine aw_pk [6, 5, 4, 0, 1, 2, 3] (by rfl) ?_
    exact mu_copy (d + 1) (V0 := V) (D0 := D) (by omega) hc rfl (fun {V2 D2} k1 k2 k3 k4 k5 => VX.stp k3 (J230 hR hz k1 k2 k4 k5)) (min n 100) 0 (by omega) hmo hA hV (fun _ _ => rfl) (fun q hq => absurd hq (by omega))
  have J39 : ∀ {W : AH} {R : Nat → Int}, W mo = some (moO mo rk kn ar ac) → MA g mo W D LN SG R O2 → (∀ q, ¬ EN mo q → W q = V q) → (∀ q, q < n → R q = 0) → AW g mX6_multiplies (d + 1) 39 [(4, .int (iZ n)), (0, .ref mo), (1, .int (iZ a)), (2, .int (iZ e)), (3, .int (iZ c))] [] W sz (VX V sz (EN mo) (fun q V' => none = q ∧ MN g mo V' (upF zs c (zs a * zs e)))) := fun {W R} hmo hA hV hZ => by
    refine aw_iconstZ dX6_multiplies_39 ?_
    refine aw_istore dX6_multiplies_40 (by decide) ?_
    refine aw_pk [5, 4, 0, 1, 2, 3] (by rfl) ?_
    exact mu_out (d + 1) (V0 := V) (by omega) ha he hn ⟨a1, a2⟩ ⟨b1, b2⟩ a4 b4 (fun {V2 R2} k1 k2 k3 k4 k5 => J172 k1 k2 k3 k4 k5) na 0 (by omega) hmo hA hV (fun q hq => by rw [hZ q hq]; omega) (fun q _ h2 => hZ q h2) (by rw [mg_all0 hZ]; simp [mg])
  refine AMet.of rfl rfl (Nat.le_of_ble_eq_true rfl) ?_
  show AW g mX6_multiplies (d + 1) 0 [(0, .ref mo), (1, .int (iZ a)), (2, .int (iZ e)), (3, .int (iZ c))] [] V sz _
  refine aw_aload_n dX6_multiplies_0 (by rfl) (Or.inr ⟨_, rfl⟩) ?_
  refine aw_get fX6_14 dX6_multiplies_1 hmo (by rfl) ?_
  refine aw_iload_n dX6_multiplies_4 (by rfl) ?_
  refine aw_ialdZ (a) dX6_multiplies_5 hA.2.1 (by omega) (by omega) (by omega) ?_
  refine aw_aload_n dX6_multiplies_6 (by rfl) (Or.inr ⟨_, rfl⟩) ?_
  refine aw_get fX6_14 dX6_multiplies_7 hmo (by rfl) ?_
  refine aw_iload_n dX6_multiplies_10 (by rfl) ?_
  refine aw_ialdZ (e) dX6_multiplies_11 hA.2.1 (by omega) (by omega) (by omega) ?_
  refine aw_iaddZ dX6_multiplies_12 ?_
  refine aw_topi (y := (n : Int)) (by omega) ?_
  refine aw_istore dX6_multiplies_13 (by decide) ?_
  refine aw_iconstZ dX6_multiplies_15 ?_
  refine aw_istore dX6_multiplies_16 (by decide) ?_
  refine aw_pk [5, 4, 0, 1, 2, 3] (by rfl) ?_
  exact mu_zero (d + 1) (V0 := V) (by omega) (fun {V1 R1} k1 k2 k3 k4 => J39 k1 k2 k3 k4) n 0 (by omega) hmo hA (fun _ _ => rfl) (fun q hq => absurd hq (by omega))

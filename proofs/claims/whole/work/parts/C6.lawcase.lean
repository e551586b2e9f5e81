/-! ===== the law's cases ===== -/
theorem spl_uq {A : ASt} {i j q q2 : Int} (h : spLen A i j q) (k : spLen A i j q2) : q = q2 := by
  rcases h with ⟨n, a, c, h1, h2, h3, h4, h5, h6⟩ | ⟨h1, h2⟩
  · rcases k with ⟨n', a', c', k1, k2, k3, k4, k5, k6⟩ | ⟨k1, k2⟩
    · obtain rfl := natc h1 k1
      obtain rfl := natc h2 k2
      rw [h6, k6, h5.uniq k5]
    · exact absurd (by show 0 ≤ i ∧ i < A.h ∧ 0 ≤ j ∧ j < A.w; omega) k1
  · rcases k with ⟨n', a', c', k1, k2, k3, k4, k5, k6⟩ | ⟨k1, k2⟩
    · exact absurd (by show 0 ≤ i ∧ i < A.h ∧ 0 ≤ j ∧ j < A.w; omega) h1
    · rw [h2, k2]
theorem r5_all {p qq r s e : Int} (h1 : R32 p) (h2 : R32 qq) (h3 : R32 r) (h4 : R32 s) (h5 : R32 e) (k : Nat) : R32 (ar5 p qq r s e k) := by
  unfold ar5
  repeat' split
  all_goals assumption
theorem dL_law_160 : decode cL_law 160 = .ok (.aload_n 1, 1) := by decide +kernel
theorem dL_law_161 : decode cL_law 161 = .ok (.aload_n 0, 1) := by decide +kernel
theorem dL_law_162 : decode cL_law 162 = .ok (.iload_n 3, 1) := by decide +kernel
theorem dL_law_163 : decode cL_law 163 = .ok (.iconst 1, 1) := by decide +kernel
theorem dL_law_164 : decode cL_law 164 = .ok (.iadd, 1) := by decide +kernel
theorem dL_law_165 : decode cL_law 165 = .ok (.iaload, 1) := by decide +kernel
theorem dL_law_166 : decode cL_law 166 = .ok (.aload_n 0, 1) := by decide +kernel
theorem dL_law_167 : decode cL_law 167 = .ok (.iload_n 3, 1) := by decide +kernel
theorem dL_law_168 : decode cL_law 168 = .ok (.iconst 2, 1) := by decide +kernel
theorem dL_law_169 : decode cL_law 169 = .ok (.iadd, 1) := by decide +kernel
theorem dL_law_170 : decode cL_law 170 = .ok (.iaload, 1) := by decide +kernel
theorem dL_law_171 : decode cL_law 171 = .ok (.aload_n 0, 1) := by decide +kernel
theorem dL_law_172 : decode cL_law 172 = .ok (.iload_n 3, 1) := by decide +kernel
theorem dL_law_173 : decode cL_law 173 = .ok (.iconst 3, 1) := by decide +kernel
theorem dL_law_174 : decode cL_law 174 = .ok (.iadd, 1) := by decide +kernel
theorem dL_law_175 : decode cL_law 175 = .ok (.iaload, 1) := by decide +kernel
theorem dL_law_176 : decode cL_law 176 = .ok (.invokevirtual 13, 3) := by decide +kernel
theorem dL_law_179 : decode cL_law 179 = .ok (.aload_n 2, 1) := by decide +kernel
theorem dL_law_180 : decode cL_law 180 = .ok (.aload_n 0, 1) := by decide +kernel
theorem dL_law_181 : decode cL_law 181 = .ok (.iload_n 3, 1) := by decide +kernel
theorem dL_law_182 : decode cL_law 182 = .ok (.iconst 1, 1) := by decide +kernel
theorem dL_law_183 : decode cL_law 183 = .ok (.iadd, 1) := by decide +kernel
theorem dL_law_184 : decode cL_law 184 = .ok (.iaload, 1) := by decide +kernel
theorem dL_law_185 : decode cL_law 185 = .ok (.aload_n 0, 1) := by decide +kernel
theorem dL_law_186 : decode cL_law 186 = .ok (.iload_n 3, 1) := by decide +kernel
theorem dL_law_187 : decode cL_law 187 = .ok (.iconst 2, 1) := by decide +kernel
theorem dL_law_188 : decode cL_law 188 = .ok (.iadd, 1) := by decide +kernel
theorem dL_law_189 : decode cL_law 189 = .ok (.iaload, 1) := by decide +kernel
theorem dL_law_190 : decode cL_law 190 = .ok (.aload_n 0, 1) := by decide +kernel
theorem dL_law_191 : decode cL_law 191 = .ok (.iload_n 3, 1) := by decide +kernel
theorem dL_law_192 : decode cL_law 192 = .ok (.iconst 3, 1) := by decide +kernel
theorem dL_law_193 : decode cL_law 193 = .ok (.iadd, 1) := by decide +kernel
theorem dL_law_194 : decode cL_law 194 = .ok (.iaload, 1) := by decide +kernel
theorem dL_law_195 : decode cL_law 195 = .ok (.invokevirtual 17, 3) := by decide +kernel
theorem dL_law_198 : decode cL_law 198 = .ok (.if_icmp .eq 966, 3) := by decide +kernel
theorem dL_law_201 : decode cL_law 201 = .ok (.iconst 0, 1) := by decide +kernel
theorem dL_law_202 : decode cL_law 202 = .ok (.ireturn, 1) := by decide +kernel
theorem lw_q_table {S : TSt} {A : ASt} {t r c : Int} : IQ (fun q S' A' => A' = A ∧ ((0 ≤ t ∧ t < 12 ∧ 1 ≤ r ∧ r ≤ 5 ∧ 1 ≤ c ∧ c ≤ 5) ∧ some (.int (iZ 1)) = q ∧ S' = upT S t.toNat r.toNat c.toNat (z25 (S.N t.toNat)) (z5 (S.H t.toNat)) ∨ ¬ (0 ≤ t ∧ t < 12 ∧ 1 ≤ r ∧ r ≤ 5 ∧ 1 ≤ c ∧ c ≤ 5) ∧ some (.int (iZ 0)) = q ∧ S' = S)) := by
  rintro q S1 A1 (⟨-, ⟨-, h, -⟩ | ⟨-, h, -⟩⟩)
  · exact ⟨_, h⟩
  · exact ⟨_, h⟩
theorem lw_k_table {g : GX} {nm : String} {sb Ls b i : Nat} {xs : Nat → Int32} {V : AH} {sz : Nat} {Z : Nat → Int} {P L : Nat → Nat} {zs : Nat → Int} {S : TSt} {A : ASt} (hL : Ls ≤ 4096) (hi : i + 8 ≤ Ls) (h : LI g b V sz Z P L zs S A) (nx : Lnx g nm sb Ls xs b i) : AW g (mLw nm sb Ls xs) 13 160 (lwv sb b i) [] V sz (LwQ b L) := by
  have hb := h.2.1.1.1
  obtain ⟨rk, kn, hm⟩ := h.2.2.1
  refine aw_aload_n dL_law_160 (by rfl) (Or.inr ⟨_, rfl⟩) ?_
  refine aw_aload_n dL_law_161 (by rfl) (Or.inr ⟨_, rfl⟩) ?_
  refine aw_iload_n dL_law_162 (by rfl) ?_
  refine aw_iconstZ dL_law_163 ?_
  refine aw_iaddZ dL_law_164 ?_
  refine aw_sld (i + 1) dL_law_165 (by omega) (by omega) (by omega) ?_
  refine aw_aload_n dL_law_166 (by rfl) (Or.inr ⟨_, rfl⟩) ?_
  refine aw_iload_n dL_law_167 (by rfl) ?_
  refine aw_iconstZ dL_law_168 ?_
  refine aw_iaddZ dL_law_169 ?_
  refine aw_sld (i + 2) dL_law_170 (by omega) (by omega) (by omega) ?_
  refine aw_aload_n dL_law_171 (by rfl) (Or.inr ⟨_, rfl⟩) ?_
  refine aw_iload_n dL_law_172 (by rfl) ?_
  refine aw_iconstZ dL_law_173 ?_
  refine aw_iaddZ dL_law_174 ?_
  refine aw_sld (i + 3) dL_law_175 (by omega) (by omega) (by omega) ?_
  refine aw_callv vL_13 dL_law_176 hb (c_table 10 h.1 h.2.1 (xz_R xs (i + 1)) (xz_R xs (i + 2)) (xz_R xs (i + 3))) (by rfl) (by rfl) (by omega) (Nat.le_of_ble_eq_true rfl) ?_
  rintro r1 V1 sz1 mc1 ms1 ⟨Z1, P1, L1, ⟨S1, A1, hC1, hR1⟩, hW1⟩ -
  have hX1 := lw_rx h hW1
  obtain ⟨rk1, kn1, hm1⟩ := hX1.1
  obtain ⟨x1, rfl⟩ := lw_q_table _ _ _ hR1
  refine aw_aload_n dL_law_179 (by rfl) (Or.inr ⟨_, rfl⟩) ?_
  refine aw_aload_n dL_law_180 (by rfl) (Or.inr ⟨_, rfl⟩) ?_
  refine aw_iload_n dL_law_181 (by rfl) ?_
  refine aw_iconstZ dL_law_182 ?_
  refine aw_iaddZ dL_law_183 ?_
  refine aw_sld (i + 1) dL_law_184 (by omega) (by omega) (by omega) ?_
  refine aw_aload_n dL_law_185 (by rfl) (Or.inr ⟨_, rfl⟩) ?_
  refine aw_iload_n dL_law_186 (by rfl) ?_
  refine aw_iconstZ dL_law_187 ?_
  refine aw_iaddZ dL_law_188 ?_
  refine aw_sld (i + 2) dL_law_189 (by omega) (by omega) (by omega) ?_
  refine aw_aload_n dL_law_190 (by rfl) (Or.inr ⟨_, rfl⟩) ?_
  refine aw_iload_n dL_law_191 (by rfl) ?_
  refine aw_iconstZ dL_law_192 ?_
  refine aw_iaddZ dL_law_193 ?_
  refine aw_sld (i + 3) dL_law_194 (by omega) (by omega) (by omega) ?_
  refine aw_callv vL_17 dL_law_195 hm1 (m_table g 11 hX1 (xz_R xs (i + 1)) (xz_R xs (i + 2)) (xz_R xs (i + 3))) (by rfl) (by rfl) (by omega) (Nat.le_of_ble_eq_true rfl) ?_
  rintro r2 V2 sz2 mc2 ms2 ⟨rfl, rfl, rfl, hV2, z2, S2, A2, hX2, hR2⟩ -
  obtain ⟨x2, e1, rfl, hL2⟩ := lw_two uq_table lw_q_table hW1 hC1 hR1 hV2 hX2 hR2
  cases e1
  refine aw_icmp_eq (tgt := 1164) dL_law_198 (by decide) (fun _ => ?_) (fun q => absurd rfl q)
  exact lw_cls nx hL2 hW1.2.2.2.2.1 hW1.2.2.2.2.2 (fun _ _ _ _ _ q => q)
theorem dL_law_203 : decode cL_law 203 = .ok (.aload_n 1, 1) := by decide +kernel
theorem dL_law_204 : decode cL_law 204 = .ok (.aload_n 0, 1) := by decide +kernel
theorem dL_law_205 : decode cL_law 205 = .ok (.iload_n 3, 1) := by decide +kernel
theorem dL_law_206 : decode cL_law 206 = .ok (.iconst 1, 1) := by decide +kernel
theorem dL_law_207 : decode cL_law 207 = .ok (.iadd, 1) := by decide +kernel
theorem dL_law_208 : decode cL_law 208 = .ok (.iaload, 1) := by decide +kernel
theorem dL_law_209 : decode cL_law 209 = .ok (.aload_n 0, 1) := by decide +kernel
theorem dL_law_210 : decode cL_law 210 = .ok (.iload_n 3, 1) := by decide +kernel
theorem dL_law_211 : decode cL_law 211 = .ok (.iconst 2, 1) := by decide +kernel
theorem dL_law_212 : decode cL_law 212 = .ok (.iadd, 1) := by decide +kernel
theorem dL_law_213 : decode cL_law 213 = .ok (.iaload, 1) := by decide +kernel
theorem dL_law_214 : decode cL_law 214 = .ok (.aload_n 0, 1) := by decide +kernel
theorem dL_law_215 : decode cL_law 215 = .ok (.iload_n 3, 1) := by decide +kernel
theorem dL_law_216 : decode cL_law 216 = .ok (.iconst 3, 1) := by decide +kernel
theorem dL_law_217 : decode cL_law 217 = .ok (.iadd, 1) := by decide +kernel
theorem dL_law_218 : decode cL_law 218 = .ok (.iaload, 1) := by decide +kernel
theorem dL_law_219 : decode cL_law 219 = .ok (.aload_n 0, 1) := by decide +kernel
theorem dL_law_220 : decode cL_law 220 = .ok (.iload_n 3, 1) := by decide +kernel
theorem dL_law_221 : decode cL_law 221 = .ok (.iconst 4, 1) := by decide +kernel
theorem dL_law_222 : decode cL_law 222 = .ok (.iadd, 1) := by decide +kernel
theorem dL_law_223 : decode cL_law 223 = .ok (.iaload, 1) := by decide +kernel
theorem dL_law_224 : decode cL_law 224 = .ok (.aload_n 0, 1) := by decide +kernel
theorem dL_law_225 : decode cL_law 225 = .ok (.iload_n 3, 1) := by decide +kernel
theorem dL_law_226 : decode cL_law 226 = .ok (.iconst 5, 1) := by decide +kernel
theorem dL_law_227 : decode cL_law 227 = .ok (.iadd, 1) := by decide +kernel
theorem dL_law_228 : decode cL_law 228 = .ok (.iaload, 1) := by decide +kernel
theorem dL_law_229 : decode cL_law 229 = .ok (.aload_n 0, 1) := by decide +kernel
theorem dL_law_230 : decode cL_law 230 = .ok (.iload_n 3, 1) := by decide +kernel
theorem dL_law_231 : decode cL_law 231 = .ok (.bipush 6, 2) := by decide +kernel
theorem dL_law_233 : decode cL_law 233 = .ok (.iadd, 1) := by decide +kernel
theorem dL_law_234 : decode cL_law 234 = .ok (.iaload, 1) := by decide +kernel
theorem dL_law_235 : decode cL_law 235 = .ok (.aload_n 0, 1) := by decide +kernel
theorem dL_law_236 : decode cL_law 236 = .ok (.iload_n 3, 1) := by decide +kernel
theorem dL_law_237 : decode cL_law 237 = .ok (.bipush 7, 2) := by decide +kernel
theorem dL_law_239 : decode cL_law 239 = .ok (.iadd, 1) := by decide +kernel
theorem dL_law_240 : decode cL_law 240 = .ok (.iaload, 1) := by decide +kernel
theorem dL_law_241 : decode cL_law 241 = .ok (.invokevirtual 18, 3) := by decide +kernel
theorem dL_law_244 : decode cL_law 244 = .ok (.aload_n 2, 1) := by decide +kernel
theorem dL_law_245 : decode cL_law 245 = .ok (.aload_n 0, 1) := by decide +kernel
theorem dL_law_246 : decode cL_law 246 = .ok (.iload_n 3, 1) := by decide +kernel
theorem dL_law_247 : decode cL_law 247 = .ok (.iconst 1, 1) := by decide +kernel
theorem dL_law_248 : decode cL_law 248 = .ok (.iadd, 1) := by decide +kernel
theorem dL_law_249 : decode cL_law 249 = .ok (.iaload, 1) := by decide +kernel
theorem dL_law_250 : decode cL_law 250 = .ok (.aload_n 0, 1) := by decide +kernel
theorem dL_law_251 : decode cL_law 251 = .ok (.iload_n 3, 1) := by decide +kernel
theorem dL_law_252 : decode cL_law 252 = .ok (.iconst 2, 1) := by decide +kernel
theorem dL_law_253 : decode cL_law 253 = .ok (.iadd, 1) := by decide +kernel
theorem dL_law_254 : decode cL_law 254 = .ok (.iaload, 1) := by decide +kernel
theorem dL_law_255 : decode cL_law 255 = .ok (.aload_n 0, 1) := by decide +kernel
theorem dL_law_256 : decode cL_law 256 = .ok (.iload_n 3, 1) := by decide +kernel
theorem dL_law_257 : decode cL_law 257 = .ok (.iconst 3, 1) := by decide +kernel
theorem dL_law_258 : decode cL_law 258 = .ok (.iadd, 1) := by decide +kernel
theorem dL_law_259 : decode cL_law 259 = .ok (.iaload, 1) := by decide +kernel
theorem dL_law_260 : decode cL_law 260 = .ok (.aload_n 0, 1) := by decide +kernel
theorem dL_law_261 : decode cL_law 261 = .ok (.iload_n 3, 1) := by decide +kernel
theorem dL_law_262 : decode cL_law 262 = .ok (.iconst 4, 1) := by decide +kernel
theorem dL_law_263 : decode cL_law 263 = .ok (.iadd, 1) := by decide +kernel
theorem dL_law_264 : decode cL_law 264 = .ok (.iaload, 1) := by decide +kernel
theorem dL_law_265 : decode cL_law 265 = .ok (.aload_n 0, 1) := by decide +kernel
theorem dL_law_266 : decode cL_law 266 = .ok (.iload_n 3, 1) := by decide +kernel
theorem dL_law_267 : decode cL_law 267 = .ok (.iconst 5, 1) := by decide +kernel
theorem dL_law_268 : decode cL_law 268 = .ok (.iadd, 1) := by decide +kernel
theorem dL_law_269 : decode cL_law 269 = .ok (.iaload, 1) := by decide +kernel
theorem dL_law_270 : decode cL_law 270 = .ok (.aload_n 0, 1) := by decide +kernel
theorem dL_law_271 : decode cL_law 271 = .ok (.iload_n 3, 1) := by decide +kernel
theorem dL_law_272 : decode cL_law 272 = .ok (.bipush 6, 2) := by decide +kernel
theorem dL_law_274 : decode cL_law 274 = .ok (.iadd, 1) := by decide +kernel
theorem dL_law_275 : decode cL_law 275 = .ok (.iaload, 1) := by decide +kernel
theorem dL_law_276 : decode cL_law 276 = .ok (.aload_n 0, 1) := by decide +kernel
theorem dL_law_277 : decode cL_law 277 = .ok (.iload_n 3, 1) := by decide +kernel
theorem dL_law_278 : decode cL_law 278 = .ok (.bipush 7, 2) := by decide +kernel
theorem dL_law_280 : decode cL_law 280 = .ok (.iadd, 1) := by decide +kernel
theorem dL_law_281 : decode cL_law 281 = .ok (.iaload, 1) := by decide +kernel
theorem dL_law_282 : decode cL_law 282 = .ok (.invokevirtual 22, 3) := by decide +kernel
theorem dL_law_285 : decode cL_law 285 = .ok (.if_icmp .eq 879, 3) := by decide +kernel
theorem dL_law_288 : decode cL_law 288 = .ok (.iconst 0, 1) := by decide +kernel
theorem dL_law_289 : decode cL_law 289 = .ok (.ireturn, 1) := by decide +kernel
theorem lw_q_leaf {S : TSt} {A : ASt} {t i p qq r s e : Int} : IQ (fun q S' A' => A' = A ∧ ((0 ≤ t ∧ t < 12 ∧ 0 ≤ i ∧ i < S.r t.toNat ∧ ∀ k, k < S.c t.toNat → -1000 ≤ ar5 p qq r s e k ∧ ar5 p qq r s e k ≤ 1000) ∧ some (.int (iZ 1)) = q ∧ S' = upT S t.toNat (S.r t.toNat) (S.c t.toNat) (lfN (S.N t.toNat) i.toNat (S.c t.toNat) (ar5 p qq r s e)) (upF (S.H t.toNat) i.toNat 1) ∨ ¬ (0 ≤ t ∧ t < 12 ∧ 0 ≤ i ∧ i < S.r t.toNat ∧ ∀ k, k < S.c t.toNat → -1000 ≤ ar5 p qq r s e k ∧ ar5 p qq r s e k ≤ 1000) ∧ some (.int (iZ 0)) = q ∧ S' = S)) := by
  rintro q S1 A1 (⟨-, ⟨-, h, -⟩ | ⟨-, h, -⟩⟩)
  · exact ⟨_, h⟩
  · exact ⟨_, h⟩
theorem lw_k_leaf {g : GX} {nm : String} {sb Ls b i : Nat} {xs : Nat → Int32} {V : AH} {sz : Nat} {Z : Nat → Int} {P L : Nat → Nat} {zs : Nat → Int} {S : TSt} {A : ASt} (hL : Ls ≤ 4096) (hi : i + 8 ≤ Ls) (h : LI g b V sz Z P L zs S A) (nx : Lnx g nm sb Ls xs b i) : AW g (mLw nm sb Ls xs) 13 203 (lwv sb b i) [] V sz (LwQ b L) := by
  have hb := h.2.1.1.1
  obtain ⟨rk, kn, hm⟩ := h.2.2.1
  refine aw_aload_n dL_law_203 (by rfl) (Or.inr ⟨_, rfl⟩) ?_
  refine aw_aload_n dL_law_204 (by rfl) (Or.inr ⟨_, rfl⟩) ?_
  refine aw_iload_n dL_law_205 (by rfl) ?_
  refine aw_iconstZ dL_law_206 ?_
  refine aw_iaddZ dL_law_207 ?_
  refine aw_sld (i + 1) dL_law_208 (by omega) (by omega) (by omega) ?_
  refine aw_aload_n dL_law_209 (by rfl) (Or.inr ⟨_, rfl⟩) ?_
  refine aw_iload_n dL_law_210 (by rfl) ?_
  refine aw_iconstZ dL_law_211 ?_
  refine aw_iaddZ dL_law_212 ?_
  refine aw_sld (i + 2) dL_law_213 (by omega) (by omega) (by omega) ?_
  refine aw_aload_n dL_law_214 (by rfl) (Or.inr ⟨_, rfl⟩) ?_
  refine aw_iload_n dL_law_215 (by rfl) ?_
  refine aw_iconstZ dL_law_216 ?_
  refine aw_iaddZ dL_law_217 ?_
  refine aw_sld (i + 3) dL_law_218 (by omega) (by omega) (by omega) ?_
  refine aw_aload_n dL_law_219 (by rfl) (Or.inr ⟨_, rfl⟩) ?_
  refine aw_iload_n dL_law_220 (by rfl) ?_
  refine aw_iconstZ dL_law_221 ?_
  refine aw_iaddZ dL_law_222 ?_
  refine aw_sld (i + 4) dL_law_223 (by omega) (by omega) (by omega) ?_
  refine aw_aload_n dL_law_224 (by rfl) (Or.inr ⟨_, rfl⟩) ?_
  refine aw_iload_n dL_law_225 (by rfl) ?_
  refine aw_iconstZ dL_law_226 ?_
  refine aw_iaddZ dL_law_227 ?_
  refine aw_sld (i + 5) dL_law_228 (by omega) (by omega) (by omega) ?_
  refine aw_aload_n dL_law_229 (by rfl) (Or.inr ⟨_, rfl⟩) ?_
  refine aw_iload_n dL_law_230 (by rfl) ?_
  refine aw_bipushZ dL_law_231 (by decide) ?_
  refine aw_iaddZ dL_law_233 ?_
  refine aw_sld (i + 6) dL_law_234 (by omega) (by omega) (by omega) ?_
  refine aw_aload_n dL_law_235 (by rfl) (Or.inr ⟨_, rfl⟩) ?_
  refine aw_iload_n dL_law_236 (by rfl) ?_
  refine aw_bipushZ dL_law_237 (by decide) ?_
  refine aw_iaddZ dL_law_239 ?_
  refine aw_sld (i + 7) dL_law_240 (by omega) (by omega) (by omega) ?_
  refine aw_callv vL_18 dL_law_241 hb (c_leaf 10 h.1 h.2.1 (xz_R xs (i + 1)) (xz_R xs (i + 2)) (fun k => r5_all (xz_R xs (i + 3)) (xz_R xs (i + 4)) (xz_R xs (i + 5)) (xz_R xs (i + 6)) (xz_R xs (i + 7)) k)) (by rfl) (by rfl) (by omega) (Nat.le_of_ble_eq_true rfl) ?_
  rintro r1 V1 sz1 mc1 ms1 ⟨Z1, P1, L1, ⟨S1, A1, hC1, hR1⟩, hW1⟩ -
  have hX1 := lw_rx h hW1
  obtain ⟨rk1, kn1, hm1⟩ := hX1.1
  obtain ⟨x1, rfl⟩ := lw_q_leaf _ _ _ hR1
  refine aw_aload_n dL_law_244 (by rfl) (Or.inr ⟨_, rfl⟩) ?_
  refine aw_aload_n dL_law_245 (by rfl) (Or.inr ⟨_, rfl⟩) ?_
  refine aw_iload_n dL_law_246 (by rfl) ?_
  refine aw_iconstZ dL_law_247 ?_
  refine aw_iaddZ dL_law_248 ?_
  refine aw_sld (i + 1) dL_law_249 (by omega) (by omega) (by omega) ?_
  refine aw_aload_n dL_law_250 (by rfl) (Or.inr ⟨_, rfl⟩) ?_
  refine aw_iload_n dL_law_251 (by rfl) ?_
  refine aw_iconstZ dL_law_252 ?_
  refine aw_iaddZ dL_law_253 ?_
  refine aw_sld (i + 2) dL_law_254 (by omega) (by omega) (by omega) ?_
  refine aw_aload_n dL_law_255 (by rfl) (Or.inr ⟨_, rfl⟩) ?_
  refine aw_iload_n dL_law_256 (by rfl) ?_
  refine aw_iconstZ dL_law_257 ?_
  refine aw_iaddZ dL_law_258 ?_
  refine aw_sld (i + 3) dL_law_259 (by omega) (by omega) (by omega) ?_
  refine aw_aload_n dL_law_260 (by rfl) (Or.inr ⟨_, rfl⟩) ?_
  refine aw_iload_n dL_law_261 (by rfl) ?_
  refine aw_iconstZ dL_law_262 ?_
  refine aw_iaddZ dL_law_263 ?_
  refine aw_sld (i + 4) dL_law_264 (by omega) (by omega) (by omega) ?_
  refine aw_aload_n dL_law_265 (by rfl) (Or.inr ⟨_, rfl⟩) ?_
  refine aw_iload_n dL_law_266 (by rfl) ?_
  refine aw_iconstZ dL_law_267 ?_
  refine aw_iaddZ dL_law_268 ?_
  refine aw_sld (i + 5) dL_law_269 (by omega) (by omega) (by omega) ?_
  refine aw_aload_n dL_law_270 (by rfl) (Or.inr ⟨_, rfl⟩) ?_
  refine aw_iload_n dL_law_271 (by rfl) ?_
  refine aw_bipushZ dL_law_272 (by decide) ?_
  refine aw_iaddZ dL_law_274 ?_
  refine aw_sld (i + 6) dL_law_275 (by omega) (by omega) (by omega) ?_
  refine aw_aload_n dL_law_276 (by rfl) (Or.inr ⟨_, rfl⟩) ?_
  refine aw_iload_n dL_law_277 (by rfl) ?_
  refine aw_bipushZ dL_law_278 (by decide) ?_
  refine aw_iaddZ dL_law_280 ?_
  refine aw_sld (i + 7) dL_law_281 (by omega) (by omega) (by omega) ?_
  refine aw_callv vL_22 dL_law_282 hm1 (m_leaf g 10 hX1 (xz_R xs (i + 1)) (xz_R xs (i + 2)) (fun k => r5_all (xz_R xs (i + 3)) (xz_R xs (i + 4)) (xz_R xs (i + 5)) (xz_R xs (i + 6)) (xz_R xs (i + 7)) k)) (by rfl) (by rfl) (by omega) (Nat.le_of_ble_eq_true rfl) ?_
  rintro r2 V2 sz2 mc2 ms2 ⟨rfl, rfl, rfl, hV2, z2, S2, A2, hX2, hR2⟩ -
  obtain ⟨x2, e1, rfl, hL2⟩ := lw_two uq_leaf lw_q_leaf hW1 hC1 hR1 hV2 hX2 hR2
  cases e1
  refine aw_icmp_eq (tgt := 1164) dL_law_285 (by decide) (fun _ => ?_) (fun q => absurd rfl q)
  exact lw_cls nx hL2 hW1.2.2.2.2.1 hW1.2.2.2.2.2 (fun _ _ _ _ _ q => q)
theorem dL_law_290 : decode cL_law 290 = .ok (.aload_n 1, 1) := by decide +kernel
theorem dL_law_291 : decode cL_law 291 = .ok (.aload_n 0, 1) := by decide +kernel
theorem dL_law_292 : decode cL_law 292 = .ok (.iload_n 3, 1) := by decide +kernel
theorem dL_law_293 : decode cL_law 293 = .ok (.iconst 1, 1) := by decide +kernel
theorem dL_law_294 : decode cL_law 294 = .ok (.iadd, 1) := by decide +kernel
theorem dL_law_295 : decode cL_law 295 = .ok (.iaload, 1) := by decide +kernel
theorem dL_law_296 : decode cL_law 296 = .ok (.aload_n 0, 1) := by decide +kernel
theorem dL_law_297 : decode cL_law 297 = .ok (.iload_n 3, 1) := by decide +kernel
theorem dL_law_298 : decode cL_law 298 = .ok (.iconst 2, 1) := by decide +kernel
theorem dL_law_299 : decode cL_law 299 = .ok (.iadd, 1) := by decide +kernel
theorem dL_law_300 : decode cL_law 300 = .ok (.iaload, 1) := by decide +kernel
theorem dL_law_301 : decode cL_law 301 = .ok (.invokevirtual 23, 3) := by decide +kernel
theorem dL_law_304 : decode cL_law 304 = .ok (.aload_n 2, 1) := by decide +kernel
theorem dL_law_305 : decode cL_law 305 = .ok (.aload_n 0, 1) := by decide +kernel
theorem dL_law_306 : decode cL_law 306 = .ok (.iload_n 3, 1) := by decide +kernel
theorem dL_law_307 : decode cL_law 307 = .ok (.iconst 1, 1) := by decide +kernel
theorem dL_law_308 : decode cL_law 308 = .ok (.iadd, 1) := by decide +kernel
theorem dL_law_309 : decode cL_law 309 = .ok (.iaload, 1) := by decide +kernel
theorem dL_law_310 : decode cL_law 310 = .ok (.aload_n 0, 1) := by decide +kernel
theorem dL_law_311 : decode cL_law 311 = .ok (.iload_n 3, 1) := by decide +kernel
theorem dL_law_312 : decode cL_law 312 = .ok (.iconst 2, 1) := by decide +kernel
theorem dL_law_313 : decode cL_law 313 = .ok (.iadd, 1) := by decide +kernel
theorem dL_law_314 : decode cL_law 314 = .ok (.iaload, 1) := by decide +kernel
theorem dL_law_315 : decode cL_law 315 = .ok (.invokevirtual 27, 3) := by decide +kernel
theorem dL_law_318 : decode cL_law 318 = .ok (.if_icmp .eq 846, 3) := by decide +kernel
theorem dL_law_321 : decode cL_law 321 = .ok (.iconst 0, 1) := by decide +kernel
theorem dL_law_322 : decode cL_law 322 = .ok (.ireturn, 1) := by decide +kernel
theorem lw_q_tear {S : TSt} {A : ASt} {t i : Int} : IQ (fun q S' A' => A' = A ∧ ((0 ≤ t ∧ t < 12 ∧ 0 ≤ i ∧ i < S.r t.toNat) ∧ some (.int (iZ (S.H t.toNat i.toNat))) = q ∧ S' = upT S t.toNat (S.r t.toNat) (S.c t.toNat) (drN (S.N t.toNat) i.toNat 5) (upF (S.H t.toNat) i.toNat 0) ∨ ¬ (0 ≤ t ∧ t < 12 ∧ 0 ≤ i ∧ i < S.r t.toNat) ∧ some (.int (iZ 0)) = q ∧ S' = S)) := by
  rintro q S1 A1 (⟨-, ⟨-, h, -⟩ | ⟨-, h, -⟩⟩)
  · exact ⟨_, h⟩
  · exact ⟨_, h⟩
theorem lw_k_tear {g : GX} {nm : String} {sb Ls b i : Nat} {xs : Nat → Int32} {V : AH} {sz : Nat} {Z : Nat → Int} {P L : Nat → Nat} {zs : Nat → Int} {S : TSt} {A : ASt} (hL : Ls ≤ 4096) (hi : i + 8 ≤ Ls) (h : LI g b V sz Z P L zs S A) (nx : Lnx g nm sb Ls xs b i) : AW g (mLw nm sb Ls xs) 13 290 (lwv sb b i) [] V sz (LwQ b L) := by
  have hb := h.2.1.1.1
  obtain ⟨rk, kn, hm⟩ := h.2.2.1
  refine aw_aload_n dL_law_290 (by rfl) (Or.inr ⟨_, rfl⟩) ?_
  refine aw_aload_n dL_law_291 (by rfl) (Or.inr ⟨_, rfl⟩) ?_
  refine aw_iload_n dL_law_292 (by rfl) ?_
  refine aw_iconstZ dL_law_293 ?_
  refine aw_iaddZ dL_law_294 ?_
  refine aw_sld (i + 1) dL_law_295 (by omega) (by omega) (by omega) ?_
  refine aw_aload_n dL_law_296 (by rfl) (Or.inr ⟨_, rfl⟩) ?_
  refine aw_iload_n dL_law_297 (by rfl) ?_
  refine aw_iconstZ dL_law_298 ?_
  refine aw_iaddZ dL_law_299 ?_
  refine aw_sld (i + 2) dL_law_300 (by omega) (by omega) (by omega) ?_
  refine aw_callv vL_23 dL_law_301 hb (c_tear 10 h.1 h.2.1 (xz_R xs (i + 1)) (xz_R xs (i + 2))) (by rfl) (by rfl) (by omega) (Nat.le_of_ble_eq_true rfl) ?_
  rintro r1 V1 sz1 mc1 ms1 ⟨Z1, P1, L1, ⟨S1, A1, hC1, hR1⟩, hW1⟩ -
  have hX1 := lw_rx h hW1
  obtain ⟨rk1, kn1, hm1⟩ := hX1.1
  obtain ⟨x1, rfl⟩ := lw_q_tear _ _ _ hR1
  refine aw_aload_n dL_law_304 (by rfl) (Or.inr ⟨_, rfl⟩) ?_
  refine aw_aload_n dL_law_305 (by rfl) (Or.inr ⟨_, rfl⟩) ?_
  refine aw_iload_n dL_law_306 (by rfl) ?_
  refine aw_iconstZ dL_law_307 ?_
  refine aw_iaddZ dL_law_308 ?_
  refine aw_sld (i + 1) dL_law_309 (by omega) (by omega) (by omega) ?_
  refine aw_aload_n dL_law_310 (by rfl) (Or.inr ⟨_, rfl⟩) ?_
  refine aw_iload_n dL_law_311 (by rfl) ?_
  refine aw_iconstZ dL_law_312 ?_
  refine aw_iaddZ dL_law_313 ?_
  refine aw_sld (i + 2) dL_law_314 (by omega) (by omega) (by omega) ?_
  refine aw_callv vL_27 dL_law_315 hm1 (m_tear g 10 hX1 (xz_R xs (i + 1)) (xz_R xs (i + 2))) (by rfl) (by rfl) (by omega) (Nat.le_of_ble_eq_true rfl) ?_
  rintro r2 V2 sz2 mc2 ms2 ⟨rfl, rfl, rfl, hV2, z2, S2, A2, hX2, hR2⟩ -
  obtain ⟨x2, e1, rfl, hL2⟩ := lw_two uq_tear lw_q_tear hW1 hC1 hR1 hV2 hX2 hR2
  cases e1
  refine aw_icmp_eq (tgt := 1164) dL_law_318 (by decide) (fun _ => ?_) (fun q => absurd rfl q)
  exact lw_cls nx hL2 hW1.2.2.2.2.1 hW1.2.2.2.2.2 (fun _ _ _ _ _ q => q)
theorem dL_law_323 : decode cL_law 323 = .ok (.aload_n 1, 1) := by decide +kernel
theorem dL_law_324 : decode cL_law 324 = .ok (.aload_n 0, 1) := by decide +kernel
theorem dL_law_325 : decode cL_law 325 = .ok (.iload_n 3, 1) := by decide +kernel
theorem dL_law_326 : decode cL_law 326 = .ok (.iconst 1, 1) := by decide +kernel
theorem dL_law_327 : decode cL_law 327 = .ok (.iadd, 1) := by decide +kernel
theorem dL_law_328 : decode cL_law 328 = .ok (.iaload, 1) := by decide +kernel
theorem dL_law_329 : decode cL_law 329 = .ok (.aload_n 0, 1) := by decide +kernel
theorem dL_law_330 : decode cL_law 330 = .ok (.iload_n 3, 1) := by decide +kernel
theorem dL_law_331 : decode cL_law 331 = .ok (.iconst 2, 1) := by decide +kernel
theorem dL_law_332 : decode cL_law 332 = .ok (.iadd, 1) := by decide +kernel
theorem dL_law_333 : decode cL_law 333 = .ok (.iaload, 1) := by decide +kernel
theorem dL_law_334 : decode cL_law 334 = .ok (.aload_n 0, 1) := by decide +kernel
theorem dL_law_335 : decode cL_law 335 = .ok (.iload_n 3, 1) := by decide +kernel
theorem dL_law_336 : decode cL_law 336 = .ok (.iconst 3, 1) := by decide +kernel
theorem dL_law_337 : decode cL_law 337 = .ok (.iadd, 1) := by decide +kernel
theorem dL_law_338 : decode cL_law 338 = .ok (.iaload, 1) := by decide +kernel
theorem dL_law_339 : decode cL_law 339 = .ok (.invokevirtual 28, 3) := by decide +kernel
theorem dL_law_342 : decode cL_law 342 = .ok (.aload_n 2, 1) := by decide +kernel
theorem dL_law_343 : decode cL_law 343 = .ok (.aload_n 0, 1) := by decide +kernel
theorem dL_law_344 : decode cL_law 344 = .ok (.iload_n 3, 1) := by decide +kernel
theorem dL_law_345 : decode cL_law 345 = .ok (.iconst 1, 1) := by decide +kernel
theorem dL_law_346 : decode cL_law 346 = .ok (.iadd, 1) := by decide +kernel
theorem dL_law_347 : decode cL_law 347 = .ok (.iaload, 1) := by decide +kernel
theorem dL_law_348 : decode cL_law 348 = .ok (.aload_n 0, 1) := by decide +kernel
theorem dL_law_349 : decode cL_law 349 = .ok (.iload_n 3, 1) := by decide +kernel
theorem dL_law_350 : decode cL_law 350 = .ok (.iconst 2, 1) := by decide +kernel
theorem dL_law_351 : decode cL_law 351 = .ok (.iadd, 1) := by decide +kernel
theorem dL_law_352 : decode cL_law 352 = .ok (.iaload, 1) := by decide +kernel
theorem dL_law_353 : decode cL_law 353 = .ok (.aload_n 0, 1) := by decide +kernel
theorem dL_law_354 : decode cL_law 354 = .ok (.iload_n 3, 1) := by decide +kernel
theorem dL_law_355 : decode cL_law 355 = .ok (.iconst 3, 1) := by decide +kernel
theorem dL_law_356 : decode cL_law 356 = .ok (.iadd, 1) := by decide +kernel
theorem dL_law_357 : decode cL_law 357 = .ok (.iaload, 1) := by decide +kernel
theorem dL_law_358 : decode cL_law 358 = .ok (.invokevirtual 32, 3) := by decide +kernel
theorem dL_law_361 : decode cL_law 361 = .ok (.if_icmp .eq 803, 3) := by decide +kernel
theorem dL_law_364 : decode cL_law 364 = .ok (.iconst 0, 1) := by decide +kernel
theorem dL_law_365 : decode cL_law 365 = .ok (.ireturn, 1) := by decide +kernel
theorem lw_k_get {g : GX} {nm : String} {sb Ls b i : Nat} {xs : Nat → Int32} {V : AH} {sz : Nat} {Z : Nat → Int} {P L : Nat → Nat} {zs : Nat → Int} {S : TSt} {A : ASt} (hL : Ls ≤ 4096) (hi : i + 8 ≤ Ls) (h : LI g b V sz Z P L zs S A) (nx : Lnx g nm sb Ls xs b i) : AW g (mLw nm sb Ls xs) 13 323 (lwv sb b i) [] V sz (LwQ b L) := by
  have hb := h.2.1.1.1
  obtain ⟨rk, kn, hm⟩ := h.2.2.1
  refine aw_aload_n dL_law_323 (by rfl) (Or.inr ⟨_, rfl⟩) ?_
  refine aw_aload_n dL_law_324 (by rfl) (Or.inr ⟨_, rfl⟩) ?_
  refine aw_iload_n dL_law_325 (by rfl) ?_
  refine aw_iconstZ dL_law_326 ?_
  refine aw_iaddZ dL_law_327 ?_
  refine aw_sld (i + 1) dL_law_328 (by omega) (by omega) (by omega) ?_
  refine aw_aload_n dL_law_329 (by rfl) (Or.inr ⟨_, rfl⟩) ?_
  refine aw_iload_n dL_law_330 (by rfl) ?_
  refine aw_iconstZ dL_law_331 ?_
  refine aw_iaddZ dL_law_332 ?_
  refine aw_sld (i + 2) dL_law_333 (by omega) (by omega) (by omega) ?_
  refine aw_aload_n dL_law_334 (by rfl) (Or.inr ⟨_, rfl⟩) ?_
  refine aw_iload_n dL_law_335 (by rfl) ?_
  refine aw_iconstZ dL_law_336 ?_
  refine aw_iaddZ dL_law_337 ?_
  refine aw_sld (i + 3) dL_law_338 (by omega) (by omega) (by omega) ?_
  refine aw_callv vL_28 dL_law_339 hb (c_get 10 h.2.1 (xz_R xs (i + 1)) (xz_R xs (i + 2)) (xz_R xs (i + 3))) (by rfl) (by rfl) (by omega) (Nat.le_of_ble_eq_true rfl) ?_
  rintro _ _ _ _ _ ⟨rfl, rfl, rfl, rfl, rfl⟩ -
  refine aw_aload_n dL_law_342 (by rfl) (Or.inr ⟨_, rfl⟩) ?_
  refine aw_aload_n dL_law_343 (by rfl) (Or.inr ⟨_, rfl⟩) ?_
  refine aw_iload_n dL_law_344 (by rfl) ?_
  refine aw_iconstZ dL_law_345 ?_
  refine aw_iaddZ dL_law_346 ?_
  refine aw_sld (i + 1) dL_law_347 (by omega) (by omega) (by omega) ?_
  refine aw_aload_n dL_law_348 (by rfl) (Or.inr ⟨_, rfl⟩) ?_
  refine aw_iload_n dL_law_349 (by rfl) ?_
  refine aw_iconstZ dL_law_350 ?_
  refine aw_iaddZ dL_law_351 ?_
  refine aw_sld (i + 2) dL_law_352 (by omega) (by omega) (by omega) ?_
  refine aw_aload_n dL_law_353 (by rfl) (Or.inr ⟨_, rfl⟩) ?_
  refine aw_iload_n dL_law_354 (by rfl) ?_
  refine aw_iconstZ dL_law_355 ?_
  refine aw_iaddZ dL_law_356 ?_
  refine aw_sld (i + 3) dL_law_357 (by omega) (by omega) (by omega) ?_
  refine aw_callv vL_32 dL_law_358 hm (m_get g 10 h.2.2 (xz_R xs (i + 1)) (xz_R xs (i + 2)) (xz_R xs (i + 3))) (by rfl) (by rfl) (by omega) (Nat.le_of_ble_eq_true rfl) ?_
  rintro _ _ _ _ _ ⟨rfl, rfl, rfl, rfl, rfl⟩ -
  refine aw_icmp_eq (tgt := 1164) dL_law_361 (by decide) (fun _ => ?_) (fun q => absurd rfl q)
  exact lw_cls (mc := 0) (ms := 0) nx h (by omega) (by omega) (fun _ _ _ _ _ q => q)
theorem dL_law_366 : decode cL_law 366 = .ok (.aload_n 1, 1) := by decide +kernel
theorem dL_law_367 : decode cL_law 367 = .ok (.aload_n 0, 1) := by decide +kernel
theorem dL_law_368 : decode cL_law 368 = .ok (.iload_n 3, 1) := by decide +kernel
theorem dL_law_369 : decode cL_law 369 = .ok (.iconst 1, 1) := by decide +kernel
theorem dL_law_370 : decode cL_law 370 = .ok (.iadd, 1) := by decide +kernel
theorem dL_law_371 : decode cL_law 371 = .ok (.iaload, 1) := by decide +kernel
theorem dL_law_372 : decode cL_law 372 = .ok (.aload_n 0, 1) := by decide +kernel
theorem dL_law_373 : decode cL_law 373 = .ok (.iload_n 3, 1) := by decide +kernel
theorem dL_law_374 : decode cL_law 374 = .ok (.iconst 2, 1) := by decide +kernel
theorem dL_law_375 : decode cL_law 375 = .ok (.iadd, 1) := by decide +kernel
theorem dL_law_376 : decode cL_law 376 = .ok (.iaload, 1) := by decide +kernel
theorem dL_law_377 : decode cL_law 377 = .ok (.invokevirtual 33, 3) := by decide +kernel
theorem dL_law_380 : decode cL_law 380 = .ok (.aload_n 2, 1) := by decide +kernel
theorem dL_law_381 : decode cL_law 381 = .ok (.aload_n 0, 1) := by decide +kernel
theorem dL_law_382 : decode cL_law 382 = .ok (.iload_n 3, 1) := by decide +kernel
theorem dL_law_383 : decode cL_law 383 = .ok (.iconst 1, 1) := by decide +kernel
theorem dL_law_384 : decode cL_law 384 = .ok (.iadd, 1) := by decide +kernel
theorem dL_law_385 : decode cL_law 385 = .ok (.iaload, 1) := by decide +kernel
theorem dL_law_386 : decode cL_law 386 = .ok (.aload_n 0, 1) := by decide +kernel
theorem dL_law_387 : decode cL_law 387 = .ok (.iload_n 3, 1) := by decide +kernel
theorem dL_law_388 : decode cL_law 388 = .ok (.iconst 2, 1) := by decide +kernel
theorem dL_law_389 : decode cL_law 389 = .ok (.iadd, 1) := by decide +kernel
theorem dL_law_390 : decode cL_law 390 = .ok (.iaload, 1) := by decide +kernel
theorem dL_law_391 : decode cL_law 391 = .ok (.invokevirtual 37, 3) := by decide +kernel
theorem dL_law_394 : decode cL_law 394 = .ok (.if_icmp .eq 770, 3) := by decide +kernel
theorem dL_law_397 : decode cL_law 397 = .ok (.iconst 0, 1) := by decide +kernel
theorem dL_law_398 : decode cL_law 398 = .ok (.ireturn, 1) := by decide +kernel
theorem lw_k_about {g : GX} {nm : String} {sb Ls b i : Nat} {xs : Nat → Int32} {V : AH} {sz : Nat} {Z : Nat → Int} {P L : Nat → Nat} {zs : Nat → Int} {S : TSt} {A : ASt} (hL : Ls ≤ 4096) (hi : i + 8 ≤ Ls) (h : LI g b V sz Z P L zs S A) (nx : Lnx g nm sb Ls xs b i) : AW g (mLw nm sb Ls xs) 13 366 (lwv sb b i) [] V sz (LwQ b L) := by
  have hb := h.2.1.1.1
  obtain ⟨rk, kn, hm⟩ := h.2.2.1
  refine aw_aload_n dL_law_366 (by rfl) (Or.inr ⟨_, rfl⟩) ?_
  refine aw_aload_n dL_law_367 (by rfl) (Or.inr ⟨_, rfl⟩) ?_
  refine aw_iload_n dL_law_368 (by rfl) ?_
  refine aw_iconstZ dL_law_369 ?_
  refine aw_iaddZ dL_law_370 ?_
  refine aw_sld (i + 1) dL_law_371 (by omega) (by omega) (by omega) ?_
  refine aw_aload_n dL_law_372 (by rfl) (Or.inr ⟨_, rfl⟩) ?_
  refine aw_iload_n dL_law_373 (by rfl) ?_
  refine aw_iconstZ dL_law_374 ?_
  refine aw_iaddZ dL_law_375 ?_
  refine aw_sld (i + 2) dL_law_376 (by omega) (by omega) (by omega) ?_
  refine aw_callv vL_33 dL_law_377 hb (c_about 4 h.1 h.2.1 (xz_R xs (i + 1)) (xz_R xs (i + 2))) (by rfl) (by rfl) (by omega) (Nat.le_of_ble_eq_true rfl) ?_
  rintro r1 V1 sz1 mc1 ms1 ⟨Z1, P1, L1, ⟨S1, A1, hC1, hR1⟩, hW1⟩ -
  have hX1 := lw_rx h hW1
  obtain ⟨rk1, kn1, hm1⟩ := hX1.1
  obtain ⟨x1, rfl⟩ := iq_abt _ _ _ hR1
  refine aw_aload_n dL_law_380 (by rfl) (Or.inr ⟨_, rfl⟩) ?_
  refine aw_aload_n dL_law_381 (by rfl) (Or.inr ⟨_, rfl⟩) ?_
  refine aw_iload_n dL_law_382 (by rfl) ?_
  refine aw_iconstZ dL_law_383 ?_
  refine aw_iaddZ dL_law_384 ?_
  refine aw_sld (i + 1) dL_law_385 (by omega) (by omega) (by omega) ?_
  refine aw_aload_n dL_law_386 (by rfl) (Or.inr ⟨_, rfl⟩) ?_
  refine aw_iload_n dL_law_387 (by rfl) ?_
  refine aw_iconstZ dL_law_388 ?_
  refine aw_iaddZ dL_law_389 ?_
  refine aw_sld (i + 2) dL_law_390 (by omega) (by omega) (by omega) ?_
  refine aw_callv vL_37 dL_law_391 hm1 (m_about g 3 hX1 (xz_R xs (i + 1)) (xz_R xs (i + 2))) (by rfl) (by rfl) (by omega) (Nat.le_of_ble_eq_true rfl) ?_
  rintro r2 V2 sz2 mc2 ms2 ⟨rfl, rfl, rfl, hV2, z2, S2, A2, hX2, hR2⟩ -
  obtain ⟨x2, e1, rfl, hL2⟩ := lw_two uq_abt iq_abt hW1 hC1 hR1 hV2 hX2 hR2
  cases e1
  refine aw_icmp_eq (tgt := 1164) dL_law_394 (by decide) (fun _ => ?_) (fun q => absurd rfl q)
  exact lw_cls nx hL2 hW1.2.2.2.2.1 hW1.2.2.2.2.2 (fun _ _ _ _ _ q => q)
theorem dL_law_399 : decode cL_law 399 = .ok (.aload_n 1, 1) := by decide +kernel
theorem dL_law_400 : decode cL_law 400 = .ok (.aload_n 0, 1) := by decide +kernel
theorem dL_law_401 : decode cL_law 401 = .ok (.iload_n 3, 1) := by decide +kernel
theorem dL_law_402 : decode cL_law 402 = .ok (.iconst 1, 1) := by decide +kernel
theorem dL_law_403 : decode cL_law 403 = .ok (.iadd, 1) := by decide +kernel
theorem dL_law_404 : decode cL_law 404 = .ok (.iaload, 1) := by decide +kernel
theorem dL_law_405 : decode cL_law 405 = .ok (.invokevirtual 38, 3) := by decide +kernel
theorem dL_law_408 : decode cL_law 408 = .ok (.aload_n 2, 1) := by decide +kernel
theorem dL_law_409 : decode cL_law 409 = .ok (.aload_n 0, 1) := by decide +kernel
theorem dL_law_410 : decode cL_law 410 = .ok (.iload_n 3, 1) := by decide +kernel
theorem dL_law_411 : decode cL_law 411 = .ok (.iconst 1, 1) := by decide +kernel
theorem dL_law_412 : decode cL_law 412 = .ok (.iadd, 1) := by decide +kernel
theorem dL_law_413 : decode cL_law 413 = .ok (.iaload, 1) := by decide +kernel
theorem dL_law_414 : decode cL_law 414 = .ok (.invokevirtual 42, 3) := by decide +kernel
theorem dL_law_417 : decode cL_law 417 = .ok (.if_icmp .eq 747, 3) := by decide +kernel
theorem dL_law_420 : decode cL_law 420 = .ok (.iconst 0, 1) := by decide +kernel
theorem dL_law_421 : decode cL_law 421 = .ok (.ireturn, 1) := by decide +kernel
theorem lw_k_answer {g : GX} {nm : String} {sb Ls b i : Nat} {xs : Nat → Int32} {V : AH} {sz : Nat} {Z : Nat → Int} {P L : Nat → Nat} {zs : Nat → Int} {S : TSt} {A : ASt} (hL : Ls ≤ 4096) (hi : i + 8 ≤ Ls) (h : LI g b V sz Z P L zs S A) (nx : Lnx g nm sb Ls xs b i) : AW g (mLw nm sb Ls xs) 13 399 (lwv sb b i) [] V sz (LwQ b L) := by
  have hb := h.2.1.1.1
  obtain ⟨rk, kn, hm⟩ := h.2.2.1
  refine aw_aload_n dL_law_399 (by rfl) (Or.inr ⟨_, rfl⟩) ?_
  refine aw_aload_n dL_law_400 (by rfl) (Or.inr ⟨_, rfl⟩) ?_
  refine aw_iload_n dL_law_401 (by rfl) ?_
  refine aw_iconstZ dL_law_402 ?_
  refine aw_iaddZ dL_law_403 ?_
  refine aw_sld (i + 1) dL_law_404 (by omega) (by omega) (by omega) ?_
  refine aw_callv vL_38 dL_law_405 hb (c_answer 12 h.2.1 (xz_R xs (i + 1))) (by rfl) (by rfl) (by omega) (Nat.le_of_ble_eq_true rfl) ?_
  rintro _ _ _ _ _ ⟨rfl, rfl, rfl, rfl, rfl⟩ -
  refine aw_aload_n dL_law_408 (by rfl) (Or.inr ⟨_, rfl⟩) ?_
  refine aw_aload_n dL_law_409 (by rfl) (Or.inr ⟨_, rfl⟩) ?_
  refine aw_iload_n dL_law_410 (by rfl) ?_
  refine aw_iconstZ dL_law_411 ?_
  refine aw_iaddZ dL_law_412 ?_
  refine aw_sld (i + 1) dL_law_413 (by omega) (by omega) (by omega) ?_
  refine aw_callv vL_42 dL_law_414 hm (m_answer g 12 h.2.2 (xz_R xs (i + 1))) (by rfl) (by rfl) (by omega) (Nat.le_of_ble_eq_true rfl) ?_
  rintro _ _ _ _ _ ⟨rfl, rfl, rfl, rfl, rfl⟩ -
  refine aw_icmp_eq (tgt := 1164) dL_law_417 (by decide) (fun _ => ?_) (fun q => absurd rfl q)
  exact lw_cls (mc := 0) (ms := 0) nx h (by omega) (by omega) (fun _ _ _ _ _ q => q)
theorem dL_law_422 : decode cL_law 422 = .ok (.aload_n 1, 1) := by decide +kernel
theorem dL_law_423 : decode cL_law 423 = .ok (.aload_n 0, 1) := by decide +kernel
theorem dL_law_424 : decode cL_law 424 = .ok (.iload_n 3, 1) := by decide +kernel
theorem dL_law_425 : decode cL_law 425 = .ok (.iconst 1, 1) := by decide +kernel
theorem dL_law_426 : decode cL_law 426 = .ok (.iadd, 1) := by decide +kernel
theorem dL_law_427 : decode cL_law 427 = .ok (.iaload, 1) := by decide +kernel
theorem dL_law_428 : decode cL_law 428 = .ok (.aload_n 0, 1) := by decide +kernel
theorem dL_law_429 : decode cL_law 429 = .ok (.iload_n 3, 1) := by decide +kernel
theorem dL_law_430 : decode cL_law 430 = .ok (.iconst 2, 1) := by decide +kernel
theorem dL_law_431 : decode cL_law 431 = .ok (.iadd, 1) := by decide +kernel
theorem dL_law_432 : decode cL_law 432 = .ok (.iaload, 1) := by decide +kernel
theorem dL_law_433 : decode cL_law 433 = .ok (.invokevirtual 43, 3) := by decide +kernel
theorem dL_law_436 : decode cL_law 436 = .ok (.aload_n 2, 1) := by decide +kernel
theorem dL_law_437 : decode cL_law 437 = .ok (.aload_n 0, 1) := by decide +kernel
theorem dL_law_438 : decode cL_law 438 = .ok (.iload_n 3, 1) := by decide +kernel
theorem dL_law_439 : decode cL_law 439 = .ok (.iconst 1, 1) := by decide +kernel
theorem dL_law_440 : decode cL_law 440 = .ok (.iadd, 1) := by decide +kernel
theorem dL_law_441 : decode cL_law 441 = .ok (.iaload, 1) := by decide +kernel
theorem dL_law_442 : decode cL_law 442 = .ok (.aload_n 0, 1) := by decide +kernel
theorem dL_law_443 : decode cL_law 443 = .ok (.iload_n 3, 1) := by decide +kernel
theorem dL_law_444 : decode cL_law 444 = .ok (.iconst 2, 1) := by decide +kernel
theorem dL_law_445 : decode cL_law 445 = .ok (.iadd, 1) := by decide +kernel
theorem dL_law_446 : decode cL_law 446 = .ok (.iaload, 1) := by decide +kernel
theorem dL_law_447 : decode cL_law 447 = .ok (.invokevirtual 46, 3) := by decide +kernel
theorem dL_law_450 : decode cL_law 450 = .ok (.if_icmp .eq 714, 3) := by decide +kernel
theorem dL_law_453 : decode cL_law 453 = .ok (.iconst 0, 1) := by decide +kernel
theorem dL_law_454 : decode cL_law 454 = .ok (.ireturn, 1) := by decide +kernel
theorem lw_k_sign {g : GX} {nm : String} {sb Ls b i : Nat} {xs : Nat → Int32} {V : AH} {sz : Nat} {Z : Nat → Int} {P L : Nat → Nat} {zs : Nat → Int} {S : TSt} {A : ASt} (hL : Ls ≤ 4096) (hi : i + 8 ≤ Ls) (h : LI g b V sz Z P L zs S A) (nx : Lnx g nm sb Ls xs b i) : AW g (mLw nm sb Ls xs) 13 422 (lwv sb b i) [] V sz (LwQ b L) := by
  have hb := h.2.1.1.1
  obtain ⟨rk, kn, hm⟩ := h.2.2.1
  refine aw_aload_n dL_law_422 (by rfl) (Or.inr ⟨_, rfl⟩) ?_
  refine aw_aload_n dL_law_423 (by rfl) (Or.inr ⟨_, rfl⟩) ?_
  refine aw_iload_n dL_law_424 (by rfl) ?_
  refine aw_iconstZ dL_law_425 ?_
  refine aw_iaddZ dL_law_426 ?_
  refine aw_sld (i + 1) dL_law_427 (by omega) (by omega) (by omega) ?_
  refine aw_aload_n dL_law_428 (by rfl) (Or.inr ⟨_, rfl⟩) ?_
  refine aw_iload_n dL_law_429 (by rfl) ?_
  refine aw_iconstZ dL_law_430 ?_
  refine aw_iaddZ dL_law_431 ?_
  refine aw_sld (i + 2) dL_law_432 (by omega) (by omega) (by omega) ?_
  refine aw_callv vL_43 dL_law_433 hb (c_sign 11 h.1 h.2.1 (xz_R xs (i + 1)) (xz_R xs (i + 2))) (by rfl) (by rfl) (by omega) (Nat.le_of_ble_eq_true rfl) ?_
  rintro _ _ _ _ _ ⟨rfl, rfl, rfl, rfl, rfl⟩ -
  refine aw_aload_n dL_law_436 (by rfl) (Or.inr ⟨_, rfl⟩) ?_
  refine aw_aload_n dL_law_437 (by rfl) (Or.inr ⟨_, rfl⟩) ?_
  refine aw_iload_n dL_law_438 (by rfl) ?_
  refine aw_iconstZ dL_law_439 ?_
  refine aw_iaddZ dL_law_440 ?_
  refine aw_sld (i + 1) dL_law_441 (by omega) (by omega) (by omega) ?_
  refine aw_aload_n dL_law_442 (by rfl) (Or.inr ⟨_, rfl⟩) ?_
  refine aw_iload_n dL_law_443 (by rfl) ?_
  refine aw_iconstZ dL_law_444 ?_
  refine aw_iaddZ dL_law_445 ?_
  refine aw_sld (i + 2) dL_law_446 (by omega) (by omega) (by omega) ?_
  refine aw_callv vL_46 dL_law_447 hm (m_sign g 11 h.2.2 (xz_R xs (i + 1)) (xz_R xs (i + 2))) (by rfl) (by rfl) (by omega) (Nat.le_of_ble_eq_true rfl) ?_
  rintro _ _ _ _ _ ⟨rfl, rfl, rfl, rfl, rfl⟩ -
  refine aw_icmp_eq (tgt := 1164) dL_law_450 (by decide) (fun _ => ?_) (fun q => absurd rfl q)
  exact lw_cls (mc := 0) (ms := 0) nx h (by omega) (by omega) (fun _ _ _ _ _ q => q)

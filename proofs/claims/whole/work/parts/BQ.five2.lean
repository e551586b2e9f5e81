/-! ===== the reference: a row comes into a STAIR of five columns (both, dual) ===== -/
def G5 (g : GX) (mo : Nat) (V : AH) (r : Nat) (kn ar ac : Int) (l : Nat → Nat) (zs : Nat → Int) : Prop := ∃ RW : Nat → Int, V mo = some (moO mo r kn ar ac) ∧ V (mo + 6) = some (aIz g 11 RW) ∧ (∀ i, i < r → RW i = (l i : Int)) ∧ MN g mo V zs ∧ Stair (BMx 0 15 zs) r 5 l ∧ Z15 zs r
def E5 (mo : Nat) : Nat → Prop := fun a => mo ≤ a ∧ a ≤ mo + 6
abbrev mX6_both : MI := (yX6_both, cX6_both, 7, (some FieldType.int), noX)
theorem dX6_both_0 : decode cX6_both 0 = .ok (.aload_n 0, 1) := by decide +kernel
theorem dX6_both_1 : decode cX6_both 1 = .ok (.iload_n 1, 1) := by decide +kernel
theorem dX6_both_2 : decode cX6_both 2 = .ok (.iload_n 2, 1) := by decide +kernel
theorem dX6_both_3 : decode cX6_both 3 = .ok (.invokevirtual 186, 3) := by decide +kernel
theorem dX6_both_6 : decode cX6_both 6 = .ok (.ifCond .ne 5, 3) := by decide +kernel
theorem dX6_both_9 : decode cX6_both 9 = .ok (.iconst (-1), 1) := by decide +kernel
theorem dX6_both_10 : decode cX6_both 10 = .ok (.ireturn, 1) := by decide +kernel
theorem dX6_both_11 : decode cX6_both 11 = .ok (.aload_n 0, 1) := by decide +kernel
theorem dX6_both_12 : decode cX6_both 12 = .ok (.invokevirtual 195, 3) := by decide +kernel
theorem dX6_both_15 : decode cX6_both 15 = .ok (.aload_n 0, 1) := by decide +kernel
theorem dX6_both_16 : decode cX6_both 16 = .ok (.iload_n 1, 1) := by decide +kernel
theorem dX6_both_17 : decode cX6_both 17 = .ok (.iconst 0, 1) := by decide +kernel
theorem dX6_both_18 : decode cX6_both 18 = .ok (.invokevirtual 198, 3) := by decide +kernel
theorem dX6_both_21 : decode cX6_both 21 = .ok (.aload_n 0, 1) := by decide +kernel
theorem dX6_both_22 : decode cX6_both 22 = .ok (.iload_n 2, 1) := by decide +kernel
theorem dX6_both_23 : decode cX6_both 23 = .ok (.aload_n 0, 1) := by decide +kernel
theorem dX6_both_24 : decode cX6_both 24 = .ok (.getfield 37, 3) := by decide +kernel
theorem dX6_both_27 : decode cX6_both 27 = .ok (.iload_n 1, 1) := by decide +kernel
theorem dX6_both_28 : decode cX6_both 28 = .ok (.iaload, 1) := by decide +kernel
theorem dX6_both_29 : decode cX6_both 29 = .ok (.invokevirtual 198, 3) := by decide +kernel
theorem dX6_both_32 : decode cX6_both 32 = .ok (.aload_n 0, 1) := by decide +kernel
theorem dX6_both_33 : decode cX6_both 33 = .ok (.getfield 131, 3) := by decide +kernel
theorem dX6_both_36 : decode cX6_both 36 = .ok (.istore_n 3, 1) := by decide +kernel
theorem dX6_both_37 : decode cX6_both 37 = .ok (.iconst 0, 1) := by decide +kernel
theorem dX6_both_38 : decode cX6_both 38 = .ok (.istore 4, 2) := by decide +kernel
theorem dX6_both_40 : decode cX6_both 40 = .ok (.iload 4, 2) := by decide +kernel
theorem dX6_both_42 : decode cX6_both 42 = .ok (.iload_n 3, 1) := by decide +kernel
theorem dX6_both_43 : decode cX6_both 43 = .ok (.if_icmp .ge 135, 3) := by decide +kernel
theorem dX6_both_46 : decode cX6_both 46 = .ok (.iconst 0, 1) := by decide +kernel
theorem dX6_both_47 : decode cX6_both 47 = .ok (.istore 5, 2) := by decide +kernel
theorem dX6_both_49 : decode cX6_both 49 = .ok (.iload 5, 2) := by decide +kernel
theorem dX6_both_51 : decode cX6_both 51 = .ok (.iconst 5, 1) := by decide +kernel
theorem dX6_both_52 : decode cX6_both 52 = .ok (.if_icmp .ge 26, 3) := by decide +kernel
theorem dX6_both_55 : decode cX6_both 55 = .ok (.aload_n 0, 1) := by decide +kernel
theorem dX6_both_56 : decode cX6_both 56 = .ok (.sipush 265, 3) := by decide +kernel
theorem dX6_both_59 : decode cX6_both 59 = .ok (.bipush 10, 2) := by decide +kernel
theorem dX6_both_61 : decode cX6_both 61 = .ok (.iload 4, 2) := by decide +kernel
theorem dX6_both_63 : decode cX6_both 63 = .ok (.imul, 1) := by decide +kernel
theorem dX6_both_64 : decode cX6_both 64 = .ok (.iadd, 1) := by decide +kernel
theorem dX6_both_65 : decode cX6_both 65 = .ok (.iload 5, 2) := by decide +kernel
theorem dX6_both_67 : decode cX6_both 67 = .ok (.iadd, 1) := by decide +kernel
theorem dX6_both_68 : decode cX6_both 68 = .ok (.lconst 0, 1) := by decide +kernel
theorem dX6_both_69 : decode cX6_both 69 = .ok (.invokevirtual 83, 3) := by decide +kernel
theorem dX6_both_72 : decode cX6_both 72 = .ok (.iinc 5 1, 3) := by decide +kernel
theorem dX6_both_75 : decode cX6_both 75 = .ok (.goto (-26), 3) := by decide +kernel
theorem dX6_both_78 : decode cX6_both 78 = .ok (.iconst 0, 1) := by decide +kernel
theorem dX6_both_79 : decode cX6_both 79 = .ok (.istore 5, 2) := by decide +kernel
theorem dX6_both_81 : decode cX6_both 81 = .ok (.iload 5, 2) := by decide +kernel
theorem dX6_both_83 : decode cX6_both 83 = .ok (.aload_n 0, 1) := by decide +kernel
theorem dX6_both_84 : decode cX6_both 84 = .ok (.getfield 37, 3) := by decide +kernel
theorem dX6_both_87 : decode cX6_both 87 = .ok (.iload_n 1, 1) := by decide +kernel
theorem dX6_both_88 : decode cX6_both 88 = .ok (.iaload, 1) := by decide +kernel
theorem dX6_both_89 : decode cX6_both 89 = .ok (.if_icmp .ge 83, 3) := by decide +kernel
theorem dX6_both_92 : decode cX6_both 92 = .ok (.aload_n 0, 1) := by decide +kernel
theorem dX6_both_93 : decode cX6_both 93 = .ok (.sipush 165, 3) := by decide +kernel
theorem dX6_both_96 : decode cX6_both 96 = .ok (.bipush 10, 2) := by decide +kernel
theorem dX6_both_98 : decode cX6_both 98 = .ok (.iload 4, 2) := by decide +kernel
theorem dX6_both_100 : decode cX6_both 100 = .ok (.imul, 1) := by decide +kernel
theorem dX6_both_101 : decode cX6_both 101 = .ok (.iadd, 1) := by decide +kernel
theorem dX6_both_102 : decode cX6_both 102 = .ok (.iload 5, 2) := by decide +kernel
theorem dX6_both_104 : decode cX6_both 104 = .ok (.iadd, 1) := by decide +kernel
theorem dX6_both_105 : decode cX6_both 105 = .ok (.sipush 416, 3) := by decide +kernel
theorem dX6_both_108 : decode cX6_both 108 = .ok (.invokevirtual 67, 3) := by decide +kernel
theorem dX6_both_111 : decode cX6_both 111 = .ok (.iconst 0, 1) := by decide +kernel
theorem dX6_both_112 : decode cX6_both 112 = .ok (.istore 6, 2) := by decide +kernel
theorem dX6_both_114 : decode cX6_both 114 = .ok (.iload 6, 2) := by decide +kernel
theorem dX6_both_116 : decode cX6_both 116 = .ok (.iconst 5, 1) := by decide +kernel
theorem dX6_both_117 : decode cX6_both 117 = .ok (.if_icmp .ge 29, 3) := by decide +kernel
theorem dX6_both_120 : decode cX6_both 120 = .ok (.aload_n 0, 1) := by decide +kernel
theorem dX6_both_121 : decode cX6_both 121 = .ok (.sipush 450, 3) := by decide +kernel
theorem dX6_both_124 : decode cX6_both 124 = .ok (.iload 6, 2) := by decide +kernel
theorem dX6_both_126 : decode cX6_both 126 = .ok (.iadd, 1) := by decide +kernel
theorem dX6_both_127 : decode cX6_both 127 = .ok (.aload_n 0, 1) := by decide +kernel
theorem dX6_both_128 : decode cX6_both 128 = .ok (.iload_n 1, 1) := by decide +kernel
theorem dX6_both_129 : decode cX6_both 129 = .ok (.iload 5, 2) := by decide +kernel
theorem dX6_both_131 : decode cX6_both 131 = .ok (.iload 6, 2) := by decide +kernel
theorem dX6_both_133 : decode cX6_both 133 = .ok (.invokevirtual 148, 3) := by decide +kernel
theorem dX6_both_136 : decode cX6_both 136 = .ok (.i2l, 1) := by decide +kernel
theorem dX6_both_137 : decode cX6_both 137 = .ok (.invokevirtual 83, 3) := by decide +kernel
theorem dX6_both_140 : decode cX6_both 140 = .ok (.iinc 6 1, 3) := by decide +kernel
theorem dX6_both_143 : decode cX6_both 143 = .ok (.goto (-29), 3) := by decide +kernel
theorem dX6_both_146 : decode cX6_both 146 = .ok (.aload_n 0, 1) := by decide +kernel
theorem dX6_both_147 : decode cX6_both 147 = .ok (.sipush 265, 3) := by decide +kernel
theorem dX6_both_150 : decode cX6_both 150 = .ok (.bipush 10, 2) := by decide +kernel
theorem dX6_both_152 : decode cX6_both 152 = .ok (.iload 4, 2) := by decide +kernel
theorem dX6_both_154 : decode cX6_both 154 = .ok (.imul, 1) := by decide +kernel
theorem dX6_both_155 : decode cX6_both 155 = .ok (.iadd, 1) := by decide +kernel
theorem dX6_both_156 : decode cX6_both 156 = .ok (.sipush 450, 3) := by decide +kernel
theorem dX6_both_159 : decode cX6_both 159 = .ok (.iconst 5, 1) := by decide +kernel
theorem dX6_both_160 : decode cX6_both 160 = .ok (.sipush 416, 3) := by decide +kernel
theorem dX6_both_163 : decode cX6_both 163 = .ok (.invokevirtual 100, 3) := by decide +kernel
theorem dX6_both_166 : decode cX6_both 166 = .ok (.iinc 5 1, 3) := by decide +kernel
theorem dX6_both_169 : decode cX6_both 169 = .ok (.goto (-88), 3) := by decide +kernel
theorem dX6_both_172 : decode cX6_both 172 = .ok (.iinc 4 1, 3) := by decide +kernel
theorem dX6_both_175 : decode cX6_both 175 = .ok (.goto (-135), 3) := by decide +kernel
theorem dX6_both_178 : decode cX6_both 178 = .ok (.aload_n 0, 1) := by decide +kernel
theorem dX6_both_179 : decode cX6_both 179 = .ok (.invokevirtual 195, 3) := by decide +kernel
theorem dX6_both_182 : decode cX6_both 182 = .ok (.iconst 0, 1) := by decide +kernel
theorem dX6_both_183 : decode cX6_both 183 = .ok (.istore 4, 2) := by decide +kernel
theorem dX6_both_185 : decode cX6_both 185 = .ok (.iload 4, 2) := by decide +kernel
theorem dX6_both_187 : decode cX6_both 187 = .ok (.iload_n 3, 1) := by decide +kernel
theorem dX6_both_188 : decode cX6_both 188 = .ok (.if_icmp .ge 121, 3) := by decide +kernel
theorem dX6_both_191 : decode cX6_both 191 = .ok (.iconst 0, 1) := by decide +kernel
theorem dX6_both_192 : decode cX6_both 192 = .ok (.istore 5, 2) := by decide +kernel
theorem dX6_both_194 : decode cX6_both 194 = .ok (.iload 5, 2) := by decide +kernel
theorem dX6_both_196 : decode cX6_both 196 = .ok (.iconst 5, 1) := by decide +kernel
theorem dX6_both_197 : decode cX6_both 197 = .ok (.if_icmp .ge 31, 3) := by decide +kernel
theorem dX6_both_200 : decode cX6_both 200 = .ok (.aload_n 0, 1) := by decide +kernel
theorem dX6_both_201 : decode cX6_both 201 = .ok (.sipush 265, 3) := by decide +kernel
theorem dX6_both_204 : decode cX6_both 204 = .ok (.bipush 10, 2) := by decide +kernel
theorem dX6_both_206 : decode cX6_both 206 = .ok (.iload 4, 2) := by decide +kernel
theorem dX6_both_208 : decode cX6_both 208 = .ok (.imul, 1) := by decide +kernel
theorem dX6_both_209 : decode cX6_both 209 = .ok (.iadd, 1) := by decide +kernel
theorem dX6_both_210 : decode cX6_both 210 = .ok (.iload 5, 2) := by decide +kernel
theorem dX6_both_212 : decode cX6_both 212 = .ok (.iadd, 1) := by decide +kernel
theorem dX6_both_213 : decode cX6_both 213 = .ok (.sipush 150, 3) := by decide +kernel
theorem dX6_both_216 : decode cX6_both 216 = .ok (.iload 5, 2) := by decide +kernel
theorem dX6_both_218 : decode cX6_both 218 = .ok (.iadd, 1) := by decide +kernel
theorem dX6_both_219 : decode cX6_both 219 = .ok (.invokevirtual 67, 3) := by decide +kernel
theorem dX6_both_222 : decode cX6_both 222 = .ok (.iinc 5 1, 3) := by decide +kernel
theorem dX6_both_225 : decode cX6_both 225 = .ok (.goto (-31), 3) := by decide +kernel
theorem dX6_both_228 : decode cX6_both 228 = .ok (.iconst 0, 1) := by decide +kernel
theorem dX6_both_229 : decode cX6_both 229 = .ok (.istore 5, 2) := by decide +kernel
theorem dX6_both_231 : decode cX6_both 231 = .ok (.iload 5, 2) := by decide +kernel
theorem dX6_both_233 : decode cX6_both 233 = .ok (.bipush 10, 2) := by decide +kernel
theorem dX6_both_235 : decode cX6_both 235 = .ok (.if_icmp .ge 20, 3) := by decide +kernel
theorem dX6_both_238 : decode cX6_both 238 = .ok (.aload_n 0, 1) := by decide +kernel
theorem dX6_both_239 : decode cX6_both 239 = .ok (.sipush 155, 3) := by decide +kernel
theorem dX6_both_242 : decode cX6_both 242 = .ok (.iload 5, 2) := by decide +kernel
theorem dX6_both_244 : decode cX6_both 244 = .ok (.iadd, 1) := by decide +kernel
theorem dX6_both_245 : decode cX6_both 245 = .ok (.lconst 0, 1) := by decide +kernel
theorem dX6_both_246 : decode cX6_both 246 = .ok (.invokevirtual 83, 3) := by decide +kernel
theorem dX6_both_249 : decode cX6_both 249 = .ok (.iinc 5 1, 3) := by decide +kernel
theorem dX6_both_252 : decode cX6_both 252 = .ok (.goto (-21), 3) := by decide +kernel
theorem dX6_both_255 : decode cX6_both 255 = .ok (.aload_n 0, 1) := by decide +kernel
theorem dX6_both_256 : decode cX6_both 256 = .ok (.iconst 0, 1) := by decide +kernel
theorem dX6_both_257 : decode cX6_both 257 = .ok (.bipush 15, 2) := by decide +kernel
theorem dX6_both_259 : decode cX6_both 259 = .ok (.bipush 15, 2) := by decide +kernel
theorem dX6_both_261 : decode cX6_both 261 = .ok (.iconst 5, 1) := by decide +kernel
theorem dX6_both_262 : decode cX6_both 262 = .ok (.aload_n 0, 1) := by decide +kernel
theorem dX6_both_263 : decode cX6_both 263 = .ok (.getfield 27, 3) := by decide +kernel
theorem dX6_both_266 : decode cX6_both 266 = .ok (.aload_n 0, 1) := by decide +kernel
theorem dX6_both_267 : decode cX6_both 267 = .ok (.getfield 117, 3) := by decide +kernel
theorem dX6_both_270 : decode cX6_both 270 = .ok (.invokevirtual 120, 3) := by decide +kernel
theorem dX6_both_273 : decode cX6_both 273 = .ok (.ifCond .eq 13, 3) := by decide +kernel
theorem dX6_both_276 : decode cX6_both 276 = .ok (.aload_n 0, 1) := by decide +kernel
theorem dX6_both_277 : decode cX6_both 277 = .ok (.dup, 1) := by decide +kernel
theorem dX6_both_278 : decode cX6_both 278 = .ok (.getfield 117, 3) := by decide +kernel
theorem dX6_both_281 : decode cX6_both 281 = .ok (.iconst 1, 1) := by decide +kernel
theorem dX6_both_282 : decode cX6_both 282 = .ok (.iadd, 1) := by decide +kernel
theorem dX6_both_283 : decode cX6_both 283 = .ok (.putfield 117, 3) := by decide +kernel
theorem dX6_both_286 : decode cX6_both 286 = .ok (.aload_n 0, 1) := by decide +kernel
theorem dX6_both_287 : decode cX6_both 287 = .ok (.iconst 0, 1) := by decide +kernel
theorem dX6_both_288 : decode cX6_both 288 = .ok (.bipush 15, 2) := by decide +kernel
theorem dX6_both_290 : decode cX6_both 290 = .ok (.bipush 15, 2) := by decide +kernel
theorem dX6_both_292 : decode cX6_both 292 = .ok (.aload_n 0, 1) := by decide +kernel
theorem dX6_both_293 : decode cX6_both 293 = .ok (.getfield 27, 3) := by decide +kernel
theorem dX6_both_296 : decode cX6_both 296 = .ok (.aload_n 0, 1) := by decide +kernel
theorem dX6_both_297 : decode cX6_both 297 = .ok (.getfield 117, 3) := by decide +kernel
theorem dX6_both_300 : decode cX6_both 300 = .ok (.invokevirtual 127, 3) := by decide +kernel
theorem dX6_both_303 : decode cX6_both 303 = .ok (.iinc 4 1, 3) := by decide +kernel
theorem dX6_both_306 : decode cX6_both 306 = .ok (.goto (-121), 3) := by decide +kernel
theorem dX6_both_309 : decode cX6_both 309 = .ok (.aload_n 0, 1) := by decide +kernel
theorem dX6_both_310 : decode cX6_both 310 = .ok (.aload_n 0, 1) := by decide +kernel
theorem dX6_both_311 : decode cX6_both 311 = .ok (.getfield 40, 3) := by decide +kernel
theorem dX6_both_314 : decode cX6_both 314 = .ok (.iload_n 1, 1) := by decide +kernel
theorem dX6_both_315 : decode cX6_both 315 = .ok (.iaload, 1) := by decide +kernel
theorem dX6_both_316 : decode cX6_both 316 = .ok (.invokevirtual 201, 3) := by decide +kernel
theorem dX6_both_319 : decode cX6_both 319 = .ok (.ireturn, 1) := by decide +kernel
set_option maxRecDepth 20000 in
theorem f5_both (d : Nat) {g : GX} {V : AH} {mo sz r i : Nat} {kn ar ac : Int} {N : Mat} {zs : Nat → Int} {l : Nat → Nat} {lv : List (Nat × Value)} {Q : AQ} (hlv : lv.lookup 0 = some (.ref mo)) (hG : G5 g mo V r kn ar ac l zs) (hr4 : r ≤ 4) (hri : r ≤ i) (hN : ∀ a b, a < i → b < 5 → ab (N a b) ≤ XB) (hsp : SpEq N i (BMx 0 15 zs) r 5) (hR : ∀ j, j < 5 → N i j = zs (150 + j)) (hRb : ∀ j, j < 5 → ab (N i j) ≤ XB) (hc0 : ∀ t, 5 ≤ t → t < 15 → zs (150 + t) = 0) (hKK : ∀ {V' : AH} {z' : Nat → Int} {r' : Nat} {l' : Nat → Nat}, G5 g mo V' r' kn ar ac l' z' → SpEq N (i + 1) (BMx 0 15 z') r' 5 → r' ≤ i + 1 → (∀ a, ¬ E5 mo a → V' a = V a) → Frm zs z' InC → AW g mX6_both (d + 5) 303 lv [] V' sz Q) : AW g mX6_both (d + 5) 255 lv [] V sz Q := by
  obtain ⟨RW, hmo, hra, hl, hM, hst, hz⟩ := hG
  obtain ⟨β, hg, hβ, hP, hq⟩ := gpr5 hst hz hr4 ((lbm5 hN).eq hsp) (fun t ht => by rw [← hR t ht]; exact hRb t ht) hc0
  have hcw := cw5 (zs := zs) hr4 hP hq
  have TAIL : ∀ {V4 : AH} {z4 : Nat → Int} (r4 : Nat) (l4 : Nat → Nat) (RW4 e4 : Nat → Int), r4 ≤ r + 1 → V4 mo = some (moO mo r4 kn ar ac) → V4 (mo + 6) = some (aIz g 11 RW4) → (∀ i, i < r4 → RW4 i = (l4 i : Int)) → MN g mo V4 z4 → (∀ i, i < r4 → l4 i < 5) → Frm zs z4 InC → (∀ a, ¬ E5 mo a → V4 a = V a) → RdP (BMx 0 15 z4) r4 15 l4 β e4 → (∀ t, 0 ≤ er e4 (fun n => β (l4 n)) r4 * β t ∧ er e4 (fun n => β (l4 n)) r4 * β t ≤ BB) → SpEq (GMx 0 15 r zs) (r + 1) (BMx 0 15 z4) r4 15 → AW g mX6_both (d + 5) 286 lv [] V4 sz Q := fun {V4 z4} r4 l4 RW4 e4 hr4' hmo4 hra4 hl4 hM4 hl45 hF4 hV4 hp4 he4 hsp4 => by
    refine aw_aload_n dX6_both_286 hlv (Or.inr ⟨_, rfl⟩) ?_
    refine aw_iconstZ dX6_both_287 ?_
    refine aw_bipushZ dX6_both_288 (by decide) ?_
    refine aw_bipushZ dX6_both_290 (by decide) ?_
    refine aw_aload_n dX6_both_292 hlv (Or.inr ⟨_, rfl⟩) ?_
    refine aw_get fX6_27 dX6_both_293 hmo4 (by rfl) ?_
    refine aw_aload_n dX6_both_296 hlv (Or.inr ⟨_, rfl⟩) ?_
    refine aw_get fX6_117 dX6_both_297 hmo4 (by rfl) ?_
    refine aw_callv vX6_127 dX6_both_300 hmo4 (m_redS g (d + 1) (h := r4) (RW := RW4) (β := β) (e := e4) (l := l4) ⟨_, _, ar, ac, hmo4⟩ hM4 hra4 (by omega) hl4 hp4 (fun t _ => smT bb_sm (by rw [ab_pos (he4 t).1]; exact (he4 t).2))) (by rfl) (by rfl) (by omega) (Nat.le_of_ble_eq_true rfl) ?_
    rintro _ V5 _ _ _ ⟨rfl, rfl, rfl, hE5, rfl, z5, hM5, hF5, hS5, hP5, -⟩ -
    refine q0 ?_
    have hsp15 := hsp4.tr hP5
    exact hKK ⟨RW4, (hE5 mo (by unfold EN; omega)).trans hmo4, (hE5 _ (by unfold EN; omega)).trans hra4, hl4, hM5, hS5.w5 hl45, z15_of hsp15 (gz15 hz hc0)⟩ ((gm_snoc hsp hR).tr hsp15.w5) (by omega) (fun a ha => (hE5 a (fun z => ha (by unfold EN at z; unfold E5; omega))).trans (hV4 a ha)) (fun q hq => (hF5 q (by unfold InC at hq; unfold InR; omega)).trans (hF4 q hq))
  refine aw_aload_n dX6_both_255 hlv (Or.inr ⟨_, rfl⟩) ?_
  refine aw_iconstZ dX6_both_256 ?_
  refine aw_bipushZ dX6_both_257 (by decide) ?_
  refine aw_bipushZ dX6_both_259 (by decide) ?_
  refine aw_iconstZ dX6_both_261 ?_
  refine aw_aload_n dX6_both_262 hlv (Or.inr ⟨_, rfl⟩) ?_
  refine aw_get fX6_27 dX6_both_263 hmo (by rfl) ?_
  refine aw_aload_n dX6_both_266 hlv (Or.inr ⟨_, rfl⟩) ?_
  refine aw_get fX6_117 dX6_both_267 hmo (by rfl) ?_
  refine aw_callv vX6_120 dX6_both_270 hmo (m_goesS g d (h := r) (RW := RW) (β := β) (l := l) (X := XB) ⟨_, _, ar, ac, hmo⟩ hM hra (by omega) hl hg (fun t ht => smT gs_sm (by rw [ab_pos (Int.mul_nonneg (by have := hg.cw1 (Nat.le_refl r); omega) (by have := (hβ t).1; omega))]; exact Int.mul_le_mul hcw (hβ t).2 (by have := (hβ t).1; omega) (by have := hg.cw1 (Nat.le_refl r); omega)))) (by rfl) (by rfl) (by omega) (Nat.le_of_ble_eq_true rfl) ?_
  rintro _ V3 _ _ _ ⟨rfl, rfl, rfl, hE3, z3, hM3, hF3, hr3⟩ -
  refine q0 ?_
  have hmo3 := (hE3 mo (by unfold ER EN; omega)).trans hmo
  have hV3 : ∀ a, ¬ E5 mo a → V3 a = V a := fun a ha => hE3 a (fun z => ha (by unfold ER EN at z; unfold E5; omega))
  rcases hr3 with ⟨rfl, hra3, hn3⟩ | ⟨s, j, rfl, hra3, hy3⟩
  · refine aw_if_eqZ (tgt := 286) dX6_both_273 (by decide) (by omega) (fun _ => ?_) (fun h => absurd rfl h)
    obtain ⟨e4, a4, b4, c4⟩ := no5 hr4 hg hβ hP hq hn3 (fun t h1 h2 => by
      obtain ⟨cf, hcf⟩ := (hn3.1 (GMx 0 15 r z3 r)).mpr (Span.row (by omega))
      rw [hcf t h2]
      exact Sg_zero (fun k hk => by rw [gz15 hz hc0 k t hk h1 h2, Int.mul_zero]))
    exact TAIL r l RW e4 (by omega) hmo3 hra3 hl hM3 (fun i hi => (hst.1.1 i hi).1) (fun q hq => hF3 q (by unfold InC at hq; unfold InG; omega)) hV3 a4 b4 c4
  · refine aw_if_eqZ (tgt := 286) dX6_both_273 (by decide) (by omega) (fun h => absurd h (by decide)) (fun _ => ?_)
    obtain ⟨e4, a4, b4, c5, c4⟩ := ye5 hr4 hg hβ hP hq hy3
    refine aw_aload_n dX6_both_276 hlv (Or.inr ⟨_, rfl⟩) ?_
    refine aw_dup dX6_both_277 rfl ?_
    refine aw_get fX6_117 dX6_both_278 hmo3 (by rfl) ?_
    refine aw_iconstZ dX6_both_281 ?_
    refine aw_iaddZ dX6_both_282 ?_
    refine aw_put fX6_117 dX6_both_283 hmo3 (by rfl) (by rfl) (Nat.le_of_ble_eq_true rfl) ?_
    exact TAIL (r + 1) (insF l s r j) (insF RW s r (j : Int)) e4 (by omega) (AHu_self _ _ _) ((AHu_ne (by omega)).trans hra3) (fun i hi => by
      unfold insF
      split
      · rfl
      · split
        · exact hl (i - 1) (by omega)
        · exact hl i (by have := hy3.2.1; omega)) (hM3.kept (fun a ha => AHu_ne (by unfold EN at ha; omega))) c4 (fun q hq => hF3 q (by unfold InC at hq; unfold InG; omega)) (fun a ha => (AHu_ne (fun z => ha (by unfold E5; omega))).trans (hV3 a ha)) a4 b4 c5
abbrev mX6_dual : MI := (yX6_dual, cX6_dual, 9, (some FieldType.int), noX)
theorem dX6_dual_0 : decode cX6_dual 0 = .ok (.aload_n 0, 1) := by decide +kernel
theorem dX6_dual_1 : decode cX6_dual 1 = .ok (.iload_n 1, 1) := by decide +kernel
theorem dX6_dual_2 : decode cX6_dual 2 = .ok (.invokevirtual 137, 3) := by decide +kernel
theorem dX6_dual_5 : decode cX6_dual 5 = .ok (.ifCond .ne 5, 3) := by decide +kernel
theorem dX6_dual_8 : decode cX6_dual 8 = .ok (.iconst (-1), 1) := by decide +kernel
theorem dX6_dual_9 : decode cX6_dual 9 = .ok (.ireturn, 1) := by decide +kernel
theorem dX6_dual_10 : decode cX6_dual 10 = .ok (.aload_n 0, 1) := by decide +kernel
theorem dX6_dual_11 : decode cX6_dual 11 = .ok (.getfield 37, 3) := by decide +kernel
theorem dX6_dual_14 : decode cX6_dual 14 = .ok (.iload_n 1, 1) := by decide +kernel
theorem dX6_dual_15 : decode cX6_dual 15 = .ok (.iaload, 1) := by decide +kernel
theorem dX6_dual_16 : decode cX6_dual 16 = .ok (.aload_n 0, 1) := by decide +kernel
theorem dX6_dual_17 : decode cX6_dual 17 = .ok (.getfield 40, 3) := by decide +kernel
theorem dX6_dual_20 : decode cX6_dual 20 = .ok (.iload_n 1, 1) := by decide +kernel
theorem dX6_dual_21 : decode cX6_dual 21 = .ok (.iaload, 1) := by decide +kernel
theorem dX6_dual_22 : decode cX6_dual 22 = .ok (.if_icmp .eq 5, 3) := by decide +kernel
theorem dX6_dual_25 : decode cX6_dual 25 = .ok (.iconst 0, 1) := by decide +kernel
theorem dX6_dual_26 : decode cX6_dual 26 = .ok (.ireturn, 1) := by decide +kernel
theorem dX6_dual_27 : decode cX6_dual 27 = .ok (.aload_n 0, 1) := by decide +kernel
theorem dX6_dual_28 : decode cX6_dual 28 = .ok (.iload_n 1, 1) := by decide +kernel
theorem dX6_dual_29 : decode cX6_dual 29 = .ok (.invokevirtual 155, 3) := by decide +kernel
theorem dX6_dual_32 : decode cX6_dual 32 = .ok (.lstore_n 2, 1) := by decide +kernel
theorem dX6_dual_33 : decode cX6_dual 33 = .ok (.lload_n 2, 1) := by decide +kernel
theorem dX6_dual_34 : decode cX6_dual 34 = .ok (.lconst 0, 1) := by decide +kernel
theorem dX6_dual_35 : decode cX6_dual 35 = .ok (.lcmp, 1) := by decide +kernel
theorem dX6_dual_36 : decode cX6_dual 36 = .ok (.ifCond .ne 5, 3) := by decide +kernel
theorem dX6_dual_39 : decode cX6_dual 39 = .ok (.iconst 0, 1) := by decide +kernel
theorem dX6_dual_40 : decode cX6_dual 40 = .ok (.ireturn, 1) := by decide +kernel
theorem dX6_dual_41 : decode cX6_dual 41 = .ok (.aload_n 0, 1) := by decide +kernel
theorem dX6_dual_42 : decode cX6_dual 42 = .ok (.getfield 37, 3) := by decide +kernel
theorem dX6_dual_45 : decode cX6_dual 45 = .ok (.iload_n 1, 1) := by decide +kernel
theorem dX6_dual_46 : decode cX6_dual 46 = .ok (.iaload, 1) := by decide +kernel
theorem dX6_dual_47 : decode cX6_dual 47 = .ok (.istore 4, 2) := by decide +kernel
theorem dX6_dual_49 : decode cX6_dual 49 = .ok (.lload_n 2, 1) := by decide +kernel
theorem dX6_dual_50 : decode cX6_dual 50 = .ok (.lstore 5, 2) := by decide +kernel
theorem dX6_dual_52 : decode cX6_dual 52 = .ok (.iconst 0, 1) := by decide +kernel
theorem dX6_dual_53 : decode cX6_dual 53 = .ok (.istore 7, 2) := by decide +kernel
theorem dX6_dual_55 : decode cX6_dual 55 = .ok (.iload 7, 2) := by decide +kernel
theorem dX6_dual_57 : decode cX6_dual 57 = .ok (.iload 4, 2) := by decide +kernel
theorem dX6_dual_59 : decode cX6_dual 59 = .ok (.if_icmp .ge 41, 3) := by decide +kernel
theorem dX6_dual_62 : decode cX6_dual 62 = .ok (.iconst 0, 1) := by decide +kernel
theorem dX6_dual_63 : decode cX6_dual 63 = .ok (.istore 8, 2) := by decide +kernel
theorem dX6_dual_65 : decode cX6_dual 65 = .ok (.iload 8, 2) := by decide +kernel
theorem dX6_dual_67 : decode cX6_dual 67 = .ok (.iload 4, 2) := by decide +kernel
theorem dX6_dual_69 : decode cX6_dual 69 = .ok (.if_icmp .ge 25, 3) := by decide +kernel
theorem dX6_dual_72 : decode cX6_dual 72 = .ok (.lload 5, 2) := by decide +kernel
theorem dX6_dual_74 : decode cX6_dual 74 = .ok (.aload_n 0, 1) := by decide +kernel
theorem dX6_dual_75 : decode cX6_dual 75 = .ok (.iload_n 1, 1) := by decide +kernel
theorem dX6_dual_76 : decode cX6_dual 76 = .ok (.iload 7, 2) := by decide +kernel
theorem dX6_dual_78 : decode cX6_dual 78 = .ok (.iload 8, 2) := by decide +kernel
theorem dX6_dual_80 : decode cX6_dual 80 = .ok (.invokevirtual 211, 3) := by decide +kernel
theorem dX6_dual_83 : decode cX6_dual 83 = .ok (.invokestatic 207, 3) := by decide +kernel
theorem dX6_dual_86 : decode cX6_dual 86 = .ok (.lstore 5, 2) := by decide +kernel
theorem dX6_dual_88 : decode cX6_dual 88 = .ok (.iinc 8 1, 3) := by decide +kernel
theorem dX6_dual_91 : decode cX6_dual 91 = .ok (.goto (-26), 3) := by decide +kernel
theorem dX6_dual_94 : decode cX6_dual 94 = .ok (.iinc 7 1, 3) := by decide +kernel
theorem dX6_dual_97 : decode cX6_dual 97 = .ok (.goto (-42), 3) := by decide +kernel
theorem dX6_dual_100 : decode cX6_dual 100 = .ok (.aload_n 0, 1) := by decide +kernel
theorem dX6_dual_101 : decode cX6_dual 101 = .ok (.invokevirtual 195, 3) := by decide +kernel
theorem dX6_dual_104 : decode cX6_dual 104 = .ok (.iconst 0, 1) := by decide +kernel
theorem dX6_dual_105 : decode cX6_dual 105 = .ok (.istore 7, 2) := by decide +kernel
theorem dX6_dual_107 : decode cX6_dual 107 = .ok (.iload 7, 2) := by decide +kernel
theorem dX6_dual_109 : decode cX6_dual 109 = .ok (.iload 4, 2) := by decide +kernel
theorem dX6_dual_111 : decode cX6_dual 111 = .ok (.if_icmp .ge 132, 3) := by decide +kernel
theorem dX6_dual_114 : decode cX6_dual 114 = .ok (.iconst 0, 1) := by decide +kernel
theorem dX6_dual_115 : decode cX6_dual 115 = .ok (.istore 8, 2) := by decide +kernel
theorem dX6_dual_117 : decode cX6_dual 117 = .ok (.iload 8, 2) := by decide +kernel
theorem dX6_dual_119 : decode cX6_dual 119 = .ok (.iconst 5, 1) := by decide +kernel
theorem dX6_dual_120 : decode cX6_dual 120 = .ok (.if_icmp .ge 42, 3) := by decide +kernel
theorem dX6_dual_123 : decode cX6_dual 123 = .ok (.aload_n 0, 1) := by decide +kernel
theorem dX6_dual_124 : decode cX6_dual 124 = .ok (.sipush 150, 3) := by decide +kernel
theorem dX6_dual_127 : decode cX6_dual 127 = .ok (.iload 8, 2) := by decide +kernel
theorem dX6_dual_129 : decode cX6_dual 129 = .ok (.iadd, 1) := by decide +kernel
theorem dX6_dual_130 : decode cX6_dual 130 = .ok (.iload 8, 2) := by decide +kernel
theorem dX6_dual_132 : decode cX6_dual 132 = .ok (.iload 4, 2) := by decide +kernel
theorem dX6_dual_134 : decode cX6_dual 134 = .ok (.if_icmp .ge 18, 3) := by decide +kernel
theorem dX6_dual_137 : decode cX6_dual 137 = .ok (.aload_n 0, 1) := by decide +kernel
theorem dX6_dual_138 : decode cX6_dual 138 = .ok (.iload_n 1, 1) := by decide +kernel
theorem dX6_dual_139 : decode cX6_dual 139 = .ok (.iload 7, 2) := by decide +kernel
theorem dX6_dual_141 : decode cX6_dual 141 = .ok (.iload 8, 2) := by decide +kernel
theorem dX6_dual_143 : decode cX6_dual 143 = .ok (.invokevirtual 211, 3) := by decide +kernel
theorem dX6_dual_146 : decode cX6_dual 146 = .ok (.lload 5, 2) := by decide +kernel
theorem dX6_dual_148 : decode cX6_dual 148 = .ok (.ldiv, 1) := by decide +kernel
theorem dX6_dual_149 : decode cX6_dual 149 = .ok (.goto 4, 3) := by decide +kernel
theorem dX6_dual_152 : decode cX6_dual 152 = .ok (.lconst 0, 1) := by decide +kernel
theorem dX6_dual_153 : decode cX6_dual 153 = .ok (.invokevirtual 83, 3) := by decide +kernel
theorem dX6_dual_156 : decode cX6_dual 156 = .ok (.iinc 8 1, 3) := by decide +kernel
theorem dX6_dual_159 : decode cX6_dual 159 = .ok (.goto (-42), 3) := by decide +kernel
theorem dX6_dual_162 : decode cX6_dual 162 = .ok (.iconst 0, 1) := by decide +kernel
theorem dX6_dual_163 : decode cX6_dual 163 = .ok (.istore 8, 2) := by decide +kernel
theorem dX6_dual_165 : decode cX6_dual 165 = .ok (.iload 8, 2) := by decide +kernel
theorem dX6_dual_167 : decode cX6_dual 167 = .ok (.bipush 10, 2) := by decide +kernel
theorem dX6_dual_169 : decode cX6_dual 169 = .ok (.if_icmp .ge 20, 3) := by decide +kernel
theorem dX6_dual_172 : decode cX6_dual 172 = .ok (.aload_n 0, 1) := by decide +kernel
theorem dX6_dual_173 : decode cX6_dual 173 = .ok (.sipush 155, 3) := by decide +kernel
theorem dX6_dual_176 : decode cX6_dual 176 = .ok (.iload 8, 2) := by decide +kernel
theorem dX6_dual_178 : decode cX6_dual 178 = .ok (.iadd, 1) := by decide +kernel
theorem dX6_dual_179 : decode cX6_dual 179 = .ok (.lconst 0, 1) := by decide +kernel
theorem dX6_dual_180 : decode cX6_dual 180 = .ok (.invokevirtual 83, 3) := by decide +kernel
theorem dX6_dual_183 : decode cX6_dual 183 = .ok (.iinc 8 1, 3) := by decide +kernel
theorem dX6_dual_186 : decode cX6_dual 186 = .ok (.goto (-21), 3) := by decide +kernel
theorem dX6_dual_189 : decode cX6_dual 189 = .ok (.aload_n 0, 1) := by decide +kernel
theorem dX6_dual_190 : decode cX6_dual 190 = .ok (.iconst 0, 1) := by decide +kernel
theorem dX6_dual_191 : decode cX6_dual 191 = .ok (.bipush 15, 2) := by decide +kernel
theorem dX6_dual_193 : decode cX6_dual 193 = .ok (.bipush 15, 2) := by decide +kernel
theorem dX6_dual_195 : decode cX6_dual 195 = .ok (.iconst 5, 1) := by decide +kernel
theorem dX6_dual_196 : decode cX6_dual 196 = .ok (.aload_n 0, 1) := by decide +kernel
theorem dX6_dual_197 : decode cX6_dual 197 = .ok (.getfield 27, 3) := by decide +kernel
theorem dX6_dual_200 : decode cX6_dual 200 = .ok (.aload_n 0, 1) := by decide +kernel
theorem dX6_dual_201 : decode cX6_dual 201 = .ok (.getfield 117, 3) := by decide +kernel
theorem dX6_dual_204 : decode cX6_dual 204 = .ok (.invokevirtual 120, 3) := by decide +kernel
theorem dX6_dual_207 : decode cX6_dual 207 = .ok (.ifCond .eq 13, 3) := by decide +kernel
theorem dX6_dual_210 : decode cX6_dual 210 = .ok (.aload_n 0, 1) := by decide +kernel
theorem dX6_dual_211 : decode cX6_dual 211 = .ok (.dup, 1) := by decide +kernel
theorem dX6_dual_212 : decode cX6_dual 212 = .ok (.getfield 117, 3) := by decide +kernel
theorem dX6_dual_215 : decode cX6_dual 215 = .ok (.iconst 1, 1) := by decide +kernel
theorem dX6_dual_216 : decode cX6_dual 216 = .ok (.iadd, 1) := by decide +kernel
theorem dX6_dual_217 : decode cX6_dual 217 = .ok (.putfield 117, 3) := by decide +kernel
theorem dX6_dual_220 : decode cX6_dual 220 = .ok (.aload_n 0, 1) := by decide +kernel
theorem dX6_dual_221 : decode cX6_dual 221 = .ok (.iconst 0, 1) := by decide +kernel
theorem dX6_dual_222 : decode cX6_dual 222 = .ok (.bipush 15, 2) := by decide +kernel
theorem dX6_dual_224 : decode cX6_dual 224 = .ok (.bipush 15, 2) := by decide +kernel
theorem dX6_dual_226 : decode cX6_dual 226 = .ok (.aload_n 0, 1) := by decide +kernel
theorem dX6_dual_227 : decode cX6_dual 227 = .ok (.getfield 27, 3) := by decide +kernel
theorem dX6_dual_230 : decode cX6_dual 230 = .ok (.aload_n 0, 1) := by decide +kernel
theorem dX6_dual_231 : decode cX6_dual 231 = .ok (.getfield 117, 3) := by decide +kernel
theorem dX6_dual_234 : decode cX6_dual 234 = .ok (.invokevirtual 127, 3) := by decide +kernel
theorem dX6_dual_237 : decode cX6_dual 237 = .ok (.iinc 7 1, 3) := by decide +kernel
theorem dX6_dual_240 : decode cX6_dual 240 = .ok (.goto (-133), 3) := by decide +kernel
theorem dX6_dual_243 : decode cX6_dual 243 = .ok (.iconst 0, 1) := by decide +kernel
theorem dX6_dual_244 : decode cX6_dual 244 = .ok (.istore 7, 2) := by decide +kernel
theorem dX6_dual_246 : decode cX6_dual 246 = .ok (.iload 7, 2) := by decide +kernel
theorem dX6_dual_248 : decode cX6_dual 248 = .ok (.iload 4, 2) := by decide +kernel
theorem dX6_dual_250 : decode cX6_dual 250 = .ok (.if_icmp .ge 43, 3) := by decide +kernel
theorem dX6_dual_253 : decode cX6_dual 253 = .ok (.aload_n 0, 1) := by decide +kernel
theorem dX6_dual_254 : decode cX6_dual 254 = .ok (.sipush 265, 3) := by decide +kernel
theorem dX6_dual_257 : decode cX6_dual 257 = .ok (.iload 7, 2) := by decide +kernel
theorem dX6_dual_259 : decode cX6_dual 259 = .ok (.iadd, 1) := by decide +kernel
theorem dX6_dual_260 : decode cX6_dual 260 = .ok (.iload 7, 2) := by decide +kernel
theorem dX6_dual_262 : decode cX6_dual 262 = .ok (.ifCond .ne 21, 3) := by decide +kernel
theorem dX6_dual_265 : decode cX6_dual 265 = .ok (.lload_n 2, 1) := by decide +kernel
theorem dX6_dual_266 : decode cX6_dual 266 = .ok (.lconst 0, 1) := by decide +kernel
theorem dX6_dual_267 : decode cX6_dual 267 = .ok (.lcmp, 1) := by decide +kernel
theorem dX6_dual_268 : decode cX6_dual 268 = .ok (.ifCond .ge 8, 3) := by decide +kernel
theorem dX6_dual_271 : decode cX6_dual 271 = .ok (.lload_n 2, 1) := by decide +kernel
theorem dX6_dual_272 : decode cX6_dual 272 = .ok (.lneg, 1) := by decide +kernel
theorem dX6_dual_273 : decode cX6_dual 273 = .ok (.goto 4, 3) := by decide +kernel
theorem dX6_dual_276 : decode cX6_dual 276 = .ok (.lload_n 2, 1) := by decide +kernel
theorem dX6_dual_277 : decode cX6_dual 277 = .ok (.lload 5, 2) := by decide +kernel
theorem dX6_dual_279 : decode cX6_dual 279 = .ok (.ldiv, 1) := by decide +kernel
theorem dX6_dual_280 : decode cX6_dual 280 = .ok (.goto 4, 3) := by decide +kernel
theorem dX6_dual_283 : decode cX6_dual 283 = .ok (.lconst 0, 1) := by decide +kernel
theorem dX6_dual_284 : decode cX6_dual 284 = .ok (.invokevirtual 83, 3) := by decide +kernel
theorem dX6_dual_287 : decode cX6_dual 287 = .ok (.iinc 7 1, 3) := by decide +kernel
theorem dX6_dual_290 : decode cX6_dual 290 = .ok (.goto (-44), 3) := by decide +kernel
theorem dX6_dual_293 : decode cX6_dual 293 = .ok (.iconst 0, 1) := by decide +kernel
theorem dX6_dual_294 : decode cX6_dual 294 = .ok (.istore 7, 2) := by decide +kernel
theorem dX6_dual_296 : decode cX6_dual 296 = .ok (.iload 7, 2) := by decide +kernel
theorem dX6_dual_298 : decode cX6_dual 298 = .ok (.iload 4, 2) := by decide +kernel
theorem dX6_dual_300 : decode cX6_dual 300 = .ok (.if_icmp .ge 51, 3) := by decide +kernel
theorem dX6_dual_303 : decode cX6_dual 303 = .ok (.iconst 0, 1) := by decide +kernel
theorem dX6_dual_304 : decode cX6_dual 304 = .ok (.istore 8, 2) := by decide +kernel
theorem dX6_dual_306 : decode cX6_dual 306 = .ok (.iload 8, 2) := by decide +kernel
theorem dX6_dual_308 : decode cX6_dual 308 = .ok (.iload 4, 2) := by decide +kernel
theorem dX6_dual_310 : decode cX6_dual 310 = .ok (.if_icmp .ge 35, 3) := by decide +kernel
theorem dX6_dual_313 : decode cX6_dual 313 = .ok (.aload_n 0, 1) := by decide +kernel
theorem dX6_dual_314 : decode cX6_dual 314 = .ok (.bipush 15, 2) := by decide +kernel
theorem dX6_dual_316 : decode cX6_dual 316 = .ok (.iload 7, 2) := by decide +kernel
theorem dX6_dual_318 : decode cX6_dual 318 = .ok (.imul, 1) := by decide +kernel
theorem dX6_dual_319 : decode cX6_dual 319 = .ok (.iload 8, 2) := by decide +kernel
theorem dX6_dual_321 : decode cX6_dual 321 = .ok (.iadd, 1) := by decide +kernel
theorem dX6_dual_322 : decode cX6_dual 322 = .ok (.sipush 265, 3) := by decide +kernel
theorem dX6_dual_325 : decode cX6_dual 325 = .ok (.bipush 10, 2) := by decide +kernel
theorem dX6_dual_327 : decode cX6_dual 327 = .ok (.iload 7, 2) := by decide +kernel
theorem dX6_dual_329 : decode cX6_dual 329 = .ok (.iconst 1, 1) := by decide +kernel
theorem dX6_dual_330 : decode cX6_dual 330 = .ok (.iadd, 1) := by decide +kernel
theorem dX6_dual_331 : decode cX6_dual 331 = .ok (.imul, 1) := by decide +kernel
theorem dX6_dual_332 : decode cX6_dual 332 = .ok (.iadd, 1) := by decide +kernel
theorem dX6_dual_333 : decode cX6_dual 333 = .ok (.iload 8, 2) := by decide +kernel
theorem dX6_dual_335 : decode cX6_dual 335 = .ok (.iadd, 1) := by decide +kernel
theorem dX6_dual_336 : decode cX6_dual 336 = .ok (.invokevirtual 67, 3) := by decide +kernel
theorem dX6_dual_339 : decode cX6_dual 339 = .ok (.iinc 8 1, 3) := by decide +kernel
theorem dX6_dual_342 : decode cX6_dual 342 = .ok (.goto (-36), 3) := by decide +kernel
theorem dX6_dual_345 : decode cX6_dual 345 = .ok (.iinc 7 1, 3) := by decide +kernel
theorem dX6_dual_348 : decode cX6_dual 348 = .ok (.goto (-52), 3) := by decide +kernel
theorem dX6_dual_351 : decode cX6_dual 351 = .ok (.aload_n 0, 1) := by decide +kernel
theorem dX6_dual_352 : decode cX6_dual 352 = .ok (.iload 4, 2) := by decide +kernel
theorem dX6_dual_354 : decode cX6_dual 354 = .ok (.iconst 1, 1) := by decide +kernel
theorem dX6_dual_355 : decode cX6_dual 355 = .ok (.iadd, 1) := by decide +kernel
theorem dX6_dual_356 : decode cX6_dual 356 = .ok (.iload 4, 2) := by decide +kernel
theorem dX6_dual_358 : decode cX6_dual 358 = .ok (.invokevirtual 189, 3) := by decide +kernel
theorem dX6_dual_361 : decode cX6_dual 361 = .ok (.iload 4, 2) := by decide +kernel
theorem dX6_dual_363 : decode cX6_dual 363 = .ok (.iconst 1, 1) := by decide +kernel
theorem dX6_dual_364 : decode cX6_dual 364 = .ok (.iadd, 1) := by decide +kernel
theorem dX6_dual_365 : decode cX6_dual 365 = .ok (.ireturn, 1) := by decide +kernel
set_option maxRecDepth 20000 in
theorem f5_dual (d : Nat) {g : GX} {V : AH} {mo sz r i : Nat} {kn ar ac : Int} {N : Mat} {zs : Nat → Int} {l : Nat → Nat} {lv : List (Nat × Value)} {Q : AQ} (hlv : lv.lookup 0 = some (.ref mo)) (hG : G5 g mo V r kn ar ac l zs) (hr4 : r ≤ 4) (hri : r ≤ i) (hN : ∀ a b, a < i → b < 5 → ab (N a b) ≤ XB) (hsp : SpEq N i (BMx 0 15 zs) r 5) (hR : ∀ j, j < 5 → N i j = zs (150 + j)) (hRb : ∀ j, j < 5 → ab (N i j) ≤ XB) (hc0 : ∀ t, 5 ≤ t → t < 15 → zs (150 + t) = 0) (hKK : ∀ {V' : AH} {z' : Nat → Int} {r' : Nat} {l' : Nat → Nat}, G5 g mo V' r' kn ar ac l' z' → SpEq N (i + 1) (BMx 0 15 z') r' 5 → r' ≤ i + 1 → (∀ a, ¬ E5 mo a → V' a = V a) → Frm zs z' InC → AW g mX6_dual (d + 5) 237 lv [] V' sz Q) : AW g mX6_dual (d + 5) 189 lv [] V sz Q := by
  obtain ⟨RW, hmo, hra, hl, hM, hst, hz⟩ := hG
  obtain ⟨β, hg, hβ, hP, hq⟩ := gpr5 hst hz hr4 ((lbm5 hN).eq hsp) (fun t ht => by rw [← hR t ht]; exact hRb t ht) hc0
  have hcw := cw5 (zs := zs) hr4 hP hq
  have TAIL : ∀ {V4 : AH} {z4 : Nat → Int} (r4 : Nat) (l4 : Nat → Nat) (RW4 e4 : Nat → Int), r4 ≤ r + 1 → V4 mo = some (moO mo r4 kn ar ac) → V4 (mo + 6) = some (aIz g 11 RW4) → (∀ i, i < r4 → RW4 i = (l4 i : Int)) → MN g mo V4 z4 → (∀ i, i < r4 → l4 i < 5) → Frm zs z4 InC → (∀ a, ¬ E5 mo a → V4 a = V a) → RdP (BMx 0 15 z4) r4 15 l4 β e4 → (∀ t, 0 ≤ er e4 (fun n => β (l4 n)) r4 * β t ∧ er e4 (fun n => β (l4 n)) r4 * β t ≤ BB) → SpEq (GMx 0 15 r zs) (r + 1) (BMx 0 15 z4) r4 15 → AW g mX6_dual (d + 5) 220 lv [] V4 sz Q := fun {V4 z4} r4 l4 RW4 e4 hr4' hmo4 hra4 hl4 hM4 hl45 hF4 hV4 hp4 he4 hsp4 => by
    refine aw_aload_n dX6_dual_220 hlv (Or.inr ⟨_, rfl⟩) ?_
    refine aw_iconstZ dX6_dual_221 ?_
    refine aw_bipushZ dX6_dual_222 (by decide) ?_
    refine aw_bipushZ dX6_dual_224 (by decide) ?_
    refine aw_aload_n dX6_dual_226 hlv (Or.inr ⟨_, rfl⟩) ?_
    refine aw_get fX6_27 dX6_dual_227 hmo4 (by rfl) ?_
    refine aw_aload_n dX6_dual_230 hlv (Or.inr ⟨_, rfl⟩) ?_
    refine aw_get fX6_117 dX6_dual_231 hmo4 (by rfl) ?_
    refine aw_callv vX6_127 dX6_dual_234 hmo4 (m_redS g (d + 1) (h := r4) (RW := RW4) (β := β) (e := e4) (l := l4) ⟨_, _, ar, ac, hmo4⟩ hM4 hra4 (by omega) hl4 hp4 (fun t _ => smT bb_sm (by rw [ab_pos (he4 t).1]; exact (he4 t).2))) (by rfl) (by rfl) (by omega) (Nat.le_of_ble_eq_true rfl) ?_
    rintro _ V5 _ _ _ ⟨rfl, rfl, rfl, hE5, rfl, z5, hM5, hF5, hS5, hP5, -⟩ -
    refine q0 ?_
    have hsp15 := hsp4.tr hP5
    exact hKK ⟨RW4, (hE5 mo (by unfold EN; omega)).trans hmo4, (hE5 _ (by unfold EN; omega)).trans hra4, hl4, hM5, hS5.w5 hl45, z15_of hsp15 (gz15 hz hc0)⟩ ((gm_snoc hsp hR).tr hsp15.w5) (by omega) (fun a ha => (hE5 a (fun z => ha (by unfold EN at z; unfold E5; omega))).trans (hV4 a ha)) (fun q hq => (hF5 q (by unfold InC at hq; unfold InR; omega)).trans (hF4 q hq))
  refine aw_aload_n dX6_dual_189 hlv (Or.inr ⟨_, rfl⟩) ?_
  refine aw_iconstZ dX6_dual_190 ?_
  refine aw_bipushZ dX6_dual_191 (by decide) ?_
  refine aw_bipushZ dX6_dual_193 (by decide) ?_
  refine aw_iconstZ dX6_dual_195 ?_
  refine aw_aload_n dX6_dual_196 hlv (Or.inr ⟨_, rfl⟩) ?_
  refine aw_get fX6_27 dX6_dual_197 hmo (by rfl) ?_
  refine aw_aload_n dX6_dual_200 hlv (Or.inr ⟨_, rfl⟩) ?_
  refine aw_get fX6_117 dX6_dual_201 hmo (by rfl) ?_
  refine aw_callv vX6_120 dX6_dual_204 hmo (m_goesS g d (h := r) (RW := RW) (β := β) (l := l) (X := XB) ⟨_, _, ar, ac, hmo⟩ hM hra (by omega) hl hg (fun t ht => smT gs_sm (by rw [ab_pos (Int.mul_nonneg (by have := hg.cw1 (Nat.le_refl r); omega) (by have := (hβ t).1; omega))]; exact Int.mul_le_mul hcw (hβ t).2 (by have := (hβ t).1; omega) (by have := hg.cw1 (Nat.le_refl r); omega)))) (by rfl) (by rfl) (by omega) (Nat.le_of_ble_eq_true rfl) ?_
  rintro _ V3 _ _ _ ⟨rfl, rfl, rfl, hE3, z3, hM3, hF3, hr3⟩ -
  refine q0 ?_
  have hmo3 := (hE3 mo (by unfold ER EN; omega)).trans hmo
  have hV3 : ∀ a, ¬ E5 mo a → V3 a = V a := fun a ha => hE3 a (fun z => ha (by unfold ER EN at z; unfold E5; omega))
  rcases hr3 with ⟨rfl, hra3, hn3⟩ | ⟨s, j, rfl, hra3, hy3⟩
  · refine aw_if_eqZ (tgt := 220) dX6_dual_207 (by decide) (by omega) (fun _ => ?_) (fun h => absurd rfl h)
    obtain ⟨e4, a4, b4, c4⟩ := no5 hr4 hg hβ hP hq hn3 (fun t h1 h2 => by
      obtain ⟨cf, hcf⟩ := (hn3.1 (GMx 0 15 r z3 r)).mpr (Span.row (by omega))
      rw [hcf t h2]
      exact Sg_zero (fun k hk => by rw [gz15 hz hc0 k t hk h1 h2, Int.mul_zero]))
    exact TAIL r l RW e4 (by omega) hmo3 hra3 hl hM3 (fun i hi => (hst.1.1 i hi).1) (fun q hq => hF3 q (by unfold InC at hq; unfold InG; omega)) hV3 a4 b4 c4
  · refine aw_if_eqZ (tgt := 220) dX6_dual_207 (by decide) (by omega) (fun h => absurd h (by decide)) (fun _ => ?_)
    obtain ⟨e4, a4, b4, c5, c4⟩ := ye5 hr4 hg hβ hP hq hy3
    refine aw_aload_n dX6_dual_210 hlv (Or.inr ⟨_, rfl⟩) ?_
    refine aw_dup dX6_dual_211 rfl ?_
    refine aw_get fX6_117 dX6_dual_212 hmo3 (by rfl) ?_
    refine aw_iconstZ dX6_dual_215 ?_
    refine aw_iaddZ dX6_dual_216 ?_
    refine aw_put fX6_117 dX6_dual_217 hmo3 (by rfl) (by rfl) (Nat.le_of_ble_eq_true rfl) ?_
    exact TAIL (r + 1) (insF l s r j) (insF RW s r (j : Int)) e4 (by omega) (AHu_self _ _ _) ((AHu_ne (by omega)).trans hra3) (fun i hi => by
      unfold insF
      split
      · rfl
      · split
        · exact hl (i - 1) (by omega)
        · exact hl i (by have := hy3.2.1; omega)) (hM3.kept (fun a ha => AHu_ne (by unfold EN at ha; omega))) c4 (fun q hq => hF3 q (by unfold InC at hq; unfold InG; omega)) (fun a ha => (AHu_ne (fun z => ha (by unfold E5; omega))).trans (hV3 a ha)) a4 b4 c5

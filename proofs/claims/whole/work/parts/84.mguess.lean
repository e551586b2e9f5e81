/-! ===== the reference: divides, the other scaling; the guess ===== -/
theorem sd_loop (d : Nat) {g : GX} {mo sz : Nat} {rk kn ar ac : Int} {D LN SG O2 : Nat → Int} {V0 : AH} {a e c na ne : Nat} {s f : Int} {Q : AQ} (ha : a < 460) (hna : na ≤ 100) (hf : 0 ≤ f ∧ f < 268435456) (hFa : ∀ i, i < na → 0 ≤ dg D a i ∧ dg D a i < 268435456)
    (hKK : ∀ {V : AH} {X : Nat → Int} {w : Int}, V mo = some (moO mo rk kn ar ac) → MA g mo V D LN SG X O2 → (∀ a, ¬ EN mo a → V a = V0 a) → (∀ i, i < na → 0 ≤ X i ∧ X i < 268435456) → (0 ≤ w ∧ w < 268435456) → mg 268435456 X na + w * 268435456 ^ na = f * mg 268435456 (dg D a) na → AW g mX6_divides d 222 [(9, .long (jZ w)), (7, .long (jZ f)), (6, .int (iZ s)), (5, .int (iZ na)), (4, .int (iZ ne)), (0, .ref mo), (1, .int (iZ a)), (2, .int (iZ e)), (3, .int (iZ c))] [] V sz Q) : ∀ (y k : Nat), k + y = na → ∀ {V : AH} {X : Nat → Int} {w : Int}, V mo = some (moO mo rk kn ar ac) → MA g mo V D LN SG X O2 → (∀ a, ¬ EN mo a → V a = V0 a) → (∀ i, i < k → 0 ≤ X i ∧ X i < 268435456) → (0 ≤ w ∧ w < 268435456) → mg 268435456 X k + w * 268435456 ^ k = f * mg 268435456 (dg D a) k → AW g mX6_divides d 167 [(11, .int (iZ k)), (9, .long (jZ w)), (7, .long (jZ f)), (6, .int (iZ s)), (5, .int (iZ na)), (4, .int (iZ ne)), (0, .ref mo), (1, .int (iZ a)), (2, .int (iZ e)), (3, .int (iZ c))] [] V sz Q
  | 0, k, hy, V, X, w, hmo, hA, hV, hF, hw, hE => by
    refine aw_iload dX6_divides_167 (by rfl) ?_
    refine aw_iload dX6_divides_169 (by rfl) ?_
    refine aw_icmp_geZ (tgt := 222) dX6_divides_171 (by decide) (by omega) (by omega) (fun hc_171 => ?_) (fun hc_171 => ?_)
    · obtain rfl : k = na := by omega
      exact aw_pk [9, 7, 6, 5, 4, 0, 1, 2, 3] (by rfl) (hKK hmo hA hV hF hw hE)
    · exact absurd hc_171 (by omega)
  | y + 1, k, hy, V, X, w, hmo, hA, hV, hF, hw, hE => by
    have IH := fun k hk => @sd_loop d g mo sz rk kn ar ac D LN SG O2 V0 a e c na ne s f Q ha hna hf hFa hKK y k hk
    clear hKK
    obtain ⟨v, hv0⟩ : ∃ v, f * dg D a k + w = v := ⟨_, rfl⟩
    have hvb := sc_bd hw hf (hFa k (by omega))
    rw [hv0] at hvb
    refine aw_iload dX6_divides_167 (by rfl) ?_
    refine aw_iload dX6_divides_169 (by rfl) ?_
    refine aw_icmp_geZ (tgt := 222) dX6_divides_171 (by decide) (by omega) (by omega) (fun hc_171 => ?_) (fun hc_171 => ?_)
    · exact absurd hc_171 (by omega)
    · refine aw_lload dX6_divides_174 (by rfl) ?_
      refine aw_aload_n dX6_divides_176 (by rfl) (Or.inr ⟨_, rfl⟩) ?_
      refine aw_get fX6_8 dX6_divides_177 hmo (by rfl) ?_
      refine aw_bipushZ dX6_divides_180 (by decide) ?_
      refine aw_iload_n dX6_divides_182 (by rfl) ?_
      refine aw_imulZ dX6_divides_183 ?_
      refine aw_iload dX6_divides_184 (by rfl) ?_
      refine aw_iaddZ dX6_divides_186 ?_
      refine aw_ialdZ (100 * a + k) dX6_divides_187 hA.1 (by omega) (by omega) (by omega) ?_
      refine aw_i2lZ dX6_divides_188 (by have := hFa k (by omega); unfold dg at this; omega) ?_
      refine aw_lmulZ dX6_divides_189 ?_
      refine aw_lload dX6_divides_190 (by rfl) ?_
      refine aw_laddZ dX6_divides_192 ?_
      refine aw_topl (y := v) hv0 ?_
      refine aw_lstore dX6_divides_193 (by decide) ?_
      refine aw_aload_n dX6_divides_195 (by rfl) (Or.inr ⟨_, rfl⟩) ?_
      refine aw_get fX6_20 dX6_divides_196 hmo (by rfl) ?_
      refine aw_iload dX6_divides_199 (by rfl) ?_
      refine aw_lload dX6_divides_201 (by rfl) ?_
      refine aw_ldc2Z (z := 268435456) qX6_65 dX6_divides_203 (by decide) ?_
      refine aw_lremZ dX6_divides_206 (by omega) (by omega) (by omega) (by omega) ?_
      rw [Int.tmod_eq_emod_of_nonneg (by omega)]
      refine aw_lastZ (k) dX6_divides_207 hA.2.2.2.1 (by omega) (by omega) (by omega) ?_
      refine aw_lload dX6_divides_208 (by rfl) ?_
      refine aw_ldc2Z (z := 268435456) qX6_65 dX6_divides_210 (by decide) ?_
      refine aw_ldivZ dX6_divides_213 (by omega) (by omega) (by omega) (by omega) ?_
      rw [Int.tdiv_eq_ediv_of_nonneg (by omega)]
      refine aw_lstore dX6_divides_214 (by decide) ?_
      refine aw_iincZ dX6_divides_216 (by rfl) (by decide) ?_
      refine aw_goto (tgt := 167) dX6_divides_219 (by decide) ?_
      rw [show ((k : Int) + 1) = ((k + 1 : Nat) : Int) by omega]
      refine aw_pk [11, 9, 7, 6, 5, 4, 0, 1, 2, 3] (by rfl) ?_
      exact IH (k + 1) (by omega) ((AHu_ne (by omega)).trans hmo) hA.o1 (fun a ha => (AHu_ne (fun z => ha (by unfold EN; omega))).trans (hV a ha)) (fun i hi => by
        unfold upF; split
        · omega
        · exact hF i (by omega)) (by omega) (sc_step hE hv0)
theorem gl_step (d : Nat) {g : GX} {V : AH} {mo sz : Nat} {rk kn ar ac : Int} {D LN SG U X : Nat → Int} {a e c na ne p : Nat} {s f v1 v2 u2 u1 u0 v W : Int} {Q : AQ} (hmo : V mo = some (moO mo rk kn ar ac)) (hA : MA g mo V D LN SG U X) (hne : 1 ≤ ne ∧ ne ≤ 100) (hp : p + ne < 220) (hKD : KDm v1 v2 u2 u1 u0 v W) (hv1e : X (ne - 1) = v1) (hn2 : 1 < ne → X (ne - 2) = v2) (hn1 : ne ≤ 1 → 0 = v2) (hm2 : 1 < ne → U (p + ne - 2) = u0) (hm1 : ne ≤ 1 → 0 = u0)
    (hKK : ∀ q : Int, 0 ≤ q ∧ q ≤ 268435456 → W < (q + 1) * v → (q - 1) * v ≤ W → AW g mX6_divides d 382 [(14, .long (jZ q)), (11, .int (iZ p)), (7, .long (jZ f)), (6, .int (iZ s)), (5, .int (iZ na)), (4, .int (iZ ne)), (0, .ref mo), (1, .int (iZ a)), (2, .int (iZ e)), (3, .int (iZ c))] [] V sz Q) {q over : Int} (hval : u2 * 268435456 + u1 = q * v1 + over) (hq0 : 0 ≤ q) (hov : 0 ≤ over ∧ over < 268435456) (hW : W < (q + 1) * v) (hqb : q ≤ 268435457)
    (REC : over + v1 < 268435456 → W < q * v → 1 ≤ q → AW g mX6_divides d 300 [(16, .long (jZ (over + v1))), (14, .long (jZ (q - 1))), (11, .int (iZ p)), (7, .long (jZ f)), (6, .int (iZ s)), (5, .int (iZ na)), (4, .int (iZ ne)), (0, .ref mo), (1, .int (iZ a)), (2, .int (iZ e)), (3, .int (iZ c))] [] V sz Q) : AW g mX6_divides d 300 [(16, .long (jZ over)), (14, .long (jZ q)), (11, .int (iZ p)), (7, .long (jZ f)), (6, .int (iZ s)), (5, .int (iZ na)), (4, .int (iZ ne)), (0, .ref mo), (1, .int (iZ a)), (2, .int (iZ e)), (3, .int (iZ c))] [] V sz Q := by
  have hvp := hKD.vpos
  have hWn : 0 ≤ W ∧ (0 ≤ v2 ∧ v2 < 268435456) ∧ (0 < v1 ∧ v1 < 268435456) ∧ (0 ≤ u0 ∧ u0 < 268435456) := by
    obtain ⟨P, lv, lw, hP, h1, h2, e1, e2, h3, h4, h5, h6, h7, h8⟩ := id hKD
    have : 0 ≤ ((u2 * 268435456 + u1) * 268435456 + u0) * P := Int.mul_nonneg (by omega) (by omega)
    exact ⟨by omega, h3, ⟨by omega, h4.2⟩, h7⟩
  obtain ⟨hW0, hv2, hv1, hu0⟩ := hWn
  have DEC : (268435456 ≤ q ∨ over * 268435456 + u0 < q * v2) → AW g mX6_divides d 350 [(16, .long (jZ over)), (14, .long (jZ q)), (11, .int (iZ p)), (7, .long (jZ f)), (6, .int (iZ s)), (5, .int (iZ na)), (4, .int (iZ ne)), (0, .ref mo), (1, .int (iZ a)), (2, .int (iZ e)), (3, .int (iZ c))] [] V sz Q := fun ht => by
    have hWq := hKD.less hval hq0 ht
    have hq1 : 1 ≤ q := by
      rcases Int.lt_or_le q 1 with h | h
      · have : q = 0 := by omega
        subst this
        rw [Int.zero_mul] at hWq
        omega
      · exact h
    clear ht
    refine aw_lload dX6_divides_350 (by rfl) ?_
    refine aw_lconstZ (z := 1) dX6_divides_352 (by decide) ?_
    refine aw_lsubZ dX6_divides_353 ?_
    refine aw_lstore dX6_divides_354 (by decide) ?_
    refine aw_lload dX6_divides_356 (by rfl) ?_
    refine aw_aload_n dX6_divides_358 (by rfl) (Or.inr ⟨_, rfl⟩) ?_
    refine aw_get fX6_24 dX6_divides_359 hmo (by rfl) ?_
    refine aw_iload dX6_divides_362 (by rfl) ?_
    refine aw_iconstZ dX6_divides_364 ?_
    refine aw_isubZ dX6_divides_365 ?_
    refine aw_laldZ (ne - 1) dX6_divides_366 hA.2.2.2.2 (by omega) (by omega) (by omega) ?_
    rw [hv1e]
    refine aw_laddZ dX6_divides_367 ?_
    refine aw_lstore dX6_divides_368 (by decide) ?_
    refine aw_lload dX6_divides_370 (by rfl) ?_
    refine aw_ldc2Z (z := 268435456) qX6_65 dX6_divides_372 (by decide) ?_
    refine aw_lcmpZ dX6_divides_375 (by omega) (by omega) ?_
    refine aw_if_ltZ (tgt := 300) dX6_divides_376 (by decide) (cmpZ_R _ _) (fun hc_376 => ?_) (fun hc_376 => ?_)
    · have hsm := cmpZ_lt.mp hc_376
      refine aw_pk [16, 14, 11, 7, 6, 5, 4, 0, 1, 2, 3] (by rfl) ?_
      exact REC hsm hWq hq1
    · have hbg : ¬ over + v1 < 268435456 := fun h => hc_376 (cmpZ_lt.mpr h)
      refine aw_goto (tgt := 382) dX6_divides_379 (by decide) ?_
      exact aw_pk [14, 11, 7, 6, 5, 4, 0, 1, 2, 3] (by rfl) (hKK (q - 1) ⟨by omega, by omega⟩ (by rw [show q - 1 + 1 = q by omega]; exact hWq) (hKD.over (over := over + v1) (by rw [Int.sub_mul, Int.one_mul]; omega) (by omega) (by omega) (by omega)))
  refine aw_lload dX6_divides_300 (by rfl) ?_
  refine aw_ldc2Z (z := 268435456) qX6_65 dX6_divides_302 (by decide) ?_
  refine aw_lcmpZ dX6_divides_305 (by omega) (by omega) ?_
  refine aw_if_geZ (tgt := 350) dX6_divides_306 (by decide) (cmpZ_R _ _) (fun hc_306 => ?_) (fun hc_306 => ?_)
  · have hqB := cmpZ_ge.mp hc_306
    exact DEC (Or.inl (by omega))
  · have hqB : ¬ 268435456 ≤ q := fun h => hc_306 (cmpZ_ge.mpr h)
    have hqv0 : 0 ≤ q * v2 := Int.mul_nonneg hq0 hv2.1
    have hqv1 : q * v2 ≤ 268435456 * 268435456 := Int.mul_le_mul (by omega) (by omega) hv2.1 (by omega)
    refine aw_iload dX6_divides_309 (by rfl) ?_
    refine aw_iconstZ dX6_divides_311 ?_
    refine aw_icmp_leZ (tgt := 382) dX6_divides_312 (by decide) (by omega) (by omega) (fun hc_312 => ?_) (fun hc_312 => ?_)
    · exact aw_pk [14, 11, 7, 6, 5, 4, 0, 1, 2, 3] (by rfl) (hKK q ⟨hq0, by omega⟩ hW (hKD.fine hval hq0 (by omega) (by rw [← hn1 (by omega), Int.mul_zero, ← hm1 (by omega)]; omega)))
    · refine aw_lload dX6_divides_315 (by rfl) ?_
      refine aw_aload_n dX6_divides_317 (by rfl) (Or.inr ⟨_, rfl⟩) ?_
      refine aw_get fX6_24 dX6_divides_318 hmo (by rfl) ?_
      refine aw_iload dX6_divides_321 (by rfl) ?_
      refine aw_iconstZ dX6_divides_323 ?_
      refine aw_isubZ dX6_divides_324 ?_
      refine aw_laldZ (ne - 2) dX6_divides_325 hA.2.2.2.2 (by omega) (by omega) (by omega) ?_
      refine aw_lmulZ dX6_divides_326 ?_
      refine aw_lload dX6_divides_327 (by rfl) ?_
      refine aw_ldc2Z (z := 268435456) qX6_65 dX6_divides_329 (by decide) ?_
      refine aw_lmulZ dX6_divides_332 ?_
      refine aw_aload_n dX6_divides_333 (by rfl) (Or.inr ⟨_, rfl⟩) ?_
      refine aw_get fX6_20 dX6_divides_334 hmo (by rfl) ?_
      refine aw_iload dX6_divides_337 (by rfl) ?_
      refine aw_iload dX6_divides_339 (by rfl) ?_
      refine aw_iaddZ dX6_divides_341 ?_
      refine aw_iconstZ dX6_divides_342 ?_
      refine aw_isubZ dX6_divides_343 ?_
      refine aw_laldZ (p + ne - 2) dX6_divides_344 hA.2.2.2.1 (by omega) (by omega) (by omega) ?_
      refine aw_laddZ dX6_divides_345 ?_
      refine aw_lcmpZ dX6_divides_346 (by rw [hn2 (by omega)]; omega) (by rw [hm2 (by omega)]; omega) ?_
      refine aw_if_leZ (tgt := 382) dX6_divides_347 (by decide) (cmpZ_R _ _) (fun hc_347 => ?_) (fun hc_347 => ?_)
      · have hle := cmpZ_le.mp hc_347
        rw [hn2 (by omega), hm2 (by omega)] at hle
        exact aw_pk [14, 11, 7, 6, 5, 4, 0, 1, 2, 3] (by rfl) (hKK q ⟨hq0, by omega⟩ hW (hKD.fine hval hq0 (by omega) hle))
      · have hgt : ¬ q * X (ne - 2) ≤ over * 268435456 + U (p + ne - 2) := fun h => hc_347 (cmpZ_le.mpr h)
        rw [hn2 (by omega), hm2 (by omega)] at hgt
        exact DEC (Or.inr (by omega))
theorem gl_loop (d : Nat) {g : GX} {V : AH} {mo sz : Nat} {rk kn ar ac : Int} {D LN SG U X : Nat → Int} {a e c na ne p : Nat} {s f v1 v2 u2 u1 u0 v W : Int} {Q : AQ} (hmo : V mo = some (moO mo rk kn ar ac)) (hA : MA g mo V D LN SG U X) (hne : 1 ≤ ne ∧ ne ≤ 100) (hp : p + ne < 220) (hKD : KDm v1 v2 u2 u1 u0 v W) (hv1e : X (ne - 1) = v1) (hn2 : 1 < ne → X (ne - 2) = v2) (hn1 : ne ≤ 1 → 0 = v2) (hm2 : 1 < ne → U (p + ne - 2) = u0) (hm1 : ne ≤ 1 → 0 = u0)
    (hKK : ∀ q : Int, 0 ≤ q ∧ q ≤ 268435456 → W < (q + 1) * v → (q - 1) * v ≤ W → AW g mX6_divides d 382 [(14, .long (jZ q)), (11, .int (iZ p)), (7, .long (jZ f)), (6, .int (iZ s)), (5, .int (iZ na)), (4, .int (iZ ne)), (0, .ref mo), (1, .int (iZ a)), (2, .int (iZ e)), (3, .int (iZ c))] [] V sz Q) {q over : Int} (hval : u2 * 268435456 + u1 = q * v1 + over) (hq0 : 0 ≤ q) (hov : 0 ≤ over ∧ over < v1) : AW g mX6_divides d 300 [(16, .long (jZ over)), (14, .long (jZ q)), (11, .int (iZ p)), (7, .long (jZ f)), (6, .int (iZ s)), (5, .int (iZ na)), (4, .int (iZ ne)), (0, .ref mo), (1, .int (iZ a)), (2, .int (iZ e)), (3, .int (iZ c))] [] V sz Q := by
  have hv1 : 268435456 ≤ 2 * v1 ∧ v1 < 268435456 := by
    obtain ⟨P, lv, lw, hP, h1, h2, e1, e2, h3, h4, h5, h6, h7, h8⟩ := id hKD
    exact h4
  obtain ⟨f1, f2, f3⟩ := hKD.first hval hov hq0
  refine gl_step d hmo hA hne hp hKD hv1e hn2 hn1 hm2 hm1 hKK hval hq0 ⟨hov.1, by omega⟩ f1 (by omega) (fun h1 h2 h3 => ?_)
  refine gl_step d hmo hA hne hp hKD hv1e hn2 hn1 hm2 hm1 hKK (q := q - 1) (over := over + v1) (by rw [Int.sub_mul, Int.one_mul]; omega) (by omega) ⟨by omega, by omega⟩ (by rw [show q - 1 + 1 = q by omega]; exact h2) (by omega) (fun h4 => absurd h4 (by omega))

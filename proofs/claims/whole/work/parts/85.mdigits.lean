/-! ===== the reference: divides, its digits; the rest scaled back ===== -/
theorem dg_up {D : Nat → Int} {c p : Nat} {x : Int} : dg (upF D (100 * c + p) x) c = upF (dg D c) p x := by
  funext k
  unfold dg upF
  by_cases h : k = p
  · rw [if_pos (by omega), if_pos h]
  · rw [if_neg (by omega), if_neg h]
theorem qd_rng {W q v r B : Int} (he : W = q * v + r) (hr : 0 ≤ r ∧ r < v) (hW : 0 ≤ W ∧ W < v * B) : 0 ≤ q ∧ q < B := by
  constructor
  · rcases Int.lt_or_le q 0 with h | h
    · have : q * v ≤ (-1) * v := Int.mul_le_mul_of_nonneg_right (by omega) (by omega)
      omega
    · exact h
  · rcases Int.lt_or_le q B with h | h
    · exact h
    · have : B * v ≤ q * v := Int.mul_le_mul_of_nonneg_right h (by omega)
      rw [Int.mul_comm B v] at this
      omega
theorem dg_loop (d : Nat) {g : GX} {mo sz : Nat} {rk kn ar ac : Int} {LN SG X : Nat → Int} {V0 : AH} {a e c na ne : Nat} {s f v T : Int} {zs : Nat → Int} {Q : AQ} (hc : c < 460) (hne : 1 ≤ ne ∧ ne ≤ 100) (hna : ne ≤ na ∧ na ≤ 100) (hX : ∀ i, i < ne → 0 ≤ X i ∧ X i < 268435456) (hv : v = mg 268435456 X ne) (htop : 268435456 ≤ 2 * X (ne - 1))
    (hKK : ∀ {V : AH} {D U : Nat → Int}, V mo = some (moO mo rk kn ar ac) → MA g mo V D LN SG U X → (∀ a, ¬ EN mo a → V a = V0 a) → (∀ q, q < 460 → q ≠ c → NuV D LN SG q (zs q)) → (∀ i, i ≤ na → 0 ≤ U i ∧ U i < 268435456) → (∀ i, 0 ≤ i → i < na - ne + 1 → 0 ≤ dg D c i ∧ dg D c i < 268435456) → T = v * (mg 268435456 (dg D c) (na - ne + 1) - mg 268435456 (dg D c) 0) + mg 268435456 U (0 + ne) → mg 268435456 U (0 + ne) < v * 268435456 ^ 0 → AW g mX6_divides (d + 1) 411 [(7, .long (jZ f)), (6, .int (iZ s)), (5, .int (iZ na)), (4, .int (iZ ne)), (0, .ref mo), (1, .int (iZ a)), (2, .int (iZ e)), (3, .int (iZ c))] [] V sz Q) : ∀ j : Nat, j ≤ na - ne + 1 → ∀ {V : AH} {D U : Nat → Int}, V mo = some (moO mo rk kn ar ac) → MA g mo V D LN SG U X → (∀ a, ¬ EN mo a → V a = V0 a) → (∀ q, q < 460 → q ≠ c → NuV D LN SG q (zs q)) → (∀ i, i ≤ na → 0 ≤ U i ∧ U i < 268435456) → (∀ i, j ≤ i → i < na - ne + 1 → 0 ≤ dg D c i ∧ dg D c i < 268435456) → T = v * (mg 268435456 (dg D c) (na - ne + 1) - mg 268435456 (dg D c) j) + mg 268435456 U (j + ne) → mg 268435456 U (j + ne) < v * 268435456 ^ j → AW g mX6_divides (d + 1) 238 [(11, .int (iZ ((j : Int) - 1))), (7, .long (jZ f)), (6, .int (iZ s)), (5, .int (iZ na)), (4, .int (iZ ne)), (0, .ref mo), (1, .int (iZ a)), (2, .int (iZ e)), (3, .int (iZ c))] [] V sz Q
  | 0, hj, V, D, U, hmo, hA, hV, h0, hU, hQ, hI, hlt => by
    refine aw_iload dX6_divides_238 (by rfl) ?_
    refine aw_if_ltZ (tgt := 411) dX6_divides_240 (by decide) (by omega) (fun hc_240 => ?_) (fun hc_240 => ?_)
    · exact aw_pk [7, 6, 5, 4, 0, 1, 2, 3] (by rfl) (hKK hmo hA hV h0 hU hQ hI hlt)
    · exact absurd (by omega) hc_240
  | p + 1, hj, V, D, U, hmo, hA, hV, h0, hU, hQ, hI, hlt => by
    have IH := @dg_loop d g mo sz rk kn ar ac LN SG X V0 a e c na ne s f v T zs Q hc hne hna hX hv htop hKK p
    have hWB := dm_win (v := v) (fun k hk => hU k (by omega)) hlt
    have hW0 : 0 ≤ mg 268435456 (wn U p) ne + U (p + ne) * 268435456 ^ ne := (mg_bd (show (0 : Int) < 268435456 by omega) (F := wn U p) (n := ne + 1) (fun k hk => hU (p + k) (by omega))).1
    obtain ⟨v', W', hKD, hW1, hW2⟩ := kdm_of (U := U) (Vd := X) (p := p) hne.1 (fun k hk => hU k (by omega)) hX hv rfl htop hWB
    have K382 : ∀ q : Int, 0 ≤ q ∧ q ≤ 268435456 → mg 268435456 (wn U p) (ne + 1) < (q + 1) * v → (q - 1) * v ≤ mg 268435456 (wn U p) (ne + 1) → AW g mX6_divides (d + 1) 382 [(14, .long (jZ q)), (11, .int (iZ p)), (7, .long (jZ f)), (6, .int (iZ s)), (5, .int (iZ na)), (4, .int (iZ ne)), (0, .ref mo), (1, .int (iZ a)), (2, .int (iZ e)), (3, .int (iZ c))] [] V sz Q := fun q hq hq1 hq2 => by
      refine aw_aload_n dX6_divides_382 (by rfl) (Or.inr ⟨_, rfl⟩) ?_
      refine aw_get fX6_8 dX6_divides_383 hmo (by rfl) ?_
      refine aw_bipushZ dX6_divides_386 (by decide) ?_
      refine aw_iload_n dX6_divides_388 (by rfl) ?_
      refine aw_imulZ dX6_divides_389 ?_
      refine aw_iload dX6_divides_390 (by rfl) ?_
      refine aw_iaddZ dX6_divides_392 ?_
      refine aw_aload_n dX6_divides_393 (by rfl) (Or.inr ⟨_, rfl⟩) ?_
      refine aw_iload dX6_divides_394 (by rfl) ?_
      
      refine aw_iload dX6_divides_396 (by rfl) ?_
      refine aw_lload dX6_divides_398 (by rfl) ?_
      
      refine aw_callv vX6_87 dX6_divides_400 hmo (m_takes d (j := p) (n := ne) (q := q) hmo hA (by omega) hq hX (fun i hi => hU (p + i) (by omega)) (hU (p + ne) (by omega)) hv.symm rfl hq1 hq2) (by rfl) (by rfl) (by omega) (Nat.le_of_ble_eq_true rfl) ?_
      rintro _ V1 _ _ _ ⟨rfl, rfl, rfl, hf1, qd, X1, rfl, hA1, hWe, hrl, hXr, hX0, hXo⟩ -
      refine q0 ?_
      have hmo1 : V1 mo = some (moO mo rk kn ar ac) := (hf1 mo (by unfold EN; omega)).trans hmo
      have hXrg : ∀ i, i ≤ na → 0 ≤ X1 i ∧ X1 i < 268435456 := fun i hi => by
        by_cases c1 : i < p
        · rw [hXo i (Or.inl c1)]; exact hU i hi
        · by_cases c2 : i < p + ne
          · have := hXr (i - p) (by omega)
            unfold wn at this
            rw [show p + (i - p) = i by omega] at this
            exact this
          · by_cases c3 : i = p + ne
            · rw [c3, hX0]; omega
            · rw [hXo i (Or.inr (by omega))]; exact hU i hi
      have hrb := mg_bd (show (0 : Int) < 268435456 by omega) (F := wn X1 p) (n := ne) hXr
      have hqd := qd_rng hWe ⟨hrb.1, hrl⟩ ⟨hW0, hWB⟩
      obtain ⟨hS1, hS2⟩ := dm_step (S := mg 268435456 (dg D c) (na - ne + 1) - mg 268435456 (dg D c) (p + 1)) (fun k hk => hXrg k (by omega)) hI hWe hrl (fun i hi => hXo i (Or.inl hi))
      have hmQ : mg 268435456 (upF (dg D c) p qd) (na - ne + 1) - mg 268435456 (upF (dg D c) p qd) p = mg 268435456 (dg D c) (na - ne + 1) - mg 268435456 (dg D c) (p + 1) + qd * 268435456 ^ p := by
        rw [mg_upd (by omega), mg_upF]
        simp only [mg]
        rw [Int.sub_mul]
        omega
      rw [← hmQ, ← dg_up] at hS1
      clear hmQ hI hlt hWe hrl hKK
      refine aw_l2iZ dX6_divides_403 ?_
      refine aw_iastZ (100 * c + p) dX6_divides_404 hA1.1 (by omega) (by omega) (by omega) ?_
      refine aw_iincZ dX6_divides_405 (by rfl) (by decide) ?_
      refine aw_goto (tgt := 238) dX6_divides_408 (by decide) ?_
      refine aw_pk [11, 7, 6, 5, 4, 0, 1, 2, 3] (by rfl) ?_
      rw [show (p : Int) + -1 = (p : Int) - 1 by omega]
      exact IH (by omega) ((AHu_ne (by omega)).trans hmo1) hA1.d (fun a ha => (AHu_ne (fun z => ha (by unfold EN; omega))).trans ((hf1 a ha).trans (hV a ha))) (fun q hq hqc => (h0 q hq hqc).kept (fun k hk => upF_ne _ _ (by omega)) rfl rfl) hXrg (fun i h1 h2 => by
        rw [dg_up]
        unfold upF
        split
        · exact hqd
        · exact hQ i (by omega) h2) hS1 hS2
    have hxa := hX (ne - 1) (by omega)
    have hua := hU (p + ne) (by omega)
    have hub := hU (p + ne - 1) (by omega)
    have hdm := Int.emod_add_mul_ediv (U (p + ne) * 268435456 + U (p + ne - 1)) (X (ne - 1))
    have hvl : U (p + ne) * 268435456 + U (p + ne - 1) = (U (p + ne) * 268435456 + U (p + ne - 1)) / X (ne - 1) * X (ne - 1) + (U (p + ne) * 268435456 + U (p + ne - 1)) % X (ne - 1) := by
      rw [Int.mul_comm ((U (p + ne) * 268435456 + U (p + ne - 1)) / X (ne - 1))]
      omega
    have hm0' := Int.emod_nonneg (U (p + ne) * 268435456 + U (p + ne - 1)) (show X (ne - 1) ≠ 0 by omega)
    have hm1' := Int.emod_lt_of_pos (U (p + ne) * 268435456 + U (p + ne - 1)) (show 0 < X (ne - 1) by omega)
    have hq0 : 0 ≤ (U (p + ne) * 268435456 + U (p + ne - 1)) / X (ne - 1) := Int.ediv_nonneg (by omega) (by omega)
    clear IH hI hlt hKK
    rw [show ((p + 1 : Nat) : Int) - 1 = (p : Int) by omega]
    refine aw_iload dX6_divides_238 (by rfl) ?_
    refine aw_if_ltZ (tgt := 411) dX6_divides_240 (by decide) (by omega) (fun hc_240 => ?_) (fun hc_240 => ?_)
    · exact absurd hc_240 (by omega)
    · refine aw_aload_n dX6_divides_243 (by rfl) (Or.inr ⟨_, rfl⟩) ?_
      refine aw_get fX6_20 dX6_divides_244 hmo (by rfl) ?_
      refine aw_iload dX6_divides_247 (by rfl) ?_
      refine aw_iload dX6_divides_249 (by rfl) ?_
      refine aw_iaddZ dX6_divides_251 ?_
      refine aw_laldZ (p + ne) dX6_divides_252 hA.2.2.2.1 (by omega) (by omega) (by omega) ?_
      refine aw_ldc2Z (z := 268435456) qX6_65 dX6_divides_253 (by decide) ?_
      refine aw_lmulZ dX6_divides_256 ?_
      refine aw_aload_n dX6_divides_257 (by rfl) (Or.inr ⟨_, rfl⟩) ?_
      refine aw_get fX6_20 dX6_divides_258 hmo (by rfl) ?_
      refine aw_iload dX6_divides_261 (by rfl) ?_
      refine aw_iload dX6_divides_263 (by rfl) ?_
      refine aw_iaddZ dX6_divides_265 ?_
      refine aw_iconstZ dX6_divides_266 ?_
      refine aw_isubZ dX6_divides_267 ?_
      refine aw_laldZ (p + ne - 1) dX6_divides_268 hA.2.2.2.1 (by omega) (by omega) (by omega) ?_
      refine aw_laddZ dX6_divides_269 ?_
      refine aw_lstore dX6_divides_270 (by decide) ?_
      refine aw_lload dX6_divides_272 (by rfl) ?_
      refine aw_aload_n dX6_divides_274 (by rfl) (Or.inr ⟨_, rfl⟩) ?_
      refine aw_get fX6_24 dX6_divides_275 hmo (by rfl) ?_
      refine aw_iload dX6_divides_278 (by rfl) ?_
      refine aw_iconstZ dX6_divides_280 ?_
      refine aw_isubZ dX6_divides_281 ?_
      refine aw_laldZ (ne - 1) dX6_divides_282 hA.2.2.2.2 (by omega) (by omega) (by omega) ?_
      refine aw_ldivZ dX6_divides_283 (by omega) (by omega) (by omega) (by omega) ?_
      rw [Int.tdiv_eq_ediv_of_nonneg (by omega)]
      refine aw_lstore dX6_divides_284 (by decide) ?_
      refine aw_lload dX6_divides_286 (by rfl) ?_
      refine aw_aload_n dX6_divides_288 (by rfl) (Or.inr ⟨_, rfl⟩) ?_
      refine aw_get fX6_24 dX6_divides_289 hmo (by rfl) ?_
      refine aw_iload dX6_divides_292 (by rfl) ?_
      refine aw_iconstZ dX6_divides_294 ?_
      refine aw_isubZ dX6_divides_295 ?_
      refine aw_laldZ (ne - 1) dX6_divides_296 hA.2.2.2.2 (by omega) (by omega) (by omega) ?_
      refine aw_lremZ dX6_divides_297 (by omega) (by omega) (by omega) (by omega) ?_
      rw [Int.tmod_eq_emod_of_nonneg (by omega)]
      refine aw_lstore dX6_divides_298 (by decide) ?_
      refine aw_pk [16, 14, 11, 7, 6, 5, 4, 0, 1, 2, 3] (by rfl) ?_
      refine gl_loop (d + 1) hmo hA hne (by omega) hKD rfl (fun h => by rw [if_pos h]) (fun h => by rw [if_neg (by omega)]) (fun h => by rw [if_pos h]) (fun h => by rw [if_neg (by omega)]) (fun q hq h1 h2 => K382 q hq (hW1 q h1) (hW2 q h2)) hvl hq0 ⟨hm0', hm1'⟩
theorem bk_loop (d : Nat) {g : GX} {mo sz : Nat} {rk kn ar ac : Int} {D LN SG X : Nat → Int} {V0 : AH} {a e c na ne : Nat} {s f R : Int} {Q : AQ} (hne : ne ≤ 100) (hf : 1 ≤ f ∧ f < 268435456)
    (hKK : ∀ {V : AH} {U : Nat → Int} {w : Int}, V mo = some (moO mo rk kn ar ac) → MA g mo V D LN SG U X → (∀ a, ¬ EN mo a → V a = V0 a) → (∀ i, i < ne → 0 ≤ U i ∧ U i < 268435456) → (0 ≤ w ∧ w < f) → R = f * (mg 268435456 U ne - mg 268435456 U 0) + w * 268435456 ^ 0 + mg 268435456 U 0 → AW g mX6_divides (d + 1) 466 [(7, .long (jZ f)), (6, .int (iZ s)), (5, .int (iZ na)), (4, .int (iZ ne)), (0, .ref mo), (1, .int (iZ a)), (2, .int (iZ e)), (3, .int (iZ c))] [] V sz Q) : ∀ j : Nat, j ≤ ne → ∀ {V : AH} {U : Nat → Int} {w : Int}, V mo = some (moO mo rk kn ar ac) → MA g mo V D LN SG U X → (∀ a, ¬ EN mo a → V a = V0 a) → (∀ i, i < ne → 0 ≤ U i ∧ U i < 268435456) → (0 ≤ w ∧ w < f) → R = f * (mg 268435456 U ne - mg 268435456 U j) + w * 268435456 ^ j + mg 268435456 U j → AW g mX6_divides (d + 1) 420 [(11, .int (iZ ((j : Int) - 1))), (9, .long (jZ w)), (7, .long (jZ f)), (6, .int (iZ s)), (5, .int (iZ na)), (4, .int (iZ ne)), (0, .ref mo), (1, .int (iZ a)), (2, .int (iZ e)), (3, .int (iZ c))] [] V sz Q
  | 0, hj, V, U, w, hmo, hA, hV, hU, hw, hI => by
    refine aw_iload dX6_divides_420 (by rfl) ?_
    refine aw_if_ltZ (tgt := 466) dX6_divides_422 (by decide) (by omega) (fun hc_422 => ?_) (fun hc_422 => ?_)
    · exact aw_pk [7, 6, 5, 4, 0, 1, 2, 3] (by rfl) (hKK hmo hA hV hU hw hI)
    · exact absurd (by omega) hc_422
  | p + 1, hj, V, U, w, hmo, hA, hV, hU, hw, hI => by
    have IH := @bk_loop d g mo sz rk kn ar ac D LN SG X V0 a e c na ne s f R Q hne hf hKK p
    clear hKK
    have hup := hU p (by omega)
    obtain ⟨v, hv0⟩ : ∃ v, w * 268435456 + U p = v := ⟨_, rfl⟩
    have hdm := Int.emod_add_mul_ediv v f
    have hm0 := Int.emod_nonneg v (show f ≠ 0 by omega)
    have hm1 := Int.emod_lt_of_pos v (show 0 < f by omega)
    have hxr : 0 ≤ v / f ∧ v / f < 268435456 := ⟨Int.ediv_nonneg (by omega) (by omega), Int.ediv_lt_of_lt_mul (by omega) (by omega)⟩
    have hN := bk_step (U := U) (x := v / f) (w2 := v % f) (show p < ne by omega) hI hv0.symm (by omega)
    rw [show mg 268435456 U p = mg 268435456 (upF U p (v / f)) p from mg_upF.symm] at hN
    clear hI
    rw [show ((p + 1 : Nat) : Int) - 1 = (p : Int) by omega]
    refine aw_iload dX6_divides_420 (by rfl) ?_
    refine aw_if_ltZ (tgt := 466) dX6_divides_422 (by decide) (by omega) (fun hc_422 => ?_) (fun hc_422 => ?_)
    · exact absurd hc_422 (by omega)
    · refine aw_lload dX6_divides_425 (by rfl) ?_
      refine aw_ldc2Z (z := 268435456) qX6_65 dX6_divides_427 (by decide) ?_
      refine aw_lmulZ dX6_divides_430 ?_
      refine aw_aload_n dX6_divides_431 (by rfl) (Or.inr ⟨_, rfl⟩) ?_
      refine aw_get fX6_20 dX6_divides_432 hmo (by rfl) ?_
      refine aw_iload dX6_divides_435 (by rfl) ?_
      refine aw_laldZ (p) dX6_divides_437 hA.2.2.2.1 (by omega) (by omega) (by omega) ?_
      refine aw_laddZ dX6_divides_438 ?_
      refine aw_topl (y := v) hv0 ?_
      refine aw_lstore dX6_divides_439 (by decide) ?_
      refine aw_aload_n dX6_divides_441 (by rfl) (Or.inr ⟨_, rfl⟩) ?_
      refine aw_get fX6_20 dX6_divides_442 hmo (by rfl) ?_
      refine aw_iload dX6_divides_445 (by rfl) ?_
      refine aw_lload dX6_divides_447 (by rfl) ?_
      refine aw_lload dX6_divides_449 (by rfl) ?_
      refine aw_ldivZ dX6_divides_451 (by omega) (by omega) (by omega) (by omega) ?_
      rw [Int.tdiv_eq_ediv_of_nonneg (by omega)]
      refine aw_lastZ (p) dX6_divides_452 hA.2.2.2.1 (by omega) (by omega) (by omega) ?_
      refine aw_lload dX6_divides_453 (by rfl) ?_
      refine aw_lload dX6_divides_455 (by rfl) ?_
      refine aw_lremZ dX6_divides_457 (by omega) (by omega) (by omega) (by omega) ?_
      rw [Int.tmod_eq_emod_of_nonneg (by omega)]
      refine aw_lstore dX6_divides_458 (by decide) ?_
      refine aw_iincZ dX6_divides_460 (by rfl) (by decide) ?_
      refine aw_goto (tgt := 420) dX6_divides_463 (by decide) ?_
      refine aw_pk [11, 9, 7, 6, 5, 4, 0, 1, 2, 3] (by rfl) ?_
      rw [show (p : Int) + -1 = (p : Int) - 1 by omega]
      exact IH (by omega) ((AHu_ne (by omega)).trans hmo) hA.o1 (fun a ha => (AHu_ne (fun z => ha (by unfold EN; omega))).trans (hV a ha)) (fun i hi => by
        unfold upF; split
        · exact hxr
        · exact hU i hi) ⟨hm0, hm1⟩ hN

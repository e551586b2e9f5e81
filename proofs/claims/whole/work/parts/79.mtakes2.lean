/-! ===== the reference: takes, whole ===== -/
theorem tm_end {x t P v W q : Int} (hx : 0 ≤ x ∧ x < P) (hv : v < P) (he : x + t * P = W - q * v) (hW : W < (q + 1) * v) (hq : (q - 1) * v ≤ W) : (0 ≤ t → W = q * v + x ∧ x < v ∧ t = 0) ∧ (t < 0 → t = -1 ∧ ∀ y b : Int, 0 ≤ y ∧ y < P → 0 ≤ b ∧ b ≤ 1 → y + b * P = x + v → b = 1 ∧ W = (q - 1) * v + y ∧ y < v) := by
  have h := td_end hx hv he hW hq
  refine ⟨fun ht => ?_, fun ht => ?_⟩
  · have h1 := h.1 ht
    refine ⟨by omega, h1.2, ?_⟩
    rcases Int.mul_eq_zero.mp (show t * P = 0 by omega) with z | z
    · exact z
    · omega
  · have h1 := h.2 ht
    have h2 : (t + 1) * P = 0 := by rw [Int.add_mul, Int.one_mul]; omega
    refine ⟨?_, fun y b hy hb hs => ?_⟩
    · rcases Int.mul_eq_zero.mp h2 with z | z <;> omega
    · have e : (q - 1) * v = q * v - v := by rw [Int.sub_mul, Int.one_mul]
      rcases (show b = 0 ∨ b = 1 by omega) with z | z
      · rw [z, Int.zero_mul] at hs
        omega
      · rw [z, Int.one_mul] at hs
        rw [e]
        omega
theorem m_takes (d : Nat) {g : GX} {V : AH} {mo sz j n : Nat} {rk kn ar ac q W v : Int} {D LN SG U O2 : Nat → Int} (hmo : V mo = some (moO mo rk kn ar ac)) (hA : MA g mo V D LN SG U O2) (hjn : j + n < 220) (hq : 0 ≤ q ∧ q ≤ 268435456) (hB : ∀ i, i < n → 0 ≤ O2 i ∧ O2 i < 268435456) (hUb : ∀ i, i < n → 0 ≤ U (j + i) ∧ U (j + i) < 268435456) (hUt : 0 ≤ U (j + n) ∧ U (j + n) < 268435456) (hv : mg 268435456 O2 n = v) (hW0 : mg 268435456 (wn U j) (n + 1) = W) (h1 : W < (q + 1) * v) (h2 : (q - 1) * v ≤ W) : AMet g mX6_takes d [.ref mo, .int (iZ j), .int (iZ n), .long (jZ q)] V sz (VX V sz (EN mo) (fun r V' => ∃ (qd : Int) (X : Nat → Int), some (.long (jZ qd)) = r ∧ MA g mo V' D LN SG X O2 ∧ W = qd * v + mg 268435456 (wn X j) n ∧ mg 268435456 (wn X j) n < v ∧ (∀ i, i < n → 0 ≤ wn X j i ∧ wn X j i < 268435456) ∧ X (j + n) = 0 ∧ ∀ i, i < j ∨ j + n + 1 ≤ i → X i = U i)) := by
  have J178 : ∀ {Z : AH} {X : Nat → Int} {w : Int}, Z mo = some (moO mo rk kn ar ac) → MA g mo Z D LN SG X O2 → X (j + n) = - w → (W = (q - 1) * v + mg 268435456 (wn X j) n ∧ mg 268435456 (wn X j) n < v) → (∀ i, i < n → 0 ≤ wn X j i ∧ wn X j i < 268435456) → (∀ i, i < j ∨ j + n + 1 ≤ i → X i = U i) → AW g mX6_takes d 178 [(7, .long (jZ w)), (0, .ref mo), (1, .int (iZ j)), (2, .int (iZ n)), (3, .long (jZ q))] [] Z sz (VX Z sz (EN mo) (fun r V' => ∃ (qd : Int) (X : Nat → Int), some (.long (jZ qd)) = r ∧ MA g mo V' D LN SG X O2 ∧ W = qd * v + mg 268435456 (wn X j) n ∧ mg 268435456 (wn X j) n < v ∧ (∀ i, i < n → 0 ≤ wn X j i ∧ wn X j i < 268435456) ∧ X (j + n) = 0 ∧ ∀ i, i < j ∨ j + n + 1 ≤ i → X i = U i)) := fun {Z X w} hmo hA hX hW hF hU => by
    have eX : mg 268435456 (wn (upF X (j + n) 0) j) n = mg 268435456 (wn X j) n := mg_congr (fun i hi => upF_ne _ _ (by omega))
    refine aw_aload_n dX6_takes_178 (by rfl) (Or.inr ⟨_, rfl⟩) ?_
    refine aw_get fX6_20 dX6_takes_179 hmo (by rfl) ?_
    refine aw_iload_n dX6_takes_182 (by rfl) ?_
    refine aw_iload_n dX6_takes_183 (by rfl) ?_
    refine aw_iaddZ dX6_takes_184 ?_
    refine aw_dup2 dX6_takes_185 rfl rfl ?_
    refine aw_laldZ (j + n) dX6_takes_186 hA.2.2.2.1 (by omega) (by omega) (by omega) ?_
    refine aw_lload dX6_takes_187 (by rfl) ?_
    refine aw_laddZ dX6_takes_189 ?_
    refine aw_topl (y := 0) (by rw [hX]; omega) ?_
    refine aw_lastZ (j + n) dX6_takes_190 hA.2.2.2.1 (by omega) (by omega) (by omega) ?_
    refine VX.stp (V1 := AHu Z (mo + 4) _) (fun a ha => AHu_ne (fun q => ha (by unfold EN; omega))) ?_
    refine aw_lload_n dX6_takes_191 (by rfl) ?_
    refine aw_lconstZ (z := 1) dX6_takes_192 (by decide) ?_
    refine aw_lsubZ dX6_takes_193 ?_
    refine aw_lret dX6_takes_194 rfl ?_
    refine VX.ret ⟨q - 1, _, rfl, hA.o1, ?_, ?_, fun i hi => ?_, upF_self _ _ _, fun i hi => by rw [upF_ne _ _ (by omega)]; exact hU i hi⟩
    · rw [eX]; exact hW.1
    · rw [eX]; exact hW.2
    · show 0 ≤ upF X (j + n) 0 (j + i) ∧ upF X (j + n) 0 (j + i) < _
      rw [upF_ne _ _ (by omega)]; exact hF i hi
  have J87 : ∀ {Z : AH} {X : Nat → Int} {w : Int}, Z mo = some (moO mo rk kn ar ac) → MA g mo Z D LN SG X O2 → (∀ i, i < j ∨ j + n ≤ i → X i = U i) → (∀ i, i < n → 0 ≤ wn X j i ∧ wn X j i < 268435456) → (0 ≤ w ∧ w ≤ 268435456) → mg 268435456 (wn X j) n + (0 - w) * 268435456 ^ n = mg 268435456 (wn U j) n - q * mg 268435456 O2 n → AW g mX6_takes d 87 [(5, .long (jZ w)), (0, .ref mo), (1, .int (iZ j)), (2, .int (iZ n)), (3, .long (jZ q))] [] Z sz (VX Z sz (EN mo) (fun r V' => ∃ (qd : Int) (X : Nat → Int), some (.long (jZ qd)) = r ∧ MA g mo V' D LN SG X O2 ∧ W = qd * v + mg 268435456 (wn X j) n ∧ mg 268435456 (wn X j) n < v ∧ (∀ i, i < n → 0 ≤ wn X j i ∧ wn X j i < 268435456) ∧ X (j + n) = 0 ∧ ∀ i, i < j ∨ j + n + 1 ≤ i → X i = U i)) := fun {Z X w} hmo hA hU hF hw hE => by
    obtain ⟨t, ht⟩ : ∃ t, U (j + n) - w = t := ⟨_, rfl⟩
    have hWe : mg 268435456 (wn U j) n + U (j + n) * 268435456 ^ n = W := hW0
    have he : mg 268435456 (wn X j) n + t * 268435456 ^ n = W - q * v := by
      rw [← ht, Int.sub_mul, ← hWe, ← hv]
      rw [Int.sub_mul, Int.zero_mul] at hE
      omega
    have hT := tm_end (mg_bd (show (0 : Int) < 268435456 by omega) hF) (by rw [← hv]; exact (mg_bd (show (0 : Int) < 268435456 by omega) hB).2) he h1 h2
    have eX : mg 268435456 (wn (upF X (j + n) t) j) n = mg 268435456 (wn X j) n := mg_congr (fun i hi => upF_ne _ _ (by omega))
    have hF2 : ∀ i, i < n → 0 ≤ wn (upF X (j + n) t) j i ∧ wn (upF X (j + n) t) j i < 268435456 := fun i hi => by
      show 0 ≤ upF X (j + n) t (j + i) ∧ upF X (j + n) t (j + i) < _
      rw [upF_ne _ _ (by omega)]; exact hF i hi
    refine aw_aload_n dX6_takes_87 (by rfl) (Or.inr ⟨_, rfl⟩) ?_
    refine aw_get fX6_20 dX6_takes_88 hmo (by rfl) ?_
    refine aw_iload_n dX6_takes_91 (by rfl) ?_
    refine aw_iload_n dX6_takes_92 (by rfl) ?_
    refine aw_iaddZ dX6_takes_93 ?_
    refine aw_dup2 dX6_takes_94 rfl rfl ?_
    refine aw_laldZ (j + n) dX6_takes_95 hA.2.2.2.1 (by omega) (by omega) (by omega) ?_
    refine aw_lload dX6_takes_96 (by rfl) ?_
    refine aw_lsubZ dX6_takes_98 ?_
    refine aw_topl (y := t) (by rw [hU (j + n) (by omega)]; omega) ?_
    refine aw_lastZ (j + n) dX6_takes_99 hA.2.2.2.1 (by omega) (by omega) (by omega) ?_
    refine VX.stp (V1 := AHu Z (mo + 4) _) (fun a ha => AHu_ne (fun q => ha (by unfold EN; omega))) ?_
    have hmo2 : (AHu Z (mo + 4) (aJz g 220 (upF X (j + n) t))) mo = _ := (AHu_ne (by omega)).trans hmo
    have hA2 : MA g mo (AHu Z (mo + 4) (aJz g 220 (upF X (j + n) t))) D LN SG (upF X (j + n) t) O2 := hA.o1
    refine aw_aload_n dX6_takes_100 (by rfl) (Or.inr ⟨_, rfl⟩) ?_
    refine aw_get fX6_20 dX6_takes_101 hmo2 (by rfl) ?_
    refine aw_iload_n dX6_takes_104 (by rfl) ?_
    refine aw_iload_n dX6_takes_105 (by rfl) ?_
    refine aw_iaddZ dX6_takes_106 ?_
    refine aw_laldZ (j + n) dX6_takes_107 hA2.2.2.2.1 (by omega) (by omega) (by omega) ?_
    rw [upF_self]
    refine aw_lconstZ (z := 0) dX6_takes_108 (by decide) ?_
    refine aw_lcmpZ dX6_takes_109 (by omega) (by omega) ?_
    refine aw_if_ltZ (tgt := 115) dX6_takes_110 (by decide) (cmpZ_R _ _) (fun hc_110 => ?_) (fun hc_110 => ?_)
    · refine aw_lconstZ (z := 0) dX6_takes_115 (by decide) ?_
      refine aw_lstore dX6_takes_116 (by decide) ?_
      refine aw_iconstZ dX6_takes_118 ?_
      refine aw_istore dX6_takes_119 (by decide) ?_
      have ht1 := hT.2 (cmpZ_lt.mp hc_110)
      refine aw_pk [9, 7, 0, 1, 2, 3] (by rfl) ?_
      exact tm_back d (V0 := AHu Z (mo + 4) (aJz g 220 (upF X (j + n) t))) (U := upF X (j + n) t) hjn hB hF2 (fun {Z3 X3 w3} k1 k2 k3 k4 k5 k6 k7 => by
        have hy := mg_bd (show (0 : Int) < 268435456 by omega) k5
        have hf := ht1.2 _ w3 hy k6 (k7.trans (by rw [eX, hv]))
        exact VX.stp k3 (J178 k1 k2 (by rw [k4 (j + n) (by omega), upF_self, hf.1, ht1.1]) hf.2 k5 (fun i hi => by rw [k4 i (by omega), upF_ne _ _ (by omega)]; exact hU i (by omega)))) n 0 (by omega) hmo2 hA2 (fun _ _ => rfl) (fun _ _ => rfl) (fun i hi => absurd hi (by omega)) (by omega) (by simp [mg])
    · refine aw_lload_n dX6_takes_113 (by rfl) ?_
      refine aw_lret dX6_takes_114 rfl ?_
      have ht1 := hT.1 (by have : ¬ t < 0 := fun z => hc_110 (cmpZ_lt.mpr z); omega)
      exact VX.ret ⟨q, _, rfl, hA2, by rw [eX]; exact ht1.1, by rw [eX]; exact ht1.2.1, hF2, by rw [upF_self]; exact ht1.2.2, fun i hi => by rw [upF_ne _ _ (by omega)]; exact hU i (by omega)⟩
  refine AMet.of rfl rfl (Nat.le_of_ble_eq_true rfl) ?_
  show AW g mX6_takes d 0 [(0, .ref mo), (1, .int (iZ j)), (2, .int (iZ n)), (3, .long (jZ q))] [] V sz _
  refine aw_lconstZ (z := 0) dX6_takes_0 (by decide) ?_
  refine aw_lstore dX6_takes_1 (by decide) ?_
  refine aw_iconstZ dX6_takes_3 ?_
  refine aw_istore dX6_takes_4 (by decide) ?_
  refine aw_pk [7, 5, 0, 1, 2, 3] (by rfl) ?_
  exact tm_loop d (V0 := V) (U := U) hjn hq hB hUb (fun {Z X w} k1 k2 k3 k4 k5 k6 k7 => VX.stp k3 (J87 k1 k2 k4 k5 k6 k7)) n 0 (by omega) hmo hA (fun _ _ => rfl) (fun _ _ => rfl) (fun i hi => absurd hi (by omega)) (by omega) (by simp [mg])

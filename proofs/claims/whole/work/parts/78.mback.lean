/-! ===== the reference: takes, the second loop (the divisor given back) ===== -/
theorem tm_add {X Y Vd : Nat → Int} {c : Int} {k : Nat} (hinv : mg 268435456 Y k + c * 268435456 ^ k = mg 268435456 X k + mg 268435456 Vd k) (hc : 0 ≤ c ∧ c ≤ 1) (hx : 0 ≤ X k ∧ X k < 268435456) (hv : 0 ≤ Vd k ∧ Vd k < 268435456) : R64 (c + (X k + Vd k)) ∧ (0 ≤ (c + (X k + Vd k)) % 268435456 ∧ (c + (X k + Vd k)) % 268435456 < 268435456) ∧ (0 ≤ (c + (X k + Vd k)) / 268435456 ∧ (c + (X k + Vd k)) / 268435456 ≤ 1) ∧ mg 268435456 (upF Y k ((c + (X k + Vd k)) % 268435456)) (k + 1) + (c + (X k + Vd k)) / 268435456 * 268435456 ^ (k + 1) = mg 268435456 X (k + 1) + mg 268435456 Vd (k + 1) := by
  refine ⟨by omega, by omega, by omega, ?_⟩
  have hmd := Int.emod_add_mul_ediv (c + (X k + Vd k)) 268435456
  simp only [mg]
  rw [mg_upF, upF_self, Int.pow_succ]
  generalize (268435456 : Int) ^ k = P at hinv ⊢
  generalize (c + (X k + Vd k)) / 268435456 = q at hmd ⊢
  generalize (c + (X k + Vd k)) % 268435456 = r at hmd ⊢
  have e2 : q * (P * 268435456) = 268435456 * q * P := by
    rw [Int.mul_comm P 268435456, ← Int.mul_assoc, Int.mul_comm q 268435456]
  have e3 : (r + 268435456 * q) * P = (c + (X k + Vd k)) * P := by rw [hmd]
  rw [Int.add_mul, Int.add_mul, Int.add_mul] at e3
  omega
theorem tm_back (d : Nat) {g : GX} {mo sz : Nat} {rk kn ar ac : Int} {D LN SG U O2 : Nat → Int} {V0 : AH} {j n : Nat} {q : Int} {Q : AQ} (hjn : j + n < 220) (hB : ∀ i, i < n → 0 ≤ O2 i ∧ O2 i < 268435456) (hUb : ∀ i, i < n → 0 ≤ wn U j i ∧ wn U j i < 268435456)
    (hKK : ∀ {V : AH} {R : Nat → Int} {w : Int}, V mo = some (moO mo rk kn ar ac) → MA g mo V D LN SG R O2 → (∀ a, ¬ EN mo a → V a = V0 a) → (∀ i, i < j ∨ j + n ≤ i → R i = U i) → (∀ i, i < n → 0 ≤ wn R j i ∧ wn R j i < 268435456) → (0 ≤ w ∧ w ≤ 1) → mg 268435456 (wn R j) n + w * 268435456 ^ n = mg 268435456 (wn U j) n + mg 268435456 O2 n → AW g mX6_takes d 178 [(7, .long (jZ w)), (0, .ref mo), (1, .int (iZ j)), (2, .int (iZ n)), (3, .long (jZ q))] [] V sz Q) : ∀ (y k : Nat), k + y = n → ∀ {V : AH} {R : Nat → Int} {w : Int}, V mo = some (moO mo rk kn ar ac) → MA g mo V D LN SG R O2 → (∀ a, ¬ EN mo a → V a = V0 a) → (∀ i, i < j ∨ j + k ≤ i → R i = U i) → (∀ i, i < k → 0 ≤ wn R j i ∧ wn R j i < 268435456) → (0 ≤ w ∧ w ≤ 1) → mg 268435456 (wn R j) k + w * 268435456 ^ k = mg 268435456 (wn U j) k + mg 268435456 O2 k → AW g mX6_takes d 121 [(9, .int (iZ k)), (7, .long (jZ w)), (0, .ref mo), (1, .int (iZ j)), (2, .int (iZ n)), (3, .long (jZ q))] [] V sz Q
  | 0, k, hy, V, R, w, hmo, hA, hV, hU, hF, hw, hE => by
    refine aw_iload dX6_takes_121 (by rfl) ?_
    refine aw_iload_n dX6_takes_123 (by rfl) ?_
    refine aw_icmp_geZ (tgt := 178) dX6_takes_124 (by decide) (by omega) (by omega) (fun hc_124 => ?_) (fun hc_124 => ?_)
    · obtain rfl : k = n := by omega
      exact aw_pk [7, 0, 1, 2, 3] (by rfl) (hKK hmo hA hV hU hF hw hE)
    · exact absurd hc_124 (by omega)
  | y + 1, k, hy, V, R, w, hmo, hA, hV, hU, hF, hw, hE => by
    have IH := fun k hk => @tm_back d g mo sz rk kn ar ac D LN SG U O2 V0 j n q Q hjn hB hUb hKK y k hk
    clear hKK
    have eu : R (j + k) = wn U j k := hU (j + k) (by omega)
    have h1 := hUb k (by omega)
    have h2 := hB k (by omega)
    have hs := tm_add hE hw h1 h2
    obtain ⟨v, hv0⟩ : ∃ v, w + (wn U j k + O2 k) = v := ⟨_, rfl⟩
    rw [hv0] at hs
    refine aw_iload dX6_takes_121 (by rfl) ?_
    refine aw_iload_n dX6_takes_123 (by rfl) ?_
    refine aw_icmp_geZ (tgt := 178) dX6_takes_124 (by decide) (by omega) (by omega) (fun hc_124 => ?_) (fun hc_124 => ?_)
    · exact absurd hc_124 (by omega)
    · refine aw_aload_n dX6_takes_127 (by rfl) (Or.inr ⟨_, rfl⟩) ?_
      refine aw_get fX6_20 dX6_takes_128 hmo (by rfl) ?_
      refine aw_iload_n dX6_takes_131 (by rfl) ?_
      refine aw_iload dX6_takes_132 (by rfl) ?_
      refine aw_iaddZ dX6_takes_134 ?_
      refine aw_laldZ (j + k) dX6_takes_135 hA.2.2.2.1 (by omega) (by omega) (by omega) ?_
      refine aw_aload_n dX6_takes_136 (by rfl) (Or.inr ⟨_, rfl⟩) ?_
      refine aw_get fX6_24 dX6_takes_137 hmo (by rfl) ?_
      refine aw_iload dX6_takes_140 (by rfl) ?_
      refine aw_laldZ (k) dX6_takes_142 hA.2.2.2.2 (by omega) (by omega) (by omega) ?_
      refine aw_laddZ dX6_takes_143 ?_
      refine aw_lload dX6_takes_144 (by rfl) ?_
      refine aw_laddZ dX6_takes_146 ?_
      refine aw_topl (y := v) (by rw [eu]; omega) ?_
      refine aw_lstore dX6_takes_147 (by decide) ?_
      refine aw_aload_n dX6_takes_149 (by rfl) (Or.inr ⟨_, rfl⟩) ?_
      refine aw_get fX6_20 dX6_takes_150 hmo (by rfl) ?_
      refine aw_iload_n dX6_takes_153 (by rfl) ?_
      refine aw_iload dX6_takes_154 (by rfl) ?_
      refine aw_iaddZ dX6_takes_156 ?_
      refine aw_lload dX6_takes_157 (by rfl) ?_
      refine aw_ldc2Z (z := 268435456) qX6_65 dX6_takes_159 (by decide) ?_
      refine aw_lremZ dX6_takes_162 (by omega) (by omega) (by omega) (by omega) ?_
      rw [Int.tmod_eq_emod_of_nonneg (by omega)]
      refine aw_lastZ (j + k) dX6_takes_163 hA.2.2.2.1 (by omega) (by omega) (by omega) ?_
      refine aw_lload dX6_takes_164 (by rfl) ?_
      refine aw_ldc2Z (z := 268435456) qX6_65 dX6_takes_166 (by decide) ?_
      refine aw_ldivZ dX6_takes_169 (by omega) (by omega) (by omega) (by omega) ?_
      rw [Int.tdiv_eq_ediv_of_nonneg (by omega)]
      refine aw_lstore dX6_takes_170 (by decide) ?_
      refine aw_iincZ dX6_takes_172 (by rfl) (by decide) ?_
      refine aw_goto (tgt := 121) dX6_takes_175 (by decide) ?_
      rw [show ((k : Int) + 1) = ((k + 1 : Nat) : Int) by omega]
      refine aw_pk [9, 7, 0, 1, 2, 3] (by rfl) ?_
      refine IH (k + 1) (by omega) ((AHu_ne (by omega)).trans hmo) hA.o1 (fun a ha => (AHu_ne (fun z => ha (by unfold EN; omega))).trans (hV a ha)) (fun i hi => by rw [upF_ne _ _ (by omega)]; exact hU i (by omega)) ?_ hs.2.2.1 ?_
      · intro i hi
        rw [wn_upF]
        unfold upF; split
        · omega
        · exact hF i (by omega)
      · rw [wn_upF]
        exact hs.2.2.2

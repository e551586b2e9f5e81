/-! ===== the reference: takes (a guessed digit times the divisor taken off the window) ===== -/
theorem tm_step {X Wd Vd : Nat → Int} {b c b' c' x u vk q : Int} {k : Nat} (hinv : mg 268435456 X k + (b - c) * 268435456 ^ k = mg 268435456 Wd k - q * mg 268435456 Vd k) (he : x + (b' - c') * 268435456 = (b - c) + u - q * vk) (hu : Wd k = u) (hv : Vd k = vk) : mg 268435456 (upF X k x) (k + 1) + (b' - c') * 268435456 ^ (k + 1) = mg 268435456 Wd (k + 1) - q * mg 268435456 Vd (k + 1) := by
  simp only [mg]
  rw [mg_upF, upF_self, Int.pow_succ, hu, hv]
  generalize (268435456 : Int) ^ k = P at hinv ⊢
  generalize b' - c' = t' at he ⊢
  generalize b - c = t0 at he hinv
  have e1 : (x + t' * 268435456) * P = (t0 + u - q * vk) * P := by rw [he]
  have e2 : t' * (P * 268435456) = t' * 268435456 * P := by rw [Int.mul_comm P 268435456, ← Int.mul_assoc]
  have e3 : q * (mg 268435456 Vd k + vk * P) = q * mg 268435456 Vd k + q * vk * P := by rw [Int.mul_add, ← Int.mul_assoc]
  rw [Int.add_mul, Int.sub_mul, Int.add_mul] at e1
  rw [e2, e3]
  omega
theorem tm_bd {u vk q w : Int} (hu : 0 ≤ u ∧ u < 268435456) (hv : 0 ≤ vk ∧ vk < 268435456) (hq : 0 ≤ q ∧ q ≤ 268435456) (hw : 0 ≤ w ∧ w ≤ 268435456) : -72057594037927936 ≤ u - q * vk - w ∧ u - q * vk - w < 268435456 := by
  have h1 : 0 ≤ q * vk := Int.mul_nonneg hq.1 hv.1
  have h2 : q * vk ≤ 268435456 * 268435455 := Int.mul_le_mul hq.2 (by omega) hv.1 (by omega)
  generalize q * vk = e at h1 h2 ⊢
  omega
theorem tm_rem (v : Int) : (0 ≤ v.tmod 268435456 → v.tmod 268435456 = v % 268435456) ∧ (v.tmod 268435456 < 0 → v.tmod 268435456 + 268435456 = v % 268435456) ∧ -268435456 < v.tmod 268435456 ∧ v.tmod 268435456 < 268435456 := by
  rcases Int.lt_or_le v 0 with h | h
  · have e : v.tmod 268435456 = - ((-v) % 268435456) := by
      rw [← Int.tmod_eq_emod_of_nonneg (show 0 ≤ -v by omega), Int.neg_tmod, Int.neg_neg]
    rw [e]
    omega
  · rw [Int.tmod_eq_emod_of_nonneg h]
    omega
abbrev mX6_takes : MI := (yX6_takes, cX6_takes, 12, (some FieldType.long), noX)
theorem dX6_takes_0 : decode cX6_takes 0 = .ok (.lconst 0, 1) := by decide +kernel
theorem dX6_takes_1 : decode cX6_takes 1 = .ok (.lstore 5, 2) := by decide +kernel
theorem dX6_takes_3 : decode cX6_takes 3 = .ok (.iconst 0, 1) := by decide +kernel
theorem dX6_takes_4 : decode cX6_takes 4 = .ok (.istore 7, 2) := by decide +kernel
theorem dX6_takes_6 : decode cX6_takes 6 = .ok (.iload 7, 2) := by decide +kernel
theorem dX6_takes_8 : decode cX6_takes 8 = .ok (.iload_n 2, 1) := by decide +kernel
theorem dX6_takes_9 : decode cX6_takes 9 = .ok (.if_icmp .ge 78, 3) := by decide +kernel
theorem dX6_takes_12 : decode cX6_takes 12 = .ok (.aload_n 0, 1) := by decide +kernel
theorem dX6_takes_13 : decode cX6_takes 13 = .ok (.getfield 20, 3) := by decide +kernel
theorem dX6_takes_16 : decode cX6_takes 16 = .ok (.iload_n 1, 1) := by decide +kernel
theorem dX6_takes_17 : decode cX6_takes 17 = .ok (.iload 7, 2) := by decide +kernel
theorem dX6_takes_19 : decode cX6_takes 19 = .ok (.iadd, 1) := by decide +kernel
theorem dX6_takes_20 : decode cX6_takes 20 = .ok (.laload, 1) := by decide +kernel
theorem dX6_takes_21 : decode cX6_takes 21 = .ok (.lload_n 3, 1) := by decide +kernel
theorem dX6_takes_22 : decode cX6_takes 22 = .ok (.aload_n 0, 1) := by decide +kernel
theorem dX6_takes_23 : decode cX6_takes 23 = .ok (.getfield 24, 3) := by decide +kernel
theorem dX6_takes_26 : decode cX6_takes 26 = .ok (.iload 7, 2) := by decide +kernel
theorem dX6_takes_28 : decode cX6_takes 28 = .ok (.laload, 1) := by decide +kernel
theorem dX6_takes_29 : decode cX6_takes 29 = .ok (.lmul, 1) := by decide +kernel
theorem dX6_takes_30 : decode cX6_takes 30 = .ok (.lsub, 1) := by decide +kernel
theorem dX6_takes_31 : decode cX6_takes 31 = .ok (.lload 5, 2) := by decide +kernel
theorem dX6_takes_33 : decode cX6_takes 33 = .ok (.lsub, 1) := by decide +kernel
theorem dX6_takes_34 : decode cX6_takes 34 = .ok (.lstore 8, 2) := by decide +kernel
theorem dX6_takes_36 : decode cX6_takes 36 = .ok (.lload 8, 2) := by decide +kernel
theorem dX6_takes_38 : decode cX6_takes 38 = .ok (.ldc2_w 65, 3) := by decide +kernel
theorem dX6_takes_41 : decode cX6_takes 41 = .ok (.lrem, 1) := by decide +kernel
theorem dX6_takes_42 : decode cX6_takes 42 = .ok (.lstore 10, 2) := by decide +kernel
theorem dX6_takes_44 : decode cX6_takes 44 = .ok (.lload 10, 2) := by decide +kernel
theorem dX6_takes_46 : decode cX6_takes 46 = .ok (.lconst 0, 1) := by decide +kernel
theorem dX6_takes_47 : decode cX6_takes 47 = .ok (.lcmp, 1) := by decide +kernel
theorem dX6_takes_48 : decode cX6_takes 48 = .ok (.ifCond .ge 11, 3) := by decide +kernel
theorem dX6_takes_51 : decode cX6_takes 51 = .ok (.lload 10, 2) := by decide +kernel
theorem dX6_takes_53 : decode cX6_takes 53 = .ok (.ldc2_w 65, 3) := by decide +kernel
theorem dX6_takes_56 : decode cX6_takes 56 = .ok (.ladd, 1) := by decide +kernel
theorem dX6_takes_57 : decode cX6_takes 57 = .ok (.lstore 10, 2) := by decide +kernel
theorem dX6_takes_59 : decode cX6_takes 59 = .ok (.lload 10, 2) := by decide +kernel
theorem dX6_takes_61 : decode cX6_takes 61 = .ok (.lload 8, 2) := by decide +kernel
theorem dX6_takes_63 : decode cX6_takes 63 = .ok (.lsub, 1) := by decide +kernel
theorem dX6_takes_64 : decode cX6_takes 64 = .ok (.ldc2_w 65, 3) := by decide +kernel
theorem dX6_takes_67 : decode cX6_takes 67 = .ok (.ldiv, 1) := by decide +kernel
theorem dX6_takes_68 : decode cX6_takes 68 = .ok (.lstore 5, 2) := by decide +kernel
theorem dX6_takes_70 : decode cX6_takes 70 = .ok (.aload_n 0, 1) := by decide +kernel
theorem dX6_takes_71 : decode cX6_takes 71 = .ok (.getfield 20, 3) := by decide +kernel
theorem dX6_takes_74 : decode cX6_takes 74 = .ok (.iload_n 1, 1) := by decide +kernel
theorem dX6_takes_75 : decode cX6_takes 75 = .ok (.iload 7, 2) := by decide +kernel
theorem dX6_takes_77 : decode cX6_takes 77 = .ok (.iadd, 1) := by decide +kernel
theorem dX6_takes_78 : decode cX6_takes 78 = .ok (.lload 10, 2) := by decide +kernel
theorem dX6_takes_80 : decode cX6_takes 80 = .ok (.lastore, 1) := by decide +kernel
theorem dX6_takes_81 : decode cX6_takes 81 = .ok (.iinc 7 1, 3) := by decide +kernel
theorem dX6_takes_84 : decode cX6_takes 84 = .ok (.goto (-78), 3) := by decide +kernel
theorem dX6_takes_87 : decode cX6_takes 87 = .ok (.aload_n 0, 1) := by decide +kernel
theorem dX6_takes_88 : decode cX6_takes 88 = .ok (.getfield 20, 3) := by decide +kernel
theorem dX6_takes_91 : decode cX6_takes 91 = .ok (.iload_n 1, 1) := by decide +kernel
theorem dX6_takes_92 : decode cX6_takes 92 = .ok (.iload_n 2, 1) := by decide +kernel
theorem dX6_takes_93 : decode cX6_takes 93 = .ok (.iadd, 1) := by decide +kernel
theorem dX6_takes_94 : decode cX6_takes 94 = .ok (.dup2, 1) := by decide +kernel
theorem dX6_takes_95 : decode cX6_takes 95 = .ok (.laload, 1) := by decide +kernel
theorem dX6_takes_96 : decode cX6_takes 96 = .ok (.lload 5, 2) := by decide +kernel
theorem dX6_takes_98 : decode cX6_takes 98 = .ok (.lsub, 1) := by decide +kernel
theorem dX6_takes_99 : decode cX6_takes 99 = .ok (.lastore, 1) := by decide +kernel
theorem dX6_takes_100 : decode cX6_takes 100 = .ok (.aload_n 0, 1) := by decide +kernel
theorem dX6_takes_101 : decode cX6_takes 101 = .ok (.getfield 20, 3) := by decide +kernel
theorem dX6_takes_104 : decode cX6_takes 104 = .ok (.iload_n 1, 1) := by decide +kernel
theorem dX6_takes_105 : decode cX6_takes 105 = .ok (.iload_n 2, 1) := by decide +kernel
theorem dX6_takes_106 : decode cX6_takes 106 = .ok (.iadd, 1) := by decide +kernel
theorem dX6_takes_107 : decode cX6_takes 107 = .ok (.laload, 1) := by decide +kernel
theorem dX6_takes_108 : decode cX6_takes 108 = .ok (.lconst 0, 1) := by decide +kernel
theorem dX6_takes_109 : decode cX6_takes 109 = .ok (.lcmp, 1) := by decide +kernel
theorem dX6_takes_110 : decode cX6_takes 110 = .ok (.ifCond .lt 5, 3) := by decide +kernel
theorem dX6_takes_113 : decode cX6_takes 113 = .ok (.lload_n 3, 1) := by decide +kernel
theorem dX6_takes_114 : decode cX6_takes 114 = .ok (.lreturn, 1) := by decide +kernel
theorem dX6_takes_115 : decode cX6_takes 115 = .ok (.lconst 0, 1) := by decide +kernel
theorem dX6_takes_116 : decode cX6_takes 116 = .ok (.lstore 7, 2) := by decide +kernel
theorem dX6_takes_118 : decode cX6_takes 118 = .ok (.iconst 0, 1) := by decide +kernel
theorem dX6_takes_119 : decode cX6_takes 119 = .ok (.istore 9, 2) := by decide +kernel
theorem dX6_takes_121 : decode cX6_takes 121 = .ok (.iload 9, 2) := by decide +kernel
theorem dX6_takes_123 : decode cX6_takes 123 = .ok (.iload_n 2, 1) := by decide +kernel
theorem dX6_takes_124 : decode cX6_takes 124 = .ok (.if_icmp .ge 54, 3) := by decide +kernel
theorem dX6_takes_127 : decode cX6_takes 127 = .ok (.aload_n 0, 1) := by decide +kernel
theorem dX6_takes_128 : decode cX6_takes 128 = .ok (.getfield 20, 3) := by decide +kernel
theorem dX6_takes_131 : decode cX6_takes 131 = .ok (.iload_n 1, 1) := by decide +kernel
theorem dX6_takes_132 : decode cX6_takes 132 = .ok (.iload 9, 2) := by decide +kernel
theorem dX6_takes_134 : decode cX6_takes 134 = .ok (.iadd, 1) := by decide +kernel
theorem dX6_takes_135 : decode cX6_takes 135 = .ok (.laload, 1) := by decide +kernel
theorem dX6_takes_136 : decode cX6_takes 136 = .ok (.aload_n 0, 1) := by decide +kernel
theorem dX6_takes_137 : decode cX6_takes 137 = .ok (.getfield 24, 3) := by decide +kernel
theorem dX6_takes_140 : decode cX6_takes 140 = .ok (.iload 9, 2) := by decide +kernel
theorem dX6_takes_142 : decode cX6_takes 142 = .ok (.laload, 1) := by decide +kernel
theorem dX6_takes_143 : decode cX6_takes 143 = .ok (.ladd, 1) := by decide +kernel
theorem dX6_takes_144 : decode cX6_takes 144 = .ok (.lload 7, 2) := by decide +kernel
theorem dX6_takes_146 : decode cX6_takes 146 = .ok (.ladd, 1) := by decide +kernel
theorem dX6_takes_147 : decode cX6_takes 147 = .ok (.lstore 10, 2) := by decide +kernel
theorem dX6_takes_149 : decode cX6_takes 149 = .ok (.aload_n 0, 1) := by decide +kernel
theorem dX6_takes_150 : decode cX6_takes 150 = .ok (.getfield 20, 3) := by decide +kernel
theorem dX6_takes_153 : decode cX6_takes 153 = .ok (.iload_n 1, 1) := by decide +kernel
theorem dX6_takes_154 : decode cX6_takes 154 = .ok (.iload 9, 2) := by decide +kernel
theorem dX6_takes_156 : decode cX6_takes 156 = .ok (.iadd, 1) := by decide +kernel
theorem dX6_takes_157 : decode cX6_takes 157 = .ok (.lload 10, 2) := by decide +kernel
theorem dX6_takes_159 : decode cX6_takes 159 = .ok (.ldc2_w 65, 3) := by decide +kernel
theorem dX6_takes_162 : decode cX6_takes 162 = .ok (.lrem, 1) := by decide +kernel
theorem dX6_takes_163 : decode cX6_takes 163 = .ok (.lastore, 1) := by decide +kernel
theorem dX6_takes_164 : decode cX6_takes 164 = .ok (.lload 10, 2) := by decide +kernel
theorem dX6_takes_166 : decode cX6_takes 166 = .ok (.ldc2_w 65, 3) := by decide +kernel
theorem dX6_takes_169 : decode cX6_takes 169 = .ok (.ldiv, 1) := by decide +kernel
theorem dX6_takes_170 : decode cX6_takes 170 = .ok (.lstore 7, 2) := by decide +kernel
theorem dX6_takes_172 : decode cX6_takes 172 = .ok (.iinc 9 1, 3) := by decide +kernel
theorem dX6_takes_175 : decode cX6_takes 175 = .ok (.goto (-54), 3) := by decide +kernel
theorem dX6_takes_178 : decode cX6_takes 178 = .ok (.aload_n 0, 1) := by decide +kernel
theorem dX6_takes_179 : decode cX6_takes 179 = .ok (.getfield 20, 3) := by decide +kernel
theorem dX6_takes_182 : decode cX6_takes 182 = .ok (.iload_n 1, 1) := by decide +kernel
theorem dX6_takes_183 : decode cX6_takes 183 = .ok (.iload_n 2, 1) := by decide +kernel
theorem dX6_takes_184 : decode cX6_takes 184 = .ok (.iadd, 1) := by decide +kernel
theorem dX6_takes_185 : decode cX6_takes 185 = .ok (.dup2, 1) := by decide +kernel
theorem dX6_takes_186 : decode cX6_takes 186 = .ok (.laload, 1) := by decide +kernel
theorem dX6_takes_187 : decode cX6_takes 187 = .ok (.lload 7, 2) := by decide +kernel
theorem dX6_takes_189 : decode cX6_takes 189 = .ok (.ladd, 1) := by decide +kernel
theorem dX6_takes_190 : decode cX6_takes 190 = .ok (.lastore, 1) := by decide +kernel
theorem dX6_takes_191 : decode cX6_takes 191 = .ok (.lload_n 3, 1) := by decide +kernel
theorem dX6_takes_192 : decode cX6_takes 192 = .ok (.lconst 1, 1) := by decide +kernel
theorem dX6_takes_193 : decode cX6_takes 193 = .ok (.lsub, 1) := by decide +kernel
theorem dX6_takes_194 : decode cX6_takes 194 = .ok (.lreturn, 1) := by decide +kernel
theorem tm_loop (d : Nat) {g : GX} {mo sz : Nat} {rk kn ar ac : Int} {D LN SG U O2 : Nat → Int} {V0 : AH} {j n : Nat} {q : Int} {Q : AQ} (hjn : j + n < 220) (hq : 0 ≤ q ∧ q ≤ 268435456) (hB : ∀ i, i < n → 0 ≤ O2 i ∧ O2 i < 268435456) (hUb : ∀ i, i < n → 0 ≤ U (j + i) ∧ U (j + i) < 268435456)
    (hKK : ∀ {V : AH} {R : Nat → Int} {w : Int}, V mo = some (moO mo rk kn ar ac) → MA g mo V D LN SG R O2 → (∀ a, ¬ EN mo a → V a = V0 a) → (∀ i, i < j ∨ j + n ≤ i → R i = U i) → (∀ i, i < n → 0 ≤ wn R j i ∧ wn R j i < 268435456) → (0 ≤ w ∧ w ≤ 268435456) → mg 268435456 (wn R j) n + (0 - w) * 268435456 ^ n = mg 268435456 (wn U j) n - q * mg 268435456 O2 n → AW g mX6_takes d 87 [(5, .long (jZ w)), (0, .ref mo), (1, .int (iZ j)), (2, .int (iZ n)), (3, .long (jZ q))] [] V sz Q) : ∀ (y k : Nat), k + y = n → ∀ {V : AH} {R : Nat → Int} {w : Int}, V mo = some (moO mo rk kn ar ac) → MA g mo V D LN SG R O2 → (∀ a, ¬ EN mo a → V a = V0 a) → (∀ i, i < j ∨ j + k ≤ i → R i = U i) → (∀ i, i < k → 0 ≤ wn R j i ∧ wn R j i < 268435456) → (0 ≤ w ∧ w ≤ 268435456) → mg 268435456 (wn R j) k + (0 - w) * 268435456 ^ k = mg 268435456 (wn U j) k - q * mg 268435456 O2 k → AW g mX6_takes d 6 [(7, .int (iZ k)), (5, .long (jZ w)), (0, .ref mo), (1, .int (iZ j)), (2, .int (iZ n)), (3, .long (jZ q))] [] V sz Q
  | 0, k, hy, V, R, w, hmo, hA, hV, hU, hF, hw, hE => by
    refine aw_iload dX6_takes_6 (by rfl) ?_
    refine aw_iload_n dX6_takes_8 (by rfl) ?_
    refine aw_icmp_geZ (tgt := 87) dX6_takes_9 (by decide) (by omega) (by omega) (fun hc_9 => ?_) (fun hc_9 => ?_)
    · obtain rfl : k = n := by omega
      exact aw_pk [5, 0, 1, 2, 3] (by rfl) (hKK hmo hA hV hU hF hw hE)
    · exact absurd hc_9 (by omega)
  | y + 1, k, hy, V, R, w, hmo, hA, hV, hU, hF, hw, hE => by
    have IH := fun k hk => @tm_loop d g mo sz rk kn ar ac D LN SG U O2 V0 j n q Q hjn hq hB hUb hKK y k hk
    clear hKK
    obtain ⟨v, hv0⟩ : ∃ v, R (j + k) - q * O2 k - w = v := ⟨_, rfl⟩
    have hvb := tm_bd (show 0 ≤ R (j + k) ∧ R (j + k) < 268435456 by rw [hU (j + k) (by omega)]; exact hUb k (by omega)) (hB k (by omega)) hq hw
    rw [hv0] at hvb
    have hr := tm_rem v
    have J59 : AW g mX6_takes d 59 [(10, .long (jZ (v % 268435456))), (8, .long (jZ v)), (7, .int (iZ k)), (5, .long (jZ w)), (0, .ref mo), (1, .int (iZ j)), (2, .int (iZ n)), (3, .long (jZ q))] [] V sz Q := by
      refine aw_lload dX6_takes_59 (by rfl) ?_
      refine aw_lload dX6_takes_61 (by rfl) ?_
      refine aw_lsubZ dX6_takes_63 ?_
      refine aw_ldc2Z (z := 268435456) qX6_65 dX6_takes_64 (by decide) ?_
      refine aw_ldivZ dX6_takes_67 (by omega) (by omega) (by omega) (by omega) ?_
      refine aw_topl (y := - (v / 268435456)) (by rw [show v % 268435456 - v = 268435456 * (- (v / 268435456)) by omega]; exact Int.mul_tdiv_cancel_left _ (by omega)) ?_
      refine aw_lstore dX6_takes_68 (by decide) ?_
      refine aw_aload_n dX6_takes_70 (by rfl) (Or.inr ⟨_, rfl⟩) ?_
      refine aw_get fX6_20 dX6_takes_71 hmo (by rfl) ?_
      refine aw_iload_n dX6_takes_74 (by rfl) ?_
      refine aw_iload dX6_takes_75 (by rfl) ?_
      refine aw_iaddZ dX6_takes_77 ?_
      refine aw_lload dX6_takes_78 (by rfl) ?_
      refine aw_lastZ (j + k) dX6_takes_80 hA.2.2.2.1 (by omega) (by omega) (by omega) ?_
      refine aw_iincZ dX6_takes_81 (by rfl) (by decide) ?_
      refine aw_goto (tgt := 6) dX6_takes_84 (by decide) ?_
      rw [show ((k : Int) + 1) = ((k + 1 : Nat) : Int) by omega]
      refine aw_pk [7, 5, 0, 1, 2, 3] (by rfl) ?_
      refine IH (k + 1) (by omega) ((AHu_ne (by omega)).trans hmo) hA.o1 (fun a ha => (AHu_ne (fun z => ha (by unfold EN; omega))).trans (hV a ha)) (fun i hi => by rw [upF_ne _ _ (by omega)]; exact hU i (by omega)) ?_ (by omega) ?_
      · intro i hi
        rw [wn_upF]
        unfold upF; split
        · omega
        · exact hF i (by omega)
      · rw [wn_upF]
        exact tm_step hE (by omega) (show wn U j k = R (j + k) from (hU (j + k) (by omega)).symm) rfl
    refine aw_iload dX6_takes_6 (by rfl) ?_
    refine aw_iload_n dX6_takes_8 (by rfl) ?_
    refine aw_icmp_geZ (tgt := 87) dX6_takes_9 (by decide) (by omega) (by omega) (fun hc_9 => ?_) (fun hc_9 => ?_)
    · exact absurd hc_9 (by omega)
    · refine aw_aload_n dX6_takes_12 (by rfl) (Or.inr ⟨_, rfl⟩) ?_
      refine aw_get fX6_20 dX6_takes_13 hmo (by rfl) ?_
      refine aw_iload_n dX6_takes_16 (by rfl) ?_
      refine aw_iload dX6_takes_17 (by rfl) ?_
      refine aw_iaddZ dX6_takes_19 ?_
      refine aw_laldZ (j + k) dX6_takes_20 hA.2.2.2.1 (by omega) (by omega) (by omega) ?_
      refine aw_lload_n dX6_takes_21 (by rfl) ?_
      refine aw_aload_n dX6_takes_22 (by rfl) (Or.inr ⟨_, rfl⟩) ?_
      refine aw_get fX6_24 dX6_takes_23 hmo (by rfl) ?_
      refine aw_iload dX6_takes_26 (by rfl) ?_
      refine aw_laldZ (k) dX6_takes_28 hA.2.2.2.2 (by omega) (by omega) (by omega) ?_
      refine aw_lmulZ dX6_takes_29 ?_
      refine aw_lsubZ dX6_takes_30 ?_
      refine aw_lload dX6_takes_31 (by rfl) ?_
      refine aw_lsubZ dX6_takes_33 ?_
      refine aw_topl (y := v) hv0 ?_
      refine aw_lstore dX6_takes_34 (by decide) ?_
      refine aw_lload dX6_takes_36 (by rfl) ?_
      refine aw_ldc2Z (z := 268435456) qX6_65 dX6_takes_38 (by decide) ?_
      refine aw_lremZ dX6_takes_41 (by omega) (by omega) (by omega) (by omega) ?_
      refine aw_lstore dX6_takes_42 (by decide) ?_
      refine aw_lload dX6_takes_44 (by rfl) ?_
      refine aw_lconstZ (z := 0) dX6_takes_46 (by decide) ?_
      refine aw_lcmpZ dX6_takes_47 (by omega) (by omega) ?_
      refine aw_if_geZ (tgt := 59) dX6_takes_48 (by decide) (cmpZ_R _ _) (fun hc_48 => ?_) (fun hc_48 => ?_)
      · rw [hr.1 (cmpZ_ge.mp hc_48)]
        exact aw_pk [10, 8, 7, 5, 0, 1, 2, 3] (by rfl) J59
      · refine aw_lload dX6_takes_51 (by rfl) ?_
        refine aw_ldc2Z (z := 268435456) qX6_65 dX6_takes_53 (by decide) ?_
        refine aw_laddZ dX6_takes_56 ?_
        refine aw_topl (y := v % 268435456) (hr.2.1 (by have : ¬ 0 ≤ v.tmod 268435456 := fun z => hc_48 (cmpZ_ge.mpr z); omega)) ?_
        refine aw_lstore dX6_takes_57 (by decide) ?_
        exact aw_pk [10, 8, 7, 5, 0, 1, 2, 3] (by rfl) J59

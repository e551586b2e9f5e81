/-! ===== Desk.guessDigit ===== -/
abbrev dkO (r dv on gr sm fa pr : Nat) : va_E := .inr (0, [.ref r, .ref dv, .ref on, .ref gr, .ref sm, .ref fa, .ref pr])
/-- a digit that is right or 1 too high -/
def GDP (V : AH) (sz : Nat) (v W : Int) : AQ := fun r V' sz' mc ms => (∃ q : Int, some (.long (jZ q)) = r ∧ (0 ≤ q ∧ q ≤ 2147483648) ∧ W < (q + 1) * v ∧ (q - 1) * v ≤ W) ∧ V = V' ∧ sz = sz' ∧ 0 = mc ∧ 0 = ms
abbrev mX0_guessDigit : MI := (yX0_guessDigit, cX0_guessDigit, 16, (some FieldType.long), noX)
theorem dX0_guessDigit_0 : decode cX0_guessDigit 0 = .ok (.aload_n 0, 1) := by decide +kernel
theorem dX0_guessDigit_1 : decode cX0_guessDigit 1 = .ok (.getfield 18, 3) := by decide +kernel
theorem dX0_guessDigit_4 : decode cX0_guessDigit 4 = .ok (.getfield 67, 3) := by decide +kernel
theorem dX0_guessDigit_7 : decode cX0_guessDigit 7 = .ok (.iload_n 2, 1) := by decide +kernel
theorem dX0_guessDigit_8 : decode cX0_guessDigit 8 = .ok (.iconst 1, 1) := by decide +kernel
theorem dX0_guessDigit_9 : decode cX0_guessDigit 9 = .ok (.isub, 1) := by decide +kernel
theorem dX0_guessDigit_10 : decode cX0_guessDigit 10 = .ok (.iaload, 1) := by decide +kernel
theorem dX0_guessDigit_11 : decode cX0_guessDigit 11 = .ok (.i2l, 1) := by decide +kernel
theorem dX0_guessDigit_12 : decode cX0_guessDigit 12 = .ok (.lstore_n 3, 1) := by decide +kernel
theorem dX0_guessDigit_13 : decode cX0_guessDigit 13 = .ok (.iload_n 2, 1) := by decide +kernel
theorem dX0_guessDigit_14 : decode cX0_guessDigit 14 = .ok (.iconst 1, 1) := by decide +kernel
theorem dX0_guessDigit_15 : decode cX0_guessDigit 15 = .ok (.if_icmp .le 18, 3) := by decide +kernel
theorem dX0_guessDigit_18 : decode cX0_guessDigit 18 = .ok (.aload_n 0, 1) := by decide +kernel
theorem dX0_guessDigit_19 : decode cX0_guessDigit 19 = .ok (.getfield 18, 3) := by decide +kernel
theorem dX0_guessDigit_22 : decode cX0_guessDigit 22 = .ok (.getfield 67, 3) := by decide +kernel
theorem dX0_guessDigit_25 : decode cX0_guessDigit 25 = .ok (.iload_n 2, 1) := by decide +kernel
theorem dX0_guessDigit_26 : decode cX0_guessDigit 26 = .ok (.iconst 2, 1) := by decide +kernel
theorem dX0_guessDigit_27 : decode cX0_guessDigit 27 = .ok (.isub, 1) := by decide +kernel
theorem dX0_guessDigit_28 : decode cX0_guessDigit 28 = .ok (.iaload, 1) := by decide +kernel
theorem dX0_guessDigit_29 : decode cX0_guessDigit 29 = .ok (.i2l, 1) := by decide +kernel
theorem dX0_guessDigit_30 : decode cX0_guessDigit 30 = .ok (.goto 4, 3) := by decide +kernel
theorem dX0_guessDigit_33 : decode cX0_guessDigit 33 = .ok (.lconst 0, 1) := by decide +kernel
theorem dX0_guessDigit_34 : decode cX0_guessDigit 34 = .ok (.lstore 5, 2) := by decide +kernel
theorem dX0_guessDigit_36 : decode cX0_guessDigit 36 = .ok (.iload_n 2, 1) := by decide +kernel
theorem dX0_guessDigit_37 : decode cX0_guessDigit 37 = .ok (.iconst 1, 1) := by decide +kernel
theorem dX0_guessDigit_38 : decode cX0_guessDigit 38 = .ok (.if_icmp .le 18, 3) := by decide +kernel
theorem dX0_guessDigit_41 : decode cX0_guessDigit 41 = .ok (.aload_n 0, 1) := by decide +kernel
theorem dX0_guessDigit_42 : decode cX0_guessDigit 42 = .ok (.getfield 12, 3) := by decide +kernel
theorem dX0_guessDigit_45 : decode cX0_guessDigit 45 = .ok (.getfield 67, 3) := by decide +kernel
theorem dX0_guessDigit_48 : decode cX0_guessDigit 48 = .ok (.iload_n 1, 1) := by decide +kernel
theorem dX0_guessDigit_49 : decode cX0_guessDigit 49 = .ok (.iconst 2, 1) := by decide +kernel
theorem dX0_guessDigit_50 : decode cX0_guessDigit 50 = .ok (.isub, 1) := by decide +kernel
theorem dX0_guessDigit_51 : decode cX0_guessDigit 51 = .ok (.iaload, 1) := by decide +kernel
theorem dX0_guessDigit_52 : decode cX0_guessDigit 52 = .ok (.i2l, 1) := by decide +kernel
theorem dX0_guessDigit_53 : decode cX0_guessDigit 53 = .ok (.goto 4, 3) := by decide +kernel
theorem dX0_guessDigit_56 : decode cX0_guessDigit 56 = .ok (.lconst 0, 1) := by decide +kernel
theorem dX0_guessDigit_57 : decode cX0_guessDigit 57 = .ok (.lstore 7, 2) := by decide +kernel
theorem dX0_guessDigit_59 : decode cX0_guessDigit 59 = .ok (.aload_n 0, 1) := by decide +kernel
theorem dX0_guessDigit_60 : decode cX0_guessDigit 60 = .ok (.getfield 12, 3) := by decide +kernel
theorem dX0_guessDigit_63 : decode cX0_guessDigit 63 = .ok (.getfield 67, 3) := by decide +kernel
theorem dX0_guessDigit_66 : decode cX0_guessDigit 66 = .ok (.iload_n 1, 1) := by decide +kernel
theorem dX0_guessDigit_67 : decode cX0_guessDigit 67 = .ok (.iaload, 1) := by decide +kernel
theorem dX0_guessDigit_68 : decode cX0_guessDigit 68 = .ok (.i2l, 1) := by decide +kernel
theorem dX0_guessDigit_69 : decode cX0_guessDigit 69 = .ok (.bipush 31, 2) := by decide +kernel
theorem dX0_guessDigit_71 : decode cX0_guessDigit 71 = .ok (.lshl, 1) := by decide +kernel
theorem dX0_guessDigit_72 : decode cX0_guessDigit 72 = .ok (.aload_n 0, 1) := by decide +kernel
theorem dX0_guessDigit_73 : decode cX0_guessDigit 73 = .ok (.getfield 12, 3) := by decide +kernel
theorem dX0_guessDigit_76 : decode cX0_guessDigit 76 = .ok (.getfield 67, 3) := by decide +kernel
theorem dX0_guessDigit_79 : decode cX0_guessDigit 79 = .ok (.iload_n 1, 1) := by decide +kernel
theorem dX0_guessDigit_80 : decode cX0_guessDigit 80 = .ok (.iconst 1, 1) := by decide +kernel
theorem dX0_guessDigit_81 : decode cX0_guessDigit 81 = .ok (.isub, 1) := by decide +kernel
theorem dX0_guessDigit_82 : decode cX0_guessDigit 82 = .ok (.iaload, 1) := by decide +kernel
theorem dX0_guessDigit_83 : decode cX0_guessDigit 83 = .ok (.i2l, 1) := by decide +kernel
theorem dX0_guessDigit_84 : decode cX0_guessDigit 84 = .ok (.ladd, 1) := by decide +kernel
theorem dX0_guessDigit_85 : decode cX0_guessDigit 85 = .ok (.lstore 9, 2) := by decide +kernel
theorem dX0_guessDigit_87 : decode cX0_guessDigit 87 = .ok (.lload_n 3, 1) := by decide +kernel
theorem dX0_guessDigit_88 : decode cX0_guessDigit 88 = .ok (.lconst 0, 1) := by decide +kernel
theorem dX0_guessDigit_89 : decode cX0_guessDigit 89 = .ok (.lcmp, 1) := by decide +kernel
theorem dX0_guessDigit_90 : decode cX0_guessDigit 90 = .ok (.ifCond .le 10, 3) := by decide +kernel
theorem dX0_guessDigit_93 : decode cX0_guessDigit 93 = .ok (.lload 9, 2) := by decide +kernel
theorem dX0_guessDigit_95 : decode cX0_guessDigit 95 = .ok (.lload_n 3, 1) := by decide +kernel
theorem dX0_guessDigit_96 : decode cX0_guessDigit 96 = .ok (.ldiv, 1) := by decide +kernel
theorem dX0_guessDigit_97 : decode cX0_guessDigit 97 = .ok (.goto 4, 3) := by decide +kernel
theorem dX0_guessDigit_100 : decode cX0_guessDigit 100 = .ok (.lconst 0, 1) := by decide +kernel
theorem dX0_guessDigit_101 : decode cX0_guessDigit 101 = .ok (.lstore 11, 2) := by decide +kernel
theorem dX0_guessDigit_103 : decode cX0_guessDigit 103 = .ok (.lload 9, 2) := by decide +kernel
theorem dX0_guessDigit_105 : decode cX0_guessDigit 105 = .ok (.lload 11, 2) := by decide +kernel
theorem dX0_guessDigit_107 : decode cX0_guessDigit 107 = .ok (.lload_n 3, 1) := by decide +kernel
theorem dX0_guessDigit_108 : decode cX0_guessDigit 108 = .ok (.lmul, 1) := by decide +kernel
theorem dX0_guessDigit_109 : decode cX0_guessDigit 109 = .ok (.lsub, 1) := by decide +kernel
theorem dX0_guessDigit_110 : decode cX0_guessDigit 110 = .ok (.lstore 13, 2) := by decide +kernel
theorem dX0_guessDigit_112 : decode cX0_guessDigit 112 = .ok (.iconst 0, 1) := by decide +kernel
theorem dX0_guessDigit_113 : decode cX0_guessDigit 113 = .ok (.istore 15, 2) := by decide +kernel
theorem dX0_guessDigit_115 : decode cX0_guessDigit 115 = .ok (.iload 15, 2) := by decide +kernel
theorem dX0_guessDigit_117 : decode cX0_guessDigit 117 = .ok (.iconst 2, 1) := by decide +kernel
theorem dX0_guessDigit_118 : decode cX0_guessDigit 118 = .ok (.if_icmp .ge 56, 3) := by decide +kernel
theorem dX0_guessDigit_121 : decode cX0_guessDigit 121 = .ok (.lload 13, 2) := by decide +kernel
theorem dX0_guessDigit_123 : decode cX0_guessDigit 123 = .ok (.ldc2_w 96, 3) := by decide +kernel
theorem dX0_guessDigit_126 : decode cX0_guessDigit 126 = .ok (.lcmp, 1) := by decide +kernel
theorem dX0_guessDigit_127 : decode cX0_guessDigit 127 = .ok (.ifCond .gt 47, 3) := by decide +kernel
theorem dX0_guessDigit_130 : decode cX0_guessDigit 130 = .ok (.lload 11, 2) := by decide +kernel
theorem dX0_guessDigit_132 : decode cX0_guessDigit 132 = .ok (.ldc2_w 96, 3) := by decide +kernel
theorem dX0_guessDigit_135 : decode cX0_guessDigit 135 = .ok (.lcmp, 1) := by decide +kernel
theorem dX0_guessDigit_136 : decode cX0_guessDigit 136 = .ok (.ifCond .gt 20, 3) := by decide +kernel
theorem dX0_guessDigit_139 : decode cX0_guessDigit 139 = .ok (.lload 11, 2) := by decide +kernel
theorem dX0_guessDigit_141 : decode cX0_guessDigit 141 = .ok (.lload 5, 2) := by decide +kernel
theorem dX0_guessDigit_143 : decode cX0_guessDigit 143 = .ok (.lmul, 1) := by decide +kernel
theorem dX0_guessDigit_144 : decode cX0_guessDigit 144 = .ok (.lload 13, 2) := by decide +kernel
theorem dX0_guessDigit_146 : decode cX0_guessDigit 146 = .ok (.bipush 31, 2) := by decide +kernel
theorem dX0_guessDigit_148 : decode cX0_guessDigit 148 = .ok (.lshl, 1) := by decide +kernel
theorem dX0_guessDigit_149 : decode cX0_guessDigit 149 = .ok (.lload 7, 2) := by decide +kernel
theorem dX0_guessDigit_151 : decode cX0_guessDigit 151 = .ok (.ladd, 1) := by decide +kernel
theorem dX0_guessDigit_152 : decode cX0_guessDigit 152 = .ok (.lcmp, 1) := by decide +kernel
theorem dX0_guessDigit_153 : decode cX0_guessDigit 153 = .ok (.ifCond .le 15, 3) := by decide +kernel
theorem dX0_guessDigit_156 : decode cX0_guessDigit 156 = .ok (.lload 11, 2) := by decide +kernel
theorem dX0_guessDigit_158 : decode cX0_guessDigit 158 = .ok (.lconst 1, 1) := by decide +kernel
theorem dX0_guessDigit_159 : decode cX0_guessDigit 159 = .ok (.lsub, 1) := by decide +kernel
theorem dX0_guessDigit_160 : decode cX0_guessDigit 160 = .ok (.lstore 11, 2) := by decide +kernel
theorem dX0_guessDigit_162 : decode cX0_guessDigit 162 = .ok (.lload 13, 2) := by decide +kernel
theorem dX0_guessDigit_164 : decode cX0_guessDigit 164 = .ok (.lload_n 3, 1) := by decide +kernel
theorem dX0_guessDigit_165 : decode cX0_guessDigit 165 = .ok (.ladd, 1) := by decide +kernel
theorem dX0_guessDigit_166 : decode cX0_guessDigit 166 = .ok (.lstore 13, 2) := by decide +kernel
theorem dX0_guessDigit_168 : decode cX0_guessDigit 168 = .ok (.iinc 15 1, 3) := by decide +kernel
theorem dX0_guessDigit_171 : decode cX0_guessDigit 171 = .ok (.goto (-56), 3) := by decide +kernel
theorem dX0_guessDigit_174 : decode cX0_guessDigit 174 = .ok (.lload 11, 2) := by decide +kernel
theorem dX0_guessDigit_176 : decode cX0_guessDigit 176 = .ok (.lreturn, 1) := by decide +kernel
theorem gd_loop (g : GX) (d : Nat) {V : AH} {sz : Nat} {v1 v2 u2 u1 u0 v W : Int} (hKD : KD v1 v2 u2 u1 u0 v W) : ∀ (i e : Nat), e + i = 2 → ∀ {q over : Int}, u2 * 2147483648 + u1 = q * v1 + over → 0 ≤ q → (0 ≤ over ∧ over < 8589934592) → W < (q + 1) * v → ((1 ≤ e ∧ q ≤ 2147483648 ∧ (q - 1) * v ≤ W) ∨ (e = 0 ∧ q ≤ 2147483649 ∧ (q - 2) * v ≤ W ∧ over < v1)) → AW g mX0_guessDigit d 115 [(15, .int (iZ e)), (13, .long (jZ over)), (11, .long (jZ q)), (7, .long (jZ u0)), (5, .long (jZ v2)), (3, .long (jZ v1))] [] V sz (GDP V sz v W)
  | 0, e, he, q, over, hval, hq0, hov, hW, hm => by
    obtain rfl : e = 2 := by omega
    have hm := hm.resolve_right (fun h => by omega)
    refine aw_iload dX0_guessDigit_115 (by rfl) ?_
    refine aw_iconstZ dX0_guessDigit_117 ?_
    refine aw_icmp_geZ (tgt := 174) dX0_guessDigit_118 (by decide) (by omega) (by omega) (fun hc_118 => ?_) (fun hc_118 => ?_)
    · refine aw_lload dX0_guessDigit_174 (by rfl) ?_
      refine aw_lret dX0_guessDigit_176 rfl ?_
      exact ⟨⟨q, rfl, ⟨hq0, hm.2.1⟩, hW, hm.2.2⟩, rfl, rfl, rfl, rfl⟩
    · exact absurd hc_118 (by omega)
  | i + 1, e, he, q, over, hval, hq0, hov, hW, hm => by
    have hvp := hKD.vpos
    have hWn : 0 ≤ W ∧ (0 ≤ v2 ∧ v2 < 2147483648) ∧ (0 < v1 ∧ v1 < 2147483648) ∧ (0 ≤ u0 ∧ u0 < 2147483648) := by
      obtain ⟨P, lv, lw, hP, h1, h2, e1, e2, h3, h4, h5, h6, h7, h8⟩ := id hKD
      have : 0 ≤ ((u2 * 2147483648 + u1) * 2147483648 + u0) * P := Int.mul_nonneg (by omega) (by omega)
      exact ⟨by omega, h3, ⟨by omega, h4.2⟩, h7⟩
    obtain ⟨hW0, hv2, hv1, hu0⟩ := hWn
    have e31 : (2 : Int) ^ 31 = 2147483648 := by decide
    have DEC : ¬ 2147483647 < over → (2147483648 ≤ q ∨ over * 2147483648 + u0 < q * v2) → AW g mX0_guessDigit d 156 [(15, .int (iZ e)), (13, .long (jZ over)), (11, .long (jZ q)), (7, .long (jZ u0)), (5, .long (jZ v2)), (3, .long (jZ v1))] [] V sz (GDP V sz v W) := fun hsm ht => by
      have hWq := hKD.less hval hq0 ht
      have hq1 : 1 ≤ q := by
        rcases Int.lt_or_le q 1 with h | h
        · have : q = 0 := by omega
          subst this
          rw [Int.zero_mul] at hWq
          omega
        · exact h
      have hfine : (q - 1 - 1) * v ≤ W := by
        rcases hm with h | h
        · have : (q - 1 - 1) * v ≤ (q - 1) * v := Int.mul_le_mul_of_nonneg_right (by omega) (by omega)
          omega
        · rw [show q - 1 - 1 = q - 2 by omega]; exact h.2.2.1
      have hqb : q ≤ 2147483649 := by omega
      clear ht
      refine aw_lload dX0_guessDigit_156 (by rfl) ?_
      refine aw_lconstZ (z := 1) dX0_guessDigit_158 (by decide) ?_
      refine aw_lsubZ dX0_guessDigit_159 ?_
      refine aw_lstore dX0_guessDigit_160 (by decide) ?_
      refine aw_lload dX0_guessDigit_162 (by rfl) ?_
      refine aw_lload_n dX0_guessDigit_164 (by rfl) ?_
      refine aw_laddZ dX0_guessDigit_165 ?_
      refine aw_lstore dX0_guessDigit_166 (by decide) ?_
      refine aw_iincZ dX0_guessDigit_168 (by rfl) (by decide) ?_
      refine aw_goto (tgt := 115) dX0_guessDigit_171 (by decide) ?_
      refine aw_pk [15, 13, 11, 7, 5, 3] (by rfl) ?_
      rw [show ((e : Nat) : Int) + 1 = ((e + 1 : Nat) : Int) by omega]
      exact gd_loop g d hKD i (e + 1) (by omega) (q := q - 1) (over := over + v1) (by rw [Int.sub_mul, Int.one_mul]; omega) (by omega) (by omega) (by rw [show q - 1 + 1 = q by omega]; exact hWq) (Or.inl ⟨by omega, by omega, hfine⟩)
    have SAME : ¬ 2147483647 < over → q ≤ 2147483647 → q * v2 ≤ over * 2147483648 + u0 → AW g mX0_guessDigit d 168 [(15, .int (iZ e)), (13, .long (jZ over)), (11, .long (jZ q)), (7, .long (jZ u0)), (5, .long (jZ v2)), (3, .long (jZ v1))] [] V sz (GDP V sz v W) := fun hsm hqb hle => by
      have hfine := hKD.fine hval hq0 (by omega) hle
      clear hle
      refine aw_iincZ dX0_guessDigit_168 (by rfl) (by decide) ?_
      refine aw_goto (tgt := 115) dX0_guessDigit_171 (by decide) ?_
      refine aw_pk [15, 13, 11, 7, 5, 3] (by rfl) ?_
      rw [show ((e : Nat) : Int) + 1 = ((e + 1 : Nat) : Int) by omega]
      exact gd_loop g d hKD i (e + 1) (by omega) hval hq0 hov hW (Or.inl ⟨by omega, by omega, hfine⟩)
    have hqb : q ≤ 2147483649 := by omega
    refine aw_iload dX0_guessDigit_115 (by rfl) ?_
    refine aw_iconstZ dX0_guessDigit_117 ?_
    refine aw_icmp_geZ (tgt := 174) dX0_guessDigit_118 (by decide) (by omega) (by omega) (fun hc_118 => ?_) (fun hc_118 => ?_)
    · exact absurd hc_118 (by omega)
    · refine aw_lload dX0_guessDigit_121 (by rfl) ?_
      refine aw_ldc2Z (z := 2147483647) qX0_96 dX0_guessDigit_123 (by decide) ?_
      refine aw_lcmpZ dX0_guessDigit_126 (by omega) (by omega) ?_
      refine aw_if_gtZ (tgt := 174) dX0_guessDigit_127 (by decide) (cmpZ_R _ _) (fun hc_127 => ?_) (fun hc_127 => ?_)
      · have hbig := cmpZ_gt.mp hc_127
        have hbig := cmpZ_gt.mp hc_127
        have hm2 := hm.resolve_right (fun h => by omega)
        refine aw_lload dX0_guessDigit_174 (by rfl) ?_
        refine aw_lret dX0_guessDigit_176 rfl ?_
        exact ⟨⟨q, rfl, ⟨hq0, hm2.2.1⟩, hW, hm2.2.2⟩, rfl, rfl, rfl, rfl⟩
      · have hsm : ¬ 2147483647 < over := fun h => hc_127 (cmpZ_gt.mpr h)
        refine aw_lload dX0_guessDigit_130 (by rfl) ?_
        refine aw_ldc2Z (z := 2147483647) qX0_96 dX0_guessDigit_132 (by decide) ?_
        refine aw_lcmpZ dX0_guessDigit_135 (by omega) (by omega) ?_
        refine aw_if_gtZ (tgt := 156) dX0_guessDigit_136 (by decide) (cmpZ_R _ _) (fun hc_136 => ?_) (fun hc_136 => ?_)
        · have hdm := cmpZ_gt.mp hc_136
          first | exact DEC (by omega) (Or.inl (by omega)) | exact DEC (by omega) (Or.inr (by omega))
        · have hdm : ¬ 2147483647 < q := fun h => hc_136 (cmpZ_gt.mpr h)
          have hqv0 : 0 ≤ q * v2 := Int.mul_nonneg hq0 hv2.1
          have hqv1 : q * v2 ≤ 2147483648 * 2147483648 := Int.mul_le_mul (by omega) (by omega) hv2.1 (by omega)
          refine aw_lload dX0_guessDigit_139 (by rfl) ?_
          refine aw_lload dX0_guessDigit_141 (by rfl) ?_
          refine aw_lmulZ dX0_guessDigit_143 ?_
          refine aw_lload dX0_guessDigit_144 (by rfl) ?_
          refine aw_bipushZ dX0_guessDigit_146 (by decide) ?_
          refine aw_lshlZ 31 dX0_guessDigit_148 (by rfl) (by decide) hov.1 (by rw [e31]; omega) ?_
          refine aw_lload dX0_guessDigit_149 (by rfl) ?_
          refine aw_laddZ dX0_guessDigit_151 ?_
          refine aw_lcmpZ dX0_guessDigit_152 (by omega) (by omega) ?_
          refine aw_if_leZ (tgt := 168) dX0_guessDigit_153 (by decide) (cmpZ_R _ _) (fun hc_153 => ?_) (fun hc_153 => ?_)
          · have hle := cmpZ_le.mp hc_153
            rw [e31] at hle
            exact SAME (by omega) (by omega) hle
          · have hgt : ¬ q * v2 ≤ over * 2 ^ 31 + u0 := fun h => hc_153 (cmpZ_le.mpr h)
            rw [e31] at hgt
            first | exact DEC (by omega) (Or.inl (by omega)) | exact DEC (by omega) (Or.inr (by omega))
theorem t_guessDigit (g : GX) (d : Nat) {V : AH} {sz dk r dv on gr sm fa pr nr prr Lr nd pd Ld t n : Nat} {sr sd v1 v2 u2 u1 u0 v W : Int} {U Vd : Nat → Int} (hdk : V dk = some (dkO r dv on gr sm fa pr)) (hR : Whl g V r sr nr prr Lr U) (hV : Whl g V dv sd nd pd Ld Vd) (ht : t < Lr) (hn0 : 1 ≤ n) (hn : n ≤ Ld) (hnt : n ≤ t) (hKD : KD v1 v2 u2 u1 u0 v W) (hv1e : Vd (n - 1) = v1) (hn2 : 1 < n → Vd (n - 2) = v2) (hn1 : n ≤ 1 → 0 = v2) (hu2e : U t = u2) (hu1e : U (t - 1) = u1) (hm2 : 1 < n → U (t - 2) = u0) (hm1 : n ≤ 1 → 0 = u0) : AMet g mX0_guessDigit d [.ref dk, .int (iZ t), .int (iZ n)] V sz (GDP V sz v W) := by
  obtain ⟨hr, hrp, hrq, hr4, hr5, hr6, hUt⟩ := id hR
  obtain ⟨hd, hdp, hdq, hd4, hd5, hd6, hVt⟩ := id hV
  have e31 : (2 : Int) ^ 31 = 2147483648 := by decide
  obtain ⟨hv1b, hu2b, hu1b, htop⟩ : (2147483648 ≤ 2 * v1 ∧ v1 < 2147483648) ∧ (0 ≤ u2 ∧ u2 < 2147483648) ∧ (0 ≤ u1 ∧ u1 < 2147483648) ∧ u2 ≤ v1 := by
    have := hKD.top
    obtain ⟨P, lv, lw, hP, h1, h2, e1, e2, h3, h4, h5, h6, h7, h8⟩ := id hKD
    exact ⟨h4, h5, h6, this⟩
  have hva := hVt (n - 1) (by omega)
  have hvb : 1 < n → 0 ≤ Vd (n - 2) ∧ Vd (n - 2) < 2147483648 := fun h => hVt (n - 2) (by omega)
  have hua := hUt t (by omega)
  have hub := hUt (t - 1) (by omega)
  have huc : 1 < n → 0 ≤ U (t - 2) ∧ U (t - 2) < 2147483648 := fun h => hUt (t - 2) (by omega)
  have hq0 : 0 ≤ (u2 * 2147483648 + u1) / v1 := Int.ediv_nonneg (by omega) (by omega)
  have hdm := Int.emod_add_mul_ediv (u2 * 2147483648 + u1) v1
  have hm0' := Int.emod_nonneg (u2 * 2147483648 + u1) (show v1 ≠ 0 by omega)
  have hm1' := Int.emod_lt_of_pos (u2 * 2147483648 + u1) (show 0 < v1 by omega)
  have hov : u2 * 2147483648 + u1 - (u2 * 2147483648 + u1) / v1 * v1 = (u2 * 2147483648 + u1) % v1 := by
    rw [Int.mul_comm ((u2 * 2147483648 + u1) / v1) v1]; omega
  have hvale : u2 * 2147483648 + u1 = (u2 * 2147483648 + u1) / v1 * v1 + (u2 * 2147483648 + u1 - (u2 * 2147483648 + u1) / v1 * v1) := by omega
  have hfst := hKD.first hvale (by rw [hov]; exact ⟨hm0', hm1'⟩) hq0
  have LOOP := gd_loop g d (V := V) (sz := sz) hKD 2 0 (by omega) hvale hq0 (by rw [hov]; omega) hfst.1 (Or.inr ⟨rfl, hfst.2.1, hfst.2.2, by rw [hov]; exact hm1'⟩)
  clear hfst hvale hov hdm hm0' hm1' hKD
  refine AMet.of rfl rfl (Nat.le_of_ble_eq_true rfl) ?_
  show AW g mX0_guessDigit d 0 [(0, .ref dk), (1, .int (iZ t)), (2, .int (iZ n))] [] V sz _
  refine aw_aload_n dX0_guessDigit_0 (by rfl) (Or.inr ⟨_, rfl⟩) ?_
  refine aw_get fX0_18 dX0_guessDigit_1 (by assumption) (by rfl) ?_
  refine aw_get fX0_67 dX0_guessDigit_4 (by assumption) (by rfl) ?_
  refine aw_iload_n dX0_guessDigit_7 (by rfl) ?_
  refine aw_iconstZ dX0_guessDigit_8 ?_
  refine aw_isubZ dX0_guessDigit_9 ?_
  refine aw_ialdZ (n - 1) dX0_guessDigit_10 (by assumption) (by omega) (by omega) (by omega) ?_
  refine aw_i2lZ dX0_guessDigit_11 (by omega) ?_
  refine aw_topl (y := v1) hv1e ?_
  refine aw_lstore_n dX0_guessDigit_12 (by decide) ?_
  refine aw_iload_n dX0_guessDigit_13 (by rfl) ?_
  refine aw_iconstZ dX0_guessDigit_14 ?_
  refine aw_icmp_leZ (tgt := 33) dX0_guessDigit_15 (by decide) (by omega) (by omega) (fun hc_15 => ?_) (fun hc_15 => ?_)
  · refine aw_lconstZ (z := 0) dX0_guessDigit_33 (by decide) ?_
    refine aw_topl (y := v2) (by first | exact hn2 (by omega) | exact hn1 (by omega)) ?_
    refine aw_lstore dX0_guessDigit_34 (by decide) ?_
    refine aw_iload_n dX0_guessDigit_36 (by rfl) ?_
    refine aw_iconstZ dX0_guessDigit_37 ?_
    refine aw_icmp_leZ (tgt := 56) dX0_guessDigit_38 (by decide) (by omega) (by omega) (fun hc_38 => ?_) (fun hc_38 => ?_)
    · refine aw_lconstZ (z := 0) dX0_guessDigit_56 (by decide) ?_
      refine aw_topl (y := u0) (by first | exact hm2 (by omega) | exact hm1 (by omega)) ?_
      refine aw_lstore dX0_guessDigit_57 (by decide) ?_
      refine aw_aload_n dX0_guessDigit_59 (by rfl) (Or.inr ⟨_, rfl⟩) ?_
      refine aw_get fX0_12 dX0_guessDigit_60 (by assumption) (by rfl) ?_
      refine aw_get fX0_67 dX0_guessDigit_63 (by assumption) (by rfl) ?_
      refine aw_iload_n dX0_guessDigit_66 (by rfl) ?_
      refine aw_ialdZ (t) dX0_guessDigit_67 (by assumption) (by omega) (by omega) (by omega) ?_
      refine aw_i2lZ dX0_guessDigit_68 (by omega) ?_
      refine aw_bipushZ dX0_guessDigit_69 (by decide) ?_
      refine aw_lshlZ 31 dX0_guessDigit_71 (by rfl) (by decide) (hUt t (by omega)).1 (by rw [e31]; have := (hUt t (by omega)).2; omega) ?_
      refine aw_aload_n dX0_guessDigit_72 (by rfl) (Or.inr ⟨_, rfl⟩) ?_
      refine aw_get fX0_12 dX0_guessDigit_73 (by assumption) (by rfl) ?_
      refine aw_get fX0_67 dX0_guessDigit_76 (by assumption) (by rfl) ?_
      refine aw_iload_n dX0_guessDigit_79 (by rfl) ?_
      refine aw_iconstZ dX0_guessDigit_80 ?_
      refine aw_isubZ dX0_guessDigit_81 ?_
      refine aw_ialdZ (t - 1) dX0_guessDigit_82 (by assumption) (by omega) (by omega) (by omega) ?_
      refine aw_i2lZ dX0_guessDigit_83 (by omega) ?_
      refine aw_laddZ dX0_guessDigit_84 ?_
      refine aw_topl (y := u2 * 2147483648 + u1) (by rw [e31, hu2e, hu1e]) ?_
      refine aw_lstore dX0_guessDigit_85 (by decide) ?_
      refine aw_lload_n dX0_guessDigit_87 (by rfl) ?_
      refine aw_lconstZ (z := 0) dX0_guessDigit_88 (by decide) ?_
      refine aw_lcmpZ dX0_guessDigit_89 (by omega) (by omega) ?_
      refine aw_if_leZ (tgt := 100) dX0_guessDigit_90 (by decide) (cmpZ_R _ _) (fun hc_90 => ?_) (fun hc_90 => ?_)
      · exact absurd (cmpZ_le.mp hc_90) (by omega)
      · refine aw_lload dX0_guessDigit_93 (by rfl) ?_
        refine aw_lload_n dX0_guessDigit_95 (by rfl) ?_
        refine aw_ldivZ dX0_guessDigit_96 (by omega) (by omega) (by omega) (by omega) ?_
        refine aw_goto (tgt := 101) dX0_guessDigit_97 (by decide) ?_
        rw [Int.tdiv_eq_ediv_of_nonneg (by omega)]
        refine aw_lstore dX0_guessDigit_101 (by decide) ?_
        refine aw_lload dX0_guessDigit_103 (by rfl) ?_
        refine aw_lload dX0_guessDigit_105 (by rfl) ?_
        refine aw_lload_n dX0_guessDigit_107 (by rfl) ?_
        refine aw_lmulZ dX0_guessDigit_108 ?_
        refine aw_lsubZ dX0_guessDigit_109 ?_
        refine aw_lstore dX0_guessDigit_110 (by decide) ?_
        refine aw_iconstZ dX0_guessDigit_112 ?_
        refine aw_istore dX0_guessDigit_113 (by decide) ?_
        refine aw_pk [15, 13, 11, 7, 5, 3] (by rfl) ?_
        exact LOOP
    · refine aw_aload_n dX0_guessDigit_41 (by rfl) (Or.inr ⟨_, rfl⟩) ?_
      refine aw_get fX0_12 dX0_guessDigit_42 (by assumption) (by rfl) ?_
      refine aw_get fX0_67 dX0_guessDigit_45 (by assumption) (by rfl) ?_
      refine aw_iload_n dX0_guessDigit_48 (by rfl) ?_
      refine aw_iconstZ dX0_guessDigit_49 ?_
      refine aw_isubZ dX0_guessDigit_50 ?_
      refine aw_ialdZ (t - 2) dX0_guessDigit_51 (by assumption) (by omega) (by omega) (by omega) ?_
      refine aw_i2lZ dX0_guessDigit_52 (by omega) ?_
      refine aw_goto (tgt := 57) dX0_guessDigit_53 (by decide) ?_
      refine aw_topl (y := u0) (by first | exact hm2 (by omega) | exact hm1 (by omega)) ?_
      refine aw_lstore dX0_guessDigit_57 (by decide) ?_
      refine aw_aload_n dX0_guessDigit_59 (by rfl) (Or.inr ⟨_, rfl⟩) ?_
      refine aw_get fX0_12 dX0_guessDigit_60 (by assumption) (by rfl) ?_
      refine aw_get fX0_67 dX0_guessDigit_63 (by assumption) (by rfl) ?_
      refine aw_iload_n dX0_guessDigit_66 (by rfl) ?_
      refine aw_ialdZ (t) dX0_guessDigit_67 (by assumption) (by omega) (by omega) (by omega) ?_
      refine aw_i2lZ dX0_guessDigit_68 (by omega) ?_
      refine aw_bipushZ dX0_guessDigit_69 (by decide) ?_
      refine aw_lshlZ 31 dX0_guessDigit_71 (by rfl) (by decide) (hUt t (by omega)).1 (by rw [e31]; have := (hUt t (by omega)).2; omega) ?_
      refine aw_aload_n dX0_guessDigit_72 (by rfl) (Or.inr ⟨_, rfl⟩) ?_
      refine aw_get fX0_12 dX0_guessDigit_73 (by assumption) (by rfl) ?_
      refine aw_get fX0_67 dX0_guessDigit_76 (by assumption) (by rfl) ?_
      refine aw_iload_n dX0_guessDigit_79 (by rfl) ?_
      refine aw_iconstZ dX0_guessDigit_80 ?_
      refine aw_isubZ dX0_guessDigit_81 ?_
      refine aw_ialdZ (t - 1) dX0_guessDigit_82 (by assumption) (by omega) (by omega) (by omega) ?_
      refine aw_i2lZ dX0_guessDigit_83 (by omega) ?_
      refine aw_laddZ dX0_guessDigit_84 ?_
      refine aw_topl (y := u2 * 2147483648 + u1) (by rw [e31, hu2e, hu1e]) ?_
      refine aw_lstore dX0_guessDigit_85 (by decide) ?_
      refine aw_lload_n dX0_guessDigit_87 (by rfl) ?_
      refine aw_lconstZ (z := 0) dX0_guessDigit_88 (by decide) ?_
      refine aw_lcmpZ dX0_guessDigit_89 (by omega) (by omega) ?_
      refine aw_if_leZ (tgt := 100) dX0_guessDigit_90 (by decide) (cmpZ_R _ _) (fun hc_90 => ?_) (fun hc_90 => ?_)
      · exact absurd (cmpZ_le.mp hc_90) (by omega)
      · refine aw_lload dX0_guessDigit_93 (by rfl) ?_
        refine aw_lload_n dX0_guessDigit_95 (by rfl) ?_
        refine aw_ldivZ dX0_guessDigit_96 (by omega) (by omega) (by omega) (by omega) ?_
        refine aw_goto (tgt := 101) dX0_guessDigit_97 (by decide) ?_
        rw [Int.tdiv_eq_ediv_of_nonneg (by omega)]
        refine aw_lstore dX0_guessDigit_101 (by decide) ?_
        refine aw_lload dX0_guessDigit_103 (by rfl) ?_
        refine aw_lload dX0_guessDigit_105 (by rfl) ?_
        refine aw_lload_n dX0_guessDigit_107 (by rfl) ?_
        refine aw_lmulZ dX0_guessDigit_108 ?_
        refine aw_lsubZ dX0_guessDigit_109 ?_
        refine aw_lstore dX0_guessDigit_110 (by decide) ?_
        refine aw_iconstZ dX0_guessDigit_112 ?_
        refine aw_istore dX0_guessDigit_113 (by decide) ?_
        refine aw_pk [15, 13, 11, 7, 5, 3] (by rfl) ?_
        exact LOOP
  · refine aw_aload_n dX0_guessDigit_18 (by rfl) (Or.inr ⟨_, rfl⟩) ?_
    refine aw_get fX0_18 dX0_guessDigit_19 (by assumption) (by rfl) ?_
    refine aw_get fX0_67 dX0_guessDigit_22 (by assumption) (by rfl) ?_
    refine aw_iload_n dX0_guessDigit_25 (by rfl) ?_
    refine aw_iconstZ dX0_guessDigit_26 ?_
    refine aw_isubZ dX0_guessDigit_27 ?_
    refine aw_ialdZ (n - 2) dX0_guessDigit_28 (by assumption) (by omega) (by omega) (by omega) ?_
    refine aw_i2lZ dX0_guessDigit_29 (by omega) ?_
    refine aw_goto (tgt := 34) dX0_guessDigit_30 (by decide) ?_
    refine aw_topl (y := v2) (by first | exact hn2 (by omega) | exact hn1 (by omega)) ?_
    refine aw_lstore dX0_guessDigit_34 (by decide) ?_
    refine aw_iload_n dX0_guessDigit_36 (by rfl) ?_
    refine aw_iconstZ dX0_guessDigit_37 ?_
    refine aw_icmp_leZ (tgt := 56) dX0_guessDigit_38 (by decide) (by omega) (by omega) (fun hc_38 => ?_) (fun hc_38 => ?_)
    · refine aw_lconstZ (z := 0) dX0_guessDigit_56 (by decide) ?_
      refine aw_topl (y := u0) (by first | exact hm2 (by omega) | exact hm1 (by omega)) ?_
      refine aw_lstore dX0_guessDigit_57 (by decide) ?_
      refine aw_aload_n dX0_guessDigit_59 (by rfl) (Or.inr ⟨_, rfl⟩) ?_
      refine aw_get fX0_12 dX0_guessDigit_60 (by assumption) (by rfl) ?_
      refine aw_get fX0_67 dX0_guessDigit_63 (by assumption) (by rfl) ?_
      refine aw_iload_n dX0_guessDigit_66 (by rfl) ?_
      refine aw_ialdZ (t) dX0_guessDigit_67 (by assumption) (by omega) (by omega) (by omega) ?_
      refine aw_i2lZ dX0_guessDigit_68 (by omega) ?_
      refine aw_bipushZ dX0_guessDigit_69 (by decide) ?_
      refine aw_lshlZ 31 dX0_guessDigit_71 (by rfl) (by decide) (hUt t (by omega)).1 (by rw [e31]; have := (hUt t (by omega)).2; omega) ?_
      refine aw_aload_n dX0_guessDigit_72 (by rfl) (Or.inr ⟨_, rfl⟩) ?_
      refine aw_get fX0_12 dX0_guessDigit_73 (by assumption) (by rfl) ?_
      refine aw_get fX0_67 dX0_guessDigit_76 (by assumption) (by rfl) ?_
      refine aw_iload_n dX0_guessDigit_79 (by rfl) ?_
      refine aw_iconstZ dX0_guessDigit_80 ?_
      refine aw_isubZ dX0_guessDigit_81 ?_
      refine aw_ialdZ (t - 1) dX0_guessDigit_82 (by assumption) (by omega) (by omega) (by omega) ?_
      refine aw_i2lZ dX0_guessDigit_83 (by omega) ?_
      refine aw_laddZ dX0_guessDigit_84 ?_
      refine aw_topl (y := u2 * 2147483648 + u1) (by rw [e31, hu2e, hu1e]) ?_
      refine aw_lstore dX0_guessDigit_85 (by decide) ?_
      refine aw_lload_n dX0_guessDigit_87 (by rfl) ?_
      refine aw_lconstZ (z := 0) dX0_guessDigit_88 (by decide) ?_
      refine aw_lcmpZ dX0_guessDigit_89 (by omega) (by omega) ?_
      refine aw_if_leZ (tgt := 100) dX0_guessDigit_90 (by decide) (cmpZ_R _ _) (fun hc_90 => ?_) (fun hc_90 => ?_)
      · exact absurd (cmpZ_le.mp hc_90) (by omega)
      · refine aw_lload dX0_guessDigit_93 (by rfl) ?_
        refine aw_lload_n dX0_guessDigit_95 (by rfl) ?_
        refine aw_ldivZ dX0_guessDigit_96 (by omega) (by omega) (by omega) (by omega) ?_
        refine aw_goto (tgt := 101) dX0_guessDigit_97 (by decide) ?_
        rw [Int.tdiv_eq_ediv_of_nonneg (by omega)]
        refine aw_lstore dX0_guessDigit_101 (by decide) ?_
        refine aw_lload dX0_guessDigit_103 (by rfl) ?_
        refine aw_lload dX0_guessDigit_105 (by rfl) ?_
        refine aw_lload_n dX0_guessDigit_107 (by rfl) ?_
        refine aw_lmulZ dX0_guessDigit_108 ?_
        refine aw_lsubZ dX0_guessDigit_109 ?_
        refine aw_lstore dX0_guessDigit_110 (by decide) ?_
        refine aw_iconstZ dX0_guessDigit_112 ?_
        refine aw_istore dX0_guessDigit_113 (by decide) ?_
        refine aw_pk [15, 13, 11, 7, 5, 3] (by rfl) ?_
        exact LOOP
    · refine aw_aload_n dX0_guessDigit_41 (by rfl) (Or.inr ⟨_, rfl⟩) ?_
      refine aw_get fX0_12 dX0_guessDigit_42 (by assumption) (by rfl) ?_
      refine aw_get fX0_67 dX0_guessDigit_45 (by assumption) (by rfl) ?_
      refine aw_iload_n dX0_guessDigit_48 (by rfl) ?_
      refine aw_iconstZ dX0_guessDigit_49 ?_
      refine aw_isubZ dX0_guessDigit_50 ?_
      refine aw_ialdZ (t - 2) dX0_guessDigit_51 (by assumption) (by omega) (by omega) (by omega) ?_
      refine aw_i2lZ dX0_guessDigit_52 (by omega) ?_
      refine aw_goto (tgt := 57) dX0_guessDigit_53 (by decide) ?_
      refine aw_topl (y := u0) (by first | exact hm2 (by omega) | exact hm1 (by omega)) ?_
      refine aw_lstore dX0_guessDigit_57 (by decide) ?_
      refine aw_aload_n dX0_guessDigit_59 (by rfl) (Or.inr ⟨_, rfl⟩) ?_
      refine aw_get fX0_12 dX0_guessDigit_60 (by assumption) (by rfl) ?_
      refine aw_get fX0_67 dX0_guessDigit_63 (by assumption) (by rfl) ?_
      refine aw_iload_n dX0_guessDigit_66 (by rfl) ?_
      refine aw_ialdZ (t) dX0_guessDigit_67 (by assumption) (by omega) (by omega) (by omega) ?_
      refine aw_i2lZ dX0_guessDigit_68 (by omega) ?_
      refine aw_bipushZ dX0_guessDigit_69 (by decide) ?_
      refine aw_lshlZ 31 dX0_guessDigit_71 (by rfl) (by decide) (hUt t (by omega)).1 (by rw [e31]; have := (hUt t (by omega)).2; omega) ?_
      refine aw_aload_n dX0_guessDigit_72 (by rfl) (Or.inr ⟨_, rfl⟩) ?_
      refine aw_get fX0_12 dX0_guessDigit_73 (by assumption) (by rfl) ?_
      refine aw_get fX0_67 dX0_guessDigit_76 (by assumption) (by rfl) ?_
      refine aw_iload_n dX0_guessDigit_79 (by rfl) ?_
      refine aw_iconstZ dX0_guessDigit_80 ?_
      refine aw_isubZ dX0_guessDigit_81 ?_
      refine aw_ialdZ (t - 1) dX0_guessDigit_82 (by assumption) (by omega) (by omega) (by omega) ?_
      refine aw_i2lZ dX0_guessDigit_83 (by omega) ?_
      refine aw_laddZ dX0_guessDigit_84 ?_
      refine aw_topl (y := u2 * 2147483648 + u1) (by rw [e31, hu2e, hu1e]) ?_
      refine aw_lstore dX0_guessDigit_85 (by decide) ?_
      refine aw_lload_n dX0_guessDigit_87 (by rfl) ?_
      refine aw_lconstZ (z := 0) dX0_guessDigit_88 (by decide) ?_
      refine aw_lcmpZ dX0_guessDigit_89 (by omega) (by omega) ?_
      refine aw_if_leZ (tgt := 100) dX0_guessDigit_90 (by decide) (cmpZ_R _ _) (fun hc_90 => ?_) (fun hc_90 => ?_)
      · exact absurd (cmpZ_le.mp hc_90) (by omega)
      · refine aw_lload dX0_guessDigit_93 (by rfl) ?_
        refine aw_lload_n dX0_guessDigit_95 (by rfl) ?_
        refine aw_ldivZ dX0_guessDigit_96 (by omega) (by omega) (by omega) (by omega) ?_
        refine aw_goto (tgt := 101) dX0_guessDigit_97 (by decide) ?_
        rw [Int.tdiv_eq_ediv_of_nonneg (by omega)]
        refine aw_lstore dX0_guessDigit_101 (by decide) ?_
        refine aw_lload dX0_guessDigit_103 (by rfl) ?_
        refine aw_lload dX0_guessDigit_105 (by rfl) ?_
        refine aw_lload_n dX0_guessDigit_107 (by rfl) ?_
        refine aw_lmulZ dX0_guessDigit_108 ?_
        refine aw_lsubZ dX0_guessDigit_109 ?_
        refine aw_lstore dX0_guessDigit_110 (by decide) ?_
        refine aw_iconstZ dX0_guessDigit_112 ?_
        refine aw_istore dX0_guessDigit_113 (by decide) ?_
        refine aw_pk [15, 13, 11, 7, 5, 3] (by rfl) ?_
        exact LOOP

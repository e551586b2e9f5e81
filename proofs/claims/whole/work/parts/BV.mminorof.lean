/-! ===== the reference: minorOf ===== -/
theorem vlo_ab {X : Int} (hX : 1 ≤ X) : ∀ {k : Nat} {A : Mat} {o : Nat}, o < fcN k → (∀ i j, i < k → j < k → ab (A i j) ≤ X) → ab (vlo k A o) ≤ X ^ k
  | 0, _, _, _, _ => by rw [Int.pow_zero]; exact Int.le_refl _
  | k + 1, A, o, ho, h => by
    have hp := fcN_pos k
    have hq : o / fcN k < k + 1 := by
      rw [Nat.div_lt_iff_lt_mul (by omega)]
      exact ho
    show ab (_ * _ * vlo k _ _) ≤ _
    have h1 := vlo_ab hX (A := fun i c => A (i + 1) (sk (o / fcN k) c)) (o := o % fcN k) (Nat.mod_lt _ (by omega)) (fun i j hi hj => h _ _ (by omega) (by unfold sk; split <;> omega))
    have h2 := h 0 (o / fcN k) (by omega) hq
    rw [ab_mul, ab_mul, ab_sgI, Int.one_mul, Int.pow_succ, Int.mul_comm]
    exact Int.mul_le_mul h1 h2 (ab0 _) (Int.pow_nonneg (by omega))
abbrev mX6_minorOf : MI := (yX6_minorOf, cX6_minorOf, 11, none, noX)
theorem dX6_minorOf_0 : decode cX6_minorOf 0 = .ok (.aload_n 0, 1) := by decide +kernel
theorem dX6_minorOf_1 : decode cX6_minorOf 1 = .ok (.sipush 424, 3) := by decide +kernel
theorem dX6_minorOf_4 : decode cX6_minorOf 4 = .ok (.lconst 0, 1) := by decide +kernel
theorem dX6_minorOf_5 : decode cX6_minorOf 5 = .ok (.invokevirtual 83, 3) := by decide +kernel
theorem dX6_minorOf_8 : decode cX6_minorOf 8 = .ok (.iconst 1, 1) := by decide +kernel
theorem dX6_minorOf_9 : decode cX6_minorOf 9 = .ok (.istore_n 2, 1) := by decide +kernel
theorem dX6_minorOf_10 : decode cX6_minorOf 10 = .ok (.iconst 2, 1) := by decide +kernel
theorem dX6_minorOf_11 : decode cX6_minorOf 11 = .ok (.istore_n 3, 1) := by decide +kernel
theorem dX6_minorOf_12 : decode cX6_minorOf 12 = .ok (.iload_n 3, 1) := by decide +kernel
theorem dX6_minorOf_13 : decode cX6_minorOf 13 = .ok (.iload_n 1, 1) := by decide +kernel
theorem dX6_minorOf_14 : decode cX6_minorOf 14 = .ok (.if_icmp .gt 13, 3) := by decide +kernel
theorem dX6_minorOf_17 : decode cX6_minorOf 17 = .ok (.iload_n 2, 1) := by decide +kernel
theorem dX6_minorOf_18 : decode cX6_minorOf 18 = .ok (.iload_n 3, 1) := by decide +kernel
theorem dX6_minorOf_19 : decode cX6_minorOf 19 = .ok (.imul, 1) := by decide +kernel
theorem dX6_minorOf_20 : decode cX6_minorOf 20 = .ok (.istore_n 2, 1) := by decide +kernel
theorem dX6_minorOf_21 : decode cX6_minorOf 21 = .ok (.iinc 3 1, 3) := by decide +kernel
theorem dX6_minorOf_24 : decode cX6_minorOf 24 = .ok (.goto (-12), 3) := by decide +kernel
theorem dX6_minorOf_27 : decode cX6_minorOf 27 = .ok (.iconst 0, 1) := by decide +kernel
theorem dX6_minorOf_28 : decode cX6_minorOf 28 = .ok (.istore_n 3, 1) := by decide +kernel
theorem dX6_minorOf_29 : decode cX6_minorOf 29 = .ok (.iload_n 3, 1) := by decide +kernel
theorem dX6_minorOf_30 : decode cX6_minorOf 30 = .ok (.iload_n 2, 1) := by decide +kernel
theorem dX6_minorOf_31 : decode cX6_minorOf 31 = .ok (.if_icmp .ge 207, 3) := by decide +kernel
theorem dX6_minorOf_34 : decode cX6_minorOf 34 = .ok (.iload_n 3, 1) := by decide +kernel
theorem dX6_minorOf_35 : decode cX6_minorOf 35 = .ok (.istore 4, 2) := by decide +kernel
theorem dX6_minorOf_37 : decode cX6_minorOf 37 = .ok (.iconst 1, 1) := by decide +kernel
theorem dX6_minorOf_38 : decode cX6_minorOf 38 = .ok (.iload_n 1, 1) := by decide +kernel
theorem dX6_minorOf_39 : decode cX6_minorOf 39 = .ok (.ishl, 1) := by decide +kernel
theorem dX6_minorOf_40 : decode cX6_minorOf 40 = .ok (.iconst 1, 1) := by decide +kernel
theorem dX6_minorOf_41 : decode cX6_minorOf 41 = .ok (.isub, 1) := by decide +kernel
theorem dX6_minorOf_42 : decode cX6_minorOf 42 = .ok (.istore 5, 2) := by decide +kernel
theorem dX6_minorOf_44 : decode cX6_minorOf 44 = .ok (.aload_n 0, 1) := by decide +kernel
theorem dX6_minorOf_45 : decode cX6_minorOf 45 = .ok (.sipush 425, 3) := by decide +kernel
theorem dX6_minorOf_48 : decode cX6_minorOf 48 = .ok (.ldc2_w 159, 3) := by decide +kernel
theorem dX6_minorOf_51 : decode cX6_minorOf 51 = .ok (.invokevirtual 83, 3) := by decide +kernel
theorem dX6_minorOf_54 : decode cX6_minorOf 54 = .ok (.iconst 0, 1) := by decide +kernel
theorem dX6_minorOf_55 : decode cX6_minorOf 55 = .ok (.istore 6, 2) := by decide +kernel
theorem dX6_minorOf_57 : decode cX6_minorOf 57 = .ok (.iload 6, 2) := by decide +kernel
theorem dX6_minorOf_59 : decode cX6_minorOf 59 = .ok (.iload_n 1, 1) := by decide +kernel
theorem dX6_minorOf_60 : decode cX6_minorOf 60 = .ok (.if_icmp .ge 159, 3) := by decide +kernel
theorem dX6_minorOf_63 : decode cX6_minorOf 63 = .ok (.iconst 1, 1) := by decide +kernel
theorem dX6_minorOf_64 : decode cX6_minorOf 64 = .ok (.istore 7, 2) := by decide +kernel
theorem dX6_minorOf_66 : decode cX6_minorOf 66 = .ok (.iconst 2, 1) := by decide +kernel
theorem dX6_minorOf_67 : decode cX6_minorOf 67 = .ok (.istore 8, 2) := by decide +kernel
theorem dX6_minorOf_69 : decode cX6_minorOf 69 = .ok (.iload 8, 2) := by decide +kernel
theorem dX6_minorOf_71 : decode cX6_minorOf 71 = .ok (.iload_n 1, 1) := by decide +kernel
theorem dX6_minorOf_72 : decode cX6_minorOf 72 = .ok (.iload 6, 2) := by decide +kernel
theorem dX6_minorOf_74 : decode cX6_minorOf 74 = .ok (.isub, 1) := by decide +kernel
theorem dX6_minorOf_75 : decode cX6_minorOf 75 = .ok (.if_icmp .ge 16, 3) := by decide +kernel
theorem dX6_minorOf_78 : decode cX6_minorOf 78 = .ok (.iload 7, 2) := by decide +kernel
theorem dX6_minorOf_80 : decode cX6_minorOf 80 = .ok (.iload 8, 2) := by decide +kernel
theorem dX6_minorOf_82 : decode cX6_minorOf 82 = .ok (.imul, 1) := by decide +kernel
theorem dX6_minorOf_83 : decode cX6_minorOf 83 = .ok (.istore 7, 2) := by decide +kernel
theorem dX6_minorOf_85 : decode cX6_minorOf 85 = .ok (.iinc 8 1, 3) := by decide +kernel
theorem dX6_minorOf_88 : decode cX6_minorOf 88 = .ok (.goto (-19), 3) := by decide +kernel
theorem dX6_minorOf_91 : decode cX6_minorOf 91 = .ok (.iload 4, 2) := by decide +kernel
theorem dX6_minorOf_93 : decode cX6_minorOf 93 = .ok (.iload 7, 2) := by decide +kernel
theorem dX6_minorOf_95 : decode cX6_minorOf 95 = .ok (.idiv, 1) := by decide +kernel
theorem dX6_minorOf_96 : decode cX6_minorOf 96 = .ok (.istore 8, 2) := by decide +kernel
theorem dX6_minorOf_98 : decode cX6_minorOf 98 = .ok (.iload 4, 2) := by decide +kernel
theorem dX6_minorOf_100 : decode cX6_minorOf 100 = .ok (.iload 7, 2) := by decide +kernel
theorem dX6_minorOf_102 : decode cX6_minorOf 102 = .ok (.irem, 1) := by decide +kernel
theorem dX6_minorOf_103 : decode cX6_minorOf 103 = .ok (.istore 4, 2) := by decide +kernel
theorem dX6_minorOf_105 : decode cX6_minorOf 105 = .ok (.iconst 0, 1) := by decide +kernel
theorem dX6_minorOf_106 : decode cX6_minorOf 106 = .ok (.istore 9, 2) := by decide +kernel
theorem dX6_minorOf_108 : decode cX6_minorOf 108 = .ok (.iconst 0, 1) := by decide +kernel
theorem dX6_minorOf_109 : decode cX6_minorOf 109 = .ok (.istore 10, 2) := by decide +kernel
theorem dX6_minorOf_111 : decode cX6_minorOf 111 = .ok (.iload 5, 2) := by decide +kernel
theorem dX6_minorOf_113 : decode cX6_minorOf 113 = .ok (.iload 9, 2) := by decide +kernel
theorem dX6_minorOf_115 : decode cX6_minorOf 115 = .ok (.ishr, 1) := by decide +kernel
theorem dX6_minorOf_116 : decode cX6_minorOf 116 = .ok (.iconst 1, 1) := by decide +kernel
theorem dX6_minorOf_117 : decode cX6_minorOf 117 = .ok (.iand, 1) := by decide +kernel
theorem dX6_minorOf_118 : decode cX6_minorOf 118 = .ok (.ifCond .eq 10, 3) := by decide +kernel
theorem dX6_minorOf_121 : decode cX6_minorOf 121 = .ok (.iload 10, 2) := by decide +kernel
theorem dX6_minorOf_123 : decode cX6_minorOf 123 = .ok (.iload 8, 2) := by decide +kernel
theorem dX6_minorOf_125 : decode cX6_minorOf 125 = .ok (.if_icmp .ge 23, 3) := by decide +kernel
theorem dX6_minorOf_128 : decode cX6_minorOf 128 = .ok (.iload 5, 2) := by decide +kernel
theorem dX6_minorOf_130 : decode cX6_minorOf 130 = .ok (.iload 9, 2) := by decide +kernel
theorem dX6_minorOf_132 : decode cX6_minorOf 132 = .ok (.ishr, 1) := by decide +kernel
theorem dX6_minorOf_133 : decode cX6_minorOf 133 = .ok (.iconst 1, 1) := by decide +kernel
theorem dX6_minorOf_134 : decode cX6_minorOf 134 = .ok (.iand, 1) := by decide +kernel
theorem dX6_minorOf_135 : decode cX6_minorOf 135 = .ok (.iconst 1, 1) := by decide +kernel
theorem dX6_minorOf_136 : decode cX6_minorOf 136 = .ok (.if_icmp .ne 6, 3) := by decide +kernel
theorem dX6_minorOf_139 : decode cX6_minorOf 139 = .ok (.iinc 10 1, 3) := by decide +kernel
theorem dX6_minorOf_142 : decode cX6_minorOf 142 = .ok (.iinc 9 1, 3) := by decide +kernel
theorem dX6_minorOf_145 : decode cX6_minorOf 145 = .ok (.goto (-34), 3) := by decide +kernel
theorem dX6_minorOf_148 : decode cX6_minorOf 148 = .ok (.iload 5, 2) := by decide +kernel
theorem dX6_minorOf_150 : decode cX6_minorOf 150 = .ok (.iconst 1, 1) := by decide +kernel
theorem dX6_minorOf_151 : decode cX6_minorOf 151 = .ok (.iload 9, 2) := by decide +kernel
theorem dX6_minorOf_153 : decode cX6_minorOf 153 = .ok (.ishl, 1) := by decide +kernel
theorem dX6_minorOf_154 : decode cX6_minorOf 154 = .ok (.isub, 1) := by decide +kernel
theorem dX6_minorOf_155 : decode cX6_minorOf 155 = .ok (.istore 5, 2) := by decide +kernel
theorem dX6_minorOf_157 : decode cX6_minorOf 157 = .ok (.aload_n 0, 1) := by decide +kernel
theorem dX6_minorOf_158 : decode cX6_minorOf 158 = .ok (.sipush 425, 3) := by decide +kernel
theorem dX6_minorOf_161 : decode cX6_minorOf 161 = .ok (.sipush 365, 3) := by decide +kernel
theorem dX6_minorOf_164 : decode cX6_minorOf 164 = .ok (.iconst 5, 1) := by decide +kernel
theorem dX6_minorOf_165 : decode cX6_minorOf 165 = .ok (.aload_n 0, 1) := by decide +kernel
theorem dX6_minorOf_166 : decode cX6_minorOf 166 = .ok (.getfield 49, 3) := by decide +kernel
theorem dX6_minorOf_169 : decode cX6_minorOf 169 = .ok (.iload 6, 2) := by decide +kernel
theorem dX6_minorOf_171 : decode cX6_minorOf 171 = .ok (.iaload, 1) := by decide +kernel
theorem dX6_minorOf_172 : decode cX6_minorOf 172 = .ok (.imul, 1) := by decide +kernel
theorem dX6_minorOf_173 : decode cX6_minorOf 173 = .ok (.iadd, 1) := by decide +kernel
theorem dX6_minorOf_174 : decode cX6_minorOf 174 = .ok (.aload_n 0, 1) := by decide +kernel
theorem dX6_minorOf_175 : decode cX6_minorOf 175 = .ok (.getfield 52, 3) := by decide +kernel
theorem dX6_minorOf_178 : decode cX6_minorOf 178 = .ok (.iload 9, 2) := by decide +kernel
theorem dX6_minorOf_180 : decode cX6_minorOf 180 = .ok (.iaload, 1) := by decide +kernel
theorem dX6_minorOf_181 : decode cX6_minorOf 181 = .ok (.iadd, 1) := by decide +kernel
theorem dX6_minorOf_182 : decode cX6_minorOf 182 = .ok (.sipush 425, 3) := by decide +kernel
theorem dX6_minorOf_185 : decode cX6_minorOf 185 = .ok (.invokevirtual 97, 3) := by decide +kernel
theorem dX6_minorOf_188 : decode cX6_minorOf 188 = .ok (.iload 8, 2) := by decide +kernel
theorem dX6_minorOf_190 : decode cX6_minorOf 190 = .ok (.iconst 2, 1) := by decide +kernel
theorem dX6_minorOf_191 : decode cX6_minorOf 191 = .ok (.irem, 1) := by decide +kernel
theorem dX6_minorOf_192 : decode cX6_minorOf 192 = .ok (.iconst 1, 1) := by decide +kernel
theorem dX6_minorOf_193 : decode cX6_minorOf 193 = .ok (.if_icmp .ne 20, 3) := by decide +kernel
theorem dX6_minorOf_196 : decode cX6_minorOf 196 = .ok (.aload_n 0, 1) := by decide +kernel
theorem dX6_minorOf_197 : decode cX6_minorOf 197 = .ok (.getfield 17, 3) := by decide +kernel
theorem dX6_minorOf_200 : decode cX6_minorOf 200 = .ok (.sipush 425, 3) := by decide +kernel
theorem dX6_minorOf_203 : decode cX6_minorOf 203 = .ok (.aload_n 0, 1) := by decide +kernel
theorem dX6_minorOf_204 : decode cX6_minorOf 204 = .ok (.getfield 17, 3) := by decide +kernel
theorem dX6_minorOf_207 : decode cX6_minorOf 207 = .ok (.sipush 425, 3) := by decide +kernel
theorem dX6_minorOf_210 : decode cX6_minorOf 210 = .ok (.iaload, 1) := by decide +kernel
theorem dX6_minorOf_211 : decode cX6_minorOf 211 = .ok (.ineg, 1) := by decide +kernel
theorem dX6_minorOf_212 : decode cX6_minorOf 212 = .ok (.iastore, 1) := by decide +kernel
theorem dX6_minorOf_213 : decode cX6_minorOf 213 = .ok (.iinc 6 1, 3) := by decide +kernel
theorem dX6_minorOf_216 : decode cX6_minorOf 216 = .ok (.goto (-159), 3) := by decide +kernel
theorem dX6_minorOf_219 : decode cX6_minorOf 219 = .ok (.aload_n 0, 1) := by decide +kernel
theorem dX6_minorOf_220 : decode cX6_minorOf 220 = .ok (.sipush 424, 3) := by decide +kernel
theorem dX6_minorOf_223 : decode cX6_minorOf 223 = .ok (.sipush 425, 3) := by decide +kernel
theorem dX6_minorOf_226 : decode cX6_minorOf 226 = .ok (.sipush 424, 3) := by decide +kernel
theorem dX6_minorOf_229 : decode cX6_minorOf 229 = .ok (.invokevirtual 94, 3) := by decide +kernel
theorem dX6_minorOf_232 : decode cX6_minorOf 232 = .ok (.iinc 3 1, 3) := by decide +kernel
theorem dX6_minorOf_235 : decode cX6_minorOf 235 = .ok (.goto (-206), 3) := by decide +kernel
theorem dX6_minorOf_238 : decode cX6_minorOf 238 = .ok (.return_, 1) := by decide +kernel
theorem mq_all (d : Nat) {g : GX} {V : AH} {mo sz k : Nat} {Q : AQ} (hk : k ≤ 5) (hKK : AW g mX6_minorOf d 27 [(2, .int (iZ (fcN k : Nat))), (0, .ref mo), (1, .int (iZ (k : Int)))] [] V sz Q) : ∀ (f i al : Nat), (i + f = k + 1 ∧ 2 ≤ i ∧ i ≤ k + 1 ∨ f = 0 ∧ i = 2 ∧ k ≤ 1) → 2 ≤ i → al = fcN (i - 1) → AW g mX6_minorOf d 12 [(3, .int (iZ (i : Int))), (2, .int (iZ (al : Int))), (0, .ref mo), (1, .int (iZ (k : Int)))] [] V sz Q
  | 0, i, al, hf, h2, ha => by
    have hf : i = k + 1 ∨ (i = 2 ∧ k ≤ 1) := by omega
    have hi6 : i ≤ 6 := by omega
    refine aw_iload_n dX6_minorOf_12 (by rfl) ?_
    refine aw_iload_n dX6_minorOf_13 (by rfl) ?_
    refine aw_icmp_gtZ (tgt := 27) dX6_minorOf_14 (by decide) (by omega) (by omega) (fun hc_14 => ?_) (fun hc_14 => ?_)
    · have ea : al = fcN k := by
        rcases hf with h1 | ⟨h1, h2⟩
        · rw [ha, show i - 1 = k by omega]
        · rw [ha, h1]
          have : k = 0 ∨ k = 1 := by omega
          rcases this with rfl | rfl <;> rfl
      rw [ea]
      refine aw_pk [2, 0, 1] (by rfl) ?_
      exact hKK
    · exact absurd hc_14 (by omega)
  | f + 1, i, al, hf, h2, ha => by
    have IH := fun i al hi => @mq_all d g V mo sz k Q hk hKK f i al hi
    refine aw_iload_n dX6_minorOf_12 (by rfl) ?_
    refine aw_iload_n dX6_minorOf_13 (by rfl) ?_
    refine aw_icmp_gtZ (tgt := 27) dX6_minorOf_14 (by decide) (by omega) (by omega) (fun hc_14 => ?_) (fun hc_14 => ?_)
    · exact absurd hc_14 (by omega)
    · refine aw_iload_n dX6_minorOf_17 (by rfl) ?_
      refine aw_iload_n dX6_minorOf_18 (by rfl) ?_
      refine aw_imulZ dX6_minorOf_19 ?_
      refine aw_istore_n dX6_minorOf_20 (by decide) ?_
      refine aw_iincZ dX6_minorOf_21 (by rfl) (by decide) ?_
      refine aw_goto (tgt := 12) dX6_minorOf_24 (by decide) ?_
      rw [show ((i : Int) + 1) = ((i + 1 : Nat) : Int) by omega, show ((al : Int) * (i : Int)) = ((al * i : Nat) : Int) by rw [Int.natCast_mul]]
      refine aw_pk [3, 2, 0, 1] (by rfl) ?_
      exact IH (i + 1) (al * i) (by omega) (by omega) (by rw [ha, show i + 1 - 1 = i by omega, fcN_up (n := i) (by omega)])
theorem mq_of (d : Nat) {g : GX} {V : AH} {mo sz k : Nat} {Q : AQ} {i rest s od : Nat} (hk : k ≤ 5) (hi : i < k) (hKK : AW g mX6_minorOf d 91 [(7, .int (iZ (fcN (k - i - 1) : Nat))), (6, .int (iZ (i : Int))), (4, .int (iZ (rest : Int))), (5, .int (iZ (s : Int))), (3, .int (iZ (od : Int))), (2, .int (iZ (fcN k : Nat))), (0, .ref mo), (1, .int (iZ (k : Int)))] [] V sz Q) : ∀ (f e al : Nat), (e + f = k - i ∧ 2 ≤ e ∨ f = 0 ∧ e = 2 ∧ k - i ≤ 1) → 2 ≤ e → al = fcN (e - 1) → AW g mX6_minorOf d 69 [(8, .int (iZ (e : Int))), (7, .int (iZ (al : Int))), (6, .int (iZ (i : Int))), (4, .int (iZ (rest : Int))), (5, .int (iZ (s : Int))), (3, .int (iZ (od : Int))), (2, .int (iZ (fcN k : Nat))), (0, .ref mo), (1, .int (iZ (k : Int)))] [] V sz Q
  | 0, e, al, hf, h2, ha => by
    have hf : e = k - i ∨ (e = 2 ∧ k - i ≤ 1) := by omega
    have he6 : e ≤ 6 := by omega
    refine aw_iload dX6_minorOf_69 (by rfl) ?_
    refine aw_iload_n dX6_minorOf_71 (by rfl) ?_
    refine aw_iload dX6_minorOf_72 (by rfl) ?_
    refine aw_isubZ dX6_minorOf_74 ?_
    refine aw_icmp_geZ (tgt := 91) dX6_minorOf_75 (by decide) (by omega) (by omega) (fun hc_75 => ?_) (fun hc_75 => ?_)
    · have ea : al = fcN (k - i - 1) := by
        rcases hf with h1 | ⟨h1, h2⟩
        · rw [ha, show e - 1 = k - i - 1 by omega]
        · rw [ha, h1, show k - i - 1 = 0 by omega]; rfl
      rw [ea]
      refine aw_pk [7, 6, 4, 5, 3, 2, 0, 1] (by rfl) ?_
      exact hKK
    · exact absurd hc_75 (by omega)
  | f + 1, e, al, hf, h2, ha => by
    have IH := fun e al he => @mq_of d g V mo sz k Q i rest s od hk hi hKK f e al he
    refine aw_iload dX6_minorOf_69 (by rfl) ?_
    refine aw_iload_n dX6_minorOf_71 (by rfl) ?_
    refine aw_iload dX6_minorOf_72 (by rfl) ?_
    refine aw_isubZ dX6_minorOf_74 ?_
    refine aw_icmp_geZ (tgt := 91) dX6_minorOf_75 (by decide) (by omega) (by omega) (fun hc_75 => ?_) (fun hc_75 => ?_)
    · exact absurd hc_75 (by omega)
    · refine aw_iload dX6_minorOf_78 (by rfl) ?_
      refine aw_iload dX6_minorOf_80 (by rfl) ?_
      refine aw_imulZ dX6_minorOf_82 ?_
      refine aw_istore dX6_minorOf_83 (by decide) ?_
      refine aw_iincZ dX6_minorOf_85 (by rfl) (by decide) ?_
      refine aw_goto (tgt := 69) dX6_minorOf_88 (by decide) ?_
      rw [show ((e : Int) + 1) = ((e + 1 : Nat) : Int) by omega, show ((al : Int) * (e : Int)) = ((al * e : Nat) : Int) by rw [Int.natCast_mul]]
      refine aw_pk [8, 7, 6, 4, 5, 3, 2, 0, 1] (by rfl) ?_
      exact IH (e + 1) (al * e) (by omega) (by omega) (by rw [ha, show e + 1 - 1 = e by omega, fcN_up (n := e) (by omega)])
theorem mq_j (d : Nat) {g : GX} {V : AH} {mo sz k : Nat} {Q : AQ} {i rest s od nth : Nat} (hs : s < 32) (hn5 : nth < 5) (hn : nth < rkb s 5) (hKK : AW g mX6_minorOf d 148 [(9, .int (iZ (psb s nth : Nat))), (8, .int (iZ (nth : Int))), (6, .int (iZ (i : Int))), (4, .int (iZ (rest : Int))), (5, .int (iZ (s : Int))), (3, .int (iZ (od : Int))), (2, .int (iZ (fcN k : Nat))), (0, .ref mo), (1, .int (iZ (k : Int)))] [] V sz Q) : ∀ (f j : Nat), j + f = psb s nth → AW g mX6_minorOf d 111 [(9, .int (iZ (j : Int))), (10, .int (iZ (rkb s j : Nat))), (8, .int (iZ (nth : Int))), (6, .int (iZ (i : Int))), (4, .int (iZ (rest : Int))), (5, .int (iZ (s : Int))), (3, .int (iZ (od : Int))), (2, .int (iZ (fcN k : Nat))), (0, .ref mo), (1, .int (iZ (k : Int)))] [] V sz Q
  | 0, j, hf => by
    obtain ⟨b1, b2, b3⟩ := bt14 ⟨s, hs⟩ ⟨nth, by omega⟩ hn
    have b1 : psb s nth < 5 := b1
    have b2 : s / 2 ^ psb s nth % 2 = 1 := b2
    have b3 : rkb s (psb s nth) = nth := b3
    have hj : j = psb s nth := by omega
    rw [← hj] at b2 b3 hKK
    refine aw_iload dX6_minorOf_111 (by rfl) ?_
    refine aw_iload dX6_minorOf_113 (by rfl) ?_
    refine aw_ishrZ j dX6_minorOf_115 rfl (by omega) (by omega) (by omega) ?_
    refine aw_iconstZ dX6_minorOf_116 ?_
    refine aw_iand1Z dX6_minorOf_117 ?_
    refine aw_topi (y := ((s / 2 ^ j % 2 : Nat) : Int)) (by rw [Int.natCast_emod, Int.natCast_ediv, Int.natCast_pow]; rfl) ?_
    refine aw_if_eqZ (tgt := 128) dX6_minorOf_118 (by decide) (by omega) (fun hc_118 => ?_) (fun hc_118 => ?_)
    · exact absurd hc_118 (by omega)
    · refine aw_iload dX6_minorOf_121 (by rfl) ?_
      refine aw_iload dX6_minorOf_123 (by rfl) ?_
      refine aw_icmp_geZ (tgt := 148) dX6_minorOf_125 (by decide) (by omega) (by omega) (fun hc_125 => ?_) (fun hc_125 => ?_)
      · refine aw_pk [9, 8, 6, 4, 5, 3, 2, 0, 1] (by rfl) ?_
        exact hKK
      · exact absurd hc_125 (by omega)
  | f + 1, j, hf => by
    have IH := fun j hj => @mq_j d g V mo sz k Q i rest s od nth hs hn5 hn hKK f j hj
    have b5 : s / 2 ^ j % 2 = 0 ∨ rkb s j < nth := bt15 ⟨s, hs⟩ ⟨nth, by omega⟩ ⟨j, by have : psb s nth < 5 := (bt14 ⟨s, hs⟩ ⟨nth, by omega⟩ hn).1; omega⟩ hn (show j < psb s nth by omega)
    have b6 : s / 2 ^ j % 2 < 2 := Nat.mod_lt _ (by omega)
    have b7 : rkb s (j + 1) = rkb s j + s / 2 ^ j % 2 := rfl
    have b8 : psb s nth < 5 := (bt14 ⟨s, hs⟩ ⟨nth, by omega⟩ hn).1
    have b9 : rkb s j ≤ j := rkb_le s j
    refine aw_iload dX6_minorOf_111 (by rfl) ?_
    refine aw_iload dX6_minorOf_113 (by rfl) ?_
    refine aw_ishrZ j dX6_minorOf_115 rfl (by omega) (by omega) (by omega) ?_
    refine aw_iconstZ dX6_minorOf_116 ?_
    refine aw_iand1Z dX6_minorOf_117 ?_
    refine aw_topi (y := ((s / 2 ^ j % 2 : Nat) : Int)) (by rw [Int.natCast_emod, Int.natCast_ediv, Int.natCast_pow]; rfl) ?_
    refine aw_if_eqZ (tgt := 128) dX6_minorOf_118 (by decide) (by omega) (fun hc_118 => ?_) (fun hc_118 => ?_)
    · refine aw_iload dX6_minorOf_128 (by rfl) ?_
      refine aw_iload dX6_minorOf_130 (by rfl) ?_
      refine aw_ishrZ j dX6_minorOf_132 rfl (by omega) (by omega) (by omega) ?_
      refine aw_iconstZ dX6_minorOf_133 ?_
      refine aw_iand1Z dX6_minorOf_134 ?_
      refine aw_topi (y := ((s / 2 ^ j % 2 : Nat) : Int)) (by rw [Int.natCast_emod, Int.natCast_ediv, Int.natCast_pow]; rfl) ?_
      refine aw_iconstZ dX6_minorOf_135 ?_
      refine aw_icmp_neZ (tgt := 142) dX6_minorOf_136 (by decide) (by omega) (by omega) (fun hc_136 => ?_) (fun hc_136 => ?_)
      · refine aw_iincZ dX6_minorOf_142 (by rfl) (by decide) ?_
        refine aw_goto (tgt := 111) dX6_minorOf_145 (by decide) ?_
        rw [show ((j : Int) + 1) = ((j + 1 : Nat) : Int) by omega]
        first
        | rw [show ((rkb s j : Int) + 1) = ((rkb s (j + 1) : Nat) : Int) by omega]
        | rw [show (rkb s j) = rkb s (j + 1) by omega]
        refine aw_pk [9, 10, 8, 6, 4, 5, 3, 2, 0, 1] (by rfl) ?_
        exact IH (j + 1) (by omega)
      · refine aw_iincZ dX6_minorOf_139 (by rfl) (by decide) ?_
        refine aw_iincZ dX6_minorOf_142 (by rfl) (by decide) ?_
        refine aw_goto (tgt := 111) dX6_minorOf_145 (by decide) ?_
        rw [show ((j : Int) + 1) = ((j + 1 : Nat) : Int) by omega]
        first
        | rw [show ((rkb s j : Int) + 1) = ((rkb s (j + 1) : Nat) : Int) by omega]
        | rw [show (rkb s j) = rkb s (j + 1) by omega]
        refine aw_pk [9, 10, 8, 6, 4, 5, 3, 2, 0, 1] (by rfl) ?_
        exact IH (j + 1) (by omega)
    · refine aw_iload dX6_minorOf_121 (by rfl) ?_
      refine aw_iload dX6_minorOf_123 (by rfl) ?_
      refine aw_icmp_geZ (tgt := 148) dX6_minorOf_125 (by decide) (by omega) (by omega) (fun hc_125 => ?_) (fun hc_125 => ?_)
      · exact absurd hc_125 (by omega)
      · refine aw_iload dX6_minorOf_128 (by rfl) ?_
        refine aw_iload dX6_minorOf_130 (by rfl) ?_
        refine aw_ishrZ j dX6_minorOf_132 rfl (by omega) (by omega) (by omega) ?_
        refine aw_iconstZ dX6_minorOf_133 ?_
        refine aw_iand1Z dX6_minorOf_134 ?_
        refine aw_topi (y := ((s / 2 ^ j % 2 : Nat) : Int)) (by rw [Int.natCast_emod, Int.natCast_ediv, Int.natCast_pow]; rfl) ?_
        refine aw_iconstZ dX6_minorOf_135 ?_
        refine aw_icmp_neZ (tgt := 142) dX6_minorOf_136 (by decide) (by omega) (by omega) (fun hc_136 => ?_) (fun hc_136 => ?_)
        · refine aw_iincZ dX6_minorOf_142 (by rfl) (by decide) ?_
          refine aw_goto (tgt := 111) dX6_minorOf_145 (by decide) ?_
          rw [show ((j : Int) + 1) = ((j + 1 : Nat) : Int) by omega]
          first
          | rw [show ((rkb s j : Int) + 1) = ((rkb s (j + 1) : Nat) : Int) by omega]
          | rw [show (rkb s j) = rkb s (j + 1) by omega]
          refine aw_pk [9, 10, 8, 6, 4, 5, 3, 2, 0, 1] (by rfl) ?_
          exact IH (j + 1) (by omega)
        · refine aw_iincZ dX6_minorOf_139 (by rfl) (by decide) ?_
          refine aw_iincZ dX6_minorOf_142 (by rfl) (by decide) ?_
          refine aw_goto (tgt := 111) dX6_minorOf_145 (by decide) ?_
          rw [show ((j : Int) + 1) = ((j + 1 : Nat) : Int) by omega]
          first
          | rw [show ((rkb s j : Int) + 1) = ((rkb s (j + 1) : Nat) : Int) by omega]
          | rw [show (rkb s j) = rkb s (j + 1) by omega]
          refine aw_pk [9, 10, 8, 6, 4, 5, 3, 2, 0, 1] (by rfl) ?_
          exact IH (j + 1) (by omega)
set_option maxRecDepth 20000 in
theorem mq_i (d : Nat) {od : Nat} {sm W : Int} {g : GX} {V0 : AH} {mo sz k : Nat} {Q : AQ} {zs : Nat → Int} {X : Int} {RA CA : Nat → Int} {ra ca : Nat → Nat} {rk kn ar ac : Int} (hX : 1 ≤ X) (hSm : SmM (120 * X ^ 5)) (hAb : ∀ a c, a < k → c < k → ab (zs (365 + 5 * ra a + ca c)) ≤ X) (hk : k ≤ 5) (h130 : V0 (mo + 13) = some (aIz g 5 RA)) (h140 : V0 (mo + 14) = some (aIz g 5 CA)) (hra : ∀ i, i < k → RA i = (ra i : Int) ∧ ra i < 5) (hca : ∀ i, i < k → CA i = (ca i : Int) ∧ ca i < 5) (hKK : ∀ {V : AH} {z : Nat → Int}, V mo = some (moO mo rk kn ar ac) → MN g mo V z → (∀ a, ¬ EN mo a → V a = V0 a) → (∀ q, q ≠ 424 → q ≠ 425 → z q = zs q) → z 424 = sm → z 425 = W → AW g mX6_minorOf (d + 2) 219 [(3, .int (iZ (od : Int))), (2, .int (iZ (fcN k : Nat))), (0, .ref mo), (1, .int (iZ (k : Int)))] [] V sz Q) : ∀ (f i rest s : Nat) (v : Int), i + f = k → s < 32 → rkb s 5 = k - i → rest < fcN (k - i) → (∀ c, c < rkb s 5 → psb s c < k) → v * vlo (k - i) (fun a c => (fun a c => zs (365 + 5 * ra a + ca c)) (i + a) (psb s c)) rest = W → ab v ≤ X ^ i → ∀ {V : AH} {z : Nat → Int}, V mo = some (moO mo rk kn ar ac) → MN g mo V z → (∀ a, ¬ EN mo a → V a = V0 a) → (∀ q, q ≠ 424 → q ≠ 425 → z q = zs q) → z 424 = sm → z 425 = v → AW g mX6_minorOf (d + 2) 57 [(6, .int (iZ (i : Int))), (4, .int (iZ (rest : Int))), (5, .int (iZ (s : Int))), (3, .int (iZ (od : Int))), (2, .int (iZ (fcN k : Nat))), (0, .ref mo), (1, .int (iZ (k : Int)))] [] V sz Q
  | 0, i, rest, s, v, hf, hs, hrk, hrest, hcl, hW, hvb, V, z, hmo, hM, hV, hz, h4, h5 => by
    obtain rfl : k = i := by omega
    refine aw_iload dX6_minorOf_57 (by rfl) ?_
    refine aw_iload_n dX6_minorOf_59 (by rfl) ?_
    refine aw_icmp_geZ (tgt := 219) dX6_minorOf_60 (by decide) (by omega) (by omega) (fun hc_60 => ?_) (fun hc_60 => ?_)
    · have ev : v = W := by
        rw [← hW, show k - k = 0 by omega]
        show v = v * 1
        rw [Int.mul_one]
      rw [ev] at h5
      refine aw_pk [3, 2, 0, 1] (by rfl) ?_
      exact hKK hmo hM hV hz h4 h5
    · exact absurd hc_60 (by omega)
  | f + 1, i, rest, s, v, hf, hs, hrk, hrest, hcl, hW, hvb, V, z, hmo, hM, hV, hz, h4, h5 => by
    have IH := fun i rest s v hi => @mq_i d od sm W g V0 mo sz k Q zs X RA CA ra ca rk kn ar ac hX hSm hAb hk h130 h140 hra hca hKK f i rest s v hi
    have hm : 1 ≤ k - i := by omega
    have h13 := (hV (mo + 13) (by unfold EN; omega)).trans h130
    have h14 := (hV (mo + 14) (by unfold EN; omega)).trans h140
    have hf1 := fcN_pos (k - i - 1)
    have hf2 : fcN (k - i - 1) ≤ 120 := fc5 ⟨k - i - 1, by omega⟩
    have hf3 : fcN (k - i) ≤ 120 := fc5 ⟨k - i, by omega⟩
    have hfu := fcN_up hm
    obtain ⟨nth, hnth⟩ : ∃ nth, nth = rest / fcN (k - i - 1) := ⟨_, rfl⟩
    have hn : nth < k - i := by
      rw [hnth, Nat.div_lt_iff_lt_mul (by omega), Nat.mul_comm, ← hfu]
      exact hrest
    obtain ⟨b1, b2, b3⟩ := bt14 ⟨s, hs⟩ ⟨nth, by omega⟩ (show nth < rkb s 5 by omega)
    have b1 : psb s nth < 5 := b1
    have b2 : s / 2 ^ psb s nth % 2 = 1 := b2
    have b3 : rkb s (psb s nth) = nth := b3
    obtain ⟨-, c2, -, -, c5⟩ := bt1 ⟨s, hs⟩ ⟨psb s nth, b1⟩ b2
    have c2 : rkb (s - 2 ^ psb s nth) 5 + 1 = rkb s 5 := c2
    have c5 : 2 ^ psb s nth ≤ s := c5
    have hs2 : s - 2 ^ psb s nth < 32 := Nat.lt_of_le_of_lt (Nat.sub_le _ _) hs
    have hpk : psb s nth < k := hcl nth (by omega)
    have hR5 := (hra i (by omega)).2
    have hC5 := (hca (psb s nth) hpk).2
    have hX0 : 0 ≤ X ^ i := Int.pow_nonneg (by omega)
    have hvb2 : ab (v * zs (365 + 5 * ra i + ca (psb s nth))) ≤ X ^ (i + 1) := by
      rw [ab_mul, Int.pow_succ]
      exact Int.mul_le_mul hvb (hAb i (psb s nth) (by omega) hpk) (ab0 _) hX0
    have hvs : SmM (z 425 * z (365 + 5 * ra i + ca (psb s nth))) := by
      rw [h5, hz _ (by omega) (by omega)]
      refine smT hSm (Int.le_trans hvb2 ?_)
      have x1 : X ^ (i + 1) ≤ X ^ 5 := pw_le hX (by omega)
      have x2 := pw1 hX 5
      omega
    have hcl0 := hcl
    have hcl : ∀ c, c < rkb (s - 2 ^ psb s nth) 5 → psb (s - 2 ^ psb s nth) c < k := fun c hc => by
      have c6 := bt2 ⟨s, hs⟩ ⟨psb s nth, b1⟩ b2 ⟨c, by omega⟩ (show c < rkb s 5 - 1 by omega)
      have c6 : psb (s - 2 ^ psb s nth) c = psb s (sk (rkb s (psb s nth)) c) := c6
      rw [c6]
      exact hcl0 _ (by unfold sk; split <;> omega)
    have K213 : ∀ {V3 : AH} {z3 : Nat → Int}, V3 mo = some (moO mo rk kn ar ac) → MN g mo V3 z3 → (∀ a, ¬ EN mo a → V3 a = V0 a) → (∀ q, q ≠ 424 → q ≠ 425 → z3 q = zs q) → z3 424 = sm → z3 425 = sgI nth * (v * zs (365 + 5 * ra i + ca (psb s nth))) → AW g mX6_minorOf (d + 2) 213 [(9, .int (iZ (psb s nth : Nat))), (8, .int (iZ (nth : Int))), (6, .int (iZ (i : Int))), (4, .int (iZ ((rest % fcN (k - i - 1) : Nat) : Int))), (5, .int (iZ ((s - 2 ^ psb s nth : Nat) : Int))), (3, .int (iZ (od : Int))), (2, .int (iZ (fcN k : Nat))), (0, .ref mo), (1, .int (iZ (k : Int)))] [] V3 sz Q := fun {V3 z3} hmo3 hM3 hV3 hz3 h43 h53 => by
      refine aw_iincZ dX6_minorOf_213 (by rfl) (by decide) ?_
      refine aw_goto (tgt := 57) dX6_minorOf_216 (by decide) ?_
      rw [show ((i : Int) + 1) = ((i + 1 : Nat) : Int) by omega]
      refine aw_pk [6, 4, 5, 3, 2, 0, 1] (by rfl) ?_
      refine IH (i + 1) _ _ _ (by omega) (by omega) (by omega) (by rw [show k - (i + 1) = k - i - 1 by omega]; exact Nat.mod_lt _ (by omega)) (fun c hc => hcl c hc) ?_ ?_ hmo3 hM3 hV3 hz3 h43 h53
      · rw [← hW, show k - i = (k - (i + 1)) + 1 by omega, vlo_step (A := (fun a c => zs (365 + 5 * ra a + ca c))) hs (by omega) (by rw [show k - (i + 1) + 1 = k - i by omega]; exact hrest) (nth := nth) (by rw [hnth, show k - (i + 1) = k - i - 1 by omega]), show k - (i + 1) = k - i - 1 by omega]
        rw [show k - i - 1 + 1 - 1 = k - i - 1 by omega]
        ac_rfl
      · rw [ab_mul, ab_sgI, Int.one_mul]
        exact hvb2
    clear hKK IH
    refine aw_iload dX6_minorOf_57 (by rfl) ?_
    refine aw_iload_n dX6_minorOf_59 (by rfl) ?_
    refine aw_icmp_geZ (tgt := 219) dX6_minorOf_60 (by decide) (by omega) (by omega) (fun hc_60 => ?_) (fun hc_60 => ?_)
    · exact absurd hc_60 (by omega)
    · refine aw_iconstZ dX6_minorOf_63 ?_
      refine aw_istore dX6_minorOf_64 (by decide) ?_
      refine aw_iconstZ dX6_minorOf_66 ?_
      refine aw_istore dX6_minorOf_67 (by decide) ?_
      refine aw_pk [8, 7, 6, 4, 5, 3, 2, 0, 1] (by rfl) ?_
      refine mq_of (d + 2) hk (by omega) ?_ (k - i - 2) 2 1 (by omega) (by omega) rfl
      refine aw_iload dX6_minorOf_91 (by rfl) ?_
      refine aw_iload dX6_minorOf_93 (by rfl) ?_
      refine aw_idivZ dX6_minorOf_95 (by omega) (by omega) (by omega) ?_
      refine aw_topi (y := (nth : Int)) (by rw [hnth]; rfl) ?_
      refine aw_istore dX6_minorOf_96 (by decide) ?_
      refine aw_iload dX6_minorOf_98 (by rfl) ?_
      refine aw_iload dX6_minorOf_100 (by rfl) ?_
      refine aw_iremZ dX6_minorOf_102 (by omega) (by omega) (by omega) ?_
      refine aw_topi (y := ((rest % fcN (k - i - 1) : Nat) : Int)) (by rfl) ?_
      refine aw_istore dX6_minorOf_103 (by decide) ?_
      refine aw_iconstZ dX6_minorOf_105 ?_
      refine aw_istore dX6_minorOf_106 (by decide) ?_
      refine aw_iconstZ dX6_minorOf_108 ?_
      refine aw_istore dX6_minorOf_109 (by decide) ?_
      refine aw_pk [9, 10, 8, 6, 4, 5, 3, 2, 0, 1] (by rfl) ?_
      refine mq_j (d + 2) hs (by omega) (by omega) ?_ (psb s nth) 0 (by omega)
      refine aw_iload dX6_minorOf_148 (by rfl) ?_
      refine aw_iconstZ dX6_minorOf_150 ?_
      refine aw_iload dX6_minorOf_151 (by rfl) ?_
      refine aw_ishl1Z (psb s nth) dX6_minorOf_153 rfl (by omega) ?_
      refine aw_isubZ dX6_minorOf_154 ?_
      refine aw_topi (y := ((s - 2 ^ psb s nth : Nat) : Int)) (by rw [Int.natCast_sub c5, Int.natCast_pow]; rfl) ?_
      refine aw_istore dX6_minorOf_155 (by decide) ?_
      refine aw_aload_n dX6_minorOf_157 (by rfl) (Or.inr ⟨_, rfl⟩) ?_
      refine aw_sipushZ dX6_minorOf_158 (by decide) ?_
      refine aw_sipushZ dX6_minorOf_161 (by decide) ?_
      refine aw_iconstZ dX6_minorOf_164 ?_
      refine aw_aload_n dX6_minorOf_165 (by rfl) (Or.inr ⟨_, rfl⟩) ?_
      refine aw_get fX6_49 dX6_minorOf_166 hmo (by rfl) ?_
      refine aw_iload dX6_minorOf_169 (by rfl) ?_
      refine aw_ialdZ (i) dX6_minorOf_171 h13 (by omega) (by omega) (by omega) ?_
      rw [(hra i (by omega)).1]
      refine aw_imulZ dX6_minorOf_172 ?_
      refine aw_iaddZ dX6_minorOf_173 ?_
      refine aw_aload_n dX6_minorOf_174 (by rfl) (Or.inr ⟨_, rfl⟩) ?_
      refine aw_get fX6_52 dX6_minorOf_175 hmo (by rfl) ?_
      refine aw_iload dX6_minorOf_178 (by rfl) ?_
      refine aw_ialdZ (psb s nth) dX6_minorOf_180 h14 (by omega) (by omega) (by omega) ?_
      rw [(hca (psb s nth) hpk).1]
      refine aw_iaddZ dX6_minorOf_181 ?_
      refine aw_topi (y := ((365 + 5 * ra i + ca (psb s nth) : Nat) : Int)) (by omega) ?_
      refine aw_sipushZ dX6_minorOf_182 (by decide) ?_
      refine aw_topi (y := ((425 : Nat) : Int)) (by omega) ?_
      refine aw_callv vX6_97 dX6_minorOf_185 hmo (m_multiplies g d (a := 425) (e := 365 + 5 * ra i + ca (psb s nth)) (c := 425) ⟨_, _, _, _, hmo⟩ hM (by omega) (by omega) (by omega) hvs) (by rfl) (by rfl) (by omega) (Nat.le_of_ble_eq_true rfl) ?_
      rintro _ V1 _ _ _ ⟨rfl, rfl, rfl, hE1, rfl, hM1⟩ -
      refine q0 ?_
      have hmo1 := (hE1 mo (by unfold EN; omega)).trans hmo
      obtain ⟨D, LN, SG, O1, O2, hA, h0⟩ := id hM1
      refine aw_iload dX6_minorOf_188 (by rfl) ?_
      refine aw_iconstZ dX6_minorOf_190 ?_
      refine aw_iremZ dX6_minorOf_191 (by omega) (by omega) (by omega) ?_
      refine aw_topi (y := ((nth % 2 : Nat) : Int)) (by rfl) ?_
      refine aw_iconstZ dX6_minorOf_192 ?_
      refine aw_icmp_neZ (tgt := 213) dX6_minorOf_193 (by decide) (by omega) (by omega) (fun hc_193 => ?_) (fun hc_193 => ?_)
      · refine aw_pk [9, 8, 6, 4, 5, 3, 2, 0, 1] (by rfl) ?_
        refine K213 hmo1 hM1 (fun a ha => (hE1 a ha).trans (hV a ha)) (fun q q1 q2 => by rw [upF_ne _ _ q2]; exact hz q q1 q2) (by rw [upF_ne _ _ (by omega)]; exact h4) ?_
        rw [upF_self, h5, hz _ (by omega) (by omega), sgI_par, if_pos (by omega)]
        omega
      · refine aw_aload_n dX6_minorOf_196 (by rfl) (Or.inr ⟨_, rfl⟩) ?_
        refine aw_get fX6_17 dX6_minorOf_197 hmo1 (by rfl) ?_
        refine aw_sipushZ dX6_minorOf_200 (by decide) ?_
        refine aw_aload_n dX6_minorOf_203 (by rfl) (Or.inr ⟨_, rfl⟩) ?_
        refine aw_get fX6_17 dX6_minorOf_204 hmo1 (by rfl) ?_
        refine aw_sipushZ dX6_minorOf_207 (by decide) ?_
        refine aw_ialdZ (425) dX6_minorOf_210 hA.2.2.1 (by omega) (by omega) (by omega) ?_
        refine aw_inegZ dX6_minorOf_211 ?_
        refine aw_iastZ (425) dX6_minorOf_212 hA.2.2.1 (by omega) (by omega) (by omega) ?_
        refine aw_pk [9, 8, 6, 4, 5, 3, 2, 0, 1] (by rfl) ?_
        have hM2 := MN.flip (c := 425) hA h0
        rw [upF_self, upF_up] at hM2
        refine K213 ((AHu_ne (by omega)).trans hmo1) hM2 (fun a ha => (AHu_ne (fun q => ha (by unfold EN; omega))).trans ((hE1 a ha).trans (hV a ha))) (fun q q1 q2 => by rw [upF_ne _ _ q2]; exact hz q q1 q2) (by rw [upF_ne _ _ (by omega)]; exact h4) ?_
        rw [upF_self, h5, hz _ (by omega) (by omega), sgI_par, if_neg (by omega)]
        omega
set_option maxRecDepth 20000 in
theorem mq_o (d : Nat) {g : GX} {V0 : AH} {mo sz k : Nat} {Q : AQ} {zs : Nat → Int} {X : Int} {RA CA : Nat → Int} {ra ca : Nat → Nat} {rk kn ar ac : Int} (hX : 1 ≤ X) (hSm : SmM (120 * X ^ 5)) (hAb : ∀ a c, a < k → c < k → ab (zs (365 + 5 * ra a + ca c)) ≤ X) (hk : k ≤ 5) (h130 : V0 (mo + 13) = some (aIz g 5 RA)) (h140 : V0 (mo + 14) = some (aIz g 5 CA)) (hra : ∀ i, i < k → RA i = (ra i : Int) ∧ ra i < 5) (hca : ∀ i, i < k → CA i = (ca i : Int) ∧ ca i < 5) (hQ : ∀ {V : AH} {z : Nat → Int}, MN g mo V z → (∀ a, ¬ EN mo a → V a = V0 a) → (∀ q, q ≠ 424 → q ≠ 425 → z q = zs q) → z 424 = det k (fun a c => zs (365 + 5 * ra a + ca c)) → Q none V sz 0 0) : ∀ (f od : Nat), od + f = fcN k → ∀ {V : AH} {z : Nat → Int}, V mo = some (moO mo rk kn ar ac) → MN g mo V z → (∀ a, ¬ EN mo a → V a = V0 a) → (∀ q, q ≠ 424 → q ≠ 425 → z q = zs q) → z 424 = Sg (fun o => vlo k (fun a c => zs (365 + 5 * ra a + ca c)) o) od → AW g mX6_minorOf (d + 2) 29 [(3, .int (iZ (od : Int))), (2, .int (iZ (fcN k : Nat))), (0, .ref mo), (1, .int (iZ (k : Int)))] [] V sz Q
  | 0, od, hf, V, z, hmo, hM, hV, hz, h4 => by
    have h5 : fcN k ≤ 120 := fc5 ⟨k, by omega⟩
    obtain rfl : od = fcN k := by omega
    refine aw_iload_n dX6_minorOf_29 (by rfl) ?_
    refine aw_iload_n dX6_minorOf_30 (by rfl) ?_
    refine aw_icmp_geZ (tgt := 238) dX6_minorOf_31 (by decide) (by omega) (by omega) (fun hc_31 => ?_) (fun hc_31 => ?_)
    · refine aw_ret dX6_minorOf_238 rfl ?_
      exact hQ hM hV hz (by rw [h4, vlo_sum])
    · exact absurd hc_31 (by omega)
  | f + 1, od, hf, V, z, hmo, hM, hV, hz, h4 => by
    have h5 : fcN k ≤ 120 := fc5 ⟨k, by omega⟩
    obtain ⟨b4, b5⟩ := bt4 ⟨k, by omega⟩
    have b4 : rkb (2 ^ k - 1) 5 = k := b4
    have b5 : ∀ c, c < k → psb (2 ^ k - 1) c = c := fun c hc => b5 ⟨c, by omega⟩ hc
    have hsE : Sg (fun o => vlo k (fun a c => zs (365 + 5 * ra a + ca c)) o) od - - vlo k (fun a c => zs (365 + 5 * ra a + ca c)) od = Sg (fun o => vlo k (fun a c => zs (365 + 5 * ra a + ca c)) o) (od + 1) := by
      show _ = Sg (fun o => vlo k (fun a c => zs (365 + 5 * ra a + ca c)) o) od + vlo k (fun a c => zs (365 + 5 * ra a + ca c)) od
      omega
    have hsm1 : SmM (Sg (fun o => vlo k (fun a c => zs (365 + 5 * ra a + ca c)) o) (od + 1)) := by
      refine smT hSm ?_
      have x1 := Sg_ab (f := fun o => vlo k (fun a c => zs (365 + 5 * ra a + ca c)) o) (b := X ^ 5) (n := od + 1) (fun i hi => Int.le_trans (vlo_ab hX (by omega) (fun i j hi hj => hAb i j hi hj)) (pw_le hX hk))
      have x2 := pw1 hX 5
      have x3 : ((od + 1 : Nat) : Int) * X ^ 5 ≤ 120 * X ^ 5 := Int.mul_le_mul_of_nonneg_right (by omega) (by omega)
      omega
    have IH := fun od ho => @mq_o d g V0 mo sz k Q zs X RA CA ra ca rk kn ar ac hX hSm hAb hk h130 h140 hra hca hQ f od ho
    refine aw_iload_n dX6_minorOf_29 (by rfl) ?_
    refine aw_iload_n dX6_minorOf_30 (by rfl) ?_
    refine aw_icmp_geZ (tgt := 238) dX6_minorOf_31 (by decide) (by omega) (by omega) (fun hc_31 => ?_) (fun hc_31 => ?_)
    · exact absurd hc_31 (by omega)
    · refine aw_iload_n dX6_minorOf_34 (by rfl) ?_
      refine aw_istore dX6_minorOf_35 (by decide) ?_
      refine aw_iconstZ dX6_minorOf_37 ?_
      refine aw_iload_n dX6_minorOf_38 (by rfl) ?_
      refine aw_ishl1Z k dX6_minorOf_39 rfl (by omega) ?_
      refine aw_iconstZ dX6_minorOf_40 ?_
      refine aw_isubZ dX6_minorOf_41 ?_
      refine aw_topi (y := ((2 ^ k - 1 : Nat) : Int)) (by rw [Int.natCast_sub (pw6 ⟨k, by omega⟩).1, Int.natCast_pow]; rfl) ?_
      refine aw_istore dX6_minorOf_42 (by decide) ?_
      refine aw_aload_n dX6_minorOf_44 (by rfl) (Or.inr ⟨_, rfl⟩) ?_
      refine aw_sipushZ dX6_minorOf_45 (by decide) ?_
      refine aw_topi (y := ((425 : Nat) : Int)) (by omega) ?_
      refine aw_ldc2Z (z := -1) qX6_159 dX6_minorOf_48 (by decide) ?_
      refine aw_callv vX6_83 dX6_minorOf_51 hmo (m_becomes g (d + 1) (c := 425) (v := -1) ⟨_, _, _, _, hmo⟩ hM (by omega) (by omega)) (by rfl) (by rfl) (by omega) (Nat.le_of_ble_eq_true rfl) ?_
      rintro _ V1 _ _ _ ⟨rfl, rfl, rfl, hE1, rfl, hM1⟩ -
      refine q0 ?_
      refine aw_iconstZ dX6_minorOf_54 ?_
      refine aw_istore dX6_minorOf_55 (by decide) ?_
      refine aw_pk [6, 4, 5, 3, 2, 0, 1] (by rfl) ?_
      refine mq_i d (sm := Sg (fun o => vlo k (fun a c => zs (365 + 5 * ra a + ca c)) o) od) (W := - vlo k (fun a c => zs (365 + 5 * ra a + ca c)) od) (V0 := V0) (zs := zs) hX hSm hAb hk h130 h140 hra hca ?_ k 0 od (2 ^ k - 1) (-1) (by omega) (by have : 2 ^ k ≤ 32 := (pw6 ⟨k, by omega⟩).2; omega) b4 (by rw [Nat.sub_zero]; omega) (fun c hc => by rw [b5 c (by omega)]; omega) ?_ (by rw [Int.pow_zero]; decide) ((hE1 mo (by unfold EN; omega)).trans hmo) hM1 (fun a ha => (hE1 a ha).trans (hV a ha)) (fun q q1 q2 => by rw [upF_ne _ _ q2]; exact hz q q1 q2) (by rw [upF_ne _ _ (by omega)]; exact h4) (by rw [upF_self])
      · intro V2 z2 hmo2 hM2 hV2 hz2 h42 h52
        have hsb : SmM (z2 424 - z2 425) := by
          rw [h42, h52, hsE]
          exact hsm1
        refine aw_aload_n dX6_minorOf_219 (by rfl) (Or.inr ⟨_, rfl⟩) ?_
        refine aw_sipushZ dX6_minorOf_220 (by decide) ?_
        refine aw_topi (y := ((424 : Nat) : Int)) (by omega) ?_
        refine aw_sipushZ dX6_minorOf_223 (by decide) ?_
        refine aw_topi (y := ((425 : Nat) : Int)) (by omega) ?_
        refine aw_sipushZ dX6_minorOf_226 (by decide) ?_
        refine aw_topi (y := ((424 : Nat) : Int)) (by omega) ?_
        refine aw_callv vX6_94 dX6_minorOf_229 hmo2 (m_less g d (a := 424) (e := 425) (c := 424) ⟨_, _, _, _, hmo2⟩ hM2 (by omega) (by omega) (by omega) hsb) (by rfl) (by rfl) (by omega) (Nat.le_of_ble_eq_true rfl) ?_
        rintro _ V3 _ _ _ ⟨rfl, rfl, rfl, hE3, rfl, hM3⟩ -
        refine q0 ?_
        refine aw_iincZ dX6_minorOf_232 (by rfl) (by decide) ?_
        refine aw_goto (tgt := 29) dX6_minorOf_235 (by decide) ?_
        rw [show ((od : Int) + 1) = ((od + 1 : Nat) : Int) by omega]
        refine aw_pk [3, 2, 0, 1] (by rfl) ?_
        exact IH (od + 1) (by omega) ((hE3 mo (by unfold EN; omega)).trans hmo2) hM3 (fun a ha => (hE3 a ha).trans (hV2 a ha)) (fun q q1 q2 => by rw [upF_ne _ _ q1]; exact hz2 q q1 q2) (by rw [upF_self, h42, h52, hsE])
      · rw [Nat.sub_zero, vlo_congr (B := (fun a c => zs (365 + 5 * ra a + ca c))) (by omega) (fun a c ha hc => by
          show zs (365 + 5 * ra (0 + a) + ca (psb (2 ^ k - 1) c)) = _
          rw [b5 c hc, Nat.zero_add])]
        omega
set_option maxRecDepth 20000 in
theorem m_minorOf (g : GX) (d : Nat) {V0 : AH} {mo sz k : Nat} {zs : Nat → Int} {X : Int} {RA CA : Nat → Int} {ra ca : Nat → Nat} {rk kn ar ac : Int} (hmo : V0 mo = some (moO mo rk kn ar ac)) (hM : MN g mo V0 zs) (hX : 1 ≤ X) (hSm : SmM (120 * X ^ 5)) (hAb : ∀ a c, a < k → c < k → ab (zs (365 + 5 * ra a + ca c)) ≤ X) (hk : k ≤ 5) (h130 : V0 (mo + 13) = some (aIz g 5 RA)) (h140 : V0 (mo + 14) = some (aIz g 5 CA)) (hra : ∀ i, i < k → RA i = (ra i : Int) ∧ ra i < 5) (hca : ∀ i, i < k → CA i = (ca i : Int) ∧ ca i < 5) : AMet g mX6_minorOf (d + 2) [.ref mo, .int (iZ (k : Int))] V0 sz (VX V0 sz (EN mo) (fun q V' => none = q ∧ ∃ z', MN g mo V' z' ∧ z' 424 = det k (fun a c => zs (365 + 5 * ra a + ca c)) ∧ ∀ q, q ≠ 424 → q ≠ 425 → z' q = zs q)) := by
  refine AMet.of rfl rfl (Nat.le_of_ble_eq_true rfl) ?_
  show AW g mX6_minorOf (d + 2) 0 [(0, .ref mo), (1, .int (iZ (k : Int)))] [] V0 sz _
  refine aw_aload_n dX6_minorOf_0 (by rfl) (Or.inr ⟨_, rfl⟩) ?_
  refine aw_sipushZ dX6_minorOf_1 (by decide) ?_
  refine aw_topi (y := ((424 : Nat) : Int)) (by omega) ?_
  refine aw_lconstZ (z := 0) dX6_minorOf_4 (by decide) ?_
  refine aw_callv vX6_83 dX6_minorOf_5 hmo (m_becomes g (d + 1) (c := 424) (v := 0) ⟨_, _, _, _, hmo⟩ hM (by omega) (by omega)) (by rfl) (by rfl) (by omega) (Nat.le_of_ble_eq_true rfl) ?_
  rintro _ V1 _ _ _ ⟨rfl, rfl, rfl, hE1, rfl, hM1⟩ -
  refine q0 ?_
  refine aw_iconstZ dX6_minorOf_8 ?_
  refine aw_istore_n dX6_minorOf_9 (by decide) ?_
  refine aw_iconstZ dX6_minorOf_10 ?_
  refine aw_istore_n dX6_minorOf_11 (by decide) ?_
  refine aw_pk [3, 2, 0, 1] (by rfl) ?_
  refine mq_all (d + 2) hk ?_ (k - 1) 2 1 (by omega) (by omega) rfl
  refine aw_iconstZ dX6_minorOf_27 ?_
  refine aw_istore_n dX6_minorOf_28 (by decide) ?_
  refine aw_pk [3, 2, 0, 1] (by rfl) ?_
  exact mq_o d (V0 := V0) (zs := zs) (rk := rk) (kn := kn) (ar := ar) (ac := ac) hX hSm hAb hk h130 h140 hra hca (fun {V z} hM hV hz h4 => ⟨rfl, rfl, rfl, hV, rfl, z, hM, h4, hz⟩) (fcN k) 0 (by omega) ((hE1 mo (by unfold EN; omega)).trans hmo) hM1 hE1 (fun q q1 _ => by rw [upF_ne _ _ q1]) (by rw [upF_self]; rfl)

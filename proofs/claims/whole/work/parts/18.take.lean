/-! ===== Desk.takeDigit ===== -/
/-- nothing has changed but one cell -/
def Fr1 (V V' : AH) (p : Nat) : Prop := ∀ a, a ≠ p → V' a = V a
theorem Fr1.rf {V : AH} {p : Nat} : Fr1 V V p := fun _ _ => rfl
theorem Fr1.upd {V V' : AH} {p : Nat} {e : va_E} (h : Fr1 V V' p) : Fr1 V (AHu V' p e) p := fun b h2 => by
  rw [AHu_ne h2]; exact h b h2
/-- the digits from j on -/
def wn (F : Nat → Int) (j : Nat) : Nat → Int := fun i => F (j + i)
theorem wn_upF (F : Nat → Int) (j k : Nat) (x : Int) : wn (upF F (j + k) x) j = upF (wn F j) k x := by
  funext i
  unfold wn upF
  by_cases h : i = k
  · subst h; simp
  · rw [if_neg (by omega), if_neg h]
theorem td_bd {b c u vk q : Int} (hb : b = -1 ∨ b = 0) (hc : 0 ≤ c ∧ c < 2147483648) (hu : 0 ≤ u ∧ u < 2147483648) (hv : 0 ≤ vk ∧ vk < 2147483648) (hq : 0 ≤ q ∧ q ≤ 2147483648) : (0 ≤ c + q * vk ∧ c + q * vk < 9223372036854775808) ∧ (0 ≤ (c + q * vk) / 2147483648 ∧ (c + q * vk) / 2147483648 < 2147483648) ∧ R64 (b + (u - (c + q * vk) % 2147483648)) ∧ (0 ≤ (b + (u - (c + q * vk) % 2147483648)) % 2147483648 ∧ (b + (u - (c + q * vk) % 2147483648)) % 2147483648 < 2147483648) ∧ ((b + (u - (c + q * vk) % 2147483648)) / 2147483648 = -1 ∨ (b + (u - (c + q * vk) % 2147483648)) / 2147483648 = 0) ∧ (b + (u - (c + q * vk) % 2147483648)) % 2147483648 + ((b + (u - (c + q * vk) % 2147483648)) / 2147483648 - (c + q * vk) / 2147483648) * 2147483648 = (b - c) + u - q * vk := by
  have h1 : 0 ≤ q * vk := Int.mul_nonneg hq.1 hv.1
  have h2 : q * vk ≤ 2147483648 * 2147483647 := Int.mul_le_mul hq.2 (by omega) hv.1 (by omega)
  generalize q * vk = e at h1 h2 ⊢
  omega
theorem td_step {X Wd Vd : Nat → Int} {b c b' c' x u vk q : Int} {k : Nat} (hinv : mg 2147483648 X k + (b - c) * 2147483648 ^ k = mg 2147483648 Wd k - q * mg 2147483648 Vd k) (he : x + (b' - c') * 2147483648 = (b - c) + u - q * vk) (hu : Wd k = u) (hv : Vd k = vk) : mg 2147483648 (upF X k x) (k + 1) + (b' - c') * 2147483648 ^ (k + 1) = mg 2147483648 Wd (k + 1) - q * mg 2147483648 Vd (k + 1) := by
  simp only [mg]
  rw [mg_upF, upF_self, Int.pow_succ, hu, hv]
  generalize (2147483648 : Int) ^ k = P at hinv ⊢
  generalize b' - c' = t' at he ⊢
  generalize b - c = t0 at he hinv
  have e1 : (x + t' * 2147483648) * P = (t0 + u - q * vk) * P := by rw [he]
  have e2 : t' * (P * 2147483648) = t' * 2147483648 * P := by rw [Int.mul_comm P 2147483648, ← Int.mul_assoc]
  have e3 : q * (mg 2147483648 Vd k + vk * P) = q * mg 2147483648 Vd k + q * vk * P := by rw [Int.mul_add, ← Int.mul_assoc]
  rw [Int.add_mul, Int.sub_mul, Int.add_mul] at e1
  rw [e2, e3]
  omega
theorem td_add {X Y Vd : Nat → Int} {c : Int} {k : Nat} (hinv : mg 2147483648 Y k + c * 2147483648 ^ k = mg 2147483648 X k + mg 2147483648 Vd k) (hc : 0 ≤ c ∧ c ≤ 1) (hx : 0 ≤ X k ∧ X k < 2147483648) (hv : 0 ≤ Vd k ∧ Vd k < 2147483648) : R64 (c + (X k + Vd k)) ∧ (0 ≤ (c + (X k + Vd k)) % 2147483648 ∧ (c + (X k + Vd k)) % 2147483648 < 2147483648) ∧ (0 ≤ (c + (X k + Vd k)) / 2147483648 ∧ (c + (X k + Vd k)) / 2147483648 ≤ 1) ∧ mg 2147483648 (upF Y k ((c + (X k + Vd k)) % 2147483648)) (k + 1) + (c + (X k + Vd k)) / 2147483648 * 2147483648 ^ (k + 1) = mg 2147483648 X (k + 1) + mg 2147483648 Vd (k + 1) := by
  refine ⟨by omega, by omega, by omega, ?_⟩
  have hmd := Int.emod_add_mul_ediv (c + (X k + Vd k)) 2147483648
  simp only [mg]
  rw [mg_upF, upF_self, Int.pow_succ]
  generalize (2147483648 : Int) ^ k = P at hinv ⊢
  generalize (c + (X k + Vd k)) / 2147483648 = q at hmd ⊢
  generalize (c + (X k + Vd k)) % 2147483648 = r at hmd ⊢
  have e2 : q * (P * 2147483648) = 2147483648 * q * P := by
    rw [Int.mul_comm P 2147483648, ← Int.mul_assoc, Int.mul_comm q 2147483648]
  have e3 : (r + 2147483648 * q) * P = (c + (X k + Vd k)) * P := by rw [hmd]
  rw [Int.add_mul, Int.add_mul, Int.add_mul] at e3
  omega
/-- what is behind takeDigit: the true digit; in the window the rest -/
def TDP (g : GX) (V : AH) (sz r : Nat) (sr : Int) (nr prr Lr j n : Nat) (U : Nat → Int) (v W : Int) : AQ := fun a V' sz' mc ms => (∃ (qd : Int) (U' : Nat → Int), some (.int (iZ qd)) = a ∧ (0 ≤ qd ∧ qd < 2147483648) ∧ W = qd * v + mg 2147483648 (wn U' j) n ∧ mg 2147483648 (wn U' j) n < v ∧ (∀ i, i < j ∨ j + n ≤ i → U' i = U i) ∧ Whl g V' r sr nr prr Lr U') ∧ Fr1 V V' prr ∧ sz = sz' ∧ 0 = mc ∧ 0 = ms
abbrev mX0_takeDigit : MI := (yX0_takeDigit, cX0_takeDigit, 12, (some FieldType.int), noX)
theorem dX0_takeDigit_0 : decode cX0_takeDigit 0 = .ok (.aload_n 0, 1) := by decide +kernel
theorem dX0_takeDigit_1 : decode cX0_takeDigit 1 = .ok (.getfield 12, 3) := by decide +kernel
theorem dX0_takeDigit_4 : decode cX0_takeDigit 4 = .ok (.getfield 67, 3) := by decide +kernel
theorem dX0_takeDigit_7 : decode cX0_takeDigit 7 = .ok (.astore 5, 2) := by decide +kernel
theorem dX0_takeDigit_9 : decode cX0_takeDigit 9 = .ok (.aload_n 0, 1) := by decide +kernel
theorem dX0_takeDigit_10 : decode cX0_takeDigit 10 = .ok (.getfield 18, 3) := by decide +kernel
theorem dX0_takeDigit_13 : decode cX0_takeDigit 13 = .ok (.getfield 67, 3) := by decide +kernel
theorem dX0_takeDigit_16 : decode cX0_takeDigit 16 = .ok (.astore 6, 2) := by decide +kernel
theorem dX0_takeDigit_18 : decode cX0_takeDigit 18 = .ok (.lconst 0, 1) := by decide +kernel
theorem dX0_takeDigit_19 : decode cX0_takeDigit 19 = .ok (.lstore 7, 2) := by decide +kernel
theorem dX0_takeDigit_21 : decode cX0_takeDigit 21 = .ok (.lconst 0, 1) := by decide +kernel
theorem dX0_takeDigit_22 : decode cX0_takeDigit 22 = .ok (.lstore 9, 2) := by decide +kernel
theorem dX0_takeDigit_24 : decode cX0_takeDigit 24 = .ok (.iconst 0, 1) := by decide +kernel
theorem dX0_takeDigit_25 : decode cX0_takeDigit 25 = .ok (.istore 11, 2) := by decide +kernel
theorem dX0_takeDigit_27 : decode cX0_takeDigit 27 = .ok (.iload 11, 2) := by decide +kernel
theorem dX0_takeDigit_29 : decode cX0_takeDigit 29 = .ok (.iload_n 2, 1) := by decide +kernel
theorem dX0_takeDigit_30 : decode cX0_takeDigit 30 = .ok (.if_icmp .ge 70, 3) := by decide +kernel
theorem dX0_takeDigit_33 : decode cX0_takeDigit 33 = .ok (.lload 7, 2) := by decide +kernel
theorem dX0_takeDigit_35 : decode cX0_takeDigit 35 = .ok (.lload_n 3, 1) := by decide +kernel
theorem dX0_takeDigit_36 : decode cX0_takeDigit 36 = .ok (.aload 6, 2) := by decide +kernel
theorem dX0_takeDigit_38 : decode cX0_takeDigit 38 = .ok (.iload 11, 2) := by decide +kernel
theorem dX0_takeDigit_40 : decode cX0_takeDigit 40 = .ok (.iaload, 1) := by decide +kernel
theorem dX0_takeDigit_41 : decode cX0_takeDigit 41 = .ok (.i2l, 1) := by decide +kernel
theorem dX0_takeDigit_42 : decode cX0_takeDigit 42 = .ok (.lmul, 1) := by decide +kernel
theorem dX0_takeDigit_43 : decode cX0_takeDigit 43 = .ok (.ladd, 1) := by decide +kernel
theorem dX0_takeDigit_44 : decode cX0_takeDigit 44 = .ok (.lstore 7, 2) := by decide +kernel
theorem dX0_takeDigit_46 : decode cX0_takeDigit 46 = .ok (.lload 9, 2) := by decide +kernel
theorem dX0_takeDigit_48 : decode cX0_takeDigit 48 = .ok (.aload 5, 2) := by decide +kernel
theorem dX0_takeDigit_50 : decode cX0_takeDigit 50 = .ok (.iload_n 1, 1) := by decide +kernel
theorem dX0_takeDigit_51 : decode cX0_takeDigit 51 = .ok (.iload 11, 2) := by decide +kernel
theorem dX0_takeDigit_53 : decode cX0_takeDigit 53 = .ok (.iadd, 1) := by decide +kernel
theorem dX0_takeDigit_54 : decode cX0_takeDigit 54 = .ok (.iaload, 1) := by decide +kernel
theorem dX0_takeDigit_55 : decode cX0_takeDigit 55 = .ok (.i2l, 1) := by decide +kernel
theorem dX0_takeDigit_56 : decode cX0_takeDigit 56 = .ok (.lload 7, 2) := by decide +kernel
theorem dX0_takeDigit_58 : decode cX0_takeDigit 58 = .ok (.ldc2_w 96, 3) := by decide +kernel
theorem dX0_takeDigit_61 : decode cX0_takeDigit 61 = .ok (.land, 1) := by decide +kernel
theorem dX0_takeDigit_62 : decode cX0_takeDigit 62 = .ok (.lsub, 1) := by decide +kernel
theorem dX0_takeDigit_63 : decode cX0_takeDigit 63 = .ok (.ladd, 1) := by decide +kernel
theorem dX0_takeDigit_64 : decode cX0_takeDigit 64 = .ok (.lstore 9, 2) := by decide +kernel
theorem dX0_takeDigit_66 : decode cX0_takeDigit 66 = .ok (.aload 5, 2) := by decide +kernel
theorem dX0_takeDigit_68 : decode cX0_takeDigit 68 = .ok (.iload_n 1, 1) := by decide +kernel
theorem dX0_takeDigit_69 : decode cX0_takeDigit 69 = .ok (.iload 11, 2) := by decide +kernel
theorem dX0_takeDigit_71 : decode cX0_takeDigit 71 = .ok (.iadd, 1) := by decide +kernel
theorem dX0_takeDigit_72 : decode cX0_takeDigit 72 = .ok (.lload 9, 2) := by decide +kernel
theorem dX0_takeDigit_74 : decode cX0_takeDigit 74 = .ok (.ldc2_w 96, 3) := by decide +kernel
theorem dX0_takeDigit_77 : decode cX0_takeDigit 77 = .ok (.land, 1) := by decide +kernel
theorem dX0_takeDigit_78 : decode cX0_takeDigit 78 = .ok (.l2i, 1) := by decide +kernel
theorem dX0_takeDigit_79 : decode cX0_takeDigit 79 = .ok (.iastore, 1) := by decide +kernel
theorem dX0_takeDigit_80 : decode cX0_takeDigit 80 = .ok (.lload 9, 2) := by decide +kernel
theorem dX0_takeDigit_82 : decode cX0_takeDigit 82 = .ok (.bipush 31, 2) := by decide +kernel
theorem dX0_takeDigit_84 : decode cX0_takeDigit 84 = .ok (.lshr, 1) := by decide +kernel
theorem dX0_takeDigit_85 : decode cX0_takeDigit 85 = .ok (.lstore 9, 2) := by decide +kernel
theorem dX0_takeDigit_87 : decode cX0_takeDigit 87 = .ok (.lload 7, 2) := by decide +kernel
theorem dX0_takeDigit_89 : decode cX0_takeDigit 89 = .ok (.bipush 31, 2) := by decide +kernel
theorem dX0_takeDigit_91 : decode cX0_takeDigit 91 = .ok (.lshr, 1) := by decide +kernel
theorem dX0_takeDigit_92 : decode cX0_takeDigit 92 = .ok (.lstore 7, 2) := by decide +kernel
theorem dX0_takeDigit_94 : decode cX0_takeDigit 94 = .ok (.iinc 11 1, 3) := by decide +kernel
theorem dX0_takeDigit_97 : decode cX0_takeDigit 97 = .ok (.goto (-70), 3) := by decide +kernel
theorem dX0_takeDigit_100 : decode cX0_takeDigit 100 = .ok (.lload 9, 2) := by decide +kernel
theorem dX0_takeDigit_102 : decode cX0_takeDigit 102 = .ok (.aload 5, 2) := by decide +kernel
theorem dX0_takeDigit_104 : decode cX0_takeDigit 104 = .ok (.iload_n 1, 1) := by decide +kernel
theorem dX0_takeDigit_105 : decode cX0_takeDigit 105 = .ok (.iload_n 2, 1) := by decide +kernel
theorem dX0_takeDigit_106 : decode cX0_takeDigit 106 = .ok (.iadd, 1) := by decide +kernel
theorem dX0_takeDigit_107 : decode cX0_takeDigit 107 = .ok (.iaload, 1) := by decide +kernel
theorem dX0_takeDigit_108 : decode cX0_takeDigit 108 = .ok (.i2l, 1) := by decide +kernel
theorem dX0_takeDigit_109 : decode cX0_takeDigit 109 = .ok (.ladd, 1) := by decide +kernel
theorem dX0_takeDigit_110 : decode cX0_takeDigit 110 = .ok (.lload 7, 2) := by decide +kernel
theorem dX0_takeDigit_112 : decode cX0_takeDigit 112 = .ok (.lsub, 1) := by decide +kernel
theorem dX0_takeDigit_113 : decode cX0_takeDigit 113 = .ok (.lconst 0, 1) := by decide +kernel
theorem dX0_takeDigit_114 : decode cX0_takeDigit 114 = .ok (.lcmp, 1) := by decide +kernel
theorem dX0_takeDigit_115 : decode cX0_takeDigit 115 = .ok (.ifCond .lt 6, 3) := by decide +kernel
theorem dX0_takeDigit_118 : decode cX0_takeDigit 118 = .ok (.lload_n 3, 1) := by decide +kernel
theorem dX0_takeDigit_119 : decode cX0_takeDigit 119 = .ok (.l2i, 1) := by decide +kernel
theorem dX0_takeDigit_120 : decode cX0_takeDigit 120 = .ok (.ireturn, 1) := by decide +kernel
theorem dX0_takeDigit_121 : decode cX0_takeDigit 121 = .ok (.lconst 0, 1) := by decide +kernel
theorem dX0_takeDigit_122 : decode cX0_takeDigit 122 = .ok (.lstore 7, 2) := by decide +kernel
theorem dX0_takeDigit_124 : decode cX0_takeDigit 124 = .ok (.iconst 0, 1) := by decide +kernel
theorem dX0_takeDigit_125 : decode cX0_takeDigit 125 = .ok (.istore 11, 2) := by decide +kernel
theorem dX0_takeDigit_127 : decode cX0_takeDigit 127 = .ok (.iload 11, 2) := by decide +kernel
theorem dX0_takeDigit_129 : decode cX0_takeDigit 129 = .ok (.iload_n 2, 1) := by decide +kernel
theorem dX0_takeDigit_130 : decode cX0_takeDigit 130 = .ok (.if_icmp .ge 50, 3) := by decide +kernel
theorem dX0_takeDigit_133 : decode cX0_takeDigit 133 = .ok (.lload 7, 2) := by decide +kernel
theorem dX0_takeDigit_135 : decode cX0_takeDigit 135 = .ok (.aload 5, 2) := by decide +kernel
theorem dX0_takeDigit_137 : decode cX0_takeDigit 137 = .ok (.iload_n 1, 1) := by decide +kernel
theorem dX0_takeDigit_138 : decode cX0_takeDigit 138 = .ok (.iload 11, 2) := by decide +kernel
theorem dX0_takeDigit_140 : decode cX0_takeDigit 140 = .ok (.iadd, 1) := by decide +kernel
theorem dX0_takeDigit_141 : decode cX0_takeDigit 141 = .ok (.iaload, 1) := by decide +kernel
theorem dX0_takeDigit_142 : decode cX0_takeDigit 142 = .ok (.i2l, 1) := by decide +kernel
theorem dX0_takeDigit_143 : decode cX0_takeDigit 143 = .ok (.aload 6, 2) := by decide +kernel
theorem dX0_takeDigit_145 : decode cX0_takeDigit 145 = .ok (.iload 11, 2) := by decide +kernel
theorem dX0_takeDigit_147 : decode cX0_takeDigit 147 = .ok (.iaload, 1) := by decide +kernel
theorem dX0_takeDigit_148 : decode cX0_takeDigit 148 = .ok (.i2l, 1) := by decide +kernel
theorem dX0_takeDigit_149 : decode cX0_takeDigit 149 = .ok (.ladd, 1) := by decide +kernel
theorem dX0_takeDigit_150 : decode cX0_takeDigit 150 = .ok (.ladd, 1) := by decide +kernel
theorem dX0_takeDigit_151 : decode cX0_takeDigit 151 = .ok (.lstore 7, 2) := by decide +kernel
theorem dX0_takeDigit_153 : decode cX0_takeDigit 153 = .ok (.aload 5, 2) := by decide +kernel
theorem dX0_takeDigit_155 : decode cX0_takeDigit 155 = .ok (.iload_n 1, 1) := by decide +kernel
theorem dX0_takeDigit_156 : decode cX0_takeDigit 156 = .ok (.iload 11, 2) := by decide +kernel
theorem dX0_takeDigit_158 : decode cX0_takeDigit 158 = .ok (.iadd, 1) := by decide +kernel
theorem dX0_takeDigit_159 : decode cX0_takeDigit 159 = .ok (.lload 7, 2) := by decide +kernel
theorem dX0_takeDigit_161 : decode cX0_takeDigit 161 = .ok (.ldc2_w 96, 3) := by decide +kernel
theorem dX0_takeDigit_164 : decode cX0_takeDigit 164 = .ok (.land, 1) := by decide +kernel
theorem dX0_takeDigit_165 : decode cX0_takeDigit 165 = .ok (.l2i, 1) := by decide +kernel
theorem dX0_takeDigit_166 : decode cX0_takeDigit 166 = .ok (.iastore, 1) := by decide +kernel
theorem dX0_takeDigit_167 : decode cX0_takeDigit 167 = .ok (.lload 7, 2) := by decide +kernel
theorem dX0_takeDigit_169 : decode cX0_takeDigit 169 = .ok (.bipush 31, 2) := by decide +kernel
theorem dX0_takeDigit_171 : decode cX0_takeDigit 171 = .ok (.lshr, 1) := by decide +kernel
theorem dX0_takeDigit_172 : decode cX0_takeDigit 172 = .ok (.lstore 7, 2) := by decide +kernel
theorem dX0_takeDigit_174 : decode cX0_takeDigit 174 = .ok (.iinc 11 1, 3) := by decide +kernel
theorem dX0_takeDigit_177 : decode cX0_takeDigit 177 = .ok (.goto (-50), 3) := by decide +kernel
theorem dX0_takeDigit_180 : decode cX0_takeDigit 180 = .ok (.lload_n 3, 1) := by decide +kernel
theorem dX0_takeDigit_181 : decode cX0_takeDigit 181 = .ok (.lconst 1, 1) := by decide +kernel
theorem dX0_takeDigit_182 : decode cX0_takeDigit 182 = .ok (.lsub, 1) := by decide +kernel
theorem dX0_takeDigit_183 : decode cX0_takeDigit 183 = .ok (.l2i, 1) := by decide +kernel
theorem dX0_takeDigit_184 : decode cX0_takeDigit 184 = .ok (.ireturn, 1) := by decide +kernel
theorem td_loop1 (g : GX) (d : Nat) {V0 : AH} {sz r dv nr prr Lr nd pd Ld j n : Nat} {sr sd q : Int} {U Vd : Nat → Int} {Q : AQ} (hpd : dv ≠ prr) (hpp : pd ≠ prr) (hjn : j + n < Lr) (hn : n ≤ Ld) (hq : 0 ≤ q ∧ q ≤ 2147483648)
    (hK : ∀ (V : AH) (X : Nat → Int) (b c : Int), Whl g V r sr nr prr Lr X → Whl g V dv sd nd pd Ld Vd → mg 2147483648 (wn X j) n + (b - c) * 2147483648 ^ n = mg 2147483648 (wn U j) n - q * mg 2147483648 Vd n → (b = -1 ∨ b = 0) → (0 ≤ c ∧ c < 2147483648) → (∀ i, i < j ∨ j + n ≤ i → X i = U i) → Fr1 V0 V prr → AW g mX0_takeDigit d 100 [(9, .long (jZ b)), (7, .long (jZ c)), (6, .ref pd), (5, .ref prr), (1, .int (iZ j)), (2, .int (iZ n)), (3, .long (jZ q))] [] V sz Q) : ∀ (i k : Nat), k + i = n → ∀ {V : AH} {X : Nat → Int} {b c : Int}, Whl g V r sr nr prr Lr X → Whl g V dv sd nd pd Ld Vd → mg 2147483648 (wn X j) k + (b - c) * 2147483648 ^ k = mg 2147483648 (wn U j) k - q * mg 2147483648 Vd k → (b = -1 ∨ b = 0) → (0 ≤ c ∧ c < 2147483648) → (∀ i, i < j ∨ j + k ≤ i → X i = U i) → Fr1 V0 V prr → AW g mX0_takeDigit d 27 [(11, .int (iZ k)), (9, .long (jZ b)), (7, .long (jZ c)), (6, .ref pd), (5, .ref prr), (1, .int (iZ j)), (2, .int (iZ n)), (3, .long (jZ q))] [] V sz Q
  | 0, k, hi, V, X, b, c, hR, hVd, hinv, hb, hc, heq, hfr => by
    obtain rfl : n = k := by omega
    obtain ⟨hr, hrp, hrq, hr4, hr5, hr6, hX⟩ := id hR
    obtain ⟨hd, hdp, hdq, hd4, hd5, hd6, hVt⟩ := id hVd
    refine aw_iload dX0_takeDigit_27 (by rfl) ?_
    refine aw_iload_n dX0_takeDigit_29 (by rfl) ?_
    refine aw_icmp_geZ (tgt := 100) dX0_takeDigit_30 (by decide) (by omega) (by omega) (fun hc_30 => ?_) (fun hc_30 => ?_)
    · refine aw_pk [9, 7, 6, 5, 1, 2, 3] (by rfl) ?_
      exact hK V X b c hR hVd hinv hb hc heq hfr
    · exact absurd hc_30 (by omega)
  | i + 1, k, hi, V, X, b, c, hR, hVd, hinv, hb, hc, heq, hfr => by
    obtain ⟨hr, hrp, hrq, hr4, hr5, hr6, hX⟩ := id hR
    obtain ⟨hd, hdp, hdq, hd4, hd5, hd6, hVt⟩ := id hVd
    have e31 : (2 : Int) ^ 31 = 2147483648 := by decide
    have hXk := hX (j + k) (by omega)
    have hVk := hVt k (by omega)
    have hbd := td_bd hb hc hXk hVk hq
    have hst := td_step (X := wn X j) (Wd := wn U j) (Vd := Vd) hinv hbd.2.2.2.2.2 (by unfold wn; rw [heq (j + k) (Or.inr (Nat.le_refl _))]) rfl
    rw [← wn_upF] at hst
    have IH := td_loop1 g d (V0 := V0) (sz := sz) (sd := sd) (nd := nd) hpd hpp hjn hn hq hK i (k + 1) (by omega) (hR.arr (upF_lim hX hbd.2.2.2.1)) (hVd.kept (AHu_ne hpd) (AHu_ne hpp)) hst hbd.2.2.2.2.1 hbd.2.1 (fun i hi => by rw [upF_ne _ _ (by omega)]; exact heq i (by omega)) hfr.upd
    clear hinv hst hK heq hfr
    refine aw_iload dX0_takeDigit_27 (by rfl) ?_
    refine aw_iload_n dX0_takeDigit_29 (by rfl) ?_
    refine aw_icmp_geZ (tgt := 100) dX0_takeDigit_30 (by decide) (by omega) (by omega) (fun hc_30 => ?_) (fun hc_30 => ?_)
    · exact absurd hc_30 (by omega)
    · refine aw_lload dX0_takeDigit_33 (by rfl) ?_
      refine aw_lload_n dX0_takeDigit_35 (by rfl) ?_
      refine aw_aload dX0_takeDigit_36 (by rfl) (Or.inr ⟨_, rfl⟩) ?_
      refine aw_iload dX0_takeDigit_38 (by rfl) ?_
      refine aw_ialdZ (k) dX0_takeDigit_40 (by assumption) (by omega) (by omega) (by omega) ?_
      refine aw_i2lZ dX0_takeDigit_41 (by omega) ?_
      refine aw_lmulZ dX0_takeDigit_42 ?_
      refine aw_laddZ dX0_takeDigit_43 ?_
      refine aw_lstore dX0_takeDigit_44 (by decide) ?_
      refine aw_lload dX0_takeDigit_46 (by rfl) ?_
      refine aw_aload dX0_takeDigit_48 (by rfl) (Or.inr ⟨_, rfl⟩) ?_
      refine aw_iload_n dX0_takeDigit_50 (by rfl) ?_
      refine aw_iload dX0_takeDigit_51 (by rfl) ?_
      refine aw_iaddZ dX0_takeDigit_53 ?_
      refine aw_ialdZ (j + k) dX0_takeDigit_54 (by assumption) (by omega) (by omega) (by omega) ?_
      refine aw_i2lZ dX0_takeDigit_55 (by omega) ?_
      refine aw_lload dX0_takeDigit_56 (by rfl) ?_
      refine aw_ldc2Z (z := 2147483647) qX0_96 dX0_takeDigit_58 (by decide) ?_
      refine aw_landM 31 dX0_takeDigit_61 (by decide) (by decide) ?_
      rw [e31]
      refine aw_lsubZ dX0_takeDigit_62 ?_
      refine aw_laddZ dX0_takeDigit_63 ?_
      refine aw_lstore dX0_takeDigit_64 (by decide) ?_
      refine aw_aload dX0_takeDigit_66 (by rfl) (Or.inr ⟨_, rfl⟩) ?_
      refine aw_iload_n dX0_takeDigit_68 (by rfl) ?_
      refine aw_iload dX0_takeDigit_69 (by rfl) ?_
      refine aw_iaddZ dX0_takeDigit_71 ?_
      refine aw_lload dX0_takeDigit_72 (by rfl) ?_
      refine aw_ldc2Z (z := 2147483647) qX0_96 dX0_takeDigit_74 (by decide) ?_
      refine aw_landM 31 dX0_takeDigit_77 (by decide) (by decide) ?_
      rw [e31]
      refine aw_l2iZ dX0_takeDigit_78 ?_
      refine aw_iastZ (j + k) dX0_takeDigit_79 (by assumption) (by omega) (by omega) (by omega) ?_
      refine aw_lload dX0_takeDigit_80 (by rfl) ?_
      refine aw_bipushZ dX0_takeDigit_82 (by decide) ?_
      refine aw_lshrZ 31 dX0_takeDigit_84 (by rfl) (by decide) hbd.2.2.1 ?_
      rw [e31]
      refine aw_lstore dX0_takeDigit_85 (by decide) ?_
      refine aw_lload dX0_takeDigit_87 (by rfl) ?_
      refine aw_bipushZ dX0_takeDigit_89 (by decide) ?_
      refine aw_lshrZ 31 dX0_takeDigit_91 (by rfl) (by decide) (by omega) ?_
      rw [e31]
      refine aw_lstore dX0_takeDigit_92 (by decide) ?_
      refine aw_iincZ dX0_takeDigit_94 (by rfl) (by decide) ?_
      refine aw_goto (tgt := 27) dX0_takeDigit_97 (by decide) ?_
      refine aw_pk [11, 9, 7, 6, 5, 1, 2, 3] (by rfl) ?_
      rw [show ((k : Int) + 1) = ((k + 1 : Nat) : Int) by omega]
      exact IH
theorem td_loop2 (g : GX) (d : Nat) {V0 : AH} {sz r dv nr prr Lr nd pd Ld j n : Nat} {sr sd q : Int} {X0 Vd : Nat → Int} {Q : AQ} (hpd : dv ≠ prr) (hpp : pd ≠ prr) (hjn : j + n < Lr) (hn : n ≤ Ld)
    (hK : ∀ (V : AH) (Y : Nat → Int) (c : Int), Whl g V r sr nr prr Lr Y → mg 2147483648 (wn Y j) n + c * 2147483648 ^ n = mg 2147483648 (wn X0 j) n + mg 2147483648 Vd n → (0 ≤ c ∧ c ≤ 1) → (∀ i, i < j ∨ j + n ≤ i → Y i = X0 i) → Fr1 V0 V prr → Q (some (.int (iZ (q - 1)))) V sz 0 0) : ∀ (i k : Nat), k + i = n → ∀ {V : AH} {Y : Nat → Int} {c : Int}, Whl g V r sr nr prr Lr Y → Whl g V dv sd nd pd Ld Vd → mg 2147483648 (wn Y j) k + c * 2147483648 ^ k = mg 2147483648 (wn X0 j) k + mg 2147483648 Vd k → (0 ≤ c ∧ c ≤ 1) → (∀ i, i < j ∨ j + k ≤ i → Y i = X0 i) → Fr1 V0 V prr → AW g mX0_takeDigit d 127 [(11, .int (iZ k)), (7, .long (jZ c)), (6, .ref pd), (5, .ref prr), (1, .int (iZ j)), (2, .int (iZ n)), (3, .long (jZ q))] [] V sz Q
  | 0, k, hi, V, Y, c, hR, hVd, hinv, hc, heq, hfr => by
    obtain rfl : n = k := by omega
    obtain ⟨hr, hrp, hrq, hr4, hr5, hr6, hX⟩ := id hR
    obtain ⟨hd, hdp, hdq, hd4, hd5, hd6, hVt⟩ := id hVd
    refine aw_iload dX0_takeDigit_127 (by rfl) ?_
    refine aw_iload_n dX0_takeDigit_129 (by rfl) ?_
    refine aw_icmp_geZ (tgt := 180) dX0_takeDigit_130 (by decide) (by omega) (by omega) (fun hc_130 => ?_) (fun hc_130 => ?_)
    · refine aw_lload_n dX0_takeDigit_180 (by rfl) ?_
      refine aw_lconstZ (z := 1) dX0_takeDigit_181 (by decide) ?_
      refine aw_lsubZ dX0_takeDigit_182 ?_
      refine aw_l2iZ dX0_takeDigit_183 ?_
      refine aw_iret dX0_takeDigit_184 rfl (by rfl) ?_
      exact hK V Y c hR hinv hc heq hfr
    · exact absurd hc_130 (by omega)
  | i + 1, k, hi, V, Y, c, hR, hVd, hinv, hc, heq, hfr => by
    obtain ⟨hr, hrp, hrq, hr4, hr5, hr6, hX⟩ := id hR
    obtain ⟨hd, hdp, hdq, hd4, hd5, hd6, hVt⟩ := id hVd
    have e31 : (2 : Int) ^ 31 = 2147483648 := by decide
    have hYk : Y (j + k) = wn X0 j k := heq (j + k) (Or.inr (Nat.le_refl _))
    have hXk := hX (j + k) (by omega)
    have hXk2 : 0 ≤ wn X0 j k ∧ wn X0 j k < 2147483648 := by rw [← hYk]; exact hXk
    have hVk := hVt k (by omega)
    have hbd := td_add (X := wn X0 j) (Y := wn Y j) (Vd := Vd) hinv hc hXk2 hVk
    have hst := hbd.2.2.2
    rw [← wn_upF] at hst
    have IH := td_loop2 g d (V0 := V0) (sz := sz) (sd := sd) (nd := nd) hpd hpp hjn hn hK i (k + 1) (by omega) (hR.arr (upF_lim hX hbd.2.1)) (hVd.kept (AHu_ne hpd) (AHu_ne hpp)) hst hbd.2.2.1 (fun i hi => by rw [upF_ne _ _ (by omega)]; exact heq i (by omega)) hfr.upd
    have hbd := And.intro hbd.1 hbd.2.1
    clear hinv hst hK heq hfr
    refine aw_iload dX0_takeDigit_127 (by rfl) ?_
    refine aw_iload_n dX0_takeDigit_129 (by rfl) ?_
    refine aw_icmp_geZ (tgt := 180) dX0_takeDigit_130 (by decide) (by omega) (by omega) (fun hc_130 => ?_) (fun hc_130 => ?_)
    · exact absurd hc_130 (by omega)
    · refine aw_lload dX0_takeDigit_133 (by rfl) ?_
      refine aw_aload dX0_takeDigit_135 (by rfl) (Or.inr ⟨_, rfl⟩) ?_
      refine aw_iload_n dX0_takeDigit_137 (by rfl) ?_
      refine aw_iload dX0_takeDigit_138 (by rfl) ?_
      refine aw_iaddZ dX0_takeDigit_140 ?_
      refine aw_ialdZ (j + k) dX0_takeDigit_141 (by assumption) (by omega) (by omega) (by omega) ?_
      refine aw_i2lZ dX0_takeDigit_142 (by omega) ?_
      refine aw_aload dX0_takeDigit_143 (by rfl) (Or.inr ⟨_, rfl⟩) ?_
      refine aw_iload dX0_takeDigit_145 (by rfl) ?_
      refine aw_ialdZ (k) dX0_takeDigit_147 (by assumption) (by omega) (by omega) (by omega) ?_
      refine aw_i2lZ dX0_takeDigit_148 (by omega) ?_
      refine aw_laddZ dX0_takeDigit_149 ?_
      refine aw_laddZ dX0_takeDigit_150 ?_
      refine aw_topl (y := c + (wn X0 j k + Vd k)) (by rw [← hYk]) ?_
      refine aw_lstore dX0_takeDigit_151 (by decide) ?_
      refine aw_aload dX0_takeDigit_153 (by rfl) (Or.inr ⟨_, rfl⟩) ?_
      refine aw_iload_n dX0_takeDigit_155 (by rfl) ?_
      refine aw_iload dX0_takeDigit_156 (by rfl) ?_
      refine aw_iaddZ dX0_takeDigit_158 ?_
      refine aw_lload dX0_takeDigit_159 (by rfl) ?_
      refine aw_ldc2Z (z := 2147483647) qX0_96 dX0_takeDigit_161 (by decide) ?_
      refine aw_landM 31 dX0_takeDigit_164 (by decide) (by decide) ?_
      rw [e31]
      refine aw_l2iZ dX0_takeDigit_165 ?_
      refine aw_iastZ (j + k) dX0_takeDigit_166 (by assumption) (by omega) (by omega) (by omega) ?_
      refine aw_lload dX0_takeDigit_167 (by rfl) ?_
      refine aw_bipushZ dX0_takeDigit_169 (by decide) ?_
      refine aw_lshrZ 31 dX0_takeDigit_171 (by rfl) (by decide) hbd.1 ?_
      rw [e31]
      refine aw_lstore dX0_takeDigit_172 (by decide) ?_
      refine aw_iincZ dX0_takeDigit_174 (by rfl) (by decide) ?_
      refine aw_goto (tgt := 127) dX0_takeDigit_177 (by decide) ?_
      refine aw_pk [11, 7, 6, 5, 1, 2, 3] (by rfl) ?_
      rw [show ((k : Int) + 1) = ((k + 1 : Nat) : Int) by omega]
      exact IH
theorem td_end {x t P v W q : Int} (hx : 0 ≤ x ∧ x < P) (hv : v < P) (he : x + t * P = W - q * v) (hW : W < (q + 1) * v) (hq : (q - 1) * v ≤ W) : (0 ≤ t → x = W - q * v ∧ x < v) ∧ (t < 0 → x = W - q * v + P ∧ - v ≤ W - q * v ∧ W - q * v < 0) := by
  rw [Int.add_mul, Int.one_mul] at hW
  rw [Int.sub_mul, Int.one_mul] at hq
  refine ⟨fun h => ?_, fun h => ?_⟩
  · have : t = 0 := by
      rcases Int.lt_or_le 0 t with h1 | h1
      · have : 1 * P ≤ t * P := Int.mul_le_mul_of_nonneg_right (by omega) (by omega)
        omega
      · omega
    subst this
    rw [Int.zero_mul] at he
    omega
  · have : t = -1 := by
      rcases Int.lt_or_le t (-1) with h1 | h1
      · have : t * P ≤ (-2) * P := Int.mul_le_mul_of_nonneg_right (by omega) (by omega)
        omega
      · omega
    subst this
    omega
theorem td_mid (g : GX) (d : Nat) {V0 V : AH} {sz r dv nr prr Lr nd pd Ld j n : Nat} {sr sd q v W b c : Int} {U Vd X : Nat → Int} (hpd : dv ≠ prr) (hpp : pd ≠ prr) (hjn : j + n < Lr) (hn : n ≤ Ld) (hq : 0 ≤ q ∧ q ≤ 2147483648) (hv : v = mg 2147483648 Vd n) (hWd : W = mg 2147483648 (wn U j) n + U (j + n) * 2147483648 ^ n) (hWq : W < (q + 1) * v) (hWp : (q - 1) * v ≤ W) (hWB : W < v * 2147483648) (hvP : v < 2147483648 ^ n) (hv0 : 0 ≤ v) (hW0 : 0 ≤ W) (hR : Whl g V r sr nr prr Lr X) (hVd : Whl g V dv sd nd pd Ld Vd) (hinv : mg 2147483648 (wn X j) n + (b - c) * 2147483648 ^ n = mg 2147483648 (wn U j) n - q * mg 2147483648 Vd n) (hb : b = -1 ∨ b = 0) (hc : 0 ≤ c ∧ c < 2147483648) (heq : ∀ i, i < j ∨ j + n ≤ i → X i = U i) (hfr : Fr1 V0 V prr) : AW g mX0_takeDigit d 100 [(9, .long (jZ b)), (7, .long (jZ c)), (6, .ref pd), (5, .ref prr), (1, .int (iZ j)), (2, .int (iZ n)), (3, .long (jZ q))] [] V sz (TDP g V0 sz r sr nr prr Lr j n U v W) := by
  obtain ⟨hr, hrp, hrq, hr4, hr5, hr6, hX⟩ := id hR
  obtain ⟨hd, hdp, hdq, hd4, hd5, hd6, hVt⟩ := id hVd
  have hXn := hX (j + n) (by omega)
  have hUn : X (j + n) = U (j + n) := heq (j + n) (Or.inr (Nat.le_refl _))
  have hxb := mg_bd (show (0 : Int) < 2147483648 by omega) (F := wn X j) (n := n) (fun k hk => hX (j + k) (by omega))
  have he : mg 2147483648 (wn X j) n + (b - c + U (j + n)) * 2147483648 ^ n = W - q * v := by
    rw [Int.add_mul, hWd, hv]
    generalize (2147483648 : Int) ^ n = P at hinv ⊢
    omega
  have hend := td_end hxb hvP he hWq hWp
  have POS : 0 ≤ b - c + U (j + n) → TDP g V0 sz r sr nr prr Lr j n U v W (some (.int (iZ q))) V sz 0 0 := fun h => by
    obtain ⟨h1, h2⟩ := hend.1 h
    refine ⟨⟨q, X, rfl, ⟨hq.1, ?_⟩, by omega, h2, heq, hR⟩, hfr, rfl, rfl, rfl⟩
    rcases Int.lt_or_le q 2147483648 with h3 | h3
    · exact h3
    · have : 2147483648 * v ≤ q * v := Int.mul_le_mul_of_nonneg_right h3 hv0
      omega
  have NEG : b + X (j + n) - c < 0 → AW g mX0_takeDigit d 127 [(11, .int (iZ (0 : Nat))), (7, .long (jZ 0)), (6, .ref pd), (5, .ref prr), (1, .int (iZ j)), (2, .int (iZ n)), (3, .long (jZ q))] [] V sz (TDP g V0 sz r sr nr prr Lr j n U v W) := fun h => by
    obtain ⟨h1, h2, h3⟩ := hend.2 (by omega)
    refine td_loop2 g d (V0 := V0) (X0 := X) (sd := sd) (nd := nd) hpd hpp hjn hn (fun V2 Y c2 b1 b2 b3 b4 b5 => ?_) n 0 (by omega) (c := 0) hR hVd (by simp [mg]) (by omega) (fun _ _ => rfl) hfr
    have hyb := mg_bd (show (0 : Int) < 2147483648 by omega) (F := wn Y j) (n := n) (fun k hk => b1.2.2.2.2.2.2 (j + k) (by omega))
    rw [h1, ← hv] at b2
    have hmy : mg 2147483648 (wn Y j) n = W - q * v + v := by
      generalize (2147483648 : Int) ^ n = P at b2 hyb hvP
      rcases (show c2 = 0 ∨ c2 = 1 by omega) with h4 | h4
      · subst h4
        omega
      · subst h4
        omega
    refine ⟨⟨q - 1, Y, rfl, ⟨?_, ?_⟩, ?_, by omega, fun i hi => by rw [b4 i hi]; exact heq i hi, b1⟩, b5, rfl, rfl, rfl⟩
    · rcases Int.lt_or_le q 1 with h4 | h4
      · have : q = 0 := by omega
        subst this
        rw [Int.zero_mul] at h3
        omega
      · omega
    · omega
    · rw [hmy, Int.sub_mul]; omega
  clear hend he hinv hWd hWq hWp hWB hxb heq
  refine aw_lload dX0_takeDigit_100 (by rfl) ?_
  refine aw_aload dX0_takeDigit_102 (by rfl) (Or.inr ⟨_, rfl⟩) ?_
  refine aw_iload_n dX0_takeDigit_104 (by rfl) ?_
  refine aw_iload_n dX0_takeDigit_105 (by rfl) ?_
  refine aw_iaddZ dX0_takeDigit_106 ?_
  refine aw_ialdZ (j + n) dX0_takeDigit_107 (by assumption) (by omega) (by omega) (by omega) ?_
  refine aw_i2lZ dX0_takeDigit_108 (by omega) ?_
  refine aw_laddZ dX0_takeDigit_109 ?_
  refine aw_lload dX0_takeDigit_110 (by rfl) ?_
  refine aw_lsubZ dX0_takeDigit_112 ?_
  refine aw_lconstZ (z := 0) dX0_takeDigit_113 (by decide) ?_
  refine aw_lcmpZ dX0_takeDigit_114 (by omega) (by omega) ?_
  refine aw_if_ltZ (tgt := 121) dX0_takeDigit_115 (by decide) (cmpZ_R _ _) (fun hc_115 => ?_) (fun hc_115 => ?_)
  · have hneg := cmpZ_lt.mp hc_115
    refine aw_lconstZ (z := 0) dX0_takeDigit_121 (by decide) ?_
    refine aw_lstore dX0_takeDigit_122 (by decide) ?_
    refine aw_iconstZ dX0_takeDigit_124 ?_
    refine aw_istore dX0_takeDigit_125 (by decide) ?_
    exact aw_pk [11, 7, 6, 5, 1, 2, 3] (by rfl) (NEG hneg)
  · have hnn : ¬ b + X (j + n) - c < 0 := fun h => hc_115 (cmpZ_lt.mpr h)
    refine aw_lload_n dX0_takeDigit_118 (by rfl) ?_
    refine aw_l2iZ dX0_takeDigit_119 ?_
    refine aw_iret dX0_takeDigit_120 rfl (by rfl) ?_
    exact POS (by omega)
theorem t_takeDigit (g : GX) (d : Nat) {V : AH} {sz dk r dv on gr sm fa pr nr prr Lr nd pd Ld j n : Nat} {sr sd q v W : Int} {U Vd : Nat → Int} (hdk : V dk = some (dkO r dv on gr sm fa pr)) (hR : Whl g V r sr nr prr Lr U) (hVd : Whl g V dv sd nd pd Ld Vd) (hpd : dv ≠ prr) (hpp : pd ≠ prr) (hjn : j + n < Lr) (hn : n ≤ Ld) (hq : 0 ≤ q ∧ q ≤ 2147483648) (hv : v = mg 2147483648 Vd n) (hWd : W = mg 2147483648 (wn U j) n + U (j + n) * 2147483648 ^ n) (hWq : W < (q + 1) * v) (hWp : (q - 1) * v ≤ W) (hWB : W < v * 2147483648) : AMet g mX0_takeDigit d [.ref dk, .int (iZ j), .int (iZ n), .long (jZ q)] V sz (TDP g V sz r sr nr prr Lr j n U v W) := by
  obtain ⟨hr, hrp, hrq, hr4, hr5, hr6, hU⟩ := id hR
  obtain ⟨hd, hdp, hdq, hd4, hd5, hd6, hVt⟩ := id hVd
  have hvP : v < 2147483648 ^ n := by rw [hv]; exact (mg_bd (by omega) (fun k hk => hVt k (by omega))).2
  have hv0 : 0 ≤ v := by rw [hv]; exact (mg_bd (by omega) (fun k hk => hVt k (by omega))).1
  have hW0 : 0 ≤ W := by
    have h1 := (mg_bd (show (0 : Int) < 2147483648 by omega) (F := wn U j) (n := n) (fun k hk => hU (j + k) (by omega))).1
    have h2 : 0 ≤ U (j + n) * 2147483648 ^ n := Int.mul_nonneg (hU (j + n) (by omega)).1 (Int.le_of_lt (pw_pos (by omega) n))
    omega
  have MID : ∀ (V1 : AH) (X : Nat → Int) (b c : Int), Whl g V1 r sr nr prr Lr X → Whl g V1 dv sd nd pd Ld Vd → mg 2147483648 (wn X j) n + (b - c) * 2147483648 ^ n = mg 2147483648 (wn U j) n - q * mg 2147483648 Vd n → (b = -1 ∨ b = 0) → (0 ≤ c ∧ c < 2147483648) → (∀ i, i < j ∨ j + n ≤ i → X i = U i) → Fr1 V V1 prr → AW g mX0_takeDigit d 100 [(9, .long (jZ b)), (7, .long (jZ c)), (6, .ref pd), (5, .ref prr), (1, .int (iZ j)), (2, .int (iZ n)), (3, .long (jZ q))] [] V1 sz (TDP g V sz r sr nr prr Lr j n U v W) := by
    intro V1 X b c a1 a2 a3 a4 a5 a6 a7
    exact td_mid g d hpd hpp hjn hn hq hv hWd hWq hWp hWB hvP hv0 hW0 a1 a2 a3 a4 a5 a6 a7
  refine AMet.of rfl rfl (Nat.le_of_ble_eq_true rfl) ?_
  show AW g mX0_takeDigit d 0 [(0, .ref dk), (1, .int (iZ j)), (2, .int (iZ n)), (3, .long (jZ q))] [] V sz _
  refine aw_aload_n dX0_takeDigit_0 (by rfl) (Or.inr ⟨_, rfl⟩) ?_
  refine aw_get fX0_12 dX0_takeDigit_1 (by assumption) (by rfl) ?_
  refine aw_get fX0_67 dX0_takeDigit_4 (by assumption) (by rfl) ?_
  refine aw_astore dX0_takeDigit_7 (by decide) (Or.inr ⟨_, rfl⟩) ?_
  refine aw_aload_n dX0_takeDigit_9 (by rfl) (Or.inr ⟨_, rfl⟩) ?_
  refine aw_get fX0_18 dX0_takeDigit_10 (by assumption) (by rfl) ?_
  refine aw_get fX0_67 dX0_takeDigit_13 (by assumption) (by rfl) ?_
  refine aw_astore dX0_takeDigit_16 (by decide) (Or.inr ⟨_, rfl⟩) ?_
  refine aw_lconstZ (z := 0) dX0_takeDigit_18 (by decide) ?_
  refine aw_lstore dX0_takeDigit_19 (by decide) ?_
  refine aw_lconstZ (z := 0) dX0_takeDigit_21 (by decide) ?_
  refine aw_lstore dX0_takeDigit_22 (by decide) ?_
  refine aw_iconstZ dX0_takeDigit_24 ?_
  refine aw_istore dX0_takeDigit_25 (by decide) ?_
  exact aw_pk [11, 9, 7, 6, 5, 1, 2, 3] (by rfl) (td_loop1 g d (V0 := V) hpd hpp hjn hn hq MID n 0 (by omega) (b := 0) (c := 0) hR hVd (by simp [mg]) (Or.inr rfl) (by omega) (fun _ _ => rfl) Fr1.rf)

/-! ===== the reference: minor ===== -/
theorem fc5 : ∀ n : Fin 6, fcN n ≤ 120 := by decide +kernel
theorem fcN_up {n : Nat} (hn : 1 ≤ n) : fcN n = fcN (n - 1) * n := by
  obtain ⟨m, rfl⟩ : ∃ m, n = m + 1 := ⟨n - 1, by omega⟩
  show (m + 1) * fcN m = fcN (m + 1 - 1) * (m + 1)
  rw [show m + 1 - 1 = m by omega, Nat.mul_comm]
abbrev mX6_minor : MI := (yX6_minor, cX6_minor, 16, (some FieldType.long), noX)
theorem dX6_minor_0 : decode cX6_minor 0 = .ok (.lconst 0, 1) := by decide +kernel
theorem dX6_minor_1 : decode cX6_minor 1 = .ok (.lstore_n 3, 1) := by decide +kernel
theorem dX6_minor_2 : decode cX6_minor 2 = .ok (.iconst 1, 1) := by decide +kernel
theorem dX6_minor_3 : decode cX6_minor 3 = .ok (.istore 5, 2) := by decide +kernel
theorem dX6_minor_5 : decode cX6_minor 5 = .ok (.iconst 2, 1) := by decide +kernel
theorem dX6_minor_6 : decode cX6_minor 6 = .ok (.istore 6, 2) := by decide +kernel
theorem dX6_minor_8 : decode cX6_minor 8 = .ok (.iload 6, 2) := by decide +kernel
theorem dX6_minor_10 : decode cX6_minor 10 = .ok (.iload_n 2, 1) := by decide +kernel
theorem dX6_minor_11 : decode cX6_minor 11 = .ok (.if_icmp .gt 16, 3) := by decide +kernel
theorem dX6_minor_14 : decode cX6_minor 14 = .ok (.iload 5, 2) := by decide +kernel
theorem dX6_minor_16 : decode cX6_minor 16 = .ok (.iload 6, 2) := by decide +kernel
theorem dX6_minor_18 : decode cX6_minor 18 = .ok (.imul, 1) := by decide +kernel
theorem dX6_minor_19 : decode cX6_minor 19 = .ok (.istore 5, 2) := by decide +kernel
theorem dX6_minor_21 : decode cX6_minor 21 = .ok (.iinc 6 1, 3) := by decide +kernel
theorem dX6_minor_24 : decode cX6_minor 24 = .ok (.goto (-16), 3) := by decide +kernel
theorem dX6_minor_27 : decode cX6_minor 27 = .ok (.iconst 0, 1) := by decide +kernel
theorem dX6_minor_28 : decode cX6_minor 28 = .ok (.istore 6, 2) := by decide +kernel
theorem dX6_minor_30 : decode cX6_minor 30 = .ok (.iload 6, 2) := by decide +kernel
theorem dX6_minor_32 : decode cX6_minor 32 = .ok (.iload 5, 2) := by decide +kernel
theorem dX6_minor_34 : decode cX6_minor 34 = .ok (.if_icmp .ge 175, 3) := by decide +kernel
theorem dX6_minor_37 : decode cX6_minor 37 = .ok (.iload 6, 2) := by decide +kernel
theorem dX6_minor_39 : decode cX6_minor 39 = .ok (.istore 7, 2) := by decide +kernel
theorem dX6_minor_41 : decode cX6_minor 41 = .ok (.iconst 1, 1) := by decide +kernel
theorem dX6_minor_42 : decode cX6_minor 42 = .ok (.iload_n 2, 1) := by decide +kernel
theorem dX6_minor_43 : decode cX6_minor 43 = .ok (.ishl, 1) := by decide +kernel
theorem dX6_minor_44 : decode cX6_minor 44 = .ok (.iconst 1, 1) := by decide +kernel
theorem dX6_minor_45 : decode cX6_minor 45 = .ok (.isub, 1) := by decide +kernel
theorem dX6_minor_46 : decode cX6_minor 46 = .ok (.istore 8, 2) := by decide +kernel
theorem dX6_minor_48 : decode cX6_minor 48 = .ok (.lconst 1, 1) := by decide +kernel
theorem dX6_minor_49 : decode cX6_minor 49 = .ok (.lstore 9, 2) := by decide +kernel
theorem dX6_minor_51 : decode cX6_minor 51 = .ok (.iconst 0, 1) := by decide +kernel
theorem dX6_minor_52 : decode cX6_minor 52 = .ok (.istore 11, 2) := by decide +kernel
theorem dX6_minor_54 : decode cX6_minor 54 = .ok (.iload 11, 2) := by decide +kernel
theorem dX6_minor_56 : decode cX6_minor 56 = .ok (.iload_n 2, 1) := by decide +kernel
theorem dX6_minor_57 : decode cX6_minor 57 = .ok (.if_icmp .ge 141, 3) := by decide +kernel
theorem dX6_minor_60 : decode cX6_minor 60 = .ok (.iconst 1, 1) := by decide +kernel
theorem dX6_minor_61 : decode cX6_minor 61 = .ok (.istore 12, 2) := by decide +kernel
theorem dX6_minor_63 : decode cX6_minor 63 = .ok (.iconst 2, 1) := by decide +kernel
theorem dX6_minor_64 : decode cX6_minor 64 = .ok (.istore 13, 2) := by decide +kernel
theorem dX6_minor_66 : decode cX6_minor 66 = .ok (.iload 13, 2) := by decide +kernel
theorem dX6_minor_68 : decode cX6_minor 68 = .ok (.iload_n 2, 1) := by decide +kernel
theorem dX6_minor_69 : decode cX6_minor 69 = .ok (.iload 11, 2) := by decide +kernel
theorem dX6_minor_71 : decode cX6_minor 71 = .ok (.isub, 1) := by decide +kernel
theorem dX6_minor_72 : decode cX6_minor 72 = .ok (.if_icmp .ge 16, 3) := by decide +kernel
theorem dX6_minor_75 : decode cX6_minor 75 = .ok (.iload 12, 2) := by decide +kernel
theorem dX6_minor_77 : decode cX6_minor 77 = .ok (.iload 13, 2) := by decide +kernel
theorem dX6_minor_79 : decode cX6_minor 79 = .ok (.imul, 1) := by decide +kernel
theorem dX6_minor_80 : decode cX6_minor 80 = .ok (.istore 12, 2) := by decide +kernel
theorem dX6_minor_82 : decode cX6_minor 82 = .ok (.iinc 13 1, 3) := by decide +kernel
theorem dX6_minor_85 : decode cX6_minor 85 = .ok (.goto (-19), 3) := by decide +kernel
theorem dX6_minor_88 : decode cX6_minor 88 = .ok (.iload 7, 2) := by decide +kernel
theorem dX6_minor_90 : decode cX6_minor 90 = .ok (.iload 12, 2) := by decide +kernel
theorem dX6_minor_92 : decode cX6_minor 92 = .ok (.idiv, 1) := by decide +kernel
theorem dX6_minor_93 : decode cX6_minor 93 = .ok (.istore 13, 2) := by decide +kernel
theorem dX6_minor_95 : decode cX6_minor 95 = .ok (.iload 7, 2) := by decide +kernel
theorem dX6_minor_97 : decode cX6_minor 97 = .ok (.iload 12, 2) := by decide +kernel
theorem dX6_minor_99 : decode cX6_minor 99 = .ok (.irem, 1) := by decide +kernel
theorem dX6_minor_100 : decode cX6_minor 100 = .ok (.istore 7, 2) := by decide +kernel
theorem dX6_minor_102 : decode cX6_minor 102 = .ok (.iconst 0, 1) := by decide +kernel
theorem dX6_minor_103 : decode cX6_minor 103 = .ok (.istore 14, 2) := by decide +kernel
theorem dX6_minor_105 : decode cX6_minor 105 = .ok (.iconst 0, 1) := by decide +kernel
theorem dX6_minor_106 : decode cX6_minor 106 = .ok (.istore 15, 2) := by decide +kernel
theorem dX6_minor_108 : decode cX6_minor 108 = .ok (.iload 8, 2) := by decide +kernel
theorem dX6_minor_110 : decode cX6_minor 110 = .ok (.iload 14, 2) := by decide +kernel
theorem dX6_minor_112 : decode cX6_minor 112 = .ok (.ishr, 1) := by decide +kernel
theorem dX6_minor_113 : decode cX6_minor 113 = .ok (.iconst 1, 1) := by decide +kernel
theorem dX6_minor_114 : decode cX6_minor 114 = .ok (.iand, 1) := by decide +kernel
theorem dX6_minor_115 : decode cX6_minor 115 = .ok (.ifCond .eq 10, 3) := by decide +kernel
theorem dX6_minor_118 : decode cX6_minor 118 = .ok (.iload 15, 2) := by decide +kernel
theorem dX6_minor_120 : decode cX6_minor 120 = .ok (.iload 13, 2) := by decide +kernel
theorem dX6_minor_122 : decode cX6_minor 122 = .ok (.if_icmp .ge 23, 3) := by decide +kernel
theorem dX6_minor_125 : decode cX6_minor 125 = .ok (.iload 8, 2) := by decide +kernel
theorem dX6_minor_127 : decode cX6_minor 127 = .ok (.iload 14, 2) := by decide +kernel
theorem dX6_minor_129 : decode cX6_minor 129 = .ok (.ishr, 1) := by decide +kernel
theorem dX6_minor_130 : decode cX6_minor 130 = .ok (.iconst 1, 1) := by decide +kernel
theorem dX6_minor_131 : decode cX6_minor 131 = .ok (.iand, 1) := by decide +kernel
theorem dX6_minor_132 : decode cX6_minor 132 = .ok (.iconst 1, 1) := by decide +kernel
theorem dX6_minor_133 : decode cX6_minor 133 = .ok (.if_icmp .ne 6, 3) := by decide +kernel
theorem dX6_minor_136 : decode cX6_minor 136 = .ok (.iinc 15 1, 3) := by decide +kernel
theorem dX6_minor_139 : decode cX6_minor 139 = .ok (.iinc 14 1, 3) := by decide +kernel
theorem dX6_minor_142 : decode cX6_minor 142 = .ok (.goto (-34), 3) := by decide +kernel
theorem dX6_minor_145 : decode cX6_minor 145 = .ok (.iload 8, 2) := by decide +kernel
theorem dX6_minor_147 : decode cX6_minor 147 = .ok (.iconst 1, 1) := by decide +kernel
theorem dX6_minor_148 : decode cX6_minor 148 = .ok (.iload 14, 2) := by decide +kernel
theorem dX6_minor_150 : decode cX6_minor 150 = .ok (.ishl, 1) := by decide +kernel
theorem dX6_minor_151 : decode cX6_minor 151 = .ok (.isub, 1) := by decide +kernel
theorem dX6_minor_152 : decode cX6_minor 152 = .ok (.istore 8, 2) := by decide +kernel
theorem dX6_minor_154 : decode cX6_minor 154 = .ok (.lload 9, 2) := by decide +kernel
theorem dX6_minor_156 : decode cX6_minor 156 = .ok (.iload 13, 2) := by decide +kernel
theorem dX6_minor_158 : decode cX6_minor 158 = .ok (.iconst 2, 1) := by decide +kernel
theorem dX6_minor_159 : decode cX6_minor 159 = .ok (.irem, 1) := by decide +kernel
theorem dX6_minor_160 : decode cX6_minor 160 = .ok (.ifCond .ne 7, 3) := by decide +kernel
theorem dX6_minor_163 : decode cX6_minor 163 = .ok (.iconst 1, 1) := by decide +kernel
theorem dX6_minor_164 : decode cX6_minor 164 = .ok (.goto 4, 3) := by decide +kernel
theorem dX6_minor_167 : decode cX6_minor 167 = .ok (.iconst (-1), 1) := by decide +kernel
theorem dX6_minor_168 : decode cX6_minor 168 = .ok (.aload_n 0, 1) := by decide +kernel
theorem dX6_minor_169 : decode cX6_minor 169 = .ok (.iload_n 1, 1) := by decide +kernel
theorem dX6_minor_170 : decode cX6_minor 170 = .ok (.aload_n 0, 1) := by decide +kernel
theorem dX6_minor_171 : decode cX6_minor 171 = .ok (.getfield 49, 3) := by decide +kernel
theorem dX6_minor_174 : decode cX6_minor 174 = .ok (.iload 11, 2) := by decide +kernel
theorem dX6_minor_176 : decode cX6_minor 176 = .ok (.iaload, 1) := by decide +kernel
theorem dX6_minor_177 : decode cX6_minor 177 = .ok (.aload_n 0, 1) := by decide +kernel
theorem dX6_minor_178 : decode cX6_minor 178 = .ok (.getfield 52, 3) := by decide +kernel
theorem dX6_minor_181 : decode cX6_minor 181 = .ok (.iload 14, 2) := by decide +kernel
theorem dX6_minor_183 : decode cX6_minor 183 = .ok (.iaload, 1) := by decide +kernel
theorem dX6_minor_184 : decode cX6_minor 184 = .ok (.invokevirtual 148, 3) := by decide +kernel
theorem dX6_minor_187 : decode cX6_minor 187 = .ok (.imul, 1) := by decide +kernel
theorem dX6_minor_188 : decode cX6_minor 188 = .ok (.i2l, 1) := by decide +kernel
theorem dX6_minor_189 : decode cX6_minor 189 = .ok (.lmul, 1) := by decide +kernel
theorem dX6_minor_190 : decode cX6_minor 190 = .ok (.lstore 9, 2) := by decide +kernel
theorem dX6_minor_192 : decode cX6_minor 192 = .ok (.iinc 11 1, 3) := by decide +kernel
theorem dX6_minor_195 : decode cX6_minor 195 = .ok (.goto (-141), 3) := by decide +kernel
theorem dX6_minor_198 : decode cX6_minor 198 = .ok (.lload_n 3, 1) := by decide +kernel
theorem dX6_minor_199 : decode cX6_minor 199 = .ok (.lload 9, 2) := by decide +kernel
theorem dX6_minor_201 : decode cX6_minor 201 = .ok (.ladd, 1) := by decide +kernel
theorem dX6_minor_202 : decode cX6_minor 202 = .ok (.lstore_n 3, 1) := by decide +kernel
theorem dX6_minor_203 : decode cX6_minor 203 = .ok (.iinc 6 1, 3) := by decide +kernel
theorem dX6_minor_206 : decode cX6_minor 206 = .ok (.goto (-176), 3) := by decide +kernel
theorem dX6_minor_209 : decode cX6_minor 209 = .ok (.lload_n 3, 1) := by decide +kernel
theorem dX6_minor_210 : decode cX6_minor 210 = .ok (.lreturn, 1) := by decide +kernel
theorem mi_all (d : Nat) {g : GX} {V : AH} {mo sz t k : Nat} {Q : AQ} (hk : k ≤ 5) (hKK : AW g mX6_minor d 27 [(5, .int (iZ (fcN k : Nat))), (3, .long (jZ 0)), (0, .ref mo), (1, .int (iZ (t : Int))), (2, .int (iZ (k : Int)))] [] V sz Q) : ∀ (f i al : Nat), (i + f = k + 1 ∧ 2 ≤ i ∧ i ≤ k + 1 ∨ f = 0 ∧ i = 2 ∧ k ≤ 1) → 2 ≤ i → al = fcN (i - 1) → AW g mX6_minor d 8 [(6, .int (iZ (i : Int))), (5, .int (iZ (al : Int))), (3, .long (jZ 0)), (0, .ref mo), (1, .int (iZ (t : Int))), (2, .int (iZ (k : Int)))] [] V sz Q
  | 0, i, al, hf, h2, ha => by
    have hf : i = k + 1 ∨ (i = 2 ∧ k ≤ 1) := by omega
    have hi6 : i ≤ 6 := by omega
    refine aw_iload dX6_minor_8 (by rfl) ?_
    refine aw_iload_n dX6_minor_10 (by rfl) ?_
    refine aw_icmp_gtZ (tgt := 27) dX6_minor_11 (by decide) (by omega) (by omega) (fun hc_11 => ?_) (fun hc_11 => ?_)
    · have ea : al = fcN k := by
        rcases hf with h1 | ⟨h1, h2⟩
        · rw [ha, show i - 1 = k by omega]
        · rw [ha, h1]
          have : k = 0 ∨ k = 1 := by omega
          rcases this with rfl | rfl <;> rfl
      rw [ea]
      refine aw_pk [5, 3, 0, 1, 2] (by rfl) ?_
      exact hKK
    · exact absurd hc_11 (by omega)
  | f + 1, i, al, hf, h2, ha => by
    have IH := fun i al hi => @mi_all d g V mo sz t k Q hk hKK f i al hi
    refine aw_iload dX6_minor_8 (by rfl) ?_
    refine aw_iload_n dX6_minor_10 (by rfl) ?_
    refine aw_icmp_gtZ (tgt := 27) dX6_minor_11 (by decide) (by omega) (by omega) (fun hc_11 => ?_) (fun hc_11 => ?_)
    · exact absurd hc_11 (by omega)
    · refine aw_iload dX6_minor_14 (by rfl) ?_
      refine aw_iload dX6_minor_16 (by rfl) ?_
      refine aw_imulZ dX6_minor_18 ?_
      refine aw_istore dX6_minor_19 (by decide) ?_
      refine aw_iincZ dX6_minor_21 (by rfl) (by decide) ?_
      refine aw_goto (tgt := 8) dX6_minor_24 (by decide) ?_
      rw [show ((i : Int) + 1) = ((i + 1 : Nat) : Int) by omega, show ((al : Int) * (i : Int)) = ((al * i : Nat) : Int) by rw [Int.natCast_mul]]
      refine aw_pk [6, 5, 3, 0, 1, 2] (by rfl) ?_
      exact IH (i + 1) (al * i) (by omega) (by omega) (by rw [ha, show i + 1 - 1 = i by omega, fcN_up (n := i) (by omega)])
theorem mi_of (d : Nat) {g : GX} {V : AH} {mo sz t k : Nat} {Q : AQ} {i rest s od : Nat} {v sm : Int} (hk : k ≤ 5) (hi : i < k) (hKK : AW g mX6_minor d 88 [(12, .int (iZ (fcN (k - i - 1) : Nat))), (11, .int (iZ (i : Int))), (7, .int (iZ (rest : Int))), (8, .int (iZ (s : Int))), (9, .long (jZ v)), (6, .int (iZ (od : Int))), (5, .int (iZ (fcN k : Nat))), (3, .long (jZ sm)), (0, .ref mo), (1, .int (iZ (t : Int))), (2, .int (iZ (k : Int)))] [] V sz Q) : ∀ (f e al : Nat), (e + f = k - i ∧ 2 ≤ e ∨ f = 0 ∧ e = 2 ∧ k - i ≤ 1) → 2 ≤ e → al = fcN (e - 1) → AW g mX6_minor d 66 [(13, .int (iZ (e : Int))), (12, .int (iZ (al : Int))), (11, .int (iZ (i : Int))), (7, .int (iZ (rest : Int))), (8, .int (iZ (s : Int))), (9, .long (jZ v)), (6, .int (iZ (od : Int))), (5, .int (iZ (fcN k : Nat))), (3, .long (jZ sm)), (0, .ref mo), (1, .int (iZ (t : Int))), (2, .int (iZ (k : Int)))] [] V sz Q
  | 0, e, al, hf, h2, ha => by
    have hf : e = k - i ∨ (e = 2 ∧ k - i ≤ 1) := by omega
    have he6 : e ≤ 6 := by omega
    refine aw_iload dX6_minor_66 (by rfl) ?_
    refine aw_iload_n dX6_minor_68 (by rfl) ?_
    refine aw_iload dX6_minor_69 (by rfl) ?_
    refine aw_isubZ dX6_minor_71 ?_
    refine aw_icmp_geZ (tgt := 88) dX6_minor_72 (by decide) (by omega) (by omega) (fun hc_72 => ?_) (fun hc_72 => ?_)
    · have ea : al = fcN (k - i - 1) := by
        rcases hf with h1 | ⟨h1, h2⟩
        · rw [ha, show e - 1 = k - i - 1 by omega]
        · rw [ha, h1, show k - i - 1 = 0 by omega]; rfl
      rw [ea]
      refine aw_pk [12, 11, 7, 8, 9, 6, 5, 3, 0, 1, 2] (by rfl) ?_
      exact hKK
    · exact absurd hc_72 (by omega)
  | f + 1, e, al, hf, h2, ha => by
    have IH := fun e al he => @mi_of d g V mo sz t k Q i rest s od v sm hk hi hKK f e al he
    refine aw_iload dX6_minor_66 (by rfl) ?_
    refine aw_iload_n dX6_minor_68 (by rfl) ?_
    refine aw_iload dX6_minor_69 (by rfl) ?_
    refine aw_isubZ dX6_minor_71 ?_
    refine aw_icmp_geZ (tgt := 88) dX6_minor_72 (by decide) (by omega) (by omega) (fun hc_72 => ?_) (fun hc_72 => ?_)
    · exact absurd hc_72 (by omega)
    · refine aw_iload dX6_minor_75 (by rfl) ?_
      refine aw_iload dX6_minor_77 (by rfl) ?_
      refine aw_imulZ dX6_minor_79 ?_
      refine aw_istore dX6_minor_80 (by decide) ?_
      refine aw_iincZ dX6_minor_82 (by rfl) (by decide) ?_
      refine aw_goto (tgt := 66) dX6_minor_85 (by decide) ?_
      rw [show ((e : Int) + 1) = ((e + 1 : Nat) : Int) by omega, show ((al : Int) * (e : Int)) = ((al * e : Nat) : Int) by rw [Int.natCast_mul]]
      refine aw_pk [13, 12, 11, 7, 8, 9, 6, 5, 3, 0, 1, 2] (by rfl) ?_
      exact IH (e + 1) (al * e) (by omega) (by omega) (by rw [ha, show e + 1 - 1 = e by omega, fcN_up (n := e) (by omega)])
theorem rkb_le (s : Nat) : ∀ n, rkb s n ≤ n
  | 0 => Nat.le_refl _
  | n + 1 => by
    have h1 := rkb_le s n
    have h2 : s / 2 ^ n % 2 < 2 := Nat.mod_lt _ (by omega)
    show rkb s n + s / 2 ^ n % 2 ≤ n + 1
    omega
theorem mi_j (d : Nat) {g : GX} {V : AH} {mo sz t k : Nat} {Q : AQ} {i rest s od nth : Nat} {v sm : Int} (hs : s < 32) (hn5 : nth < 5) (hn : nth < rkb s 5) (hKK : AW g mX6_minor d 145 [(14, .int (iZ (psb s nth : Nat))), (13, .int (iZ (nth : Int))), (11, .int (iZ (i : Int))), (7, .int (iZ (rest : Int))), (8, .int (iZ (s : Int))), (9, .long (jZ v)), (6, .int (iZ (od : Int))), (5, .int (iZ (fcN k : Nat))), (3, .long (jZ sm)), (0, .ref mo), (1, .int (iZ (t : Int))), (2, .int (iZ (k : Int)))] [] V sz Q) : ∀ (f j : Nat), j + f = psb s nth → AW g mX6_minor d 108 [(14, .int (iZ (j : Int))), (15, .int (iZ (rkb s j : Nat))), (13, .int (iZ (nth : Int))), (11, .int (iZ (i : Int))), (7, .int (iZ (rest : Int))), (8, .int (iZ (s : Int))), (9, .long (jZ v)), (6, .int (iZ (od : Int))), (5, .int (iZ (fcN k : Nat))), (3, .long (jZ sm)), (0, .ref mo), (1, .int (iZ (t : Int))), (2, .int (iZ (k : Int)))] [] V sz Q
  | 0, j, hf => by
    obtain ⟨b1, b2, b3⟩ := bt14 ⟨s, hs⟩ ⟨nth, by omega⟩ hn
    have b1 : psb s nth < 5 := b1
    have b2 : s / 2 ^ psb s nth % 2 = 1 := b2
    have b3 : rkb s (psb s nth) = nth := b3
    have hj : j = psb s nth := by omega
    rw [← hj] at b2 b3 hKK
    refine aw_iload dX6_minor_108 (by rfl) ?_
    refine aw_iload dX6_minor_110 (by rfl) ?_
    refine aw_ishrZ j dX6_minor_112 rfl (by omega) (by omega) (by omega) ?_
    refine aw_iconstZ dX6_minor_113 ?_
    refine aw_iand1Z dX6_minor_114 ?_
    refine aw_topi (y := ((s / 2 ^ j % 2 : Nat) : Int)) (by rw [Int.natCast_emod, Int.natCast_ediv, Int.natCast_pow]; rfl) ?_
    refine aw_if_eqZ (tgt := 125) dX6_minor_115 (by decide) (by omega) (fun hc_115 => ?_) (fun hc_115 => ?_)
    · exact absurd hc_115 (by omega)
    · refine aw_iload dX6_minor_118 (by rfl) ?_
      refine aw_iload dX6_minor_120 (by rfl) ?_
      refine aw_icmp_geZ (tgt := 145) dX6_minor_122 (by decide) (by omega) (by omega) (fun hc_122 => ?_) (fun hc_122 => ?_)
      · refine aw_pk [14, 13, 11, 7, 8, 9, 6, 5, 3, 0, 1, 2] (by rfl) ?_
        exact hKK
      · exact absurd hc_122 (by omega)
  | f + 1, j, hf => by
    have IH := fun j hj => @mi_j d g V mo sz t k Q i rest s od nth v sm hs hn5 hn hKK f j hj
    have b5 : s / 2 ^ j % 2 = 0 ∨ rkb s j < nth := bt15 ⟨s, hs⟩ ⟨nth, by omega⟩ ⟨j, by have : psb s nth < 5 := (bt14 ⟨s, hs⟩ ⟨nth, by omega⟩ hn).1; omega⟩ hn (show j < psb s nth by omega)
    have b6 : s / 2 ^ j % 2 < 2 := Nat.mod_lt _ (by omega)
    have b7 : rkb s (j + 1) = rkb s j + s / 2 ^ j % 2 := rfl
    have b8 : psb s nth < 5 := (bt14 ⟨s, hs⟩ ⟨nth, by omega⟩ hn).1
    have b9 : rkb s j ≤ j := rkb_le s j
    refine aw_iload dX6_minor_108 (by rfl) ?_
    refine aw_iload dX6_minor_110 (by rfl) ?_
    refine aw_ishrZ j dX6_minor_112 rfl (by omega) (by omega) (by omega) ?_
    refine aw_iconstZ dX6_minor_113 ?_
    refine aw_iand1Z dX6_minor_114 ?_
    refine aw_topi (y := ((s / 2 ^ j % 2 : Nat) : Int)) (by rw [Int.natCast_emod, Int.natCast_ediv, Int.natCast_pow]; rfl) ?_
    refine aw_if_eqZ (tgt := 125) dX6_minor_115 (by decide) (by omega) (fun hc_115 => ?_) (fun hc_115 => ?_)
    · refine aw_iload dX6_minor_125 (by rfl) ?_
      refine aw_iload dX6_minor_127 (by rfl) ?_
      refine aw_ishrZ j dX6_minor_129 rfl (by omega) (by omega) (by omega) ?_
      refine aw_iconstZ dX6_minor_130 ?_
      refine aw_iand1Z dX6_minor_131 ?_
      refine aw_topi (y := ((s / 2 ^ j % 2 : Nat) : Int)) (by rw [Int.natCast_emod, Int.natCast_ediv, Int.natCast_pow]; rfl) ?_
      refine aw_iconstZ dX6_minor_132 ?_
      refine aw_icmp_neZ (tgt := 139) dX6_minor_133 (by decide) (by omega) (by omega) (fun hc_133 => ?_) (fun hc_133 => ?_)
      · refine aw_iincZ dX6_minor_139 (by rfl) (by decide) ?_
        refine aw_goto (tgt := 108) dX6_minor_142 (by decide) ?_
        rw [show ((j : Int) + 1) = ((j + 1 : Nat) : Int) by omega]
        first
        | rw [show ((rkb s j : Int) + 1) = ((rkb s (j + 1) : Nat) : Int) by omega]
        | rw [show (rkb s j) = rkb s (j + 1) by omega]
        refine aw_pk [14, 15, 13, 11, 7, 8, 9, 6, 5, 3, 0, 1, 2] (by rfl) ?_
        exact IH (j + 1) (by omega)
      · refine aw_iincZ dX6_minor_136 (by rfl) (by decide) ?_
        refine aw_iincZ dX6_minor_139 (by rfl) (by decide) ?_
        refine aw_goto (tgt := 108) dX6_minor_142 (by decide) ?_
        rw [show ((j : Int) + 1) = ((j + 1 : Nat) : Int) by omega]
        first
        | rw [show ((rkb s j : Int) + 1) = ((rkb s (j + 1) : Nat) : Int) by omega]
        | rw [show (rkb s j) = rkb s (j + 1) by omega]
        refine aw_pk [14, 15, 13, 11, 7, 8, 9, 6, 5, 3, 0, 1, 2] (by rfl) ?_
        exact IH (j + 1) (by omega)
    · refine aw_iload dX6_minor_118 (by rfl) ?_
      refine aw_iload dX6_minor_120 (by rfl) ?_
      refine aw_icmp_geZ (tgt := 145) dX6_minor_122 (by decide) (by omega) (by omega) (fun hc_122 => ?_) (fun hc_122 => ?_)
      · exact absurd hc_122 (by omega)
      · refine aw_iload dX6_minor_125 (by rfl) ?_
        refine aw_iload dX6_minor_127 (by rfl) ?_
        refine aw_ishrZ j dX6_minor_129 rfl (by omega) (by omega) (by omega) ?_
        refine aw_iconstZ dX6_minor_130 ?_
        refine aw_iand1Z dX6_minor_131 ?_
        refine aw_topi (y := ((s / 2 ^ j % 2 : Nat) : Int)) (by rw [Int.natCast_emod, Int.natCast_ediv, Int.natCast_pow]; rfl) ?_
        refine aw_iconstZ dX6_minor_132 ?_
        refine aw_icmp_neZ (tgt := 139) dX6_minor_133 (by decide) (by omega) (by omega) (fun hc_133 => ?_) (fun hc_133 => ?_)
        · refine aw_iincZ dX6_minor_139 (by rfl) (by decide) ?_
          refine aw_goto (tgt := 108) dX6_minor_142 (by decide) ?_
          rw [show ((j : Int) + 1) = ((j + 1 : Nat) : Int) by omega]
          first
          | rw [show ((rkb s j : Int) + 1) = ((rkb s (j + 1) : Nat) : Int) by omega]
          | rw [show (rkb s j) = rkb s (j + 1) by omega]
          refine aw_pk [14, 15, 13, 11, 7, 8, 9, 6, 5, 3, 0, 1, 2] (by rfl) ?_
          exact IH (j + 1) (by omega)
        · refine aw_iincZ dX6_minor_136 (by rfl) (by decide) ?_
          refine aw_iincZ dX6_minor_139 (by rfl) (by decide) ?_
          refine aw_goto (tgt := 108) dX6_minor_142 (by decide) ?_
          rw [show ((j : Int) + 1) = ((j + 1 : Nat) : Int) by omega]
          first
          | rw [show ((rkb s j : Int) + 1) = ((rkb s (j + 1) : Nat) : Int) by omega]
          | rw [show (rkb s j) = rkb s (j + 1) by omega]
          refine aw_pk [14, 15, 13, 11, 7, 8, 9, 6, 5, 3, 0, 1, 2] (by rfl) ?_
          exact IH (j + 1) (by omega)

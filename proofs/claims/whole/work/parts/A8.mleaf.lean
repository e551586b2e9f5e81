/-! ===== the reference: isNumber, leaf ===== -/
def isN (v : Int) : Int := if -1000 ≤ v ∧ v ≤ 1000 then 1 else 0
abbrev mX6_isNumber : MI := (yX6_isNumber, cX6_isNumber, 1, (some FieldType.boolean), noX)
theorem dX6_isNumber_0 : decode cX6_isNumber 0 = .ok (.iload_n 0, 1) := by decide +kernel
theorem dX6_isNumber_1 : decode cX6_isNumber 1 = .ok (.sipush (-1000), 3) := by decide +kernel
theorem dX6_isNumber_4 : decode cX6_isNumber 4 = .ok (.if_icmp .lt 14, 3) := by decide +kernel
theorem dX6_isNumber_7 : decode cX6_isNumber 7 = .ok (.iload_n 0, 1) := by decide +kernel
theorem dX6_isNumber_8 : decode cX6_isNumber 8 = .ok (.sipush 1000, 3) := by decide +kernel
theorem dX6_isNumber_11 : decode cX6_isNumber 11 = .ok (.if_icmp .gt 7, 3) := by decide +kernel
theorem dX6_isNumber_14 : decode cX6_isNumber 14 = .ok (.iconst 1, 1) := by decide +kernel
theorem dX6_isNumber_15 : decode cX6_isNumber 15 = .ok (.goto 4, 3) := by decide +kernel
theorem dX6_isNumber_18 : decode cX6_isNumber 18 = .ok (.iconst 0, 1) := by decide +kernel
theorem dX6_isNumber_19 : decode cX6_isNumber 19 = .ok (.ireturn, 1) := by decide +kernel
theorem m_isNumber (g : GX) (d : Nat) {V : AH} {sz : Nat} {v : Int} (hv : R32 v) : AMet g mX6_isNumber d [.int (iZ v)] V sz (Ex (some (.int (iZ (isN v)))) V sz 0 0) := by
  refine AMet.of rfl rfl (Nat.le_of_ble_eq_true rfl) ?_
  show AW g mX6_isNumber d 0 [(0, .int (iZ v))] [] V sz _
  refine aw_iload_n dX6_isNumber_0 (by rfl) ?_
  refine aw_sipushZ dX6_isNumber_1 (by decide) ?_
  refine aw_icmp_ltZ (tgt := 18) dX6_isNumber_4 (by decide) hv (by omega) (fun hc_4 => ?_) (fun hc_4 => ?_)
  · refine aw_iconstZ dX6_isNumber_18 ?_
    refine aw_iret dX6_isNumber_19 rfl (by rfl) ?_
    first
    | (rw [show isN v = 1 from if_pos ⟨by omega, by omega⟩]; exact ⟨rfl, rfl, rfl, rfl, rfl⟩)
    | (rw [show isN v = 0 from if_neg (by omega)]; exact ⟨rfl, rfl, rfl, rfl, rfl⟩)
  · refine aw_iload_n dX6_isNumber_7 (by rfl) ?_
    refine aw_sipushZ dX6_isNumber_8 (by decide) ?_
    refine aw_icmp_gtZ (tgt := 18) dX6_isNumber_11 (by decide) hv (by omega) (fun hc_11 => ?_) (fun hc_11 => ?_)
    · refine aw_iconstZ dX6_isNumber_18 ?_
      refine aw_iret dX6_isNumber_19 rfl (by rfl) ?_
      first
      | (rw [show isN v = 1 from if_pos ⟨by omega, by omega⟩]; exact ⟨rfl, rfl, rfl, rfl, rfl⟩)
      | (rw [show isN v = 0 from if_neg (by omega)]; exact ⟨rfl, rfl, rfl, rfl, rfl⟩)
    · refine aw_iconstZ dX6_isNumber_14 ?_
      refine aw_goto (tgt := 19) dX6_isNumber_15 (by decide) ?_
      refine aw_iret dX6_isNumber_19 rfl (by rfl) ?_
      first
      | (rw [show isN v = 1 from if_pos ⟨by omega, by omega⟩]; exact ⟨rfl, rfl, rfl, rfl, rfl⟩)
      | (rw [show isN v = 0 from if_neg (by omega)]; exact ⟨rfl, rfl, rfl, rfl, rfl⟩)
abbrev mX6_leaf : MI := (yX6_leaf, cX6_leaf, 9, (some FieldType.boolean), noX)
theorem dX6_leaf_0 : decode cX6_leaf 0 = .ok (.aload_n 0, 1) := by decide +kernel
theorem dX6_leaf_1 : decode cX6_leaf 1 = .ok (.iload_n 1, 1) := by decide +kernel
theorem dX6_leaf_2 : decode cX6_leaf 2 = .ok (.iload_n 2, 1) := by decide +kernel
theorem dX6_leaf_3 : decode cX6_leaf 3 = .ok (.invokevirtual 141, 3) := by decide +kernel
theorem dX6_leaf_6 : decode cX6_leaf 6 = .ok (.ifCond .ne 5, 3) := by decide +kernel
theorem dX6_leaf_9 : decode cX6_leaf 9 = .ok (.iconst 0, 1) := by decide +kernel
theorem dX6_leaf_10 : decode cX6_leaf 10 = .ok (.ireturn, 1) := by decide +kernel
theorem dX6_leaf_11 : decode cX6_leaf 11 = .ok (.iconst 0, 1) := by decide +kernel
theorem dX6_leaf_12 : decode cX6_leaf 12 = .ok (.istore 8, 2) := by decide +kernel
theorem dX6_leaf_14 : decode cX6_leaf 14 = .ok (.iload 8, 2) := by decide +kernel
theorem dX6_leaf_16 : decode cX6_leaf 16 = .ok (.aload_n 0, 1) := by decide +kernel
theorem dX6_leaf_17 : decode cX6_leaf 17 = .ok (.getfield 40, 3) := by decide +kernel
theorem dX6_leaf_20 : decode cX6_leaf 20 = .ok (.iload_n 1, 1) := by decide +kernel
theorem dX6_leaf_21 : decode cX6_leaf 21 = .ok (.iaload, 1) := by decide +kernel
theorem dX6_leaf_22 : decode cX6_leaf 22 = .ok (.if_icmp .ge 61, 3) := by decide +kernel
theorem dX6_leaf_25 : decode cX6_leaf 25 = .ok (.iload 8, 2) := by decide +kernel
theorem dX6_leaf_27 : decode cX6_leaf 27 = .ok (.ifCond .ne 7, 3) := by decide +kernel
theorem dX6_leaf_30 : decode cX6_leaf 30 = .ok (.iload_n 3, 1) := by decide +kernel
theorem dX6_leaf_31 : decode cX6_leaf 31 = .ok (.goto 38, 3) := by decide +kernel
theorem dX6_leaf_34 : decode cX6_leaf 34 = .ok (.iload 8, 2) := by decide +kernel
theorem dX6_leaf_36 : decode cX6_leaf 36 = .ok (.iconst 1, 1) := by decide +kernel
theorem dX6_leaf_37 : decode cX6_leaf 37 = .ok (.if_icmp .ne 8, 3) := by decide +kernel
theorem dX6_leaf_40 : decode cX6_leaf 40 = .ok (.iload 4, 2) := by decide +kernel
theorem dX6_leaf_42 : decode cX6_leaf 42 = .ok (.goto 27, 3) := by decide +kernel
theorem dX6_leaf_45 : decode cX6_leaf 45 = .ok (.iload 8, 2) := by decide +kernel
theorem dX6_leaf_47 : decode cX6_leaf 47 = .ok (.iconst 2, 1) := by decide +kernel
theorem dX6_leaf_48 : decode cX6_leaf 48 = .ok (.if_icmp .ne 8, 3) := by decide +kernel
theorem dX6_leaf_51 : decode cX6_leaf 51 = .ok (.iload 5, 2) := by decide +kernel
theorem dX6_leaf_53 : decode cX6_leaf 53 = .ok (.goto 16, 3) := by decide +kernel
theorem dX6_leaf_56 : decode cX6_leaf 56 = .ok (.iload 8, 2) := by decide +kernel
theorem dX6_leaf_58 : decode cX6_leaf 58 = .ok (.iconst 3, 1) := by decide +kernel
theorem dX6_leaf_59 : decode cX6_leaf 59 = .ok (.if_icmp .ne 8, 3) := by decide +kernel
theorem dX6_leaf_62 : decode cX6_leaf 62 = .ok (.iload 6, 2) := by decide +kernel
theorem dX6_leaf_64 : decode cX6_leaf 64 = .ok (.goto 5, 3) := by decide +kernel
theorem dX6_leaf_67 : decode cX6_leaf 67 = .ok (.iload 7, 2) := by decide +kernel
theorem dX6_leaf_69 : decode cX6_leaf 69 = .ok (.invokestatic 145, 3) := by decide +kernel
theorem dX6_leaf_72 : decode cX6_leaf 72 = .ok (.ifCond .ne 5, 3) := by decide +kernel
theorem dX6_leaf_75 : decode cX6_leaf 75 = .ok (.iconst 0, 1) := by decide +kernel
theorem dX6_leaf_76 : decode cX6_leaf 76 = .ok (.ireturn, 1) := by decide +kernel
theorem dX6_leaf_77 : decode cX6_leaf 77 = .ok (.iinc 8 1, 3) := by decide +kernel
theorem dX6_leaf_80 : decode cX6_leaf 80 = .ok (.goto (-66), 3) := by decide +kernel
theorem dX6_leaf_83 : decode cX6_leaf 83 = .ok (.iconst 0, 1) := by decide +kernel
theorem dX6_leaf_84 : decode cX6_leaf 84 = .ok (.istore 8, 2) := by decide +kernel
theorem dX6_leaf_86 : decode cX6_leaf 86 = .ok (.iload 8, 2) := by decide +kernel
theorem dX6_leaf_88 : decode cX6_leaf 88 = .ok (.aload_n 0, 1) := by decide +kernel
theorem dX6_leaf_89 : decode cX6_leaf 89 = .ok (.getfield 40, 3) := by decide +kernel
theorem dX6_leaf_92 : decode cX6_leaf 92 = .ok (.iload_n 1, 1) := by decide +kernel
theorem dX6_leaf_93 : decode cX6_leaf 93 = .ok (.iaload, 1) := by decide +kernel
theorem dX6_leaf_94 : decode cX6_leaf 94 = .ok (.if_icmp .ge 69, 3) := by decide +kernel
theorem dX6_leaf_97 : decode cX6_leaf 97 = .ok (.aload_n 0, 1) := by decide +kernel
theorem dX6_leaf_98 : decode cX6_leaf 98 = .ok (.getfield 43, 3) := by decide +kernel
theorem dX6_leaf_101 : decode cX6_leaf 101 = .ok (.bipush 25, 2) := by decide +kernel
theorem dX6_leaf_103 : decode cX6_leaf 103 = .ok (.iload_n 1, 1) := by decide +kernel
theorem dX6_leaf_104 : decode cX6_leaf 104 = .ok (.imul, 1) := by decide +kernel
theorem dX6_leaf_105 : decode cX6_leaf 105 = .ok (.iconst 5, 1) := by decide +kernel
theorem dX6_leaf_106 : decode cX6_leaf 106 = .ok (.iload_n 2, 1) := by decide +kernel
theorem dX6_leaf_107 : decode cX6_leaf 107 = .ok (.imul, 1) := by decide +kernel
theorem dX6_leaf_108 : decode cX6_leaf 108 = .ok (.iadd, 1) := by decide +kernel
theorem dX6_leaf_109 : decode cX6_leaf 109 = .ok (.iload 8, 2) := by decide +kernel
theorem dX6_leaf_111 : decode cX6_leaf 111 = .ok (.iadd, 1) := by decide +kernel
theorem dX6_leaf_112 : decode cX6_leaf 112 = .ok (.iload 8, 2) := by decide +kernel
theorem dX6_leaf_114 : decode cX6_leaf 114 = .ok (.ifCond .ne 7, 3) := by decide +kernel
theorem dX6_leaf_117 : decode cX6_leaf 117 = .ok (.iload_n 3, 1) := by decide +kernel
theorem dX6_leaf_118 : decode cX6_leaf 118 = .ok (.goto 38, 3) := by decide +kernel
theorem dX6_leaf_121 : decode cX6_leaf 121 = .ok (.iload 8, 2) := by decide +kernel
theorem dX6_leaf_123 : decode cX6_leaf 123 = .ok (.iconst 1, 1) := by decide +kernel
theorem dX6_leaf_124 : decode cX6_leaf 124 = .ok (.if_icmp .ne 8, 3) := by decide +kernel
theorem dX6_leaf_127 : decode cX6_leaf 127 = .ok (.iload 4, 2) := by decide +kernel
theorem dX6_leaf_129 : decode cX6_leaf 129 = .ok (.goto 27, 3) := by decide +kernel
theorem dX6_leaf_132 : decode cX6_leaf 132 = .ok (.iload 8, 2) := by decide +kernel
theorem dX6_leaf_134 : decode cX6_leaf 134 = .ok (.iconst 2, 1) := by decide +kernel
theorem dX6_leaf_135 : decode cX6_leaf 135 = .ok (.if_icmp .ne 8, 3) := by decide +kernel
theorem dX6_leaf_138 : decode cX6_leaf 138 = .ok (.iload 5, 2) := by decide +kernel
theorem dX6_leaf_140 : decode cX6_leaf 140 = .ok (.goto 16, 3) := by decide +kernel
theorem dX6_leaf_143 : decode cX6_leaf 143 = .ok (.iload 8, 2) := by decide +kernel
theorem dX6_leaf_145 : decode cX6_leaf 145 = .ok (.iconst 3, 1) := by decide +kernel
theorem dX6_leaf_146 : decode cX6_leaf 146 = .ok (.if_icmp .ne 8, 3) := by decide +kernel
theorem dX6_leaf_149 : decode cX6_leaf 149 = .ok (.iload 6, 2) := by decide +kernel
theorem dX6_leaf_151 : decode cX6_leaf 151 = .ok (.goto 5, 3) := by decide +kernel
theorem dX6_leaf_154 : decode cX6_leaf 154 = .ok (.iload 7, 2) := by decide +kernel
theorem dX6_leaf_156 : decode cX6_leaf 156 = .ok (.iastore, 1) := by decide +kernel
theorem dX6_leaf_157 : decode cX6_leaf 157 = .ok (.iinc 8 1, 3) := by decide +kernel
theorem dX6_leaf_160 : decode cX6_leaf 160 = .ok (.goto (-74), 3) := by decide +kernel
theorem dX6_leaf_163 : decode cX6_leaf 163 = .ok (.aload_n 0, 1) := by decide +kernel
theorem dX6_leaf_164 : decode cX6_leaf 164 = .ok (.getfield 46, 3) := by decide +kernel
theorem dX6_leaf_167 : decode cX6_leaf 167 = .ok (.iconst 5, 1) := by decide +kernel
theorem dX6_leaf_168 : decode cX6_leaf 168 = .ok (.iload_n 1, 1) := by decide +kernel
theorem dX6_leaf_169 : decode cX6_leaf 169 = .ok (.imul, 1) := by decide +kernel
theorem dX6_leaf_170 : decode cX6_leaf 170 = .ok (.iload_n 2, 1) := by decide +kernel
theorem dX6_leaf_171 : decode cX6_leaf 171 = .ok (.iadd, 1) := by decide +kernel
theorem dX6_leaf_172 : decode cX6_leaf 172 = .ok (.iconst 1, 1) := by decide +kernel
theorem dX6_leaf_173 : decode cX6_leaf 173 = .ok (.bastore, 1) := by decide +kernel
theorem dX6_leaf_174 : decode cX6_leaf 174 = .ok (.iconst 1, 1) := by decide +kernel
theorem dX6_leaf_175 : decode cX6_leaf 175 = .ok (.ireturn, 1) := by decide +kernel
def lfM (NN : Nat → Int) (lo m : Nat) (ar : Nat → Int) : Nat → Int := fun k => if lo ≤ k ∧ k < lo + m then ar (k - lo) else NN k
theorem lfM.up {NN : Nat → Int} {lo m : Nat} {ar : Nat → Int} : upF (lfM NN lo m ar) (lo + m) (ar m) = lfM NN lo (m + 1) ar := by
  funext k
  unfold upF lfM
  by_cases e : k = lo + m
  · rw [if_pos e, if_pos (by omega), show k - lo = m by omega]
  · rw [if_neg e]
    by_cases e2 : lo ≤ k ∧ k < lo + m
    · rw [if_pos e2, if_pos (by omega)]
    · rw [if_neg e2, if_neg (by omega)]
theorem lfM.nil {NN : Nat → Int} {lo : Nat} {ar : Nat → Int} : lfM NN lo 0 ar = NN := by funext k; unfold lfM; rw [if_neg (by omega)]
theorem lfw_loop (d : Nat) {g : GX} {V0 : AH} {mo sz n i : Nat} {rk kn ar ac p qq r s e : Int} {S : TSt} {NN HH : Nat → Int} (hT0 : RTb g mo V0 S) (h12 : V0 (mo + 12) = some (aZz g 60 HH)) (o1 : TOK S) (hn : n < 12) (hi : i < 5) : ∀ (y j : Nat), j + y = S.c n → ∀ {V : AH}, V mo = some (moO mo rk kn ar ac) → V (mo + 11) = some (aIz g 300 (lfM NN (25 * n + 5 * i) j (ar5 p qq r s e))) → (∀ a, a ≠ mo + 11 → V a = V0 a) → AW g mX6_leaf d 86 [(8, .int (iZ j)), (0, .ref mo), (1, .int (iZ n)), (2, .int (iZ i)), (3, .int (iZ p)), (4, .int (iZ qq)), (5, .int (iZ r)), (6, .int (iZ s)), (7, .int (iZ e))] [] V sz (VX V0 sz (fun a => a = mo + 11 ∨ a = mo + 12) (fun q V' => some (.int (iZ 1)) = q ∧ V' (mo + 11) = some (aIz g 300 (lfM NN (25 * n + 5 * i) (S.c n) (ar5 p qq r s e))) ∧ V' (mo + 12) = some (aZz g 60 (upF HH (5 * n + i) 1))))
  | 0, j, hy, V, hmo, hN, hV => by
    obtain rfl : j = S.c n := by omega
    obtain ⟨_, _, CC, _, _, _, _, t3, _, _, t6⟩ := id hT0
    have hCC := (hV (mo + 10) (by omega)).trans t3
    have hcn := (t6 n hn).2.2.1
    have hc5 := (o1 n hn).2.1
    refine aw_iload dX6_leaf_86 (by rfl) ?_
    refine aw_aload_n dX6_leaf_88 (by rfl) (Or.inr ⟨_, rfl⟩) ?_
    refine aw_get fX6_40 dX6_leaf_89 hmo (by rfl) ?_
    refine aw_iload_n dX6_leaf_92 (by rfl) ?_
    refine aw_ialdZ (n) dX6_leaf_93 hCC (by omega) (by omega) (by omega) ?_
    rw [hcn]
    refine aw_icmp_geZ (tgt := 163) dX6_leaf_94 (by decide) (by omega) (by omega) (fun hc_94 => ?_) (fun hc_94 => ?_)
    · refine aw_aload_n dX6_leaf_163 (by rfl) (Or.inr ⟨_, rfl⟩) ?_
      refine aw_get fX6_46 dX6_leaf_164 hmo (by rfl) ?_
      refine aw_iconstZ dX6_leaf_167 ?_
      refine aw_iload_n dX6_leaf_168 (by rfl) ?_
      refine aw_imulZ dX6_leaf_169 ?_
      refine aw_iload_n dX6_leaf_170 (by rfl) ?_
      refine aw_iaddZ dX6_leaf_171 ?_
      refine aw_iconstZ dX6_leaf_172 ?_
      refine aw_zastZ (5 * n + i) dX6_leaf_173 ((hV _ (by omega)).trans h12) (by omega) (by omega) (by omega) (by omega) ?_
      refine aw_iconstZ dX6_leaf_174 ?_
      refine aw_iret dX6_leaf_175 rfl (by rfl) ?_
      exact ⟨rfl, rfl, rfl, fun a ha => (AHu_ne (by omega)).trans (hV a (by omega)), rfl, (AHu_ne (by omega)).trans hN, AHu_self _ _ _⟩
    · exact absurd hc_94 (by omega)
  | y + 1, j, hy, V, hmo, hN, hV => by
    have IH := fun j hj => @lfw_loop d g V0 mo sz n i rk kn ar ac p qq r s e S NN HH hT0 h12 o1 hn hi y j hj
    obtain ⟨_, _, CC, _, _, _, _, t3, _, _, t6⟩ := id hT0
    have hCC := (hV (mo + 10) (by omega)).trans t3
    have hcn := (t6 n hn).2.2.1
    have hc5 := (o1 n hn).2.1
    refine aw_iload dX6_leaf_86 (by rfl) ?_
    refine aw_aload_n dX6_leaf_88 (by rfl) (Or.inr ⟨_, rfl⟩) ?_
    refine aw_get fX6_40 dX6_leaf_89 hmo (by rfl) ?_
    refine aw_iload_n dX6_leaf_92 (by rfl) ?_
    refine aw_ialdZ (n) dX6_leaf_93 hCC (by omega) (by omega) (by omega) ?_
    rw [hcn]
    refine aw_icmp_geZ (tgt := 163) dX6_leaf_94 (by decide) (by omega) (by omega) (fun hc_94 => ?_) (fun hc_94 => ?_)
    · exact absurd hc_94 (by omega)
    · refine aw_aload_n dX6_leaf_97 (by rfl) (Or.inr ⟨_, rfl⟩) ?_
      refine aw_get fX6_43 dX6_leaf_98 hmo (by rfl) ?_
      refine aw_bipushZ dX6_leaf_101 (by decide) ?_
      refine aw_iload_n dX6_leaf_103 (by rfl) ?_
      refine aw_imulZ dX6_leaf_104 ?_
      refine aw_iconstZ dX6_leaf_105 ?_
      refine aw_iload_n dX6_leaf_106 (by rfl) ?_
      refine aw_imulZ dX6_leaf_107 ?_
      refine aw_iaddZ dX6_leaf_108 ?_
      refine aw_iload dX6_leaf_109 (by rfl) ?_
      refine aw_iaddZ dX6_leaf_111 ?_
      have K : AW g mX6_leaf d 156 [(8, .int (iZ j)), (0, .ref mo), (1, .int (iZ n)), (2, .int (iZ i)), (3, .int (iZ p)), (4, .int (iZ qq)), (5, .int (iZ r)), (6, .int (iZ s)), (7, .int (iZ e))] [.int (iZ (ar5 p qq r s e j)), .int (iZ (25 * (n : Int) + 5 * (i : Int) + (j : Int))), .ref (mo + 11)] V sz (VX V0 sz (fun a => a = mo + 11 ∨ a = mo + 12) (fun q V' => some (.int (iZ 1)) = q ∧ V' (mo + 11) = some (aIz g 300 (lfM NN (25 * n + 5 * i) (S.c n) (ar5 p qq r s e))) ∧ V' (mo + 12) = some (aZz g 60 (upF HH (5 * n + i) 1)))) := by
        refine aw_iastZ (25 * n + 5 * i + j) dX6_leaf_156 hN (by omega) (by omega) (by omega) ?_
        rw [lfM.up]
        refine aw_iincZ dX6_leaf_157 (by rfl) (by decide) ?_
        refine aw_goto (tgt := 86) dX6_leaf_160 (by decide) ?_
        rw [show ((j : Int) + 1) = ((j + 1 : Nat) : Int) by omega]
        exact IH (j + 1) (by omega) ((AHu_ne (by omega)).trans hmo) (AHu_self _ _ _) (fun a ha => (AHu_ne ha).trans (hV a ha))
      refine aw_iload dX6_leaf_112 (by rfl) ?_
      refine aw_if_neZ (tgt := 121) dX6_leaf_114 (by decide) (by omega) (fun hc_114 => ?_) (fun hc_114 => ?_)
      · refine aw_iload dX6_leaf_121 (by rfl) ?_
        refine aw_iconstZ dX6_leaf_123 ?_
        refine aw_icmp_neZ (tgt := 132) dX6_leaf_124 (by decide) (by omega) (by omega) (fun hc_124 => ?_) (fun hc_124 => ?_)
        · refine aw_iload dX6_leaf_132 (by rfl) ?_
          refine aw_iconstZ dX6_leaf_134 ?_
          refine aw_icmp_neZ (tgt := 143) dX6_leaf_135 (by decide) (by omega) (by omega) (fun hc_135 => ?_) (fun hc_135 => ?_)
          · refine aw_iload dX6_leaf_143 (by rfl) ?_
            refine aw_iconstZ dX6_leaf_145 ?_
            refine aw_icmp_neZ (tgt := 154) dX6_leaf_146 (by decide) (by omega) (by omega) (fun hc_146 => ?_) (fun hc_146 => ?_)
            · refine aw_iload dX6_leaf_154 (by rfl) ?_
              first
              | (refine aw_topi (y := ar5 p qq r s e j) (by rw [show j = 0 by omega]; rfl) ?_; exact K)
              | (refine aw_topi (y := ar5 p qq r s e j) (by rw [show j = 1 by omega]; rfl) ?_; exact K)
              | (refine aw_topi (y := ar5 p qq r s e j) (by rw [show j = 2 by omega]; rfl) ?_; exact K)
              | (refine aw_topi (y := ar5 p qq r s e j) (by rw [show j = 3 by omega]; rfl) ?_; exact K)
              | (refine aw_topi (y := ar5 p qq r s e j) (by rw [show j = 4 by omega]; rfl) ?_; exact K)
            · refine aw_iload dX6_leaf_149 (by rfl) ?_
              refine aw_goto (tgt := 156) dX6_leaf_151 (by decide) ?_
              first
              | (refine aw_topi (y := ar5 p qq r s e j) (by rw [show j = 0 by omega]; rfl) ?_; exact K)
              | (refine aw_topi (y := ar5 p qq r s e j) (by rw [show j = 1 by omega]; rfl) ?_; exact K)
              | (refine aw_topi (y := ar5 p qq r s e j) (by rw [show j = 2 by omega]; rfl) ?_; exact K)
              | (refine aw_topi (y := ar5 p qq r s e j) (by rw [show j = 3 by omega]; rfl) ?_; exact K)
              | (refine aw_topi (y := ar5 p qq r s e j) (by rw [show j = 4 by omega]; rfl) ?_; exact K)
          · refine aw_iload dX6_leaf_138 (by rfl) ?_
            refine aw_goto (tgt := 156) dX6_leaf_140 (by decide) ?_
            first
            | (refine aw_topi (y := ar5 p qq r s e j) (by rw [show j = 0 by omega]; rfl) ?_; exact K)
            | (refine aw_topi (y := ar5 p qq r s e j) (by rw [show j = 1 by omega]; rfl) ?_; exact K)
            | (refine aw_topi (y := ar5 p qq r s e j) (by rw [show j = 2 by omega]; rfl) ?_; exact K)
            | (refine aw_topi (y := ar5 p qq r s e j) (by rw [show j = 3 by omega]; rfl) ?_; exact K)
            | (refine aw_topi (y := ar5 p qq r s e j) (by rw [show j = 4 by omega]; rfl) ?_; exact K)
        · refine aw_iload dX6_leaf_127 (by rfl) ?_
          refine aw_goto (tgt := 156) dX6_leaf_129 (by decide) ?_
          first
          | (refine aw_topi (y := ar5 p qq r s e j) (by rw [show j = 0 by omega]; rfl) ?_; exact K)
          | (refine aw_topi (y := ar5 p qq r s e j) (by rw [show j = 1 by omega]; rfl) ?_; exact K)
          | (refine aw_topi (y := ar5 p qq r s e j) (by rw [show j = 2 by omega]; rfl) ?_; exact K)
          | (refine aw_topi (y := ar5 p qq r s e j) (by rw [show j = 3 by omega]; rfl) ?_; exact K)
          | (refine aw_topi (y := ar5 p qq r s e j) (by rw [show j = 4 by omega]; rfl) ?_; exact K)
      · refine aw_iload_n dX6_leaf_117 (by rfl) ?_
        refine aw_goto (tgt := 156) dX6_leaf_118 (by decide) ?_
        first
        | (refine aw_topi (y := ar5 p qq r s e j) (by rw [show j = 0 by omega]; rfl) ?_; exact K)
        | (refine aw_topi (y := ar5 p qq r s e j) (by rw [show j = 1 by omega]; rfl) ?_; exact K)
        | (refine aw_topi (y := ar5 p qq r s e j) (by rw [show j = 2 by omega]; rfl) ?_; exact K)
        | (refine aw_topi (y := ar5 p qq r s e j) (by rw [show j = 3 by omega]; rfl) ?_; exact K)
        | (refine aw_topi (y := ar5 p qq r s e j) (by rw [show j = 4 by omega]; rfl) ?_; exact K)
theorem lfc_loop (d : Nat) {g : GX} {V : AH} {mo sz n i : Nat} {rk kn ar ac p qq r s e : Int} {S : TSt} {NN HH : Nat → Int} (hmo : V mo = some (moO mo rk kn ar ac)) (hT0 : RTb g mo V S) (h11 : V (mo + 11) = some (aIz g 300 NN)) (h12 : V (mo + 12) = some (aZz g 60 HH)) (o1 : TOK S) (hn : n < 12) (hi : i < 5) (hr5a : ∀ k, R32 (ar5 p qq r s e k)) : ∀ (y j : Nat), j + y = S.c n → (∀ k, k < j → -1000 ≤ ar5 p qq r s e k ∧ ar5 p qq r s e k ≤ 1000) → AW g mX6_leaf (d + 1) 14 [(8, .int (iZ j)), (0, .ref mo), (1, .int (iZ n)), (2, .int (iZ i)), (3, .int (iZ p)), (4, .int (iZ qq)), (5, .int (iZ r)), (6, .int (iZ s)), (7, .int (iZ e))] [] V sz (VX V sz (fun a => a = mo + 11 ∨ a = mo + 12) (fun q V' => (some (.int (iZ 1)) = q ∧ (∀ k, k < S.c n → -1000 ≤ ar5 p qq r s e k ∧ ar5 p qq r s e k ≤ 1000) ∧ V' (mo + 11) = some (aIz g 300 (lfM NN (25 * n + 5 * i) (S.c n) (ar5 p qq r s e))) ∧ V' (mo + 12) = some (aZz g 60 (upF HH (5 * n + i) 1))) ∨ ((some (.int (iZ 0)) = q ∧ ¬ (∀ k, k < S.c n → -1000 ≤ ar5 p qq r s e k ∧ ar5 p qq r s e k ≤ 1000)) ∧ V' = V)))
  | 0, j, hy, hok => by
    obtain ⟨_, _, CC, _, _, _, _, t3, _, _, t6⟩ := id hT0
    have hcn := (t6 n hn).2.2.1
    have hc5 := (o1 n hn).2.1
    refine aw_iload dX6_leaf_14 (by rfl) ?_
    refine aw_aload_n dX6_leaf_16 (by rfl) (Or.inr ⟨_, rfl⟩) ?_
    refine aw_get fX6_40 dX6_leaf_17 hmo (by rfl) ?_
    refine aw_iload_n dX6_leaf_20 (by rfl) ?_
    refine aw_ialdZ (n) dX6_leaf_21 t3 (by omega) (by omega) (by omega) ?_
    rw [hcn]
    refine aw_icmp_geZ (tgt := 83) dX6_leaf_22 (by decide) (by omega) (by omega) (fun hc_22 => ?_) (fun hc_22 => ?_)
    · refine aw_iconstZ dX6_leaf_83 ?_
      refine aw_istore dX6_leaf_84 (by decide) ?_
      refine aw_pk [8, 0, 1, 2, 3, 4, 5, 6, 7] (by rfl) ?_
      refine (lfw_loop (d + 1) (V0 := V) (NN := NN) hT0 h12 o1 hn hi (S.c n) 0 (by omega) hmo (by rw [lfM.nil]; exact h11) (fun _ _ => rfl)).mono ?_
      rintro q V' sz' dc ds ⟨rfl, rfl, rfl, hV, rfl, hN, hH⟩
      exact ⟨rfl, rfl, rfl, hV, Or.inl ⟨rfl, fun k hk => hok k (by omega), hN, hH⟩⟩
    · exact absurd hc_22 (by omega)
  | y + 1, j, hy, hok => by
    have IH := fun j hj => @lfc_loop d g V mo sz n i rk kn ar ac p qq r s e S NN HH hmo hT0 h11 h12 o1 hn hi hr5a y j hj
    obtain ⟨_, _, CC, _, _, _, _, t3, _, _, t6⟩ := id hT0
    have hcn := (t6 n hn).2.2.1
    have hc5 := (o1 n hn).2.1
    refine aw_iload dX6_leaf_14 (by rfl) ?_
    refine aw_aload_n dX6_leaf_16 (by rfl) (Or.inr ⟨_, rfl⟩) ?_
    refine aw_get fX6_40 dX6_leaf_17 hmo (by rfl) ?_
    refine aw_iload_n dX6_leaf_20 (by rfl) ?_
    refine aw_ialdZ (n) dX6_leaf_21 t3 (by omega) (by omega) (by omega) ?_
    rw [hcn]
    refine aw_icmp_geZ (tgt := 83) dX6_leaf_22 (by decide) (by omega) (by omega) (fun hc_22 => ?_) (fun hc_22 => ?_)
    · exact absurd hc_22 (by omega)
    · have K : AW g mX6_leaf (d + 1) 69 [(8, .int (iZ j)), (0, .ref mo), (1, .int (iZ n)), (2, .int (iZ i)), (3, .int (iZ p)), (4, .int (iZ qq)), (5, .int (iZ r)), (6, .int (iZ s)), (7, .int (iZ e))] [.int (iZ (ar5 p qq r s e j))] V sz (VX V sz (fun a => a = mo + 11 ∨ a = mo + 12) (fun q V' => (some (.int (iZ 1)) = q ∧ (∀ k, k < S.c n → -1000 ≤ ar5 p qq r s e k ∧ ar5 p qq r s e k ≤ 1000) ∧ V' (mo + 11) = some (aIz g 300 (lfM NN (25 * n + 5 * i) (S.c n) (ar5 p qq r s e))) ∧ V' (mo + 12) = some (aZz g 60 (upF HH (5 * n + i) 1))) ∨ ((some (.int (iZ 0)) = q ∧ ¬ (∀ k, k < S.c n → -1000 ≤ ar5 p qq r s e k ∧ ar5 p qq r s e k ≤ 1000)) ∧ V' = V))) := by
        refine aw_calls sX6_145 dX6_leaf_69 (m_isNumber g d (v := ar5 p qq r s e j) (hr5a j)) (by rfl) (by rfl) (by omega) (Nat.le_of_ble_eq_true rfl) ?_
        rintro _ _ _ _ _ ⟨rfl, rfl, rfl, rfl, rfl⟩ -
        refine q0 ?_
        refine aw_if_neZ (tgt := 77) dX6_leaf_72 (by decide) (by unfold isN; split <;> omega) (fun hc_72 => ?_) (fun hc_72 => ?_)
        · have hb : -1000 ≤ ar5 p qq r s e j ∧ ar5 p qq r s e j ≤ 1000 := Classical.byContradiction (fun z => hc_72 (if_neg z))
          refine aw_iincZ dX6_leaf_77 (by rfl) (by decide) ?_
          refine aw_goto (tgt := 14) dX6_leaf_80 (by decide) ?_
          rw [show ((j : Int) + 1) = ((j + 1 : Nat) : Int) by omega]
          exact IH (j + 1) (by omega) (fun k hk => (Nat.lt_or_eq_of_le (Nat.le_of_lt_succ hk)).elim (fun z => hok k z) (fun z => z ▸ hb))
        · have hb : ¬ (-1000 ≤ ar5 p qq r s e j ∧ ar5 p qq r s e j ≤ 1000) := fun z => by rw [show isN (ar5 p qq r s e j) = 1 from if_pos z] at hc_72; omega
          refine aw_iconstZ dX6_leaf_75 ?_
          refine aw_iret dX6_leaf_76 rfl (by rfl) ?_
          exact ⟨rfl, rfl, rfl, fun _ _ => rfl, Or.inr ⟨⟨rfl, fun z => hb (z j (by omega))⟩, rfl⟩⟩
      refine aw_iload dX6_leaf_25 (by rfl) ?_
      refine aw_if_neZ (tgt := 34) dX6_leaf_27 (by decide) (by omega) (fun hc_27 => ?_) (fun hc_27 => ?_)
      · refine aw_iload dX6_leaf_34 (by rfl) ?_
        refine aw_iconstZ dX6_leaf_36 ?_
        refine aw_icmp_neZ (tgt := 45) dX6_leaf_37 (by decide) (by omega) (by omega) (fun hc_37 => ?_) (fun hc_37 => ?_)
        · refine aw_iload dX6_leaf_45 (by rfl) ?_
          refine aw_iconstZ dX6_leaf_47 ?_
          refine aw_icmp_neZ (tgt := 56) dX6_leaf_48 (by decide) (by omega) (by omega) (fun hc_48 => ?_) (fun hc_48 => ?_)
          · refine aw_iload dX6_leaf_56 (by rfl) ?_
            refine aw_iconstZ dX6_leaf_58 ?_
            refine aw_icmp_neZ (tgt := 67) dX6_leaf_59 (by decide) (by omega) (by omega) (fun hc_59 => ?_) (fun hc_59 => ?_)
            · refine aw_iload dX6_leaf_67 (by rfl) ?_
              first
              | (refine aw_topi (y := ar5 p qq r s e j) (by rw [show j = 0 by omega]; rfl) ?_; exact K)
              | (refine aw_topi (y := ar5 p qq r s e j) (by rw [show j = 1 by omega]; rfl) ?_; exact K)
              | (refine aw_topi (y := ar5 p qq r s e j) (by rw [show j = 2 by omega]; rfl) ?_; exact K)
              | (refine aw_topi (y := ar5 p qq r s e j) (by rw [show j = 3 by omega]; rfl) ?_; exact K)
              | (refine aw_topi (y := ar5 p qq r s e j) (by rw [show j = 4 by omega]; rfl) ?_; exact K)
            · refine aw_iload dX6_leaf_62 (by rfl) ?_
              refine aw_goto (tgt := 69) dX6_leaf_64 (by decide) ?_
              first
              | (refine aw_topi (y := ar5 p qq r s e j) (by rw [show j = 0 by omega]; rfl) ?_; exact K)
              | (refine aw_topi (y := ar5 p qq r s e j) (by rw [show j = 1 by omega]; rfl) ?_; exact K)
              | (refine aw_topi (y := ar5 p qq r s e j) (by rw [show j = 2 by omega]; rfl) ?_; exact K)
              | (refine aw_topi (y := ar5 p qq r s e j) (by rw [show j = 3 by omega]; rfl) ?_; exact K)
              | (refine aw_topi (y := ar5 p qq r s e j) (by rw [show j = 4 by omega]; rfl) ?_; exact K)
          · refine aw_iload dX6_leaf_51 (by rfl) ?_
            refine aw_goto (tgt := 69) dX6_leaf_53 (by decide) ?_
            first
            | (refine aw_topi (y := ar5 p qq r s e j) (by rw [show j = 0 by omega]; rfl) ?_; exact K)
            | (refine aw_topi (y := ar5 p qq r s e j) (by rw [show j = 1 by omega]; rfl) ?_; exact K)
            | (refine aw_topi (y := ar5 p qq r s e j) (by rw [show j = 2 by omega]; rfl) ?_; exact K)
            | (refine aw_topi (y := ar5 p qq r s e j) (by rw [show j = 3 by omega]; rfl) ?_; exact K)
            | (refine aw_topi (y := ar5 p qq r s e j) (by rw [show j = 4 by omega]; rfl) ?_; exact K)
        · refine aw_iload dX6_leaf_40 (by rfl) ?_
          refine aw_goto (tgt := 69) dX6_leaf_42 (by decide) ?_
          first
          | (refine aw_topi (y := ar5 p qq r s e j) (by rw [show j = 0 by omega]; rfl) ?_; exact K)
          | (refine aw_topi (y := ar5 p qq r s e j) (by rw [show j = 1 by omega]; rfl) ?_; exact K)
          | (refine aw_topi (y := ar5 p qq r s e j) (by rw [show j = 2 by omega]; rfl) ?_; exact K)
          | (refine aw_topi (y := ar5 p qq r s e j) (by rw [show j = 3 by omega]; rfl) ?_; exact K)
          | (refine aw_topi (y := ar5 p qq r s e j) (by rw [show j = 4 by omega]; rfl) ?_; exact K)
      · refine aw_iload_n dX6_leaf_30 (by rfl) ?_
        refine aw_goto (tgt := 69) dX6_leaf_31 (by decide) ?_
        first
        | (refine aw_topi (y := ar5 p qq r s e j) (by rw [show j = 0 by omega]; rfl) ?_; exact K)
        | (refine aw_topi (y := ar5 p qq r s e j) (by rw [show j = 1 by omega]; rfl) ?_; exact K)
        | (refine aw_topi (y := ar5 p qq r s e j) (by rw [show j = 2 by omega]; rfl) ?_; exact K)
        | (refine aw_topi (y := ar5 p qq r s e j) (by rw [show j = 3 by omega]; rfl) ?_; exact K)
        | (refine aw_topi (y := ar5 p qq r s e j) (by rw [show j = 4 by omega]; rfl) ?_; exact K)
theorem leaf_ok {S : TSt} (o1 : TOK S) {n k : Nat} {f : Nat → Int} (hn : n < 12) (hk : k < S.r n) (hf : ∀ j, j < S.c n → -1000 ≤ f j ∧ f j ≤ 1000) : TOK (upT S n (S.r n) (S.c n) (lfN (S.N n) k (S.c n) f) (upF (S.H n) k 1)) := by
  obtain ⟨p1, p2, p3, p4, p5, p6, p7⟩ := o1 n hn
  refine o1.up ⟨p1, p2, p3, fun q hq => ?_, fun q => ?_, fun a e ha he hz => ?_, fun a ha hr => ?_⟩
  · unfold lfN; split
    · exact hf _ (by omega)
    · exact p4 q hq
  · by_cases e : q = k
    · rw [e, upF_self]; exact Or.inr rfl
    · rw [upF_ne _ _ e]; exact p5 q
  · unfold lfN
    by_cases q : a = k
    · subst q
      rw [upF_self] at hz
      rw [if_neg (by omega)]
      exact p6 a e ha he (by omega)
    · rw [upF_ne _ _ q] at hz
      rw [if_neg (by omega)]
      exact p6 a e ha he hz
  · rw [upF_ne _ _ (by omega)]; exact p7 a ha hr
theorem m_leaf (g : GX) (d : Nat) {V : AH} {mo sz : Nat} {zs : Nat → Int} {S : TSt} {A : ASt} {t i p qq r s e : Int} (hR : RX g mo V zs S A) (ht : R32 t) (hi : R32 i) (hr5a : ∀ k, R32 (ar5 p qq r s e k)) : AMet g mX6_leaf (d + 2) [.ref mo, .int (iZ t), .int (iZ i), .int (iZ p), .int (iZ qq), .int (iZ r), .int (iZ s), .int (iZ e)] V sz (RE g mo V sz (fun q S' A' => A' = A ∧ ((0 ≤ t ∧ t < 12 ∧ 0 ≤ i ∧ i < S.r t.toNat ∧ ∀ k, k < S.c t.toNat → -1000 ≤ ar5 p qq r s e k ∧ ar5 p qq r s e k ≤ 1000) ∧ some (.int (iZ 1)) = q ∧ S' = upT S t.toNat (S.r t.toNat) (S.c t.toNat) (lfN (S.N t.toNat) i.toNat (S.c t.toNat) (ar5 p qq r s e)) (upF (S.H t.toNat) i.toNat 1) ∨ ¬ (0 ≤ t ∧ t < 12 ∧ 0 ≤ i ∧ i < S.r t.toNat ∧ ∀ k, k < S.c t.toNat → -1000 ≤ ar5 p qq r s e k ∧ ar5 p qq r s e k ≤ 1000) ∧ some (.int (iZ 0)) = q ∧ S' = S))) := by
  obtain ⟨⟨rk, kn, hmo⟩, -, -, -, -, ⟨F5, a5⟩, hT, -, -, o1, -⟩ := id hR
  obtain ⟨TH, RR, CC, NN, HH, t1, t2, t3, t4, t5, t6⟩ := id hT
  have hrb : ∀ n, n < 12 → S.r n ≤ 5 := fun n hn => (o1 n hn).1
  refine AMet.of rfl rfl (Nat.le_of_ble_eq_true rfl) ?_
  show AW g mX6_leaf (d + 2) 0 [(0, .ref mo), (1, .int (iZ t)), (2, .int (iZ i)), (3, .int (iZ p)), (4, .int (iZ qq)), (5, .int (iZ r)), (6, .int (iZ s)), (7, .int (iZ e))] [] V sz _
  refine aw_aload_n dX6_leaf_0 (by rfl) (Or.inr ⟨_, rfl⟩) ?_
  refine aw_iload_n dX6_leaf_1 (by rfl) ?_
  refine aw_iload_n dX6_leaf_2 (by rfl) ?_
  refine aw_callv vX6_141 dX6_leaf_3 hmo (m_isRow g d (t := t) (i := i) hmo hT ht hi hrb) (by rfl) (by rfl) (by omega) (Nat.le_of_ble_eq_true rfl) ?_
  rintro _ _ _ _ _ ⟨rfl, rfl, rfl, rfl, rfl⟩ -
  refine q0 ?_
  refine aw_if_neZ (tgt := 11) dX6_leaf_6 (by decide) (rwZ_R _ _ _) (fun hc_6 => ?_) (fun hc_6 => ?_)
  · obtain ⟨n, k, hn, rfl, rfl, hk⟩ := rwZ_yes hc_6
    have hr5 := hrb n hn
    refine aw_iconstZ dX6_leaf_11 ?_
    refine aw_istore dX6_leaf_12 (by decide) ?_
    refine aw_pk [8, 0, 1, 2, 3, 4, 5, 6, 7] (by rfl) ?_
    refine (lfc_loop (d + 1) (n := n) (i := k) (NN := NN) (HH := HH) hmo hT t4 t5 o1 hn (by omega) hr5a (S.c n) 0 (by omega) (fun k hk => absurd hk (by omega))).mono ?_
    rintro q V' sz' dc ds ⟨rfl, rfl, rfl, hV, ⟨rfl, hok, hN, hH⟩ | ⟨⟨rfl, hbad⟩, rfl⟩⟩
    · refine ⟨rfl, rfl, rfl, fun a ha => hV a (fun z => ha (by unfold EM; omega)), zs, _, A, (hR.tabs (S' := upT S n (S.r n) (S.c n) (lfN (S.N n) k (S.c n) (ar5 p qq r s e)) (upF (S.H n) k 1)) (fun a ha => hV a (fun z => ha (by unfold ETb; omega))) ⟨F5, (hV _ (by omega)).trans a5⟩ ⟨(hV _ (by omega)).trans t1, (hV _ (by omega)).trans t2, (hV _ (by omega)).trans t3, hN, hH⟩ (fun q hq => ?_) (leaf_ok o1 hn hk hok)), rfl, Or.inl ⟨⟨by omega, by omega, by omega, by rw [show ((n : Int)).toNat = n from rfl]; omega, hok⟩, rfl, rfl⟩⟩
      obtain ⟨h1, h2, h3, h4, h5⟩ := t6 q hq
      have hc5 : S.snd.fst n ≤ 5 := (o1 n hn).2.1
      by_cases e : q = n
      · subst e
        unfold upT TSt.r TSt.c TSt.N TSt.H
        simp only [upF_self]
        refine ⟨h1, h2, h3, fun a ha => ?_, fun a ha => ?_⟩
        · unfold lfM lfN
          by_cases e : 5 * k ≤ a ∧ a < 5 * k + S.snd.fst q
          · rw [if_pos (by omega), if_pos e, show 25 * q + a - (25 * q + 5 * k) = a - 5 * k by omega]
          · rw [if_neg (by omega), if_neg e]
            exact h4 a ha
        · by_cases e : a = k
          · subst e; rw [upF_self, upF_self]
          · rw [upF_ne _ _ e, upF_ne _ _ (by omega)]
            exact h5 a ha
      · unfold upT TSt.r TSt.c TSt.N TSt.H
        simp only [upF_ne _ _ e]
        refine ⟨h1, h2, h3, fun a ha => ?_, fun a ha => ?_⟩
        · unfold lfM
          rw [if_neg (by omega)]
          exact h4 a ha
        · rw [upF_ne _ _ (by omega)]
          exact h5 a ha
    · exact ⟨rfl, rfl, rfl, fun _ _ => rfl, zs, S, A, hR, rfl, Or.inr ⟨fun z => hbad z.2.2.2.2, rfl, rfl⟩⟩
  · have hno := rwZ_no hc_6
    refine aw_iconstZ dX6_leaf_9 ?_
    refine aw_iret dX6_leaf_10 rfl (by rfl) ?_
    exact ⟨rfl, rfl, rfl, fun _ _ => rfl, zs, S, A, hR, rfl, Or.inr ⟨fun z => hno ⟨z.1, z.2.1, z.2.2.1, z.2.2.2.1⟩, rfl, rfl⟩⟩

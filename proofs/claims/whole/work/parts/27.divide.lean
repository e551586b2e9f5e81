/-! ===== Desk.divide ===== -/
/-- small enough for the class: under 150 limbs (hidden from omega) -/
def Sm (z : Int) : Prop := (z.natAbs : Int) < 2147483648 ^ 150
theorem Sm.le {y z : Int} (h : (y.natAbs : Int) ≤ (z.natAbs : Int)) (k : Sm z) : Sm y := Int.lt_of_le_of_lt h k
theorem Sm.one : Sm 1 := by unfold Sm; decide +kernel
theorem Sm.zero : Sm 0 := by unfold Sm; decide +kernel
abbrev mX0_divide : MI := (yX0_divide, cX0_divide, 13, none, noX)
theorem dX0_divide_0 : decode cX0_divide 0 = .ok (.aload_n 1, 1) := by decide +kernel
theorem dX0_divide_1 : decode cX0_divide 1 = .ok (.getfield 40, 3) := by decide +kernel
theorem dX0_divide_4 : decode cX0_divide 4 = .ok (.aload_n 2, 1) := by decide +kernel
theorem dX0_divide_5 : decode cX0_divide 5 = .ok (.getfield 40, 3) := by decide +kernel
theorem dX0_divide_8 : decode cX0_divide 8 = .ok (.imul, 1) := by decide +kernel
theorem dX0_divide_9 : decode cX0_divide 9 = .ok (.istore 4, 2) := by decide +kernel
theorem dX0_divide_11 : decode cX0_divide 11 = .ok (.aload_n 1, 1) := by decide +kernel
theorem dX0_divide_12 : decode cX0_divide 12 = .ok (.getfield 40, 3) := by decide +kernel
theorem dX0_divide_15 : decode cX0_divide 15 = .ok (.ifCond .ge 7, 3) := by decide +kernel
theorem dX0_divide_18 : decode cX0_divide 18 = .ok (.iconst 1, 1) := by decide +kernel
theorem dX0_divide_19 : decode cX0_divide 19 = .ok (.goto 4, 3) := by decide +kernel
theorem dX0_divide_22 : decode cX0_divide 22 = .ok (.iconst 0, 1) := by decide +kernel
theorem dX0_divide_23 : decode cX0_divide 23 = .ok (.istore 5, 2) := by decide +kernel
theorem dX0_divide_25 : decode cX0_divide 25 = .ok (.iload 4, 2) := by decide +kernel
theorem dX0_divide_27 : decode cX0_divide 27 = .ok (.ifCond .ne 9, 3) := by decide +kernel
theorem dX0_divide_30 : decode cX0_divide 30 = .ok (.aload_n 3, 1) := by decide +kernel
theorem dX0_divide_31 : decode cX0_divide 31 = .ok (.lconst 0, 1) := by decide +kernel
theorem dX0_divide_32 : decode cX0_divide 32 = .ok (.invokevirtual 36, 3) := by decide +kernel
theorem dX0_divide_35 : decode cX0_divide 35 = .ok (.return_, 1) := by decide +kernel
theorem dX0_divide_36 : decode cX0_divide 36 = .ok (.aload_n 1, 1) := by decide +kernel
theorem dX0_divide_37 : decode cX0_divide 37 = .ok (.invokevirtual 44, 3) := by decide +kernel
theorem dX0_divide_40 : decode cX0_divide 40 = .ok (.ifCond .eq 86, 3) := by decide +kernel
theorem dX0_divide_43 : decode cX0_divide 43 = .ok (.aload_n 2, 1) := by decide +kernel
theorem dX0_divide_44 : decode cX0_divide 44 = .ok (.invokevirtual 44, 3) := by decide +kernel
theorem dX0_divide_47 : decode cX0_divide 47 = .ok (.ifCond .eq 79, 3) := by decide +kernel
theorem dX0_divide_50 : decode cX0_divide 50 = .ok (.aload_n 1, 1) := by decide +kernel
theorem dX0_divide_51 : decode cX0_divide 51 = .ok (.invokevirtual 48, 3) := by decide +kernel
theorem dX0_divide_54 : decode cX0_divide 54 = .ok (.lstore 6, 2) := by decide +kernel
theorem dX0_divide_56 : decode cX0_divide 56 = .ok (.aload_n 2, 1) := by decide +kernel
theorem dX0_divide_57 : decode cX0_divide 57 = .ok (.invokevirtual 48, 3) := by decide +kernel
theorem dX0_divide_60 : decode cX0_divide 60 = .ok (.lstore 8, 2) := by decide +kernel
theorem dX0_divide_62 : decode cX0_divide 62 = .ok (.lload 8, 2) := by decide +kernel
theorem dX0_divide_64 : decode cX0_divide 64 = .ok (.lconst 0, 1) := by decide +kernel
theorem dX0_divide_65 : decode cX0_divide 65 = .ok (.lcmp, 1) := by decide +kernel
theorem dX0_divide_66 : decode cX0_divide 66 = .ok (.ifCond .le 11, 3) := by decide +kernel
theorem dX0_divide_69 : decode cX0_divide 69 = .ok (.lload 6, 2) := by decide +kernel
theorem dX0_divide_71 : decode cX0_divide 71 = .ok (.lload 8, 2) := by decide +kernel
theorem dX0_divide_73 : decode cX0_divide 73 = .ok (.ldiv, 1) := by decide +kernel
theorem dX0_divide_74 : decode cX0_divide 74 = .ok (.goto 4, 3) := by decide +kernel
theorem dX0_divide_77 : decode cX0_divide 77 = .ok (.lconst 0, 1) := by decide +kernel
theorem dX0_divide_78 : decode cX0_divide 78 = .ok (.lstore 10, 2) := by decide +kernel
theorem dX0_divide_80 : decode cX0_divide 80 = .ok (.lload 10, 2) := by decide +kernel
theorem dX0_divide_82 : decode cX0_divide 82 = .ok (.lload 8, 2) := by decide +kernel
theorem dX0_divide_84 : decode cX0_divide 84 = .ok (.lmul, 1) := by decide +kernel
theorem dX0_divide_85 : decode cX0_divide 85 = .ok (.lload 6, 2) := by decide +kernel
theorem dX0_divide_87 : decode cX0_divide 87 = .ok (.lcmp, 1) := by decide +kernel
theorem dX0_divide_88 : decode cX0_divide 88 = .ok (.ifCond .ne 7, 3) := by decide +kernel
theorem dX0_divide_91 : decode cX0_divide 91 = .ok (.iconst 1, 1) := by decide +kernel
theorem dX0_divide_92 : decode cX0_divide 92 = .ok (.goto 4, 3) := by decide +kernel
theorem dX0_divide_95 : decode cX0_divide 95 = .ok (.iconst 0, 1) := by decide +kernel
theorem dX0_divide_96 : decode cX0_divide 96 = .ok (.istore 12, 2) := by decide +kernel
theorem dX0_divide_98 : decode cX0_divide 98 = .ok (.aload_n 3, 1) := by decide +kernel
theorem dX0_divide_99 : decode cX0_divide 99 = .ok (.iload 4, 2) := by decide +kernel
theorem dX0_divide_101 : decode cX0_divide 101 = .ok (.i2l, 1) := by decide +kernel
theorem dX0_divide_102 : decode cX0_divide 102 = .ok (.iload 5, 2) := by decide +kernel
theorem dX0_divide_104 : decode cX0_divide 104 = .ok (.ifCond .eq 15, 3) := by decide +kernel
theorem dX0_divide_107 : decode cX0_divide 107 = .ok (.iload 12, 2) := by decide +kernel
theorem dX0_divide_109 : decode cX0_divide 109 = .ok (.ifCond .ne 10, 3) := by decide +kernel
theorem dX0_divide_112 : decode cX0_divide 112 = .ok (.lload 10, 2) := by decide +kernel
theorem dX0_divide_114 : decode cX0_divide 114 = .ok (.lconst 1, 1) := by decide +kernel
theorem dX0_divide_115 : decode cX0_divide 115 = .ok (.ladd, 1) := by decide +kernel
theorem dX0_divide_116 : decode cX0_divide 116 = .ok (.goto 5, 3) := by decide +kernel
theorem dX0_divide_119 : decode cX0_divide 119 = .ok (.lload 10, 2) := by decide +kernel
theorem dX0_divide_121 : decode cX0_divide 121 = .ok (.lmul, 1) := by decide +kernel
theorem dX0_divide_122 : decode cX0_divide 122 = .ok (.invokevirtual 36, 3) := by decide +kernel
theorem dX0_divide_125 : decode cX0_divide 125 = .ok (.return_, 1) := by decide +kernel
theorem dX0_divide_126 : decode cX0_divide 126 = .ok (.aload_n 1, 1) := by decide +kernel
theorem dX0_divide_127 : decode cX0_divide 127 = .ok (.aload_n 2, 1) := by decide +kernel
theorem dX0_divide_128 : decode cX0_divide 128 = .ok (.invokevirtual 52, 3) := by decide +kernel
theorem dX0_divide_131 : decode cX0_divide 131 = .ok (.ifCond .ge 20, 3) := by decide +kernel
theorem dX0_divide_134 : decode cX0_divide 134 = .ok (.aload_n 3, 1) := by decide +kernel
theorem dX0_divide_135 : decode cX0_divide 135 = .ok (.iload 5, 2) := by decide +kernel
theorem dX0_divide_137 : decode cX0_divide 137 = .ok (.ifCond .eq 9, 3) := by decide +kernel
theorem dX0_divide_140 : decode cX0_divide 140 = .ok (.iload 4, 2) := by decide +kernel
theorem dX0_divide_142 : decode cX0_divide 142 = .ok (.i2l, 1) := by decide +kernel
theorem dX0_divide_143 : decode cX0_divide 143 = .ok (.goto 4, 3) := by decide +kernel
theorem dX0_divide_146 : decode cX0_divide 146 = .ok (.lconst 0, 1) := by decide +kernel
theorem dX0_divide_147 : decode cX0_divide 147 = .ok (.invokevirtual 36, 3) := by decide +kernel
theorem dX0_divide_150 : decode cX0_divide 150 = .ok (.return_, 1) := by decide +kernel
theorem dX0_divide_151 : decode cX0_divide 151 = .ok (.aload_n 0, 1) := by decide +kernel
theorem dX0_divide_152 : decode cX0_divide 152 = .ok (.aload_n 1, 1) := by decide +kernel
theorem dX0_divide_153 : decode cX0_divide 153 = .ok (.aload_n 2, 1) := by decide +kernel
theorem dX0_divide_154 : decode cX0_divide 154 = .ok (.aload_n 3, 1) := by decide +kernel
theorem dX0_divide_155 : decode cX0_divide 155 = .ok (.invokevirtual 56, 3) := by decide +kernel
theorem dX0_divide_158 : decode cX0_divide 158 = .ok (.istore 6, 2) := by decide +kernel
theorem dX0_divide_160 : decode cX0_divide 160 = .ok (.aload_n 3, 1) := by decide +kernel
theorem dX0_divide_161 : decode cX0_divide 161 = .ok (.iload 4, 2) := by decide +kernel
theorem dX0_divide_163 : decode cX0_divide 163 = .ok (.putfield 40, 3) := by decide +kernel
theorem dX0_divide_166 : decode cX0_divide 166 = .ok (.iload 5, 2) := by decide +kernel
theorem dX0_divide_168 : decode cX0_divide 168 = .ok (.ifCond .eq 18, 3) := by decide +kernel
theorem dX0_divide_171 : decode cX0_divide 171 = .ok (.iload 6, 2) := by decide +kernel
theorem dX0_divide_173 : decode cX0_divide 173 = .ok (.ifCond .ne 13, 3) := by decide +kernel
theorem dX0_divide_176 : decode cX0_divide 176 = .ok (.aload_n 3, 1) := by decide +kernel
theorem dX0_divide_177 : decode cX0_divide 177 = .ok (.aload_n 0, 1) := by decide +kernel
theorem dX0_divide_178 : decode cX0_divide 178 = .ok (.getfield 21, 3) := by decide +kernel
theorem dX0_divide_181 : decode cX0_divide 181 = .ok (.iload 4, 2) := by decide +kernel
theorem dX0_divide_183 : decode cX0_divide 183 = .ok (.invokevirtual 60, 3) := by decide +kernel
theorem dX0_divide_186 : decode cX0_divide 186 = .ok (.return_, 1) := by decide +kernel
set_option maxRecDepth 20000 in
theorem w_divide {g : GX} {ws : List Nat} {SA : Nat → Prop} {V : AH} {sz : Nat} {Z : Nat → Int} {P L : Nat → Nat} (d : Nat) {dk r dv on gr sm fa pr' qq a b : Nat} (h : WG g ws SA V sz Z P L) (ha : a ∈ ws) (hb : b ∈ ws) (hr : r ∈ ws) (hdv : dv ∈ ws) (hon : on ∈ ws) (hq : qq ∈ ws) (hra : r ≠ a) (hrb : r ≠ b) (hrd : r ≠ dv) (hrq : r ≠ qq) (hdb : dv ≠ b) (hdq : dv ≠ qq) (hqo : qq ≠ on) (hSA : SA dk) (hdk : V dk = some (dkO r dv on gr sm fa pr')) (hzr : Z r = 0) (hzd : Z dv = 0) (hzo : Z on = 1) (hZa : Sm (Z a)) : AMet g mX0_divide (d + 4) [.ref dk, .ref a, .ref b, .ref qq] V sz (WQ g ws SA V sz P L (upF Z qq (Z a / Z b)) none) := by
  obtain ⟨na, A, hA, hmA, htA⟩ := h.2.1 a ha
  obtain ⟨nb, Bd, hB, hmB, htB⟩ := h.2.1 b hb
  obtain ⟨hax0, hap0, -, hna, -, hLa, hAl⟩ := id hA
  obtain ⟨hbx0, hbp0, -, hnb, -, hLb, hBl⟩ := id hB
  obtain ⟨nqq, Fqq, hqx, -⟩ := h.raw hq
  have hca := sg_cases (Z a)
  have hcb := sg_cases (Z b)
  obtain ⟨sg, hsge⟩ : ∃ sg, (Z a).sign * (Z b).sign = sg := ⟨_, rfl⟩
  have hsgc : sg = 0 ∨ sg = 1 ∨ sg = -1 := by
    rcases hca with ⟨-, h2, -⟩ | ⟨-, h2, -⟩ | ⟨-, h2, -⟩ <;> rcases hcb with ⟨-, h5, -⟩ | ⟨-, h5, -⟩ | ⟨-, h5, -⟩ <;> rw [h2, h5] at hsge <;> omega
  have hsg32 : R32 sg := by omega
  obtain ⟨zq, hzq⟩ : ∃ zq, Z a / Z b = zq := ⟨_, rfl⟩
  rw [hzq]
  have hzero : sg = 0 → zq = 0 := fun h5 => by
    rw [← hzq]
    rcases hca with ⟨-, h2, -⟩ | ⟨h1, h2, -⟩ | ⟨-, h2, -⟩
    · rcases hcb with ⟨-, h6, -⟩ | ⟨h7, h6, -⟩ | ⟨-, h6, -⟩
      · rw [h2, h6] at hsge; omega
      · rw [h7, Int.ediv_zero]
      · rw [h2, h6] at hsge; omega
    · rw [h1, Int.zero_ediv]
    · rcases hcb with ⟨-, h6, -⟩ | ⟨h7, h6, -⟩ | ⟨-, h6, -⟩
      · rw [h2, h6] at hsge; omega
      · rw [h7, Int.ediv_zero]
      · rw [h2, h6] at hsge; omega
  have hnz : ¬ sg = 0 → Z a ≠ 0 ∧ Z b ≠ 0 := fun h5 => ⟨fun e => h5 (by rw [← hsge, e]; simp), fun e => h5 (by rw [← hsge, e]; simp)⟩
  have J25 : ∀ be : Int, (be = 0 ∨ be = 1) → ((be = 1 ↔ Z a < 0) ∨ True) → (be = 1 ↔ Z a < 0) → AW g mX0_divide (d + 4) 25 [(5, .int (iZ be)), (4, .int (iZ sg)), (0, .ref dk), (1, .ref a), (2, .ref b), (3, .ref qq)] [] V sz (WQ g ws SA V sz P L (upF Z qq (zq)) none) := fun be hbe01 _ hbe => by
    have hbe32 : R32 be := by omega
    have hnn1 : be = 0 → ¬ Z a < 0 := fun h6 h7 => by have := hbe.mpr h7; omega
    have hneg1 : ¬ be = 0 → Z a < 0 := fun h6 => hbe.mp (by omega)
    have J36 : ¬ sg = 0 → AW g mX0_divide (d + 4) 36 [(5, .int (iZ be)), (4, .int (iZ sg)), (0, .ref dk), (1, .ref a), (2, .ref b), (3, .ref qq)] [] V sz (WQ g ws SA V sz P L (upF Z qq (zq)) none) := fun h5 => by
      obtain ⟨hza, hzb⟩ := hnz h5
      have hsg1 : sg = 1 ∨ sg = -1 := by omega
      have hdiv := ediv_sg hza hzb
      rw [hsge, hzq] at hdiv
      have J147 : (-9223372036854775808 < zq ∧ zq < 9223372036854775808) → AW g mX0_divide (d + 4) 147 [(5, .int (iZ be)), (4, .int (iZ sg)), (0, .ref dk), (1, .ref a), (2, .ref b), (3, .ref qq)] [.long (jZ (zq)), .ref qq] V sz (WQ g ws SA V sz P L (upF Z qq (zq)) none) := fun hres => by
        refine aw_callv vX0_36 dX0_divide_147 (by assumption) (w_put (d + 2) h hq (z := zq) hres) (by rfl) (by rfl) (by omega) (Nat.le_of_ble_eq_true rfl) ?_
        rintro _ V1 sz1 mc ms ⟨rfl, P1, L1, hw1⟩ -
        refine aw_ret dX0_divide_150 rfl ?_
        exact ⟨rfl, P1, L1, hw1⟩
      have J121 : (-9223372036854775808 < zq ∧ zq < 9223372036854775808) → AW g mX0_divide (d + 4) 122 [(5, .int (iZ be)), (4, .int (iZ sg)), (0, .ref dk), (1, .ref a), (2, .ref b), (3, .ref qq)] [.long (jZ (zq)), .ref qq] V sz (WQ g ws SA V sz P L (upF Z qq (zq)) none) := fun hres => by
        refine aw_callv vX0_36 dX0_divide_122 (by assumption) (w_put (d + 2) h hq (z := zq) hres) (by rfl) (by rfl) (by omega) (Nat.le_of_ble_eq_true rfl) ?_
        rintro _ V1 sz1 mc ms ⟨rfl, P1, L1, hw1⟩ -
        refine aw_ret dX0_divide_125 rfl ?_
        exact ⟨rfl, P1, L1, hw1⟩
      have LONG : ((Z b).natAbs : Int) ≤ ((Z a).natAbs : Int) → AW g mX0_divide (d + 4) 151 [(5, .int (iZ be)), (4, .int (iZ sg)), (0, .ref dk), (1, .ref a), (2, .ref b), (3, .ref qq)] [] V sz (WQ g ws SA V sz P L (upF Z qq (zq)) none) := fun hle => by
        have hqp : (0 : Int) < ((Z a).natAbs : Int) / ((Z b).natAbs : Int) := by
          have h6 := (Int.le_ediv_iff_mul_le (show (0 : Int) < ((Z b).natAbs : Int) by omega)).mpr (show 1 * ((Z b).natAbs : Int) ≤ ((Z a).natAbs : Int) by omega)
          omega
        have hz0 : ((sg * (((Z a).natAbs : Int) / ((Z b).natAbs : Int))).natAbs : Int) = ((Z a).natAbs : Int) / ((Z b).natAbs : Int) := by
          rcases hsg1 with h6 | h6 <;> rw [h6] <;> omega
        have hz0s : (sg * (((Z a).natAbs : Int) / ((Z b).natAbs : Int))).sign = sg := by
          rw [Int.sign_mul, Int.sign_eq_one_of_pos hqp, Int.mul_one]
          rcases hsg1 with h6 | h6 <;> rw [h6] <;> rfl
        have hqlt : Sm (sg * (((Z a).natAbs : Int) / ((Z b).natAbs : Int))) := Sm.le (by rw [hz0]; exact Int.ediv_le_self _ (Int.natCast_nonneg _)) hZa
        refine aw_aload_n dX0_divide_151 (by rfl) (Or.inr ⟨_, rfl⟩) ?_
        refine aw_aload_n dX0_divide_152 (by rfl) (Or.inr ⟨_, rfl⟩) ?_
        refine aw_aload_n dX0_divide_153 (by rfl) (Or.inr ⟨_, rfl⟩) ?_
        refine aw_aload_n dX0_divide_154 (by rfl) (Or.inr ⟨_, rfl⟩) ?_
        refine aw_callv vX0_56 dX0_divide_155 (by assumption) (w_divideLong d h ha hb hr hdv hq hra hrb hrd hrq hdb hdq hSA hdk hzr hzd hzb hle hZa) (by rfl) (by rfl) (by omega) (Nat.le_of_ble_eq_true rfl) ?_
        rintro _ V1 sz1 mc ms ⟨rfl, P1, L1, nq, sq, hq1, hst⟩ -
        have hs0 := hst (sg * (((Z a).natAbs : Int) / ((Z b).natAbs : Int))) hz0
        rw [hz0s] at hs0
        refine aw_istore dX0_divide_158 (by decide) ?_
        refine aw_aload_n dX0_divide_160 (by rfl) (Or.inr ⟨_, rfl⟩) ?_
        refine aw_iload dX0_divide_161 (by rfl) ?_
        refine aw_put fX0_40 dX0_divide_163 (by assumption) (by rfl) (by rfl) (Nat.le_of_ble_eq_true rfl) ?_
        show AW g mX0_divide (d + 4) _ _ _ (AHu V1 qq (whO sg nq (P1 qq))) _ _
        have hdk1 : (AHu V1 qq (whO sg nq (P1 qq))) dk = some (dkO r dv on gr sm fa pr') := (hs0.2.2.1 dk hSA).trans hdk
        have hq2 : (AHu V1 qq (whO sg nq (P1 qq))) qq = some (whO sg nq (P1 qq)) := AHu_self _ _ _
        refine aw_iload dX0_divide_166 (by rfl) ?_
        refine aw_if_eqZ (tgt := 186) dX0_divide_168 (by decide) hbe32 (fun hc_168 => ?_) (fun hc_168 => ?_)
        · refine aw_ret dX0_divide_186 rfl ?_
          refine ⟨rfl, P1, L1, ?_⟩
          have e : zq = sg * (((Z a).natAbs : Int) / ((Z b).natAbs : Int)) := by
            rw [hdiv]
            first
            | rw [if_neg (fun h5 => by omega), Int.add_zero]
            | (rw [if_neg (fun h5 => h5.2 (by revert hc_173; split <;> simp_all)), Int.add_zero])
          rw [e]
          exact hs0
        · refine aw_iload dX0_divide_171 (by rfl) ?_
          refine aw_if_neZ (tgt := 186) dX0_divide_173 (by decide) (by split <;> omega) (fun hc_173 => ?_) (fun hc_173 => ?_)
          · refine aw_ret dX0_divide_186 rfl ?_
            refine ⟨rfl, P1, L1, ?_⟩
            have e : zq = sg * (((Z a).natAbs : Int) / ((Z b).natAbs : Int)) := by
              rw [hdiv, if_neg (fun h5 => hc_173 (by rw [if_neg h5.2])), Int.add_zero]
            rw [e]
            exact hs0
          · refine aw_aload_n dX0_divide_176 (by rfl) (Or.inr ⟨_, rfl⟩) ?_
            refine aw_aload_n dX0_divide_177 (by rfl) (Or.inr ⟨_, rfl⟩) ?_
            refine aw_get fX0_21 dX0_divide_178 (by assumption) (by rfl) ?_
            refine aw_iload dX0_divide_181 (by rfl) ?_
            refine aw_callv vX0_60 dX0_divide_183 (by assumption) (w_plus d hs0.1 hq hon hqo hsg1 (by rw [upF_self]; exact hqlt) (by rw [upF_ne _ _ hqo.symm, hzo]; exact Sm.one)) (by rfl) (by rfl) (by omega) (Nat.le_of_ble_eq_true rfl) ?_
            rintro _ V3 sz3 mc3 ms3 ⟨rfl, P3, L3, hw3⟩ -
            have hall := hs0.tr hw3
            refine aw_ret dX0_divide_186 rfl ?_
            refine ⟨rfl, P3, L3, ?_⟩
            have hex : ¬ ((Z a).natAbs : Int) % ((Z b).natAbs : Int) = 0 := fun h5 => by rw [if_pos h5] at hc_173; exact absurd hc_173 (by decide)
            have e : upF (upF Z qq (sg * (((Z a).natAbs : Int) / ((Z b).natAbs : Int)))) qq (upF Z qq (sg * (((Z a).natAbs : Int) / ((Z b).natAbs : Int))) qq + sg * upF Z qq (sg * (((Z a).natAbs : Int) / ((Z b).natAbs : Int))) on) = upF Z qq (zq) := by
              rw [upF_self, upF_ne _ _ hqo.symm, hzo, hdiv, if_pos ⟨by omega, hex⟩]
              funext x
              unfold upF
              by_cases hx : x = qq
              · rw [if_pos hx, if_pos hx, Int.mul_add]
              · rw [if_neg hx, if_neg hx, if_neg hx]
            rw [e] at hall
            exact hall
      have J126 : AW g mX0_divide (d + 4) 126 [(5, .int (iZ be)), (4, .int (iZ sg)), (0, .ref dk), (1, .ref a), (2, .ref b), (3, .ref qq)] [] V sz (WQ g ws SA V sz P L (upF Z qq (zq)) none) := by
        clear hZa
        refine aw_aload_n dX0_divide_126 (by rfl) (Or.inr ⟨_, rfl⟩) ?_
        refine aw_aload_n dX0_divide_127 (by rfl) (Or.inr ⟨_, rfl⟩) ?_
        refine aw_callv vX0_52 dX0_divide_128 (by assumption) (t_compareSize g (d + 3) (h.2.1 a ha) (h.2.1 b hb)) (by rfl) (by rfl) (by omega) (Nat.le_of_ble_eq_true rfl) ?_
        rintro _ _ _ _ _ ⟨rfl, rfl, rfl, rfl, rfl⟩ -
        refine aw_if_geZ (tgt := 151) dX0_divide_131 (by decide) (cmpZ_R _ _) (fun hc_131 => ?_) (fun hc_131 => ?_)
        · have hle := cmpZ_ge.mp hc_131
          exact q0 (LONG hle)
        · have hlt : ((Z a).natAbs : Int) < ((Z b).natAbs : Int) := by
            have : ¬ ((Z b).natAbs : Int) ≤ ((Z a).natAbs : Int) := fun h => hc_131 (cmpZ_ge.mpr h)
            omega
          have hed := ediv_lt hza hzb hlt
          rw [hzq] at hed
          have hres : -9223372036854775808 < zq ∧ zq < 9223372036854775808 := by
            by_cases hn : Z a < 0
            · rw [hed.1 hn, hsge]; omega
            · rw [hed.2 hn]; omega
          refine aw_aload_n dX0_divide_134 (by rfl) (Or.inr ⟨_, rfl⟩) ?_
          refine aw_iload dX0_divide_135 (by rfl) ?_
          refine aw_if_eqZ (tgt := 146) dX0_divide_137 (by decide) hbe32 (fun hc_137 => ?_) (fun hc_137 => ?_)
          · refine aw_lconstZ (z := 0) dX0_divide_146 (by decide) ?_
            refine aw_topl (y := zq) (by first | (rw [hed.2 (by omega)]; done) | (rw [hed.1 (by omega), hsge]; done)) ?_
            exact q0 (J147 hres)
          · refine aw_iload dX0_divide_140 (by rfl) ?_
            refine aw_i2lZ dX0_divide_142 hsg32 ?_
            refine aw_goto (tgt := 147) dX0_divide_143 (by decide) ?_
            refine aw_topl (y := zq) (by first | (rw [hed.2 (by omega)]; done) | (rw [hed.1 (by omega), hsge]; done)) ?_
            exact q0 (J147 hres)
      have hval0 : be = 0 → zq = sg * (((Z a).natAbs : Int) / ((Z b).natAbs : Int)) := fun h6 => by
        rw [hdiv, if_neg (fun h7 => hnn1 h6 h7.1), Int.add_zero]
      have hval1 : ((Z a).natAbs : Int) % ((Z b).natAbs : Int) = 0 → zq = sg * (((Z a).natAbs : Int) / ((Z b).natAbs : Int)) := fun h6 => by
        rw [hdiv, if_neg (fun h7 => h7.2 h6), Int.add_zero]
      have hval2 : ¬ be = 0 → ¬ ((Z a).natAbs : Int) % ((Z b).natAbs : Int) = 0 → zq = sg * (((Z a).natAbs : Int) / ((Z b).natAbs : Int) + 1) := fun h6 h7 => by
        rw [hdiv, if_pos ⟨hneg1 h6, h7⟩]
      have hzbp : (0 : Int) < ((Z b).natAbs : Int) := by omega
      clear hZa hca hcb hsgc hnz hzero hbe hza hzb h5 hra hrb hrd hrq hdb hdq hqo
      refine aw_aload_n dX0_divide_36 (by rfl) (Or.inr ⟨_, rfl⟩) ?_
      refine aw_callv vX0_44 dX0_divide_37 (by assumption) (t_isShort g (d + 3) hA) (by rfl) (by rfl) (by omega) (Nat.le_of_ble_eq_true rfl) ?_
      rintro _ _ _ _ _ ⟨rfl, rfl, rfl, rfl, rfl⟩ -
      refine aw_if_eqZ (tgt := 126) dX0_divide_40 (by decide) (by split <;> omega) (fun hc_40 => ?_) (fun hc_40 => ?_)
      · first | exact q0 J126 | exact q0 (q0 J126)
      · have hna2 : na ≤ 2 := by revert hc_40; split <;> omega
        refine aw_aload_n dX0_divide_43 (by rfl) (Or.inr ⟨_, rfl⟩) ?_
        refine aw_callv vX0_44 dX0_divide_44 (by assumption) (t_isShort g (d + 3) hB) (by rfl) (by rfl) (by omega) (Nat.le_of_ble_eq_true rfl) ?_
        rintro _ _ _ _ _ ⟨rfl, rfl, rfl, rfl, rfl⟩ -
        refine aw_if_eqZ (tgt := 126) dX0_divide_47 (by decide) (by split <;> omega) (fun hc_47 => ?_) (fun hc_47 => ?_)
        · first | exact q0 J126 | exact q0 (q0 J126)
        · have hnb2 : nb ≤ 2 := by revert hc_47; split <;> omega
          have hxa := short_lt hA.2.2.2.1 hA.2.2.2.2.2.2 hna2 hmA
          have hxb := short_lt hB.2.2.2.1 hB.2.2.2.2.2.2 hnb2 hmB
          have hbp := hzbp
          have hqb : 0 ≤ ((Z a).natAbs : Int) / ((Z b).natAbs : Int) ∧ ((Z a).natAbs : Int) / ((Z b).natAbs : Int) ≤ ((Z a).natAbs : Int) := ⟨Int.ediv_nonneg (Int.natCast_nonneg _) (Int.natCast_nonneg _), Int.ediv_le_self _ (Int.natCast_nonneg _)⟩
          have hrm := Int.emod_add_mul_ediv ((Z a).natAbs : Int) ((Z b).natAbs : Int)
          have hrm0 := Int.emod_nonneg ((Z a).natAbs : Int) (show ((Z b).natAbs : Int) ≠ 0 by omega)
          rw [Int.mul_comm] at hrm
          have hX0 : 0 ≤ ((Z a).natAbs : Int) / ((Z b).natAbs : Int) * ((Z b).natAbs : Int) := Int.mul_nonneg hqb.1 (by omega)
          have hres : -9223372036854775808 < zq ∧ zq < 9223372036854775808 := by
            rw [hdiv]
            rcases hsg1 with h5 | h5 <;> rw [h5] <;> split <;> omega
          refine aw_aload_n dX0_divide_50 (by rfl) (Or.inr ⟨_, rfl⟩) ?_
          refine aw_callv vX0_48 dX0_divide_51 (by assumption) (t_shortValue g (d + 3) hA hna2) (by rfl) (by rfl) (by omega) (Nat.le_of_ble_eq_true rfl) ?_
          rintro _ _ _ _ _ ⟨rfl, rfl, rfl, rfl, rfl⟩ -
          refine aw_topl (y := ((Z a).natAbs : Int)) hmA ?_
          refine aw_lstore dX0_divide_54 (by decide) ?_
          refine aw_aload_n dX0_divide_56 (by rfl) (Or.inr ⟨_, rfl⟩) ?_
          refine aw_callv vX0_48 dX0_divide_57 (by assumption) (t_shortValue g (d + 3) hB hnb2) (by rfl) (by rfl) (by omega) (Nat.le_of_ble_eq_true rfl) ?_
          rintro _ _ _ _ _ ⟨rfl, rfl, rfl, rfl, rfl⟩ -
          refine aw_topl (y := ((Z b).natAbs : Int)) hmB ?_
          refine aw_lstore dX0_divide_60 (by decide) ?_
          refine aw_lload dX0_divide_62 (by rfl) ?_
          refine aw_lconstZ (z := 0) dX0_divide_64 (by decide) ?_
          refine aw_lcmpZ dX0_divide_65 (by omega) (by omega) ?_
          refine aw_if_leZ (tgt := 77) dX0_divide_66 (by decide) (cmpZ_R _ _) (fun hc_66 => ?_) (fun hc_66 => ?_)
          · exact absurd (cmpZ_le.mp hc_66) (by omega)
          · refine aw_lload dX0_divide_69 (by rfl) ?_
            refine aw_lload dX0_divide_71 (by rfl) ?_
            refine aw_ldivZ dX0_divide_73 (by omega) (by omega) (by omega) (by omega) ?_
            refine aw_goto (tgt := 78) dX0_divide_74 (by decide) ?_
            rw [Int.tdiv_eq_ediv_of_nonneg (by omega)]
            refine aw_lstore dX0_divide_78 (by decide) ?_
            refine aw_lload dX0_divide_80 (by rfl) ?_
            refine aw_lload dX0_divide_82 (by rfl) ?_
            refine aw_lmulZ dX0_divide_84 ?_
            refine aw_lload dX0_divide_85 (by rfl) ?_
            refine aw_lcmpZ dX0_divide_87 (by omega) (by omega) ?_
            refine aw_if_neZ (tgt := 95) dX0_divide_88 (by decide) (cmpZ_R _ _) (fun hc_88 => ?_) (fun hc_88 => ?_)
            · have hex : ¬ ((Z a).natAbs : Int) % ((Z b).natAbs : Int) = 0 := fun h5 => hc_88 (cmpZ_eq.mpr (by omega))
              refine aw_iconstZ dX0_divide_95 ?_
              refine aw_istore dX0_divide_96 (by decide) ?_
              refine aw_aload_n dX0_divide_98 (by rfl) (Or.inr ⟨_, rfl⟩) ?_
              refine aw_iload dX0_divide_99 (by rfl) ?_
              refine aw_i2lZ dX0_divide_101 hsg32 ?_
              refine aw_iload dX0_divide_102 (by rfl) ?_
              refine aw_if_eqZ (tgt := 119) dX0_divide_104 (by decide) hbe32 (fun hc_104 => ?_) (fun hc_104 => ?_)
              · refine aw_lload dX0_divide_119 (by rfl) ?_
                refine aw_lmulZ dX0_divide_121 ?_
                refine aw_topl (y := zq) (by first | exact (hval0 hc_104).symm | exact (hval1 hex).symm | exact (hval2 hc_104 hex).symm) ?_
                exact aw_pk [5, 4, 0, 1, 2, 3] (by rfl) (q0 (q0 (q0 (q0 (J121 hres)))))
              · refine aw_iload dX0_divide_107 (by rfl) ?_
                refine aw_if_neZ (tgt := 119) dX0_divide_109 (by decide) (by omega) (fun h => absurd rfl h) (fun _ => ?_)
                refine aw_lload dX0_divide_112 (by rfl) ?_
                refine aw_lconstZ (z := 1) dX0_divide_114 (by decide) ?_
                refine aw_laddZ dX0_divide_115 ?_
                refine aw_goto (tgt := 121) dX0_divide_116 (by decide) ?_
                refine aw_lmulZ dX0_divide_121 ?_
                refine aw_topl (y := zq) (by first | exact (hval0 hc_104).symm | exact (hval1 hex).symm | exact (hval2 hc_104 hex).symm) ?_
                exact aw_pk [5, 4, 0, 1, 2, 3] (by rfl) (q0 (q0 (q0 (q0 (J121 hres)))))
            · have hex : ((Z a).natAbs : Int) % ((Z b).natAbs : Int) = 0 := by
                have := cmpZ_eq.mp hc_88
                omega
              refine aw_iconstZ dX0_divide_91 ?_
              refine aw_goto (tgt := 96) dX0_divide_92 (by decide) ?_
              refine aw_istore dX0_divide_96 (by decide) ?_
              refine aw_aload_n dX0_divide_98 (by rfl) (Or.inr ⟨_, rfl⟩) ?_
              refine aw_iload dX0_divide_99 (by rfl) ?_
              refine aw_i2lZ dX0_divide_101 hsg32 ?_
              refine aw_iload dX0_divide_102 (by rfl) ?_
              refine aw_if_eqZ (tgt := 119) dX0_divide_104 (by decide) hbe32 (fun hc_104 => ?_) (fun hc_104 => ?_)
              · refine aw_lload dX0_divide_119 (by rfl) ?_
                refine aw_lmulZ dX0_divide_121 ?_
                refine aw_topl (y := zq) (by first | exact (hval0 hc_104).symm | exact (hval1 hex).symm | exact (hval2 hc_104 hex).symm) ?_
                exact aw_pk [5, 4, 0, 1, 2, 3] (by rfl) (q0 (q0 (q0 (q0 (J121 hres)))))
              · refine aw_iload dX0_divide_107 (by rfl) ?_
                refine aw_if_neZ (tgt := 119) dX0_divide_109 (by decide) (by omega) (fun _ => ?_) (fun h => absurd h (by decide))
                refine aw_lload dX0_divide_119 (by rfl) ?_
                refine aw_lmulZ dX0_divide_121 ?_
                refine aw_topl (y := zq) (by first | exact (hval0 hc_104).symm | exact (hval1 hex).symm | exact (hval2 hc_104 hex).symm) ?_
                exact aw_pk [5, 4, 0, 1, 2, 3] (by rfl) (q0 (q0 (q0 (q0 (J121 hres)))))
    clear hZa
    refine aw_iload dX0_divide_25 (by rfl) ?_
    refine aw_if_neZ (tgt := 36) dX0_divide_27 (by decide) hsg32 (fun hc_27 => ?_) (fun hc_27 => ?_)
    · exact J36 hc_27
    · have hz0 : zq = 0 := hzero hc_27
      refine aw_aload_n dX0_divide_30 (by rfl) (Or.inr ⟨_, rfl⟩) ?_
      refine aw_lconstZ (z := 0) dX0_divide_31 (by decide) ?_
      refine aw_callv vX0_36 dX0_divide_32 (by assumption) (w_put (d + 2) h hq (z := 0) (by omega)) (by rfl) (by rfl) (by omega) (Nat.le_of_ble_eq_true rfl) ?_
      rintro _ V1 sz1 mc ms ⟨rfl, P1, L1, hw1⟩ -
      refine aw_ret dX0_divide_35 rfl ?_
      rw [hz0]
      exact ⟨rfl, P1, L1, hw1⟩
  have J25 : ∀ be : Int, (be = 0 ∨ be = 1) → (be = 1 ↔ Z a < 0) → AW g mX0_divide (d + 4) 25 [(5, .int (iZ be)), (4, .int (iZ sg)), (0, .ref dk), (1, .ref a), (2, .ref b), (3, .ref qq)] [] V sz (WQ g ws SA V sz P L (upF Z qq (zq)) none) := fun be h1 h2 => J25 be h1 (Or.inr trivial) h2
  clear hZa
  refine AMet.of rfl rfl (Nat.le_of_ble_eq_true rfl) ?_
  show AW g mX0_divide (d + 4) 0 [(0, .ref dk), (1, .ref a), (2, .ref b), (3, .ref qq)] [] V sz _
  refine aw_aload_n dX0_divide_0 (by rfl) (Or.inr ⟨_, rfl⟩) ?_
  refine aw_get fX0_40 dX0_divide_1 (by assumption) (by rfl) ?_
  refine aw_aload_n dX0_divide_4 (by rfl) (Or.inr ⟨_, rfl⟩) ?_
  refine aw_get fX0_40 dX0_divide_5 (by assumption) (by rfl) ?_
  refine aw_imulZ dX0_divide_8 ?_
  refine aw_topi hsge ?_
  refine aw_istore dX0_divide_9 (by decide) ?_
  refine aw_aload_n dX0_divide_11 (by rfl) (Or.inr ⟨_, rfl⟩) ?_
  refine aw_get fX0_40 dX0_divide_12 (by assumption) (by rfl) ?_
  refine aw_if_geZ (tgt := 22) dX0_divide_15 (by decide) (sgn_R _) (fun hc_15 => ?_) (fun hc_15 => ?_)
  · refine aw_iconstZ dX0_divide_22 ?_
    refine aw_istore dX0_divide_23 (by decide) ?_
    refine aw_pk [5, 4, 0, 1, 2, 3] (by rfl) ?_
    first | exact J25 0 (by omega) (by omega) | exact J25 1 (by omega) (by omega)
  · refine aw_iconstZ dX0_divide_18 ?_
    refine aw_goto (tgt := 23) dX0_divide_19 (by decide) ?_
    refine aw_istore dX0_divide_23 (by decide) ?_
    refine aw_pk [5, 4, 0, 1, 2, 3] (by rfl) ?_
    first | exact J25 0 (by omega) (by omega) | exact J25 1 (by omega) (by omega)

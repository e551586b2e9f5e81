/-! ===== the reference: keeps; quotient: the multiples ===== -/
/-- rows before i of the STAIR are kept, and of row i what is before column j -/
def KpI (zs z : Nat → Int) (i j : Nat) : Prop := (∀ a b, (a < i ∧ b < 5) ∨ (a = i ∧ b < j) → z (390 + 5 * a + b) = zs (15 * a + b)) ∧ ∀ q, ¬ (390 ≤ q ∧ q < 415) → z q = zs q
theorem KpI.up {zs z : Nat → Int} {i j : Nat} (h : KpI zs z i j) (hi : i < 5) (hj : j < 5) : KpI zs (upF z (390 + 5 * i + j) (z (15 * i + j))) i (j + 1) := by
  refine ⟨fun a b hab => ?_, fun q hq => ?_⟩
  · by_cases e : a = i ∧ b = j
    · rw [e.1, e.2, upF_self]; exact h.2 _ (by omega)
    · rw [upF_ne _ _ (by omega)]; exact h.1 a b (by omega)
  · rw [upF_ne _ _ (by omega)]; exact h.2 q hq
theorem KpI.out {zs z : Nat → Int} {i : Nat} (h : KpI zs z i 5) : KpI zs z (i + 1) 0 := ⟨fun a b hab => h.1 a b (by omega), h.2⟩
abbrev mX6_keeps : MI := (yX6_keeps, cX6_keeps, 4, none, noX)
theorem dX6_keeps_0 : decode cX6_keeps 0 = .ok (.iconst 0, 1) := by decide +kernel
theorem dX6_keeps_1 : decode cX6_keeps 1 = .ok (.istore_n 2, 1) := by decide +kernel
theorem dX6_keeps_2 : decode cX6_keeps 2 = .ok (.iload_n 2, 1) := by decide +kernel
theorem dX6_keeps_3 : decode cX6_keeps 3 = .ok (.aload_n 0, 1) := by decide +kernel
theorem dX6_keeps_4 : decode cX6_keeps 4 = .ok (.getfield 117, 3) := by decide +kernel
theorem dX6_keeps_7 : decode cX6_keeps 7 = .ok (.if_icmp .ge 39, 3) := by decide +kernel
theorem dX6_keeps_10 : decode cX6_keeps 10 = .ok (.iconst 0, 1) := by decide +kernel
theorem dX6_keeps_11 : decode cX6_keeps 11 = .ok (.istore_n 3, 1) := by decide +kernel
theorem dX6_keeps_12 : decode cX6_keeps 12 = .ok (.iload_n 3, 1) := by decide +kernel
theorem dX6_keeps_13 : decode cX6_keeps 13 = .ok (.iconst 5, 1) := by decide +kernel
theorem dX6_keeps_14 : decode cX6_keeps 14 = .ok (.if_icmp .ge 26, 3) := by decide +kernel
theorem dX6_keeps_17 : decode cX6_keeps 17 = .ok (.aload_n 0, 1) := by decide +kernel
theorem dX6_keeps_18 : decode cX6_keeps 18 = .ok (.bipush 15, 2) := by decide +kernel
theorem dX6_keeps_20 : decode cX6_keeps 20 = .ok (.iload_n 2, 1) := by decide +kernel
theorem dX6_keeps_21 : decode cX6_keeps 21 = .ok (.imul, 1) := by decide +kernel
theorem dX6_keeps_22 : decode cX6_keeps 22 = .ok (.iload_n 3, 1) := by decide +kernel
theorem dX6_keeps_23 : decode cX6_keeps 23 = .ok (.iadd, 1) := by decide +kernel
theorem dX6_keeps_24 : decode cX6_keeps 24 = .ok (.iload_n 1, 1) := by decide +kernel
theorem dX6_keeps_25 : decode cX6_keeps 25 = .ok (.iconst 5, 1) := by decide +kernel
theorem dX6_keeps_26 : decode cX6_keeps 26 = .ok (.iload_n 2, 1) := by decide +kernel
theorem dX6_keeps_27 : decode cX6_keeps 27 = .ok (.imul, 1) := by decide +kernel
theorem dX6_keeps_28 : decode cX6_keeps 28 = .ok (.iadd, 1) := by decide +kernel
theorem dX6_keeps_29 : decode cX6_keeps 29 = .ok (.iload_n 3, 1) := by decide +kernel
theorem dX6_keeps_30 : decode cX6_keeps 30 = .ok (.iadd, 1) := by decide +kernel
theorem dX6_keeps_31 : decode cX6_keeps 31 = .ok (.invokevirtual 67, 3) := by decide +kernel
theorem dX6_keeps_34 : decode cX6_keeps 34 = .ok (.iinc 3 1, 3) := by decide +kernel
theorem dX6_keeps_37 : decode cX6_keeps 37 = .ok (.goto (-25), 3) := by decide +kernel
theorem dX6_keeps_40 : decode cX6_keeps 40 = .ok (.iinc 2 1, 3) := by decide +kernel
theorem dX6_keeps_43 : decode cX6_keeps 43 = .ok (.goto (-41), 3) := by decide +kernel
theorem dX6_keeps_46 : decode cX6_keeps 46 = .ok (.return_, 1) := by decide +kernel
theorem kp_i (d : Nat) {g : GX} {V0 : AH} {mo sz r κ : Nat} {ar ac : Int} {zs : Nat → Int} {Q : AQ} {i : Nat} (hi : i < 5) (hKK : ∀ {V : AH} {z : Nat → Int}, V mo = some (moO mo r κ ar ac) → MN g mo V z → (∀ a, ¬ EN mo a → V a = V0 a) → KpI zs z i 5 → AW g mX6_keeps (d + 1) 40 [(2, .int (iZ (i : Int))), (0, .ref mo), (1, .int (iZ 390))] [] V sz Q) : ∀ (f j : Nat), j + f = 5 → ∀ {V : AH} {z : Nat → Int}, V mo = some (moO mo r κ ar ac) → MN g mo V z → (∀ a, ¬ EN mo a → V a = V0 a) → KpI zs z i j → AW g mX6_keeps (d + 1) 12 [(3, .int (iZ (j : Int))), (2, .int (iZ (i : Int))), (0, .ref mo), (1, .int (iZ 390))] [] V sz Q
  | 0, j, hf, V, z, hmo, hM, hV, hI => by
    obtain rfl : j = 5 := by omega
    refine aw_iload_n dX6_keeps_12 (by rfl) ?_
    refine aw_iconstZ dX6_keeps_13 ?_
    refine aw_icmp_geZ (tgt := 40) dX6_keeps_14 (by decide) (by omega) (by omega) (fun hc_14 => ?_) (fun hc_14 => ?_)
    · refine aw_pk [2, 0, 1] (by rfl) ?_
      exact hKK hmo hM hV hI
    · exact absurd hc_14 (by omega)
  | f + 1, j, hf, V, z, hmo, hM, hV, hI => by
    have IH := fun j hj => @kp_i d g V0 mo sz r κ ar ac zs Q i hi hKK f j hj
    refine aw_iload_n dX6_keeps_12 (by rfl) ?_
    refine aw_iconstZ dX6_keeps_13 ?_
    refine aw_icmp_geZ (tgt := 40) dX6_keeps_14 (by decide) (by omega) (by omega) (fun hc_14 => ?_) (fun hc_14 => ?_)
    · exact absurd hc_14 (by omega)
    · refine aw_aload_n dX6_keeps_17 (by rfl) (Or.inr ⟨_, rfl⟩) ?_
      refine aw_bipushZ dX6_keeps_18 (by decide) ?_
      refine aw_iload_n dX6_keeps_20 (by rfl) ?_
      refine aw_imulZ dX6_keeps_21 ?_
      refine aw_iload_n dX6_keeps_22 (by rfl) ?_
      refine aw_iaddZ dX6_keeps_23 ?_
      refine aw_topi (y := ((15 * i + j : Nat) : Int)) (by omega) ?_
      refine aw_iload_n dX6_keeps_24 (by rfl) ?_
      refine aw_iconstZ dX6_keeps_25 ?_
      refine aw_iload_n dX6_keeps_26 (by rfl) ?_
      refine aw_imulZ dX6_keeps_27 ?_
      refine aw_iaddZ dX6_keeps_28 ?_
      refine aw_iload_n dX6_keeps_29 (by rfl) ?_
      refine aw_iaddZ dX6_keeps_30 ?_
      refine aw_topi (y := ((390 + 5 * i + j : Nat) : Int)) (by omega) ?_
      refine aw_callv vX6_67 dX6_keeps_31 hmo (m_copies g d (a := 15 * i + j) (c := 390 + 5 * i + j) ⟨_, _, _, _, hmo⟩ hM (by omega) (by omega)) (by rfl) (by rfl) (by omega) (Nat.le_of_ble_eq_true rfl) ?_
      rintro _ V1 _ _ _ ⟨rfl, rfl, rfl, hE1, rfl, hM1⟩ -
      refine q0 ?_
      refine aw_iincZ dX6_keeps_34 (by rfl) (by decide) ?_
      refine aw_goto (tgt := 12) dX6_keeps_37 (by decide) ?_
      rw [show ((j : Int) + 1) = ((j + 1 : Nat) : Int) by omega]
      refine aw_pk [3, 2, 0, 1] (by rfl) ?_
      exact IH (j + 1) (by omega) ((hE1 mo (by unfold EN; omega)).trans hmo) hM1 (fun a ha => (hE1 a ha).trans (hV a ha)) (hI.up (by omega) (by omega))
theorem kp_o (d : Nat) {g : GX} {V0 : AH} {mo sz r κ : Nat} {ar ac : Int} {zs : Nat → Int} (hr : r ≤ 5) : ∀ (f i : Nat), i + f = r → ∀ {V : AH} {z : Nat → Int}, V mo = some (moO mo r κ ar ac) → MN g mo V z → (∀ a, ¬ EN mo a → V a = V0 a) → KpI zs z i 0 → AW g mX6_keeps (d + 1) 2 [(2, .int (iZ (i : Int))), (0, .ref mo), (1, .int (iZ 390))] [] V sz (VX V0 sz (EN mo) (fun q V' => none = q ∧ ∃ z', MN g mo V' z' ∧ KpI zs z' r 0))
  | 0, i, hf, V, z, hmo, hM, hV, hI => by
    obtain rfl : r = i := by omega
    refine aw_iload_n dX6_keeps_2 (by rfl) ?_
    refine aw_aload_n dX6_keeps_3 (by rfl) (Or.inr ⟨_, rfl⟩) ?_
    refine aw_get fX6_117 dX6_keeps_4 hmo (by rfl) ?_
    refine aw_icmp_geZ (tgt := 46) dX6_keeps_7 (by decide) (by omega) (by omega) (fun hc_7 => ?_) (fun hc_7 => ?_)
    · refine aw_ret dX6_keeps_46 rfl ?_
      exact ⟨rfl, rfl, rfl, hV, rfl, z, hM, hI⟩
    · exact absurd hc_7 (by omega)
  | f + 1, i, hf, V, z, hmo, hM, hV, hI => by
    have IH := fun i hi => @kp_o d g V0 mo sz r κ ar ac zs hr f i hi
    refine aw_iload_n dX6_keeps_2 (by rfl) ?_
    refine aw_aload_n dX6_keeps_3 (by rfl) (Or.inr ⟨_, rfl⟩) ?_
    refine aw_get fX6_117 dX6_keeps_4 hmo (by rfl) ?_
    refine aw_icmp_geZ (tgt := 46) dX6_keeps_7 (by decide) (by omega) (by omega) (fun hc_7 => ?_) (fun hc_7 => ?_)
    · exact absurd hc_7 (by omega)
    · refine aw_iconstZ dX6_keeps_10 ?_
      refine aw_istore_n dX6_keeps_11 (by decide) ?_
      refine aw_pk [3, 2, 0, 1] (by rfl) ?_
      refine kp_i d (V0 := V0) (zs := zs) (r := r) (κ := κ) (i := i) (by omega) (fun {V1 z1} hmo1 hM1 hV1 hI1 => ?_) 5 0 (by omega) hmo hM hV hI
      refine aw_iincZ dX6_keeps_40 (by rfl) (by decide) ?_
      refine aw_goto (tgt := 2) dX6_keeps_43 (by decide) ?_
      rw [show ((i : Int) + 1) = ((i + 1 : Nat) : Int) by omega]
      refine aw_pk [2, 0, 1] (by rfl) ?_
      exact IH (i + 1) (by omega) hmo1 hM1 hV1 hI1.out
theorem m_keeps (g : GX) (d : Nat) {V : AH} {mo sz r κ : Nat} {ar ac : Int} {zs : Nat → Int} (hmo : V mo = some (moO mo r κ ar ac)) (hM : MN g mo V zs) (hr : r ≤ 5) : AMet g mX6_keeps (d + 1) [.ref mo, .int (iZ 390)] V sz (VX V sz (EN mo) (fun q V' => none = q ∧ ∃ z', MN g mo V' z' ∧ KpI zs z' r 0)) := by
  refine AMet.of rfl rfl (Nat.le_of_ble_eq_true rfl) ?_
  show AW g mX6_keeps (d + 1) 0 [(0, .ref mo), (1, .int (iZ 390))] [] V sz _
  refine aw_iconstZ dX6_keeps_0 ?_
  refine aw_istore_n dX6_keeps_1 (by decide) ?_
  refine aw_pk [2, 0, 1] (by rfl) ?_
  exact kp_o d hr r 0 (by omega) hmo hM (fun _ _ => rfl) ⟨fun a b hab => absurd hab (by omega), fun _ _ => rfl⟩
abbrev mX6_quotient : MI := (yX6_quotient, cX6_quotient, 9, (some FieldType.int), noX)
theorem dX6_quotient_0 : decode cX6_quotient 0 = .ok (.aload_n 0, 1) := by decide +kernel
theorem dX6_quotient_1 : decode cX6_quotient 1 = .ok (.iload_n 1, 1) := by decide +kernel
theorem dX6_quotient_2 : decode cX6_quotient 2 = .ok (.iload_n 2, 1) := by decide +kernel
theorem dX6_quotient_3 : decode cX6_quotient 3 = .ok (.invokevirtual 186, 3) := by decide +kernel
theorem dX6_quotient_6 : decode cX6_quotient 6 = .ok (.ifCond .ne 5, 3) := by decide +kernel
theorem dX6_quotient_9 : decode cX6_quotient 9 = .ok (.iconst (-1), 1) := by decide +kernel
theorem dX6_quotient_10 : decode cX6_quotient 10 = .ok (.ireturn, 1) := by decide +kernel
theorem dX6_quotient_11 : decode cX6_quotient 11 = .ok (.aload_n 0, 1) := by decide +kernel
theorem dX6_quotient_12 : decode cX6_quotient 12 = .ok (.iload_n 1, 1) := by decide +kernel
theorem dX6_quotient_13 : decode cX6_quotient 13 = .ok (.iload_n 2, 1) := by decide +kernel
theorem dX6_quotient_14 : decode cX6_quotient 14 = .ok (.invokevirtual 227, 3) := by decide +kernel
theorem dX6_quotient_17 : decode cX6_quotient 17 = .ok (.ifCond .ne 6, 3) := by decide +kernel
theorem dX6_quotient_20 : decode cX6_quotient 20 = .ok (.bipush (-2), 2) := by decide +kernel
theorem dX6_quotient_22 : decode cX6_quotient 22 = .ok (.ireturn, 1) := by decide +kernel
theorem dX6_quotient_23 : decode cX6_quotient 23 = .ok (.aload_n 0, 1) := by decide +kernel
theorem dX6_quotient_24 : decode cX6_quotient 24 = .ok (.iload_n 1, 1) := by decide +kernel
theorem dX6_quotient_25 : decode cX6_quotient 25 = .ok (.invokevirtual 165, 3) := by decide +kernel
theorem dX6_quotient_28 : decode cX6_quotient 28 = .ok (.aload_n 0, 1) := by decide +kernel
theorem dX6_quotient_29 : decode cX6_quotient 29 = .ok (.getfield 117, 3) := by decide +kernel
theorem dX6_quotient_32 : decode cX6_quotient 32 = .ok (.istore_n 3, 1) := by decide +kernel
theorem dX6_quotient_33 : decode cX6_quotient 33 = .ok (.aload_n 0, 1) := by decide +kernel
theorem dX6_quotient_34 : decode cX6_quotient 34 = .ok (.sipush 390, 3) := by decide +kernel
theorem dX6_quotient_37 : decode cX6_quotient 37 = .ok (.invokevirtual 233, 3) := by decide +kernel
theorem dX6_quotient_40 : decode cX6_quotient 40 = .ok (.aload_n 0, 1) := by decide +kernel
theorem dX6_quotient_41 : decode cX6_quotient 41 = .ok (.iload_n 2, 1) := by decide +kernel
theorem dX6_quotient_42 : decode cX6_quotient 42 = .ok (.invokevirtual 165, 3) := by decide +kernel
theorem dX6_quotient_45 : decode cX6_quotient 45 = .ok (.aload_n 0, 1) := by decide +kernel
theorem dX6_quotient_46 : decode cX6_quotient 46 = .ok (.getfield 117, 3) := by decide +kernel
theorem dX6_quotient_49 : decode cX6_quotient 49 = .ok (.istore 4, 2) := by decide +kernel
theorem dX6_quotient_51 : decode cX6_quotient 51 = .ok (.iconst 0, 1) := by decide +kernel
theorem dX6_quotient_52 : decode cX6_quotient 52 = .ok (.istore 5, 2) := by decide +kernel
theorem dX6_quotient_54 : decode cX6_quotient 54 = .ok (.iload 5, 2) := by decide +kernel
theorem dX6_quotient_56 : decode cX6_quotient 56 = .ok (.iload_n 3, 1) := by decide +kernel
theorem dX6_quotient_57 : decode cX6_quotient 57 = .ok (.if_icmp .ge 115, 3) := by decide +kernel
theorem dX6_quotient_60 : decode cX6_quotient 60 = .ok (.iconst 0, 1) := by decide +kernel
theorem dX6_quotient_61 : decode cX6_quotient 61 = .ok (.istore 6, 2) := by decide +kernel
theorem dX6_quotient_63 : decode cX6_quotient 63 = .ok (.iload 6, 2) := by decide +kernel
theorem dX6_quotient_65 : decode cX6_quotient 65 = .ok (.iconst 5, 1) := by decide +kernel
theorem dX6_quotient_66 : decode cX6_quotient 66 = .ok (.if_icmp .ge 30, 3) := by decide +kernel
theorem dX6_quotient_69 : decode cX6_quotient 69 = .ok (.aload_n 0, 1) := by decide +kernel
theorem dX6_quotient_70 : decode cX6_quotient 70 = .ok (.sipush 390, 3) := by decide +kernel
theorem dX6_quotient_73 : decode cX6_quotient 73 = .ok (.iconst 5, 1) := by decide +kernel
theorem dX6_quotient_74 : decode cX6_quotient 74 = .ok (.iload 5, 2) := by decide +kernel
theorem dX6_quotient_76 : decode cX6_quotient 76 = .ok (.imul, 1) := by decide +kernel
theorem dX6_quotient_77 : decode cX6_quotient 77 = .ok (.iadd, 1) := by decide +kernel
theorem dX6_quotient_78 : decode cX6_quotient 78 = .ok (.iload 6, 2) := by decide +kernel
theorem dX6_quotient_80 : decode cX6_quotient 80 = .ok (.iadd, 1) := by decide +kernel
theorem dX6_quotient_81 : decode cX6_quotient 81 = .ok (.sipush 450, 3) := by decide +kernel
theorem dX6_quotient_84 : decode cX6_quotient 84 = .ok (.iload 6, 2) := by decide +kernel
theorem dX6_quotient_86 : decode cX6_quotient 86 = .ok (.iadd, 1) := by decide +kernel
theorem dX6_quotient_87 : decode cX6_quotient 87 = .ok (.invokevirtual 67, 3) := by decide +kernel
theorem dX6_quotient_90 : decode cX6_quotient 90 = .ok (.iinc 6 1, 3) := by decide +kernel
theorem dX6_quotient_93 : decode cX6_quotient 93 = .ok (.goto (-30), 3) := by decide +kernel
theorem dX6_quotient_96 : decode cX6_quotient 96 = .ok (.aload_n 0, 1) := by decide +kernel
theorem dX6_quotient_97 : decode cX6_quotient 97 = .ok (.sipush 450, 3) := by decide +kernel
theorem dX6_quotient_100 : decode cX6_quotient 100 = .ok (.invokevirtual 221, 3) := by decide +kernel
theorem dX6_quotient_103 : decode cX6_quotient 103 = .ok (.pop, 1) := by decide +kernel
theorem dX6_quotient_104 : decode cX6_quotient 104 = .ok (.iconst 0, 1) := by decide +kernel
theorem dX6_quotient_105 : decode cX6_quotient 105 = .ok (.istore 6, 2) := by decide +kernel
theorem dX6_quotient_107 : decode cX6_quotient 107 = .ok (.iload 6, 2) := by decide +kernel
theorem dX6_quotient_109 : decode cX6_quotient 109 = .ok (.iconst 5, 1) := by decide +kernel
theorem dX6_quotient_110 : decode cX6_quotient 110 = .ok (.if_icmp .ge 56, 3) := by decide +kernel
theorem dX6_quotient_113 : decode cX6_quotient 113 = .ok (.iload 6, 2) := by decide +kernel
theorem dX6_quotient_115 : decode cX6_quotient 115 = .ok (.iload 4, 2) := by decide +kernel
theorem dX6_quotient_117 : decode cX6_quotient 117 = .ok (.if_icmp .ge 27, 3) := by decide +kernel
theorem dX6_quotient_120 : decode cX6_quotient 120 = .ok (.aload_n 0, 1) := by decide +kernel
theorem dX6_quotient_121 : decode cX6_quotient 121 = .ok (.sipush 440, 3) := by decide +kernel
theorem dX6_quotient_124 : decode cX6_quotient 124 = .ok (.iload 6, 2) := by decide +kernel
theorem dX6_quotient_126 : decode cX6_quotient 126 = .ok (.iadd, 1) := by decide +kernel
theorem dX6_quotient_127 : decode cX6_quotient 127 = .ok (.sipush 365, 3) := by decide +kernel
theorem dX6_quotient_130 : decode cX6_quotient 130 = .ok (.iconst 5, 1) := by decide +kernel
theorem dX6_quotient_131 : decode cX6_quotient 131 = .ok (.iload 5, 2) := by decide +kernel
theorem dX6_quotient_133 : decode cX6_quotient 133 = .ok (.imul, 1) := by decide +kernel
theorem dX6_quotient_134 : decode cX6_quotient 134 = .ok (.iadd, 1) := by decide +kernel
theorem dX6_quotient_135 : decode cX6_quotient 135 = .ok (.iload 6, 2) := by decide +kernel
theorem dX6_quotient_137 : decode cX6_quotient 137 = .ok (.iadd, 1) := by decide +kernel
theorem dX6_quotient_138 : decode cX6_quotient 138 = .ok (.invokevirtual 67, 3) := by decide +kernel
theorem dX6_quotient_141 : decode cX6_quotient 141 = .ok (.goto 19, 3) := by decide +kernel
theorem dX6_quotient_144 : decode cX6_quotient 144 = .ok (.aload_n 0, 1) := by decide +kernel
theorem dX6_quotient_145 : decode cX6_quotient 145 = .ok (.sipush 365, 3) := by decide +kernel
theorem dX6_quotient_148 : decode cX6_quotient 148 = .ok (.iconst 5, 1) := by decide +kernel
theorem dX6_quotient_149 : decode cX6_quotient 149 = .ok (.iload 5, 2) := by decide +kernel
theorem dX6_quotient_151 : decode cX6_quotient 151 = .ok (.imul, 1) := by decide +kernel
theorem dX6_quotient_152 : decode cX6_quotient 152 = .ok (.iadd, 1) := by decide +kernel
theorem dX6_quotient_153 : decode cX6_quotient 153 = .ok (.iload 6, 2) := by decide +kernel
theorem dX6_quotient_155 : decode cX6_quotient 155 = .ok (.iadd, 1) := by decide +kernel
theorem dX6_quotient_156 : decode cX6_quotient 156 = .ok (.lconst 0, 1) := by decide +kernel
theorem dX6_quotient_157 : decode cX6_quotient 157 = .ok (.invokevirtual 83, 3) := by decide +kernel
theorem dX6_quotient_160 : decode cX6_quotient 160 = .ok (.iinc 6 1, 3) := by decide +kernel
theorem dX6_quotient_163 : decode cX6_quotient 163 = .ok (.goto (-56), 3) := by decide +kernel
theorem dX6_quotient_166 : decode cX6_quotient 166 = .ok (.iinc 5 1, 3) := by decide +kernel
theorem dX6_quotient_169 : decode cX6_quotient 169 = .ok (.goto (-115), 3) := by decide +kernel
theorem dX6_quotient_172 : decode cX6_quotient 172 = .ok (.iconst 0, 1) := by decide +kernel
theorem dX6_quotient_173 : decode cX6_quotient 173 = .ok (.istore 5, 2) := by decide +kernel
theorem dX6_quotient_175 : decode cX6_quotient 175 = .ok (.aload_n 0, 1) := by decide +kernel
theorem dX6_quotient_176 : decode cX6_quotient 176 = .ok (.sipush 427, 3) := by decide +kernel
theorem dX6_quotient_179 : decode cX6_quotient 179 = .ok (.lconst 1, 1) := by decide +kernel
theorem dX6_quotient_180 : decode cX6_quotient 180 = .ok (.invokevirtual 83, 3) := by decide +kernel
theorem dX6_quotient_183 : decode cX6_quotient 183 = .ok (.iconst 1, 1) := by decide +kernel
theorem dX6_quotient_184 : decode cX6_quotient 184 = .ok (.istore 6, 2) := by decide +kernel
theorem dX6_quotient_186 : decode cX6_quotient 186 = .ok (.iload 6, 2) := by decide +kernel
theorem dX6_quotient_188 : decode cX6_quotient 188 = .ok (.iload_n 3, 1) := by decide +kernel
theorem dX6_quotient_189 : decode cX6_quotient 189 = .ok (.if_icmp .gt 174, 3) := by decide +kernel
theorem dX6_quotient_192 : decode cX6_quotient 192 = .ok (.aload_n 0, 1) := by decide +kernel
theorem dX6_quotient_193 : decode cX6_quotient 193 = .ok (.sipush 426, 3) := by decide +kernel
theorem dX6_quotient_196 : decode cX6_quotient 196 = .ok (.lconst 0, 1) := by decide +kernel
theorem dX6_quotient_197 : decode cX6_quotient 197 = .ok (.invokevirtual 83, 3) := by decide +kernel
theorem dX6_quotient_200 : decode cX6_quotient 200 = .ok (.iconst 0, 1) := by decide +kernel
theorem dX6_quotient_201 : decode cX6_quotient 201 = .ok (.istore 7, 2) := by decide +kernel
theorem dX6_quotient_203 : decode cX6_quotient 203 = .ok (.iload 7, 2) := by decide +kernel
theorem dX6_quotient_205 : decode cX6_quotient 205 = .ok (.iconst 1, 1) := by decide +kernel
theorem dX6_quotient_206 : decode cX6_quotient 206 = .ok (.iload_n 3, 1) := by decide +kernel
theorem dX6_quotient_207 : decode cX6_quotient 207 = .ok (.ishl, 1) := by decide +kernel
theorem dX6_quotient_208 : decode cX6_quotient 208 = .ok (.if_icmp .ge 84, 3) := by decide +kernel
theorem dX6_quotient_211 : decode cX6_quotient 211 = .ok (.iconst 0, 1) := by decide +kernel
theorem dX6_quotient_212 : decode cX6_quotient 212 = .ok (.istore 8, 2) := by decide +kernel
theorem dX6_quotient_214 : decode cX6_quotient 214 = .ok (.iload 8, 2) := by decide +kernel
theorem dX6_quotient_216 : decode cX6_quotient 216 = .ok (.iconst 1, 1) := by decide +kernel
theorem dX6_quotient_217 : decode cX6_quotient 217 = .ok (.iload 4, 2) := by decide +kernel
theorem dX6_quotient_219 : decode cX6_quotient 219 = .ok (.ishl, 1) := by decide +kernel
theorem dX6_quotient_220 : decode cX6_quotient 220 = .ok (.if_icmp .ge 66, 3) := by decide +kernel
theorem dX6_quotient_223 : decode cX6_quotient 223 = .ok (.iload 7, 2) := by decide +kernel
theorem dX6_quotient_225 : decode cX6_quotient 225 = .ok (.invokestatic 204, 3) := by decide +kernel
theorem dX6_quotient_228 : decode cX6_quotient 228 = .ok (.iload 6, 2) := by decide +kernel
theorem dX6_quotient_230 : decode cX6_quotient 230 = .ok (.if_icmp .ne 50, 3) := by decide +kernel
theorem dX6_quotient_233 : decode cX6_quotient 233 = .ok (.iload 8, 2) := by decide +kernel
theorem dX6_quotient_235 : decode cX6_quotient 235 = .ok (.invokestatic 204, 3) := by decide +kernel
theorem dX6_quotient_238 : decode cX6_quotient 238 = .ok (.iload 6, 2) := by decide +kernel
theorem dX6_quotient_240 : decode cX6_quotient 240 = .ok (.if_icmp .eq 6, 3) := by decide +kernel
theorem dX6_quotient_243 : decode cX6_quotient 243 = .ok (.goto 37, 3) := by decide +kernel
theorem dX6_quotient_246 : decode cX6_quotient 246 = .ok (.aload_n 0, 1) := by decide +kernel
theorem dX6_quotient_247 : decode cX6_quotient 247 = .ok (.getfield 49, 3) := by decide +kernel
theorem dX6_quotient_250 : decode cX6_quotient 250 = .ok (.iload 7, 2) := by decide +kernel
theorem dX6_quotient_252 : decode cX6_quotient 252 = .ok (.invokestatic 169, 3) := by decide +kernel
theorem dX6_quotient_255 : decode cX6_quotient 255 = .ok (.aload_n 0, 1) := by decide +kernel
theorem dX6_quotient_256 : decode cX6_quotient 256 = .ok (.getfield 52, 3) := by decide +kernel
theorem dX6_quotient_259 : decode cX6_quotient 259 = .ok (.iload 8, 2) := by decide +kernel
theorem dX6_quotient_261 : decode cX6_quotient 261 = .ok (.invokestatic 169, 3) := by decide +kernel
theorem dX6_quotient_264 : decode cX6_quotient 264 = .ok (.aload_n 0, 1) := by decide +kernel
theorem dX6_quotient_265 : decode cX6_quotient 265 = .ok (.iload 6, 2) := by decide +kernel
theorem dX6_quotient_267 : decode cX6_quotient 267 = .ok (.invokevirtual 236, 3) := by decide +kernel
theorem dX6_quotient_270 : decode cX6_quotient 270 = .ok (.aload_n 0, 1) := by decide +kernel
theorem dX6_quotient_271 : decode cX6_quotient 271 = .ok (.sipush 426, 3) := by decide +kernel
theorem dX6_quotient_274 : decode cX6_quotient 274 = .ok (.sipush 424, 3) := by decide +kernel
theorem dX6_quotient_277 : decode cX6_quotient 277 = .ok (.invokevirtual 224, 3) := by decide +kernel
theorem dX6_quotient_280 : decode cX6_quotient 280 = .ok (.iinc 8 1, 3) := by decide +kernel
theorem dX6_quotient_283 : decode cX6_quotient 283 = .ok (.goto (-69), 3) := by decide +kernel
theorem dX6_quotient_286 : decode cX6_quotient 286 = .ok (.iinc 7 1, 3) := by decide +kernel
theorem dX6_quotient_289 : decode cX6_quotient 289 = .ok (.goto (-86), 3) := by decide +kernel
theorem dX6_quotient_292 : decode cX6_quotient 292 = .ok (.aload_n 0, 1) := by decide +kernel
theorem dX6_quotient_293 : decode cX6_quotient 293 = .ok (.sipush 426, 3) := by decide +kernel
theorem dX6_quotient_296 : decode cX6_quotient 296 = .ok (.sipush 427, 3) := by decide +kernel
theorem dX6_quotient_299 : decode cX6_quotient 299 = .ok (.sipush 428, 3) := by decide +kernel
theorem dX6_quotient_302 : decode cX6_quotient 302 = .ok (.invokevirtual 91, 3) := by decide +kernel
theorem dX6_quotient_305 : decode cX6_quotient 305 = .ok (.aload_n 0, 1) := by decide +kernel
theorem dX6_quotient_306 : decode cX6_quotient 306 = .ok (.sipush 426, 3) := by decide +kernel
theorem dX6_quotient_309 : decode cX6_quotient 309 = .ok (.sipush 427, 3) := by decide +kernel
theorem dX6_quotient_312 : decode cX6_quotient 312 = .ok (.invokevirtual 67, 3) := by decide +kernel
theorem dX6_quotient_315 : decode cX6_quotient 315 = .ok (.aload_n 0, 1) := by decide +kernel
theorem dX6_quotient_316 : decode cX6_quotient 316 = .ok (.getfield 14, 3) := by decide +kernel
theorem dX6_quotient_319 : decode cX6_quotient 319 = .ok (.sipush 428, 3) := by decide +kernel
theorem dX6_quotient_322 : decode cX6_quotient 322 = .ok (.iaload, 1) := by decide +kernel
theorem dX6_quotient_323 : decode cX6_quotient 323 = .ok (.iconst 1, 1) := by decide +kernel
theorem dX6_quotient_324 : decode cX6_quotient 324 = .ok (.if_icmp .ne 17, 3) := by decide +kernel
theorem dX6_quotient_327 : decode cX6_quotient 327 = .ok (.aload_n 0, 1) := by decide +kernel
theorem dX6_quotient_328 : decode cX6_quotient 328 = .ok (.getfield 8, 3) := by decide +kernel
theorem dX6_quotient_331 : decode cX6_quotient 331 = .ok (.ldc 239, 2) := by decide +kernel
theorem dX6_quotient_333 : decode cX6_quotient 333 = .ok (.iaload, 1) := by decide +kernel
theorem dX6_quotient_334 : decode cX6_quotient 334 = .ok (.iconst 1, 1) := by decide +kernel
theorem dX6_quotient_335 : decode cX6_quotient 335 = .ok (.if_icmp .ne 6, 3) := by decide +kernel
theorem dX6_quotient_338 : decode cX6_quotient 338 = .ok (.goto 19, 3) := by decide +kernel
theorem dX6_quotient_341 : decode cX6_quotient 341 = .ok (.aload_n 0, 1) := by decide +kernel
theorem dX6_quotient_342 : decode cX6_quotient 342 = .ok (.sipush 428, 3) := by decide +kernel
theorem dX6_quotient_345 : decode cX6_quotient 345 = .ok (.sipush 265, 3) := by decide +kernel
theorem dX6_quotient_348 : decode cX6_quotient 348 = .ok (.iload 5, 2) := by decide +kernel
theorem dX6_quotient_350 : decode cX6_quotient 350 = .ok (.iadd, 1) := by decide +kernel
theorem dX6_quotient_351 : decode cX6_quotient 351 = .ok (.invokevirtual 67, 3) := by decide +kernel
theorem dX6_quotient_354 : decode cX6_quotient 354 = .ok (.iinc 5 1, 3) := by decide +kernel
theorem dX6_quotient_357 : decode cX6_quotient 357 = .ok (.iinc 6 1, 3) := by decide +kernel
theorem dX6_quotient_360 : decode cX6_quotient 360 = .ok (.goto (-174), 3) := by decide +kernel
theorem dX6_quotient_363 : decode cX6_quotient 363 = .ok (.aload_n 0, 1) := by decide +kernel
theorem dX6_quotient_364 : decode cX6_quotient 364 = .ok (.iload 5, 2) := by decide +kernel
theorem dX6_quotient_366 : decode cX6_quotient 366 = .ok (.ifCond .ne 7, 3) := by decide +kernel
theorem dX6_quotient_369 : decode cX6_quotient 369 = .ok (.iconst 0, 1) := by decide +kernel
theorem dX6_quotient_370 : decode cX6_quotient 370 = .ok (.goto 4, 3) := by decide +kernel
theorem dX6_quotient_373 : decode cX6_quotient 373 = .ok (.iconst 1, 1) := by decide +kernel
theorem dX6_quotient_374 : decode cX6_quotient 374 = .ok (.iload 5, 2) := by decide +kernel
theorem dX6_quotient_376 : decode cX6_quotient 376 = .ok (.invokevirtual 189, 3) := by decide +kernel
theorem dX6_quotient_379 : decode cX6_quotient 379 = .ok (.bipush 10, 2) := by decide +kernel
theorem dX6_quotient_381 : decode cX6_quotient 381 = .ok (.iload 4, 2) := by decide +kernel
theorem dX6_quotient_383 : decode cX6_quotient 383 = .ok (.iload_n 3, 1) := by decide +kernel
theorem dX6_quotient_384 : decode cX6_quotient 384 = .ok (.isub, 1) := by decide +kernel
theorem dX6_quotient_385 : decode cX6_quotient 385 = .ok (.imul, 1) := by decide +kernel
theorem dX6_quotient_386 : decode cX6_quotient 386 = .ok (.iload 5, 2) := by decide +kernel
theorem dX6_quotient_388 : decode cX6_quotient 388 = .ok (.iadd, 1) := by decide +kernel
theorem dX6_quotient_389 : decode cX6_quotient 389 = .ok (.ireturn, 1) := by decide +kernel
/-- rows that are held against a STAIR, their bound X -/
theorem rcp_X {zs z' : Nat → Int} {N : Mat} {n r κ : Nat} {l lk : Nat → Nat} {X : Int} (hX : 1 ≤ X) (hst : Stair (CMx r zs) (r + κ) 15 (lcx r l lk)) (hl5 : ∀ i, i < r → l i < 5) (hsp : SpEq (GTx N) n (CMx r zs) (r + κ) 15) (hN : ∀ i j, i < n → j < 5 → ab (N i j) ≤ 1000) (hn : r + κ ≤ 10) (hz : ∀ x, x < 150 → z' x = zs x) (hrow : ∀ j, j < 5 → ab (z' (450 + j)) ≤ X) : RcP z' r l X (10 * TM10) := by
  obtain ⟨hpS, -, -⟩ := cm_parts hst hl5
  have hr : r ≤ 5 := by
    rcases Nat.lt_or_ge 5 r with h | h
    · have h1 := hpS.1.le_l 5 h
      have h2 := hl5 5 h
      omega
    · exact h
  have e : ∀ i j, i < r → j < 15 → z' (15 * i + j) = BMx 0 15 zs i j := fun i j hi hj => by
    unfold BMx
    rw [hz _ (by omega), Nat.zero_add]
  refine ⟨⟨fun i hi => ⟨hl5 i hi, ?_, fun j hj => ?_⟩, hpS.1.2⟩, fun i hi => ?_, fun i j hi hj => ?_, hrow, hX, by have := tm10; omega⟩
  · show z' (15 * i + l i) ≠ 0
    rw [e i _ hi (by have := hl5 i hi; omega)]
    exact (hpS.1.1 i hi).2.1
  · show z' (15 * i + j) = 0
    rw [e i _ hi (by have := hl5 i hi; omega)]
    exact (hpS.1.1 i hi).2.2 j hj
  · rw [e i _ hi (by have := hl5 i hi; omega)]
    exact hpS.2.1 i hi
  · have := hst.bdm (tu_lbm hN) hsp (by omega) (i := i) (by omega) (j := j) (by omega)
    rw [cm_s hi, ← hz _ (by omega)] at this
    exact this
theorem qx_sm : SmM (10 * TM10 * (1 + 10 * TM10) ^ 5) := by
  unfold SmM
  decide +kernel
def InQ : Nat → Prop := fun q => (365 ≤ q ∧ q < 390) ∨ InW q
/-- the multiples of rows before i -/
def QcI (zs z : Nat → Int) (al i : Nat) : Prop := (∀ a j, a < i → j < 5 → zs (390 + 5 * a + j) = Sg (fun e => z (365 + 5 * a + e) * zs (15 * e + j)) al) ∧ Frm zs z InQ
set_option maxRecDepth 20000 in
theorem qm_c (d : Nat) {g : GX} {V0 : AH} {mo sz x y r al i : Nat} {rk kn ar ac : Int} {zs : Nat → Int} {Q : AQ} (hi : i < 5) (hKK : ∀ {V : AH} {z : Nat → Int}, V mo = some (moO mo rk kn ar ac) → MN g mo V z → (∀ a, ¬ EN mo a → V a = V0 a) → CpZ zs z (390 + 5 * i) 450 5 → AW g mX6_quotient (d + 4) 96 [(5, .int (iZ (i : Int))), (4, .int (iZ (al : Int))), (3, .int (iZ (r : Int))), (0, .ref mo), (1, .int (iZ (x : Int))), (2, .int (iZ (y : Int)))] [] V sz Q) : ∀ (f j : Nat), j + f = 5 → ∀ {V : AH} {z : Nat → Int}, V mo = some (moO mo rk kn ar ac) → MN g mo V z → (∀ a, ¬ EN mo a → V a = V0 a) → CpZ zs z (390 + 5 * i) 450 j → AW g mX6_quotient (d + 4) 63 [(6, .int (iZ (j : Int))), (5, .int (iZ (i : Int))), (4, .int (iZ (al : Int))), (3, .int (iZ (r : Int))), (0, .ref mo), (1, .int (iZ (x : Int))), (2, .int (iZ (y : Int)))] [] V sz Q
  | 0, j, hf, V, z, hmo, hM, hV, hI => by
    obtain rfl : j = 5 := by omega
    refine aw_iload dX6_quotient_63 (by rfl) ?_
    refine aw_iconstZ dX6_quotient_65 ?_
    refine aw_icmp_geZ (tgt := 96) dX6_quotient_66 (by decide) (by omega) (by omega) (fun hc_66 => ?_) (fun hc_66 => ?_)
    · refine aw_pk [5, 4, 3, 0, 1, 2] (by rfl) ?_
      exact hKK hmo hM hV hI
    · exact absurd hc_66 (by omega)
  | f + 1, j, hf, V, z, hmo, hM, hV, hI => by
    have IH := fun j hj => @qm_c d g V0 mo sz x y r al i rk kn ar ac zs Q hi hKK f j hj
    refine aw_iload dX6_quotient_63 (by rfl) ?_
    refine aw_iconstZ dX6_quotient_65 ?_
    refine aw_icmp_geZ (tgt := 96) dX6_quotient_66 (by decide) (by omega) (by omega) (fun hc_66 => ?_) (fun hc_66 => ?_)
    · exact absurd hc_66 (by omega)
    · refine aw_aload_n dX6_quotient_69 (by rfl) (Or.inr ⟨_, rfl⟩) ?_
      refine aw_sipushZ dX6_quotient_70 (by decide) ?_
      refine aw_iconstZ dX6_quotient_73 ?_
      refine aw_iload dX6_quotient_74 (by rfl) ?_
      refine aw_imulZ dX6_quotient_76 ?_
      refine aw_iaddZ dX6_quotient_77 ?_
      refine aw_iload dX6_quotient_78 (by rfl) ?_
      refine aw_iaddZ dX6_quotient_80 ?_
      refine aw_topi (y := ((390 + 5 * i + j : Nat) : Int)) (by omega) ?_
      refine aw_sipushZ dX6_quotient_81 (by decide) ?_
      refine aw_iload dX6_quotient_84 (by rfl) ?_
      refine aw_iaddZ dX6_quotient_86 ?_
      refine aw_topi (y := ((450 + j : Nat) : Int)) (by omega) ?_
      refine aw_callv vX6_67 dX6_quotient_87 hmo (m_copies g (d + 3) (a := 390 + 5 * i + j) (c := 450 + j) ⟨_, _, _, _, hmo⟩ hM (by omega) (by omega)) (by rfl) (by rfl) (by omega) (Nat.le_of_ble_eq_true rfl) ?_
      rintro _ V1 _ _ _ ⟨rfl, rfl, rfl, hE1, rfl, hM1⟩ -
      refine q0 ?_
      refine aw_iincZ dX6_quotient_90 (by rfl) (by decide) ?_
      refine aw_goto (tgt := 63) dX6_quotient_93 (by decide) ?_
      rw [show ((j : Int) + 1) = ((j + 1 : Nat) : Int) by omega]
      refine aw_pk [6, 5, 4, 3, 0, 1, 2] (by rfl) ?_
      exact IH (j + 1) (by omega) ((hE1 mo (by unfold EN; omega)).trans hmo) hM1 (fun a ha => (hE1 a ha).trans (hV a ha)) (hI.up (by omega))
set_option maxRecDepth 20000 in
theorem qm_k (d : Nat) {g : GX} {V0 : AH} {mo sz x y r al i : Nat} {rk kn ar ac : Int} {zs : Nat → Int} {Q : AQ} (hi : i < 5) (hal : al ≤ 5) (hKK : ∀ {V : AH} {z : Nat → Int}, V mo = some (moO mo rk kn ar ac) → MN g mo V z → (∀ a, ¬ EN mo a → V a = V0 a) → (∀ q, z q = if 365 + 5 * i ≤ q ∧ q < 365 + 5 * i + 5 then (if q - (365 + 5 * i) < al then zs (440 + (q - (365 + 5 * i))) else 0) else zs q) → AW g mX6_quotient (d + 4) 166 [(5, .int (iZ (i : Int))), (4, .int (iZ (al : Int))), (3, .int (iZ (r : Int))), (0, .ref mo), (1, .int (iZ (x : Int))), (2, .int (iZ (y : Int)))] [] V sz Q) : ∀ (f k : Nat), k + f = 5 → ∀ {V : AH} {z : Nat → Int}, V mo = some (moO mo rk kn ar ac) → MN g mo V z → (∀ a, ¬ EN mo a → V a = V0 a) → (∀ q, z q = if 365 + 5 * i ≤ q ∧ q < 365 + 5 * i + k then (if q - (365 + 5 * i) < al then zs (440 + (q - (365 + 5 * i))) else 0) else zs q) → AW g mX6_quotient (d + 4) 107 [(6, .int (iZ (k : Int))), (5, .int (iZ (i : Int))), (4, .int (iZ (al : Int))), (3, .int (iZ (r : Int))), (0, .ref mo), (1, .int (iZ (x : Int))), (2, .int (iZ (y : Int)))] [] V sz Q
  | 0, k, hf, V, z, hmo, hM, hV, hI => by
    obtain rfl : k = 5 := by omega
    refine aw_iload dX6_quotient_107 (by rfl) ?_
    refine aw_iconstZ dX6_quotient_109 ?_
    refine aw_icmp_geZ (tgt := 166) dX6_quotient_110 (by decide) (by omega) (by omega) (fun hc_110 => ?_) (fun hc_110 => ?_)
    · refine aw_pk [5, 4, 3, 0, 1, 2] (by rfl) ?_
      exact hKK hmo hM hV hI
    · exact absurd hc_110 (by omega)
  | f + 1, k, hf, V, z, hmo, hM, hV, hI => by
    have IH := fun k hk => @qm_k d g V0 mo sz x y r al i rk kn ar ac zs Q hi hal hKK f k hk
    refine aw_iload dX6_quotient_107 (by rfl) ?_
    refine aw_iconstZ dX6_quotient_109 ?_
    refine aw_icmp_geZ (tgt := 166) dX6_quotient_110 (by decide) (by omega) (by omega) (fun hc_110 => ?_) (fun hc_110 => ?_)
    · exact absurd hc_110 (by omega)
    · refine aw_iload dX6_quotient_113 (by rfl) ?_
      refine aw_iload dX6_quotient_115 (by rfl) ?_
      refine aw_icmp_geZ (tgt := 144) dX6_quotient_117 (by decide) (by omega) (by omega) (fun hc_117 => ?_) (fun hc_117 => ?_)
      · refine aw_aload_n dX6_quotient_144 (by rfl) (Or.inr ⟨_, rfl⟩) ?_
        refine aw_sipushZ dX6_quotient_145 (by decide) ?_
        refine aw_iconstZ dX6_quotient_148 ?_
        refine aw_iload dX6_quotient_149 (by rfl) ?_
        refine aw_imulZ dX6_quotient_151 ?_
        refine aw_iaddZ dX6_quotient_152 ?_
        refine aw_iload dX6_quotient_153 (by rfl) ?_
        refine aw_iaddZ dX6_quotient_155 ?_
        refine aw_topi (y := ((365 + 5 * i + k : Nat) : Int)) (by omega) ?_
        refine aw_lconstZ (z := 0) dX6_quotient_156 (by decide) ?_
        refine aw_callv vX6_83 dX6_quotient_157 hmo (m_becomes g (d + 3) (c := 365 + 5 * i + k) (v := 0) ⟨_, _, _, _, hmo⟩ hM (by omega) (by omega)) (by rfl) (by rfl) (by omega) (Nat.le_of_ble_eq_true rfl) ?_
        rintro _ V1 _ _ _ ⟨rfl, rfl, rfl, hE1, rfl, hM1⟩ -
        refine q0 ?_
        refine aw_iincZ dX6_quotient_160 (by rfl) (by decide) ?_
        refine aw_goto (tgt := 107) dX6_quotient_163 (by decide) ?_
        rw [show ((k : Int) + 1) = ((k + 1 : Nat) : Int) by omega]
        refine aw_pk [6, 5, 4, 3, 0, 1, 2] (by rfl) ?_
        exact IH (k + 1) (by omega) ((hE1 mo (by unfold EN; omega)).trans hmo) hM1 (fun a ha => (hE1 a ha).trans (hV a ha)) (fun q => by
          by_cases e1 : q = 365 + 5 * i + k
          · rw [e1, upF_self, if_pos (show 365 + 5 * i ≤ 365 + 5 * i + k ∧ 365 + 5 * i + k < 365 + 5 * i + (k + 1) by omega), show 365 + 5 * i + k - (365 + 5 * i) = k by omega]
            first
            | (rw [if_pos (by omega), hI _, if_neg (by omega)]; done)
            | (rw [if_neg (by omega)]; done)
          · rw [upF_ne _ _ e1, hI q]
            by_cases e2 : 365 + 5 * i ≤ q ∧ q < 365 + 5 * i + k
            · rw [if_pos e2, if_pos (show 365 + 5 * i ≤ q ∧ q < 365 + 5 * i + (k + 1) by omega)]
            · rw [if_neg e2, if_neg (show ¬ (365 + 5 * i ≤ q ∧ q < 365 + 5 * i + (k + 1)) by omega)])
      · refine aw_aload_n dX6_quotient_120 (by rfl) (Or.inr ⟨_, rfl⟩) ?_
        refine aw_sipushZ dX6_quotient_121 (by decide) ?_
        refine aw_iload dX6_quotient_124 (by rfl) ?_
        refine aw_iaddZ dX6_quotient_126 ?_
        refine aw_topi (y := ((440 + k : Nat) : Int)) (by omega) ?_
        refine aw_sipushZ dX6_quotient_127 (by decide) ?_
        refine aw_iconstZ dX6_quotient_130 ?_
        refine aw_iload dX6_quotient_131 (by rfl) ?_
        refine aw_imulZ dX6_quotient_133 ?_
        refine aw_iaddZ dX6_quotient_134 ?_
        refine aw_iload dX6_quotient_135 (by rfl) ?_
        refine aw_iaddZ dX6_quotient_137 ?_
        refine aw_topi (y := ((365 + 5 * i + k : Nat) : Int)) (by omega) ?_
        refine aw_callv vX6_67 dX6_quotient_138 hmo (m_copies g (d + 3) (a := 440 + k) (c := 365 + 5 * i + k) ⟨_, _, _, _, hmo⟩ hM (by omega) (by omega)) (by rfl) (by rfl) (by omega) (Nat.le_of_ble_eq_true rfl) ?_
        rintro _ V1 _ _ _ ⟨rfl, rfl, rfl, hE1, rfl, hM1⟩ -
        refine q0 ?_
        refine aw_goto (tgt := 160) dX6_quotient_141 (by decide) ?_
        refine aw_iincZ dX6_quotient_160 (by rfl) (by decide) ?_
        refine aw_goto (tgt := 107) dX6_quotient_163 (by decide) ?_
        rw [show ((k : Int) + 1) = ((k + 1 : Nat) : Int) by omega]
        refine aw_pk [6, 5, 4, 3, 0, 1, 2] (by rfl) ?_
        exact IH (k + 1) (by omega) ((hE1 mo (by unfold EN; omega)).trans hmo) hM1 (fun a ha => (hE1 a ha).trans (hV a ha)) (fun q => by
          by_cases e1 : q = 365 + 5 * i + k
          · rw [e1, upF_self, if_pos (show 365 + 5 * i ≤ 365 + 5 * i + k ∧ 365 + 5 * i + k < 365 + 5 * i + (k + 1) by omega), show 365 + 5 * i + k - (365 + 5 * i) = k by omega]
            first
            | (rw [if_pos (by omega), hI _, if_neg (by omega)]; done)
            | (rw [if_neg (by omega)]; done)
          · rw [upF_ne _ _ e1, hI q]
            by_cases e2 : 365 + 5 * i ≤ q ∧ q < 365 + 5 * i + k
            · rw [if_pos e2, if_pos (show 365 + 5 * i ≤ q ∧ q < 365 + 5 * i + (k + 1) by omega)]
            · rw [if_neg e2, if_neg (show ¬ (365 + 5 * i ≤ q ∧ q < 365 + 5 * i + (k + 1)) by omega)])
set_option maxRecDepth 20000 in
theorem qm_i (d : Nat) {g : GX} {V0 : AH} {mo sz x y r al κ : Nat} {ar ac : Int} {zs RW : Nat → Int} {N : Mat} {n : Nat} {l lk : Nat → Nat} {Q : AQ} (hr5 : r ≤ 5) (hal : al ≤ 5) (hra0 : V0 (mo + 6) = some (aIz g 11 RW)) (hl : ∀ i, i < al → RW i = (l i : Int)) (hst : Stair (CMx al zs) (al + κ) 15 (lcx al l lk)) (hl5 : ∀ i, i < al → l i < 5) (hsp : SpEq (GTx N) n (CMx al zs) (al + κ) 15) (hN : ∀ i j, i < n → j < 5 → ab (N i j) ≤ 1000) (hn : al + κ ≤ 10) (hrow : ∀ i j, i < r → j < 5 → ab (zs (390 + 5 * i + j)) ≤ 10 * TM10) (hin : ∀ i, i < r → Span (B5 zs) al 5 (fun j => zs (390 + 5 * i + j))) (hKK : ∀ {V : AH} {z : Nat → Int}, V mo = some (moO mo al κ ar ac) → MN g mo V z → (∀ a, ¬ EN mo a → V a = V0 a) → QcI zs z al r → AW g mX6_quotient (d + 6) 172 [(4, .int (iZ (al : Int))), (3, .int (iZ (r : Int))), (0, .ref mo), (1, .int (iZ (x : Int))), (2, .int (iZ (y : Int)))] [] V sz Q) : ∀ (f i : Nat), i + f = r → ∀ {V : AH} {z : Nat → Int}, V mo = some (moO mo al κ ar ac) → MN g mo V z → (∀ a, ¬ EN mo a → V a = V0 a) → QcI zs z al i → AW g mX6_quotient (d + 6) 54 [(5, .int (iZ (i : Int))), (4, .int (iZ (al : Int))), (3, .int (iZ (r : Int))), (0, .ref mo), (1, .int (iZ (x : Int))), (2, .int (iZ (y : Int)))] [] V sz Q
  | 0, i, hf, V, z, hmo, hM, hV, hI => by
    obtain rfl : r = i := by omega
    refine aw_iload dX6_quotient_54 (by rfl) ?_
    refine aw_iload_n dX6_quotient_56 (by rfl) ?_
    refine aw_icmp_geZ (tgt := 172) dX6_quotient_57 (by decide) (by omega) (by omega) (fun hc_57 => ?_) (fun hc_57 => ?_)
    · refine aw_pk [4, 3, 0, 1, 2] (by rfl) ?_
      exact hKK hmo hM hV hI
    · exact absurd hc_57 (by omega)
  | f + 1, i, hf, V, z, hmo, hM, hV, hI => by
    have IH := fun i hi => @qm_i d g V0 mo sz x y r al κ ar ac zs RW N n l lk Q hr5 hal hra0 hl hst hl5 hsp hN hn hrow hin hKK f i hi
    refine aw_iload dX6_quotient_54 (by rfl) ?_
    refine aw_iload_n dX6_quotient_56 (by rfl) ?_
    refine aw_icmp_geZ (tgt := 172) dX6_quotient_57 (by decide) (by omega) (by omega) (fun hc_57 => ?_) (fun hc_57 => ?_)
    · exact absurd hc_57 (by omega)
    · refine aw_iconstZ dX6_quotient_60 ?_
      refine aw_istore dX6_quotient_61 (by decide) ?_
      refine aw_pk [6, 5, 4, 3, 0, 1, 2] (by rfl) ?_
      refine qm_c (d + 2) (V0 := V) (zs := z) (rk := (al : Int)) (kn := (κ : Int)) (ar := ar) (ac := ac) (by omega) (fun {V1 z1} hmo1 hM1 hV1 hC1 => ?_) 5 0 (by omega) hmo hM (fun _ _ => rfl) CpZ.nil
      have hzl : ∀ q, q < 150 → z1 q = zs q := fun q hq => by rw [hC1 q, if_neg (by omega)]; exact hI.2 q (by unfold InQ InW; omega)
      have h450 : ∀ j, j < 5 → z1 (450 + j) = zs (390 + 5 * i + j) := fun j hj => by
        rw [hC1 _, if_pos (by omega), show 390 + 5 * i + (450 + j - 450) = 390 + 5 * i + j by omega]
        exact hI.2 _ (by unfold InQ InW; omega)
      have hp1 := rcp_X (z' := z1) (X := 10 * TM10) (by have := tm10; omega) hst hl5 hsp hN hn hzl (fun j hj => by rw [h450 j hj]; exact hrow i j (by omega) hj)
      refine aw_aload_n dX6_quotient_96 (by rfl) (Or.inr ⟨_, rfl⟩) ?_
      refine aw_sipushZ dX6_quotient_97 (by decide) ?_
      refine aw_topi (y := 450) rfl ?_
      refine aw_callv vX6_221 dX6_quotient_100 hmo1 (m_reaches g (d + 2) hp1 hmo1 hM1 ((hV1 _ (by unfold EN; omega)).trans ((hV _ (by unfold EN; omega)).trans hra0)) hl qx_sm) (by rfl) (by rfl) (by omega) (Nat.le_of_ble_eq_true rfl) ?_
      rintro _ V2 _ _ _ ⟨rfl, rfl, rfl, hE2, z2, hM2, hF2, hr2⟩ -
      refine q0 ?_
      have hmo2 := (hE2 mo (by unfold EN; omega)).trans hmo1
      have hz2 : ∀ q, ¬ InW q → z2 q = z q := fun q hq => by rw [hF2 q hq, hC1 q, if_neg (by unfold InW at hq; omega)]
      have hmul : ∀ j, j < 5 → zs (390 + 5 * i + j) = Sg (fun e => z2 (440 + e) * zs (15 * e + j)) al := fun j hj => by
        rcases hr2 with ⟨-, h⟩ | ⟨-, h⟩
        · have h2 := h j hj
          rw [h450 j hj] at h2
          rw [h2]
          exact Sg_congr (fun e he => by rw [hzl _ (by omega)])
        · refine absurd ?_ h
          have h3 := span_sub (A := B5 z1) (A' := B5 zs) (h' := al) (fun e he => (Span.row (A := B5 z1) (i := e) he).congr (fun j hj => hzl _ (by omega))) (hin i (by omega))
          exact h3.congr (fun j hj => (h450 j hj).symm)
      have K104 : AW g mX6_quotient (d + 6) 104 [(5, .int (iZ (i : Int))), (4, .int (iZ (al : Int))), (3, .int (iZ (r : Int))), (0, .ref mo), (1, .int (iZ (x : Int))), (2, .int (iZ (y : Int)))] [] V2 sz Q := by
        refine aw_iconstZ dX6_quotient_104 ?_
        refine aw_istore dX6_quotient_105 (by decide) ?_
        refine aw_pk [6, 5, 4, 3, 0, 1, 2] (by rfl) ?_
        refine qm_k (d + 2) (V0 := V2) (zs := z2) (rk := (al : Int)) (kn := (κ : Int)) (ar := ar) (ac := ac) (by omega) hal (fun {V3 z3} hmo3 hM3 hV3 hI3 => ?_) 5 0 (by omega) hmo2 hM2 (fun _ _ => rfl) (fun q => by rw [if_neg (by omega)])
        refine aw_iincZ dX6_quotient_166 (by rfl) (by decide) ?_
        refine aw_goto (tgt := 54) dX6_quotient_169 (by decide) ?_
        rw [show ((i : Int) + 1) = ((i + 1 : Nat) : Int) by omega]
        refine aw_pk [5, 4, 3, 0, 1, 2] (by rfl) ?_
        refine IH (i + 1) (by omega) hmo3 hM3 (fun a ha => (hV3 a ha).trans ((hE2 a ha).trans ((hV1 a ha).trans (hV a ha)))) ⟨fun a j ha hj => ?_, fun q hq => ?_⟩
        · by_cases c : a = i
          · subst c
            rw [hmul j hj]
            exact Sg_congr (fun e he => by rw [hI3 _, if_pos (by omega), show 365 + 5 * a + e - (365 + 5 * a) = e by omega, if_pos he])
          · rw [hI.1 a j (by omega) hj]
            exact Sg_congr (fun e he => by rw [hI3 _, if_neg (by omega), hz2 _ (by unfold InW; omega)])
        · unfold InQ at hq
          rw [hI3 q, if_neg (by unfold InW at hq; omega), hz2 q (fun z => hq (Or.inr z))]
          exact hI.2 q hq
      rcases hr2 with ⟨rfl, -⟩ | ⟨rfl, -⟩
      · refine aw_pop dX6_quotient_103 rfl ?_
        exact K104
      · refine aw_pop dX6_quotient_103 rfl ?_
        exact K104

/-! ===== the reference: becomes and ends, the desk arrays kept ===== -/
def EL (mo : Nat) : Nat → Prop := fun a => mo + 1 ≤ a ∧ a ≤ mo + 3
theorem bc_loopL (g : GX) (d : Nat) {mo sz c : Nat} {v rk kn ar ac : Int} {zs D0 LN SG O1 O2 : Nat → Int} (hc : c < 460) (hv : -9223372036854775808 < v ∧ v < 9223372036854775808) (h0 : ∀ c, c < 460 → NuV D0 LN SG c (zs c)) : ∀ (x n : Nat), n + x = 3 → ∀ {V : AH} {D : Nat → Int} {r : Int}, (0 ≤ r ∧ r < 9223372036854775808) → V mo = some (moO mo rk kn ar ac) → MA g mo V D LN SG O1 O2 → (∀ k, k < 100 * c ∨ 100 * c + 100 ≤ k → D k = D0 k) → (∀ k, k < n → 0 ≤ dg D c k ∧ dg D c k < 268435456) → mg 268435456 (dg D c) n + r * 268435456 ^ n = (v.natAbs : Int) → (n = 0 ∨ 0 < r ∨ dg D c (n - 1) ≠ 0) → AW g mX6_becomes d 17 [(6, .int (iZ n)), (4, .long (jZ r)), (0, .ref mo), (1, .int (iZ c)), (2, .long (jZ v))] [] V sz (VX V sz (EL mo) (fun q V' => none = q ∧ MN g mo V' (upF zs c v)))
  | 0, n, hx, V, D, r, hr, hmo, hA, hD, hF, hE, hT => by
    have END : r = 0 → AW g mX6_becomes d 57 [(6, .int (iZ n)), (0, .ref mo), (1, .int (iZ c)), (2, .long (jZ v))] [] V sz (VX V sz (EL mo) (fun q V' => none = q ∧ MN g mo V' (upF zs c v))) := fun hr0 => by
      refine aw_aload_n dX6_becomes_57 (by rfl) (Or.inr ⟨_, rfl⟩) ?_
      refine aw_get fX6_14 dX6_becomes_58 hmo (by rfl) ?_
      refine aw_iload_n dX6_becomes_61 (by rfl) ?_
      refine aw_iload dX6_becomes_62 (by rfl) ?_
      refine aw_iastZ (c) dX6_becomes_64 hA.2.1 (by omega) (by omega) (by omega) ?_
      refine VX.stp (V1 := AHu V (mo + 2) _) (fun a ha => AHu_ne (fun q => ha (by unfold EL; omega))) ?_
      have hmo1 : (AHu V (mo + 2) (aIz g 460 (upF LN c (n : Int)))) mo = _ := (AHu_ne (by omega)).trans hmo
      have hA1 : MA g mo (AHu V (mo + 2) (aIz g 460 (upF LN c (n : Int)))) D (upF LN c (n : Int)) SG O1 O2 := hA.l
      refine aw_aload_n dX6_becomes_65 (by rfl) (Or.inr ⟨_, rfl⟩) ?_
      refine aw_get fX6_17 dX6_becomes_66 hmo1 (by rfl) ?_
      refine aw_iload_n dX6_becomes_69 (by rfl) ?_
      refine aw_lload_n dX6_becomes_70 (by rfl) ?_
      refine aw_lconstZ (z := 0) dX6_becomes_71 (by decide) ?_
      refine aw_lcmpZ dX6_becomes_72 (by omega) (by omega) ?_
      refine aw_if_leZ (tgt := 80) dX6_becomes_73 (by decide) (cmpZ_R _ _) (fun hc_73 => ?_) (fun hc_73 => ?_)
      · have hv0 := cmpZ_le.mp hc_73
        refine aw_lload_n dX6_becomes_80 (by rfl) ?_
        refine aw_lconstZ (z := 0) dX6_becomes_81 (by decide) ?_
        refine aw_lcmpZ dX6_becomes_82 (by omega) (by omega) ?_
        refine aw_if_geZ (tgt := 90) dX6_becomes_83 (by decide) (cmpZ_R _ _) (fun hc_83 => ?_) (fun hc_83 => ?_)
        · have hv1 := cmpZ_ge.mp hc_83
          refine aw_iconstZ dX6_becomes_90 ?_
          refine aw_topi (y := v.sign) (by rw [sg_of]; split <;> (try split) <;> omega) ?_
          refine aw_iastZ (c) dX6_becomes_91 hA1.2.2.1 (by omega) (by omega) (by omega) ?_
          refine VX.stp (V1 := AHu (AHu V (mo + 2) (aIz g 460 (upF LN c (n : Int)))) (mo + 3) _) (fun a ha => AHu_ne (fun q => ha (by unfold EL; omega))) ?_
          refine aw_ret dX6_becomes_92 rfl ?_
          refine VX.ret ⟨rfl, D, upF LN c (n : Int), upF SG c v.sign, O1, O2, hA1.s, nu_all h0 ⟨n, upF_self _ _ _, by omega, upF_self _ _ _, hF, ?_, ?_⟩ hD (fun k hk => upF_ne _ _ hk) (fun k hk => upF_ne _ _ hk)⟩
          · rw [hr0, Int.zero_mul, Int.add_zero] at hE
            exact hE
          · rcases hT with z | z | z
            · exact Or.inl z
            · omega
            · exact Or.inr z
        · have hv1 : ¬ 0 ≤ v := fun z => hc_83 (cmpZ_ge.mpr z)
          refine aw_iconstZ dX6_becomes_86 ?_
          refine aw_goto (tgt := 91) dX6_becomes_87 (by decide) ?_
          refine aw_topi (y := v.sign) (by rw [sg_of]; split <;> (try split) <;> omega) ?_
          refine aw_iastZ (c) dX6_becomes_91 hA1.2.2.1 (by omega) (by omega) (by omega) ?_
          refine VX.stp (V1 := AHu (AHu V (mo + 2) (aIz g 460 (upF LN c (n : Int)))) (mo + 3) _) (fun a ha => AHu_ne (fun q => ha (by unfold EL; omega))) ?_
          refine aw_ret dX6_becomes_92 rfl ?_
          refine VX.ret ⟨rfl, D, upF LN c (n : Int), upF SG c v.sign, O1, O2, hA1.s, nu_all h0 ⟨n, upF_self _ _ _, by omega, upF_self _ _ _, hF, ?_, ?_⟩ hD (fun k hk => upF_ne _ _ hk) (fun k hk => upF_ne _ _ hk)⟩
          · rw [hr0, Int.zero_mul, Int.add_zero] at hE
            exact hE
          · rcases hT with z | z | z
            · exact Or.inl z
            · omega
            · exact Or.inr z
      · have hv0 : ¬ v ≤ 0 := fun z => hc_73 (cmpZ_le.mpr z)
        refine aw_iconstZ dX6_becomes_76 ?_
        refine aw_goto (tgt := 91) dX6_becomes_77 (by decide) ?_
        refine aw_topi (y := v.sign) (by rw [sg_of]; split <;> (try split) <;> omega) ?_
        refine aw_iastZ (c) dX6_becomes_91 hA1.2.2.1 (by omega) (by omega) (by omega) ?_
        refine VX.stp (V1 := AHu (AHu V (mo + 2) (aIz g 460 (upF LN c (n : Int)))) (mo + 3) _) (fun a ha => AHu_ne (fun q => ha (by unfold EL; omega))) ?_
        refine aw_ret dX6_becomes_92 rfl ?_
        refine VX.ret ⟨rfl, D, upF LN c (n : Int), upF SG c v.sign, O1, O2, hA1.s, nu_all h0 ⟨n, upF_self _ _ _, by omega, upF_self _ _ _, hF, ?_, ?_⟩ hD (fun k hk => upF_ne _ _ hk) (fun k hk => upF_ne _ _ hk)⟩
        · rw [hr0, Int.zero_mul, Int.add_zero] at hE
          exact hE
        · rcases hT with z | z | z
          · exact Or.inl z
          · omega
          · exact Or.inr z
    refine aw_lload dX6_becomes_17 (by rfl) ?_
    refine aw_lconstZ (z := 0) dX6_becomes_19 (by decide) ?_
    refine aw_lcmpZ dX6_becomes_20 (by omega) (by omega) ?_
    refine aw_if_leZ (tgt := 57) dX6_becomes_21 (by decide) (cmpZ_R _ _) (fun hc_21 => ?_) (fun hc_21 => ?_)
    · have hr0 : r = 0 := by
        have := cmpZ_le.mp hc_21
        omega
      exact aw_pk [6, 0, 1, 2] (by rfl) (END hr0)
    · have hr1 : 0 < r := by
        have : ¬ r ≤ 0 := fun z => hc_21 (cmpZ_le.mpr z)
        omega
      have hn3 := bc_n (F := dg D c) hr1 hF hE hv
      refine aw_aload_n dX6_becomes_24 (by rfl) (Or.inr ⟨_, rfl⟩) ?_
      refine aw_get fX6_8 dX6_becomes_25 hmo (by rfl) ?_
      refine aw_bipushZ dX6_becomes_28 (by decide) ?_
      refine aw_iload_n dX6_becomes_30 (by rfl) ?_
      refine aw_imulZ dX6_becomes_31 ?_
      refine aw_iload dX6_becomes_32 (by rfl) ?_
      refine aw_iaddZ dX6_becomes_34 ?_
      refine aw_lload dX6_becomes_35 (by rfl) ?_
      refine aw_ldc2Z (z := 268435456) qX6_65 dX6_becomes_37 (by decide) ?_
      refine aw_lremZ dX6_becomes_40 (by omega) (by omega) (by omega) (by omega) ?_
      rw [Int.tmod_eq_emod_of_nonneg (by omega)]
      refine aw_l2iZ dX6_becomes_41 ?_
      refine aw_iastZ (100 * c + n) dX6_becomes_42 hA.1 (by omega) (by omega) (by omega) ?_
      refine VX.stp (V1 := AHu V (mo + 1) _) (fun a ha => AHu_ne (fun q => ha (by unfold EL; omega))) ?_
      refine aw_lload dX6_becomes_43 (by rfl) ?_
      refine aw_ldc2Z (z := 268435456) qX6_65 dX6_becomes_45 (by decide) ?_
      refine aw_ldivZ dX6_becomes_48 (by omega) (by omega) (by omega) (by omega) ?_
      rw [Int.tdiv_eq_ediv_of_nonneg (by omega)]
      refine aw_lstore dX6_becomes_49 (by decide) ?_
      refine aw_iincZ dX6_becomes_51 (by rfl) (by decide) ?_
      refine aw_goto (tgt := 17) dX6_becomes_54 (by decide) ?_
      exact absurd hn3 (by omega)
  | x + 1, n, hx, V, D, r, hr, hmo, hA, hD, hF, hE, hT => by
    have END : r = 0 → AW g mX6_becomes d 57 [(6, .int (iZ n)), (0, .ref mo), (1, .int (iZ c)), (2, .long (jZ v))] [] V sz (VX V sz (EL mo) (fun q V' => none = q ∧ MN g mo V' (upF zs c v))) := fun hr0 => by
      refine aw_aload_n dX6_becomes_57 (by rfl) (Or.inr ⟨_, rfl⟩) ?_
      refine aw_get fX6_14 dX6_becomes_58 hmo (by rfl) ?_
      refine aw_iload_n dX6_becomes_61 (by rfl) ?_
      refine aw_iload dX6_becomes_62 (by rfl) ?_
      refine aw_iastZ (c) dX6_becomes_64 hA.2.1 (by omega) (by omega) (by omega) ?_
      refine VX.stp (V1 := AHu V (mo + 2) _) (fun a ha => AHu_ne (fun q => ha (by unfold EL; omega))) ?_
      have hmo1 : (AHu V (mo + 2) (aIz g 460 (upF LN c (n : Int)))) mo = _ := (AHu_ne (by omega)).trans hmo
      have hA1 : MA g mo (AHu V (mo + 2) (aIz g 460 (upF LN c (n : Int)))) D (upF LN c (n : Int)) SG O1 O2 := hA.l
      refine aw_aload_n dX6_becomes_65 (by rfl) (Or.inr ⟨_, rfl⟩) ?_
      refine aw_get fX6_17 dX6_becomes_66 hmo1 (by rfl) ?_
      refine aw_iload_n dX6_becomes_69 (by rfl) ?_
      refine aw_lload_n dX6_becomes_70 (by rfl) ?_
      refine aw_lconstZ (z := 0) dX6_becomes_71 (by decide) ?_
      refine aw_lcmpZ dX6_becomes_72 (by omega) (by omega) ?_
      refine aw_if_leZ (tgt := 80) dX6_becomes_73 (by decide) (cmpZ_R _ _) (fun hc_73 => ?_) (fun hc_73 => ?_)
      · have hv0 := cmpZ_le.mp hc_73
        refine aw_lload_n dX6_becomes_80 (by rfl) ?_
        refine aw_lconstZ (z := 0) dX6_becomes_81 (by decide) ?_
        refine aw_lcmpZ dX6_becomes_82 (by omega) (by omega) ?_
        refine aw_if_geZ (tgt := 90) dX6_becomes_83 (by decide) (cmpZ_R _ _) (fun hc_83 => ?_) (fun hc_83 => ?_)
        · have hv1 := cmpZ_ge.mp hc_83
          refine aw_iconstZ dX6_becomes_90 ?_
          refine aw_topi (y := v.sign) (by rw [sg_of]; split <;> (try split) <;> omega) ?_
          refine aw_iastZ (c) dX6_becomes_91 hA1.2.2.1 (by omega) (by omega) (by omega) ?_
          refine VX.stp (V1 := AHu (AHu V (mo + 2) (aIz g 460 (upF LN c (n : Int)))) (mo + 3) _) (fun a ha => AHu_ne (fun q => ha (by unfold EL; omega))) ?_
          refine aw_ret dX6_becomes_92 rfl ?_
          refine VX.ret ⟨rfl, D, upF LN c (n : Int), upF SG c v.sign, O1, O2, hA1.s, nu_all h0 ⟨n, upF_self _ _ _, by omega, upF_self _ _ _, hF, ?_, ?_⟩ hD (fun k hk => upF_ne _ _ hk) (fun k hk => upF_ne _ _ hk)⟩
          · rw [hr0, Int.zero_mul, Int.add_zero] at hE
            exact hE
          · rcases hT with z | z | z
            · exact Or.inl z
            · omega
            · exact Or.inr z
        · have hv1 : ¬ 0 ≤ v := fun z => hc_83 (cmpZ_ge.mpr z)
          refine aw_iconstZ dX6_becomes_86 ?_
          refine aw_goto (tgt := 91) dX6_becomes_87 (by decide) ?_
          refine aw_topi (y := v.sign) (by rw [sg_of]; split <;> (try split) <;> omega) ?_
          refine aw_iastZ (c) dX6_becomes_91 hA1.2.2.1 (by omega) (by omega) (by omega) ?_
          refine VX.stp (V1 := AHu (AHu V (mo + 2) (aIz g 460 (upF LN c (n : Int)))) (mo + 3) _) (fun a ha => AHu_ne (fun q => ha (by unfold EL; omega))) ?_
          refine aw_ret dX6_becomes_92 rfl ?_
          refine VX.ret ⟨rfl, D, upF LN c (n : Int), upF SG c v.sign, O1, O2, hA1.s, nu_all h0 ⟨n, upF_self _ _ _, by omega, upF_self _ _ _, hF, ?_, ?_⟩ hD (fun k hk => upF_ne _ _ hk) (fun k hk => upF_ne _ _ hk)⟩
          · rw [hr0, Int.zero_mul, Int.add_zero] at hE
            exact hE
          · rcases hT with z | z | z
            · exact Or.inl z
            · omega
            · exact Or.inr z
      · have hv0 : ¬ v ≤ 0 := fun z => hc_73 (cmpZ_le.mpr z)
        refine aw_iconstZ dX6_becomes_76 ?_
        refine aw_goto (tgt := 91) dX6_becomes_77 (by decide) ?_
        refine aw_topi (y := v.sign) (by rw [sg_of]; split <;> (try split) <;> omega) ?_
        refine aw_iastZ (c) dX6_becomes_91 hA1.2.2.1 (by omega) (by omega) (by omega) ?_
        refine VX.stp (V1 := AHu (AHu V (mo + 2) (aIz g 460 (upF LN c (n : Int)))) (mo + 3) _) (fun a ha => AHu_ne (fun q => ha (by unfold EL; omega))) ?_
        refine aw_ret dX6_becomes_92 rfl ?_
        refine VX.ret ⟨rfl, D, upF LN c (n : Int), upF SG c v.sign, O1, O2, hA1.s, nu_all h0 ⟨n, upF_self _ _ _, by omega, upF_self _ _ _, hF, ?_, ?_⟩ hD (fun k hk => upF_ne _ _ hk) (fun k hk => upF_ne _ _ hk)⟩
        · rw [hr0, Int.zero_mul, Int.add_zero] at hE
          exact hE
        · rcases hT with z | z | z
          · exact Or.inl z
          · omega
          · exact Or.inr z
    have IH := fun n hn => @bc_loopL g d mo sz c v rk kn ar ac zs D0 LN SG O1 O2 hc hv h0 x n hn
    refine aw_lload dX6_becomes_17 (by rfl) ?_
    refine aw_lconstZ (z := 0) dX6_becomes_19 (by decide) ?_
    refine aw_lcmpZ dX6_becomes_20 (by omega) (by omega) ?_
    refine aw_if_leZ (tgt := 57) dX6_becomes_21 (by decide) (cmpZ_R _ _) (fun hc_21 => ?_) (fun hc_21 => ?_)
    · have hr0 : r = 0 := by
        have := cmpZ_le.mp hc_21
        omega
      exact aw_pk [6, 0, 1, 2] (by rfl) (END hr0)
    · have hr1 : 0 < r := by
        have : ¬ r ≤ 0 := fun z => hc_21 (cmpZ_le.mpr z)
        omega
      have hn3 := bc_n (F := dg D c) hr1 hF hE hv
      refine aw_aload_n dX6_becomes_24 (by rfl) (Or.inr ⟨_, rfl⟩) ?_
      refine aw_get fX6_8 dX6_becomes_25 hmo (by rfl) ?_
      refine aw_bipushZ dX6_becomes_28 (by decide) ?_
      refine aw_iload_n dX6_becomes_30 (by rfl) ?_
      refine aw_imulZ dX6_becomes_31 ?_
      refine aw_iload dX6_becomes_32 (by rfl) ?_
      refine aw_iaddZ dX6_becomes_34 ?_
      refine aw_lload dX6_becomes_35 (by rfl) ?_
      refine aw_ldc2Z (z := 268435456) qX6_65 dX6_becomes_37 (by decide) ?_
      refine aw_lremZ dX6_becomes_40 (by omega) (by omega) (by omega) (by omega) ?_
      rw [Int.tmod_eq_emod_of_nonneg (by omega)]
      refine aw_l2iZ dX6_becomes_41 ?_
      refine aw_iastZ (100 * c + n) dX6_becomes_42 hA.1 (by omega) (by omega) (by omega) ?_
      refine VX.stp (V1 := AHu V (mo + 1) _) (fun a ha => AHu_ne (fun q => ha (by unfold EL; omega))) ?_
      refine aw_lload dX6_becomes_43 (by rfl) ?_
      refine aw_ldc2Z (z := 268435456) qX6_65 dX6_becomes_45 (by decide) ?_
      refine aw_ldivZ dX6_becomes_48 (by omega) (by omega) (by omega) (by omega) ?_
      rw [Int.tdiv_eq_ediv_of_nonneg (by omega)]
      refine aw_lstore dX6_becomes_49 (by decide) ?_
      refine aw_iincZ dX6_becomes_51 (by rfl) (by decide) ?_
      refine aw_goto (tgt := 17) dX6_becomes_54 (by decide) ?_
      rw [show ((n : Int) + 1) = ((n + 1 : Nat) : Int) by omega]
      refine aw_pk [6, 4, 0, 1, 2] (by rfl) ?_
      exact IH (n + 1) (by omega) (r := r / 268435456) (by omega) ((AHu_ne (by omega)).trans hmo) hA.d (fun k hk => by rw [upF_ne _ _ (by omega)]; exact hD k hk) (fun k hk => by show 0 ≤ upF D (100 * c + n) (r % 268435456) (100 * c + k) ∧ upF D (100 * c + n) (r % 268435456) (100 * c + k) < _; unfold upF; split; omega; exact hF k (by omega)) (bc_E hE) (by by_cases z : r < 268435456; exact Or.inr (Or.inr (by show upF D (100 * c + n) (r % 268435456) (100 * c + (n + 1 - 1)) ≠ 0; rw [show n + 1 - 1 = n by omega, upF_self]; omega)); exact Or.inr (Or.inl (by omega)))
theorem m_becomesL (g : GX) (d : Nat) {V : AH} {mo sz c : Nat} {v : Int} {zs : Nat → Int} (hm : moV mo V) (h : MN g mo V zs) (hc : c < 460) (hv : -9223372036854775808 < v ∧ v < 9223372036854775808) : AMet g mX6_becomes d [.ref mo, .int (iZ c), .long (jZ v)] V sz (VX V sz (EL mo) (fun q V' => none = q ∧ MN g mo V' (upF zs c v))) := by
  obtain ⟨rk, kn, ar, ac, hmo⟩ := hm
  obtain ⟨D, LN, SG, O1, O2, hA, h0⟩ := h
  refine AMet.of rfl rfl (Nat.le_of_ble_eq_true rfl) ?_
  show AW g mX6_becomes d 0 [(0, .ref mo), (1, .int (iZ c)), (2, .long (jZ v))] [] V sz _
  refine aw_lload_n dX6_becomes_0 (by rfl) ?_
  refine aw_lconstZ (z := 0) dX6_becomes_1 (by decide) ?_
  refine aw_lcmpZ dX6_becomes_2 (by omega) (by omega) ?_
  refine aw_if_geZ (tgt := 11) dX6_becomes_3 (by decide) (cmpZ_R _ _) (fun hc_3 => ?_) (fun hc_3 => ?_)
  · have hv0 := cmpZ_ge.mp hc_3
    refine aw_lload_n dX6_becomes_11 (by rfl) ?_
    refine aw_topl (y := (v.natAbs : Int)) (by omega) ?_
    refine aw_lstore dX6_becomes_12 (by decide) ?_
    refine aw_iconstZ dX6_becomes_14 ?_
    refine aw_istore dX6_becomes_15 (by decide) ?_
    refine aw_pk [6, 4, 0, 1, 2] (by rfl) ?_
    exact bc_loopL g d hc hv h0 3 0 (by omega) (by omega) hmo hA (fun _ _ => rfl) (fun k hk => absurd hk (by omega)) (by simp [mg]) (Or.inl rfl)
  · have hv0 : ¬ 0 ≤ v := fun z => hc_3 (cmpZ_ge.mpr z)
    refine aw_lload_n dX6_becomes_6 (by rfl) ?_
    refine aw_lnegZ dX6_becomes_7 ?_
    refine aw_goto (tgt := 12) dX6_becomes_8 (by decide) ?_
    refine aw_topl (y := (v.natAbs : Int)) (by omega) ?_
    refine aw_lstore dX6_becomes_12 (by decide) ?_
    refine aw_iconstZ dX6_becomes_14 ?_
    refine aw_istore dX6_becomes_15 (by decide) ?_
    refine aw_pk [6, 4, 0, 1, 2] (by rfl) ?_
    exact bc_loopL g d hc hv h0 3 0 (by omega) (by omega) hmo hA (fun _ _ => rfl) (fun k hk => absurd hk (by omega)) (by simp [mg]) (Or.inl rfl)
theorem en_loopL {g : GX} {V : AH} {mo sz : Nat} {rk kn ar ac : Int} {D LN SG O1 O2 : Nat → Int} (d : Nat) {c n : Nat} {s z : Int} {zs : Nat → Int} (hmo : V mo = some (moO mo rk kn ar ac)) (hA : MA g mo V D LN SG O1 O2) (h0 : ∀ q, q < 460 → q ≠ c → NuV D LN SG q (zs q)) (hc : c < 460) (hn : n ≤ 100) (hF : ∀ k, k < n → 0 ≤ dg D c k ∧ dg D c k < 268435456) (hz : mg 268435456 (dg D c) n = (z.natAbs : Int)) (hs : z ≠ 0 → s = z.sign) : ∀ k : Nat, k ≤ n → mg 268435456 (dg D c) n = mg 268435456 (dg D c) k → AW g mX6_ends d 3 [(4, .int (iZ k)), (0, .ref mo), (1, .int (iZ c)), (3, .int (iZ s))] [] V sz (VX V sz (EL mo) (fun q V' => none = q ∧ MN g mo V' (upF zs c z)))
  | k, hk, hE => by
    have END : (k = 0 ∨ dg D c (k - 1) ≠ 0) → AW g mX6_ends d 31 [(4, .int (iZ k)), (0, .ref mo), (1, .int (iZ c)), (3, .int (iZ s))] [] V sz (VX V sz (EL mo) (fun q V' => none = q ∧ MN g mo V' (upF zs c z))) := fun htop => by
      have hk0 : z = 0 ↔ k = 0 := by
        have h1 := mg_zero (show (0 : Int) < 268435456 by omega) (F := dg D c) (n := k) (fun j hj => hF j (by omega)) htop
        rw [← hE, hz] at h1
        omega
      refine aw_aload_n dX6_ends_31 (by rfl) (Or.inr ⟨_, rfl⟩) ?_
      refine aw_get fX6_14 dX6_ends_32 hmo (by rfl) ?_
      refine aw_iload_n dX6_ends_35 (by rfl) ?_
      refine aw_iload dX6_ends_36 (by rfl) ?_
      refine aw_iastZ (c) dX6_ends_38 hA.2.1 (by omega) (by omega) (by omega) ?_
      refine VX.stp (V1 := AHu V (mo + 2) _) (fun a ha => AHu_ne (fun q => ha (by unfold EL; omega))) ?_
      have hmo1 : (AHu V (mo + 2) (aIz g 460 (upF LN c (k : Int)))) mo = _ := (AHu_ne (by omega)).trans hmo
      have hA1 : MA g mo (AHu V (mo + 2) (aIz g 460 (upF LN c (k : Int)))) D (upF LN c (k : Int)) SG O1 O2 := hA.l
      refine aw_aload_n dX6_ends_39 (by rfl) (Or.inr ⟨_, rfl⟩) ?_
      refine aw_get fX6_17 dX6_ends_40 hmo1 (by rfl) ?_
      refine aw_iload_n dX6_ends_43 (by rfl) ?_
      refine aw_iload dX6_ends_44 (by rfl) ?_
      refine aw_if_neZ (tgt := 53) dX6_ends_46 (by decide) (by omega) (fun hc_46 => ?_) (fun hc_46 => ?_)
      · refine aw_iload_n dX6_ends_53 (by rfl) ?_
        refine aw_topi (y := z.sign) (by first | (rw [hs (fun q => hc_46 (by have := hk0.mp q; omega))]; done) | (rw [hk0.mpr (by omega)]; rfl)) ?_
        refine aw_iastZ (c) dX6_ends_54 hA1.2.2.1 (by omega) (by omega) (by omega) ?_
        refine VX.stp (V1 := AHu (AHu V (mo + 2) (aIz g 460 (upF LN c (k : Int)))) (mo + 3) _) (fun a ha => AHu_ne (fun q => ha (by unfold EL; omega))) ?_
        refine aw_ret dX6_ends_55 rfl ?_
        refine VX.ret ⟨rfl, D, upF LN c (k : Int), upF SG c z.sign, O1, O2, hA1.s, fun q hq => ?_⟩
        by_cases e : q = c
        · rw [e, upF_self]
          exact ⟨k, upF_self _ _ _, by omega, upF_self _ _ _, fun j hj => hF j (by omega), hE.symm.trans hz, htop⟩
        · rw [upF_ne _ _ e]
          exact (h0 q hq e).kept (fun _ _ => rfl) (upF_ne _ _ e) (upF_ne _ _ e)
      · refine aw_iconstZ dX6_ends_49 ?_
        refine aw_goto (tgt := 54) dX6_ends_50 (by decide) ?_
        refine aw_topi (y := z.sign) (by first | (rw [hs (fun q => hc_46 (by have := hk0.mp q; omega))]; done) | (rw [hk0.mpr (by omega)]; rfl)) ?_
        refine aw_iastZ (c) dX6_ends_54 hA1.2.2.1 (by omega) (by omega) (by omega) ?_
        refine VX.stp (V1 := AHu (AHu V (mo + 2) (aIz g 460 (upF LN c (k : Int)))) (mo + 3) _) (fun a ha => AHu_ne (fun q => ha (by unfold EL; omega))) ?_
        refine aw_ret dX6_ends_55 rfl ?_
        refine VX.ret ⟨rfl, D, upF LN c (k : Int), upF SG c z.sign, O1, O2, hA1.s, fun q hq => ?_⟩
        by_cases e : q = c
        · rw [e, upF_self]
          exact ⟨k, upF_self _ _ _, by omega, upF_self _ _ _, fun j hj => hF j (by omega), hE.symm.trans hz, htop⟩
        · rw [upF_ne _ _ e]
          exact (h0 q hq e).kept (fun _ _ => rfl) (upF_ne _ _ e) (upF_ne _ _ e)
    revert END
    cases k with
    | zero =>
      intro END
      refine aw_iload dX6_ends_3 (by rfl) ?_
      refine aw_if_leZ (tgt := 31) dX6_ends_5 (by decide) (by omega) (fun hc_5 => ?_) (fun hc_5 => ?_)
      · exact END (Or.inl rfl)
      · exact absurd (by omega) hc_5
    | succ k =>
      intro END
      have IH := en_loopL (sz := sz) d hmo hA h0 hc hn hF hz hs k
      rw [show ((k + 1 : Nat) : Int) = (k : Int) + 1 by omega]
      refine aw_iload dX6_ends_3 (by rfl) ?_
      refine aw_if_leZ (tgt := 31) dX6_ends_5 (by decide) (by omega) (fun hc_5 => ?_) (fun hc_5 => ?_)
      · exact absurd hc_5 (by omega)
      · refine aw_aload_n dX6_ends_8 (by rfl) (Or.inr ⟨_, rfl⟩) ?_
        refine aw_get fX6_8 dX6_ends_9 hmo (by rfl) ?_
        refine aw_bipushZ dX6_ends_12 (by decide) ?_
        refine aw_iload_n dX6_ends_14 (by rfl) ?_
        refine aw_imulZ dX6_ends_15 ?_
        refine aw_iload dX6_ends_16 (by rfl) ?_
        refine aw_iaddZ dX6_ends_18 ?_
        refine aw_iconstZ dX6_ends_19 ?_
        refine aw_isubZ dX6_ends_20 ?_
        refine aw_ialdZ (100 * c + k) dX6_ends_21 hA.1 (by omega) (by omega) (by omega) ?_
        refine aw_if_neZ (tgt := 31) dX6_ends_22 (by decide) (by have := hF k (by omega); unfold dg at this; omega) (fun hc_22 => ?_) (fun hc_22 => ?_)
        · rw [show (k : Int) + 1 = ((k + 1 : Nat) : Int) by omega]
          exact END (Or.inr (by show D (100 * c + (k + 1 - 1)) ≠ 0; rw [show k + 1 - 1 = k by omega]; exact hc_22))
        · refine aw_iincZ dX6_ends_25 (by rfl) (by decide) ?_
          refine aw_goto (tgt := 3) dX6_ends_28 (by decide) ?_
          rw [show ((k : Int) + 1 + -1) = (k : Int) by omega]
          refine aw_pk [4, 0, 1, 3] (by rfl) ?_
          exact IH (by omega) (by rw [hE]; simp only [mg]; have : dg D c k = 0 := hc_22; rw [this, Int.zero_mul, Int.add_zero])
theorem m_endsL {g : GX} {V : AH} {mo sz : Nat} {rk kn ar ac : Int} {D LN SG O1 O2 : Nat → Int} (d : Nat) {c n : Nat} {s z : Int} {zs : Nat → Int} (hmo : V mo = some (moO mo rk kn ar ac)) (hA : MA g mo V D LN SG O1 O2) (h0 : ∀ q, q < 460 → q ≠ c → NuV D LN SG q (zs q)) (hc : c < 460) (hn : n ≤ 100) (hF : ∀ k, k < n → 0 ≤ dg D c k ∧ dg D c k < 268435456) (hz : mg 268435456 (dg D c) n = (z.natAbs : Int)) (hs : z ≠ 0 → s = z.sign) (hs32 : R32 s) : AMet g mX6_ends d [.ref mo, .int (iZ c), .int (iZ n), .int (iZ s)] V sz (VX V sz (EL mo) (fun q V' => none = q ∧ MN g mo V' (upF zs c z))) := by
  refine AMet.of rfl rfl (Nat.le_of_ble_eq_true rfl) ?_
  show AW g mX6_ends d 0 [(0, .ref mo), (1, .int (iZ c)), (2, .int (iZ n)), (3, .int (iZ s))] [] V sz _
  refine aw_iload_n dX6_ends_0 (by rfl) ?_
  refine aw_istore dX6_ends_1 (by decide) ?_
  refine aw_pk [4, 0, 1, 3] (by rfl) ?_
  exact en_loopL d hmo hA h0 hc hn hF hz hs n (Nat.le_refl _) rfl
theorem el_en {mo a : Nat} (h : EL mo a) : EN mo a := by unfold EL at h; unfold EN; omega
theorem ma_o {g : GX} {mo : Nat} {V V' : AH} {D LN SG O1 O2 D' LN' SG' X1 X2 : Nat → Int} (h : MA g mo V D LN SG O1 O2) (h' : MA g mo V' D' LN' SG' X1 X2) (hV : ∀ a, ¬ EL mo a → V' a = V a) : MA g mo V' D' LN' SG' O1 O2 := ⟨h'.1, h'.2.1, h'.2.2.1, (hV _ (by unfold EL; omega)).trans h.2.2.2.1, (hV _ (by unfold EL; omega)).trans h.2.2.2.2⟩

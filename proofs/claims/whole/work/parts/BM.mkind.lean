/-! ===== the reference: kindOf ===== -/
def KmQ (g : GX) (mo : Nat) (S : TSt) (n : Nat) (V : AH) (sz : Nat) : AQ := VX V sz (ERC mo) (fun r V' => (∃ k : Int, some (.int (iZ k)) = r ∧ KndP S n k) ∧ (∃ F : Nat → Int, V' (mo + 13) = some (aIz g 5 F)) ∧ ∃ F : Nat → Int, V' (mo + 14) = some (aIz g 5 F))
abbrev mX6_kindOf : MI := (yX6_kindOf, cX6_kindOf, 4, (some FieldType.int), noX)
theorem dX6_kindOf_0 : decode cX6_kindOf 0 = .ok (.aload_n 0, 1) := by decide +kernel
theorem dX6_kindOf_1 : decode cX6_kindOf 1 = .ok (.iload_n 1, 1) := by decide +kernel
theorem dX6_kindOf_2 : decode cX6_kindOf 2 = .ok (.iconst 1, 1) := by decide +kernel
theorem dX6_kindOf_3 : decode cX6_kindOf 3 = .ok (.invokevirtual 151, 3) := by decide +kernel
theorem dX6_kindOf_6 : decode cX6_kindOf 6 = .ok (.ifCond .eq 5, 3) := by decide +kernel
theorem dX6_kindOf_9 : decode cX6_kindOf 9 = .ok (.iconst 4, 1) := by decide +kernel
theorem dX6_kindOf_10 : decode cX6_kindOf 10 = .ok (.ireturn, 1) := by decide +kernel
theorem dX6_kindOf_11 : decode cX6_kindOf 11 = .ok (.aload_n 0, 1) := by decide +kernel
theorem dX6_kindOf_12 : decode cX6_kindOf 12 = .ok (.iload_n 1, 1) := by decide +kernel
theorem dX6_kindOf_13 : decode cX6_kindOf 13 = .ok (.iconst 0, 1) := by decide +kernel
theorem dX6_kindOf_14 : decode cX6_kindOf 14 = .ok (.invokevirtual 151, 3) := by decide +kernel
theorem dX6_kindOf_17 : decode cX6_kindOf 17 = .ok (.ifCond .eq 5, 3) := by decide +kernel
theorem dX6_kindOf_20 : decode cX6_kindOf 20 = .ok (.iconst 3, 1) := by decide +kernel
theorem dX6_kindOf_21 : decode cX6_kindOf 21 = .ok (.ireturn, 1) := by decide +kernel
theorem dX6_kindOf_22 : decode cX6_kindOf 22 = .ok (.aload_n 0, 1) := by decide +kernel
theorem dX6_kindOf_23 : decode cX6_kindOf 23 = .ok (.getfield 37, 3) := by decide +kernel
theorem dX6_kindOf_26 : decode cX6_kindOf 26 = .ok (.iload_n 1, 1) := by decide +kernel
theorem dX6_kindOf_27 : decode cX6_kindOf 27 = .ok (.iaload, 1) := by decide +kernel
theorem dX6_kindOf_28 : decode cX6_kindOf 28 = .ok (.aload_n 0, 1) := by decide +kernel
theorem dX6_kindOf_29 : decode cX6_kindOf 29 = .ok (.getfield 40, 3) := by decide +kernel
theorem dX6_kindOf_32 : decode cX6_kindOf 32 = .ok (.iload_n 1, 1) := by decide +kernel
theorem dX6_kindOf_33 : decode cX6_kindOf 33 = .ok (.iaload, 1) := by decide +kernel
theorem dX6_kindOf_34 : decode cX6_kindOf 34 = .ok (.if_icmp .eq 5, 3) := by decide +kernel
theorem dX6_kindOf_37 : decode cX6_kindOf 37 = .ok (.iconst 0, 1) := by decide +kernel
theorem dX6_kindOf_38 : decode cX6_kindOf 38 = .ok (.ireturn, 1) := by decide +kernel
theorem dX6_kindOf_39 : decode cX6_kindOf 39 = .ok (.aload_n 0, 1) := by decide +kernel
theorem dX6_kindOf_40 : decode cX6_kindOf 40 = .ok (.iload_n 1, 1) := by decide +kernel
theorem dX6_kindOf_41 : decode cX6_kindOf 41 = .ok (.invokevirtual 155, 3) := by decide +kernel
theorem dX6_kindOf_44 : decode cX6_kindOf 44 = .ok (.lstore_n 2, 1) := by decide +kernel
theorem dX6_kindOf_45 : decode cX6_kindOf 45 = .ok (.lload_n 2, 1) := by decide +kernel
theorem dX6_kindOf_46 : decode cX6_kindOf 46 = .ok (.lconst 1, 1) := by decide +kernel
theorem dX6_kindOf_47 : decode cX6_kindOf 47 = .ok (.lcmp, 1) := by decide +kernel
theorem dX6_kindOf_48 : decode cX6_kindOf 48 = .ok (.ifCond .eq 11, 3) := by decide +kernel
theorem dX6_kindOf_51 : decode cX6_kindOf 51 = .ok (.lload_n 2, 1) := by decide +kernel
theorem dX6_kindOf_52 : decode cX6_kindOf 52 = .ok (.ldc2_w 159, 3) := by decide +kernel
theorem dX6_kindOf_55 : decode cX6_kindOf 55 = .ok (.lcmp, 1) := by decide +kernel
theorem dX6_kindOf_56 : decode cX6_kindOf 56 = .ok (.ifCond .ne 7, 3) := by decide +kernel
theorem dX6_kindOf_59 : decode cX6_kindOf 59 = .ok (.iconst 2, 1) := by decide +kernel
theorem dX6_kindOf_60 : decode cX6_kindOf 60 = .ok (.goto 4, 3) := by decide +kernel
theorem dX6_kindOf_63 : decode cX6_kindOf 63 = .ok (.iconst 1, 1) := by decide +kernel
theorem dX6_kindOf_64 : decode cX6_kindOf 64 = .ok (.ireturn, 1) := by decide +kernel
set_option maxRecDepth 20000 in
theorem m_kindOf (g : GX) (d : Nat) {V : AH} {mo sz n : Nat} {zs : Nat → Int} {S : TSt} {A : ASt} (hR : RX g mo V zs S A) (hn : n < 12) : AMet g mX6_kindOf (d + 3) [.ref mo, .int (iZ (n : Int))] V sz (KmQ g mo S n V sz) := by
  obtain ⟨⟨rk, kn, hmo⟩, -, -, h13, h14, -, hT, -, -, hTO, -⟩ := id hR
  obtain ⟨q1, q3, -, qx, -⟩ := hTO n hn
  obtain ⟨TH, RR, CC, NN, HH, t1, t2, t3, t4, t5, t6⟩ := id hT
  by_cases hD : IsP S n 1
  · have hD1 : ∃ h l, DiP S n h l := hD
    refine AMet.of rfl rfl (Nat.le_of_ble_eq_true rfl) ?_
    show AW g mX6_kindOf (d + 3) 0 [(0, .ref mo), (1, .int (iZ (n : Int)))] [] V sz _
    refine aw_aload_n dX6_kindOf_0 (by rfl) (Or.inr ⟨_, rfl⟩) ?_
    refine aw_iload_n dX6_kindOf_1 (by rfl) ?_
    refine aw_iconstZ dX6_kindOf_2 ?_
    refine aw_callv vX6_151 dX6_kindOf_3 hmo (m_isStair g (d + 1) (n := n) (dg := 1) (q := 1) hmo hT hn q1 q3 qx (Or.inr rfl) (Or.inl ⟨rfl, hD⟩)) (by rfl) (by rfl) (by omega) (Nat.le_of_ble_eq_true rfl) ?_
    rintro _ _ _ _ _ ⟨rfl, rfl, rfl, rfl, rfl⟩ -
    refine q0 ?_
    refine aw_if_eqZ (tgt := 11) dX6_kindOf_6 (by decide) (by decide) (fun hc_6 => ?_) (fun hc_6 => ?_)
    · exact absurd hc_6 (by decide)
    · refine aw_iconstZ dX6_kindOf_9 ?_
      refine aw_iret dX6_kindOf_10 rfl (by rfl) ?_
      exact ⟨rfl, rfl, rfl, fun _ _ => rfl, ⟨4, rfl, Or.inl ⟨rfl, hD1⟩⟩, h13, h14⟩
  · have hD1 : ¬ ∃ h l, DiP S n h l := hD
    by_cases hS : IsP S n 0
    · have hS1 : ∃ h l, StP S n h l := hS
      refine AMet.of rfl rfl (Nat.le_of_ble_eq_true rfl) ?_
      show AW g mX6_kindOf (d + 3) 0 [(0, .ref mo), (1, .int (iZ (n : Int)))] [] V sz _
      refine aw_aload_n dX6_kindOf_0 (by rfl) (Or.inr ⟨_, rfl⟩) ?_
      refine aw_iload_n dX6_kindOf_1 (by rfl) ?_
      refine aw_iconstZ dX6_kindOf_2 ?_
      refine aw_callv vX6_151 dX6_kindOf_3 hmo (m_isStair g (d + 1) (n := n) (dg := 1) (q := 0) hmo hT hn q1 q3 qx (Or.inr rfl) (Or.inr ⟨rfl, hD⟩)) (by rfl) (by rfl) (by omega) (Nat.le_of_ble_eq_true rfl) ?_
      rintro _ _ _ _ _ ⟨rfl, rfl, rfl, rfl, rfl⟩ -
      refine q0 ?_
      refine aw_if_eqZ (tgt := 11) dX6_kindOf_6 (by decide) (by decide) (fun hc_6 => ?_) (fun hc_6 => ?_)
      · refine aw_aload_n dX6_kindOf_11 (by rfl) (Or.inr ⟨_, rfl⟩) ?_
        refine aw_iload_n dX6_kindOf_12 (by rfl) ?_
        refine aw_iconstZ dX6_kindOf_13 ?_
        refine aw_callv vX6_151 dX6_kindOf_14 hmo (m_isStair g (d + 1) (n := n) (dg := 0) (q := 1) hmo hT hn q1 q3 qx (Or.inl rfl) (Or.inl ⟨rfl, hS⟩)) (by rfl) (by rfl) (by omega) (Nat.le_of_ble_eq_true rfl) ?_
        rintro _ _ _ _ _ ⟨rfl, rfl, rfl, rfl, rfl⟩ -
        refine q0 ?_
        refine aw_if_eqZ (tgt := 22) dX6_kindOf_17 (by decide) (by decide) (fun hc_17 => ?_) (fun hc_17 => ?_)
        · exact absurd hc_17 (by decide)
        · refine aw_iconstZ dX6_kindOf_20 ?_
          refine aw_iret dX6_kindOf_21 rfl (by rfl) ?_
          exact ⟨rfl, rfl, rfl, fun _ _ => rfl, ⟨3, rfl, Or.inr (Or.inl ⟨rfl, hS1, hD1⟩)⟩, h13, h14⟩
      · exact absurd rfl hc_6
    · have hS1 : ¬ ∃ h l, StP S n h l := hS
      refine AMet.of rfl rfl (Nat.le_of_ble_eq_true rfl) ?_
      show AW g mX6_kindOf (d + 3) 0 [(0, .ref mo), (1, .int (iZ (n : Int)))] [] V sz _
      refine aw_aload_n dX6_kindOf_0 (by rfl) (Or.inr ⟨_, rfl⟩) ?_
      refine aw_iload_n dX6_kindOf_1 (by rfl) ?_
      refine aw_iconstZ dX6_kindOf_2 ?_
      refine aw_callv vX6_151 dX6_kindOf_3 hmo (m_isStair g (d + 1) (n := n) (dg := 1) (q := 0) hmo hT hn q1 q3 qx (Or.inr rfl) (Or.inr ⟨rfl, hD⟩)) (by rfl) (by rfl) (by omega) (Nat.le_of_ble_eq_true rfl) ?_
      rintro _ _ _ _ _ ⟨rfl, rfl, rfl, rfl, rfl⟩ -
      refine q0 ?_
      refine aw_if_eqZ (tgt := 11) dX6_kindOf_6 (by decide) (by decide) (fun hc_6 => ?_) (fun hc_6 => ?_)
      · refine aw_aload_n dX6_kindOf_11 (by rfl) (Or.inr ⟨_, rfl⟩) ?_
        refine aw_iload_n dX6_kindOf_12 (by rfl) ?_
        refine aw_iconstZ dX6_kindOf_13 ?_
        refine aw_callv vX6_151 dX6_kindOf_14 hmo (m_isStair g (d + 1) (n := n) (dg := 0) (q := 0) hmo hT hn q1 q3 qx (Or.inl rfl) (Or.inr ⟨rfl, hS⟩)) (by rfl) (by rfl) (by omega) (Nat.le_of_ble_eq_true rfl) ?_
        rintro _ _ _ _ _ ⟨rfl, rfl, rfl, rfl, rfl⟩ -
        refine q0 ?_
        refine aw_if_eqZ (tgt := 22) dX6_kindOf_17 (by decide) (by decide) (fun hc_17 => ?_) (fun hc_17 => ?_)
        · refine aw_aload_n dX6_kindOf_22 (by rfl) (Or.inr ⟨_, rfl⟩) ?_
          refine aw_get fX6_37 dX6_kindOf_23 hmo (by rfl) ?_
          refine aw_iload_n dX6_kindOf_26 (by rfl) ?_
          refine aw_ialdZ (n) dX6_kindOf_27 t2 (by omega) (by omega) (by omega) ?_
          refine aw_aload_n dX6_kindOf_28 (by rfl) (Or.inr ⟨_, rfl⟩) ?_
          refine aw_get fX6_40 dX6_kindOf_29 hmo (by rfl) ?_
          refine aw_iload_n dX6_kindOf_32 (by rfl) ?_
          refine aw_ialdZ (n) dX6_kindOf_33 t3 (by omega) (by omega) (by omega) ?_
          refine aw_icmp_eqZ (tgt := 39) dX6_kindOf_34 (by decide) (by rw [(t6 n hn).2.1]; omega) (by rw [(t6 n hn).2.2.1]; omega) (fun hc_34 => ?_) (fun hc_34 => ?_)
          · have hsq : S.r n = S.c n := by rw [(t6 n hn).2.1, (t6 n hn).2.2.1] at hc_34; omega
            refine aw_aload_n dX6_kindOf_39 (by rfl) (Or.inr ⟨_, rfl⟩) ?_
            refine aw_iload_n dX6_kindOf_40 (by rfl) ?_
            refine aw_callv vX6_155 dX6_kindOf_41 hmo (m_worthOf g d (t := n) hR hn) (by rfl) (by rfl) (by omega) (Nat.le_of_ble_eq_true rfl) ?_
            rintro _ V1 _ _ _ ⟨rfl, rfl, rfl, hE1, rfl, h131, h141⟩ -
            refine q0 ?_
            have hdr := det_R (N := S.N n) q1 qx
            unfold ab at hdr
            refine aw_lstore_n dX6_kindOf_44 (by decide) ?_
            refine aw_lload_n dX6_kindOf_45 (by rfl) ?_
            refine aw_lconstZ (z := 1) dX6_kindOf_46 (by decide) ?_
            refine aw_lcmpZ dX6_kindOf_47 (by omega) (by omega) ?_
            refine aw_if_eqZ (tgt := 59) dX6_kindOf_48 (by decide) (by unfold cmpZ; split <;> (try split) <;> omega) (fun hc_48 => ?_) (fun hc_48 => ?_)
            · have hw1 : TuP S n := ⟨hsq, Or.inl (hsq ▸ cmpZ_eq.mp hc_48)⟩
              refine aw_iconstZ dX6_kindOf_59 ?_
              refine aw_goto (tgt := 64) dX6_kindOf_60 (by decide) ?_
              refine aw_iret dX6_kindOf_64 rfl (by rfl) ?_
              first
              | exact ⟨rfl, rfl, rfl, hE1, ⟨2, rfl, Or.inr (Or.inr ⟨hS1, Or.inr (Or.inl ⟨rfl, hw1⟩)⟩)⟩, h131, h141⟩
              | exact ⟨rfl, rfl, rfl, hE1, ⟨1, rfl, Or.inr (Or.inr ⟨hS1, Or.inr (Or.inr ⟨rfl, hsq, fun z => z.2.elim (fun y => hw2 (hsq ▸ y)) (fun y => hw3 (hsq ▸ y))⟩)⟩)⟩, h131, h141⟩
            · have hw2 : ¬ det (S.r n) (TM (S.N n)) = 1 := fun z => hc_48 (cmpZ_eq.mpr z)
              refine aw_lload_n dX6_kindOf_51 (by rfl) ?_
              refine aw_ldc2Z (z := -1) qX6_159 dX6_kindOf_52 (by decide) ?_
              refine aw_lcmpZ dX6_kindOf_55 (by omega) (by omega) ?_
              refine aw_if_neZ (tgt := 63) dX6_kindOf_56 (by decide) (by unfold cmpZ; split <;> (try split) <;> omega) (fun hc_56 => ?_) (fun hc_56 => ?_)
              · have hw3 : ¬ det (S.r n) (TM (S.N n)) = -1 := fun z => hc_56 (cmpZ_eq.mpr z)
                refine aw_iconstZ dX6_kindOf_63 ?_
                refine aw_iret dX6_kindOf_64 rfl (by rfl) ?_
                first
                | exact ⟨rfl, rfl, rfl, hE1, ⟨2, rfl, Or.inr (Or.inr ⟨hS1, Or.inr (Or.inl ⟨rfl, hw1⟩)⟩)⟩, h131, h141⟩
                | exact ⟨rfl, rfl, rfl, hE1, ⟨1, rfl, Or.inr (Or.inr ⟨hS1, Or.inr (Or.inr ⟨rfl, hsq, fun z => z.2.elim (fun y => hw2 (hsq ▸ y)) (fun y => hw3 (hsq ▸ y))⟩)⟩)⟩, h131, h141⟩
              · have hw1 : TuP S n := ⟨hsq, Or.inr (hsq ▸ cmpZ_eq.mp hc_56)⟩
                refine aw_iconstZ dX6_kindOf_59 ?_
                refine aw_goto (tgt := 64) dX6_kindOf_60 (by decide) ?_
                refine aw_iret dX6_kindOf_64 rfl (by rfl) ?_
                first
                | exact ⟨rfl, rfl, rfl, hE1, ⟨2, rfl, Or.inr (Or.inr ⟨hS1, Or.inr (Or.inl ⟨rfl, hw1⟩)⟩)⟩, h131, h141⟩
                | exact ⟨rfl, rfl, rfl, hE1, ⟨1, rfl, Or.inr (Or.inr ⟨hS1, Or.inr (Or.inr ⟨rfl, hsq, fun z => z.2.elim (fun y => hw2 (hsq ▸ y)) (fun y => hw3 (hsq ▸ y))⟩)⟩)⟩, h131, h141⟩
          · have hsq : S.r n ≠ S.c n := by rw [(t6 n hn).2.1, (t6 n hn).2.2.1] at hc_34; omega
            refine aw_iconstZ dX6_kindOf_37 ?_
            refine aw_iret dX6_kindOf_38 rfl (by rfl) ?_
            exact ⟨rfl, rfl, rfl, fun _ _ => rfl, ⟨0, rfl, Or.inr (Or.inr ⟨hS1, Or.inl ⟨rfl, hsq⟩⟩)⟩, h13, h14⟩
        · exact absurd rfl hc_17
      · exact absurd rfl hc_6

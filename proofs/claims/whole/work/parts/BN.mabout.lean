/-! ===== the reference: about ===== -/
abbrev mX6_about : MI := (yX6_about, cX6_about, 5, (some FieldType.int), noX)
theorem dX6_about_0 : decode cX6_about 0 = .ok (.aload_n 0, 1) := by decide +kernel
theorem dX6_about_1 : decode cX6_about 1 = .ok (.iload_n 1, 1) := by decide +kernel
theorem dX6_about_2 : decode cX6_about 2 = .ok (.invokevirtual 137, 3) := by decide +kernel
theorem dX6_about_5 : decode cX6_about 5 = .ok (.ifCond .ne 5, 3) := by decide +kernel
theorem dX6_about_8 : decode cX6_about 8 = .ok (.iconst (-1), 1) := by decide +kernel
theorem dX6_about_9 : decode cX6_about 9 = .ok (.ireturn, 1) := by decide +kernel
theorem dX6_about_10 : decode cX6_about 10 = .ok (.iload_n 2, 1) := by decide +kernel
theorem dX6_about_11 : decode cX6_about 11 = .ok (.tableswitch 99 0 4 #[33, 40, 47, 83, 89], 33) := by decide +kernel
theorem dX6_about_44 : decode cX6_about 44 = .ok (.aload_n 0, 1) := by decide +kernel
theorem dX6_about_45 : decode cX6_about 45 = .ok (.getfield 37, 3) := by decide +kernel
theorem dX6_about_48 : decode cX6_about 48 = .ok (.iload_n 1, 1) := by decide +kernel
theorem dX6_about_49 : decode cX6_about 49 = .ok (.iaload, 1) := by decide +kernel
theorem dX6_about_50 : decode cX6_about 50 = .ok (.ireturn, 1) := by decide +kernel
theorem dX6_about_51 : decode cX6_about 51 = .ok (.aload_n 0, 1) := by decide +kernel
theorem dX6_about_52 : decode cX6_about 52 = .ok (.getfield 40, 3) := by decide +kernel
theorem dX6_about_55 : decode cX6_about 55 = .ok (.iload_n 1, 1) := by decide +kernel
theorem dX6_about_56 : decode cX6_about 56 = .ok (.iaload, 1) := by decide +kernel
theorem dX6_about_57 : decode cX6_about 57 = .ok (.ireturn, 1) := by decide +kernel
theorem dX6_about_58 : decode cX6_about 58 = .ok (.iconst 0, 1) := by decide +kernel
theorem dX6_about_59 : decode cX6_about 59 = .ok (.istore_n 3, 1) := by decide +kernel
theorem dX6_about_60 : decode cX6_about 60 = .ok (.iconst 0, 1) := by decide +kernel
theorem dX6_about_61 : decode cX6_about 61 = .ok (.istore 4, 2) := by decide +kernel
theorem dX6_about_63 : decode cX6_about 63 = .ok (.iload 4, 2) := by decide +kernel
theorem dX6_about_65 : decode cX6_about 65 = .ok (.iconst 5, 1) := by decide +kernel
theorem dX6_about_66 : decode cX6_about 66 = .ok (.if_icmp .ge 26, 3) := by decide +kernel
theorem dX6_about_69 : decode cX6_about 69 = .ok (.aload_n 0, 1) := by decide +kernel
theorem dX6_about_70 : decode cX6_about 70 = .ok (.getfield 46, 3) := by decide +kernel
theorem dX6_about_73 : decode cX6_about 73 = .ok (.iconst 5, 1) := by decide +kernel
theorem dX6_about_74 : decode cX6_about 74 = .ok (.iload_n 1, 1) := by decide +kernel
theorem dX6_about_75 : decode cX6_about 75 = .ok (.imul, 1) := by decide +kernel
theorem dX6_about_76 : decode cX6_about 76 = .ok (.iload 4, 2) := by decide +kernel
theorem dX6_about_78 : decode cX6_about 78 = .ok (.iadd, 1) := by decide +kernel
theorem dX6_about_79 : decode cX6_about 79 = .ok (.baload, 1) := by decide +kernel
theorem dX6_about_80 : decode cX6_about 80 = .ok (.ifCond .eq 6, 3) := by decide +kernel
theorem dX6_about_83 : decode cX6_about 83 = .ok (.iinc 3 1, 3) := by decide +kernel
theorem dX6_about_86 : decode cX6_about 86 = .ok (.iinc 4 1, 3) := by decide +kernel
theorem dX6_about_89 : decode cX6_about 89 = .ok (.goto (-26), 3) := by decide +kernel
theorem dX6_about_92 : decode cX6_about 92 = .ok (.iload_n 3, 1) := by decide +kernel
theorem dX6_about_93 : decode cX6_about 93 = .ok (.ireturn, 1) := by decide +kernel
theorem dX6_about_94 : decode cX6_about 94 = .ok (.aload_n 0, 1) := by decide +kernel
theorem dX6_about_95 : decode cX6_about 95 = .ok (.iload_n 1, 1) := by decide +kernel
theorem dX6_about_96 : decode cX6_about 96 = .ok (.invokevirtual 161, 3) := by decide +kernel
theorem dX6_about_99 : decode cX6_about 99 = .ok (.ireturn, 1) := by decide +kernel
theorem dX6_about_100 : decode cX6_about 100 = .ok (.aload_n 0, 1) := by decide +kernel
theorem dX6_about_101 : decode cX6_about 101 = .ok (.iload_n 1, 1) := by decide +kernel
theorem dX6_about_102 : decode cX6_about 102 = .ok (.invokevirtual 165, 3) := by decide +kernel
theorem dX6_about_105 : decode cX6_about 105 = .ok (.aload_n 0, 1) := by decide +kernel
theorem dX6_about_106 : decode cX6_about 106 = .ok (.getfield 117, 3) := by decide +kernel
theorem dX6_about_109 : decode cX6_about 109 = .ok (.ireturn, 1) := by decide +kernel
theorem dX6_about_110 : decode cX6_about 110 = .ok (.iconst (-1), 1) := by decide +kernel
theorem dX6_about_111 : decode cX6_about 111 = .ok (.ireturn, 1) := by decide +kernel
theorem ab_leaves (d : Nat) {g : GX} {V : AH} {mo sz n : Nat} {rk kn ar ac : Int} {S : TSt} {Q : AQ} (hmo : V mo = some (moO mo rk kn ar ac)) (hT : RTb g mo V S) (hn : n < 12) (hH : ∀ i, S.H n i = 0 ∨ S.H n i = 1) (hQ : Q (some (.int (iZ (Sg (S.H n) 5)))) V sz 0 0) : ∀ (f i : Nat), i + f = 5 → AW g mX6_about d 63 [(4, .int (iZ (i : Int))), (3, .int (iZ (Sg (S.H n) i))), (0, .ref mo), (1, .int (iZ (n : Int)))] [] V sz Q
  | 0, i, hf => by
    obtain rfl : i = 5 := by omega
    refine aw_iload dX6_about_63 (by rfl) ?_
    refine aw_iconstZ dX6_about_65 ?_
    refine aw_icmp_geZ (tgt := 92) dX6_about_66 (by decide) (by omega) (by omega) (fun hc_66 => ?_) (fun hc_66 => ?_)
    · refine aw_iload_n dX6_about_92 (by rfl) ?_
      refine aw_iret dX6_about_93 rfl (by rfl) ?_
      exact hQ
    · exact absurd hc_66 (by omega)
  | f + 1, i, hf => by
    have IH := fun i hi => @ab_leaves d g V mo sz n rk kn ar ac S Q hmo hT hn hH hQ f i hi
    obtain ⟨TH, RR, CC, NN, HH, t1, t2, t3, t4, t5, t6⟩ := id hT
    refine aw_iload dX6_about_63 (by rfl) ?_
    refine aw_iconstZ dX6_about_65 ?_
    refine aw_icmp_geZ (tgt := 92) dX6_about_66 (by decide) (by omega) (by omega) (fun hc_66 => ?_) (fun hc_66 => ?_)
    · exact absurd hc_66 (by omega)
    · refine aw_aload_n dX6_about_69 (by rfl) (Or.inr ⟨_, rfl⟩) ?_
      refine aw_get fX6_46 dX6_about_70 hmo (by rfl) ?_
      refine aw_iconstZ dX6_about_73 ?_
      refine aw_iload_n dX6_about_74 (by rfl) ?_
      refine aw_imulZ dX6_about_75 ?_
      refine aw_iload dX6_about_76 (by rfl) ?_
      refine aw_iaddZ dX6_about_78 ?_
      refine aw_zaldZ (5 * n + i) dX6_about_79 t5 (by omega) (by omega) (by omega) ?_
      refine aw_if_eqZ (tgt := 86) dX6_about_80 (by decide) (by rw [(t6 n hn).2.2.2.2 i (by omega)]; rcases hH i with z | z <;> rw [z] <;> omega) (fun hc_80 => ?_) (fun hc_80 => ?_)
      · rw [(t6 n hn).2.2.2.2 i (by omega)] at hc_80
        refine aw_iincZ dX6_about_86 (by rfl) (by decide) ?_
        refine aw_goto (tgt := 63) dX6_about_89 (by decide) ?_
        rw [show ((i : Int) + 1) = ((i + 1 : Nat) : Int) by omega]
        have hsg : Sg (S.H n) (i + 1) = Sg (S.H n) i + S.H n i := rfl
        first
        | (rw [show Sg (S.H n) i = Sg (S.H n) (i + 1) by omega]
           refine aw_pk [4, 3, 0, 1] (by rfl) ?_
           exact IH (i + 1) (by omega))
        | (rw [show Sg (S.H n) i + 1 = Sg (S.H n) (i + 1) by rcases hH i with z | z <;> omega]
           refine aw_pk [4, 3, 0, 1] (by rfl) ?_
           exact IH (i + 1) (by omega))
      · rw [(t6 n hn).2.2.2.2 i (by omega)] at hc_80
        refine aw_iincZ dX6_about_83 (by rfl) (by decide) ?_
        refine aw_iincZ dX6_about_86 (by rfl) (by decide) ?_
        refine aw_goto (tgt := 63) dX6_about_89 (by decide) ?_
        rw [show ((i : Int) + 1) = ((i + 1 : Nat) : Int) by omega]
        have hsg : Sg (S.H n) (i + 1) = Sg (S.H n) i + S.H n i := rfl
        first
        | (rw [show Sg (S.H n) i = Sg (S.H n) (i + 1) by omega]
           refine aw_pk [4, 3, 0, 1] (by rfl) ?_
           exact IH (i + 1) (by omega))
        | (rw [show Sg (S.H n) i + 1 = Sg (S.H n) (i + 1) by rcases hH i with z | z <;> omega]
           refine aw_pk [4, 3, 0, 1] (by rfl) ?_
           exact IH (i + 1) (by omega))
set_option maxRecDepth 20000 in
theorem m_about (g : GX) (d : Nat) {V : AH} {mo sz : Nat} {zs : Nat → Int} {S : TSt} {A : ASt} {t what : Int} (hR : RX g mo V zs S A) (ht : R32 t) (hwh : R32 what) : AMet g mX6_about (d + 9) [.ref mo, .int (iZ t), .int (iZ what)] V sz (RE g mo V sz (AbtR S A t what)) := by
  obtain ⟨⟨rk, kn, hmo⟩, -, -, h13, h14, -, hT, hM, -, hTO, -⟩ := id hR
  obtain ⟨TH, RR, CC, NN, HH, t1, t2, t3, t4, t5, t6⟩ := id hT
  refine AMet.of rfl rfl (Nat.le_of_ble_eq_true rfl) ?_
  show AW g mX6_about (d + 9) 0 [(0, .ref mo), (1, .int (iZ t)), (2, .int (iZ what))] [] V sz _
  refine aw_aload_n dX6_about_0 (by rfl) (Or.inr ⟨_, rfl⟩) ?_
  refine aw_iload_n dX6_about_1 (by rfl) ?_
  refine aw_callv vX6_137 dX6_about_2 hmo (m_isTable g (d + 8) (t := t) hmo hT ht) (by rfl) (by rfl) (by omega) (Nat.le_of_ble_eq_true rfl) ?_
  rintro _ _ _ _ _ ⟨rfl, rfl, rfl, rfl, rfl⟩ -
  refine q0 ?_
  refine aw_if_neZ (tgt := 10) dX6_about_5 (by decide) (tbZ_R _ _) (fun hc_5 => ?_) (fun hc_5 => ?_)
  · obtain ⟨n, hn, rfl, hrn⟩ := tbZ_yes hc_5
    obtain ⟨q1, q3, -, qx, hH, -, hH0⟩ := hTO n hn
    rcases (by omega : what = 0 ∨ what = 1 ∨ what = 2 ∨ what = 3 ∨ what = 4 ∨ ¬ (0 ≤ what ∧ what ≤ 4)) with rfl | rfl | rfl | rfl | rfl | hout
    · refine aw_iload_n dX6_about_10 (by rfl) ?_
      refine aw_tableIn (off := 33) (tgt := 44) dX6_about_11 (by decide) (by decide) (by decide) (by decide) ?_
      refine aw_aload_n dX6_about_44 (by rfl) (Or.inr ⟨_, rfl⟩) ?_
      refine aw_get fX6_37 dX6_about_45 hmo (by rfl) ?_
      refine aw_iload_n dX6_about_48 (by rfl) ?_
      refine aw_ialdZ (n) dX6_about_49 t2 (by omega) (by omega) (by omega) ?_
      refine aw_iret dX6_about_50 rfl (by rfl) ?_
      rw [(t6 n hn).2.1]
      exact ⟨rfl, rfl, rfl, fun _ _ => rfl, zs, S, A, hR, rfl, rfl, Or.inl ⟨n, hn, rfl, hrn, Or.inl ⟨rfl, rfl⟩⟩⟩
    · refine aw_iload_n dX6_about_10 (by rfl) ?_
      refine aw_tableIn (off := 40) (tgt := 51) dX6_about_11 (by decide) (by decide) (by decide) (by decide) ?_
      refine aw_aload_n dX6_about_51 (by rfl) (Or.inr ⟨_, rfl⟩) ?_
      refine aw_get fX6_40 dX6_about_52 hmo (by rfl) ?_
      refine aw_iload_n dX6_about_55 (by rfl) ?_
      refine aw_ialdZ (n) dX6_about_56 t3 (by omega) (by omega) (by omega) ?_
      refine aw_iret dX6_about_57 rfl (by rfl) ?_
      rw [(t6 n hn).2.2.1]
      exact ⟨rfl, rfl, rfl, fun _ _ => rfl, zs, S, A, hR, rfl, rfl, Or.inl ⟨n, hn, rfl, hrn, Or.inr (Or.inl ⟨rfl, rfl⟩)⟩⟩
    · refine aw_iload_n dX6_about_10 (by rfl) ?_
      refine aw_tableIn (off := 47) (tgt := 58) dX6_about_11 (by decide) (by decide) (by decide) (by decide) ?_
      refine aw_iconstZ dX6_about_58 ?_
      refine aw_istore_n dX6_about_59 (by decide) ?_
      refine aw_iconstZ dX6_about_60 ?_
      refine aw_istore dX6_about_61 (by decide) ?_
      refine aw_pk [4, 3, 0, 1] (by rfl) ?_
      refine ab_leaves (d + 9) hmo hT hn hH ?_ 5 0 (by omega)
      have hs5 : Sg (S.H n) 5 = Sg (S.H n) (S.r n) := Sg_cut q1 (fun i h1 h2 => hH0 i h2 h1)
      rw [hs5]
      exact ⟨rfl, rfl, rfl, fun _ _ => rfl, zs, S, A, hR, rfl, rfl, Or.inl ⟨n, hn, rfl, hrn, Or.inr (Or.inr (Or.inl ⟨rfl, rfl⟩))⟩⟩
    · refine aw_iload_n dX6_about_10 (by rfl) ?_
      refine aw_tableIn (off := 83) (tgt := 94) dX6_about_11 (by decide) (by decide) (by decide) (by decide) ?_
      refine aw_aload_n dX6_about_94 (by rfl) (Or.inr ⟨_, rfl⟩) ?_
      refine aw_iload_n dX6_about_95 (by rfl) ?_
      refine aw_callv vX6_161 dX6_about_96 hmo (m_kindOf g (d + 5) hR hn) (by rfl) (by rfl) (by omega) (Nat.le_of_ble_eq_true rfl) ?_
      rintro _ V1 _ _ _ ⟨rfl, rfl, rfl, hE1, ⟨k1, rfl, hk1⟩, h131, h141⟩ -
      refine q0 ?_
      have hR1 := hR.rc hE1 h131 h141
      refine aw_iret dX6_about_99 rfl (by rfl) ?_
      exact ⟨rfl, rfl, rfl, fun a ha => hE1 a (fun z => ha (by unfold ERC at z; unfold EM; omega)), zs, S, A, hR1, rfl, rfl, Or.inl ⟨n, hn, rfl, hrn, Or.inr (Or.inr (Or.inr (Or.inl ⟨rfl, k1, hk1, rfl⟩)))⟩⟩
    · refine aw_iload_n dX6_about_10 (by rfl) ?_
      refine aw_tableIn (off := 89) (tgt := 100) dX6_about_11 (by decide) (by decide) (by decide) (by decide) ?_
      refine aw_aload_n dX6_about_100 (by rfl) (Or.inr ⟨_, rfl⟩) ?_
      refine aw_iload_n dX6_about_101 (by rfl) ?_
      refine aw_callv vX6_165 dX6_about_102 hmo (m_stairOf g d (t := n) hR hn) (by rfl) (by rfl) (by omega) (Nat.le_of_ble_eq_true rfl) ?_
      rintro _ V1 _ _ _ ⟨rfl, rfl, rfl, hE1, rfl, r1, κ1, l1, lk1, z1, ⟨RW1, RK1, hmo1, hra1, hrk1, hl1, hlk1, hM1, hl51⟩, hst1, hsp1, hlc1, hln1, hst2, hsp2, hn1, hF1⟩ -
      refine q0 ?_
      obtain ⟨s1, s2⟩ := stair_of hst1 hsp1 (cp_split hlc1)
      have hR1 := hR.calc (V' := V1) ⟨RW1, RK1, hmo1, hra1, hrk1, hl1, hlk1, hM1, hl51⟩ hE1 (fun q h1 h2 => hF1 q (by unfold InC; omega))
      refine aw_aload_n dX6_about_105 (by rfl) (Or.inr ⟨_, rfl⟩) ?_
      refine aw_get fX6_117 dX6_about_106 hmo1 (by rfl) ?_
      refine aw_iret dX6_about_109 rfl (by rfl) ?_
      exact ⟨rfl, rfl, rfl, fun a ha => hE1 a (fun z => ha (by unfold EC at z; unfold EM; omega)), z1, S, A, hR1, rfl, rfl, Or.inl ⟨n, hn, rfl, hrn, Or.inr (Or.inr (Or.inr (Or.inr (Or.inl ⟨rfl, r1, _, _, ⟨s1, s2⟩, rfl⟩))))⟩⟩
    · refine aw_iload_n dX6_about_10 (by rfl) ?_
      refine aw_tableOut (tgt := 110) dX6_about_11 (by rw [iZ_toInt hwh]; omega) (by decide) ?_
      refine aw_iconstZ dX6_about_110 ?_
      refine aw_iret dX6_about_111 rfl (by rfl) ?_
      exact ⟨rfl, rfl, rfl, fun _ _ => rfl, zs, S, A, hR, rfl, rfl, Or.inl ⟨n, hn, rfl, hrn, Or.inr (Or.inr (Or.inr (Or.inr (Or.inr ⟨hout, rfl⟩))))⟩⟩
  · have hno := tbZ_no hc_5
    refine aw_iconstZ dX6_about_8 ?_
    refine aw_iret dX6_about_9 rfl (by rfl) ?_
    exact ⟨rfl, rfl, rfl, fun _ _ => rfl, zs, S, A, hR, rfl, rfl, Or.inr ⟨hno, rfl⟩⟩

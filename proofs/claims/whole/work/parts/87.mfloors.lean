/-! ===== the reference: floors ===== -/
theorem fl_dvd {a e : Int} : ((a.natAbs : Int) % (e.natAbs : Int) = 0) ↔ a % e = 0 := by
  constructor
  · intro h
    exact Int.emod_eq_zero_of_dvd (Int.natAbs_dvd.mp (Int.dvd_natAbs.mp (Int.dvd_of_emod_eq_zero h)))
  · intro h
    exact Int.emod_eq_zero_of_dvd (Int.dvd_natAbs.mpr (Int.natAbs_dvd.mpr (Int.dvd_of_emod_eq_zero h)))
theorem fl_td {a e : Int} (he : 0 < e) : (a % e = 0 ∨ 0 ≤ a → a.tdiv e = a / e) ∧ (¬ a % e = 0 → a < 0 → a.tdiv e - 1 = a / e) := by
  constructor
  · intro h
    rw [Int.tdiv_eq_ediv, if_pos (h.elim (fun q => Or.inr (Int.dvd_of_emod_eq_zero q)) Or.inl), Int.add_zero]
  · intro h1 h2
    rw [Int.tdiv_eq_ediv, if_neg (fun q => q.elim (fun z => by omega) (fun z => h1 (Int.emod_eq_zero_of_dvd z))), Int.sign_eq_one_of_pos he]
    omega
theorem fl_abs {a e : Int} (he : 0 < e) : (a / e).natAbs ≤ a.natAbs := by
  rcases Int.lt_or_le a 0 with h | h
  · have h1 : a ≤ a / e := by
      rw [Int.le_ediv_iff_mul_le he]
      have : a * e ≤ a * 1 := Int.mul_le_mul_of_nonpos_left (by omega) (by omega)
      omega
    have h2 : a / e < 0 := Int.ediv_neg_of_neg_of_pos h he
    omega
  · have h1 : a / e ≤ a := Int.ediv_le_self e h
    have h2 : 0 ≤ a / e := Int.ediv_nonneg h (by omega)
    omega
theorem SmM.le {x y : Int} (h : SmM y) (hx : x.natAbs ≤ y.natAbs) : SmM x := by
  unfold SmM at *
  omega
theorem NuV.sm {D LN SG : Nat → Int} {c : Nat} {z : Int} (h : NuV D LN SG c z) : SmM z := by
  obtain ⟨n, a1, a2, a3, a4, a5, a6⟩ := h
  have h1 := (mg_bd (show (0 : Int) < 268435456 by omega) a4).2
  have h2 : (268435456 : Int) ^ n ≤ 268435456 ^ 100 := pw_le (by omega) a2
  unfold SmM
  omega
theorem MN.sm {g : GX} {mo : Nat} {V : AH} {zs : Nat → Int} (h : MN g mo V zs) {c : Nat} (hc : c < 460) : SmM (zs c) := by
  obtain ⟨D, LN, SG, O1, O2, hA, h0⟩ := h
  exact (h0 c hc).sm
theorem mg_z {F : Nat → Int} {k : Nat} (h : ∀ i, i < k + 1 → 0 ≤ F i ∧ F i < 268435456) : (mg 268435456 F (k + 1) = 0) ↔ mg 268435456 F k = 0 ∧ F k = 0 := by
  have h1 := (mg_bd (show (0 : Int) < 268435456 by omega) (F := F) (n := k) (fun i hi => h i (by omega))).1
  have h2 := h k (by omega)
  have hP := pw_pos (show (0 : Int) < 268435456 by omega) k
  simp only [mg]
  constructor
  · intro e
    have h3 : 0 ≤ F k * 268435456 ^ k := Int.mul_nonneg h2.1 (by omega)
    refine ⟨by omega, ?_⟩
    rcases Int.mul_eq_zero.mp (show F k * 268435456 ^ k = 0 by omega) with q | q
    · exact q
    · omega
  · rintro ⟨e1, e2⟩
    rw [e1, e2, Int.zero_mul, Int.add_zero]
abbrev mX6_floors : MI := (yX6_floors, cX6_floors, 8, (some FieldType.boolean), noX)
theorem dX6_floors_0 : decode cX6_floors 0 = .ok (.aload_n 0, 1) := by decide +kernel
theorem dX6_floors_1 : decode cX6_floors 1 = .ok (.getfield 17, 3) := by decide +kernel
theorem dX6_floors_4 : decode cX6_floors 4 = .ok (.iload_n 1, 1) := by decide +kernel
theorem dX6_floors_5 : decode cX6_floors 5 = .ok (.iaload, 1) := by decide +kernel
theorem dX6_floors_6 : decode cX6_floors 6 = .ok (.istore 4, 2) := by decide +kernel
theorem dX6_floors_8 : decode cX6_floors 8 = .ok (.aload_n 0, 1) := by decide +kernel
theorem dX6_floors_9 : decode cX6_floors 9 = .ok (.getfield 14, 3) := by decide +kernel
theorem dX6_floors_12 : decode cX6_floors 12 = .ok (.iload_n 2, 1) := by decide +kernel
theorem dX6_floors_13 : decode cX6_floors 13 = .ok (.iaload, 1) := by decide +kernel
theorem dX6_floors_14 : decode cX6_floors 14 = .ok (.istore 5, 2) := by decide +kernel
theorem dX6_floors_16 : decode cX6_floors 16 = .ok (.aload_n 0, 1) := by decide +kernel
theorem dX6_floors_17 : decode cX6_floors 17 = .ok (.iload_n 1, 1) := by decide +kernel
theorem dX6_floors_18 : decode cX6_floors 18 = .ok (.iload_n 2, 1) := by decide +kernel
theorem dX6_floors_19 : decode cX6_floors 19 = .ok (.iload_n 3, 1) := by decide +kernel
theorem dX6_floors_20 : decode cX6_floors 20 = .ok (.invokevirtual 91, 3) := by decide +kernel
theorem dX6_floors_23 : decode cX6_floors 23 = .ok (.iconst 1, 1) := by decide +kernel
theorem dX6_floors_24 : decode cX6_floors 24 = .ok (.istore 6, 2) := by decide +kernel
theorem dX6_floors_26 : decode cX6_floors 26 = .ok (.iconst 0, 1) := by decide +kernel
theorem dX6_floors_27 : decode cX6_floors 27 = .ok (.istore 7, 2) := by decide +kernel
theorem dX6_floors_29 : decode cX6_floors 29 = .ok (.iload 7, 2) := by decide +kernel
theorem dX6_floors_31 : decode cX6_floors 31 = .ok (.iload 5, 2) := by decide +kernel
theorem dX6_floors_33 : decode cX6_floors 33 = .ok (.if_icmp .ge 33, 3) := by decide +kernel
theorem dX6_floors_36 : decode cX6_floors 36 = .ok (.iload 6, 2) := by decide +kernel
theorem dX6_floors_38 : decode cX6_floors 38 = .ok (.ifCond .eq 19, 3) := by decide +kernel
theorem dX6_floors_41 : decode cX6_floors 41 = .ok (.aload_n 0, 1) := by decide +kernel
theorem dX6_floors_42 : decode cX6_floors 42 = .ok (.getfield 20, 3) := by decide +kernel
theorem dX6_floors_45 : decode cX6_floors 45 = .ok (.iload 7, 2) := by decide +kernel
theorem dX6_floors_47 : decode cX6_floors 47 = .ok (.laload, 1) := by decide +kernel
theorem dX6_floors_48 : decode cX6_floors 48 = .ok (.lconst 0, 1) := by decide +kernel
theorem dX6_floors_49 : decode cX6_floors 49 = .ok (.lcmp, 1) := by decide +kernel
theorem dX6_floors_50 : decode cX6_floors 50 = .ok (.ifCond .ne 7, 3) := by decide +kernel
theorem dX6_floors_53 : decode cX6_floors 53 = .ok (.iconst 1, 1) := by decide +kernel
theorem dX6_floors_54 : decode cX6_floors 54 = .ok (.goto 4, 3) := by decide +kernel
theorem dX6_floors_57 : decode cX6_floors 57 = .ok (.iconst 0, 1) := by decide +kernel
theorem dX6_floors_58 : decode cX6_floors 58 = .ok (.istore 6, 2) := by decide +kernel
theorem dX6_floors_60 : decode cX6_floors 60 = .ok (.iinc 7 1, 3) := by decide +kernel
theorem dX6_floors_63 : decode cX6_floors 63 = .ok (.goto (-34), 3) := by decide +kernel
theorem dX6_floors_66 : decode cX6_floors 66 = .ok (.iload 6, 2) := by decide +kernel
theorem dX6_floors_68 : decode cX6_floors 68 = .ok (.ifCond .ne 25, 3) := by decide +kernel
theorem dX6_floors_71 : decode cX6_floors 71 = .ok (.iload 4, 2) := by decide +kernel
theorem dX6_floors_73 : decode cX6_floors 73 = .ok (.ifCond .ge 20, 3) := by decide +kernel
theorem dX6_floors_76 : decode cX6_floors 76 = .ok (.aload_n 0, 1) := by decide +kernel
theorem dX6_floors_77 : decode cX6_floors 77 = .ok (.sipush 415, 3) := by decide +kernel
theorem dX6_floors_80 : decode cX6_floors 80 = .ok (.lconst 1, 1) := by decide +kernel
theorem dX6_floors_81 : decode cX6_floors 81 = .ok (.invokevirtual 83, 3) := by decide +kernel
theorem dX6_floors_84 : decode cX6_floors 84 = .ok (.aload_n 0, 1) := by decide +kernel
theorem dX6_floors_85 : decode cX6_floors 85 = .ok (.iload_n 3, 1) := by decide +kernel
theorem dX6_floors_86 : decode cX6_floors 86 = .ok (.sipush 415, 3) := by decide +kernel
theorem dX6_floors_89 : decode cX6_floors 89 = .ok (.iload_n 3, 1) := by decide +kernel
theorem dX6_floors_90 : decode cX6_floors 90 = .ok (.invokevirtual 94, 3) := by decide +kernel
theorem dX6_floors_93 : decode cX6_floors 93 = .ok (.iload 6, 2) := by decide +kernel
theorem dX6_floors_95 : decode cX6_floors 95 = .ok (.ireturn, 1) := by decide +kernel
theorem fl_loop (d : Nat) {g : GX} {V : AH} {mo sz : Nat} {rk kn ar ac : Int} {D LN SG X O2 : Nat → Int} {a e c ne : Nat} {s : Int} {Q : AQ} (hmo : V mo = some (moO mo rk kn ar ac)) (hA : MA g mo V D LN SG X O2) (hne : ne ≤ 100) (hX : ∀ i, i < ne → 0 ≤ X i ∧ X i < 268435456)
    (hKK : ∀ {wh : Int}, ((wh = 1 ∧ mg 268435456 X ne = 0) ∨ (wh = 0 ∧ ¬ mg 268435456 X ne = 0)) → AW g mX6_floors d 66 [(6, .int (iZ wh)), (5, .int (iZ ne)), (4, .int (iZ s)), (0, .ref mo), (1, .int (iZ a)), (2, .int (iZ e)), (3, .int (iZ c))] [] V sz Q) : ∀ (y k : Nat), k + y = ne → ∀ {wh : Int}, ((wh = 1 ∧ mg 268435456 X k = 0) ∨ (wh = 0 ∧ ¬ mg 268435456 X k = 0)) → AW g mX6_floors d 29 [(7, .int (iZ k)), (6, .int (iZ wh)), (5, .int (iZ ne)), (4, .int (iZ s)), (0, .ref mo), (1, .int (iZ a)), (2, .int (iZ e)), (3, .int (iZ c))] [] V sz Q
  | 0, k, hy, wh, hw => by
    refine aw_iload dX6_floors_29 (by rfl) ?_
    refine aw_iload dX6_floors_31 (by rfl) ?_
    refine aw_icmp_geZ (tgt := 66) dX6_floors_33 (by decide) (by omega) (by omega) (fun hc_33 => ?_) (fun hc_33 => ?_)
    · obtain rfl : k = ne := by omega
      exact aw_pk [6, 5, 4, 0, 1, 2, 3] (by rfl) (hKK hw)
    · exact absurd hc_33 (by omega)
  | y + 1, k, hy, wh, hw => by
    have IH := fun k hk => @fl_loop d g V mo sz rk kn ar ac D LN SG X O2 a e c ne s Q hmo hA hne hX hKK y k hk
    clear hKK
    have hxk := hX k (by omega)
    refine aw_iload dX6_floors_29 (by rfl) ?_
    refine aw_iload dX6_floors_31 (by rfl) ?_
    refine aw_icmp_geZ (tgt := 66) dX6_floors_33 (by decide) (by omega) (by omega) (fun hc_33 => ?_) (fun hc_33 => ?_)
    · exact absurd hc_33 (by omega)
    · refine aw_iload dX6_floors_36 (by rfl) ?_
      refine aw_if_eqZ (tgt := 57) dX6_floors_38 (by decide) (by omega) (fun hc_38 => ?_) (fun hc_38 => ?_)
      · refine aw_iconstZ dX6_floors_57 ?_
        refine aw_istore dX6_floors_58 (by decide) ?_
        refine aw_iincZ dX6_floors_60 (by rfl) (by decide) ?_
        refine aw_goto (tgt := 29) dX6_floors_63 (by decide) ?_
        rw [show ((k : Int) + 1) = ((k + 1 : Nat) : Int) by omega]
        refine aw_pk [7, 6, 5, 4, 0, 1, 2, 3] (by rfl) ?_
        exact IH (k + 1) (by omega) (by rw [mg_z (fun i hi => hX i (by omega))]; omega)
      · refine aw_aload_n dX6_floors_41 (by rfl) (Or.inr ⟨_, rfl⟩) ?_
        refine aw_get fX6_20 dX6_floors_42 hmo (by rfl) ?_
        refine aw_iload dX6_floors_45 (by rfl) ?_
        refine aw_laldZ (k) dX6_floors_47 hA.2.2.2.1 (by omega) (by omega) (by omega) ?_
        refine aw_lconstZ (z := 0) dX6_floors_48 (by decide) ?_
        refine aw_lcmpZ dX6_floors_49 (by omega) (by omega) ?_
        refine aw_if_neZ (tgt := 57) dX6_floors_50 (by decide) (cmpZ_R _ _) (fun hc_50 => ?_) (fun hc_50 => ?_)
        · have hx0 : ¬ X k = 0 := fun q => hc_50 (cmpZ_eq.mpr q)
          refine aw_iconstZ dX6_floors_57 ?_
          refine aw_istore dX6_floors_58 (by decide) ?_
          refine aw_iincZ dX6_floors_60 (by rfl) (by decide) ?_
          refine aw_goto (tgt := 29) dX6_floors_63 (by decide) ?_
          rw [show ((k : Int) + 1) = ((k + 1 : Nat) : Int) by omega]
          refine aw_pk [7, 6, 5, 4, 0, 1, 2, 3] (by rfl) ?_
          exact IH (k + 1) (by omega) (by rw [mg_z (fun i hi => hX i (by omega))]; omega)
        · have hx0 : X k = 0 := cmpZ_eq.mp hc_50
          refine aw_iconstZ dX6_floors_53 ?_
          refine aw_goto (tgt := 58) dX6_floors_54 (by decide) ?_
          refine aw_istore dX6_floors_58 (by decide) ?_
          refine aw_iincZ dX6_floors_60 (by rfl) (by decide) ?_
          refine aw_goto (tgt := 29) dX6_floors_63 (by decide) ?_
          rw [show ((k : Int) + 1) = ((k + 1 : Nat) : Int) by omega]
          refine aw_pk [7, 6, 5, 4, 0, 1, 2, 3] (by rfl) ?_
          exact IH (k + 1) (by omega) (by rw [mg_z (fun i hi => hX i (by omega))]; omega)
theorem m_floors (g : GX) (d : Nat) {V : AH} {mo sz a e c : Nat} {zs : Nat → Int} (hm : moV mo V) (hM : MN g mo V zs) (ha : a < 460) (he : e < 460) (hc : c < 460) (hca : a ≠ c) (hce : e ≠ c) (hc15 : c ≠ 415) (hz : 0 < zs e) : AMet g mX6_floors (d + 2) [.ref mo, .int (iZ a), .int (iZ e), .int (iZ c)] V sz (VX V sz (EN mo) (fun r V' => some (.int (iZ (if zs a % zs e = 0 then 1 else 0))) = r ∧ ∃ z', MN g mo V' z' ∧ ∀ q, q ≠ 415 → z' q = upF zs c (zs a / zs e) q)) := by
  obtain ⟨rk, kn, ar, ac, hmo⟩ := hm
  have hsm := hM.sm ha
  obtain ⟨D, LN, SG, O1, O2, hA, h0⟩ := hM
  obtain ⟨ne, hn, b2, -⟩ := id (h0 e he)
  obtain ⟨na, -, -, hs0, -⟩ := id (h0 a ha)
  obtain ⟨s, hs⟩ : ∃ s, SG a = s := ⟨_, rfl⟩
  have hsa : (zs a).sign = s := hs0.symm.trans hs
  have hs32 : R32 s := by rw [← hsa]; exact sgn_R _
  refine AMet.of rfl rfl (Nat.le_of_ble_eq_true rfl) ?_
  show AW g mX6_floors (d + 2) 0 [(0, .ref mo), (1, .int (iZ a)), (2, .int (iZ e)), (3, .int (iZ c))] [] V sz _
  refine aw_aload_n dX6_floors_0 (by rfl) (Or.inr ⟨_, rfl⟩) ?_
  refine aw_get fX6_17 dX6_floors_1 hmo (by rfl) ?_
  refine aw_iload_n dX6_floors_4 (by rfl) ?_
  refine aw_ialdZ (a) dX6_floors_5 hA.2.2.1 (by omega) (by omega) (by omega) ?_
  refine aw_topi (y := s) hs ?_
  refine aw_istore dX6_floors_6 (by decide) ?_
  refine aw_aload_n dX6_floors_8 (by rfl) (Or.inr ⟨_, rfl⟩) ?_
  refine aw_get fX6_14 dX6_floors_9 hmo (by rfl) ?_
  refine aw_iload_n dX6_floors_12 (by rfl) ?_
  refine aw_ialdZ (e) dX6_floors_13 hA.2.1 (by omega) (by omega) (by omega) ?_
  rw [hn]
  refine aw_istore dX6_floors_14 (by decide) ?_
  refine aw_aload_n dX6_floors_16 (by rfl) (Or.inr ⟨_, rfl⟩) ?_
  refine aw_iload_n dX6_floors_17 (by rfl) ?_
  refine aw_iload_n dX6_floors_18 (by rfl) ?_
  refine aw_iload_n dX6_floors_19 (by rfl) ?_
  refine aw_callv vX6_91 dX6_floors_20 hmo (m_divides g d hmo hA h0 ha he hc hca hce (by omega) hn) (by rfl) (by rfl) (by omega) (Nat.le_of_ble_eq_true rfl) ?_
  rintro _ V1 _ _ _ ⟨rfl, rfl, rfl, hE1, rfl, D1, LN1, SG1, X1, X2, hA1, hN1, hX1, hrem⟩ -
  refine q0 ?_
  have hmo1 := (hE1 mo (by unfold EN; omega)).trans hmo
  refine aw_iconstZ dX6_floors_23 ?_
  refine aw_istore dX6_floors_24 (by decide) ?_
  refine aw_iconstZ dX6_floors_26 ?_
  refine aw_istore dX6_floors_27 (by decide) ?_
  refine aw_pk [7, 6, 5, 4, 0, 1, 2, 3] (by rfl) ?_
  refine fl_loop (d + 2) hmo1 hA1 b2 hX1 (fun {wh} hw => ?_) ne 0 (by omega) (Or.inl ⟨rfl, rfl⟩)
  refine aw_iload dX6_floors_66 (by rfl) ?_
  refine aw_if_neZ (tgt := 93) dX6_floors_68 (by decide) (by omega) (fun hc_68 => ?_) (fun hc_68 => ?_)
  · obtain ⟨rfl, hz0⟩ : wh = 1 ∧ mg 268435456 X1 ne = 0 := hw.elim id (fun q => absurd q.1 hc_68)
    rw [hrem, fl_dvd] at hz0
    refine aw_iload dX6_floors_93 (by rfl) ?_
    refine aw_iret dX6_floors_95 rfl (by rfl) ?_
    first
    | (rw [if_pos hz0]; exact ⟨rfl, rfl, rfl, hE1, rfl, _, ⟨D1, LN1, SG1, X1, X2, hA1, hN1⟩, fun q _ => by rw [(fl_td hz).1 (Or.inl hz0)]⟩)
    | (rw [if_neg hnz]; exact ⟨rfl, rfl, rfl, fun a ha => ((hE3 a ha).trans (hE2 a ha)).trans (hE1 a ha), rfl, _, hM3, fun q hq => by
        by_cases c1 : q = c
        · rw [c1, upF_self, upF_self]
        · rw [upF_ne _ _ c1, upF_ne _ _ hq, upF_ne _ _ c1, upF_ne _ _ c1]⟩)
    | (rw [if_neg hnz]; exact ⟨rfl, rfl, rfl, hE1, rfl, _, ⟨D1, LN1, SG1, X1, X2, hA1, hN1⟩, fun q _ => by rw [(fl_td hz).1 (Or.inr hsp)]⟩)
  · obtain ⟨rfl, hnz⟩ : wh = 0 ∧ ¬ mg 268435456 X1 ne = 0 := hw.elim (fun q => absurd q.1 (by omega)) id
    rw [hrem, fl_dvd] at hnz
    refine aw_iload dX6_floors_71 (by rfl) ?_
    refine aw_if_geZ (tgt := 93) dX6_floors_73 (by decide) hs32 (fun hc_73 => ?_) (fun hc_73 => ?_)
    · have hsp : 0 ≤ zs a := by rw [← hsa] at hc_73; exact Int.sign_nonneg_iff.mp hc_73
      refine aw_iload dX6_floors_93 (by rfl) ?_
      refine aw_iret dX6_floors_95 rfl (by rfl) ?_
      first
      | (rw [if_pos hz0]; exact ⟨rfl, rfl, rfl, hE1, rfl, _, ⟨D1, LN1, SG1, X1, X2, hA1, hN1⟩, fun q _ => by rw [(fl_td hz).1 (Or.inl hz0)]⟩)
      | (rw [if_neg hnz]; exact ⟨rfl, rfl, rfl, fun a ha => ((hE3 a ha).trans (hE2 a ha)).trans (hE1 a ha), rfl, _, hM3, fun q hq => by
          by_cases c1 : q = c
          · rw [c1, upF_self, upF_self]
          · rw [upF_ne _ _ c1, upF_ne _ _ hq, upF_ne _ _ c1, upF_ne _ _ c1]⟩)
      | (rw [if_neg hnz]; exact ⟨rfl, rfl, rfl, hE1, rfl, _, ⟨D1, LN1, SG1, X1, X2, hA1, hN1⟩, fun q _ => by rw [(fl_td hz).1 (Or.inr hsp)]⟩)
    · have hsn : zs a < 0 := by rw [← hsa] at hc_73; exact Int.lt_of_not_ge (fun q => hc_73 (Int.sign_nonneg_iff.mpr q))
      refine aw_aload_n dX6_floors_76 (by rfl) (Or.inr ⟨_, rfl⟩) ?_
      refine aw_sipushZ dX6_floors_77 (by decide) ?_
      
      refine aw_lconstZ (z := 1) dX6_floors_80 (by decide) ?_
      refine aw_callv vX6_83 dX6_floors_81 hmo1 (m_becomes g d (c := 415) (v := 1) ⟨rk, kn, ar, ac, hmo1⟩ ⟨D1, LN1, SG1, X1, X2, hA1, hN1⟩ (by omega) (by omega)) (by rfl) (by rfl) (by omega) (Nat.le_of_ble_eq_true rfl) ?_
      rintro _ V2 _ _ _ ⟨rfl, rfl, rfl, hE2, rfl, hM2⟩ -
      refine q0 ?_
      have hmo2 := (hE2 mo (by unfold EN; omega)).trans hmo1
      refine aw_aload_n dX6_floors_84 (by rfl) (Or.inr ⟨_, rfl⟩) ?_
      refine aw_iload_n dX6_floors_85 (by rfl) ?_
      
      refine aw_sipushZ dX6_floors_86 (by decide) ?_
      
      refine aw_iload_n dX6_floors_89 (by rfl) ?_
      refine aw_callv vX6_94 dX6_floors_90 hmo2 (m_less g d (a := c) (e := 415) (c := c) ⟨rk, kn, ar, ac, hmo2⟩ hM2 hc (by omega) hc (by rw [upF_ne _ _ hc15, upF_self, upF_self, (fl_td hz).2 hnz hsn]; exact hsm.le (fl_abs hz))) (by rfl) (by rfl) (by omega) (Nat.le_of_ble_eq_true rfl) ?_
      rintro _ V3 _ _ _ ⟨rfl, rfl, rfl, hE3, rfl, hM3⟩ -
      refine q0 ?_
      rw [upF_ne _ _ hc15, upF_self, upF_self, (fl_td hz).2 hnz hsn] at hM3
      refine aw_iload dX6_floors_93 (by rfl) ?_
      refine aw_iret dX6_floors_95 rfl (by rfl) ?_
      first
      | (rw [if_pos hz0]; exact ⟨rfl, rfl, rfl, hE1, rfl, _, ⟨D1, LN1, SG1, X1, X2, hA1, hN1⟩, fun q _ => by rw [(fl_td hz).1 (Or.inl hz0)]⟩)
      | (rw [if_neg hnz]; exact ⟨rfl, rfl, rfl, fun a ha => ((hE3 a ha).trans (hE2 a ha)).trans (hE1 a ha), rfl, _, hM3, fun q hq => by
          by_cases c1 : q = c
          · rw [c1, upF_self, upF_self]
          · rw [upF_ne _ _ c1, upF_ne _ _ hq, upF_ne _ _ c1, upF_ne _ _ c1]⟩)
      | (rw [if_neg hnz]; exact ⟨rfl, rfl, rfl, hE1, rfl, _, ⟨D1, LN1, SG1, X1, X2, hA1, hN1⟩, fun q _ => by rw [(fl_td hz).1 (Or.inr hsp)]⟩)

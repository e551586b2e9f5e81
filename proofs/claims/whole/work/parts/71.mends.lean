/-! ===== the reference: at, compared, ends ===== -/
abbrev mX6_at : MI := (yX6_at, cX6_at, 3, (some FieldType.int), noX)
theorem dX6_at_0 : decode cX6_at 0 = .ok (.iload_n 2, 1) := by decide +kernel
theorem dX6_at_1 : decode cX6_at 1 = .ok (.aload_n 0, 1) := by decide +kernel
theorem dX6_at_2 : decode cX6_at 2 = .ok (.getfield 14, 3) := by decide +kernel
theorem dX6_at_5 : decode cX6_at 5 = .ok (.iload_n 1, 1) := by decide +kernel
theorem dX6_at_6 : decode cX6_at 6 = .ok (.iaload, 1) := by decide +kernel
theorem dX6_at_7 : decode cX6_at 7 = .ok (.if_icmp .ge 17, 3) := by decide +kernel
theorem dX6_at_10 : decode cX6_at 10 = .ok (.aload_n 0, 1) := by decide +kernel
theorem dX6_at_11 : decode cX6_at 11 = .ok (.getfield 8, 3) := by decide +kernel
theorem dX6_at_14 : decode cX6_at 14 = .ok (.bipush 100, 2) := by decide +kernel
theorem dX6_at_16 : decode cX6_at 16 = .ok (.iload_n 1, 1) := by decide +kernel
theorem dX6_at_17 : decode cX6_at 17 = .ok (.imul, 1) := by decide +kernel
theorem dX6_at_18 : decode cX6_at 18 = .ok (.iload_n 2, 1) := by decide +kernel
theorem dX6_at_19 : decode cX6_at 19 = .ok (.iadd, 1) := by decide +kernel
theorem dX6_at_20 : decode cX6_at 20 = .ok (.iaload, 1) := by decide +kernel
theorem dX6_at_21 : decode cX6_at 21 = .ok (.goto 4, 3) := by decide +kernel
theorem dX6_at_24 : decode cX6_at 24 = .ok (.iconst 0, 1) := by decide +kernel
theorem dX6_at_25 : decode cX6_at 25 = .ok (.ireturn, 1) := by decide +kernel
theorem m_at {g : GX} {V : AH} {mo sz : Nat} {rk kn ar ac : Int} {D LN SG O1 O2 : Nat → Int} (d : Nat) {c k n : Nat} (hmo : V mo = some (moO mo rk kn ar ac)) (hA : MA g mo V D LN SG O1 O2) (hc : c < 460) (hn : LN c = (n : Int)) (hn1 : n ≤ 100) (hk : k < 1000) : AMet g mX6_at d [.ref mo, .int (iZ c), .int (iZ k)] V sz (Ex (some (.int (iZ (pad (dg D c) n k)))) V sz 0 0) := by
  refine AMet.of rfl rfl (Nat.le_of_ble_eq_true rfl) ?_
  show AW g mX6_at d 0 [(0, .ref mo), (1, .int (iZ c)), (2, .int (iZ k))] [] V sz _
  refine aw_iload_n dX6_at_0 (by rfl) ?_
  refine aw_aload_n dX6_at_1 (by rfl) (Or.inr ⟨_, rfl⟩) ?_
  refine aw_get fX6_14 dX6_at_2 hmo (by rfl) ?_
  refine aw_iload_n dX6_at_5 (by rfl) ?_
  refine aw_ialdZ (c) dX6_at_6 hA.2.1 (by omega) (by omega) (by omega) ?_
  refine aw_icmp_geZ (tgt := 24) dX6_at_7 (by decide) (by omega) (by omega) (fun hc_7 => ?_) (fun hc_7 => ?_)
  · refine aw_iconstZ dX6_at_24 ?_
    refine aw_iret dX6_at_25 rfl (by rfl) ?_
    first | (rw [show pad (dg D c) n k = 0 by unfold pad; rw [if_neg (by omega)]]; exact ⟨rfl, rfl, rfl, rfl, rfl⟩) | (rw [show pad (dg D c) n k = D (100 * c + k) by unfold pad; rw [if_pos (by omega)]; rfl]; exact ⟨rfl, rfl, rfl, rfl, rfl⟩)
  · refine aw_aload_n dX6_at_10 (by rfl) (Or.inr ⟨_, rfl⟩) ?_
    refine aw_get fX6_8 dX6_at_11 hmo (by rfl) ?_
    refine aw_bipushZ dX6_at_14 (by decide) ?_
    refine aw_iload_n dX6_at_16 (by rfl) ?_
    refine aw_imulZ dX6_at_17 ?_
    refine aw_iload_n dX6_at_18 (by rfl) ?_
    refine aw_iaddZ dX6_at_19 ?_
    refine aw_ialdZ (100 * c + k) dX6_at_20 hA.1 (by omega) (by omega) (by omega) ?_
    refine aw_goto (tgt := 25) dX6_at_21 (by decide) ?_
    refine aw_iret dX6_at_25 rfl (by rfl) ?_
    first | (rw [show pad (dg D c) n k = 0 by unfold pad; rw [if_neg (by omega)]]; exact ⟨rfl, rfl, rfl, rfl, rfl⟩) | (rw [show pad (dg D c) n k = D (100 * c + k) by unfold pad; rw [if_pos (by omega)]; rfl]; exact ⟨rfl, rfl, rfl, rfl, rfl⟩)
abbrev mX6_compared : MI := (yX6_compared, cX6_compared, 4, (some FieldType.int), noX)
theorem dX6_compared_0 : decode cX6_compared 0 = .ok (.aload_n 0, 1) := by decide +kernel
theorem dX6_compared_1 : decode cX6_compared 1 = .ok (.getfield 14, 3) := by decide +kernel
theorem dX6_compared_4 : decode cX6_compared 4 = .ok (.iload_n 1, 1) := by decide +kernel
theorem dX6_compared_5 : decode cX6_compared 5 = .ok (.iaload, 1) := by decide +kernel
theorem dX6_compared_6 : decode cX6_compared 6 = .ok (.aload_n 0, 1) := by decide +kernel
theorem dX6_compared_7 : decode cX6_compared 7 = .ok (.getfield 14, 3) := by decide +kernel
theorem dX6_compared_10 : decode cX6_compared 10 = .ok (.iload_n 2, 1) := by decide +kernel
theorem dX6_compared_11 : decode cX6_compared 11 = .ok (.iaload, 1) := by decide +kernel
theorem dX6_compared_12 : decode cX6_compared 12 = .ok (.if_icmp .eq 24, 3) := by decide +kernel
theorem dX6_compared_15 : decode cX6_compared 15 = .ok (.aload_n 0, 1) := by decide +kernel
theorem dX6_compared_16 : decode cX6_compared 16 = .ok (.getfield 14, 3) := by decide +kernel
theorem dX6_compared_19 : decode cX6_compared 19 = .ok (.iload_n 1, 1) := by decide +kernel
theorem dX6_compared_20 : decode cX6_compared 20 = .ok (.iaload, 1) := by decide +kernel
theorem dX6_compared_21 : decode cX6_compared 21 = .ok (.aload_n 0, 1) := by decide +kernel
theorem dX6_compared_22 : decode cX6_compared 22 = .ok (.getfield 14, 3) := by decide +kernel
theorem dX6_compared_25 : decode cX6_compared 25 = .ok (.iload_n 2, 1) := by decide +kernel
theorem dX6_compared_26 : decode cX6_compared 26 = .ok (.iaload, 1) := by decide +kernel
theorem dX6_compared_27 : decode cX6_compared 27 = .ok (.if_icmp .le 7, 3) := by decide +kernel
theorem dX6_compared_30 : decode cX6_compared 30 = .ok (.iconst 1, 1) := by decide +kernel
theorem dX6_compared_31 : decode cX6_compared 31 = .ok (.goto 4, 3) := by decide +kernel
theorem dX6_compared_34 : decode cX6_compared 34 = .ok (.iconst (-1), 1) := by decide +kernel
theorem dX6_compared_35 : decode cX6_compared 35 = .ok (.ireturn, 1) := by decide +kernel
theorem dX6_compared_36 : decode cX6_compared 36 = .ok (.aload_n 0, 1) := by decide +kernel
theorem dX6_compared_37 : decode cX6_compared 37 = .ok (.getfield 14, 3) := by decide +kernel
theorem dX6_compared_40 : decode cX6_compared 40 = .ok (.iload_n 1, 1) := by decide +kernel
theorem dX6_compared_41 : decode cX6_compared 41 = .ok (.iaload, 1) := by decide +kernel
theorem dX6_compared_42 : decode cX6_compared 42 = .ok (.iconst 1, 1) := by decide +kernel
theorem dX6_compared_43 : decode cX6_compared 43 = .ok (.isub, 1) := by decide +kernel
theorem dX6_compared_44 : decode cX6_compared 44 = .ok (.istore_n 3, 1) := by decide +kernel
theorem dX6_compared_45 : decode cX6_compared 45 = .ok (.iload_n 3, 1) := by decide +kernel
theorem dX6_compared_46 : decode cX6_compared 46 = .ok (.ifCond .lt 34, 3) := by decide +kernel
theorem dX6_compared_49 : decode cX6_compared 49 = .ok (.aload_n 0, 1) := by decide +kernel
theorem dX6_compared_50 : decode cX6_compared 50 = .ok (.getfield 8, 3) := by decide +kernel
theorem dX6_compared_53 : decode cX6_compared 53 = .ok (.bipush 100, 2) := by decide +kernel
theorem dX6_compared_55 : decode cX6_compared 55 = .ok (.iload_n 1, 1) := by decide +kernel
theorem dX6_compared_56 : decode cX6_compared 56 = .ok (.imul, 1) := by decide +kernel
theorem dX6_compared_57 : decode cX6_compared 57 = .ok (.iload_n 3, 1) := by decide +kernel
theorem dX6_compared_58 : decode cX6_compared 58 = .ok (.iadd, 1) := by decide +kernel
theorem dX6_compared_59 : decode cX6_compared 59 = .ok (.iaload, 1) := by decide +kernel
theorem dX6_compared_60 : decode cX6_compared 60 = .ok (.aload_n 0, 1) := by decide +kernel
theorem dX6_compared_61 : decode cX6_compared 61 = .ok (.getfield 8, 3) := by decide +kernel
theorem dX6_compared_64 : decode cX6_compared 64 = .ok (.bipush 100, 2) := by decide +kernel
theorem dX6_compared_66 : decode cX6_compared 66 = .ok (.iload_n 2, 1) := by decide +kernel
theorem dX6_compared_67 : decode cX6_compared 67 = .ok (.imul, 1) := by decide +kernel
theorem dX6_compared_68 : decode cX6_compared 68 = .ok (.iload_n 3, 1) := by decide +kernel
theorem dX6_compared_69 : decode cX6_compared 69 = .ok (.iadd, 1) := by decide +kernel
theorem dX6_compared_70 : decode cX6_compared 70 = .ok (.iaload, 1) := by decide +kernel
theorem dX6_compared_71 : decode cX6_compared 71 = .ok (.if_icmp .ne 9, 3) := by decide +kernel
theorem dX6_compared_74 : decode cX6_compared 74 = .ok (.iinc 3 (-1), 3) := by decide +kernel
theorem dX6_compared_77 : decode cX6_compared 77 = .ok (.goto (-32), 3) := by decide +kernel
theorem dX6_compared_80 : decode cX6_compared 80 = .ok (.iload_n 3, 1) := by decide +kernel
theorem dX6_compared_81 : decode cX6_compared 81 = .ok (.ifCond .ge 7, 3) := by decide +kernel
theorem dX6_compared_84 : decode cX6_compared 84 = .ok (.iconst 0, 1) := by decide +kernel
theorem dX6_compared_85 : decode cX6_compared 85 = .ok (.goto 33, 3) := by decide +kernel
theorem dX6_compared_88 : decode cX6_compared 88 = .ok (.aload_n 0, 1) := by decide +kernel
theorem dX6_compared_89 : decode cX6_compared 89 = .ok (.getfield 8, 3) := by decide +kernel
theorem dX6_compared_92 : decode cX6_compared 92 = .ok (.bipush 100, 2) := by decide +kernel
theorem dX6_compared_94 : decode cX6_compared 94 = .ok (.iload_n 1, 1) := by decide +kernel
theorem dX6_compared_95 : decode cX6_compared 95 = .ok (.imul, 1) := by decide +kernel
theorem dX6_compared_96 : decode cX6_compared 96 = .ok (.iload_n 3, 1) := by decide +kernel
theorem dX6_compared_97 : decode cX6_compared 97 = .ok (.iadd, 1) := by decide +kernel
theorem dX6_compared_98 : decode cX6_compared 98 = .ok (.iaload, 1) := by decide +kernel
theorem dX6_compared_99 : decode cX6_compared 99 = .ok (.aload_n 0, 1) := by decide +kernel
theorem dX6_compared_100 : decode cX6_compared 100 = .ok (.getfield 8, 3) := by decide +kernel
theorem dX6_compared_103 : decode cX6_compared 103 = .ok (.bipush 100, 2) := by decide +kernel
theorem dX6_compared_105 : decode cX6_compared 105 = .ok (.iload_n 2, 1) := by decide +kernel
theorem dX6_compared_106 : decode cX6_compared 106 = .ok (.imul, 1) := by decide +kernel
theorem dX6_compared_107 : decode cX6_compared 107 = .ok (.iload_n 3, 1) := by decide +kernel
theorem dX6_compared_108 : decode cX6_compared 108 = .ok (.iadd, 1) := by decide +kernel
theorem dX6_compared_109 : decode cX6_compared 109 = .ok (.iaload, 1) := by decide +kernel
theorem dX6_compared_110 : decode cX6_compared 110 = .ok (.if_icmp .le 7, 3) := by decide +kernel
theorem dX6_compared_113 : decode cX6_compared 113 = .ok (.iconst 1, 1) := by decide +kernel
theorem dX6_compared_114 : decode cX6_compared 114 = .ok (.goto 4, 3) := by decide +kernel
theorem dX6_compared_117 : decode cX6_compared 117 = .ok (.iconst (-1), 1) := by decide +kernel
theorem dX6_compared_118 : decode cX6_compared 118 = .ok (.ireturn, 1) := by decide +kernel
theorem cm_loop {g : GX} {V : AH} {mo sz : Nat} {rk kn ar ac : Int} {D LN SG O1 O2 : Nat → Int} (d : Nat) {a e n : Nat} (hmo : V mo = some (moO mo rk kn ar ac)) (hA : MA g mo V D LN SG O1 O2) (ha : a < 460) (he : e < 460) (hn1 : n ≤ 100) (hFa : ∀ k, k < n → 0 ≤ dg D a k ∧ dg D a k < 268435456) (hFe : ∀ k, k < n → 0 ≤ dg D e k ∧ dg D e k < 268435456) : ∀ k : Nat, k ≤ n → (∀ j, k ≤ j → j < n → dg D a j = dg D e j) → AW g mX6_compared d 45 [(3, .int (iZ ((k : Int) - 1))), (0, .ref mo), (1, .int (iZ a)), (2, .int (iZ e))] [] V sz (Ex (some (.int (iZ (cmpZ (mg 268435456 (dg D a) n) (mg 268435456 (dg D e) n))))) V sz 0 0)
  | 0, hk, hK => by
    refine aw_iload_n dX6_compared_45 (by rfl) ?_
    refine aw_if_ltZ (tgt := 80) dX6_compared_46 (by decide) (by omega) (fun hc_46 => ?_) (fun hc_46 => ?_)
    · refine aw_iload_n dX6_compared_80 (by rfl) ?_
      refine aw_if_geZ (tgt := 88) dX6_compared_81 (by decide) (by omega) (fun hc_81 => ?_) (fun hc_81 => ?_)
      · exact absurd hc_81 (by omega)
      · refine aw_iconstZ dX6_compared_84 ?_
        refine aw_goto (tgt := 118) dX6_compared_85 (by decide) ?_
        refine aw_iret dX6_compared_118 rfl (by rfl) ?_
        rw [show (cmpZ (mg 268435456 (dg D a) n) (mg 268435456 (dg D e) n)) = 0 by unfold cmpZ; rw [mg_congr (fun j hj => hK j (Nat.zero_le _) hj), if_neg (by omega), if_pos rfl]]
        exact ⟨rfl, rfl, rfl, rfl, rfl⟩
    · exact absurd (by omega) hc_46
  | k + 1, hk, hK => by
    have IH := cm_loop (sz := sz) d hmo hA ha he hn1 hFa hFe k
    rw [show ((k + 1 : Nat) : Int) - 1 = (k : Int) by omega]
    refine aw_iload_n dX6_compared_45 (by rfl) ?_
    refine aw_if_ltZ (tgt := 80) dX6_compared_46 (by decide) (by omega) (fun hc_46 => ?_) (fun hc_46 => ?_)
    · exact absurd hc_46 (by omega)
    · refine aw_aload_n dX6_compared_49 (by rfl) (Or.inr ⟨_, rfl⟩) ?_
      refine aw_get fX6_8 dX6_compared_50 hmo (by rfl) ?_
      refine aw_bipushZ dX6_compared_53 (by decide) ?_
      refine aw_iload_n dX6_compared_55 (by rfl) ?_
      refine aw_imulZ dX6_compared_56 ?_
      refine aw_iload_n dX6_compared_57 (by rfl) ?_
      refine aw_iaddZ dX6_compared_58 ?_
      refine aw_ialdZ (100 * a + k) dX6_compared_59 hA.1 (by omega) (by omega) (by omega) ?_
      refine aw_aload_n dX6_compared_60 (by rfl) (Or.inr ⟨_, rfl⟩) ?_
      refine aw_get fX6_8 dX6_compared_61 hmo (by rfl) ?_
      refine aw_bipushZ dX6_compared_64 (by decide) ?_
      refine aw_iload_n dX6_compared_66 (by rfl) ?_
      refine aw_imulZ dX6_compared_67 ?_
      refine aw_iload_n dX6_compared_68 (by rfl) ?_
      refine aw_iaddZ dX6_compared_69 ?_
      refine aw_ialdZ (100 * e + k) dX6_compared_70 hA.1 (by omega) (by omega) (by omega) ?_
      refine aw_icmp_neZ (tgt := 80) dX6_compared_71 (by decide) (by have := hFa k (by omega); unfold dg at this; omega) (by have := hFe k (by omega); unfold dg at this; omega) (fun hc_71 => ?_) (fun hc_71 => ?_)
      · refine aw_iload_n dX6_compared_80 (by rfl) ?_
        refine aw_if_geZ (tgt := 88) dX6_compared_81 (by decide) (by omega) (fun hc_81 => ?_) (fun hc_81 => ?_)
        · refine aw_aload_n dX6_compared_88 (by rfl) (Or.inr ⟨_, rfl⟩) ?_
          refine aw_get fX6_8 dX6_compared_89 hmo (by rfl) ?_
          refine aw_bipushZ dX6_compared_92 (by decide) ?_
          refine aw_iload_n dX6_compared_94 (by rfl) ?_
          refine aw_imulZ dX6_compared_95 ?_
          refine aw_iload_n dX6_compared_96 (by rfl) ?_
          refine aw_iaddZ dX6_compared_97 ?_
          refine aw_ialdZ (100 * a + k) dX6_compared_98 hA.1 (by omega) (by omega) (by omega) ?_
          refine aw_aload_n dX6_compared_99 (by rfl) (Or.inr ⟨_, rfl⟩) ?_
          refine aw_get fX6_8 dX6_compared_100 hmo (by rfl) ?_
          refine aw_bipushZ dX6_compared_103 (by decide) ?_
          refine aw_iload_n dX6_compared_105 (by rfl) ?_
          refine aw_imulZ dX6_compared_106 ?_
          refine aw_iload_n dX6_compared_107 (by rfl) ?_
          refine aw_iaddZ dX6_compared_108 ?_
          refine aw_ialdZ (100 * e + k) dX6_compared_109 hA.1 (by omega) (by omega) (by omega) ?_
          refine aw_icmp_leZ (tgt := 117) dX6_compared_110 (by decide) (by have := hFa k (by omega); unfold dg at this; omega) (by have := hFe k (by omega); unfold dg at this; omega) (fun hc_110 => ?_) (fun hc_110 => ?_)
          · refine aw_iconstZ dX6_compared_117 ?_
            refine aw_iret dX6_compared_118 rfl (by rfl) ?_
            first
            | (rw [show (cmpZ (mg 268435456 (dg D a) n) (mg 268435456 (dg D e) n)) = 1 by unfold cmpZ; exact if_pos (mg_lt_of (by omega) (show k < n by omega) hFe hFa (fun j h1 h2 => (hK j h1 h2).symm) (by show D _ < D _; omega))]; exact ⟨rfl, rfl, rfl, rfl, rfl⟩)
            | (rw [show (cmpZ (mg 268435456 (dg D a) n) (mg 268435456 (dg D e) n)) = -1 by unfold cmpZ; have := mg_lt_of (show (0 : Int) < 268435456 by omega) (show k < n by omega) hFa hFe hK (by show D _ < D _; omega); rw [if_neg (by omega), if_neg (by omega)]]; exact ⟨rfl, rfl, rfl, rfl, rfl⟩)
          · refine aw_iconstZ dX6_compared_113 ?_
            refine aw_goto (tgt := 118) dX6_compared_114 (by decide) ?_
            refine aw_iret dX6_compared_118 rfl (by rfl) ?_
            first
            | (rw [show (cmpZ (mg 268435456 (dg D a) n) (mg 268435456 (dg D e) n)) = 1 by unfold cmpZ; exact if_pos (mg_lt_of (by omega) (show k < n by omega) hFe hFa (fun j h1 h2 => (hK j h1 h2).symm) (by show D _ < D _; omega))]; exact ⟨rfl, rfl, rfl, rfl, rfl⟩)
            | (rw [show (cmpZ (mg 268435456 (dg D a) n) (mg 268435456 (dg D e) n)) = -1 by unfold cmpZ; have := mg_lt_of (show (0 : Int) < 268435456 by omega) (show k < n by omega) hFa hFe hK (by show D _ < D _; omega); rw [if_neg (by omega), if_neg (by omega)]]; exact ⟨rfl, rfl, rfl, rfl, rfl⟩)
        · exact absurd (by omega) hc_81
      · refine aw_iincZ dX6_compared_74 (by rfl) (by decide) ?_
        refine aw_goto (tgt := 45) dX6_compared_77 (by decide) ?_
        rw [show ((k : Int) + -1) = ((k : Nat) : Int) - 1 by omega]
        refine aw_pk [3, 0, 1, 2] (by rfl) ?_
        exact IH (by omega) (fun j h1 h2 => (Nat.lt_or_eq_of_le h1).elim (fun z => hK j z h2) (fun z => z ▸ hc_71))
theorem m_compared {g : GX} {V : AH} {mo sz : Nat} (d : Nat) {a e : Nat} {zs : Nat → Int} (hm : moV mo V) (h : MN g mo V zs) (ha : a < 460) (he : e < 460) : AMet g mX6_compared d [.ref mo, .int (iZ a), .int (iZ e)] V sz (Ex (some (.int (iZ (cmpZ ((zs a).natAbs : Int) ((zs e).natAbs : Int))))) V sz 0 0) := by
  obtain ⟨rk, kn, ar, ac, hmo⟩ := hm
  obtain ⟨D, LN, SG, O1, O2, hA, h0⟩ := h
  obtain ⟨n, a1, a2, a3, a4, a5, a6⟩ := h0 a ha
  obtain ⟨k, b1, b2, b3, b4, b5, b6⟩ := h0 e he
  rw [← a5, ← b5]
  refine AMet.of rfl rfl (Nat.le_of_ble_eq_true rfl) ?_
  show AW g mX6_compared d 0 [(0, .ref mo), (1, .int (iZ a)), (2, .int (iZ e))] [] V sz _
  refine aw_aload_n dX6_compared_0 (by rfl) (Or.inr ⟨_, rfl⟩) ?_
  refine aw_get fX6_14 dX6_compared_1 hmo (by rfl) ?_
  refine aw_iload_n dX6_compared_4 (by rfl) ?_
  refine aw_ialdZ (a) dX6_compared_5 hA.2.1 (by omega) (by omega) (by omega) ?_
  refine aw_aload_n dX6_compared_6 (by rfl) (Or.inr ⟨_, rfl⟩) ?_
  refine aw_get fX6_14 dX6_compared_7 hmo (by rfl) ?_
  refine aw_iload_n dX6_compared_10 (by rfl) ?_
  refine aw_ialdZ (e) dX6_compared_11 hA.2.1 (by omega) (by omega) (by omega) ?_
  refine aw_icmp_eqZ (tgt := 36) dX6_compared_12 (by decide) (by omega) (by omega) (fun hc_12 => ?_) (fun hc_12 => ?_)
  · obtain rfl : n = k := by omega
    refine aw_aload_n dX6_compared_36 (by rfl) (Or.inr ⟨_, rfl⟩) ?_
    refine aw_get fX6_14 dX6_compared_37 hmo (by rfl) ?_
    refine aw_iload_n dX6_compared_40 (by rfl) ?_
    refine aw_ialdZ (a) dX6_compared_41 hA.2.1 (by omega) (by omega) (by omega) ?_
    refine aw_iconstZ dX6_compared_42 ?_
    refine aw_isubZ dX6_compared_43 ?_
    refine aw_topi (y := (n : Int) - 1) (by omega) ?_
    refine aw_istore_n dX6_compared_44 (by decide) ?_
    refine aw_pk [3, 0, 1, 2] (by rfl) ?_
    exact cm_loop d hmo hA ha he a2 a4 b4 n (Nat.le_refl _) (fun j h1 h2 => absurd h1 (by omega))
  · refine aw_aload_n dX6_compared_15 (by rfl) (Or.inr ⟨_, rfl⟩) ?_
    refine aw_get fX6_14 dX6_compared_16 hmo (by rfl) ?_
    refine aw_iload_n dX6_compared_19 (by rfl) ?_
    refine aw_ialdZ (a) dX6_compared_20 hA.2.1 (by omega) (by omega) (by omega) ?_
    refine aw_aload_n dX6_compared_21 (by rfl) (Or.inr ⟨_, rfl⟩) ?_
    refine aw_get fX6_14 dX6_compared_22 hmo (by rfl) ?_
    refine aw_iload_n dX6_compared_25 (by rfl) ?_
    refine aw_ialdZ (e) dX6_compared_26 hA.2.1 (by omega) (by omega) (by omega) ?_
    refine aw_icmp_leZ (tgt := 34) dX6_compared_27 (by decide) (by omega) (by omega) (fun hc_27 => ?_) (fun hc_27 => ?_)
    · refine aw_iconstZ dX6_compared_34 ?_
      refine aw_iret dX6_compared_35 rfl (by rfl) ?_
      first
      | (rw [show cmpZ (mg 268435456 (dg D a) n) (mg 268435456 (dg D e) k) = 1 by unfold cmpZ; exact if_pos (mg_len_lt (by omega) b4 a4 a6 (by omega))]; exact ⟨rfl, rfl, rfl, rfl, rfl⟩)
      | (rw [show cmpZ (mg 268435456 (dg D a) n) (mg 268435456 (dg D e) k) = -1 by unfold cmpZ; have := mg_len_lt (show (1 : Int) < 268435456 by omega) a4 b4 b6 (by omega); rw [if_neg (by omega), if_neg (by omega)]]; exact ⟨rfl, rfl, rfl, rfl, rfl⟩)
    · refine aw_iconstZ dX6_compared_30 ?_
      refine aw_goto (tgt := 35) dX6_compared_31 (by decide) ?_
      refine aw_iret dX6_compared_35 rfl (by rfl) ?_
      first
      | (rw [show cmpZ (mg 268435456 (dg D a) n) (mg 268435456 (dg D e) k) = 1 by unfold cmpZ; exact if_pos (mg_len_lt (by omega) b4 a4 a6 (by omega))]; exact ⟨rfl, rfl, rfl, rfl, rfl⟩)
      | (rw [show cmpZ (mg 268435456 (dg D a) n) (mg 268435456 (dg D e) k) = -1 by unfold cmpZ; have := mg_len_lt (show (1 : Int) < 268435456 by omega) a4 b4 b6 (by omega); rw [if_neg (by omega), if_neg (by omega)]]; exact ⟨rfl, rfl, rfl, rfl, rfl⟩)
abbrev mX6_ends : MI := (yX6_ends, cX6_ends, 5, none, noX)
theorem dX6_ends_0 : decode cX6_ends 0 = .ok (.iload_n 2, 1) := by decide +kernel
theorem dX6_ends_1 : decode cX6_ends 1 = .ok (.istore 4, 2) := by decide +kernel
theorem dX6_ends_3 : decode cX6_ends 3 = .ok (.iload 4, 2) := by decide +kernel
theorem dX6_ends_5 : decode cX6_ends 5 = .ok (.ifCond .le 26, 3) := by decide +kernel
theorem dX6_ends_8 : decode cX6_ends 8 = .ok (.aload_n 0, 1) := by decide +kernel
theorem dX6_ends_9 : decode cX6_ends 9 = .ok (.getfield 8, 3) := by decide +kernel
theorem dX6_ends_12 : decode cX6_ends 12 = .ok (.bipush 100, 2) := by decide +kernel
theorem dX6_ends_14 : decode cX6_ends 14 = .ok (.iload_n 1, 1) := by decide +kernel
theorem dX6_ends_15 : decode cX6_ends 15 = .ok (.imul, 1) := by decide +kernel
theorem dX6_ends_16 : decode cX6_ends 16 = .ok (.iload 4, 2) := by decide +kernel
theorem dX6_ends_18 : decode cX6_ends 18 = .ok (.iadd, 1) := by decide +kernel
theorem dX6_ends_19 : decode cX6_ends 19 = .ok (.iconst 1, 1) := by decide +kernel
theorem dX6_ends_20 : decode cX6_ends 20 = .ok (.isub, 1) := by decide +kernel
theorem dX6_ends_21 : decode cX6_ends 21 = .ok (.iaload, 1) := by decide +kernel
theorem dX6_ends_22 : decode cX6_ends 22 = .ok (.ifCond .ne 9, 3) := by decide +kernel
theorem dX6_ends_25 : decode cX6_ends 25 = .ok (.iinc 4 (-1), 3) := by decide +kernel
theorem dX6_ends_28 : decode cX6_ends 28 = .ok (.goto (-25), 3) := by decide +kernel
theorem dX6_ends_31 : decode cX6_ends 31 = .ok (.aload_n 0, 1) := by decide +kernel
theorem dX6_ends_32 : decode cX6_ends 32 = .ok (.getfield 14, 3) := by decide +kernel
theorem dX6_ends_35 : decode cX6_ends 35 = .ok (.iload_n 1, 1) := by decide +kernel
theorem dX6_ends_36 : decode cX6_ends 36 = .ok (.iload 4, 2) := by decide +kernel
theorem dX6_ends_38 : decode cX6_ends 38 = .ok (.iastore, 1) := by decide +kernel
theorem dX6_ends_39 : decode cX6_ends 39 = .ok (.aload_n 0, 1) := by decide +kernel
theorem dX6_ends_40 : decode cX6_ends 40 = .ok (.getfield 17, 3) := by decide +kernel
theorem dX6_ends_43 : decode cX6_ends 43 = .ok (.iload_n 1, 1) := by decide +kernel
theorem dX6_ends_44 : decode cX6_ends 44 = .ok (.iload 4, 2) := by decide +kernel
theorem dX6_ends_46 : decode cX6_ends 46 = .ok (.ifCond .ne 7, 3) := by decide +kernel
theorem dX6_ends_49 : decode cX6_ends 49 = .ok (.iconst 0, 1) := by decide +kernel
theorem dX6_ends_50 : decode cX6_ends 50 = .ok (.goto 4, 3) := by decide +kernel
theorem dX6_ends_53 : decode cX6_ends 53 = .ok (.iload_n 3, 1) := by decide +kernel
theorem dX6_ends_54 : decode cX6_ends 54 = .ok (.iastore, 1) := by decide +kernel
theorem dX6_ends_55 : decode cX6_ends 55 = .ok (.return_, 1) := by decide +kernel
theorem en_loop {g : GX} {V : AH} {mo sz : Nat} {rk kn ar ac : Int} {D LN SG O1 O2 : Nat → Int} (d : Nat) {c n : Nat} {s z : Int} {zs : Nat → Int} (hmo : V mo = some (moO mo rk kn ar ac)) (hA : MA g mo V D LN SG O1 O2) (h0 : ∀ q, q < 460 → q ≠ c → NuV D LN SG q (zs q)) (hc : c < 460) (hn : n ≤ 100) (hF : ∀ k, k < n → 0 ≤ dg D c k ∧ dg D c k < 268435456) (hz : mg 268435456 (dg D c) n = (z.natAbs : Int)) (hs : z ≠ 0 → s = z.sign) : ∀ k : Nat, k ≤ n → mg 268435456 (dg D c) n = mg 268435456 (dg D c) k → AW g mX6_ends d 3 [(4, .int (iZ k)), (0, .ref mo), (1, .int (iZ c)), (3, .int (iZ s))] [] V sz (VX V sz (EN mo) (fun q V' => none = q ∧ MN g mo V' (upF zs c z)))
  | k, hk, hE => by
    have END : (k = 0 ∨ dg D c (k - 1) ≠ 0) → AW g mX6_ends d 31 [(4, .int (iZ k)), (0, .ref mo), (1, .int (iZ c)), (3, .int (iZ s))] [] V sz (VX V sz (EN mo) (fun q V' => none = q ∧ MN g mo V' (upF zs c z))) := fun htop => by
      have hk0 : z = 0 ↔ k = 0 := by
        have h1 := mg_zero (show (0 : Int) < 268435456 by omega) (F := dg D c) (n := k) (fun j hj => hF j (by omega)) htop
        rw [← hE, hz] at h1
        omega
      refine aw_aload_n dX6_ends_31 (by rfl) (Or.inr ⟨_, rfl⟩) ?_
      refine aw_get fX6_14 dX6_ends_32 hmo (by rfl) ?_
      refine aw_iload_n dX6_ends_35 (by rfl) ?_
      refine aw_iload dX6_ends_36 (by rfl) ?_
      refine aw_iastZ (c) dX6_ends_38 hA.2.1 (by omega) (by omega) (by omega) ?_
      refine VX.stp (V1 := AHu V (mo + 2) _) (fun a ha => AHu_ne (fun q => ha (by unfold EN; omega))) ?_
      have hmo1 : (AHu V (mo + 2) (aIz g 460 (upF LN c (k : Int)))) mo = _ := (AHu_ne (by omega)).trans hmo
      have hA1 : MA g mo (AHu V (mo + 2) (aIz g 460 (upF LN c (k : Int)))) D (upF LN c (k : Int)) SG O1 O2 := hA.l
      refine aw_aload_n dX6_ends_39 (by rfl) (Or.inr ⟨_, rfl⟩) ?_
      refine aw_get fX6_17 dX6_ends_40 hmo1 (by rfl) ?_
      refine aw_iload_n dX6_ends_43 (by rfl) ?_
      refine aw_iload dX6_ends_44 (by rfl) ?_
      refine aw_if_neZ (tgt := 53) dX6_ends_46 (by decide) (by omega) (fun hc_46 => ?_) (fun hc_46 => ?_)
      · refine aw_iload_n dX6_ends_53 (by rfl) ?_
        refine aw_topi (y := z.sign) (by first | (rw [hs (fun q => hc_46 (by have := hk0.mp q; omega))]; done) | (rw [hk0.mpr (by omega)]; rfl)) ?_
        refine aw_iastZ (c) dX6_ends_54 hA1.2.2.1 (by omega) (by omega) (by omega) ?_
        refine VX.stp (V1 := AHu (AHu V (mo + 2) (aIz g 460 (upF LN c (k : Int)))) (mo + 3) _) (fun a ha => AHu_ne (fun q => ha (by unfold EN; omega))) ?_
        refine aw_ret dX6_ends_55 rfl ?_
        refine VX.ret ⟨rfl, D, upF LN c (k : Int), upF SG c z.sign, O1, O2, hA1.s, fun q hq => ?_⟩
        by_cases e : q = c
        · rw [e, upF_self]
          exact ⟨k, upF_self _ _ _, by omega, upF_self _ _ _, fun j hj => hF j (by omega), hE.symm.trans hz, htop⟩
        · rw [upF_ne _ _ e]
          exact (h0 q hq e).kept (fun _ _ => rfl) (upF_ne _ _ e) (upF_ne _ _ e)
      · refine aw_iconstZ dX6_ends_49 ?_
        refine aw_goto (tgt := 54) dX6_ends_50 (by decide) ?_
        refine aw_topi (y := z.sign) (by first | (rw [hs (fun q => hc_46 (by have := hk0.mp q; omega))]; done) | (rw [hk0.mpr (by omega)]; rfl)) ?_
        refine aw_iastZ (c) dX6_ends_54 hA1.2.2.1 (by omega) (by omega) (by omega) ?_
        refine VX.stp (V1 := AHu (AHu V (mo + 2) (aIz g 460 (upF LN c (k : Int)))) (mo + 3) _) (fun a ha => AHu_ne (fun q => ha (by unfold EN; omega))) ?_
        refine aw_ret dX6_ends_55 rfl ?_
        refine VX.ret ⟨rfl, D, upF LN c (k : Int), upF SG c z.sign, O1, O2, hA1.s, fun q hq => ?_⟩
        by_cases e : q = c
        · rw [e, upF_self]
          exact ⟨k, upF_self _ _ _, by omega, upF_self _ _ _, fun j hj => hF j (by omega), hE.symm.trans hz, htop⟩
        · rw [upF_ne _ _ e]
          exact (h0 q hq e).kept (fun _ _ => rfl) (upF_ne _ _ e) (upF_ne _ _ e)
    revert END
    cases k with
    | zero =>
      intro END
      refine aw_iload dX6_ends_3 (by rfl) ?_
      refine aw_if_leZ (tgt := 31) dX6_ends_5 (by decide) (by omega) (fun hc_5 => ?_) (fun hc_5 => ?_)
      · exact END (Or.inl rfl)
      · exact absurd (by omega) hc_5
    | succ k =>
      intro END
      have IH := en_loop (sz := sz) d hmo hA h0 hc hn hF hz hs k
      rw [show ((k + 1 : Nat) : Int) = (k : Int) + 1 by omega]
      refine aw_iload dX6_ends_3 (by rfl) ?_
      refine aw_if_leZ (tgt := 31) dX6_ends_5 (by decide) (by omega) (fun hc_5 => ?_) (fun hc_5 => ?_)
      · exact absurd hc_5 (by omega)
      · refine aw_aload_n dX6_ends_8 (by rfl) (Or.inr ⟨_, rfl⟩) ?_
        refine aw_get fX6_8 dX6_ends_9 hmo (by rfl) ?_
        refine aw_bipushZ dX6_ends_12 (by decide) ?_
        refine aw_iload_n dX6_ends_14 (by rfl) ?_
        refine aw_imulZ dX6_ends_15 ?_
        refine aw_iload dX6_ends_16 (by rfl) ?_
        refine aw_iaddZ dX6_ends_18 ?_
        refine aw_iconstZ dX6_ends_19 ?_
        refine aw_isubZ dX6_ends_20 ?_
        refine aw_ialdZ (100 * c + k) dX6_ends_21 hA.1 (by omega) (by omega) (by omega) ?_
        refine aw_if_neZ (tgt := 31) dX6_ends_22 (by decide) (by have := hF k (by omega); unfold dg at this; omega) (fun hc_22 => ?_) (fun hc_22 => ?_)
        · rw [show (k : Int) + 1 = ((k + 1 : Nat) : Int) by omega]
          exact END (Or.inr (by show D (100 * c + (k + 1 - 1)) ≠ 0; rw [show k + 1 - 1 = k by omega]; exact hc_22))
        · refine aw_iincZ dX6_ends_25 (by rfl) (by decide) ?_
          refine aw_goto (tgt := 3) dX6_ends_28 (by decide) ?_
          rw [show ((k : Int) + 1 + -1) = (k : Int) by omega]
          refine aw_pk [4, 0, 1, 3] (by rfl) ?_
          exact IH (by omega) (by rw [hE]; simp only [mg]; have : dg D c k = 0 := hc_22; rw [this, Int.zero_mul, Int.add_zero])
theorem m_ends {g : GX} {V : AH} {mo sz : Nat} {rk kn ar ac : Int} {D LN SG O1 O2 : Nat → Int} (d : Nat) {c n : Nat} {s z : Int} {zs : Nat → Int} (hmo : V mo = some (moO mo rk kn ar ac)) (hA : MA g mo V D LN SG O1 O2) (h0 : ∀ q, q < 460 → q ≠ c → NuV D LN SG q (zs q)) (hc : c < 460) (hn : n ≤ 100) (hF : ∀ k, k < n → 0 ≤ dg D c k ∧ dg D c k < 268435456) (hz : mg 268435456 (dg D c) n = (z.natAbs : Int)) (hs : z ≠ 0 → s = z.sign) (hs32 : R32 s) : AMet g mX6_ends d [.ref mo, .int (iZ c), .int (iZ n), .int (iZ s)] V sz (VX V sz (EN mo) (fun q V' => none = q ∧ MN g mo V' (upF zs c z))) := by
  refine AMet.of rfl rfl (Nat.le_of_ble_eq_true rfl) ?_
  show AW g mX6_ends d 0 [(0, .ref mo), (1, .int (iZ c)), (2, .int (iZ n)), (3, .int (iZ s))] [] V sz _
  refine aw_iload_n dX6_ends_0 (by rfl) ?_
  refine aw_istore dX6_ends_1 (by decide) ?_
  refine aw_pk [4, 0, 1, 3] (by rfl) ?_
  exact en_loop d hmo hA h0 hc hn hF hz hs n (Nat.le_refl _) rfl

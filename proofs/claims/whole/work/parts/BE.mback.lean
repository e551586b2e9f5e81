/-! ===== the reference: cofactor, back ===== -/
theorem bt17 : ∀ i : Fin 5, rkb (31 - 2 ^ (i : Nat)) 5 = 4 ∧ 2 ^ (i : Nat) ≤ 31 ∧ ∀ c : Fin 4, psb (31 - 2 ^ (i : Nat)) c = sk i c ∧ sk i c < 5 := by decide +kernel
abbrev mX6_cofactor : MI := (yX6_cofactor, cX6_cofactor, 4, (some FieldType.long), noX)
theorem dX6_cofactor_0 : decode cX6_cofactor 0 = .ok (.aload_n 0, 1) := by decide +kernel
theorem dX6_cofactor_1 : decode cX6_cofactor 1 = .ok (.getfield 49, 3) := by decide +kernel
theorem dX6_cofactor_4 : decode cX6_cofactor 4 = .ok (.bipush 31, 2) := by decide +kernel
theorem dX6_cofactor_6 : decode cX6_cofactor 6 = .ok (.iconst 1, 1) := by decide +kernel
theorem dX6_cofactor_7 : decode cX6_cofactor 7 = .ok (.iload_n 2, 1) := by decide +kernel
theorem dX6_cofactor_8 : decode cX6_cofactor 8 = .ok (.ishl, 1) := by decide +kernel
theorem dX6_cofactor_9 : decode cX6_cofactor 9 = .ok (.isub, 1) := by decide +kernel
theorem dX6_cofactor_10 : decode cX6_cofactor 10 = .ok (.invokestatic 169, 3) := by decide +kernel
theorem dX6_cofactor_13 : decode cX6_cofactor 13 = .ok (.aload_n 0, 1) := by decide +kernel
theorem dX6_cofactor_14 : decode cX6_cofactor 14 = .ok (.getfield 52, 3) := by decide +kernel
theorem dX6_cofactor_17 : decode cX6_cofactor 17 = .ok (.bipush 31, 2) := by decide +kernel
theorem dX6_cofactor_19 : decode cX6_cofactor 19 = .ok (.iconst 1, 1) := by decide +kernel
theorem dX6_cofactor_20 : decode cX6_cofactor 20 = .ok (.iload_n 3, 1) := by decide +kernel
theorem dX6_cofactor_21 : decode cX6_cofactor 21 = .ok (.ishl, 1) := by decide +kernel
theorem dX6_cofactor_22 : decode cX6_cofactor 22 = .ok (.isub, 1) := by decide +kernel
theorem dX6_cofactor_23 : decode cX6_cofactor 23 = .ok (.invokestatic 169, 3) := by decide +kernel
theorem dX6_cofactor_26 : decode cX6_cofactor 26 = .ok (.iload_n 2, 1) := by decide +kernel
theorem dX6_cofactor_27 : decode cX6_cofactor 27 = .ok (.iload_n 3, 1) := by decide +kernel
theorem dX6_cofactor_28 : decode cX6_cofactor 28 = .ok (.iadd, 1) := by decide +kernel
theorem dX6_cofactor_29 : decode cX6_cofactor 29 = .ok (.iconst 2, 1) := by decide +kernel
theorem dX6_cofactor_30 : decode cX6_cofactor 30 = .ok (.irem, 1) := by decide +kernel
theorem dX6_cofactor_31 : decode cX6_cofactor 31 = .ok (.ifCond .ne 7, 3) := by decide +kernel
theorem dX6_cofactor_34 : decode cX6_cofactor 34 = .ok (.lconst 1, 1) := by decide +kernel
theorem dX6_cofactor_35 : decode cX6_cofactor 35 = .ok (.goto 6, 3) := by decide +kernel
theorem dX6_cofactor_38 : decode cX6_cofactor 38 = .ok (.ldc2_w 159, 3) := by decide +kernel
theorem dX6_cofactor_41 : decode cX6_cofactor 41 = .ok (.aload_n 0, 1) := by decide +kernel
theorem dX6_cofactor_42 : decode cX6_cofactor 42 = .ok (.iload_n 1, 1) := by decide +kernel
theorem dX6_cofactor_43 : decode cX6_cofactor 43 = .ok (.aload_n 0, 1) := by decide +kernel
theorem dX6_cofactor_44 : decode cX6_cofactor 44 = .ok (.getfield 37, 3) := by decide +kernel
theorem dX6_cofactor_47 : decode cX6_cofactor 47 = .ok (.iload_n 1, 1) := by decide +kernel
theorem dX6_cofactor_48 : decode cX6_cofactor 48 = .ok (.iaload, 1) := by decide +kernel
theorem dX6_cofactor_49 : decode cX6_cofactor 49 = .ok (.iconst 1, 1) := by decide +kernel
theorem dX6_cofactor_50 : decode cX6_cofactor 50 = .ok (.isub, 1) := by decide +kernel
theorem dX6_cofactor_51 : decode cX6_cofactor 51 = .ok (.invokevirtual 173, 3) := by decide +kernel
theorem dX6_cofactor_54 : decode cX6_cofactor 54 = .ok (.lmul, 1) := by decide +kernel
theorem dX6_cofactor_55 : decode cX6_cofactor 55 = .ok (.lreturn, 1) := by decide +kernel
set_option maxRecDepth 20000 in
theorem m_cofactor (g : GX) (d : Nat) {V : AH} {mo sz t i j : Nat} {rk kn ar ac : Int} {S : TSt} {F13 F14 : Nat → Int} (hmo : V mo = some (moO mo rk kn ar ac)) (hT : RTb g mo V S) (ht : t < 12) (qr : 1 ≤ S.r t ∧ S.r t ≤ 5) (qx : ∀ e, e < 25 → -1000 ≤ S.N t e ∧ S.N t e ≤ 1000) (h13 : V (mo + 13) = some (aIz g 5 F13)) (h14 : V (mo + 14) = some (aIz g 5 F14)) (hi : i < 5) (hj : j < 5) : AMet g mX6_cofactor (d + 2) [.ref mo, .int (iZ (t : Int)), .int (iZ (i : Int)), .int (iZ (j : Int))] V sz (VX V sz (ERC mo) (fun r V' => some (.long (jZ (cof (S.r t) (TM (S.N t)) i j))) = r ∧ (∃ F : Nat → Int, V' (mo + 13) = some (aIz g 5 F)) ∧ ∃ F : Nat → Int, V' (mo + 14) = some (aIz g 5 F))) := by
  obtain ⟨hir, hi2, hi3⟩ := bt17 ⟨i, hi⟩
  have hir : rkb (31 - 2 ^ i) 5 = 4 := hir
  have hi2 : 2 ^ i ≤ 31 := hi2
  have hi4 : ∀ c, c < 4 → psb (31 - 2 ^ i) c = sk i c ∧ sk i c < 5 := fun c hc => hi3 ⟨c, hc⟩
  obtain ⟨hjr, hj2, hj3⟩ := bt17 ⟨j, hj⟩
  have hjr : rkb (31 - 2 ^ j) 5 = 4 := hjr
  have hj2 : 2 ^ j ≤ 31 := hj2
  have hj4 : ∀ c, c < 4 → psb (31 - 2 ^ j) c = sk j c ∧ sk j c < 5 := fun c hc => hj3 ⟨c, hc⟩
  refine AMet.of rfl rfl (Nat.le_of_ble_eq_true rfl) ?_
  show AW g mX6_cofactor (d + 2) 0 [(0, .ref mo), (1, .int (iZ (t : Int))), (2, .int (iZ (i : Int))), (3, .int (iZ (j : Int)))] [] V sz _
  refine aw_aload_n dX6_cofactor_0 (by rfl) (Or.inr ⟨_, rfl⟩) ?_
  refine aw_get fX6_49 dX6_cofactor_1 hmo (by rfl) ?_
  refine aw_bipushZ dX6_cofactor_4 (by decide) ?_
  refine aw_iconstZ dX6_cofactor_6 ?_
  refine aw_iload_n dX6_cofactor_7 (by rfl) ?_
  refine aw_ishl1Z i dX6_cofactor_8 rfl (by omega) ?_
  refine aw_isubZ dX6_cofactor_9 ?_
  refine aw_topi (y := ((31 - 2 ^ i : Nat) : Int)) (by rw [Int.natCast_sub hi2, Int.natCast_pow]; rfl) ?_
  refine aw_calls sX6_169 dX6_cofactor_10 (m_tellB g (d + 1) (s := 31 - 2 ^ i) (Nat.lt_of_le_of_lt (Nat.sub_le _ _) (by omega)) h13) (by rfl) (by rfl) (by omega) (Nat.le_of_ble_eq_true rfl) ?_
  rintro _ V1 _ _ _ ⟨rfl, rfl, rfl, hE1, rfl, F1, hF1, hf1⟩ -
  refine q0 ?_
  have hmo1 := (hE1 mo (by omega)).trans hmo
  have h141 := (hE1 (mo + 14) (by omega)).trans h14
  refine aw_aload_n dX6_cofactor_13 (by rfl) (Or.inr ⟨_, rfl⟩) ?_
  refine aw_get fX6_52 dX6_cofactor_14 hmo1 (by rfl) ?_
  refine aw_bipushZ dX6_cofactor_17 (by decide) ?_
  refine aw_iconstZ dX6_cofactor_19 ?_
  refine aw_iload_n dX6_cofactor_20 (by rfl) ?_
  refine aw_ishl1Z j dX6_cofactor_21 rfl (by omega) ?_
  refine aw_isubZ dX6_cofactor_22 ?_
  refine aw_topi (y := ((31 - 2 ^ j : Nat) : Int)) (by rw [Int.natCast_sub hj2, Int.natCast_pow]; rfl) ?_
  refine aw_calls sX6_169 dX6_cofactor_23 (m_tellB g (d + 1) (s := 31 - 2 ^ j) (Nat.lt_of_le_of_lt (Nat.sub_le _ _) (by omega)) h141) (by rfl) (by rfl) (by omega) (Nat.le_of_ble_eq_true rfl) ?_
  rintro _ V2 _ _ _ ⟨rfl, rfl, rfl, hE2, rfl, F2, hF2, hf2⟩ -
  refine q0 ?_
  have hmo2 := (hE2 mo (by omega)).trans hmo1
  have h132 := (hE2 (mo + 13) (by omega)).trans hF1
  have hT2 := hT.kept2b (V' := V2) (fun a h1 h2 => (hE2 a (by omega)).trans (hE1 a (by omega)))
  obtain ⟨TH, RR, CC, NN, HH, t1, t2, t3, t4, t5, t6⟩ := id hT2
  have K41 : AW g mX6_cofactor (d + 2) 41 [(0, .ref mo), (1, .int (iZ (t : Int))), (2, .int (iZ (i : Int))), (3, .int (iZ (j : Int)))] [.long (jZ (sgI (i + j)))] V2 sz (VX V sz (ERC mo) (fun r V' => some (.long (jZ (cof (S.r t) (TM (S.N t)) i j))) = r ∧ (∃ F : Nat → Int, V' (mo + 13) = some (aIz g 5 F)) ∧ ∃ F : Nat → Int, V' (mo + 14) = some (aIz g 5 F))) := by
    refine aw_aload_n dX6_cofactor_41 (by rfl) (Or.inr ⟨_, rfl⟩) ?_
    refine aw_iload_n dX6_cofactor_42 (by rfl) ?_
    refine aw_aload_n dX6_cofactor_43 (by rfl) (Or.inr ⟨_, rfl⟩) ?_
    refine aw_get fX6_37 dX6_cofactor_44 hmo2 (by rfl) ?_
    refine aw_iload_n dX6_cofactor_47 (by rfl) ?_
    refine aw_ialdZ (t) dX6_cofactor_48 t2 (by omega) (by omega) (by omega) ?_
    refine aw_iconstZ dX6_cofactor_49 ?_
    refine aw_isubZ dX6_cofactor_50 ?_
    rw [(t6 t ht).2.1]
    refine aw_topi (y := ((S.r t - 1 : Nat) : Int)) (by omega) ?_
    refine aw_callv vX6_173 dX6_cofactor_51 hmo2 (m_minor g d (t := t) (k := S.r t - 1) (ra := sk i) (ca := sk j) hmo2 hT2 ht (by omega) qx h132 hF2 (fun c hc => ⟨by rw [hf1 c (by omega), (hi4 c (by omega)).1], (hi4 c (by omega)).2⟩) (fun c hc => ⟨by rw [hf2 c (by omega), (hj4 c (by omega)).1], (hj4 c (by omega)).2⟩)) (by rfl) (by rfl) (by omega) (Nat.le_of_ble_eq_true rfl) ?_
    rintro _ _ _ _ _ ⟨rfl, rfl, rfl, rfl, rfl⟩ -
    refine q0 ?_
    refine aw_lmulZ dX6_cofactor_54 ?_
    refine aw_lret dX6_cofactor_55 rfl ?_
    exact ⟨rfl, rfl, rfl, fun a ha => (hE2 a (fun z => ha (Or.inr z))).trans (hE1 a (fun z => ha (Or.inl z))), rfl, ⟨F1, h132⟩, ⟨F2, hF2⟩⟩
  refine aw_iload_n dX6_cofactor_26 (by rfl) ?_
  refine aw_iload_n dX6_cofactor_27 (by rfl) ?_
  refine aw_iaddZ dX6_cofactor_28 ?_
  refine aw_iconstZ dX6_cofactor_29 ?_
  rw [show ((i : Int) + (j : Int)) = ((i + j : Nat) : Int) by omega]
  refine aw_iremZ dX6_cofactor_30 (by omega) (by omega) (by omega) ?_
  refine aw_topi (y := (((i + j) % 2 : Nat) : Int)) (by rfl) ?_
  refine aw_if_neZ (tgt := 38) dX6_cofactor_31 (by decide) (by omega) (fun hc_31 => ?_) (fun hc_31 => ?_)
  · refine aw_ldc2Z (z := -1) qX6_159 dX6_cofactor_38 (by decide) ?_
    refine aw_topl (y := sgI (i + j)) (by rw [sgI_par]; first | (rw [if_pos (by omega)]; done) | (rw [if_neg (by omega)]; done)) ?_
    exact K41
  · refine aw_lconstZ (z := 1) dX6_cofactor_34 (by decide) ?_
    refine aw_goto (tgt := 41) dX6_cofactor_35 (by decide) ?_
    refine aw_topl (y := sgI (i + j)) (by rw [sgI_par]; first | (rw [if_pos (by omega)]; done) | (rw [if_neg (by omega)]; done)) ?_
    exact K41
abbrev mX6_back : MI := (yX6_back, cX6_back, 7, (some FieldType.boolean), noX)
theorem dX6_back_0 : decode cX6_back 0 = .ok (.aload_n 0, 1) := by decide +kernel
theorem dX6_back_1 : decode cX6_back 1 = .ok (.iload_n 1, 1) := by decide +kernel
theorem dX6_back_2 : decode cX6_back 2 = .ok (.invokevirtual 137, 3) := by decide +kernel
theorem dX6_back_5 : decode cX6_back 5 = .ok (.ifCond .eq 18, 3) := by decide +kernel
theorem dX6_back_8 : decode cX6_back 8 = .ok (.aload_n 0, 1) := by decide +kernel
theorem dX6_back_9 : decode cX6_back 9 = .ok (.getfield 37, 3) := by decide +kernel
theorem dX6_back_12 : decode cX6_back 12 = .ok (.iload_n 1, 1) := by decide +kernel
theorem dX6_back_13 : decode cX6_back 13 = .ok (.iaload, 1) := by decide +kernel
theorem dX6_back_14 : decode cX6_back 14 = .ok (.aload_n 0, 1) := by decide +kernel
theorem dX6_back_15 : decode cX6_back 15 = .ok (.getfield 40, 3) := by decide +kernel
theorem dX6_back_18 : decode cX6_back 18 = .ok (.iload_n 1, 1) := by decide +kernel
theorem dX6_back_19 : decode cX6_back 19 = .ok (.iaload, 1) := by decide +kernel
theorem dX6_back_20 : decode cX6_back 20 = .ok (.if_icmp .eq 5, 3) := by decide +kernel
theorem dX6_back_23 : decode cX6_back 23 = .ok (.iconst 0, 1) := by decide +kernel
theorem dX6_back_24 : decode cX6_back 24 = .ok (.ireturn, 1) := by decide +kernel
theorem dX6_back_25 : decode cX6_back 25 = .ok (.aload_n 0, 1) := by decide +kernel
theorem dX6_back_26 : decode cX6_back 26 = .ok (.iload_n 1, 1) := by decide +kernel
theorem dX6_back_27 : decode cX6_back 27 = .ok (.invokevirtual 155, 3) := by decide +kernel
theorem dX6_back_30 : decode cX6_back 30 = .ok (.lstore_n 2, 1) := by decide +kernel
theorem dX6_back_31 : decode cX6_back 31 = .ok (.lload_n 2, 1) := by decide +kernel
theorem dX6_back_32 : decode cX6_back 32 = .ok (.lconst 1, 1) := by decide +kernel
theorem dX6_back_33 : decode cX6_back 33 = .ok (.lcmp, 1) := by decide +kernel
theorem dX6_back_34 : decode cX6_back 34 = .ok (.ifCond .eq 13, 3) := by decide +kernel
theorem dX6_back_37 : decode cX6_back 37 = .ok (.lload_n 2, 1) := by decide +kernel
theorem dX6_back_38 : decode cX6_back 38 = .ok (.ldc2_w 159, 3) := by decide +kernel
theorem dX6_back_41 : decode cX6_back 41 = .ok (.lcmp, 1) := by decide +kernel
theorem dX6_back_42 : decode cX6_back 42 = .ok (.ifCond .eq 5, 3) := by decide +kernel
theorem dX6_back_45 : decode cX6_back 45 = .ok (.iconst 0, 1) := by decide +kernel
theorem dX6_back_46 : decode cX6_back 46 = .ok (.ireturn, 1) := by decide +kernel
theorem dX6_back_47 : decode cX6_back 47 = .ok (.aload_n 0, 1) := by decide +kernel
theorem dX6_back_48 : decode cX6_back 48 = .ok (.getfield 37, 3) := by decide +kernel
theorem dX6_back_51 : decode cX6_back 51 = .ok (.iload_n 1, 1) := by decide +kernel
theorem dX6_back_52 : decode cX6_back 52 = .ok (.iaload, 1) := by decide +kernel
theorem dX6_back_53 : decode cX6_back 53 = .ok (.istore 4, 2) := by decide +kernel
theorem dX6_back_55 : decode cX6_back 55 = .ok (.iconst 0, 1) := by decide +kernel
theorem dX6_back_56 : decode cX6_back 56 = .ok (.istore 5, 2) := by decide +kernel
theorem dX6_back_58 : decode cX6_back 58 = .ok (.iload 5, 2) := by decide +kernel
theorem dX6_back_60 : decode cX6_back 60 = .ok (.iload 4, 2) := by decide +kernel
theorem dX6_back_62 : decode cX6_back 62 = .ok (.if_icmp .ge 52, 3) := by decide +kernel
theorem dX6_back_65 : decode cX6_back 65 = .ok (.iconst 0, 1) := by decide +kernel
theorem dX6_back_66 : decode cX6_back 66 = .ok (.istore 6, 2) := by decide +kernel
theorem dX6_back_68 : decode cX6_back 68 = .ok (.iload 6, 2) := by decide +kernel
theorem dX6_back_70 : decode cX6_back 70 = .ok (.iload 4, 2) := by decide +kernel
theorem dX6_back_72 : decode cX6_back 72 = .ok (.if_icmp .ge 36, 3) := by decide +kernel
theorem dX6_back_75 : decode cX6_back 75 = .ok (.aload_n 0, 1) := by decide +kernel
theorem dX6_back_76 : decode cX6_back 76 = .ok (.sipush 265, 3) := by decide +kernel
theorem dX6_back_79 : decode cX6_back 79 = .ok (.bipush 10, 2) := by decide +kernel
theorem dX6_back_81 : decode cX6_back 81 = .ok (.iload 5, 2) := by decide +kernel
theorem dX6_back_83 : decode cX6_back 83 = .ok (.imul, 1) := by decide +kernel
theorem dX6_back_84 : decode cX6_back 84 = .ok (.iadd, 1) := by decide +kernel
theorem dX6_back_85 : decode cX6_back 85 = .ok (.iload 6, 2) := by decide +kernel
theorem dX6_back_87 : decode cX6_back 87 = .ok (.iadd, 1) := by decide +kernel
theorem dX6_back_88 : decode cX6_back 88 = .ok (.lload_n 2, 1) := by decide +kernel
theorem dX6_back_89 : decode cX6_back 89 = .ok (.aload_n 0, 1) := by decide +kernel
theorem dX6_back_90 : decode cX6_back 90 = .ok (.iload_n 1, 1) := by decide +kernel
theorem dX6_back_91 : decode cX6_back 91 = .ok (.iload 6, 2) := by decide +kernel
theorem dX6_back_93 : decode cX6_back 93 = .ok (.iload 5, 2) := by decide +kernel
theorem dX6_back_95 : decode cX6_back 95 = .ok (.invokevirtual 211, 3) := by decide +kernel
theorem dX6_back_98 : decode cX6_back 98 = .ok (.lmul, 1) := by decide +kernel
theorem dX6_back_99 : decode cX6_back 99 = .ok (.invokevirtual 83, 3) := by decide +kernel
theorem dX6_back_102 : decode cX6_back 102 = .ok (.iinc 6 1, 3) := by decide +kernel
theorem dX6_back_105 : decode cX6_back 105 = .ok (.goto (-37), 3) := by decide +kernel
theorem dX6_back_108 : decode cX6_back 108 = .ok (.iinc 5 1, 3) := by decide +kernel
theorem dX6_back_111 : decode cX6_back 111 = .ok (.goto (-53), 3) := by decide +kernel
theorem dX6_back_114 : decode cX6_back 114 = .ok (.aload_n 0, 1) := by decide +kernel
theorem dX6_back_115 : decode cX6_back 115 = .ok (.iload 4, 2) := by decide +kernel
theorem dX6_back_117 : decode cX6_back 117 = .ok (.iload 4, 2) := by decide +kernel
theorem dX6_back_119 : decode cX6_back 119 = .ok (.invokevirtual 189, 3) := by decide +kernel
theorem dX6_back_122 : decode cX6_back 122 = .ok (.iconst 1, 1) := by decide +kernel
theorem dX6_back_123 : decode cX6_back 123 = .ok (.ireturn, 1) := by decide +kernel
theorem cof_R {N : Nat → Int} {n i j : Nat} (hn : 1 ≤ n ∧ n ≤ 5) (hN : ∀ k, k < 25 → -1000 ≤ N k ∧ N k ≤ 1000) (hi : i < n) (hj : j < n) : ab (cof n (TM N) i j) ≤ 24000000000000 := by
  have h1 := det_ab (b := 1000) (by omega) (n := n - 1) (A := fun a k => TM N (sk i a) (sk j k)) (fun a k ha hk => by
    have e1 : sk i a < 5 := by unfold sk; split <;> omega
    have e2 : sk j k < 5 := by unfold sk; split <;> omega
    have := hN (5 * sk i a + sk j k) (by omega)
    show ab (N (5 * sk i a + sk j k)) ≤ 1000
    unfold ab; omega)
  have h2 : ∀ n : Fin 5, fac n * 1000 ^ (n : Nat) ≤ 24000000000000 := by decide +kernel
  unfold cof
  rw [ab_mul, ab_sgI, Int.one_mul]
  exact Int.le_trans h1 (h2 ⟨n - 1, by omega⟩)
set_option maxRecDepth 20000 in
theorem bk_in (d : Nat) {g : GX} {V0 : AH} {mo sz n i : Nat} {rk kn ar ac w : Int} {zs : Nat → Int} {S : TSt} {Q : AQ} (hT0 : RTb g mo V0 S) (hn : n < 12) (q1 : 1 ≤ S.r n ∧ S.r n ≤ 5) (qx : ∀ e, e < 25 → -1000 ≤ S.N n e ∧ S.N n e ≤ 1000) (hw : w = det (S.r n) (TM (S.N n))) (hw1 : w = 1 ∨ w = -1) (hi : i < S.r n) (hKK : ∀ {V : AH} {z : Nat → Int}, V mo = some (moO mo rk kn ar ac) → MN g mo V z → (∀ a, ¬ (EN mo a ∨ ERC mo a) → V a = V0 a) → (∃ F : Nat → Int, V (mo + 13) = some (aIz g 5 F)) → (∃ F : Nat → Int, V (mo + 14) = some (aIz g 5 F)) → MtI (bkM (S.r n) (TM (S.N n))) (S.r n) zs z i (S.r n) → AW g mX6_back (d + 3) 108 [(5, .int (iZ (i : Int))), (0, .ref mo), (1, .int (iZ (n : Int))), (2, .long (jZ w)), (4, .int (iZ (S.r n : Nat)))] [] V sz Q) : ∀ (f j : Nat), j + f = S.r n → ∀ {V : AH} {z : Nat → Int}, V mo = some (moO mo rk kn ar ac) → MN g mo V z → (∀ a, ¬ (EN mo a ∨ ERC mo a) → V a = V0 a) → (∃ F : Nat → Int, V (mo + 13) = some (aIz g 5 F)) → (∃ F : Nat → Int, V (mo + 14) = some (aIz g 5 F)) → MtI (bkM (S.r n) (TM (S.N n))) (S.r n) zs z i j → AW g mX6_back (d + 3) 68 [(6, .int (iZ (j : Int))), (5, .int (iZ (i : Int))), (0, .ref mo), (1, .int (iZ (n : Int))), (2, .long (jZ w)), (4, .int (iZ (S.r n : Nat)))] [] V sz Q
  | 0, j, hf, V, z, hmo, hM, hV, h13, h14, hI => by
    obtain rfl : j = S.r n := by omega
    refine aw_iload dX6_back_68 (by rfl) ?_
    refine aw_iload dX6_back_70 (by rfl) ?_
    refine aw_icmp_geZ (tgt := 108) dX6_back_72 (by decide) (by omega) (by omega) (fun hc_72 => ?_) (fun hc_72 => ?_)
    · refine aw_pk [5, 0, 1, 2, 4] (by rfl) ?_
      exact hKK hmo hM hV h13 h14 hI
    · exact absurd hc_72 (by omega)
  | f + 1, j, hf, V, z, hmo, hM, hV, h13, h14, hI => by
    have IH := fun j hj => @bk_in d g V0 mo sz n i rk kn ar ac w zs S Q hT0 hn q1 qx hw hw1 hi hKK f j hj
    have hT := hT0.kept2b (V' := V) (fun a h1 h2 => hV a (by unfold EN ERC; omega))
    obtain ⟨F13, h13'⟩ := id h13
    obtain ⟨F14, h14'⟩ := id h14
    have hcb : ab (cof (S.r n) (TM (S.N n)) j i) ≤ 24000000000000 := cof_R q1 qx (by omega) (by omega)
    have hbk : bkM (S.r n) (TM (S.N n)) i j = w * cof (S.r n) (TM (S.N n)) j i := by rw [hw]; rfl
    have hbb : -9223372036854775808 < w * cof (S.r n) (TM (S.N n)) j i ∧ w * cof (S.r n) (TM (S.N n)) j i < 9223372036854775808 := by
      unfold ab at hcb
      rcases hw1 with q | q <;> rw [q] <;> omega
    refine aw_iload dX6_back_68 (by rfl) ?_
    refine aw_iload dX6_back_70 (by rfl) ?_
    refine aw_icmp_geZ (tgt := 108) dX6_back_72 (by decide) (by omega) (by omega) (fun hc_72 => ?_) (fun hc_72 => ?_)
    · exact absurd hc_72 (by omega)
    · refine aw_aload_n dX6_back_75 (by rfl) (Or.inr ⟨_, rfl⟩) ?_
      refine aw_sipushZ dX6_back_76 (by decide) ?_
      refine aw_bipushZ dX6_back_79 (by decide) ?_
      refine aw_iload dX6_back_81 (by rfl) ?_
      refine aw_imulZ dX6_back_83 ?_
      refine aw_iaddZ dX6_back_84 ?_
      refine aw_iload dX6_back_85 (by rfl) ?_
      refine aw_iaddZ dX6_back_87 ?_
      refine aw_lload_n dX6_back_88 (by rfl) ?_
      refine aw_aload_n dX6_back_89 (by rfl) (Or.inr ⟨_, rfl⟩) ?_
      refine aw_iload_n dX6_back_90 (by rfl) ?_
      refine aw_iload dX6_back_91 (by rfl) ?_
      refine aw_iload dX6_back_93 (by rfl) ?_
      refine aw_callv vX6_211 dX6_back_95 hmo (m_cofactor g d (t := n) (i := j) (j := i) hmo hT hn q1 qx h13' h14' (by omega) (by omega)) (by rfl) (by rfl) (by omega) (Nat.le_of_ble_eq_true rfl) ?_
      rintro _ V1 _ _ _ ⟨rfl, rfl, rfl, hE1, rfl, h131, h141⟩ -
      refine q0 ?_
      have hmo1 := (hE1 mo (by unfold ERC; omega)).trans hmo
      have hM1 := hM.kept (V' := V1) (fun a ha => hE1 a (by unfold EN at ha; unfold ERC; omega))
      refine aw_lmulZ dX6_back_98 ?_
      rw [show (265 : Int) + 10 * (i : Int) + (j : Int) = ((265 + 10 * i + j : Nat) : Int) by omega]
      refine aw_callv vX6_83 dX6_back_99 hmo1 (m_becomes g (d + 2) (c := 265 + 10 * i + j) (v := w * cof (S.r n) (TM (S.N n)) j i) ⟨_, _, _, _, hmo1⟩ hM1 (by omega) hbb) (by rfl) (by rfl) (by omega) (Nat.le_of_ble_eq_true rfl) ?_
      rintro _ V2 _ _ _ ⟨rfl, rfl, rfl, hE2, rfl, hM2⟩ -
      refine q0 ?_
      refine aw_iincZ dX6_back_102 (by rfl) (by decide) ?_
      refine aw_goto (tgt := 68) dX6_back_105 (by decide) ?_
      rw [show ((j : Int) + 1) = ((j + 1 : Nat) : Int) by omega]
      refine aw_pk [6, 5, 0, 1, 2, 4] (by rfl) ?_
      exact IH (j + 1) (by omega) ((hE2 mo (by unfold EN; omega)).trans hmo1) hM2 (fun a ha => (hE2 a (fun z => ha (Or.inl z))).trans ((hE1 a (fun z => ha (Or.inr z))).trans (hV a ha))) (by obtain ⟨F, hF⟩ := h131; exact ⟨F, (hE2 _ (by unfold EN; omega)).trans hF⟩) (by obtain ⟨F, hF⟩ := h141; exact ⟨F, (hE2 _ (by unfold EN; omega)).trans hF⟩) (hI.up (by omega) (by omega) (by omega) hbk.symm)
set_option maxRecDepth 20000 in
theorem bk_out (d : Nat) {g : GX} {V0 : AH} {mo sz n : Nat} {rk kn ar ac w : Int} {zs : Nat → Int} {S : TSt} {Q : AQ} (hT0 : RTb g mo V0 S) (hn : n < 12) (q1 : 1 ≤ S.r n ∧ S.r n ≤ 5) (qx : ∀ e, e < 25 → -1000 ≤ S.N n e ∧ S.N n e ≤ 1000) (hw : w = det (S.r n) (TM (S.N n))) (hw1 : w = 1 ∨ w = -1) (hKK : ∀ {V : AH} {z : Nat → Int}, V mo = some (moO mo rk kn ar ac) → MN g mo V z → (∀ a, ¬ (EN mo a ∨ ERC mo a) → V a = V0 a) → (∃ F : Nat → Int, V (mo + 13) = some (aIz g 5 F)) → (∃ F : Nat → Int, V (mo + 14) = some (aIz g 5 F)) → MtI (bkM (S.r n) (TM (S.N n))) (S.r n) zs z (S.r n) 0 → AW g mX6_back (d + 3) 114 [(0, .ref mo), (1, .int (iZ (n : Int))), (2, .long (jZ w)), (4, .int (iZ (S.r n : Nat)))] [] V sz Q) : ∀ (f i : Nat), i + f = S.r n → ∀ {V : AH} {z : Nat → Int}, V mo = some (moO mo rk kn ar ac) → MN g mo V z → (∀ a, ¬ (EN mo a ∨ ERC mo a) → V a = V0 a) → (∃ F : Nat → Int, V (mo + 13) = some (aIz g 5 F)) → (∃ F : Nat → Int, V (mo + 14) = some (aIz g 5 F)) → MtI (bkM (S.r n) (TM (S.N n))) (S.r n) zs z i 0 → AW g mX6_back (d + 3) 58 [(5, .int (iZ (i : Int))), (0, .ref mo), (1, .int (iZ (n : Int))), (2, .long (jZ w)), (4, .int (iZ (S.r n : Nat)))] [] V sz Q
  | 0, i, hf, V, z, hmo, hM, hV, h13, h14, hI => by
    obtain rfl : i = S.r n := by omega
    refine aw_iload dX6_back_58 (by rfl) ?_
    refine aw_iload dX6_back_60 (by rfl) ?_
    refine aw_icmp_geZ (tgt := 114) dX6_back_62 (by decide) (by omega) (by omega) (fun hc_62 => ?_) (fun hc_62 => ?_)
    · refine aw_pk [0, 1, 2, 4] (by rfl) ?_
      exact hKK hmo hM hV h13 h14 hI
    · exact absurd hc_62 (by omega)
  | f + 1, i, hf, V, z, hmo, hM, hV, h13, h14, hI => by
    have IH := fun i hi => @bk_out d g V0 mo sz n rk kn ar ac w zs S Q hT0 hn q1 qx hw hw1 hKK f i hi
    refine aw_iload dX6_back_58 (by rfl) ?_
    refine aw_iload dX6_back_60 (by rfl) ?_
    refine aw_icmp_geZ (tgt := 114) dX6_back_62 (by decide) (by omega) (by omega) (fun hc_62 => ?_) (fun hc_62 => ?_)
    · exact absurd hc_62 (by omega)
    · refine aw_iconstZ dX6_back_65 ?_
      refine aw_istore dX6_back_66 (by decide) ?_
      refine aw_pk [6, 5, 0, 1, 2, 4] (by rfl) ?_
      refine bk_in d (i := i) hT0 hn q1 qx hw hw1 (by omega) (fun {V1 z1} hmo1 hM1 hV1 h131 h141 hI1 => ?_) (S.r n) 0 (by omega) hmo hM hV h13 h14 hI
      refine aw_iincZ dX6_back_108 (by rfl) (by decide) ?_
      refine aw_goto (tgt := 58) dX6_back_111 (by decide) ?_
      rw [show ((i : Int) + 1) = ((i + 1 : Nat) : Int) by omega]
      refine aw_pk [5, 0, 1, 2, 4] (by rfl) ?_
      exact IH (i + 1) (by omega) hmo1 hM1 hV1 h131 h141 hI1.out
set_option maxRecDepth 20000 in
theorem m_back (g : GX) (d : Nat) {V : AH} {mo sz : Nat} {zs : Nat → Int} {S : TSt} {A : ASt} {t : Int} (hR : RX g mo V zs S A) (ht : R32 t) : AMet g mX6_back (d + 3) [.ref mo, .int (iZ t)] V sz (RE g mo V sz (BckR S A t)) := by
  obtain ⟨⟨rk, kn, hmo⟩, -, -, -, -, -, hT, -, -, hTO, -⟩ := id hR
  obtain ⟨TH, RR, CC, NN, HH, t1, t2, t3, t4, t5, t6⟩ := id hT
  refine AMet.of rfl rfl (Nat.le_of_ble_eq_true rfl) ?_
  show AW g mX6_back (d + 3) 0 [(0, .ref mo), (1, .int (iZ t))] [] V sz _
  refine aw_aload_n dX6_back_0 (by rfl) (Or.inr ⟨_, rfl⟩) ?_
  refine aw_iload_n dX6_back_1 (by rfl) ?_
  refine aw_callv vX6_137 dX6_back_2 hmo (m_isTable g (d + 2) (t := t) hmo hT ht) (by rfl) (by rfl) (by omega) (Nat.le_of_ble_eq_true rfl) ?_
  rintro _ _ _ _ _ ⟨rfl, rfl, rfl, rfl, rfl⟩ -
  refine q0 ?_
  refine aw_if_eqZ (tgt := 23) dX6_back_5 (by decide) (tbZ_R _ _) (fun hc_5 => ?_) (fun hc_5 => ?_)
  · have hno := tbZ_no hc_5
    refine aw_iconstZ dX6_back_23 ?_
    refine aw_iret dX6_back_24 rfl (by rfl) ?_
    first
    | exact ⟨rfl, rfl, rfl, fun _ _ => rfl, zs, S, A, hR, rfl, Or.inr ⟨fun k hk e1 e2 => absurd (hno k hk e1) (by omega), rfl, rfl⟩⟩
    | (have hne : ∀ k : Nat, k < 12 → (n : Int) = (k : Int) → 0 < S.r k → ¬ (S.r k = S.c k ∧ (det (S.c k) (TM (S.N k)) = 1 ∨ det (S.c k) (TM (S.N k)) = -1)) := fun k _ e1 _ => by
         have e : n = k := by omega
         subst e
         exact fun z => hsq z.1
       exact ⟨rfl, rfl, rfl, fun _ _ => rfl, zs, S, A, hR, rfl, Or.inr ⟨hne, rfl, rfl⟩⟩)
  · obtain ⟨n, hn, rfl, hrn⟩ := tbZ_yes hc_5
    obtain ⟨q1, q3, -, qx, -⟩ := hTO n hn
    refine aw_aload_n dX6_back_8 (by rfl) (Or.inr ⟨_, rfl⟩) ?_
    refine aw_get fX6_37 dX6_back_9 hmo (by rfl) ?_
    refine aw_iload_n dX6_back_12 (by rfl) ?_
    refine aw_ialdZ (n) dX6_back_13 t2 (by omega) (by omega) (by omega) ?_
    refine aw_aload_n dX6_back_14 (by rfl) (Or.inr ⟨_, rfl⟩) ?_
    refine aw_get fX6_40 dX6_back_15 hmo (by rfl) ?_
    refine aw_iload_n dX6_back_18 (by rfl) ?_
    refine aw_ialdZ (n) dX6_back_19 t3 (by omega) (by omega) (by omega) ?_
    refine aw_icmp_eqZ (tgt := 25) dX6_back_20 (by decide) (by rw [(t6 n hn).2.1]; omega) (by rw [(t6 n hn).2.2.1]; omega) (fun hc_20 => ?_) (fun hc_20 => ?_)
    · have hsq : S.r n = S.c n := by rw [(t6 n hn).2.1, (t6 n hn).2.2.1] at hc_20; omega
      refine aw_aload_n dX6_back_25 (by rfl) (Or.inr ⟨_, rfl⟩) ?_
      refine aw_iload_n dX6_back_26 (by rfl) ?_
      refine aw_callv vX6_155 dX6_back_27 hmo (m_worthOf g d (t := n) hR hn) (by rfl) (by rfl) (by omega) (Nat.le_of_ble_eq_true rfl) ?_
      rintro _ V1 _ _ _ ⟨rfl, rfl, rfl, hE1, rfl, h131, h141⟩ -
      refine q0 ?_
      have hR1 := hR.rc hE1 h131 h141
      obtain ⟨⟨rk1, kn1, hmo1⟩, ⟨F61, h61⟩, ⟨F71, h71⟩, -, -, -, hT1, hM1, -⟩ := id hR1
      obtain ⟨TH1, RR1, CC1, NN1, HH1, u1, u2, u3, u4, u5, u6⟩ := id hT1
      have hdr := det_R (N := S.N n) q1 qx
      unfold ab at hdr
      refine aw_lstore_n dX6_back_30 (by decide) ?_
      refine aw_lload_n dX6_back_31 (by rfl) ?_
      refine aw_lconstZ (z := 1) dX6_back_32 (by decide) ?_
      refine aw_lcmpZ dX6_back_33 (by omega) (by omega) ?_
      refine aw_if_eqZ (tgt := 47) dX6_back_34 (by decide) (by unfold cmpZ; split <;> (try split) <;> omega) (fun hc_34 => ?_) (fun hc_34 => ?_)
      · have hw1 : det (S.r n) (TM (S.N n)) = 1 ∨ det (S.r n) (TM (S.N n)) = -1 := Or.inl (cmpZ_eq.mp hc_34)
        refine aw_aload_n dX6_back_47 (by rfl) (Or.inr ⟨_, rfl⟩) ?_
        refine aw_get fX6_37 dX6_back_48 hmo1 (by rfl) ?_
        refine aw_iload_n dX6_back_51 (by rfl) ?_
        refine aw_ialdZ (n) dX6_back_52 u2 (by omega) (by omega) (by omega) ?_
        refine aw_istore dX6_back_53 (by decide) ?_
        refine aw_iconstZ dX6_back_55 ?_
        refine aw_istore dX6_back_56 (by decide) ?_
        rw [(u6 n hn).2.1]
        refine aw_pk [5, 0, 1, 2, 4] (by rfl) ?_
        refine bk_out d (V0 := V1) (zs := zs) hT1 hn (by omega) qx rfl hw1 (fun {V2 z2} hmo2 hM2 hV2 h132 h142 hI2 => ?_) (S.r n) 0 (by omega) hmo1 hM1 (fun _ _ => rfl) h131 h141 MtI.nil
        refine aw_aload_n dX6_back_114 (by rfl) (Or.inr ⟨_, rfl⟩) ?_
        refine aw_iload dX6_back_115 (by rfl) ?_
        refine aw_iload dX6_back_117 (by rfl) ?_
        refine aw_callv vX6_189 dX6_back_119 hmo2 (m_tells g (d + 2) (h := S.r n) (w := S.r n) hmo2 (by omega)) (by rfl) (by rfl) (by omega) (Nat.le_of_ble_eq_true rfl) ?_
        rintro _ V3 _ _ _ ⟨rfl, rfl, rfl, hE3, rfl, hmo3⟩ -
        refine q0 ?_
        refine aw_iconstZ dX6_back_122 ?_
        refine aw_iret dX6_back_123 rfl (by rfl) ?_
        have hR2 : RX g mo V2 z2 S (A.t, 0, 0, A.m) ∨ True := Or.inr trivial
        refine ⟨rfl, rfl, rfl, fun a ha => (hE3 a (fun z => ha (by unfold EM; omega))).trans ((hV2 a (fun z => ha (by rcases z with z | z; (unfold EN at z; unfold EM; omega); (unfold ERC at z; unfold EM; omega)))).trans (hE1 a (fun z => ha (by unfold ERC at z; unfold EM; omega)))), z2, S, (1, S.r n, S.r n, bkM (S.r n) (TM (S.N n))), ?_, rfl, Or.inl ⟨n, hn, rfl, hrn, hsq, ?_, rfl, ?_⟩⟩
        · obtain ⟨-, -, -, -, -, ⟨F15, h15⟩, -, -, -, o1, -⟩ := id hR1
          refine ⟨⟨rk1, kn1, ?_⟩, ⟨F61, (hE3 _ (by omega)).trans ((hV2 _ (by unfold EN ERC; omega)).trans h61)⟩, ⟨F71, (hE3 _ (by omega)).trans ((hV2 _ (by unfold EN ERC; omega)).trans h71)⟩, ?_, ?_, ⟨F15, (hE3 _ (by omega)).trans ((hV2 _ (by unfold EN ERC; omega)).trans h15)⟩, hT1.kept2b (fun a h1 h2 => (hE3 a (by omega)).trans (hV2 a (by unfold EN ERC; omega))), hM2.kept (fun a ha => hE3 a (by unfold EN at ha; omega)), fun i j hi hj => hI2.1 i j (Or.inl ⟨hi, hj⟩), o1, ?_⟩
          · rw [hmo3, if_neg (by omega)]; rfl
          · obtain ⟨F, hF⟩ := h132; exact ⟨F, (hE3 _ (by omega)).trans hF⟩
          · obtain ⟨F, hF⟩ := h142; exact ⟨F, (hE3 _ (by omega)).trans hF⟩
          · refine ⟨Or.inr rfl, ?_, ?_, fun z => absurd z (by show ¬ (1 : Nat) = 0; omega)⟩
            · show S.r n ≤ 10; omega
            · show S.r n ≤ 5; omega
        · rw [← hsq]; exact hw1
        · rw [← hsq]; exact ⟨rfl, rfl, by show S.r n = if S.r n = 0 then 0 else S.r n; rw [if_neg (by omega)], fun _ _ _ _ => rfl⟩
      · have hw2 : ¬ det (S.r n) (TM (S.N n)) = 1 := fun z => hc_34 (cmpZ_eq.mpr z)
        refine aw_lload_n dX6_back_37 (by rfl) ?_
        refine aw_ldc2Z (z := -1) qX6_159 dX6_back_38 (by decide) ?_
        refine aw_lcmpZ dX6_back_41 (by omega) (by omega) ?_
        refine aw_if_eqZ (tgt := 47) dX6_back_42 (by decide) (by unfold cmpZ; split <;> (try split) <;> omega) (fun hc_42 => ?_) (fun hc_42 => ?_)
        · have hw1 : det (S.r n) (TM (S.N n)) = 1 ∨ det (S.r n) (TM (S.N n)) = -1 := Or.inr (cmpZ_eq.mp hc_42)
          refine aw_aload_n dX6_back_47 (by rfl) (Or.inr ⟨_, rfl⟩) ?_
          refine aw_get fX6_37 dX6_back_48 hmo1 (by rfl) ?_
          refine aw_iload_n dX6_back_51 (by rfl) ?_
          refine aw_ialdZ (n) dX6_back_52 u2 (by omega) (by omega) (by omega) ?_
          refine aw_istore dX6_back_53 (by decide) ?_
          refine aw_iconstZ dX6_back_55 ?_
          refine aw_istore dX6_back_56 (by decide) ?_
          rw [(u6 n hn).2.1]
          refine aw_pk [5, 0, 1, 2, 4] (by rfl) ?_
          refine bk_out d (V0 := V1) (zs := zs) hT1 hn (by omega) qx rfl hw1 (fun {V2 z2} hmo2 hM2 hV2 h132 h142 hI2 => ?_) (S.r n) 0 (by omega) hmo1 hM1 (fun _ _ => rfl) h131 h141 MtI.nil
          refine aw_aload_n dX6_back_114 (by rfl) (Or.inr ⟨_, rfl⟩) ?_
          refine aw_iload dX6_back_115 (by rfl) ?_
          refine aw_iload dX6_back_117 (by rfl) ?_
          refine aw_callv vX6_189 dX6_back_119 hmo2 (m_tells g (d + 2) (h := S.r n) (w := S.r n) hmo2 (by omega)) (by rfl) (by rfl) (by omega) (Nat.le_of_ble_eq_true rfl) ?_
          rintro _ V3 _ _ _ ⟨rfl, rfl, rfl, hE3, rfl, hmo3⟩ -
          refine q0 ?_
          refine aw_iconstZ dX6_back_122 ?_
          refine aw_iret dX6_back_123 rfl (by rfl) ?_
          have hR2 : RX g mo V2 z2 S (A.t, 0, 0, A.m) ∨ True := Or.inr trivial
          refine ⟨rfl, rfl, rfl, fun a ha => (hE3 a (fun z => ha (by unfold EM; omega))).trans ((hV2 a (fun z => ha (by rcases z with z | z; (unfold EN at z; unfold EM; omega); (unfold ERC at z; unfold EM; omega)))).trans (hE1 a (fun z => ha (by unfold ERC at z; unfold EM; omega)))), z2, S, (1, S.r n, S.r n, bkM (S.r n) (TM (S.N n))), ?_, rfl, Or.inl ⟨n, hn, rfl, hrn, hsq, ?_, rfl, ?_⟩⟩
          · obtain ⟨-, -, -, -, -, ⟨F15, h15⟩, -, -, -, o1, -⟩ := id hR1
            refine ⟨⟨rk1, kn1, ?_⟩, ⟨F61, (hE3 _ (by omega)).trans ((hV2 _ (by unfold EN ERC; omega)).trans h61)⟩, ⟨F71, (hE3 _ (by omega)).trans ((hV2 _ (by unfold EN ERC; omega)).trans h71)⟩, ?_, ?_, ⟨F15, (hE3 _ (by omega)).trans ((hV2 _ (by unfold EN ERC; omega)).trans h15)⟩, hT1.kept2b (fun a h1 h2 => (hE3 a (by omega)).trans (hV2 a (by unfold EN ERC; omega))), hM2.kept (fun a ha => hE3 a (by unfold EN at ha; omega)), fun i j hi hj => hI2.1 i j (Or.inl ⟨hi, hj⟩), o1, ?_⟩
            · rw [hmo3, if_neg (by omega)]; rfl
            · obtain ⟨F, hF⟩ := h132; exact ⟨F, (hE3 _ (by omega)).trans hF⟩
            · obtain ⟨F, hF⟩ := h142; exact ⟨F, (hE3 _ (by omega)).trans hF⟩
            · refine ⟨Or.inr rfl, ?_, ?_, fun z => absurd z (by show ¬ (1 : Nat) = 0; omega)⟩
              · show S.r n ≤ 10; omega
              · show S.r n ≤ 5; omega
          · rw [← hsq]; exact hw1
          · rw [← hsq]; exact ⟨rfl, rfl, by show S.r n = if S.r n = 0 then 0 else S.r n; rw [if_neg (by omega)], fun _ _ _ _ => rfl⟩
        · have hw3 : ¬ det (S.r n) (TM (S.N n)) = -1 := fun z => hc_42 (cmpZ_eq.mpr z)
          refine aw_iconstZ dX6_back_45 ?_
          refine aw_iret dX6_back_46 rfl (by rfl) ?_
          have hne : ∀ k : Nat, k < 12 → (n : Int) = (k : Int) → 0 < S.r k → ¬ (S.r k = S.c k ∧ (det (S.c k) (TM (S.N k)) = 1 ∨ det (S.c k) (TM (S.N k)) = -1)) := fun k _ e1 _ => by
            have e : n = k := by omega
            subst e
            rw [← hsq]
            exact fun z => z.2.elim hw2 hw3
          exact ⟨rfl, rfl, rfl, fun a ha => hE1 a (fun z => ha (by unfold ERC at z; unfold EM; omega)), zs, S, A, hR1, rfl, Or.inr ⟨hne, rfl, rfl⟩⟩
    · have hsq : S.r n ≠ S.c n := by rw [(t6 n hn).2.1, (t6 n hn).2.2.1] at hc_20; omega
      refine aw_iconstZ dX6_back_23 ?_
      refine aw_iret dX6_back_24 rfl (by rfl) ?_
      first
      | exact ⟨rfl, rfl, rfl, fun _ _ => rfl, zs, S, A, hR, rfl, Or.inr ⟨fun k hk e1 e2 => absurd (hno k hk e1) (by omega), rfl, rfl⟩⟩
      | (have hne : ∀ k : Nat, k < 12 → (n : Int) = (k : Int) → 0 < S.r k → ¬ (S.r k = S.c k ∧ (det (S.c k) (TM (S.N k)) = 1 ∨ det (S.c k) (TM (S.N k)) = -1)) := fun k _ e1 _ => by
           have e : n = k := by omega
           subst e
           exact fun z => hsq z.1
         exact ⟨rfl, rfl, rfl, fun _ _ => rfl, zs, S, A, hR, rfl, Or.inr ⟨hne, rfl, rfl⟩⟩)

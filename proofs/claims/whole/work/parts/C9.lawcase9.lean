/-! ===== the law's cases, part 9 ===== -/
theorem dL_law_953 : decode cL_law 953 = .ok (.aload_n 1, 1) := by decide +kernel
theorem dL_law_954 : decode cL_law 954 = .ok (.aload_n 0, 1) := by decide +kernel
theorem dL_law_955 : decode cL_law 955 = .ok (.iload_n 3, 1) := by decide +kernel
theorem dL_law_956 : decode cL_law 956 = .ok (.iconst 1, 1) := by decide +kernel
theorem dL_law_957 : decode cL_law 957 = .ok (.iadd, 1) := by decide +kernel
theorem dL_law_958 : decode cL_law 958 = .ok (.iaload, 1) := by decide +kernel
theorem dL_law_959 : decode cL_law 959 = .ok (.aload_n 0, 1) := by decide +kernel
theorem dL_law_960 : decode cL_law 960 = .ok (.iload_n 3, 1) := by decide +kernel
theorem dL_law_961 : decode cL_law 961 = .ok (.iconst 2, 1) := by decide +kernel
theorem dL_law_962 : decode cL_law 962 = .ok (.iadd, 1) := by decide +kernel
theorem dL_law_963 : decode cL_law 963 = .ok (.iaload, 1) := by decide +kernel
theorem dL_law_964 : decode cL_law 964 = .ok (.invokevirtual 105, 3) := by decide +kernel
theorem dL_law_967 : decode cL_law 967 = .ok (.aload_n 2, 1) := by decide +kernel
theorem dL_law_968 : decode cL_law 968 = .ok (.aload_n 0, 1) := by decide +kernel
theorem dL_law_969 : decode cL_law 969 = .ok (.iload_n 3, 1) := by decide +kernel
theorem dL_law_970 : decode cL_law 970 = .ok (.iconst 1, 1) := by decide +kernel
theorem dL_law_971 : decode cL_law 971 = .ok (.iadd, 1) := by decide +kernel
theorem dL_law_972 : decode cL_law 972 = .ok (.iaload, 1) := by decide +kernel
theorem dL_law_973 : decode cL_law 973 = .ok (.aload_n 0, 1) := by decide +kernel
theorem dL_law_974 : decode cL_law 974 = .ok (.iload_n 3, 1) := by decide +kernel
theorem dL_law_975 : decode cL_law 975 = .ok (.iconst 2, 1) := by decide +kernel
theorem dL_law_976 : decode cL_law 976 = .ok (.iadd, 1) := by decide +kernel
theorem dL_law_977 : decode cL_law 977 = .ok (.iaload, 1) := by decide +kernel
theorem dL_law_978 : decode cL_law 978 = .ok (.invokevirtual 108, 3) := by decide +kernel
theorem dL_law_981 : decode cL_law 981 = .ok (.if_icmp .eq 183, 3) := by decide +kernel
theorem dL_law_984 : decode cL_law 984 = .ok (.iconst 0, 1) := by decide +kernel
theorem dL_law_985 : decode cL_law 985 = .ok (.ireturn, 1) := by decide +kernel
theorem lw_q_join {S : TSt} {A : ASt} {t u : Int} : IQ (fun q S' A' => (∃ x y : Nat, x < 12 ∧ y < 12 ∧ t = (x : Int) ∧ u = (y : Int) ∧ 0 < S.r x ∧ 0 < S.r y ∧ S.c x = S.c y ∧ (fun q S' A' => S' = S ∧ ∃ (h1 : Nat) (l1 : Nat → Nat) (B : Mat), Stair B h1 (S.c x) l1 ∧ SpEq (JM (S.N x) (S.N y) (S.r x)) (S.r x + S.r y) B h1 (S.c x) ∧ some (.int (iZ h1)) = q ∧ AIs A' h1 (S.c x) B) q S' A') ∨ (¬ (∃ n m : Nat, n < 12 ∧ m < 12 ∧ t = (n : Int) ∧ u = (m : Int) ∧ 0 < S.r n ∧ 0 < S.r m ∧ S.c n = S.c m) ∧ some (.int (iZ (-1))) = q ∧ S' = S ∧ A' = A)) := by
  rintro q S1 A1 (⟨x, y, -, -, -, -, -, -, -, -, h1, l1, B, -, -, h, -⟩ | ⟨-, h, -⟩)
  · exact ⟨_, h⟩
  · exact ⟨_, h⟩
theorem lw_k_join {g : GX} {nm : String} {sb Ls b i : Nat} {xs : Nat → Int32} {V : AH} {sz : Nat} {Z : Nat → Int} {P L : Nat → Nat} {zs : Nat → Int} {S : TSt} {A : ASt} (hL : Ls ≤ 4096) (hi : i + 8 ≤ Ls) (h : LI g b V sz Z P L zs S A) (nx : Lnx g nm sb Ls xs b i) : AW g (mLw nm sb Ls xs) 13 953 (lwv sb b i) [] V sz (LwQ b L) := by
  have hb := h.2.1.1.1
  obtain ⟨rk, kn, hm⟩ := h.2.2.1
  refine aw_aload_n dL_law_953 (by rfl) (Or.inr ⟨_, rfl⟩) ?_
  refine aw_aload_n dL_law_954 (by rfl) (Or.inr ⟨_, rfl⟩) ?_
  refine aw_iload_n dL_law_955 (by rfl) ?_
  refine aw_iconstZ dL_law_956 ?_
  refine aw_iaddZ dL_law_957 ?_
  refine aw_sld (i + 1) dL_law_958 (by omega) (by omega) (by omega) ?_
  refine aw_aload_n dL_law_959 (by rfl) (Or.inr ⟨_, rfl⟩) ?_
  refine aw_iload_n dL_law_960 (by rfl) ?_
  refine aw_iconstZ dL_law_961 ?_
  refine aw_iaddZ dL_law_962 ?_
  refine aw_sld (i + 2) dL_law_963 (by omega) (by omega) (by omega) ?_
  refine aw_callv vL_105 dL_law_964 hb (c_join 4 h.1 h.2.1 (xz_R xs (i + 1)) (xz_R xs (i + 2))) (by rfl) (by rfl) (by omega) (Nat.le_of_ble_eq_true rfl) ?_
  rintro r1 V1 sz1 mc1 ms1 ⟨Z1, P1, L1, ⟨S1, A1, hC1, hR1⟩, hW1⟩ -
  have hX1 := lw_rx h hW1
  obtain ⟨rk1, kn1, hm1⟩ := hX1.1
  obtain ⟨x1, rfl⟩ := lw_q_join _ _ _ hR1
  refine aw_aload_n dL_law_967 (by rfl) (Or.inr ⟨_, rfl⟩) ?_
  refine aw_aload_n dL_law_968 (by rfl) (Or.inr ⟨_, rfl⟩) ?_
  refine aw_iload_n dL_law_969 (by rfl) ?_
  refine aw_iconstZ dL_law_970 ?_
  refine aw_iaddZ dL_law_971 ?_
  refine aw_sld (i + 1) dL_law_972 (by omega) (by omega) (by omega) ?_
  refine aw_aload_n dL_law_973 (by rfl) (Or.inr ⟨_, rfl⟩) ?_
  refine aw_iload_n dL_law_974 (by rfl) ?_
  refine aw_iconstZ dL_law_975 ?_
  refine aw_iaddZ dL_law_976 ?_
  refine aw_sld (i + 2) dL_law_977 (by omega) (by omega) (by omega) ?_
  refine aw_callv vL_108 dL_law_978 hm1 (m_join g 4 hX1 (xz_R xs (i + 1)) (xz_R xs (i + 2))) (by rfl) (by rfl) (by omega) (Nat.le_of_ble_eq_true rfl) ?_
  rintro r2 V2 sz2 mc2 ms2 ⟨rfl, rfl, rfl, hV2, z2, S2, A2, hX2, hR2⟩ -
  obtain ⟨x2, e1, rfl, hL2⟩ := lw_two uq_join lw_q_join hW1 hC1 hR1 hV2 hX2 hR2
  cases e1
  refine aw_icmp_eq (tgt := 1164) dL_law_981 (by decide) (fun _ => ?_) (fun q => absurd rfl q)
  exact lw_cls nx hL2 hW1.2.2.2.2.1 hW1.2.2.2.2.2 (fun _ _ _ _ _ q => q)
theorem dL_law_986 : decode cL_law 986 = .ok (.aload_n 1, 1) := by decide +kernel
theorem dL_law_987 : decode cL_law 987 = .ok (.aload_n 0, 1) := by decide +kernel
theorem dL_law_988 : decode cL_law 988 = .ok (.iload_n 3, 1) := by decide +kernel
theorem dL_law_989 : decode cL_law 989 = .ok (.iconst 1, 1) := by decide +kernel
theorem dL_law_990 : decode cL_law 990 = .ok (.iadd, 1) := by decide +kernel
theorem dL_law_991 : decode cL_law 991 = .ok (.iaload, 1) := by decide +kernel
theorem dL_law_992 : decode cL_law 992 = .ok (.aload_n 0, 1) := by decide +kernel
theorem dL_law_993 : decode cL_law 993 = .ok (.iload_n 3, 1) := by decide +kernel
theorem dL_law_994 : decode cL_law 994 = .ok (.iconst 2, 1) := by decide +kernel
theorem dL_law_995 : decode cL_law 995 = .ok (.iadd, 1) := by decide +kernel
theorem dL_law_996 : decode cL_law 996 = .ok (.iaload, 1) := by decide +kernel
theorem dL_law_997 : decode cL_law 997 = .ok (.invokevirtual 109, 3) := by decide +kernel
theorem dL_law_1000 : decode cL_law 1000 = .ok (.aload_n 2, 1) := by decide +kernel
theorem dL_law_1001 : decode cL_law 1001 = .ok (.aload_n 0, 1) := by decide +kernel
theorem dL_law_1002 : decode cL_law 1002 = .ok (.iload_n 3, 1) := by decide +kernel
theorem dL_law_1003 : decode cL_law 1003 = .ok (.iconst 1, 1) := by decide +kernel
theorem dL_law_1004 : decode cL_law 1004 = .ok (.iadd, 1) := by decide +kernel
theorem dL_law_1005 : decode cL_law 1005 = .ok (.iaload, 1) := by decide +kernel
theorem dL_law_1006 : decode cL_law 1006 = .ok (.aload_n 0, 1) := by decide +kernel
theorem dL_law_1007 : decode cL_law 1007 = .ok (.iload_n 3, 1) := by decide +kernel
theorem dL_law_1008 : decode cL_law 1008 = .ok (.iconst 2, 1) := by decide +kernel
theorem dL_law_1009 : decode cL_law 1009 = .ok (.iadd, 1) := by decide +kernel
theorem dL_law_1010 : decode cL_law 1010 = .ok (.iaload, 1) := by decide +kernel
theorem dL_law_1011 : decode cL_law 1011 = .ok (.invokevirtual 112, 3) := by decide +kernel
theorem dL_law_1014 : decode cL_law 1014 = .ok (.if_icmp .eq 150, 3) := by decide +kernel
theorem dL_law_1017 : decode cL_law 1017 = .ok (.iconst 0, 1) := by decide +kernel
theorem dL_law_1018 : decode cL_law 1018 = .ok (.ireturn, 1) := by decide +kernel
theorem lw_u_both {S : TSt} {A : ASt} {t u no : Int} : UQ (AlkR S A t u no (BthR S)) := uq_alk (fun _ _ _ _ _ _ _ _ _ h k => u_bth h k)
theorem lw_q_both {S : TSt} {A : ASt} {t u no : Int} : IQ (AlkR S A t u no (BthR S)) := iq_alk (fun _ _ _ _ h => i_bth h)
theorem lw_k_both {g : GX} {nm : String} {sb Ls b i : Nat} {xs : Nat → Int32} {V : AH} {sz : Nat} {Z : Nat → Int} {P L : Nat → Nat} {zs : Nat → Int} {S : TSt} {A : ASt} (hL : Ls ≤ 4096) (hi : i + 8 ≤ Ls) (h : LI g b V sz Z P L zs S A) (nx : Lnx g nm sb Ls xs b i) : AW g (mLw nm sb Ls xs) 13 986 (lwv sb b i) [] V sz (LwQ b L) := by
  have hb := h.2.1.1.1
  obtain ⟨rk, kn, hm⟩ := h.2.2.1
  refine aw_aload_n dL_law_986 (by rfl) (Or.inr ⟨_, rfl⟩) ?_
  refine aw_aload_n dL_law_987 (by rfl) (Or.inr ⟨_, rfl⟩) ?_
  refine aw_iload_n dL_law_988 (by rfl) ?_
  refine aw_iconstZ dL_law_989 ?_
  refine aw_iaddZ dL_law_990 ?_
  refine aw_sld (i + 1) dL_law_991 (by omega) (by omega) (by omega) ?_
  refine aw_aload_n dL_law_992 (by rfl) (Or.inr ⟨_, rfl⟩) ?_
  refine aw_iload_n dL_law_993 (by rfl) ?_
  refine aw_iconstZ dL_law_994 ?_
  refine aw_iaddZ dL_law_995 ?_
  refine aw_sld (i + 2) dL_law_996 (by omega) (by omega) (by omega) ?_
  refine aw_callv vL_109 dL_law_997 hb (c_both 4 h.1 h.2.1 (xz_R xs (i + 1)) (xz_R xs (i + 2))) (by rfl) (by rfl) (by omega) (Nat.le_of_ble_eq_true rfl) ?_
  rintro r1 V1 sz1 mc1 ms1 ⟨Z1, P1, L1, ⟨S1, A1, hC1, hR1⟩, hW1⟩ -
  have hX1 := lw_rx h hW1
  obtain ⟨rk1, kn1, hm1⟩ := hX1.1
  obtain ⟨x1, rfl⟩ := lw_q_both _ _ _ hR1
  refine aw_aload_n dL_law_1000 (by rfl) (Or.inr ⟨_, rfl⟩) ?_
  refine aw_aload_n dL_law_1001 (by rfl) (Or.inr ⟨_, rfl⟩) ?_
  refine aw_iload_n dL_law_1002 (by rfl) ?_
  refine aw_iconstZ dL_law_1003 ?_
  refine aw_iaddZ dL_law_1004 ?_
  refine aw_sld (i + 1) dL_law_1005 (by omega) (by omega) (by omega) ?_
  refine aw_aload_n dL_law_1006 (by rfl) (Or.inr ⟨_, rfl⟩) ?_
  refine aw_iload_n dL_law_1007 (by rfl) ?_
  refine aw_iconstZ dL_law_1008 ?_
  refine aw_iaddZ dL_law_1009 ?_
  refine aw_sld (i + 2) dL_law_1010 (by omega) (by omega) (by omega) ?_
  refine aw_callv vL_112 dL_law_1011 hm1 (m_both g 4 hX1 (xz_R xs (i + 1)) (xz_R xs (i + 2))) (by rfl) (by rfl) (by omega) (Nat.le_of_ble_eq_true rfl) ?_
  rintro r2 V2 sz2 mc2 ms2 ⟨rfl, rfl, rfl, hV2, z2, S2, A2, hX2, hR2⟩ -
  obtain ⟨x2, e1, rfl, hL2⟩ := lw_two lw_u_both lw_q_both hW1 hC1 hR1 hV2 hX2 hR2
  cases e1
  refine aw_icmp_eq (tgt := 1164) dL_law_1014 (by decide) (fun _ => ?_) (fun q => absurd rfl q)
  exact lw_cls nx hL2 hW1.2.2.2.2.1 hW1.2.2.2.2.2 (fun _ _ _ _ _ q => q)
theorem dL_law_1019 : decode cL_law 1019 = .ok (.aload_n 1, 1) := by decide +kernel
theorem dL_law_1020 : decode cL_law 1020 = .ok (.aload_n 0, 1) := by decide +kernel
theorem dL_law_1021 : decode cL_law 1021 = .ok (.iload_n 3, 1) := by decide +kernel
theorem dL_law_1022 : decode cL_law 1022 = .ok (.iconst 1, 1) := by decide +kernel
theorem dL_law_1023 : decode cL_law 1023 = .ok (.iadd, 1) := by decide +kernel
theorem dL_law_1024 : decode cL_law 1024 = .ok (.iaload, 1) := by decide +kernel
theorem dL_law_1025 : decode cL_law 1025 = .ok (.aload_n 0, 1) := by decide +kernel
theorem dL_law_1026 : decode cL_law 1026 = .ok (.iload_n 3, 1) := by decide +kernel
theorem dL_law_1027 : decode cL_law 1027 = .ok (.iconst 2, 1) := by decide +kernel
theorem dL_law_1028 : decode cL_law 1028 = .ok (.iadd, 1) := by decide +kernel
theorem dL_law_1029 : decode cL_law 1029 = .ok (.iaload, 1) := by decide +kernel
theorem dL_law_1030 : decode cL_law 1030 = .ok (.invokevirtual 113, 3) := by decide +kernel
theorem dL_law_1033 : decode cL_law 1033 = .ok (.aload_n 2, 1) := by decide +kernel
theorem dL_law_1034 : decode cL_law 1034 = .ok (.aload_n 0, 1) := by decide +kernel
theorem dL_law_1035 : decode cL_law 1035 = .ok (.iload_n 3, 1) := by decide +kernel
theorem dL_law_1036 : decode cL_law 1036 = .ok (.iconst 1, 1) := by decide +kernel
theorem dL_law_1037 : decode cL_law 1037 = .ok (.iadd, 1) := by decide +kernel
theorem dL_law_1038 : decode cL_law 1038 = .ok (.iaload, 1) := by decide +kernel
theorem dL_law_1039 : decode cL_law 1039 = .ok (.aload_n 0, 1) := by decide +kernel
theorem dL_law_1040 : decode cL_law 1040 = .ok (.iload_n 3, 1) := by decide +kernel
theorem dL_law_1041 : decode cL_law 1041 = .ok (.iconst 2, 1) := by decide +kernel
theorem dL_law_1042 : decode cL_law 1042 = .ok (.iadd, 1) := by decide +kernel
theorem dL_law_1043 : decode cL_law 1043 = .ok (.iaload, 1) := by decide +kernel
theorem dL_law_1044 : decode cL_law 1044 = .ok (.invokevirtual 116, 3) := by decide +kernel
theorem dL_law_1047 : decode cL_law 1047 = .ok (.if_icmp .eq 117, 3) := by decide +kernel
theorem dL_law_1050 : decode cL_law 1050 = .ok (.iconst 0, 1) := by decide +kernel
theorem dL_law_1051 : decode cL_law 1051 = .ok (.ireturn, 1) := by decide +kernel
theorem lw_q_within {S : TSt} {A : ASt} {t u : Int} : IQ (fun q S' A' => S' = S ∧ A' = A ∧ ((∃ x y : Nat, x < 12 ∧ y < 12 ∧ t = (x : Int) ∧ u = (y : Int) ∧ 0 < S.r x ∧ 0 < S.r y ∧ S.c x = S.c y ∧ (WinP S x y ∧ some (.int (iZ 1)) = q ∨ ¬ WinP S x y ∧ some (.int (iZ 0)) = q)) ∨ (¬ (∃ n m : Nat, n < 12 ∧ m < 12 ∧ t = (n : Int) ∧ u = (m : Int) ∧ 0 < S.r n ∧ 0 < S.r m ∧ S.c n = S.c m) ∧ some (.int (iZ (-1))) = q))) := by
  rintro q S1 A1 (⟨-, -, ⟨x, y, -, -, -, -, -, -, -, ⟨-, h⟩ | ⟨-, h⟩⟩ | ⟨-, h⟩⟩)
  · exact ⟨_, h⟩
  · exact ⟨_, h⟩
  · exact ⟨_, h⟩
theorem lw_k_within {g : GX} {nm : String} {sb Ls b i : Nat} {xs : Nat → Int32} {V : AH} {sz : Nat} {Z : Nat → Int} {P L : Nat → Nat} {zs : Nat → Int} {S : TSt} {A : ASt} (hL : Ls ≤ 4096) (hi : i + 8 ≤ Ls) (h : LI g b V sz Z P L zs S A) (nx : Lnx g nm sb Ls xs b i) : AW g (mLw nm sb Ls xs) 13 1019 (lwv sb b i) [] V sz (LwQ b L) := by
  have hb := h.2.1.1.1
  obtain ⟨rk, kn, hm⟩ := h.2.2.1
  refine aw_aload_n dL_law_1019 (by rfl) (Or.inr ⟨_, rfl⟩) ?_
  refine aw_aload_n dL_law_1020 (by rfl) (Or.inr ⟨_, rfl⟩) ?_
  refine aw_iload_n dL_law_1021 (by rfl) ?_
  refine aw_iconstZ dL_law_1022 ?_
  refine aw_iaddZ dL_law_1023 ?_
  refine aw_sld (i + 1) dL_law_1024 (by omega) (by omega) (by omega) ?_
  refine aw_aload_n dL_law_1025 (by rfl) (Or.inr ⟨_, rfl⟩) ?_
  refine aw_iload_n dL_law_1026 (by rfl) ?_
  refine aw_iconstZ dL_law_1027 ?_
  refine aw_iaddZ dL_law_1028 ?_
  refine aw_sld (i + 2) dL_law_1029 (by omega) (by omega) (by omega) ?_
  refine aw_callv vL_113 dL_law_1030 hb (c_within 4 h.1 h.2.1 (xz_R xs (i + 1)) (xz_R xs (i + 2))) (by rfl) (by rfl) (by omega) (Nat.le_of_ble_eq_true rfl) ?_
  rintro r1 V1 sz1 mc1 ms1 ⟨Z1, P1, L1, ⟨S1, A1, hC1, hR1⟩, hW1⟩ -
  have hX1 := lw_rx h hW1
  obtain ⟨rk1, kn1, hm1⟩ := hX1.1
  obtain ⟨x1, rfl⟩ := lw_q_within _ _ _ hR1
  refine aw_aload_n dL_law_1033 (by rfl) (Or.inr ⟨_, rfl⟩) ?_
  refine aw_aload_n dL_law_1034 (by rfl) (Or.inr ⟨_, rfl⟩) ?_
  refine aw_iload_n dL_law_1035 (by rfl) ?_
  refine aw_iconstZ dL_law_1036 ?_
  refine aw_iaddZ dL_law_1037 ?_
  refine aw_sld (i + 1) dL_law_1038 (by omega) (by omega) (by omega) ?_
  refine aw_aload_n dL_law_1039 (by rfl) (Or.inr ⟨_, rfl⟩) ?_
  refine aw_iload_n dL_law_1040 (by rfl) ?_
  refine aw_iconstZ dL_law_1041 ?_
  refine aw_iaddZ dL_law_1042 ?_
  refine aw_sld (i + 2) dL_law_1043 (by omega) (by omega) (by omega) ?_
  refine aw_callv vL_116 dL_law_1044 hm1 (m_within g 2 hX1 (xz_R xs (i + 1)) (xz_R xs (i + 2))) (by rfl) (by rfl) (by omega) (Nat.le_of_ble_eq_true rfl) ?_
  rintro r2 V2 sz2 mc2 ms2 ⟨rfl, rfl, rfl, hV2, z2, S2, A2, hX2, hR2⟩ -
  obtain ⟨x2, e1, rfl, hL2⟩ := lw_two uq_within lw_q_within hW1 hC1 hR1 hV2 hX2 hR2
  cases e1
  refine aw_icmp_eq (tgt := 1164) dL_law_1047 (by decide) (fun _ => ?_) (fun q => absurd rfl q)
  exact lw_cls nx hL2 hW1.2.2.2.2.1 hW1.2.2.2.2.2 (fun _ _ _ _ _ q => q)
theorem dL_law_1052 : decode cL_law 1052 = .ok (.aload_n 1, 1) := by decide +kernel
theorem dL_law_1053 : decode cL_law 1053 = .ok (.aload_n 0, 1) := by decide +kernel
theorem dL_law_1054 : decode cL_law 1054 = .ok (.iload_n 3, 1) := by decide +kernel
theorem dL_law_1055 : decode cL_law 1055 = .ok (.iconst 1, 1) := by decide +kernel
theorem dL_law_1056 : decode cL_law 1056 = .ok (.iadd, 1) := by decide +kernel
theorem dL_law_1057 : decode cL_law 1057 = .ok (.iaload, 1) := by decide +kernel
theorem dL_law_1058 : decode cL_law 1058 = .ok (.aload_n 0, 1) := by decide +kernel
theorem dL_law_1059 : decode cL_law 1059 = .ok (.iload_n 3, 1) := by decide +kernel
theorem dL_law_1060 : decode cL_law 1060 = .ok (.iconst 2, 1) := by decide +kernel
theorem dL_law_1061 : decode cL_law 1061 = .ok (.iadd, 1) := by decide +kernel
theorem dL_law_1062 : decode cL_law 1062 = .ok (.iaload, 1) := by decide +kernel
theorem dL_law_1063 : decode cL_law 1063 = .ok (.invokevirtual 117, 3) := by decide +kernel
theorem dL_law_1066 : decode cL_law 1066 = .ok (.aload_n 2, 1) := by decide +kernel
theorem dL_law_1067 : decode cL_law 1067 = .ok (.aload_n 0, 1) := by decide +kernel
theorem dL_law_1068 : decode cL_law 1068 = .ok (.iload_n 3, 1) := by decide +kernel
theorem dL_law_1069 : decode cL_law 1069 = .ok (.iconst 1, 1) := by decide +kernel
theorem dL_law_1070 : decode cL_law 1070 = .ok (.iadd, 1) := by decide +kernel
theorem dL_law_1071 : decode cL_law 1071 = .ok (.iaload, 1) := by decide +kernel
theorem dL_law_1072 : decode cL_law 1072 = .ok (.aload_n 0, 1) := by decide +kernel
theorem dL_law_1073 : decode cL_law 1073 = .ok (.iload_n 3, 1) := by decide +kernel
theorem dL_law_1074 : decode cL_law 1074 = .ok (.iconst 2, 1) := by decide +kernel
theorem dL_law_1075 : decode cL_law 1075 = .ok (.iadd, 1) := by decide +kernel
theorem dL_law_1076 : decode cL_law 1076 = .ok (.iaload, 1) := by decide +kernel
theorem dL_law_1077 : decode cL_law 1077 = .ok (.invokevirtual 120, 3) := by decide +kernel
theorem dL_law_1080 : decode cL_law 1080 = .ok (.if_icmp .eq 84, 3) := by decide +kernel
theorem dL_law_1083 : decode cL_law 1083 = .ok (.iconst 0, 1) := by decide +kernel
theorem dL_law_1084 : decode cL_law 1084 = .ok (.ireturn, 1) := by decide +kernel
theorem lw_u_index {S : TSt} {A : ASt} {t u no : Int} : UQ (AlkR S A t u no (IdxR S A)) := uq_alk (fun _ _ _ _ _ _ _ _ _ h k => u_idx h k)
theorem lw_q_index {S : TSt} {A : ASt} {t u no : Int} : IQ (AlkR S A t u no (IdxR S A)) := iq_alk (fun _ _ _ _ h => i_idx h)
theorem lw_k_index {g : GX} {nm : String} {sb Ls b i : Nat} {xs : Nat → Int32} {V : AH} {sz : Nat} {Z : Nat → Int} {P L : Nat → Nat} {zs : Nat → Int} {S : TSt} {A : ASt} (hL : Ls ≤ 4096) (hi : i + 8 ≤ Ls) (h : LI g b V sz Z P L zs S A) (nx : Lnx g nm sb Ls xs b i) : AW g (mLw nm sb Ls xs) 13 1052 (lwv sb b i) [] V sz (LwQ b L) := by
  have hb := h.2.1.1.1
  obtain ⟨rk, kn, hm⟩ := h.2.2.1
  refine aw_aload_n dL_law_1052 (by rfl) (Or.inr ⟨_, rfl⟩) ?_
  refine aw_aload_n dL_law_1053 (by rfl) (Or.inr ⟨_, rfl⟩) ?_
  refine aw_iload_n dL_law_1054 (by rfl) ?_
  refine aw_iconstZ dL_law_1055 ?_
  refine aw_iaddZ dL_law_1056 ?_
  refine aw_sld (i + 1) dL_law_1057 (by omega) (by omega) (by omega) ?_
  refine aw_aload_n dL_law_1058 (by rfl) (Or.inr ⟨_, rfl⟩) ?_
  refine aw_iload_n dL_law_1059 (by rfl) ?_
  refine aw_iconstZ dL_law_1060 ?_
  refine aw_iaddZ dL_law_1061 ?_
  refine aw_sld (i + 2) dL_law_1062 (by omega) (by omega) (by omega) ?_
  refine aw_callv vL_117 dL_law_1063 hb (c_index 4 h.1 h.2.1 (xz_R xs (i + 1)) (xz_R xs (i + 2))) (by rfl) (by rfl) (by omega) (Nat.le_of_ble_eq_true rfl) ?_
  rintro r1 V1 sz1 mc1 ms1 ⟨Z1, P1, L1, ⟨S1, A1, hC1, hR1⟩, hW1⟩ -
  have hX1 := lw_rx h hW1
  obtain ⟨rk1, kn1, hm1⟩ := hX1.1
  obtain ⟨x1, rfl⟩ := lw_q_index _ _ _ hR1
  refine aw_aload_n dL_law_1066 (by rfl) (Or.inr ⟨_, rfl⟩) ?_
  refine aw_aload_n dL_law_1067 (by rfl) (Or.inr ⟨_, rfl⟩) ?_
  refine aw_iload_n dL_law_1068 (by rfl) ?_
  refine aw_iconstZ dL_law_1069 ?_
  refine aw_iaddZ dL_law_1070 ?_
  refine aw_sld (i + 1) dL_law_1071 (by omega) (by omega) (by omega) ?_
  refine aw_aload_n dL_law_1072 (by rfl) (Or.inr ⟨_, rfl⟩) ?_
  refine aw_iload_n dL_law_1073 (by rfl) ?_
  refine aw_iconstZ dL_law_1074 ?_
  refine aw_iaddZ dL_law_1075 ?_
  refine aw_sld (i + 2) dL_law_1076 (by omega) (by omega) (by omega) ?_
  refine aw_callv vL_120 dL_law_1077 hm1 (m_index g 2 hX1 (xz_R xs (i + 1)) (xz_R xs (i + 2))) (by rfl) (by rfl) (by omega) (Nat.le_of_ble_eq_true rfl) ?_
  rintro r2 V2 sz2 mc2 ms2 ⟨rfl, rfl, rfl, hV2, z2, S2, A2, hX2, hR2⟩ -
  obtain ⟨x2, e1, rfl, hL2⟩ := lw_two lw_u_index lw_q_index hW1 hC1 hR1 hV2 hX2 hR2
  cases e1
  refine aw_icmp_eq (tgt := 1164) dL_law_1080 (by decide) (fun _ => ?_) (fun q => absurd rfl q)
  exact lw_cls nx hL2 hW1.2.2.2.2.1 hW1.2.2.2.2.2 (fun _ _ _ _ _ q => q)
theorem dL_law_1085 : decode cL_law 1085 = .ok (.aload_n 1, 1) := by decide +kernel
theorem dL_law_1086 : decode cL_law 1086 = .ok (.aload_n 0, 1) := by decide +kernel
theorem dL_law_1087 : decode cL_law 1087 = .ok (.iload_n 3, 1) := by decide +kernel
theorem dL_law_1088 : decode cL_law 1088 = .ok (.iconst 1, 1) := by decide +kernel
theorem dL_law_1089 : decode cL_law 1089 = .ok (.iadd, 1) := by decide +kernel
theorem dL_law_1090 : decode cL_law 1090 = .ok (.iaload, 1) := by decide +kernel
theorem dL_law_1091 : decode cL_law 1091 = .ok (.aload_n 0, 1) := by decide +kernel
theorem dL_law_1092 : decode cL_law 1092 = .ok (.iload_n 3, 1) := by decide +kernel
theorem dL_law_1093 : decode cL_law 1093 = .ok (.iconst 2, 1) := by decide +kernel
theorem dL_law_1094 : decode cL_law 1094 = .ok (.iadd, 1) := by decide +kernel
theorem dL_law_1095 : decode cL_law 1095 = .ok (.iaload, 1) := by decide +kernel
theorem dL_law_1096 : decode cL_law 1096 = .ok (.invokevirtual 121, 3) := by decide +kernel
theorem dL_law_1099 : decode cL_law 1099 = .ok (.aload_n 2, 1) := by decide +kernel
theorem dL_law_1100 : decode cL_law 1100 = .ok (.aload_n 0, 1) := by decide +kernel
theorem dL_law_1101 : decode cL_law 1101 = .ok (.iload_n 3, 1) := by decide +kernel
theorem dL_law_1102 : decode cL_law 1102 = .ok (.iconst 1, 1) := by decide +kernel
theorem dL_law_1103 : decode cL_law 1103 = .ok (.iadd, 1) := by decide +kernel
theorem dL_law_1104 : decode cL_law 1104 = .ok (.iaload, 1) := by decide +kernel
theorem dL_law_1105 : decode cL_law 1105 = .ok (.aload_n 0, 1) := by decide +kernel
theorem dL_law_1106 : decode cL_law 1106 = .ok (.iload_n 3, 1) := by decide +kernel
theorem dL_law_1107 : decode cL_law 1107 = .ok (.iconst 2, 1) := by decide +kernel
theorem dL_law_1108 : decode cL_law 1108 = .ok (.iadd, 1) := by decide +kernel
theorem dL_law_1109 : decode cL_law 1109 = .ok (.iaload, 1) := by decide +kernel
theorem dL_law_1110 : decode cL_law 1110 = .ok (.invokevirtual 124, 3) := by decide +kernel
theorem dL_law_1113 : decode cL_law 1113 = .ok (.if_icmp .eq 51, 3) := by decide +kernel
theorem dL_law_1116 : decode cL_law 1116 = .ok (.iconst 0, 1) := by decide +kernel
theorem dL_law_1117 : decode cL_law 1117 = .ok (.ireturn, 1) := by decide +kernel
theorem lw_u_quotient {S : TSt} {A : ASt} {t u no : Int} : UQ (AlkR S A t u no (QuoR S A)) := uq_alk (fun _ _ _ _ _ _ _ _ hc h k => u_quo hc h k)
theorem lw_q_quotient {S : TSt} {A : ASt} {t u no : Int} : IQ (AlkR S A t u no (QuoR S A)) := iq_alk (fun _ _ _ _ h => i_quo h)
theorem lw_k_quotient {g : GX} {nm : String} {sb Ls b i : Nat} {xs : Nat → Int32} {V : AH} {sz : Nat} {Z : Nat → Int} {P L : Nat → Nat} {zs : Nat → Int} {S : TSt} {A : ASt} (hL : Ls ≤ 4096) (hi : i + 8 ≤ Ls) (h : LI g b V sz Z P L zs S A) (nx : Lnx g nm sb Ls xs b i) : AW g (mLw nm sb Ls xs) 13 1085 (lwv sb b i) [] V sz (LwQ b L) := by
  have hb := h.2.1.1.1
  obtain ⟨rk, kn, hm⟩ := h.2.2.1
  refine aw_aload_n dL_law_1085 (by rfl) (Or.inr ⟨_, rfl⟩) ?_
  refine aw_aload_n dL_law_1086 (by rfl) (Or.inr ⟨_, rfl⟩) ?_
  refine aw_iload_n dL_law_1087 (by rfl) ?_
  refine aw_iconstZ dL_law_1088 ?_
  refine aw_iaddZ dL_law_1089 ?_
  refine aw_sld (i + 1) dL_law_1090 (by omega) (by omega) (by omega) ?_
  refine aw_aload_n dL_law_1091 (by rfl) (Or.inr ⟨_, rfl⟩) ?_
  refine aw_iload_n dL_law_1092 (by rfl) ?_
  refine aw_iconstZ dL_law_1093 ?_
  refine aw_iaddZ dL_law_1094 ?_
  refine aw_sld (i + 2) dL_law_1095 (by omega) (by omega) (by omega) ?_
  refine aw_callv vL_121 dL_law_1096 hb (c_quotient 4 h.1 h.2.1 (xz_R xs (i + 1)) (xz_R xs (i + 2))) (by rfl) (by rfl) (by omega) (Nat.le_of_ble_eq_true rfl) ?_
  rintro r1 V1 sz1 mc1 ms1 ⟨Z1, P1, L1, ⟨S1, A1, hC1, hR1⟩, hW1⟩ -
  have hX1 := lw_rx h hW1
  obtain ⟨rk1, kn1, hm1⟩ := hX1.1
  obtain ⟨x1, rfl⟩ := lw_q_quotient _ _ _ hR1
  refine aw_aload_n dL_law_1099 (by rfl) (Or.inr ⟨_, rfl⟩) ?_
  refine aw_aload_n dL_law_1100 (by rfl) (Or.inr ⟨_, rfl⟩) ?_
  refine aw_iload_n dL_law_1101 (by rfl) ?_
  refine aw_iconstZ dL_law_1102 ?_
  refine aw_iaddZ dL_law_1103 ?_
  refine aw_sld (i + 1) dL_law_1104 (by omega) (by omega) (by omega) ?_
  refine aw_aload_n dL_law_1105 (by rfl) (Or.inr ⟨_, rfl⟩) ?_
  refine aw_iload_n dL_law_1106 (by rfl) ?_
  refine aw_iconstZ dL_law_1107 ?_
  refine aw_iaddZ dL_law_1108 ?_
  refine aw_sld (i + 2) dL_law_1109 (by omega) (by omega) (by omega) ?_
  refine aw_callv vL_124 dL_law_1110 hm1 (m_quotient g 2 hX1 (xz_R xs (i + 1)) (xz_R xs (i + 2))) (by rfl) (by rfl) (by omega) (Nat.le_of_ble_eq_true rfl) ?_
  rintro r2 V2 sz2 mc2 ms2 ⟨rfl, rfl, rfl, hV2, z2, S2, A2, hX2, hR2⟩ -
  obtain ⟨x2, e1, rfl, hL2⟩ := lw_two lw_u_quotient lw_q_quotient hW1 hC1 hR1 hV2 hX2 hR2
  cases e1
  refine aw_icmp_eq (tgt := 1164) dL_law_1113 (by decide) (fun _ => ?_) (fun q => absurd rfl q)
  exact lw_cls nx hL2 hW1.2.2.2.2.1 hW1.2.2.2.2.2 (fun _ _ _ _ _ q => q)
theorem dL_law_1118 : decode cL_law 1118 = .ok (.aload_n 1, 1) := by decide +kernel
theorem dL_law_1119 : decode cL_law 1119 = .ok (.aload_n 0, 1) := by decide +kernel
theorem dL_law_1120 : decode cL_law 1120 = .ok (.iload_n 3, 1) := by decide +kernel
theorem dL_law_1121 : decode cL_law 1121 = .ok (.iconst 1, 1) := by decide +kernel
theorem dL_law_1122 : decode cL_law 1122 = .ok (.iadd, 1) := by decide +kernel
theorem dL_law_1123 : decode cL_law 1123 = .ok (.iaload, 1) := by decide +kernel
theorem dL_law_1124 : decode cL_law 1124 = .ok (.invokevirtual 125, 3) := by decide +kernel
theorem dL_law_1127 : decode cL_law 1127 = .ok (.aload_n 2, 1) := by decide +kernel
theorem dL_law_1128 : decode cL_law 1128 = .ok (.aload_n 0, 1) := by decide +kernel
theorem dL_law_1129 : decode cL_law 1129 = .ok (.iload_n 3, 1) := by decide +kernel
theorem dL_law_1130 : decode cL_law 1130 = .ok (.iconst 1, 1) := by decide +kernel
theorem dL_law_1131 : decode cL_law 1131 = .ok (.iadd, 1) := by decide +kernel
theorem dL_law_1132 : decode cL_law 1132 = .ok (.iaload, 1) := by decide +kernel
theorem dL_law_1133 : decode cL_law 1133 = .ok (.invokevirtual 128, 3) := by decide +kernel
theorem dL_law_1136 : decode cL_law 1136 = .ok (.if_icmp .eq 28, 3) := by decide +kernel
theorem dL_law_1139 : decode cL_law 1139 = .ok (.iconst 0, 1) := by decide +kernel
theorem dL_law_1140 : decode cL_law 1140 = .ok (.ireturn, 1) := by decide +kernel
theorem lw_u_dual {S : TSt} {A : ASt} {t no : Int} : UQ (OneR S A t no (DuaR S A)) := uq_one (fun _ _ _ _ _ _ _ h k => u_dua h k)
theorem lw_q_dual {S : TSt} {A : ASt} {t no : Int} : IQ (OneR S A t no (DuaR S A)) := iq_one (fun _ _ _ h => i_dua h)
theorem lw_k_dual {g : GX} {nm : String} {sb Ls b i : Nat} {xs : Nat → Int32} {V : AH} {sz : Nat} {Z : Nat → Int} {P L : Nat → Nat} {zs : Nat → Int} {S : TSt} {A : ASt} (hL : Ls ≤ 4096) (hi : i + 8 ≤ Ls) (h : LI g b V sz Z P L zs S A) (nx : Lnx g nm sb Ls xs b i) : AW g (mLw nm sb Ls xs) 13 1118 (lwv sb b i) [] V sz (LwQ b L) := by
  have hb := h.2.1.1.1
  obtain ⟨rk, kn, hm⟩ := h.2.2.1
  refine aw_aload_n dL_law_1118 (by rfl) (Or.inr ⟨_, rfl⟩) ?_
  refine aw_aload_n dL_law_1119 (by rfl) (Or.inr ⟨_, rfl⟩) ?_
  refine aw_iload_n dL_law_1120 (by rfl) ?_
  refine aw_iconstZ dL_law_1121 ?_
  refine aw_iaddZ dL_law_1122 ?_
  refine aw_sld (i + 1) dL_law_1123 (by omega) (by omega) (by omega) ?_
  refine aw_callv vL_125 dL_law_1124 hb (c_dual 3 h.1 h.2.1 (xz_R xs (i + 1))) (by rfl) (by rfl) (by omega) (Nat.le_of_ble_eq_true rfl) ?_
  rintro r1 V1 sz1 mc1 ms1 ⟨Z1, P1, L1, ⟨S1, A1, hC1, hR1⟩, hW1⟩ -
  have hX1 := lw_rx h hW1
  obtain ⟨rk1, kn1, hm1⟩ := hX1.1
  obtain ⟨x1, rfl⟩ := lw_q_dual _ _ _ hR1
  refine aw_aload_n dL_law_1127 (by rfl) (Or.inr ⟨_, rfl⟩) ?_
  refine aw_aload_n dL_law_1128 (by rfl) (Or.inr ⟨_, rfl⟩) ?_
  refine aw_iload_n dL_law_1129 (by rfl) ?_
  refine aw_iconstZ dL_law_1130 ?_
  refine aw_iaddZ dL_law_1131 ?_
  refine aw_sld (i + 1) dL_law_1132 (by omega) (by omega) (by omega) ?_
  refine aw_callv vL_128 dL_law_1133 hm1 (m_dual g 5 hX1 (xz_R xs (i + 1))) (by rfl) (by rfl) (by omega) (Nat.le_of_ble_eq_true rfl) ?_
  rintro r2 V2 sz2 mc2 ms2 ⟨rfl, rfl, rfl, hV2, z2, S2, A2, hX2, hR2⟩ -
  obtain ⟨x2, e1, rfl, hL2⟩ := lw_two lw_u_dual lw_q_dual hW1 hC1 hR1 hV2 hX2 hR2
  cases e1
  refine aw_icmp_eq (tgt := 1164) dL_law_1136 (by decide) (fun _ => ?_) (fun q => absurd rfl q)
  exact lw_cls nx hL2 hW1.2.2.2.2.1 hW1.2.2.2.2.2 (fun _ _ _ _ _ q => q)
theorem dL_law_1141 : decode cL_law 1141 = .ok (.aload_n 1, 1) := by decide +kernel
theorem dL_law_1142 : decode cL_law 1142 = .ok (.aload_n 0, 1) := by decide +kernel
theorem dL_law_1143 : decode cL_law 1143 = .ok (.iload_n 3, 1) := by decide +kernel
theorem dL_law_1144 : decode cL_law 1144 = .ok (.iconst 1, 1) := by decide +kernel
theorem dL_law_1145 : decode cL_law 1145 = .ok (.iadd, 1) := by decide +kernel
theorem dL_law_1146 : decode cL_law 1146 = .ok (.iaload, 1) := by decide +kernel
theorem dL_law_1147 : decode cL_law 1147 = .ok (.invokevirtual 129, 3) := by decide +kernel
theorem dL_law_1150 : decode cL_law 1150 = .ok (.aload_n 2, 1) := by decide +kernel
theorem dL_law_1151 : decode cL_law 1151 = .ok (.aload_n 0, 1) := by decide +kernel
theorem dL_law_1152 : decode cL_law 1152 = .ok (.iload_n 3, 1) := by decide +kernel
theorem dL_law_1153 : decode cL_law 1153 = .ok (.iconst 1, 1) := by decide +kernel
theorem dL_law_1154 : decode cL_law 1154 = .ok (.iadd, 1) := by decide +kernel
theorem dL_law_1155 : decode cL_law 1155 = .ok (.iaload, 1) := by decide +kernel
theorem dL_law_1156 : decode cL_law 1156 = .ok (.invokevirtual 132, 3) := by decide +kernel
theorem dL_law_1159 : decode cL_law 1159 = .ok (.if_icmp .eq 5, 3) := by decide +kernel
theorem dL_law_1162 : decode cL_law 1162 = .ok (.iconst 0, 1) := by decide +kernel
theorem dL_law_1163 : decode cL_law 1163 = .ok (.ireturn, 1) := by decide +kernel
theorem lw_k_count {g : GX} {nm : String} {sb Ls b i : Nat} {xs : Nat → Int32} {V : AH} {sz : Nat} {Z : Nat → Int} {P L : Nat → Nat} {zs : Nat → Int} {S : TSt} {A : ASt} (hL : Ls ≤ 4096) (hi : i + 8 ≤ Ls) (h : LI g b V sz Z P L zs S A) (nx : Lnx g nm sb Ls xs b i) : AW g (mLw nm sb Ls xs) 13 1141 (lwv sb b i) [] V sz (LwQ b L) := by
  have hb := h.2.1.1.1
  obtain ⟨rk, kn, hm⟩ := h.2.2.1
  refine aw_aload_n dL_law_1141 (by rfl) (Or.inr ⟨_, rfl⟩) ?_
  refine aw_aload_n dL_law_1142 (by rfl) (Or.inr ⟨_, rfl⟩) ?_
  refine aw_iload_n dL_law_1143 (by rfl) ?_
  refine aw_iconstZ dL_law_1144 ?_
  refine aw_iaddZ dL_law_1145 ?_
  refine aw_sld (i + 1) dL_law_1146 (by omega) (by omega) (by omega) ?_
  refine aw_callv vL_129 dL_law_1147 hb (c_count 11 h.2.1 (xz_R xs (i + 1))) (by rfl) (by rfl) (by omega) (Nat.le_of_ble_eq_true rfl) ?_
  rintro _ _ _ _ _ ⟨rfl, rfl, rfl, rfl, rfl⟩ -
  refine aw_aload_n dL_law_1150 (by rfl) (Or.inr ⟨_, rfl⟩) ?_
  refine aw_aload_n dL_law_1151 (by rfl) (Or.inr ⟨_, rfl⟩) ?_
  refine aw_iload_n dL_law_1152 (by rfl) ?_
  refine aw_iconstZ dL_law_1153 ?_
  refine aw_iaddZ dL_law_1154 ?_
  refine aw_sld (i + 1) dL_law_1155 (by omega) (by omega) (by omega) ?_
  refine aw_callv vL_132 dL_law_1156 hm (m_count g 12 h.2.2 (xz_R xs (i + 1))) (by rfl) (by rfl) (by omega) (Nat.le_of_ble_eq_true rfl) ?_
  rintro _ _ _ _ _ ⟨rfl, rfl, rfl, rfl, rfl⟩ -
  refine aw_icmp_eq (tgt := 1164) dL_law_1159 (by decide) (fun _ => ?_) (fun q => absurd rfl q)
  exact lw_cls (mc := 0) (ms := 0) nx h (by omega) (by omega) (fun _ _ _ _ _ q => q)

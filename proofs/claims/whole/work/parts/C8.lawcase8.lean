/-! ===== the law's cases, part 8 ===== -/
theorem dL_law_732 : decode cL_law 732 = .ok (.aload_n 1, 1) := by decide +kernel
theorem dL_law_733 : decode cL_law 733 = .ok (.aload_n 0, 1) := by decide +kernel
theorem dL_law_734 : decode cL_law 734 = .ok (.iload_n 3, 1) := by decide +kernel
theorem dL_law_735 : decode cL_law 735 = .ok (.iconst 1, 1) := by decide +kernel
theorem dL_law_736 : decode cL_law 736 = .ok (.iadd, 1) := by decide +kernel
theorem dL_law_737 : decode cL_law 737 = .ok (.iaload, 1) := by decide +kernel
theorem dL_law_738 : decode cL_law 738 = .ok (.invokevirtual 76, 3) := by decide +kernel
theorem dL_law_741 : decode cL_law 741 = .ok (.aload_n 2, 1) := by decide +kernel
theorem dL_law_742 : decode cL_law 742 = .ok (.aload_n 0, 1) := by decide +kernel
theorem dL_law_743 : decode cL_law 743 = .ok (.iload_n 3, 1) := by decide +kernel
theorem dL_law_744 : decode cL_law 744 = .ok (.iconst 1, 1) := by decide +kernel
theorem dL_law_745 : decode cL_law 745 = .ok (.iadd, 1) := by decide +kernel
theorem dL_law_746 : decode cL_law 746 = .ok (.iaload, 1) := by decide +kernel
theorem dL_law_747 : decode cL_law 747 = .ok (.invokevirtual 79, 3) := by decide +kernel
theorem dL_law_750 : decode cL_law 750 = .ok (.if_icmp .eq 414, 3) := by decide +kernel
theorem dL_law_753 : decode cL_law 753 = .ok (.iconst 0, 1) := by decide +kernel
theorem dL_law_754 : decode cL_law 754 = .ok (.ireturn, 1) := by decide +kernel
theorem lw_q_stair {S : TSt} {A : ASt} {t : Int} : IQ (fun q S' A' => S' = S ∧ ((∃ (n h1 : Nat) (l1 : Nat → Nat) (B : Mat), n < 12 ∧ t = (n : Int) ∧ 0 < S.r n ∧ Stair B h1 (S.c n) l1 ∧ SpEq (TM (S.N n)) (S.r n) B h1 (S.c n) ∧ some (.int (iZ h1)) = q ∧ AIs A' h1 (S.c n) B) ∨ ((∀ n : Nat, n < 12 → t = (n : Int) → S.r n = 0) ∧ some (.int (iZ (-1))) = q ∧ A' = A))) := by
  rintro q S1 A1 (⟨-, ⟨n, h1, l1, B, -, -, -, -, -, h, -⟩ | ⟨-, h, -⟩⟩)
  · exact ⟨_, h⟩
  · exact ⟨_, h⟩
theorem lw_k_stair {g : GX} {nm : String} {sb Ls b i : Nat} {xs : Nat → Int32} {V : AH} {sz : Nat} {Z : Nat → Int} {P L : Nat → Nat} {zs : Nat → Int} {S : TSt} {A : ASt} (hL : Ls ≤ 4096) (hi : i + 8 ≤ Ls) (h : LI g b V sz Z P L zs S A) (nx : Lnx g nm sb Ls xs b i) : AW g (mLw nm sb Ls xs) 13 732 (lwv sb b i) [] V sz (LwQ b L) := by
  have hb := h.2.1.1.1
  obtain ⟨rk, kn, hm⟩ := h.2.2.1
  refine aw_aload_n dL_law_732 (by rfl) (Or.inr ⟨_, rfl⟩) ?_
  refine aw_aload_n dL_law_733 (by rfl) (Or.inr ⟨_, rfl⟩) ?_
  refine aw_iload_n dL_law_734 (by rfl) ?_
  refine aw_iconstZ dL_law_735 ?_
  refine aw_iaddZ dL_law_736 ?_
  refine aw_sld (i + 1) dL_law_737 (by omega) (by omega) (by omega) ?_
  refine aw_callv vL_76 dL_law_738 hb (c_stair 4 h.1 h.2.1 (xz_R xs (i + 1))) (by rfl) (by rfl) (by omega) (Nat.le_of_ble_eq_true rfl) ?_
  rintro r1 V1 sz1 mc1 ms1 ⟨Z1, P1, L1, ⟨S1, A1, hC1, hR1⟩, hW1⟩ -
  have hX1 := lw_rx h hW1
  obtain ⟨rk1, kn1, hm1⟩ := hX1.1
  obtain ⟨x1, rfl⟩ := lw_q_stair _ _ _ hR1
  refine aw_aload_n dL_law_741 (by rfl) (Or.inr ⟨_, rfl⟩) ?_
  refine aw_aload_n dL_law_742 (by rfl) (Or.inr ⟨_, rfl⟩) ?_
  refine aw_iload_n dL_law_743 (by rfl) ?_
  refine aw_iconstZ dL_law_744 ?_
  refine aw_iaddZ dL_law_745 ?_
  refine aw_sld (i + 1) dL_law_746 (by omega) (by omega) (by omega) ?_
  refine aw_callv vL_79 dL_law_747 hm1 (m_stair g 3 hX1 (xz_R xs (i + 1))) (by rfl) (by rfl) (by omega) (Nat.le_of_ble_eq_true rfl) ?_
  rintro r2 V2 sz2 mc2 ms2 ⟨rfl, rfl, rfl, hV2, z2, S2, A2, hX2, hR2⟩ -
  obtain ⟨x2, e1, rfl, hL2⟩ := lw_two uq_stair lw_q_stair hW1 hC1 hR1 hV2 hX2 hR2
  cases e1
  refine aw_icmp_eq (tgt := 1164) dL_law_750 (by decide) (fun _ => ?_) (fun q => absurd rfl q)
  exact lw_cls nx hL2 hW1.2.2.2.2.1 hW1.2.2.2.2.2 (fun _ _ _ _ _ q => q)
theorem dL_law_755 : decode cL_law 755 = .ok (.aload_n 1, 1) := by decide +kernel
theorem dL_law_756 : decode cL_law 756 = .ok (.aload_n 0, 1) := by decide +kernel
theorem dL_law_757 : decode cL_law 757 = .ok (.iload_n 3, 1) := by decide +kernel
theorem dL_law_758 : decode cL_law 758 = .ok (.iconst 1, 1) := by decide +kernel
theorem dL_law_759 : decode cL_law 759 = .ok (.iadd, 1) := by decide +kernel
theorem dL_law_760 : decode cL_law 760 = .ok (.iaload, 1) := by decide +kernel
theorem dL_law_761 : decode cL_law 761 = .ok (.invokevirtual 80, 3) := by decide +kernel
theorem dL_law_764 : decode cL_law 764 = .ok (.aload_n 2, 1) := by decide +kernel
theorem dL_law_765 : decode cL_law 765 = .ok (.aload_n 0, 1) := by decide +kernel
theorem dL_law_766 : decode cL_law 766 = .ok (.iload_n 3, 1) := by decide +kernel
theorem dL_law_767 : decode cL_law 767 = .ok (.iconst 1, 1) := by decide +kernel
theorem dL_law_768 : decode cL_law 768 = .ok (.iadd, 1) := by decide +kernel
theorem dL_law_769 : decode cL_law 769 = .ok (.iaload, 1) := by decide +kernel
theorem dL_law_770 : decode cL_law 770 = .ok (.invokevirtual 83, 3) := by decide +kernel
theorem dL_law_773 : decode cL_law 773 = .ok (.if_icmp .eq 391, 3) := by decide +kernel
theorem dL_law_776 : decode cL_law 776 = .ok (.iconst 0, 1) := by decide +kernel
theorem dL_law_777 : decode cL_law 777 = .ok (.ireturn, 1) := by decide +kernel
theorem lw_u_sizes {S : TSt} {A : ASt} {t no : Int} : UQ (OneR S A t no (SizR S)) := uq_one (fun _ _ _ _ _ _ _ h k => u_siz h k)
theorem lw_q_sizes {S : TSt} {A : ASt} {t no : Int} : IQ (OneR S A t no (SizR S)) := iq_one (fun _ _ _ h => i_siz h)
theorem lw_k_sizes {g : GX} {nm : String} {sb Ls b i : Nat} {xs : Nat → Int32} {V : AH} {sz : Nat} {Z : Nat → Int} {P L : Nat → Nat} {zs : Nat → Int} {S : TSt} {A : ASt} (hL : Ls ≤ 4096) (hi : i + 8 ≤ Ls) (h : LI g b V sz Z P L zs S A) (nx : Lnx g nm sb Ls xs b i) : AW g (mLw nm sb Ls xs) 13 755 (lwv sb b i) [] V sz (LwQ b L) := by
  have hb := h.2.1.1.1
  obtain ⟨rk, kn, hm⟩ := h.2.2.1
  refine aw_aload_n dL_law_755 (by rfl) (Or.inr ⟨_, rfl⟩) ?_
  refine aw_aload_n dL_law_756 (by rfl) (Or.inr ⟨_, rfl⟩) ?_
  refine aw_iload_n dL_law_757 (by rfl) ?_
  refine aw_iconstZ dL_law_758 ?_
  refine aw_iaddZ dL_law_759 ?_
  refine aw_sld (i + 1) dL_law_760 (by omega) (by omega) (by omega) ?_
  refine aw_callv vL_80 dL_law_761 hb (c_sizes 4 h.1 h.2.1 (xz_R xs (i + 1))) (by rfl) (by rfl) (by omega) (Nat.le_of_ble_eq_true rfl) ?_
  rintro r1 V1 sz1 mc1 ms1 ⟨Z1, P1, L1, ⟨S1, A1, hC1, hR1⟩, hW1⟩ -
  have hX1 := lw_rx h hW1
  obtain ⟨rk1, kn1, hm1⟩ := hX1.1
  obtain ⟨x1, rfl⟩ := lw_q_sizes _ _ _ hR1
  refine aw_aload_n dL_law_764 (by rfl) (Or.inr ⟨_, rfl⟩) ?_
  refine aw_aload_n dL_law_765 (by rfl) (Or.inr ⟨_, rfl⟩) ?_
  refine aw_iload_n dL_law_766 (by rfl) ?_
  refine aw_iconstZ dL_law_767 ?_
  refine aw_iaddZ dL_law_768 ?_
  refine aw_sld (i + 1) dL_law_769 (by omega) (by omega) (by omega) ?_
  refine aw_callv vL_83 dL_law_770 hm1 (m_sizes g 10 hX1 (xz_R xs (i + 1))) (by rfl) (by rfl) (by omega) (Nat.le_of_ble_eq_true rfl) ?_
  rintro r2 V2 sz2 mc2 ms2 ⟨rfl, rfl, rfl, hV2, z2, S2, A2, hX2, hR2⟩ -
  obtain ⟨x2, e1, rfl, hL2⟩ := lw_two lw_u_sizes lw_q_sizes hW1 hC1 hR1 hV2 hX2 hR2
  cases e1
  refine aw_icmp_eq (tgt := 1164) dL_law_773 (by decide) (fun _ => ?_) (fun q => absurd rfl q)
  exact lw_cls nx hL2 hW1.2.2.2.2.1 hW1.2.2.2.2.2 (fun _ _ _ _ _ q => q)
theorem dL_law_778 : decode cL_law 778 = .ok (.aload_n 1, 1) := by decide +kernel
theorem dL_law_779 : decode cL_law 779 = .ok (.aload_n 0, 1) := by decide +kernel
theorem dL_law_780 : decode cL_law 780 = .ok (.iload_n 3, 1) := by decide +kernel
theorem dL_law_781 : decode cL_law 781 = .ok (.iconst 1, 1) := by decide +kernel
theorem dL_law_782 : decode cL_law 782 = .ok (.iadd, 1) := by decide +kernel
theorem dL_law_783 : decode cL_law 783 = .ok (.iaload, 1) := by decide +kernel
theorem dL_law_784 : decode cL_law 784 = .ok (.invokevirtual 84, 3) := by decide +kernel
theorem dL_law_787 : decode cL_law 787 = .ok (.aload_n 2, 1) := by decide +kernel
theorem dL_law_788 : decode cL_law 788 = .ok (.aload_n 0, 1) := by decide +kernel
theorem dL_law_789 : decode cL_law 789 = .ok (.iload_n 3, 1) := by decide +kernel
theorem dL_law_790 : decode cL_law 790 = .ok (.iconst 1, 1) := by decide +kernel
theorem dL_law_791 : decode cL_law 791 = .ok (.iadd, 1) := by decide +kernel
theorem dL_law_792 : decode cL_law 792 = .ok (.iaload, 1) := by decide +kernel
theorem dL_law_793 : decode cL_law 793 = .ok (.invokevirtual 87, 3) := by decide +kernel
theorem dL_law_796 : decode cL_law 796 = .ok (.if_icmp .eq 368, 3) := by decide +kernel
theorem dL_law_799 : decode cL_law 799 = .ok (.iconst 0, 1) := by decide +kernel
theorem dL_law_800 : decode cL_law 800 = .ok (.ireturn, 1) := by decide +kernel
theorem lw_q_kernel {S : TSt} {A : ASt} {t : Int} : IQ (fun q S' A' => S' = S ∧ ((∃ (n h1 : Nat) (l1 : Nat → Nat) (B : Mat), n < 12 ∧ t = (n : Int) ∧ 0 < S.r n ∧ Stair B h1 (S.r n) l1 ∧ (∀ x, Span B h1 (S.r n) x ↔ KerP (S.N n) (S.r n) (S.c n) x) ∧ some (.int (iZ h1)) = q ∧ AIs A' h1 (S.r n) B) ∨ ((∀ n : Nat, n < 12 → t = (n : Int) → S.r n = 0) ∧ some (.int (iZ (-1))) = q ∧ A' = A))) := by
  rintro q S1 A1 (⟨-, ⟨n, h1, l1, B, -, -, -, -, -, h, -⟩ | ⟨-, h, -⟩⟩)
  · exact ⟨_, h⟩
  · exact ⟨_, h⟩
theorem lw_k_kernel {g : GX} {nm : String} {sb Ls b i : Nat} {xs : Nat → Int32} {V : AH} {sz : Nat} {Z : Nat → Int} {P L : Nat → Nat} {zs : Nat → Int} {S : TSt} {A : ASt} (hL : Ls ≤ 4096) (hi : i + 8 ≤ Ls) (h : LI g b V sz Z P L zs S A) (nx : Lnx g nm sb Ls xs b i) : AW g (mLw nm sb Ls xs) 13 778 (lwv sb b i) [] V sz (LwQ b L) := by
  have hb := h.2.1.1.1
  obtain ⟨rk, kn, hm⟩ := h.2.2.1
  refine aw_aload_n dL_law_778 (by rfl) (Or.inr ⟨_, rfl⟩) ?_
  refine aw_aload_n dL_law_779 (by rfl) (Or.inr ⟨_, rfl⟩) ?_
  refine aw_iload_n dL_law_780 (by rfl) ?_
  refine aw_iconstZ dL_law_781 ?_
  refine aw_iaddZ dL_law_782 ?_
  refine aw_sld (i + 1) dL_law_783 (by omega) (by omega) (by omega) ?_
  refine aw_callv vL_84 dL_law_784 hb (c_kernel 4 h.1 h.2.1 (xz_R xs (i + 1))) (by rfl) (by rfl) (by omega) (Nat.le_of_ble_eq_true rfl) ?_
  rintro r1 V1 sz1 mc1 ms1 ⟨Z1, P1, L1, ⟨S1, A1, hC1, hR1⟩, hW1⟩ -
  have hX1 := lw_rx h hW1
  obtain ⟨rk1, kn1, hm1⟩ := hX1.1
  obtain ⟨x1, rfl⟩ := lw_q_kernel _ _ _ hR1
  refine aw_aload_n dL_law_787 (by rfl) (Or.inr ⟨_, rfl⟩) ?_
  refine aw_aload_n dL_law_788 (by rfl) (Or.inr ⟨_, rfl⟩) ?_
  refine aw_iload_n dL_law_789 (by rfl) ?_
  refine aw_iconstZ dL_law_790 ?_
  refine aw_iaddZ dL_law_791 ?_
  refine aw_sld (i + 1) dL_law_792 (by omega) (by omega) (by omega) ?_
  refine aw_callv vL_87 dL_law_793 hm1 (m_kernel g 3 hX1 (xz_R xs (i + 1))) (by rfl) (by rfl) (by omega) (Nat.le_of_ble_eq_true rfl) ?_
  rintro r2 V2 sz2 mc2 ms2 ⟨rfl, rfl, rfl, hV2, z2, S2, A2, hX2, hR2⟩ -
  obtain ⟨x2, e1, rfl, hL2⟩ := lw_two uq_kernel lw_q_kernel hW1 hC1 hR1 hV2 hX2 hR2
  cases e1
  refine aw_icmp_eq (tgt := 1164) dL_law_796 (by decide) (fun _ => ?_) (fun q => absurd rfl q)
  exact lw_cls nx hL2 hW1.2.2.2.2.1 hW1.2.2.2.2.2 (fun _ _ _ _ _ q => q)
theorem dL_law_801 : decode cL_law 801 = .ok (.aload_n 1, 1) := by decide +kernel
theorem dL_law_802 : decode cL_law 802 = .ok (.aload_n 0, 1) := by decide +kernel
theorem dL_law_803 : decode cL_law 803 = .ok (.iload_n 3, 1) := by decide +kernel
theorem dL_law_804 : decode cL_law 804 = .ok (.iconst 1, 1) := by decide +kernel
theorem dL_law_805 : decode cL_law 805 = .ok (.iadd, 1) := by decide +kernel
theorem dL_law_806 : decode cL_law 806 = .ok (.iaload, 1) := by decide +kernel
theorem dL_law_807 : decode cL_law 807 = .ok (.invokevirtual 88, 3) := by decide +kernel
theorem dL_law_810 : decode cL_law 810 = .ok (.aload_n 2, 1) := by decide +kernel
theorem dL_law_811 : decode cL_law 811 = .ok (.aload_n 0, 1) := by decide +kernel
theorem dL_law_812 : decode cL_law 812 = .ok (.iload_n 3, 1) := by decide +kernel
theorem dL_law_813 : decode cL_law 813 = .ok (.iconst 1, 1) := by decide +kernel
theorem dL_law_814 : decode cL_law 814 = .ok (.iadd, 1) := by decide +kernel
theorem dL_law_815 : decode cL_law 815 = .ok (.iaload, 1) := by decide +kernel
theorem dL_law_816 : decode cL_law 816 = .ok (.invokevirtual 92, 3) := by decide +kernel
theorem dL_law_819 : decode cL_law 819 = .ok (.if_icmp .eq 345, 3) := by decide +kernel
theorem dL_law_822 : decode cL_law 822 = .ok (.iconst 0, 1) := by decide +kernel
theorem dL_law_823 : decode cL_law 823 = .ok (.ireturn, 1) := by decide +kernel
theorem lw_k_back {g : GX} {nm : String} {sb Ls b i : Nat} {xs : Nat → Int32} {V : AH} {sz : Nat} {Z : Nat → Int} {P L : Nat → Nat} {zs : Nat → Int} {S : TSt} {A : ASt} (hL : Ls ≤ 4096) (hi : i + 8 ≤ Ls) (h : LI g b V sz Z P L zs S A) (nx : Lnx g nm sb Ls xs b i) : AW g (mLw nm sb Ls xs) 13 801 (lwv sb b i) [] V sz (LwQ b L) := by
  have hb := h.2.1.1.1
  obtain ⟨rk, kn, hm⟩ := h.2.2.1
  refine aw_aload_n dL_law_801 (by rfl) (Or.inr ⟨_, rfl⟩) ?_
  refine aw_aload_n dL_law_802 (by rfl) (Or.inr ⟨_, rfl⟩) ?_
  refine aw_iload_n dL_law_803 (by rfl) ?_
  refine aw_iconstZ dL_law_804 ?_
  refine aw_iaddZ dL_law_805 ?_
  refine aw_sld (i + 1) dL_law_806 (by omega) (by omega) (by omega) ?_
  refine aw_callv vL_88 dL_law_807 hb (c_back 4 h.1 h.2.1 (xz_R xs (i + 1))) (by rfl) (by rfl) (by omega) (Nat.le_of_ble_eq_true rfl) ?_
  rintro r1 V1 sz1 mc1 ms1 ⟨Z1, P1, L1, ⟨S1, A1, hC1, hR1⟩, hW1⟩ -
  have hX1 := lw_rx h hW1
  obtain ⟨rk1, kn1, hm1⟩ := hX1.1
  obtain ⟨x1, rfl⟩ := iq_bck _ _ _ hR1
  refine aw_aload_n dL_law_810 (by rfl) (Or.inr ⟨_, rfl⟩) ?_
  refine aw_aload_n dL_law_811 (by rfl) (Or.inr ⟨_, rfl⟩) ?_
  refine aw_iload_n dL_law_812 (by rfl) ?_
  refine aw_iconstZ dL_law_813 ?_
  refine aw_iaddZ dL_law_814 ?_
  refine aw_sld (i + 1) dL_law_815 (by omega) (by omega) (by omega) ?_
  refine aw_callv vL_92 dL_law_816 hm1 (m_back g 9 hX1 (xz_R xs (i + 1))) (by rfl) (by rfl) (by omega) (Nat.le_of_ble_eq_true rfl) ?_
  rintro r2 V2 sz2 mc2 ms2 ⟨rfl, rfl, rfl, hV2, z2, S2, A2, hX2, hR2⟩ -
  obtain ⟨x2, e1, rfl, hL2⟩ := lw_two uq_bck iq_bck hW1 hC1 hR1 hV2 hX2 hR2
  cases e1
  refine aw_icmp_eq (tgt := 1164) dL_law_819 (by decide) (fun _ => ?_) (fun q => absurd rfl q)
  exact lw_cls nx hL2 hW1.2.2.2.2.1 hW1.2.2.2.2.2 (fun _ _ _ _ _ q => q)
theorem dL_law_824 : decode cL_law 824 = .ok (.aload_n 1, 1) := by decide +kernel
theorem dL_law_825 : decode cL_law 825 = .ok (.aload_n 0, 1) := by decide +kernel
theorem dL_law_826 : decode cL_law 826 = .ok (.iload_n 3, 1) := by decide +kernel
theorem dL_law_827 : decode cL_law 827 = .ok (.iconst 1, 1) := by decide +kernel
theorem dL_law_828 : decode cL_law 828 = .ok (.iadd, 1) := by decide +kernel
theorem dL_law_829 : decode cL_law 829 = .ok (.iaload, 1) := by decide +kernel
theorem dL_law_830 : decode cL_law 830 = .ok (.aload_n 0, 1) := by decide +kernel
theorem dL_law_831 : decode cL_law 831 = .ok (.iload_n 3, 1) := by decide +kernel
theorem dL_law_832 : decode cL_law 832 = .ok (.iconst 2, 1) := by decide +kernel
theorem dL_law_833 : decode cL_law 833 = .ok (.iadd, 1) := by decide +kernel
theorem dL_law_834 : decode cL_law 834 = .ok (.iaload, 1) := by decide +kernel
theorem dL_law_835 : decode cL_law 835 = .ok (.aload_n 0, 1) := by decide +kernel
theorem dL_law_836 : decode cL_law 836 = .ok (.iload_n 3, 1) := by decide +kernel
theorem dL_law_837 : decode cL_law 837 = .ok (.iconst 3, 1) := by decide +kernel
theorem dL_law_838 : decode cL_law 838 = .ok (.iadd, 1) := by decide +kernel
theorem dL_law_839 : decode cL_law 839 = .ok (.iaload, 1) := by decide +kernel
theorem dL_law_840 : decode cL_law 840 = .ok (.invokevirtual 93, 3) := by decide +kernel
theorem dL_law_843 : decode cL_law 843 = .ok (.aload_n 2, 1) := by decide +kernel
theorem dL_law_844 : decode cL_law 844 = .ok (.aload_n 0, 1) := by decide +kernel
theorem dL_law_845 : decode cL_law 845 = .ok (.iload_n 3, 1) := by decide +kernel
theorem dL_law_846 : decode cL_law 846 = .ok (.iconst 1, 1) := by decide +kernel
theorem dL_law_847 : decode cL_law 847 = .ok (.iadd, 1) := by decide +kernel
theorem dL_law_848 : decode cL_law 848 = .ok (.iaload, 1) := by decide +kernel
theorem dL_law_849 : decode cL_law 849 = .ok (.aload_n 0, 1) := by decide +kernel
theorem dL_law_850 : decode cL_law 850 = .ok (.iload_n 3, 1) := by decide +kernel
theorem dL_law_851 : decode cL_law 851 = .ok (.iconst 2, 1) := by decide +kernel
theorem dL_law_852 : decode cL_law 852 = .ok (.iadd, 1) := by decide +kernel
theorem dL_law_853 : decode cL_law 853 = .ok (.iaload, 1) := by decide +kernel
theorem dL_law_854 : decode cL_law 854 = .ok (.aload_n 0, 1) := by decide +kernel
theorem dL_law_855 : decode cL_law 855 = .ok (.iload_n 3, 1) := by decide +kernel
theorem dL_law_856 : decode cL_law 856 = .ok (.iconst 3, 1) := by decide +kernel
theorem dL_law_857 : decode cL_law 857 = .ok (.iadd, 1) := by decide +kernel
theorem dL_law_858 : decode cL_law 858 = .ok (.iaload, 1) := by decide +kernel
theorem dL_law_859 : decode cL_law 859 = .ok (.invokevirtual 96, 3) := by decide +kernel
theorem dL_law_862 : decode cL_law 862 = .ok (.if_icmp .eq 302, 3) := by decide +kernel
theorem dL_law_865 : decode cL_law 865 = .ok (.iconst 0, 1) := by decide +kernel
theorem dL_law_866 : decode cL_law 866 = .ok (.ireturn, 1) := by decide +kernel
theorem lw_u_solve {S : TSt} {A : ASt} {t u no : Int} : UQ (AskR S A t u no (SlvR S A)) := uq_ask (fun _ _ _ _ _ _ _ h k => u_slv h k)
theorem lw_q_solve {S : TSt} {A : ASt} {t u no : Int} : IQ (AskR S A t u no (SlvR S A)) := iq_ask (fun _ _ _ _ _ h => i_slv h)
theorem lw_k_solve {g : GX} {nm : String} {sb Ls b i : Nat} {xs : Nat → Int32} {V : AH} {sz : Nat} {Z : Nat → Int} {P L : Nat → Nat} {zs : Nat → Int} {S : TSt} {A : ASt} (hL : Ls ≤ 4096) (hi : i + 8 ≤ Ls) (h : LI g b V sz Z P L zs S A) (nx : Lnx g nm sb Ls xs b i) : AW g (mLw nm sb Ls xs) 13 824 (lwv sb b i) [] V sz (LwQ b L) := by
  have hb := h.2.1.1.1
  obtain ⟨rk, kn, hm⟩ := h.2.2.1
  refine aw_aload_n dL_law_824 (by rfl) (Or.inr ⟨_, rfl⟩) ?_
  refine aw_aload_n dL_law_825 (by rfl) (Or.inr ⟨_, rfl⟩) ?_
  refine aw_iload_n dL_law_826 (by rfl) ?_
  refine aw_iconstZ dL_law_827 ?_
  refine aw_iaddZ dL_law_828 ?_
  refine aw_sld (i + 1) dL_law_829 (by omega) (by omega) (by omega) ?_
  refine aw_aload_n dL_law_830 (by rfl) (Or.inr ⟨_, rfl⟩) ?_
  refine aw_iload_n dL_law_831 (by rfl) ?_
  refine aw_iconstZ dL_law_832 ?_
  refine aw_iaddZ dL_law_833 ?_
  refine aw_sld (i + 2) dL_law_834 (by omega) (by omega) (by omega) ?_
  refine aw_aload_n dL_law_835 (by rfl) (Or.inr ⟨_, rfl⟩) ?_
  refine aw_iload_n dL_law_836 (by rfl) ?_
  refine aw_iconstZ dL_law_837 ?_
  refine aw_iaddZ dL_law_838 ?_
  refine aw_sld (i + 3) dL_law_839 (by omega) (by omega) (by omega) ?_
  refine aw_callv vL_93 dL_law_840 hb (c_solve 4 h.1 h.2.1 (xz_R xs (i + 1)) (xz_R xs (i + 2)) (xz_R xs (i + 3))) (by rfl) (by rfl) (by omega) (Nat.le_of_ble_eq_true rfl) ?_
  rintro r1 V1 sz1 mc1 ms1 ⟨Z1, P1, L1, ⟨S1, A1, hC1, hR1⟩, hW1⟩ -
  have hX1 := lw_rx h hW1
  obtain ⟨rk1, kn1, hm1⟩ := hX1.1
  obtain ⟨x1, rfl⟩ := lw_q_solve _ _ _ hR1
  refine aw_aload_n dL_law_843 (by rfl) (Or.inr ⟨_, rfl⟩) ?_
  refine aw_aload_n dL_law_844 (by rfl) (Or.inr ⟨_, rfl⟩) ?_
  refine aw_iload_n dL_law_845 (by rfl) ?_
  refine aw_iconstZ dL_law_846 ?_
  refine aw_iaddZ dL_law_847 ?_
  refine aw_sld (i + 1) dL_law_848 (by omega) (by omega) (by omega) ?_
  refine aw_aload_n dL_law_849 (by rfl) (Or.inr ⟨_, rfl⟩) ?_
  refine aw_iload_n dL_law_850 (by rfl) ?_
  refine aw_iconstZ dL_law_851 ?_
  refine aw_iaddZ dL_law_852 ?_
  refine aw_sld (i + 2) dL_law_853 (by omega) (by omega) (by omega) ?_
  refine aw_aload_n dL_law_854 (by rfl) (Or.inr ⟨_, rfl⟩) ?_
  refine aw_iload_n dL_law_855 (by rfl) ?_
  refine aw_iconstZ dL_law_856 ?_
  refine aw_iaddZ dL_law_857 ?_
  refine aw_sld (i + 3) dL_law_858 (by omega) (by omega) (by omega) ?_
  refine aw_callv vL_96 dL_law_859 hm1 (m_solve g 3 hX1 (xz_R xs (i + 1)) (xz_R xs (i + 2)) (xz_R xs (i + 3))) (by rfl) (by rfl) (by omega) (Nat.le_of_ble_eq_true rfl) ?_
  rintro r2 V2 sz2 mc2 ms2 ⟨rfl, rfl, rfl, hV2, z2, S2, A2, hX2, hR2⟩ -
  obtain ⟨x2, e1, rfl, hL2⟩ := lw_two lw_u_solve lw_q_solve hW1 hC1 hR1 hV2 hX2 hR2
  cases e1
  refine aw_icmp_eq (tgt := 1164) dL_law_862 (by decide) (fun _ => ?_) (fun q => absurd rfl q)
  exact lw_cls nx hL2 hW1.2.2.2.2.1 hW1.2.2.2.2.2 (fun _ _ _ _ _ q => q)
theorem dL_law_867 : decode cL_law 867 = .ok (.aload_n 1, 1) := by decide +kernel
theorem dL_law_868 : decode cL_law 868 = .ok (.aload_n 0, 1) := by decide +kernel
theorem dL_law_869 : decode cL_law 869 = .ok (.iload_n 3, 1) := by decide +kernel
theorem dL_law_870 : decode cL_law 870 = .ok (.iconst 1, 1) := by decide +kernel
theorem dL_law_871 : decode cL_law 871 = .ok (.iadd, 1) := by decide +kernel
theorem dL_law_872 : decode cL_law 872 = .ok (.iaload, 1) := by decide +kernel
theorem dL_law_873 : decode cL_law 873 = .ok (.aload_n 0, 1) := by decide +kernel
theorem dL_law_874 : decode cL_law 874 = .ok (.iload_n 3, 1) := by decide +kernel
theorem dL_law_875 : decode cL_law 875 = .ok (.iconst 2, 1) := by decide +kernel
theorem dL_law_876 : decode cL_law 876 = .ok (.iadd, 1) := by decide +kernel
theorem dL_law_877 : decode cL_law 877 = .ok (.iaload, 1) := by decide +kernel
theorem dL_law_878 : decode cL_law 878 = .ok (.aload_n 0, 1) := by decide +kernel
theorem dL_law_879 : decode cL_law 879 = .ok (.iload_n 3, 1) := by decide +kernel
theorem dL_law_880 : decode cL_law 880 = .ok (.iconst 3, 1) := by decide +kernel
theorem dL_law_881 : decode cL_law 881 = .ok (.iadd, 1) := by decide +kernel
theorem dL_law_882 : decode cL_law 882 = .ok (.iaload, 1) := by decide +kernel
theorem dL_law_883 : decode cL_law 883 = .ok (.invokevirtual 97, 3) := by decide +kernel
theorem dL_law_886 : decode cL_law 886 = .ok (.aload_n 2, 1) := by decide +kernel
theorem dL_law_887 : decode cL_law 887 = .ok (.aload_n 0, 1) := by decide +kernel
theorem dL_law_888 : decode cL_law 888 = .ok (.iload_n 3, 1) := by decide +kernel
theorem dL_law_889 : decode cL_law 889 = .ok (.iconst 1, 1) := by decide +kernel
theorem dL_law_890 : decode cL_law 890 = .ok (.iadd, 1) := by decide +kernel
theorem dL_law_891 : decode cL_law 891 = .ok (.iaload, 1) := by decide +kernel
theorem dL_law_892 : decode cL_law 892 = .ok (.aload_n 0, 1) := by decide +kernel
theorem dL_law_893 : decode cL_law 893 = .ok (.iload_n 3, 1) := by decide +kernel
theorem dL_law_894 : decode cL_law 894 = .ok (.iconst 2, 1) := by decide +kernel
theorem dL_law_895 : decode cL_law 895 = .ok (.iadd, 1) := by decide +kernel
theorem dL_law_896 : decode cL_law 896 = .ok (.iaload, 1) := by decide +kernel
theorem dL_law_897 : decode cL_law 897 = .ok (.aload_n 0, 1) := by decide +kernel
theorem dL_law_898 : decode cL_law 898 = .ok (.iload_n 3, 1) := by decide +kernel
theorem dL_law_899 : decode cL_law 899 = .ok (.iconst 3, 1) := by decide +kernel
theorem dL_law_900 : decode cL_law 900 = .ok (.iadd, 1) := by decide +kernel
theorem dL_law_901 : decode cL_law 901 = .ok (.iaload, 1) := by decide +kernel
theorem dL_law_902 : decode cL_law 902 = .ok (.invokevirtual 100, 3) := by decide +kernel
theorem dL_law_905 : decode cL_law 905 = .ok (.if_icmp .eq 259, 3) := by decide +kernel
theorem dL_law_908 : decode cL_law 908 = .ok (.iconst 0, 1) := by decide +kernel
theorem dL_law_909 : decode cL_law 909 = .ok (.ireturn, 1) := by decide +kernel
theorem lw_u_reach {S : TSt} {A : ASt} {t u no : Int} : UQ (AskR S A t u no (RchR S A)) := uq_ask (fun _ _ _ _ _ _ _ h k => u_rch h k)
theorem lw_q_reach {S : TSt} {A : ASt} {t u no : Int} : IQ (AskR S A t u no (RchR S A)) := iq_ask (fun _ _ _ _ _ h => i_rch h)
theorem lw_k_reach {g : GX} {nm : String} {sb Ls b i : Nat} {xs : Nat → Int32} {V : AH} {sz : Nat} {Z : Nat → Int} {P L : Nat → Nat} {zs : Nat → Int} {S : TSt} {A : ASt} (hL : Ls ≤ 4096) (hi : i + 8 ≤ Ls) (h : LI g b V sz Z P L zs S A) (nx : Lnx g nm sb Ls xs b i) : AW g (mLw nm sb Ls xs) 13 867 (lwv sb b i) [] V sz (LwQ b L) := by
  have hb := h.2.1.1.1
  obtain ⟨rk, kn, hm⟩ := h.2.2.1
  refine aw_aload_n dL_law_867 (by rfl) (Or.inr ⟨_, rfl⟩) ?_
  refine aw_aload_n dL_law_868 (by rfl) (Or.inr ⟨_, rfl⟩) ?_
  refine aw_iload_n dL_law_869 (by rfl) ?_
  refine aw_iconstZ dL_law_870 ?_
  refine aw_iaddZ dL_law_871 ?_
  refine aw_sld (i + 1) dL_law_872 (by omega) (by omega) (by omega) ?_
  refine aw_aload_n dL_law_873 (by rfl) (Or.inr ⟨_, rfl⟩) ?_
  refine aw_iload_n dL_law_874 (by rfl) ?_
  refine aw_iconstZ dL_law_875 ?_
  refine aw_iaddZ dL_law_876 ?_
  refine aw_sld (i + 2) dL_law_877 (by omega) (by omega) (by omega) ?_
  refine aw_aload_n dL_law_878 (by rfl) (Or.inr ⟨_, rfl⟩) ?_
  refine aw_iload_n dL_law_879 (by rfl) ?_
  refine aw_iconstZ dL_law_880 ?_
  refine aw_iaddZ dL_law_881 ?_
  refine aw_sld (i + 3) dL_law_882 (by omega) (by omega) (by omega) ?_
  refine aw_callv vL_97 dL_law_883 hb (c_reach 4 h.1 h.2.1 (xz_R xs (i + 1)) (xz_R xs (i + 2)) (xz_R xs (i + 3))) (by rfl) (by rfl) (by omega) (Nat.le_of_ble_eq_true rfl) ?_
  rintro r1 V1 sz1 mc1 ms1 ⟨Z1, P1, L1, ⟨S1, A1, hC1, hR1⟩, hW1⟩ -
  have hX1 := lw_rx h hW1
  obtain ⟨rk1, kn1, hm1⟩ := hX1.1
  obtain ⟨x1, rfl⟩ := lw_q_reach _ _ _ hR1
  refine aw_aload_n dL_law_886 (by rfl) (Or.inr ⟨_, rfl⟩) ?_
  refine aw_aload_n dL_law_887 (by rfl) (Or.inr ⟨_, rfl⟩) ?_
  refine aw_iload_n dL_law_888 (by rfl) ?_
  refine aw_iconstZ dL_law_889 ?_
  refine aw_iaddZ dL_law_890 ?_
  refine aw_sld (i + 1) dL_law_891 (by omega) (by omega) (by omega) ?_
  refine aw_aload_n dL_law_892 (by rfl) (Or.inr ⟨_, rfl⟩) ?_
  refine aw_iload_n dL_law_893 (by rfl) ?_
  refine aw_iconstZ dL_law_894 ?_
  refine aw_iaddZ dL_law_895 ?_
  refine aw_sld (i + 2) dL_law_896 (by omega) (by omega) (by omega) ?_
  refine aw_aload_n dL_law_897 (by rfl) (Or.inr ⟨_, rfl⟩) ?_
  refine aw_iload_n dL_law_898 (by rfl) ?_
  refine aw_iconstZ dL_law_899 ?_
  refine aw_iaddZ dL_law_900 ?_
  refine aw_sld (i + 3) dL_law_901 (by omega) (by omega) (by omega) ?_
  refine aw_callv vL_100 dL_law_902 hm1 (m_reach g 3 hX1 (xz_R xs (i + 1)) (xz_R xs (i + 2)) (xz_R xs (i + 3))) (by rfl) (by rfl) (by omega) (Nat.le_of_ble_eq_true rfl) ?_
  rintro r2 V2 sz2 mc2 ms2 ⟨rfl, rfl, rfl, hV2, z2, S2, A2, hX2, hR2⟩ -
  obtain ⟨x2, e1, rfl, hL2⟩ := lw_two lw_u_reach lw_q_reach hW1 hC1 hR1 hV2 hX2 hR2
  cases e1
  refine aw_icmp_eq (tgt := 1164) dL_law_905 (by decide) (fun _ => ?_) (fun q => absurd rfl q)
  exact lw_cls nx hL2 hW1.2.2.2.2.1 hW1.2.2.2.2.2 (fun _ _ _ _ _ q => q)
theorem dL_law_910 : decode cL_law 910 = .ok (.aload_n 1, 1) := by decide +kernel
theorem dL_law_911 : decode cL_law 911 = .ok (.aload_n 0, 1) := by decide +kernel
theorem dL_law_912 : decode cL_law 912 = .ok (.iload_n 3, 1) := by decide +kernel
theorem dL_law_913 : decode cL_law 913 = .ok (.iconst 1, 1) := by decide +kernel
theorem dL_law_914 : decode cL_law 914 = .ok (.iadd, 1) := by decide +kernel
theorem dL_law_915 : decode cL_law 915 = .ok (.iaload, 1) := by decide +kernel
theorem dL_law_916 : decode cL_law 916 = .ok (.aload_n 0, 1) := by decide +kernel
theorem dL_law_917 : decode cL_law 917 = .ok (.iload_n 3, 1) := by decide +kernel
theorem dL_law_918 : decode cL_law 918 = .ok (.iconst 2, 1) := by decide +kernel
theorem dL_law_919 : decode cL_law 919 = .ok (.iadd, 1) := by decide +kernel
theorem dL_law_920 : decode cL_law 920 = .ok (.iaload, 1) := by decide +kernel
theorem dL_law_921 : decode cL_law 921 = .ok (.aload_n 0, 1) := by decide +kernel
theorem dL_law_922 : decode cL_law 922 = .ok (.iload_n 3, 1) := by decide +kernel
theorem dL_law_923 : decode cL_law 923 = .ok (.iconst 3, 1) := by decide +kernel
theorem dL_law_924 : decode cL_law 924 = .ok (.iadd, 1) := by decide +kernel
theorem dL_law_925 : decode cL_law 925 = .ok (.iaload, 1) := by decide +kernel
theorem dL_law_926 : decode cL_law 926 = .ok (.invokevirtual 101, 3) := by decide +kernel
theorem dL_law_929 : decode cL_law 929 = .ok (.aload_n 2, 1) := by decide +kernel
theorem dL_law_930 : decode cL_law 930 = .ok (.aload_n 0, 1) := by decide +kernel
theorem dL_law_931 : decode cL_law 931 = .ok (.iload_n 3, 1) := by decide +kernel
theorem dL_law_932 : decode cL_law 932 = .ok (.iconst 1, 1) := by decide +kernel
theorem dL_law_933 : decode cL_law 933 = .ok (.iadd, 1) := by decide +kernel
theorem dL_law_934 : decode cL_law 934 = .ok (.iaload, 1) := by decide +kernel
theorem dL_law_935 : decode cL_law 935 = .ok (.aload_n 0, 1) := by decide +kernel
theorem dL_law_936 : decode cL_law 936 = .ok (.iload_n 3, 1) := by decide +kernel
theorem dL_law_937 : decode cL_law 937 = .ok (.iconst 2, 1) := by decide +kernel
theorem dL_law_938 : decode cL_law 938 = .ok (.iadd, 1) := by decide +kernel
theorem dL_law_939 : decode cL_law 939 = .ok (.iaload, 1) := by decide +kernel
theorem dL_law_940 : decode cL_law 940 = .ok (.aload_n 0, 1) := by decide +kernel
theorem dL_law_941 : decode cL_law 941 = .ok (.iload_n 3, 1) := by decide +kernel
theorem dL_law_942 : decode cL_law 942 = .ok (.iconst 3, 1) := by decide +kernel
theorem dL_law_943 : decode cL_law 943 = .ok (.iadd, 1) := by decide +kernel
theorem dL_law_944 : decode cL_law 944 = .ok (.iaload, 1) := by decide +kernel
theorem dL_law_945 : decode cL_law 945 = .ok (.invokevirtual 104, 3) := by decide +kernel
theorem dL_law_948 : decode cL_law 948 = .ok (.if_icmp .eq 216, 3) := by decide +kernel
theorem dL_law_951 : decode cL_law 951 = .ok (.iconst 0, 1) := by decide +kernel
theorem dL_law_952 : decode cL_law 952 = .ok (.ireturn, 1) := by decide +kernel
theorem lw_u_order {S : TSt} {A : ASt} {t u no : Int} : UQ (AskR S A t u no (OrdR S A)) := uq_ask (fun _ _ _ _ _ _ _ h k => u_ord h k)
theorem lw_q_order {S : TSt} {A : ASt} {t u no : Int} : IQ (AskR S A t u no (OrdR S A)) := iq_ask (fun _ _ _ _ _ h => i_ord h)
theorem lw_k_order {g : GX} {nm : String} {sb Ls b i : Nat} {xs : Nat → Int32} {V : AH} {sz : Nat} {Z : Nat → Int} {P L : Nat → Nat} {zs : Nat → Int} {S : TSt} {A : ASt} (hL : Ls ≤ 4096) (hi : i + 8 ≤ Ls) (h : LI g b V sz Z P L zs S A) (nx : Lnx g nm sb Ls xs b i) : AW g (mLw nm sb Ls xs) 13 910 (lwv sb b i) [] V sz (LwQ b L) := by
  have hb := h.2.1.1.1
  obtain ⟨rk, kn, hm⟩ := h.2.2.1
  refine aw_aload_n dL_law_910 (by rfl) (Or.inr ⟨_, rfl⟩) ?_
  refine aw_aload_n dL_law_911 (by rfl) (Or.inr ⟨_, rfl⟩) ?_
  refine aw_iload_n dL_law_912 (by rfl) ?_
  refine aw_iconstZ dL_law_913 ?_
  refine aw_iaddZ dL_law_914 ?_
  refine aw_sld (i + 1) dL_law_915 (by omega) (by omega) (by omega) ?_
  refine aw_aload_n dL_law_916 (by rfl) (Or.inr ⟨_, rfl⟩) ?_
  refine aw_iload_n dL_law_917 (by rfl) ?_
  refine aw_iconstZ dL_law_918 ?_
  refine aw_iaddZ dL_law_919 ?_
  refine aw_sld (i + 2) dL_law_920 (by omega) (by omega) (by omega) ?_
  refine aw_aload_n dL_law_921 (by rfl) (Or.inr ⟨_, rfl⟩) ?_
  refine aw_iload_n dL_law_922 (by rfl) ?_
  refine aw_iconstZ dL_law_923 ?_
  refine aw_iaddZ dL_law_924 ?_
  refine aw_sld (i + 3) dL_law_925 (by omega) (by omega) (by omega) ?_
  refine aw_callv vL_101 dL_law_926 hb (c_order 4 h.1 h.2.1 (xz_R xs (i + 1)) (xz_R xs (i + 2)) (xz_R xs (i + 3))) (by rfl) (by rfl) (by omega) (Nat.le_of_ble_eq_true rfl) ?_
  rintro r1 V1 sz1 mc1 ms1 ⟨Z1, P1, L1, ⟨S1, A1, hC1, hR1⟩, hW1⟩ -
  have hX1 := lw_rx h hW1
  obtain ⟨rk1, kn1, hm1⟩ := hX1.1
  obtain ⟨x1, rfl⟩ := lw_q_order _ _ _ hR1
  refine aw_aload_n dL_law_929 (by rfl) (Or.inr ⟨_, rfl⟩) ?_
  refine aw_aload_n dL_law_930 (by rfl) (Or.inr ⟨_, rfl⟩) ?_
  refine aw_iload_n dL_law_931 (by rfl) ?_
  refine aw_iconstZ dL_law_932 ?_
  refine aw_iaddZ dL_law_933 ?_
  refine aw_sld (i + 1) dL_law_934 (by omega) (by omega) (by omega) ?_
  refine aw_aload_n dL_law_935 (by rfl) (Or.inr ⟨_, rfl⟩) ?_
  refine aw_iload_n dL_law_936 (by rfl) ?_
  refine aw_iconstZ dL_law_937 ?_
  refine aw_iaddZ dL_law_938 ?_
  refine aw_sld (i + 2) dL_law_939 (by omega) (by omega) (by omega) ?_
  refine aw_aload_n dL_law_940 (by rfl) (Or.inr ⟨_, rfl⟩) ?_
  refine aw_iload_n dL_law_941 (by rfl) ?_
  refine aw_iconstZ dL_law_942 ?_
  refine aw_iaddZ dL_law_943 ?_
  refine aw_sld (i + 3) dL_law_944 (by omega) (by omega) (by omega) ?_
  refine aw_callv vL_104 dL_law_945 hm1 (m_order g 3 hX1 (xz_R xs (i + 1)) (xz_R xs (i + 2)) (xz_R xs (i + 3))) (by rfl) (by rfl) (by omega) (Nat.le_of_ble_eq_true rfl) ?_
  rintro r2 V2 sz2 mc2 ms2 ⟨rfl, rfl, rfl, hV2, z2, S2, A2, hX2, hR2⟩ -
  obtain ⟨x2, e1, rfl, hL2⟩ := lw_two lw_u_order lw_q_order hW1 hC1 hR1 hV2 hX2 hR2
  cases e1
  refine aw_icmp_eq (tgt := 1164) dL_law_948 (by decide) (fun _ => ?_) (fun q => absurd rfl q)
  exact lw_cls nx hL2 hW1.2.2.2.2.1 hW1.2.2.2.2.2 (fun _ _ _ _ _ q => q)

/-! ===== the reference: comesTo, turn, add, times ===== -/
def cmN (NN : Nat → Int) (to r c : Nat) (F : Nat → Int) (n : Nat) : Nat → Int := fun k => if 25 * to ≤ k ∧ k < 25 * to + n then (if (k - 25 * to) / 5 < r ∧ (k - 25 * to) % 5 < c then F (k - 25 * to) else 0) else NN k
theorem cmN.up {NN F : Nat → Int} {to r c i j : Nat} (hj : j < 5) {v : Int} (hv : v = if i < r ∧ j < c then F (5 * i + j) else 0) : upF (cmN NN to r c F (5 * i + j)) (25 * to + 5 * i + j) v = cmN NN to r c F (5 * i + j + 1) := by
  funext k
  unfold upF cmN
  by_cases e : k = 25 * to + 5 * i + j
  · rw [if_pos e, if_pos (show 25 * to ≤ k ∧ k < 25 * to + (5 * i + j + 1) by omega), show k - 25 * to = 5 * i + j by omega, show (5 * i + j) / 5 = i by omega, show (5 * i + j) % 5 = j by omega]
    exact hv
  · rw [if_neg e]
    by_cases e2 : 25 * to ≤ k ∧ k < 25 * to + (5 * i + j)
    · rw [if_pos e2, if_pos (show 25 * to ≤ k ∧ k < 25 * to + (5 * i + j + 1) by omega)]
    · rw [if_neg e2, if_neg (by omega)]
theorem cmN.nil {NN F : Nat → Int} {to r c : Nat} : cmN NN to r c F 0 = NN := by funext k; unfold cmN; rw [if_neg (by omega)]
def mkF (F : Nat → Int) (vl : Mat) (n : Nat) : Nat → Int := fun k => if k < n then vl (k / 5) (k % 5) else F k
theorem mkF.up {F : Nat → Int} {vl : Mat} {i j : Nat} (hj : j < 5) : upF (mkF F vl (5 * i + j)) (5 * i + j) (vl i j) = mkF F vl (5 * i + j + 1) := by
  funext k
  unfold upF mkF
  by_cases e : k = 5 * i + j
  · rw [if_pos e, if_pos (by omega), e, show (5 * i + j) / 5 = i by omega, show (5 * i + j) % 5 = j by omega]
  · rw [if_neg e]
    by_cases e2 : k < 5 * i + j
    · rw [if_pos e2, if_pos (by omega)]
    · rw [if_neg e2, if_neg (by omega)]
theorem mkF.nil {F : Nat → Int} {vl : Mat} : mkF F vl 0 = F := by funext k; unfold mkF; rw [if_neg (by omega)]
theorem mkF.at {F : Nat → Int} {vl : Mat} {i j : Nat} (hi : i < 5) (hj : j < 5) : mkF F vl 25 (5 * i + j) = vl i j := by
  unfold mkF
  rw [if_pos (by omega), show (5 * i + j) / 5 = i by omega, show (5 * i + j) % 5 = j by omega]
abbrev mX6_comesTo : MI := (yX6_comesTo, cX6_comesTo, 6, (some FieldType.boolean), noX)
theorem dX6_comesTo_0 : decode cX6_comesTo 0 = .ok (.iload_n 1, 1) := by decide +kernel
theorem dX6_comesTo_1 : decode cX6_comesTo 1 = .ok (.ifCond .lt 9, 3) := by decide +kernel
theorem dX6_comesTo_4 : decode cX6_comesTo 4 = .ok (.iload_n 1, 1) := by decide +kernel
theorem dX6_comesTo_5 : decode cX6_comesTo 5 = .ok (.bipush 11, 2) := by decide +kernel
theorem dX6_comesTo_7 : decode cX6_comesTo 7 = .ok (.if_icmp .le 5, 3) := by decide +kernel
theorem dX6_comesTo_10 : decode cX6_comesTo 10 = .ok (.iconst 0, 1) := by decide +kernel
theorem dX6_comesTo_11 : decode cX6_comesTo 11 = .ok (.ireturn, 1) := by decide +kernel
theorem dX6_comesTo_12 : decode cX6_comesTo 12 = .ok (.iconst 0, 1) := by decide +kernel
theorem dX6_comesTo_13 : decode cX6_comesTo 13 = .ok (.istore 4, 2) := by decide +kernel
theorem dX6_comesTo_15 : decode cX6_comesTo 15 = .ok (.iload 4, 2) := by decide +kernel
theorem dX6_comesTo_17 : decode cX6_comesTo 17 = .ok (.iload_n 2, 1) := by decide +kernel
theorem dX6_comesTo_18 : decode cX6_comesTo 18 = .ok (.if_icmp .ge 44, 3) := by decide +kernel
theorem dX6_comesTo_21 : decode cX6_comesTo 21 = .ok (.iconst 0, 1) := by decide +kernel
theorem dX6_comesTo_22 : decode cX6_comesTo 22 = .ok (.istore 5, 2) := by decide +kernel
theorem dX6_comesTo_24 : decode cX6_comesTo 24 = .ok (.iload 5, 2) := by decide +kernel
theorem dX6_comesTo_26 : decode cX6_comesTo 26 = .ok (.iload_n 3, 1) := by decide +kernel
theorem dX6_comesTo_27 : decode cX6_comesTo 27 = .ok (.if_icmp .ge 29, 3) := by decide +kernel
theorem dX6_comesTo_30 : decode cX6_comesTo 30 = .ok (.aload_n 0, 1) := by decide +kernel
theorem dX6_comesTo_31 : decode cX6_comesTo 31 = .ok (.getfield 62, 3) := by decide +kernel
theorem dX6_comesTo_34 : decode cX6_comesTo 34 = .ok (.iconst 5, 1) := by decide +kernel
theorem dX6_comesTo_35 : decode cX6_comesTo 35 = .ok (.iload 4, 2) := by decide +kernel
theorem dX6_comesTo_37 : decode cX6_comesTo 37 = .ok (.imul, 1) := by decide +kernel
theorem dX6_comesTo_38 : decode cX6_comesTo 38 = .ok (.iload 5, 2) := by decide +kernel
theorem dX6_comesTo_40 : decode cX6_comesTo 40 = .ok (.iadd, 1) := by decide +kernel
theorem dX6_comesTo_41 : decode cX6_comesTo 41 = .ok (.iaload, 1) := by decide +kernel
theorem dX6_comesTo_42 : decode cX6_comesTo 42 = .ok (.invokestatic 145, 3) := by decide +kernel
theorem dX6_comesTo_45 : decode cX6_comesTo 45 = .ok (.ifCond .ne 5, 3) := by decide +kernel
theorem dX6_comesTo_48 : decode cX6_comesTo 48 = .ok (.iconst 0, 1) := by decide +kernel
theorem dX6_comesTo_49 : decode cX6_comesTo 49 = .ok (.ireturn, 1) := by decide +kernel
theorem dX6_comesTo_50 : decode cX6_comesTo 50 = .ok (.iinc 5 1, 3) := by decide +kernel
theorem dX6_comesTo_53 : decode cX6_comesTo 53 = .ok (.goto (-29), 3) := by decide +kernel
theorem dX6_comesTo_56 : decode cX6_comesTo 56 = .ok (.iinc 4 1, 3) := by decide +kernel
theorem dX6_comesTo_59 : decode cX6_comesTo 59 = .ok (.goto (-44), 3) := by decide +kernel
theorem dX6_comesTo_62 : decode cX6_comesTo 62 = .ok (.aload_n 0, 1) := by decide +kernel
theorem dX6_comesTo_63 : decode cX6_comesTo 63 = .ok (.iload_n 1, 1) := by decide +kernel
theorem dX6_comesTo_64 : decode cX6_comesTo 64 = .ok (.iload_n 2, 1) := by decide +kernel
theorem dX6_comesTo_65 : decode cX6_comesTo 65 = .ok (.iload_n 3, 1) := by decide +kernel
theorem dX6_comesTo_66 : decode cX6_comesTo 66 = .ok (.iconst 1, 1) := by decide +kernel
theorem dX6_comesTo_67 : decode cX6_comesTo 67 = .ok (.invokevirtual 134, 3) := by decide +kernel
theorem dX6_comesTo_70 : decode cX6_comesTo 70 = .ok (.iconst 0, 1) := by decide +kernel
theorem dX6_comesTo_71 : decode cX6_comesTo 71 = .ok (.istore 4, 2) := by decide +kernel
theorem dX6_comesTo_73 : decode cX6_comesTo 73 = .ok (.iload 4, 2) := by decide +kernel
theorem dX6_comesTo_75 : decode cX6_comesTo 75 = .ok (.iconst 5, 1) := by decide +kernel
theorem dX6_comesTo_76 : decode cX6_comesTo 76 = .ok (.if_icmp .ge 69, 3) := by decide +kernel
theorem dX6_comesTo_79 : decode cX6_comesTo 79 = .ok (.iconst 0, 1) := by decide +kernel
theorem dX6_comesTo_80 : decode cX6_comesTo 80 = .ok (.istore 5, 2) := by decide +kernel
theorem dX6_comesTo_82 : decode cX6_comesTo 82 = .ok (.iload 5, 2) := by decide +kernel
theorem dX6_comesTo_84 : decode cX6_comesTo 84 = .ok (.iconst 5, 1) := by decide +kernel
theorem dX6_comesTo_85 : decode cX6_comesTo 85 = .ok (.if_icmp .ge 54, 3) := by decide +kernel
theorem dX6_comesTo_88 : decode cX6_comesTo 88 = .ok (.aload_n 0, 1) := by decide +kernel
theorem dX6_comesTo_89 : decode cX6_comesTo 89 = .ok (.getfield 43, 3) := by decide +kernel
theorem dX6_comesTo_92 : decode cX6_comesTo 92 = .ok (.bipush 25, 2) := by decide +kernel
theorem dX6_comesTo_94 : decode cX6_comesTo 94 = .ok (.iload_n 1, 1) := by decide +kernel
theorem dX6_comesTo_95 : decode cX6_comesTo 95 = .ok (.imul, 1) := by decide +kernel
theorem dX6_comesTo_96 : decode cX6_comesTo 96 = .ok (.iconst 5, 1) := by decide +kernel
theorem dX6_comesTo_97 : decode cX6_comesTo 97 = .ok (.iload 4, 2) := by decide +kernel
theorem dX6_comesTo_99 : decode cX6_comesTo 99 = .ok (.imul, 1) := by decide +kernel
theorem dX6_comesTo_100 : decode cX6_comesTo 100 = .ok (.iadd, 1) := by decide +kernel
theorem dX6_comesTo_101 : decode cX6_comesTo 101 = .ok (.iload 5, 2) := by decide +kernel
theorem dX6_comesTo_103 : decode cX6_comesTo 103 = .ok (.iadd, 1) := by decide +kernel
theorem dX6_comesTo_104 : decode cX6_comesTo 104 = .ok (.iload 4, 2) := by decide +kernel
theorem dX6_comesTo_106 : decode cX6_comesTo 106 = .ok (.iload_n 2, 1) := by decide +kernel
theorem dX6_comesTo_107 : decode cX6_comesTo 107 = .ok (.if_icmp .ge 24, 3) := by decide +kernel
theorem dX6_comesTo_110 : decode cX6_comesTo 110 = .ok (.iload 5, 2) := by decide +kernel
theorem dX6_comesTo_112 : decode cX6_comesTo 112 = .ok (.iload_n 3, 1) := by decide +kernel
theorem dX6_comesTo_113 : decode cX6_comesTo 113 = .ok (.if_icmp .ge 18, 3) := by decide +kernel
theorem dX6_comesTo_116 : decode cX6_comesTo 116 = .ok (.aload_n 0, 1) := by decide +kernel
theorem dX6_comesTo_117 : decode cX6_comesTo 117 = .ok (.getfield 62, 3) := by decide +kernel
theorem dX6_comesTo_120 : decode cX6_comesTo 120 = .ok (.iconst 5, 1) := by decide +kernel
theorem dX6_comesTo_121 : decode cX6_comesTo 121 = .ok (.iload 4, 2) := by decide +kernel
theorem dX6_comesTo_123 : decode cX6_comesTo 123 = .ok (.imul, 1) := by decide +kernel
theorem dX6_comesTo_124 : decode cX6_comesTo 124 = .ok (.iload 5, 2) := by decide +kernel
theorem dX6_comesTo_126 : decode cX6_comesTo 126 = .ok (.iadd, 1) := by decide +kernel
theorem dX6_comesTo_127 : decode cX6_comesTo 127 = .ok (.iaload, 1) := by decide +kernel
theorem dX6_comesTo_128 : decode cX6_comesTo 128 = .ok (.goto 4, 3) := by decide +kernel
theorem dX6_comesTo_131 : decode cX6_comesTo 131 = .ok (.iconst 0, 1) := by decide +kernel
theorem dX6_comesTo_132 : decode cX6_comesTo 132 = .ok (.iastore, 1) := by decide +kernel
theorem dX6_comesTo_133 : decode cX6_comesTo 133 = .ok (.iinc 5 1, 3) := by decide +kernel
theorem dX6_comesTo_136 : decode cX6_comesTo 136 = .ok (.goto (-54), 3) := by decide +kernel
theorem dX6_comesTo_139 : decode cX6_comesTo 139 = .ok (.iinc 4 1, 3) := by decide +kernel
theorem dX6_comesTo_142 : decode cX6_comesTo 142 = .ok (.goto (-69), 3) := by decide +kernel
theorem dX6_comesTo_145 : decode cX6_comesTo 145 = .ok (.iconst 1, 1) := by decide +kernel
theorem dX6_comesTo_146 : decode cX6_comesTo 146 = .ok (.ireturn, 1) := by decide +kernel
theorem cwi_loop (d : Nat) {g : GX} {V0 : AH} {mo sz to r c i : Nat} {rk kn ar ac : Int} {NN F : Nat → Int} {Q : AQ} (hto : to < 12) (hr : r ≤ 5) (hc : c ≤ 5) (h15 : V0 (mo + 15) = some (aIz g 25 F)) (hi : i < 5) (hKK : ∀ {V : AH}, V mo = some (moO mo rk kn ar ac) → V (mo + 11) = some (aIz g 300 (cmN NN to r c F (5 * i + 5))) → (∀ a, a ≠ mo + 11 → V a = V0 a) → AW g mX6_comesTo d 139 [(5, .int (iZ (5 : Nat))), (4, .int (iZ i)), (0, .ref mo), (1, .int (iZ to)), (2, .int (iZ r)), (3, .int (iZ c))] [] V sz Q) : ∀ (y j : Nat), j + y = 5 → ∀ {V : AH}, V mo = some (moO mo rk kn ar ac) → V (mo + 11) = some (aIz g 300 (cmN NN to r c F (5 * i + j))) → (∀ a, a ≠ mo + 11 → V a = V0 a) → AW g mX6_comesTo d 82 [(5, .int (iZ j)), (4, .int (iZ i)), (0, .ref mo), (1, .int (iZ to)), (2, .int (iZ r)), (3, .int (iZ c))] [] V sz Q
  | 0, j, hy, V, hmo, hN, hV => by
    obtain rfl : j = 5 := by omega
    refine aw_iload dX6_comesTo_82 (by rfl) ?_
    refine aw_iconstZ dX6_comesTo_84 ?_
    refine aw_icmp_geZ (tgt := 139) dX6_comesTo_85 (by decide) (by omega) (by omega) (fun hc_85 => ?_) (fun hc_85 => ?_)
    · exact hKK hmo hN hV
    · exact absurd hc_85 (by omega)
  | y + 1, j, hy, V, hmo, hN, hV => by
    have IH := fun j hj => @cwi_loop d g V0 mo sz to r c i rk kn ar ac NN F Q hto hr hc h15 hi hKK y j hj
    have hj5 : j < 5 := by omega
    refine aw_iload dX6_comesTo_82 (by rfl) ?_
    refine aw_iconstZ dX6_comesTo_84 ?_
    refine aw_icmp_geZ (tgt := 139) dX6_comesTo_85 (by decide) (by omega) (by omega) (fun hc_85 => ?_) (fun hc_85 => ?_)
    · exact absurd hc_85 (by omega)
    · refine aw_aload_n dX6_comesTo_88 (by rfl) (Or.inr ⟨_, rfl⟩) ?_
      refine aw_get fX6_43 dX6_comesTo_89 hmo (by rfl) ?_
      refine aw_bipushZ dX6_comesTo_92 (by decide) ?_
      refine aw_iload_n dX6_comesTo_94 (by rfl) ?_
      refine aw_imulZ dX6_comesTo_95 ?_
      refine aw_iconstZ dX6_comesTo_96 ?_
      refine aw_iload dX6_comesTo_97 (by rfl) ?_
      refine aw_imulZ dX6_comesTo_99 ?_
      refine aw_iaddZ dX6_comesTo_100 ?_
      refine aw_iload dX6_comesTo_101 (by rfl) ?_
      refine aw_iaddZ dX6_comesTo_103 ?_
      refine aw_iload dX6_comesTo_104 (by rfl) ?_
      refine aw_iload_n dX6_comesTo_106 (by rfl) ?_
      refine aw_icmp_geZ (tgt := 131) dX6_comesTo_107 (by decide) (by omega) (by omega) (fun hc_107 => ?_) (fun hc_107 => ?_)
      · refine aw_iconstZ dX6_comesTo_131 ?_
        refine aw_iastZ (25 * to + 5 * i + j) dX6_comesTo_132 hN (by omega) (by omega) (by omega) ?_
        rw [cmN.up hj5 (by rw [if_neg (by omega)])]
        refine aw_iincZ dX6_comesTo_133 (by rfl) (by decide) ?_
        refine aw_goto (tgt := 82) dX6_comesTo_136 (by decide) ?_
        rw [show ((j : Int) + 1) = ((j + 1 : Nat) : Int) by omega]
        exact IH (j + 1) (by omega) ((AHu_ne (by omega)).trans hmo) (AHu_self _ _ _) (fun a ha => (AHu_ne ha).trans (hV a ha))
      · refine aw_iload dX6_comesTo_110 (by rfl) ?_
        refine aw_iload_n dX6_comesTo_112 (by rfl) ?_
        refine aw_icmp_geZ (tgt := 131) dX6_comesTo_113 (by decide) (by omega) (by omega) (fun hc_113 => ?_) (fun hc_113 => ?_)
        · refine aw_iconstZ dX6_comesTo_131 ?_
          refine aw_iastZ (25 * to + 5 * i + j) dX6_comesTo_132 hN (by omega) (by omega) (by omega) ?_
          rw [cmN.up hj5 (by rw [if_neg (by omega)])]
          refine aw_iincZ dX6_comesTo_133 (by rfl) (by decide) ?_
          refine aw_goto (tgt := 82) dX6_comesTo_136 (by decide) ?_
          rw [show ((j : Int) + 1) = ((j + 1 : Nat) : Int) by omega]
          exact IH (j + 1) (by omega) ((AHu_ne (by omega)).trans hmo) (AHu_self _ _ _) (fun a ha => (AHu_ne ha).trans (hV a ha))
        · refine aw_aload_n dX6_comesTo_116 (by rfl) (Or.inr ⟨_, rfl⟩) ?_
          refine aw_get fX6_62 dX6_comesTo_117 hmo (by rfl) ?_
          refine aw_iconstZ dX6_comesTo_120 ?_
          refine aw_iload dX6_comesTo_121 (by rfl) ?_
          refine aw_imulZ dX6_comesTo_123 ?_
          refine aw_iload dX6_comesTo_124 (by rfl) ?_
          refine aw_iaddZ dX6_comesTo_126 ?_
          refine aw_ialdZ (5 * i + j) dX6_comesTo_127 ((hV _ (by omega)).trans h15) (by omega) (by omega) (by omega) ?_
          refine aw_goto (tgt := 132) dX6_comesTo_128 (by decide) ?_
          refine aw_iastZ (25 * to + 5 * i + j) dX6_comesTo_132 hN (by omega) (by omega) (by omega) ?_
          rw [cmN.up hj5 (by rw [if_pos ⟨by omega, by omega⟩])]
          refine aw_iincZ dX6_comesTo_133 (by rfl) (by decide) ?_
          refine aw_goto (tgt := 82) dX6_comesTo_136 (by decide) ?_
          rw [show ((j : Int) + 1) = ((j + 1 : Nat) : Int) by omega]
          exact IH (j + 1) (by omega) ((AHu_ne (by omega)).trans hmo) (AHu_self _ _ _) (fun a ha => (AHu_ne ha).trans (hV a ha))
theorem cwo_loop (d : Nat) {g : GX} {V0 : AH} {mo sz to r c : Nat} {rk kn ar ac : Int} {NN F : Nat → Int} (hto : to < 12) (hr : r ≤ 5) (hc : c ≤ 5) (h15 : V0 (mo + 15) = some (aIz g 25 F)) : ∀ (y i : Nat), i + y = 5 → ∀ {V : AH}, V mo = some (moO mo rk kn ar ac) → V (mo + 11) = some (aIz g 300 (cmN NN to r c F (5 * i))) → (∀ a, a ≠ mo + 11 → V a = V0 a) → AW g mX6_comesTo d 73 [(4, .int (iZ i)), (0, .ref mo), (1, .int (iZ to)), (2, .int (iZ r)), (3, .int (iZ c))] [] V sz (VX V0 sz (fun a => a = mo + 11) (fun q V' => some (.int (iZ 1)) = q ∧ V' (mo + 11) = some (aIz g 300 (cmN NN to r c F 25))))
  | 0, i, hy, V, hmo, hN, hV => by
    obtain rfl : i = 5 := by omega
    refine aw_iload dX6_comesTo_73 (by rfl) ?_
    refine aw_iconstZ dX6_comesTo_75 ?_
    refine aw_icmp_geZ (tgt := 145) dX6_comesTo_76 (by decide) (by omega) (by omega) (fun hc_76 => ?_) (fun hc_76 => ?_)
    · refine aw_iconstZ dX6_comesTo_145 ?_
      refine aw_iret dX6_comesTo_146 rfl (by rfl) ?_
      exact ⟨rfl, rfl, rfl, fun a ha => hV a ha, rfl, hN⟩
    · exact absurd hc_76 (by omega)
  | y + 1, i, hy, V, hmo, hN, hV => by
    have IH := fun i hi => @cwo_loop d g V0 mo sz to r c rk kn ar ac NN F hto hr hc h15 y i hi
    refine aw_iload dX6_comesTo_73 (by rfl) ?_
    refine aw_iconstZ dX6_comesTo_75 ?_
    refine aw_icmp_geZ (tgt := 145) dX6_comesTo_76 (by decide) (by omega) (by omega) (fun hc_76 => ?_) (fun hc_76 => ?_)
    · exact absurd hc_76 (by omega)
    · refine aw_iconstZ dX6_comesTo_79 ?_
      refine aw_istore dX6_comesTo_80 (by decide) ?_
      refine aw_pk [5, 4, 0, 1, 2, 3] (by rfl) ?_
      refine cwi_loop d (i := i) hto hr hc h15 (by omega) (fun {V1} hmo1 hN1 hV1 => ?_) 5 0 (by omega) hmo hN hV
      refine aw_iincZ dX6_comesTo_139 (by rfl) (by decide) ?_
      refine aw_goto (tgt := 73) dX6_comesTo_142 (by decide) ?_
      rw [show ((i : Int) + 1) = ((i + 1 : Nat) : Int) by omega]
      refine aw_pk [4, 0, 1, 2, 3] (by rfl) ?_
      exact IH (i + 1) (by omega) hmo1 (by rw [show 5 * (i + 1) = 5 * i + 5 by omega]; exact hN1) hV1
theorem cci_loop (d : Nat) {g : GX} {V0 : AH} {mo sz to r c i : Nat} {rk kn ar ac : Int} {TH RR CC NN HH F : Nat → Int} (hmo : V0 mo = some (moO mo rk kn ar ac)) (hT : RTr g mo V0 TH RR CC NN HH) (hto : to < 12) (hr : r ≤ 5) (hc : c ≤ 5) (h15 : V0 (mo + 15) = some (aIz g 25 F)) (hFr : ∀ i j, i < r → j < c → R32 (F (5 * i + j))) (hi : i < r) (hKK : (∀ k, k < c → -1000 ≤ F (5 * i + k) ∧ F (5 * i + k) ≤ 1000) → AW g mX6_comesTo (d + 1) 56 [(5, .int (iZ c)), (4, .int (iZ i)), (0, .ref mo), (1, .int (iZ to)), (2, .int (iZ r)), (3, .int (iZ c))] [] V0 sz (VX V0 sz (ETb mo) (fun q V' => (some (.int (iZ 1)) = q ∧ okV r c (fun i j => F (5 * i + j)) ∧ RTr g mo V' (upF TH to 1) (upF RR to r) (upF CC to c) (cmN NN to r c F 25) (mdH HH to r 5 1)) ∨ (some (.int (iZ 0)) = q ∧ ¬ okV r c (fun i j => F (5 * i + j)) ∧ V' = V0)))) : ∀ (y j : Nat), j + y = c → (∀ k, k < j → -1000 ≤ F (5 * i + k) ∧ F (5 * i + k) ≤ 1000) → AW g mX6_comesTo (d + 1) 24 [(5, .int (iZ j)), (4, .int (iZ i)), (0, .ref mo), (1, .int (iZ to)), (2, .int (iZ r)), (3, .int (iZ c))] [] V0 sz (VX V0 sz (ETb mo) (fun q V' => (some (.int (iZ 1)) = q ∧ okV r c (fun i j => F (5 * i + j)) ∧ RTr g mo V' (upF TH to 1) (upF RR to r) (upF CC to c) (cmN NN to r c F 25) (mdH HH to r 5 1)) ∨ (some (.int (iZ 0)) = q ∧ ¬ okV r c (fun i j => F (5 * i + j)) ∧ V' = V0)))
  | 0, j, hy, hok => by
    obtain rfl : j = c := by omega
    refine aw_iload dX6_comesTo_24 (by rfl) ?_
    refine aw_iload_n dX6_comesTo_26 (by rfl) ?_
    refine aw_icmp_geZ (tgt := 56) dX6_comesTo_27 (by decide) (by omega) (by omega) (fun hc_27 => ?_) (fun hc_27 => ?_)
    · exact hKK (fun k hk => hok k (by omega))
    · exact absurd hc_27 (by omega)
  | y + 1, j, hy, hok => by
    have IH := fun j hj => @cci_loop d g V0 mo sz to r c i rk kn ar ac TH RR CC NN HH F hmo hT hto hr hc h15 hFr hi hKK y j hj
    refine aw_iload dX6_comesTo_24 (by rfl) ?_
    refine aw_iload_n dX6_comesTo_26 (by rfl) ?_
    refine aw_icmp_geZ (tgt := 56) dX6_comesTo_27 (by decide) (by omega) (by omega) (fun hc_27 => ?_) (fun hc_27 => ?_)
    · exact absurd hc_27 (by omega)
    · refine aw_aload_n dX6_comesTo_30 (by rfl) (Or.inr ⟨_, rfl⟩) ?_
      refine aw_get fX6_62 dX6_comesTo_31 hmo (by rfl) ?_
      refine aw_iconstZ dX6_comesTo_34 ?_
      refine aw_iload dX6_comesTo_35 (by rfl) ?_
      refine aw_imulZ dX6_comesTo_37 ?_
      refine aw_iload dX6_comesTo_38 (by rfl) ?_
      refine aw_iaddZ dX6_comesTo_40 ?_
      refine aw_ialdZ (5 * i + j) dX6_comesTo_41 h15 (by omega) (by omega) (by omega) ?_
      refine aw_calls sX6_145 dX6_comesTo_42 (m_isNumber g d (v := F (5 * i + j)) (hFr i j hi (by omega))) (by rfl) (by rfl) (by omega) (Nat.le_of_ble_eq_true rfl) ?_
      rintro _ _ _ _ _ ⟨rfl, rfl, rfl, rfl, rfl⟩ -
      refine q0 ?_
      refine aw_if_neZ (tgt := 50) dX6_comesTo_45 (by decide) (by unfold isN; split <;> omega) (fun hc_45 => ?_) (fun hc_45 => ?_)
      · have hb : -1000 ≤ F (5 * i + j) ∧ F (5 * i + j) ≤ 1000 := Classical.byContradiction (fun z => hc_45 (if_neg z))
        refine aw_iincZ dX6_comesTo_50 (by rfl) (by decide) ?_
        refine aw_goto (tgt := 24) dX6_comesTo_53 (by decide) ?_
        rw [show ((j : Int) + 1) = ((j + 1 : Nat) : Int) by omega]
        exact IH (j + 1) (by omega) (fun k hk => (Nat.lt_or_eq_of_le (Nat.le_of_lt_succ hk)).elim (fun z => hok k z) (fun z => z ▸ hb))
      · have hb : ¬ (-1000 ≤ F (5 * i + j) ∧ F (5 * i + j) ≤ 1000) := fun z => by rw [show isN (F (5 * i + j)) = 1 from if_pos z] at hc_45; omega
        refine aw_iconstZ dX6_comesTo_48 ?_
        refine aw_iret dX6_comesTo_49 rfl (by rfl) ?_
        exact ⟨rfl, rfl, rfl, fun _ _ => rfl, Or.inr ⟨rfl, fun z => hb (z i j hi (by omega)), rfl⟩⟩
theorem cco_loop (d : Nat) {g : GX} {V0 : AH} {mo sz to r c : Nat} {rk kn ar ac : Int} {TH RR CC NN HH F : Nat → Int} (hmo : V0 mo = some (moO mo rk kn ar ac)) (hT : RTr g mo V0 TH RR CC NN HH) (hto : to < 12) (hr : r ≤ 5) (hc : c ≤ 5) (h15 : V0 (mo + 15) = some (aIz g 25 F)) (hFr : ∀ i j, i < r → j < c → R32 (F (5 * i + j))) : ∀ (y i : Nat), i + y = r → (∀ a, a < i → ∀ b, b < c → -1000 ≤ F (5 * a + b) ∧ F (5 * a + b) ≤ 1000) → AW g mX6_comesTo (d + 1) 15 [(4, .int (iZ i)), (0, .ref mo), (1, .int (iZ to)), (2, .int (iZ r)), (3, .int (iZ c))] [] V0 sz (VX V0 sz (ETb mo) (fun q V' => (some (.int (iZ 1)) = q ∧ okV r c (fun i j => F (5 * i + j)) ∧ RTr g mo V' (upF TH to 1) (upF RR to r) (upF CC to c) (cmN NN to r c F 25) (mdH HH to r 5 1)) ∨ (some (.int (iZ 0)) = q ∧ ¬ okV r c (fun i j => F (5 * i + j)) ∧ V' = V0)))
  | 0, i, hy, hok => by
    refine aw_iload dX6_comesTo_15 (by rfl) ?_
    refine aw_iload_n dX6_comesTo_17 (by rfl) ?_
    refine aw_icmp_geZ (tgt := 62) dX6_comesTo_18 (by decide) (by omega) (by omega) (fun hc_18 => ?_) (fun hc_18 => ?_)
    · refine aw_aload_n dX6_comesTo_62 (by rfl) (Or.inr ⟨_, rfl⟩) ?_
      refine aw_iload_n dX6_comesTo_63 (by rfl) ?_
      refine aw_iload_n dX6_comesTo_64 (by rfl) ?_
      refine aw_iload_n dX6_comesTo_65 (by rfl) ?_
      refine aw_iconstZ dX6_comesTo_66 ?_
      refine aw_callv vX6_134 dX6_comesTo_67 hmo (m_made g d (t := to) (r := r) (c := c) (f := 1) hmo hT hto hr (by omega)) (by rfl) (by rfl) (by omega) (Nat.le_of_ble_eq_true rfl) ?_
      rintro _ V1 _ _ _ ⟨rfl, rfl, rfl, hE1, rfl, u1, u2, u3, u4, u5⟩ -
      refine q0 ?_
      refine aw_iconstZ dX6_comesTo_70 ?_
      refine aw_istore dX6_comesTo_71 (by decide) ?_
      refine aw_pk [4, 0, 1, 2, 3] (by rfl) ?_
      refine (cwo_loop (d + 1) (V0 := V1) (NN := NN) (F := F) hto hr hc ((hE1 _ (by unfold ETb; omega)).trans h15) 5 0 (by omega) ((hE1 _ (by unfold ETb; omega)).trans hmo) (by rw [show 5 * 0 = 0 from rfl, cmN.nil]; exact u4) (fun _ _ => rfl)).mono ?_
      rintro q V' sz' dc ds ⟨rfl, rfl, rfl, hV, rfl, hN⟩
      exact ⟨rfl, rfl, rfl, fun a ha => (hV a (fun z => ha (by unfold ETb; omega))).trans (hE1 a ha), Or.inl ⟨rfl, fun i j hi hj => hok i (by omega) j hj, (hV _ (by omega)).trans u1, (hV _ (by omega)).trans u2, (hV _ (by omega)).trans u3, hN, (hV _ (by omega)).trans u5⟩⟩
    · exact absurd hc_18 (by omega)
  | y + 1, i, hy, hok => by
    have IH := fun i hi => @cco_loop d g V0 mo sz to r c rk kn ar ac TH RR CC NN HH F hmo hT hto hr hc h15 hFr y i hi
    refine aw_iload dX6_comesTo_15 (by rfl) ?_
    refine aw_iload_n dX6_comesTo_17 (by rfl) ?_
    refine aw_icmp_geZ (tgt := 62) dX6_comesTo_18 (by decide) (by omega) (by omega) (fun hc_18 => ?_) (fun hc_18 => ?_)
    · exact absurd hc_18 (by omega)
    · refine aw_iconstZ dX6_comesTo_21 ?_
      refine aw_istore dX6_comesTo_22 (by decide) ?_
      refine aw_pk [5, 4, 0, 1, 2, 3] (by rfl) ?_
      refine cci_loop d (i := i) hmo hT hto hr hc h15 hFr (by omega) (fun hk1 => ?_) c 0 (by omega) (fun k hk => absurd hk (by omega))
      refine aw_iincZ dX6_comesTo_56 (by rfl) (by decide) ?_
      refine aw_goto (tgt := 15) dX6_comesTo_59 (by decide) ?_
      rw [show ((i : Int) + 1) = ((i + 1 : Nat) : Int) by omega]
      refine aw_pk [4, 0, 1, 2, 3] (by rfl) ?_
      exact IH (i + 1) (by omega) (fun a ha b hb => (Nat.lt_or_eq_of_le (Nat.le_of_lt_succ ha)).elim (fun z => hok a z b hb) (fun z => by rw [z]; exact hk1 b hb))
theorem m_comesTo (g : GX) (d : Nat) {V : AH} {mo sz r c : Nat} {zs F : Nat → Int} {S : TSt} {A : ASt} {to : Int} (hR : RX g mo V zs S A) (hto : R32 to) (hr : 1 ≤ r ∧ r ≤ 5) (hc : 1 ≤ c ∧ c ≤ 5) (h15 : V (mo + 15) = some (aIz g 25 F)) (hFr : ∀ i j, i < r → j < c → R32 (F (5 * i + j))) : AMet g mX6_comesTo (d + 1) [.ref mo, .int (iZ to), .int (iZ r), .int (iZ c)] V sz (RE g mo V sz (fun q S' A' => (∃ tn : Nat, tn < 12 ∧ to = (tn : Int) ∧ RK S A tn r c (fun i j => F (5 * i + j)) q S' A') ∨ (¬ (0 ≤ to ∧ to < 12) ∧ some (.int (iZ 0)) = q ∧ S' = S ∧ A' = A))) := by
  obtain ⟨⟨rk, kn, hmo⟩, -, -, -, -, -, hT, -, -, o1, -⟩ := id hR
  obtain ⟨TH, RR, CC, NN, HH, t1, t2, t3, t4, t5, t6⟩ := id hT
  refine AMet.of rfl rfl (Nat.le_of_ble_eq_true rfl) ?_
  show AW g mX6_comesTo (d + 1) 0 [(0, .ref mo), (1, .int (iZ to)), (2, .int (iZ r)), (3, .int (iZ c))] [] V sz _
  refine aw_iload_n dX6_comesTo_0 (by rfl) ?_
  refine aw_if_ltZ (tgt := 10) dX6_comesTo_1 (by decide) hto (fun hc_1 => ?_) (fun hc_1 => ?_)
  · refine aw_iconstZ dX6_comesTo_10 ?_
    refine aw_iret dX6_comesTo_11 rfl (by rfl) ?_
    exact ⟨rfl, rfl, rfl, fun _ _ => rfl, zs, S, A, hR, Or.inr ⟨by omega, rfl, rfl, rfl⟩⟩
  · refine aw_iload_n dX6_comesTo_4 (by rfl) ?_
    refine aw_bipushZ dX6_comesTo_5 (by decide) ?_
    refine aw_icmp_leZ (tgt := 12) dX6_comesTo_7 (by decide) hto (by omega) (fun hc_7 => ?_) (fun hc_7 => ?_)
    · obtain ⟨tn, rfl⟩ : ∃ n : Nat, to = (n : Int) := ⟨to.toNat, by omega⟩
      refine aw_iconstZ dX6_comesTo_12 ?_
      refine aw_istore dX6_comesTo_13 (by decide) ?_
      refine aw_pk [4, 0, 1, 2, 3] (by rfl) ?_
      refine (cco_loop d (to := tn) hmo ⟨t1, t2, t3, t4, t5⟩ (by omega) hr.2 hc.2 h15 hFr r 0 (by omega) (fun a ha => absurd ha (by omega))).mono ?_
      rintro q V' sz' dc ds ⟨rfl, rfl, rfl, hV, ⟨rfl, hok, u1, u2, u3, u4, u5⟩ | ⟨rfl, hbad, rfl⟩⟩
      · have hNk : ∀ i j, i < 5 → j < 5 → cmN NN tn r c F 25 (25 * tn + (5 * i + j)) = if i < r ∧ j < c then F (5 * i + j) else 0 := fun i j hi hj => by
          unfold cmN
          rw [if_pos (by omega), show 25 * tn + (5 * i + j) - 25 * tn = 5 * i + j by omega, show (5 * i + j) / 5 = i by omega, show (5 * i + j) % 5 = j by omega]
        have hHk : ∀ i, i < 5 → mdH HH tn r 5 1 (5 * tn + i) = if i < r then 1 else 0 := fun i hi => by
          unfold mdH
          rw [if_pos (by omega), show 5 * tn + i - 5 * tn = i by omega]
          by_cases e : i < r
          · rw [if_pos ⟨rfl, e⟩, if_pos e]
          · rw [if_neg (fun z => e z.2), if_neg e]
        refine ⟨rfl, rfl, rfl, fun a ha => hV a (fun z => ha (by unfold ETb at z; unfold EM; omega)), zs, upT S tn r c (fun k => cmN NN tn r c F 25 (25 * tn + k)) (fun i => if i < 5 then mdH HH tn r 5 1 (5 * tn + i) else 0), A, hR.tabs (fun a ha => hV a (fun z => ha (Or.inl z))) ⟨F, (hV _ (by unfold ETb; omega)).trans h15⟩ ⟨u1, u2, u3, u4, u5⟩ (RTq.up (S := S) t6 (by omega) (fun k hk => rfl) (fun k hk => ?_) (fun i hi => (if_pos hi).symm) (fun k hk => ?_)) ?_, Or.inl ⟨tn, by omega, rfl, rfl, Or.inl ⟨hok, rfl, _, _, rfl, fun i j hi hj => hNk i j hi hj, fun i hi => ?_⟩⟩⟩
        · unfold cmN; rw [if_neg hk]
        · unfold mdH; rw [if_neg hk]
        · refine o1.up ⟨hr.2, hc.2, Or.inr hc.1, fun k hk => ?_, fun i => ?_, fun i j hi hj hz => ?_, fun i hi hri => ?_⟩
          · have := hNk (k / 5) (k % 5) (by omega) (by omega)
            rw [show 5 * (k / 5) + k % 5 = k by omega] at this
            rw [this]
            split
            · rename_i hh
              have : -1000 ≤ F (5 * (k / 5) + k % 5) ∧ F (5 * (k / 5) + k % 5) ≤ 1000 := hok (k / 5) (k % 5) hh.1 hh.2
              rwa [show 5 * (k / 5) + k % 5 = k by omega] at this
            · omega
          · by_cases e : i < 5
            · rw [if_pos e, hHk i e]; split <;> omega
            · rw [if_neg e]; exact Or.inl rfl
          · rw [hNk i j hi hj]
            rw [if_pos hi, hHk i hi] at hz
            refine if_neg (fun z => ?_)
            rw [if_pos z.1] at hz
            omega
          · rw [if_pos hi, hHk i hi, if_neg (by omega)]
        · show (if i < 5 then mdH HH tn r 5 1 (5 * tn + i) else 0) = _
          rw [if_pos hi]; exact hHk i hi
      · exact ⟨rfl, rfl, rfl, fun _ _ => rfl, zs, S, A, hR, Or.inl ⟨tn, by omega, rfl, rfl, Or.inr ⟨hbad, rfl, rfl⟩⟩⟩
    · refine aw_iconstZ dX6_comesTo_10 ?_
      refine aw_iret dX6_comesTo_11 rfl (by rfl) ?_
      exact ⟨rfl, rfl, rfl, fun _ _ => rfl, zs, S, A, hR, Or.inr ⟨by omega, rfl, rfl, rfl⟩⟩

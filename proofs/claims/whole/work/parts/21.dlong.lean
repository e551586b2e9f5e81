/-! ===== Desk.divideLong: its loop, its end ===== -/
def Fr3 (V V' : AH) (p q : Nat) : Prop := ∀ a, a ≠ p → a ≠ q → V' a = V a
abbrev mX0_divideLong : MI := (yX0_divideLong, cX0_divideLong, 10, (some FieldType.boolean), noX)
theorem dX0_divideLong_0 : decode cX0_divideLong 0 = .ok (.aload_n 2, 1) := by decide +kernel
theorem dX0_divideLong_1 : decode cX0_divideLong 1 = .ok (.getfield 64, 3) := by decide +kernel
theorem dX0_divideLong_4 : decode cX0_divideLong 4 = .ok (.istore 4, 2) := by decide +kernel
theorem dX0_divideLong_6 : decode cX0_divideLong 6 = .ok (.aload_n 1, 1) := by decide +kernel
theorem dX0_divideLong_7 : decode cX0_divideLong 7 = .ok (.getfield 64, 3) := by decide +kernel
theorem dX0_divideLong_10 : decode cX0_divideLong 10 = .ok (.iload 4, 2) := by decide +kernel
theorem dX0_divideLong_12 : decode cX0_divideLong 12 = .ok (.isub, 1) := by decide +kernel
theorem dX0_divideLong_13 : decode cX0_divideLong 13 = .ok (.iconst 1, 1) := by decide +kernel
theorem dX0_divideLong_14 : decode cX0_divideLong 14 = .ok (.iadd, 1) := by decide +kernel
theorem dX0_divideLong_15 : decode cX0_divideLong 15 = .ok (.istore 5, 2) := by decide +kernel
theorem dX0_divideLong_17 : decode cX0_divideLong 17 = .ok (.aload_n 2, 1) := by decide +kernel
theorem dX0_divideLong_18 : decode cX0_divideLong 18 = .ok (.getfield 67, 3) := by decide +kernel
theorem dX0_divideLong_21 : decode cX0_divideLong 21 = .ok (.iload 4, 2) := by decide +kernel
theorem dX0_divideLong_23 : decode cX0_divideLong 23 = .ok (.iconst 1, 1) := by decide +kernel
theorem dX0_divideLong_24 : decode cX0_divideLong 24 = .ok (.isub, 1) := by decide +kernel
theorem dX0_divideLong_25 : decode cX0_divideLong 25 = .ok (.iaload, 1) := by decide +kernel
theorem dX0_divideLong_26 : decode cX0_divideLong 26 = .ok (.invokestatic 71, 3) := by decide +kernel
theorem dX0_divideLong_29 : decode cX0_divideLong 29 = .ok (.iconst 1, 1) := by decide +kernel
theorem dX0_divideLong_30 : decode cX0_divideLong 30 = .ok (.isub, 1) := by decide +kernel
theorem dX0_divideLong_31 : decode cX0_divideLong 31 = .ok (.istore 6, 2) := by decide +kernel
theorem dX0_divideLong_33 : decode cX0_divideLong 33 = .ok (.aload_n 0, 1) := by decide +kernel
theorem dX0_divideLong_34 : decode cX0_divideLong 34 = .ok (.getfield 12, 3) := by decide +kernel
theorem dX0_divideLong_37 : decode cX0_divideLong 37 = .ok (.aload_n 1, 1) := by decide +kernel
theorem dX0_divideLong_38 : decode cX0_divideLong 38 = .ok (.getfield 64, 3) := by decide +kernel
theorem dX0_divideLong_41 : decode cX0_divideLong 41 = .ok (.iconst 1, 1) := by decide +kernel
theorem dX0_divideLong_42 : decode cX0_divideLong 42 = .ok (.iadd, 1) := by decide +kernel
theorem dX0_divideLong_43 : decode cX0_divideLong 43 = .ok (.invokevirtual 77, 3) := by decide +kernel
theorem dX0_divideLong_46 : decode cX0_divideLong 46 = .ok (.aload_n 0, 1) := by decide +kernel
theorem dX0_divideLong_47 : decode cX0_divideLong 47 = .ok (.getfield 12, 3) := by decide +kernel
theorem dX0_divideLong_50 : decode cX0_divideLong 50 = .ok (.aload_n 1, 1) := by decide +kernel
theorem dX0_divideLong_51 : decode cX0_divideLong 51 = .ok (.iload 6, 2) := by decide +kernel
theorem dX0_divideLong_53 : decode cX0_divideLong 53 = .ok (.aload_n 1, 1) := by decide +kernel
theorem dX0_divideLong_54 : decode cX0_divideLong 54 = .ok (.getfield 64, 3) := by decide +kernel
theorem dX0_divideLong_57 : decode cX0_divideLong 57 = .ok (.iconst 1, 1) := by decide +kernel
theorem dX0_divideLong_58 : decode cX0_divideLong 58 = .ok (.iadd, 1) := by decide +kernel
theorem dX0_divideLong_59 : decode cX0_divideLong 59 = .ok (.invokevirtual 81, 3) := by decide +kernel
theorem dX0_divideLong_62 : decode cX0_divideLong 62 = .ok (.aload_n 0, 1) := by decide +kernel
theorem dX0_divideLong_63 : decode cX0_divideLong 63 = .ok (.getfield 18, 3) := by decide +kernel
theorem dX0_divideLong_66 : decode cX0_divideLong 66 = .ok (.iload 4, 2) := by decide +kernel
theorem dX0_divideLong_68 : decode cX0_divideLong 68 = .ok (.invokevirtual 77, 3) := by decide +kernel
theorem dX0_divideLong_71 : decode cX0_divideLong 71 = .ok (.aload_n 0, 1) := by decide +kernel
theorem dX0_divideLong_72 : decode cX0_divideLong 72 = .ok (.getfield 18, 3) := by decide +kernel
theorem dX0_divideLong_75 : decode cX0_divideLong 75 = .ok (.aload_n 2, 1) := by decide +kernel
theorem dX0_divideLong_76 : decode cX0_divideLong 76 = .ok (.iload 6, 2) := by decide +kernel
theorem dX0_divideLong_78 : decode cX0_divideLong 78 = .ok (.iload 4, 2) := by decide +kernel
theorem dX0_divideLong_80 : decode cX0_divideLong 80 = .ok (.invokevirtual 81, 3) := by decide +kernel
theorem dX0_divideLong_83 : decode cX0_divideLong 83 = .ok (.aload_n 3, 1) := by decide +kernel
theorem dX0_divideLong_84 : decode cX0_divideLong 84 = .ok (.iload 5, 2) := by decide +kernel
theorem dX0_divideLong_86 : decode cX0_divideLong 86 = .ok (.invokevirtual 77, 3) := by decide +kernel
theorem dX0_divideLong_89 : decode cX0_divideLong 89 = .ok (.iload 5, 2) := by decide +kernel
theorem dX0_divideLong_91 : decode cX0_divideLong 91 = .ok (.iconst 1, 1) := by decide +kernel
theorem dX0_divideLong_92 : decode cX0_divideLong 92 = .ok (.isub, 1) := by decide +kernel
theorem dX0_divideLong_93 : decode cX0_divideLong 93 = .ok (.istore 7, 2) := by decide +kernel
theorem dX0_divideLong_95 : decode cX0_divideLong 95 = .ok (.iload 7, 2) := by decide +kernel
theorem dX0_divideLong_97 : decode cX0_divideLong 97 = .ok (.ifCond .lt 39, 3) := by decide +kernel
theorem dX0_divideLong_100 : decode cX0_divideLong 100 = .ok (.aload_n 0, 1) := by decide +kernel
theorem dX0_divideLong_101 : decode cX0_divideLong 101 = .ok (.iload 7, 2) := by decide +kernel
theorem dX0_divideLong_103 : decode cX0_divideLong 103 = .ok (.iload 4, 2) := by decide +kernel
theorem dX0_divideLong_105 : decode cX0_divideLong 105 = .ok (.iadd, 1) := by decide +kernel
theorem dX0_divideLong_106 : decode cX0_divideLong 106 = .ok (.iload 4, 2) := by decide +kernel
theorem dX0_divideLong_108 : decode cX0_divideLong 108 = .ok (.invokevirtual 85, 3) := by decide +kernel
theorem dX0_divideLong_111 : decode cX0_divideLong 111 = .ok (.lstore 8, 2) := by decide +kernel
theorem dX0_divideLong_113 : decode cX0_divideLong 113 = .ok (.aload_n 3, 1) := by decide +kernel
theorem dX0_divideLong_114 : decode cX0_divideLong 114 = .ok (.getfield 67, 3) := by decide +kernel
theorem dX0_divideLong_117 : decode cX0_divideLong 117 = .ok (.iload 7, 2) := by decide +kernel
theorem dX0_divideLong_119 : decode cX0_divideLong 119 = .ok (.aload_n 0, 1) := by decide +kernel
theorem dX0_divideLong_120 : decode cX0_divideLong 120 = .ok (.iload 7, 2) := by decide +kernel
theorem dX0_divideLong_122 : decode cX0_divideLong 122 = .ok (.iload 4, 2) := by decide +kernel
theorem dX0_divideLong_124 : decode cX0_divideLong 124 = .ok (.lload 8, 2) := by decide +kernel
theorem dX0_divideLong_126 : decode cX0_divideLong 126 = .ok (.invokevirtual 89, 3) := by decide +kernel
theorem dX0_divideLong_129 : decode cX0_divideLong 129 = .ok (.iastore, 1) := by decide +kernel
theorem dX0_divideLong_130 : decode cX0_divideLong 130 = .ok (.iinc 7 (-1), 3) := by decide +kernel
theorem dX0_divideLong_133 : decode cX0_divideLong 133 = .ok (.goto (-38), 3) := by decide +kernel
theorem dX0_divideLong_136 : decode cX0_divideLong 136 = .ok (.aload_n 3, 1) := by decide +kernel
theorem dX0_divideLong_137 : decode cX0_divideLong 137 = .ok (.iload 5, 2) := by decide +kernel
theorem dX0_divideLong_139 : decode cX0_divideLong 139 = .ok (.putfield 64, 3) := by decide +kernel
theorem dX0_divideLong_142 : decode cX0_divideLong 142 = .ok (.aload_n 3, 1) := by decide +kernel
theorem dX0_divideLong_143 : decode cX0_divideLong 143 = .ok (.invokevirtual 93, 3) := by decide +kernel
theorem dX0_divideLong_146 : decode cX0_divideLong 146 = .ok (.iconst 0, 1) := by decide +kernel
theorem dX0_divideLong_147 : decode cX0_divideLong 147 = .ok (.istore 7, 2) := by decide +kernel
theorem dX0_divideLong_149 : decode cX0_divideLong 149 = .ok (.iload 7, 2) := by decide +kernel
theorem dX0_divideLong_151 : decode cX0_divideLong 151 = .ok (.iload 4, 2) := by decide +kernel
theorem dX0_divideLong_153 : decode cX0_divideLong 153 = .ok (.if_icmp .ge 24, 3) := by decide +kernel
theorem dX0_divideLong_156 : decode cX0_divideLong 156 = .ok (.aload_n 0, 1) := by decide +kernel
theorem dX0_divideLong_157 : decode cX0_divideLong 157 = .ok (.getfield 12, 3) := by decide +kernel
theorem dX0_divideLong_160 : decode cX0_divideLong 160 = .ok (.getfield 67, 3) := by decide +kernel
theorem dX0_divideLong_163 : decode cX0_divideLong 163 = .ok (.iload 7, 2) := by decide +kernel
theorem dX0_divideLong_165 : decode cX0_divideLong 165 = .ok (.iaload, 1) := by decide +kernel
theorem dX0_divideLong_166 : decode cX0_divideLong 166 = .ok (.ifCond .eq 5, 3) := by decide +kernel
theorem dX0_divideLong_169 : decode cX0_divideLong 169 = .ok (.iconst 0, 1) := by decide +kernel
theorem dX0_divideLong_170 : decode cX0_divideLong 170 = .ok (.ireturn, 1) := by decide +kernel
theorem dX0_divideLong_171 : decode cX0_divideLong 171 = .ok (.iinc 7 1, 3) := by decide +kernel
theorem dX0_divideLong_174 : decode cX0_divideLong 174 = .ok (.goto (-25), 3) := by decide +kernel
theorem dX0_divideLong_177 : decode cX0_divideLong 177 = .ok (.iconst 1, 1) := by decide +kernel
theorem dX0_divideLong_178 : decode cX0_divideLong 178 = .ok (.ireturn, 1) := by decide +kernel
theorem dl_loop (g : GX) (d : Nat) {V0 : AH} {sz dk r dv on gr sm fa pr' qq nr pr Lr nd pd Ld nq pq Lq n N : Nat} {sr sd sq v T : Int} {Vd : Nat → Int} {Qc : AQ} (hn0 : 1 ≤ n) (hnd : n ≤ Ld) (hNn : N + n ≤ Lr) (hNq : N ≤ Lq) (hv : v = mg 2147483648 Vd n) (htop : 2147483648 ≤ 2 * Vd (n - 1)) (hkr : dk ≠ pr) (hkq : dk ≠ pq) (hrq : r ≠ pq) (hqr : qq ≠ pr) (hdr : dv ≠ pr) (hpdr : pd ≠ pr) (hdq : dv ≠ pq) (hpdq : pd ≠ pq) (hpqr : pq ≠ pr)
    (hK : ∀ (V : AH) (U Q : Nat → Int), Whl g V r sr nr pr Lr U → Whl g V qq sq nq pq Lq Q → T = v * (mg 2147483648 Q N - mg 2147483648 Q 0) + mg 2147483648 U (0 + n) → mg 2147483648 U (0 + n) < v * 2147483648 ^ 0 → Fr3 V0 V pr pq → AW g mX0_divideLong (d + 3) 136 [(4, .int (iZ n)), (5, .int (iZ N)), (0, .ref dk), (3, .ref qq)] [] V sz Qc) : ∀ (j : Nat), j ≤ N → ∀ {V : AH} {U Q : Nat → Int}, V dk = some (dkO r dv on gr sm fa pr') → Whl g V r sr nr pr Lr U → Whl g V dv sd nd pd Ld Vd → Whl g V qq sq nq pq Lq Q → T = v * (mg 2147483648 Q N - mg 2147483648 Q j) + mg 2147483648 U (j + n) → mg 2147483648 U (j + n) < v * 2147483648 ^ j → Fr3 V0 V pr pq → AW g mX0_divideLong (d + 3) 95 [(7, .int (iZ ((j : Int) - 1))), (4, .int (iZ n)), (5, .int (iZ N)), (0, .ref dk), (3, .ref qq)] [] V sz Qc
  | 0, hj, V, U, Q, hdk, hR, hD, hQ, hI, hlt, hfr => by
    refine aw_iload dX0_divideLong_95 (by rfl) ?_
    refine aw_if_ltZ (tgt := 136) dX0_divideLong_97 (by decide) (by omega) (fun hc_97 => ?_) (fun hc_97 => ?_)
    · refine aw_pk [4, 5, 0, 3] (by rfl) ?_
      exact hK V U Q hR hQ hI hlt hfr
    · exact absurd hc_97 (by omega)
  | p + 1, hj, V, U, Q, hdk, hR, hD, hQ, hI, hlt, hfr => by
    obtain ⟨hr1, hr2, hr3, hr4, hr5, hr6, hU⟩ := id hR
    obtain ⟨hd1, hd2, hd3, hd4, hd5, hd6, hVt⟩ := id hD
    obtain ⟨hq1', hq2', hq3', hq4', hq5', hq6', hQt⟩ := id hQ
    have hWB := dl_win (v := v) (fun k hk => hU k (by omega)) hlt
    obtain ⟨v', W', hKD, hW1, hW2⟩ := kd_of (U := U) (Vd := Vd) (p := p) hn0 (fun k hk => hU k (by omega)) (fun k hk => hVt k (by omega)) hv rfl htop hWB
    refine aw_lv (lv' := [(7, .int (iZ p)), (4, .int (iZ n)), (5, .int (iZ N)), (0, .ref dk), (3, .ref qq)]) (by rw [show ((p + 1 : Nat) : Int) - 1 = (p : Int) by omega]) ?_
    refine aw_iload dX0_divideLong_95 (by rfl) ?_
    refine aw_if_ltZ (tgt := 136) dX0_divideLong_97 (by decide) (by omega) (fun hc_97 => ?_) (fun hc_97 => ?_)
    · exact absurd hc_97 (by omega)
    · refine aw_aload_n dX0_divideLong_100 (by rfl) (Or.inr ⟨_, rfl⟩) ?_
      refine aw_iload dX0_divideLong_101 (by rfl) ?_
      refine aw_iload dX0_divideLong_103 (by rfl) ?_
      refine aw_iaddZ dX0_divideLong_105 ?_
      refine aw_topi (y := ((p + n : Nat) : Int)) (by omega) ?_
      refine aw_iload dX0_divideLong_106 (by rfl) ?_
      refine aw_callv vX0_85 dX0_divideLong_108 (by assumption) (t_guessDigit g (d + 2) (n := n) (t := p + n) hdk hR hD (by omega) hn0 hnd (by omega) hKD rfl (fun h => by rw [if_pos h]) (fun h => by rw [if_neg (by omega)]) rfl rfl (fun h => by rw [if_pos h]) (fun h => by rw [if_neg (by omega)])) (by rfl) (by rfl) (by omega) (Nat.le_of_ble_eq_true rfl) ?_
      rintro _ _ _ _ _ ⟨⟨gq, rfl, hgq, hg1, hg2⟩, rfl, rfl, rfl, rfl⟩ -
      have hWq := hW1 gq hg1
      have hWp := hW2 gq hg2
      clear hg1 hg2
      refine aw_lstore dX0_divideLong_111 (by decide) ?_
      refine aw_aload_n dX0_divideLong_113 (by rfl) (Or.inr ⟨_, rfl⟩) ?_
      refine aw_get fX0_67 dX0_divideLong_114 (by assumption) (by rfl) ?_
      refine aw_iload dX0_divideLong_117 (by rfl) ?_
      refine aw_aload_n dX0_divideLong_119 (by rfl) (Or.inr ⟨_, rfl⟩) ?_
      refine aw_iload dX0_divideLong_120 (by rfl) ?_
      refine aw_iload dX0_divideLong_122 (by rfl) ?_
      refine aw_lload dX0_divideLong_124 (by rfl) ?_
      refine aw_callv vX0_89 dX0_divideLong_126 (by assumption) (t_takeDigit g (d + 2) (j := p) (n := n) (q := gq) hdk hR hD hdr hpdr (by omega) hnd hgq hv rfl hWq hWp hWB) (by rfl) (by rfl) (by omega) (Nat.le_of_ble_eq_true rfl) ?_
      rintro _ V1 _ _ _ ⟨⟨qd, U', rfl, hqd, hWe, hrl, hUl, hR1⟩, hf1, rfl, rfl, rfl⟩ -
      have hQ1 : Whl g V1 qq sq nq pq Lq Q := hQ.kept (hf1 qq hqr) (hf1 pq hpqr)
      have hD1 : Whl g V1 dv sd nd pd Ld Vd := hD.kept (hf1 dv hdr) (hf1 pd hpdr)
      have hdk1 : V1 dk = some (dkO r dv on gr sm fa pr') := (hf1 dk hkr).trans hdk
      obtain ⟨hq1, hqp1, -, -, -, -, hQd⟩ := id hQ1
      obtain ⟨hS1, hS2⟩ := dl_step (S := mg 2147483648 Q N - mg 2147483648 Q (p + 1)) (fun k hk => hR1.2.2.2.2.2.2 k (by omega)) hI hWe hrl (fun i hi => hUl i (Or.inl hi))
      have hmQ : mg 2147483648 (upF Q p qd) N - mg 2147483648 (upF Q p qd) p = mg 2147483648 Q N - mg 2147483648 Q (p + 1) + qd * 2147483648 ^ p := by
        rw [mg_upd (by omega), mg_upF]
        simp only [mg]
        rw [Int.sub_mul]
        omega
      rw [← hmQ] at hS1
      have IH := dl_loop g d (V0 := V0) (T := T) hn0 hnd hNn hNq hv htop hkr hkq hrq hqr hdr hpdr hdq hpdq hpqr hK p (by omega) (V := AHu V1 pq (aIz g Lq (upF Q p qd))) (U := U') (Q := upF Q p qd) (by rw [AHu_ne hkq]; exact hdk1) (hR1.kept (AHu_ne hrq) (AHu_ne hpqr.symm)) (hD1.kept (AHu_ne hdq) (AHu_ne hpdq)) (hQ1.arr (upF_lim hQd hqd)) hS1 hS2 (fun a h1 h2 => by rw [AHu_ne h2]; exact (hf1 a h1).trans (hfr a h1 h2))
      clear hS1 hS2 hmQ hI hlt hK hWe hrl hUl hWq hWp hWB hKD hW1 hW2
      refine aw_iastZ p dX0_divideLong_129 hqp1 (by omega) (by omega) (by omega) ?_
      refine aw_iincZ dX0_divideLong_130 (by rfl) (by decide) ?_
      refine aw_goto (tgt := 95) dX0_divideLong_133 (by decide) ?_
      refine aw_pk [7, 4, 5, 0, 3] (by rfl) ?_
      rw [show (p : Int) + -1 = (p : Int) - 1 by omega]
      exact q0 (q0 IH)
